theorem dX6_begins_0 : decode cX6_begins 0 = .ok (.aload_n 0, 1) := by decide +kernel
theorem dX6_begins_1 : decode cX6_begins 1 = .ok (.aload_n 0, 1) := by decide +kernel
theorem dX6_begins_2 : decode cX6_begins 2 = .ok (.iload_n 1, 1) := by decide +kernel
theorem dX6_begins_3 : decode cX6_begins 3 = .ok (.iconst 4, 1) := by decide +kernel
theorem dX6_begins_4 : decode cX6_begins 4 = .ok (.invokevirtual 44, 3) := by decide +kernel
theorem dX6_begins_7 : decode cX6_begins 7 = .ok (.invokevirtual 66, 3) := by decide +kernel
theorem dX6_begins_10 : decode cX6_begins 10 = .ok (.aload_n 0, 1) := by decide +kernel
theorem dX6_begins_11 : decode cX6_begins 11 = .ok (.getfield 7, 3) := by decide +kernel
theorem dX6_begins_14 : decode cX6_begins 14 = .ok (.iconst 1, 1) := by decide +kernel
theorem dX6_begins_15 : decode cX6_begins 15 = .ok (.iaload, 1) := by decide +kernel
theorem dX6_begins_16 : decode cX6_begins 16 = .ok (.aload_n 0, 1) := by decide +kernel
theorem dX6_begins_17 : decode cX6_begins 17 = .ok (.getfield 7, 3) := by decide +kernel
theorem dX6_begins_20 : decode cX6_begins 20 = .ok (.bipush 9, 2) := by decide +kernel
theorem dX6_begins_22 : decode cX6_begins 22 = .ok (.iaload, 1) := by decide +kernel
theorem dX6_begins_23 : decode cX6_begins 23 = .ok (.if_icmp .lt 7, 3) := by decide +kernel
theorem dX6_begins_26 : decode cX6_begins 26 = .ok (.aload_n 0, 1) := by decide +kernel
theorem dX6_begins_27 : decode cX6_begins 27 = .ok (.invokevirtual 69, 3) := by decide +kernel
theorem dX6_begins_30 : decode cX6_begins 30 = .ok (.aload_n 0, 1) := by decide +kernel
theorem dX6_begins_31 : decode cX6_begins 31 = .ok (.getfield 7, 3) := by decide +kernel
theorem dX6_begins_34 : decode cX6_begins 34 = .ok (.iconst 1, 1) := by decide +kernel
theorem dX6_begins_35 : decode cX6_begins 35 = .ok (.iaload, 1) := by decide +kernel
theorem dX6_begins_36 : decode cX6_begins 36 = .ok (.istore 4, 2) := by decide +kernel
theorem dX6_begins_38 : decode cX6_begins 38 = .ok (.aload_n 0, 1) := by decide +kernel
theorem dX6_begins_39 : decode cX6_begins 39 = .ok (.iload 4, 2) := by decide +kernel
theorem dX6_begins_41 : decode cX6_begins 41 = .ok (.iconst 0, 1) := by decide +kernel
theorem dX6_begins_42 : decode cX6_begins 42 = .ok (.iload_n 1, 1) := by decide +kernel
theorem dX6_begins_43 : decode cX6_begins 43 = .ok (.invokevirtual 72, 3) := by decide +kernel
theorem dX6_begins_46 : decode cX6_begins 46 = .ok (.aload_n 0, 1) := by decide +kernel
theorem dX6_begins_47 : decode cX6_begins 47 = .ok (.iload 4, 2) := by decide +kernel
theorem dX6_begins_49 : decode cX6_begins 49 = .ok (.iconst 1, 1) := by decide +kernel
theorem dX6_begins_50 : decode cX6_begins 50 = .ok (.iload_n 2, 1) := by decide +kernel
theorem dX6_begins_51 : decode cX6_begins 51 = .ok (.invokevirtual 72, 3) := by decide +kernel
theorem dX6_begins_54 : decode cX6_begins 54 = .ok (.aload_n 0, 1) := by decide +kernel
theorem dX6_begins_55 : decode cX6_begins 55 = .ok (.iload 4, 2) := by decide +kernel
theorem dX6_begins_57 : decode cX6_begins 57 = .ok (.iconst 2, 1) := by decide +kernel
theorem dX6_begins_58 : decode cX6_begins 58 = .ok (.iload_n 3, 1) := by decide +kernel
theorem dX6_begins_59 : decode cX6_begins 59 = .ok (.invokevirtual 72, 3) := by decide +kernel
theorem dX6_begins_62 : decode cX6_begins 62 = .ok (.aload_n 0, 1) := by decide +kernel
theorem dX6_begins_63 : decode cX6_begins 63 = .ok (.iload 4, 2) := by decide +kernel
theorem dX6_begins_65 : decode cX6_begins 65 = .ok (.iconst 3, 1) := by decide +kernel
theorem dX6_begins_66 : decode cX6_begins 66 = .ok (.bipush 10, 2) := by decide +kernel
theorem dX6_begins_68 : decode cX6_begins 68 = .ok (.iload_n 3, 1) := by decide +kernel
theorem dX6_begins_69 : decode cX6_begins 69 = .ok (.imul, 1) := by decide +kernel
theorem dX6_begins_70 : decode cX6_begins 70 = .ok (.invokevirtual 72, 3) := by decide +kernel
theorem dX6_begins_73 : decode cX6_begins 73 = .ok (.aload_n 0, 1) := by decide +kernel
theorem dX6_begins_74 : decode cX6_begins 74 = .ok (.iload 4, 2) := by decide +kernel
theorem dX6_begins_76 : decode cX6_begins 76 = .ok (.iconst 4, 1) := by decide +kernel
theorem dX6_begins_77 : decode cX6_begins 77 = .ok (.iconst 0, 1) := by decide +kernel
theorem dX6_begins_78 : decode cX6_begins 78 = .ok (.invokevirtual 72, 3) := by decide +kernel
theorem dX6_begins_81 : decode cX6_begins 81 = .ok (.aload_n 0, 1) := by decide +kernel
theorem dX6_begins_82 : decode cX6_begins 82 = .ok (.iload 4, 2) := by decide +kernel
theorem dX6_begins_84 : decode cX6_begins 84 = .ok (.iconst 5, 1) := by decide +kernel
theorem dX6_begins_85 : decode cX6_begins 85 = .ok (.iconst 0, 1) := by decide +kernel
theorem dX6_begins_86 : decode cX6_begins 86 = .ok (.invokevirtual 72, 3) := by decide +kernel
theorem dX6_begins_89 : decode cX6_begins 89 = .ok (.aload_n 0, 1) := by decide +kernel
theorem dX6_begins_90 : decode cX6_begins 90 = .ok (.iload 4, 2) := by decide +kernel
theorem dX6_begins_92 : decode cX6_begins 92 = .ok (.bipush 6, 2) := by decide +kernel
theorem dX6_begins_94 : decode cX6_begins 94 = .ok (.iconst 1, 1) := by decide +kernel
theorem dX6_begins_95 : decode cX6_begins 95 = .ok (.invokevirtual 72, 3) := by decide +kernel
theorem dX6_begins_98 : decode cX6_begins 98 = .ok (.aload_n 0, 1) := by decide +kernel
theorem dX6_begins_99 : decode cX6_begins 99 = .ok (.getfield 7, 3) := by decide +kernel
theorem dX6_begins_102 : decode cX6_begins 102 = .ok (.iconst 1, 1) := by decide +kernel
theorem dX6_begins_103 : decode cX6_begins 103 = .ok (.dup2, 1) := by decide +kernel
theorem dX6_begins_104 : decode cX6_begins 104 = .ok (.iaload, 1) := by decide +kernel
theorem dX6_begins_105 : decode cX6_begins 105 = .ok (.iconst 1, 1) := by decide +kernel
theorem dX6_begins_106 : decode cX6_begins 106 = .ok (.iadd, 1) := by decide +kernel
theorem dX6_begins_107 : decode cX6_begins 107 = .ok (.iastore, 1) := by decide +kernel
theorem dX6_begins_108 : decode cX6_begins 108 = .ok (.aload_n 0, 1) := by decide +kernel
theorem dX6_begins_109 : decode cX6_begins 109 = .ok (.getfield 7, 3) := by decide +kernel
theorem dX6_begins_112 : decode cX6_begins 112 = .ok (.iconst 4, 1) := by decide +kernel
theorem dX6_begins_113 : decode cX6_begins 113 = .ok (.dup2, 1) := by decide +kernel
theorem dX6_begins_114 : decode cX6_begins 114 = .ok (.iaload, 1) := by decide +kernel
theorem dX6_begins_115 : decode cX6_begins 115 = .ok (.iconst 1, 1) := by decide +kernel
theorem dX6_begins_116 : decode cX6_begins 116 = .ok (.iadd, 1) := by decide +kernel
theorem dX6_begins_117 : decode cX6_begins 117 = .ok (.iastore, 1) := by decide +kernel
theorem dX6_begins_118 : decode cX6_begins 118 = .ok (.return_, 1) := by decide +kernel
set_option maxRecDepth 20000 in
theorem ggX6_goHit_X6_of : GoodIn wsX6_goHit wsX6_of := goodIn_r _ [8, 1, 52, 53, 54, 55, 56, 57, 58, 59, 60, 61, 62, 63, 64, 65, 66, 67, 68] (by decide +kernel) (by decide +kernel)
set_option maxRecDepth 20000 in
theorem gX6_goHit_X6_of : GoodIn wsX6_goHit (wsV RX6 55 RX6 yX6_of wsX6_of) := goodIn_app (goodIn_of _ (by decide +kernel)) ggX6_goHit_X6_of
set_option maxRecDepth 20000 in
theorem ggX6_goHit_X6_lays : GoodIn wsX6_goHit wsX6_lays := goodIn_r _ [12, 1, 52, 53, 54, 55, 56, 57, 58, 59, 60, 61, 62, 63, 64, 65, 66, 67, 68] (by decide +kernel) (by decide +kernel)
set_option maxRecDepth 20000 in
theorem gX6_goHit_X6_lays : GoodIn wsX6_goHit (wsV RX6 72 RX6 yX6_lays wsX6_lays) := goodIn_app (goodIn_of _ (by decide +kernel)) ggX6_goHit_X6_lays
set_option maxRecDepth 20000 in
theorem ggX6_goHit_X6_isSounding : GoodIn wsX6_goHit wsX6_isSounding := goodIn_r _ [16, 1, 17, 18, 19, 7, 20, 21, 22, 23, 24, 25, 26, 27, 28, 29, 30, 31, 52, 53, 54, 55, 56, 57, 58, 59, 60, 61, 62, 63, 64, 65, 66, 67, 68] (by decide +kernel) (by decide +kernel)
set_option maxRecDepth 20000 in
theorem gX6_goHit_X6_isSounding : GoodIn wsX6_goHit (wsV RX6 79 RX6 yX6_isSounding wsX6_isSounding) := goodIn_app (goodIn_of _ (by decide +kernel)) ggX6_goHit_X6_isSounding
set_option maxRecDepth 20000 in
theorem ggX6_goHit_X6_ofRobin : GoodIn wsX6_goHit wsX6_ofRobin := goodIn_r _ [31, 17, 18, 19, 7, 20, 1, 21, 22, 23, 24, 25, 26, 27, 52, 53, 54, 55, 56, 57, 58, 59, 60, 61, 62, 63, 64, 65, 66, 67, 68] (by decide +kernel) (by decide +kernel)
set_option maxRecDepth 20000 in
theorem gX6_goHit_X6_ofRobin : GoodIn wsX6_goHit (wsV RX6 51 RX6 yX6_ofRobin wsX6_ofRobin) := goodIn_app (goodIn_of _ (by decide +kernel)) ggX6_goHit_X6_ofRobin
set_option maxRecDepth 20000 in
theorem ggX6_goHit_X6_begins : GoodIn wsX6_goHit wsX6_begins := goodIn_r _ [35, 1, 17, 18, 19, 7, 20, 36, 37, 38, 39, 4, 5, 6, 8, 40, 41, 42, 43, 44, 45, 46, 47, 48, 49, 50, 51, 9, 10, 11, 12, 52, 53, 54, 55, 56, 57, 58, 59, 60, 61, 62, 63, 64, 65, 66, 67, 68] (by decide +kernel) (by decide +kernel)
set_option maxRecDepth 20000 in
theorem gX6_goHit_X6_begins : GoodIn wsX6_goHit (wsV RX6 82 RX6 yX6_begins wsX6_begins) := goodIn_app (goodIn_of _ (by decide +kernel)) ggX6_goHit_X6_begins
theorem dX6_goHit_0 : decode cX6_goHit 0 = .ok (.iconst 0, 1) := by decide +kernel
theorem dX6_goHit_1 : decode cX6_goHit 1 = .ok (.istore_n 3, 1) := by decide +kernel
theorem dX6_goHit_2 : decode cX6_goHit 2 = .ok (.iload_n 3, 1) := by decide +kernel
theorem dX6_goHit_3 : decode cX6_goHit 3 = .ok (.aload_n 0, 1) := by decide +kernel
theorem dX6_goHit_4 : decode cX6_goHit 4 = .ok (.getfield 7, 3) := by decide +kernel
theorem dX6_goHit_7 : decode cX6_goHit 7 = .ok (.iconst 1, 1) := by decide +kernel
theorem dX6_goHit_8 : decode cX6_goHit 8 = .ok (.iaload, 1) := by decide +kernel
theorem dX6_goHit_9 : decode cX6_goHit 9 = .ok (.if_icmp .ge 56, 3) := by decide +kernel
theorem dX6_goHit_12 : decode cX6_goHit 12 = .ok (.aload_n 0, 1) := by decide +kernel
theorem dX6_goHit_13 : decode cX6_goHit 13 = .ok (.iload_n 3, 1) := by decide +kernel
theorem dX6_goHit_14 : decode cX6_goHit 14 = .ok (.iconst 1, 1) := by decide +kernel
theorem dX6_goHit_15 : decode cX6_goHit 15 = .ok (.invokevirtual 55, 3) := by decide +kernel
theorem dX6_goHit_18 : decode cX6_goHit 18 = .ok (.iload_n 1, 1) := by decide +kernel
theorem dX6_goHit_19 : decode cX6_goHit 19 = .ok (.if_icmp .ne 16, 3) := by decide +kernel
theorem dX6_goHit_22 : decode cX6_goHit 22 = .ok (.aload_n 0, 1) := by decide +kernel
theorem dX6_goHit_23 : decode cX6_goHit 23 = .ok (.iload_n 3, 1) := by decide +kernel
theorem dX6_goHit_24 : decode cX6_goHit 24 = .ok (.iconst 5, 1) := by decide +kernel
theorem dX6_goHit_25 : decode cX6_goHit 25 = .ok (.invokevirtual 55, 3) := by decide +kernel
theorem dX6_goHit_28 : decode cX6_goHit 28 = .ok (.ifCond .ne 7, 3) := by decide +kernel
theorem dX6_goHit_31 : decode cX6_goHit 31 = .ok (.iconst 1, 1) := by decide +kernel
theorem dX6_goHit_32 : decode cX6_goHit 32 = .ok (.goto 4, 3) := by decide +kernel
theorem dX6_goHit_35 : decode cX6_goHit 35 = .ok (.iconst 0, 1) := by decide +kernel
theorem dX6_goHit_36 : decode cX6_goHit 36 = .ok (.istore 4, 2) := by decide +kernel
theorem dX6_goHit_38 : decode cX6_goHit 38 = .ok (.aload_n 0, 1) := by decide +kernel
theorem dX6_goHit_39 : decode cX6_goHit 39 = .ok (.iload_n 3, 1) := by decide +kernel
theorem dX6_goHit_40 : decode cX6_goHit 40 = .ok (.iconst 5, 1) := by decide +kernel
theorem dX6_goHit_41 : decode cX6_goHit 41 = .ok (.iload 4, 2) := by decide +kernel
theorem dX6_goHit_43 : decode cX6_goHit 43 = .ok (.ifCond .eq 7, 3) := by decide +kernel
theorem dX6_goHit_46 : decode cX6_goHit 46 = .ok (.iconst 2, 1) := by decide +kernel
theorem dX6_goHit_47 : decode cX6_goHit 47 = .ok (.goto 9, 3) := by decide +kernel
theorem dX6_goHit_50 : decode cX6_goHit 50 = .ok (.aload_n 0, 1) := by decide +kernel
theorem dX6_goHit_51 : decode cX6_goHit 51 = .ok (.iload_n 3, 1) := by decide +kernel
theorem dX6_goHit_52 : decode cX6_goHit 52 = .ok (.iconst 5, 1) := by decide +kernel
theorem dX6_goHit_53 : decode cX6_goHit 53 = .ok (.invokevirtual 55, 3) := by decide +kernel
theorem dX6_goHit_56 : decode cX6_goHit 56 = .ok (.invokevirtual 72, 3) := by decide +kernel
theorem dX6_goHit_59 : decode cX6_goHit 59 = .ok (.iinc 3 1, 3) := by decide +kernel
theorem dX6_goHit_62 : decode cX6_goHit 62 = .ok (.goto (-60), 3) := by decide +kernel
theorem dX6_goHit_65 : decode cX6_goHit 65 = .ok (.aload_n 0, 1) := by decide +kernel
theorem dX6_goHit_66 : decode cX6_goHit 66 = .ok (.bipush (-4), 2) := by decide +kernel
theorem dX6_goHit_68 : decode cX6_goHit 68 = .ok (.putfield 76, 3) := by decide +kernel
theorem dX6_goHit_71 : decode cX6_goHit 71 = .ok (.aload_n 0, 1) := by decide +kernel
theorem dX6_goHit_72 : decode cX6_goHit 72 = .ok (.getfield 7, 3) := by decide +kernel
theorem dX6_goHit_75 : decode cX6_goHit 75 = .ok (.iconst 0, 1) := by decide +kernel
theorem dX6_goHit_76 : decode cX6_goHit 76 = .ok (.iaload, 1) := by decide +kernel
theorem dX6_goHit_77 : decode cX6_goHit 77 = .ok (.iconst 1, 1) := by decide +kernel
theorem dX6_goHit_78 : decode cX6_goHit 78 = .ok (.isub, 1) := by decide +kernel
theorem dX6_goHit_79 : decode cX6_goHit 79 = .ok (.istore_n 3, 1) := by decide +kernel
theorem dX6_goHit_80 : decode cX6_goHit 80 = .ok (.iload_n 3, 1) := by decide +kernel
theorem dX6_goHit_81 : decode cX6_goHit 81 = .ok (.ifCond .lt 43, 3) := by decide +kernel
theorem dX6_goHit_84 : decode cX6_goHit 84 = .ok (.aload_n 0, 1) := by decide +kernel
theorem dX6_goHit_85 : decode cX6_goHit 85 = .ok (.getfield 25, 3) := by decide +kernel
theorem dX6_goHit_88 : decode cX6_goHit 88 = .ok (.iload_n 3, 1) := by decide +kernel
theorem dX6_goHit_89 : decode cX6_goHit 89 = .ok (.aload_n 0, 1) := by decide +kernel
theorem dX6_goHit_90 : decode cX6_goHit 90 = .ok (.iload_n 3, 1) := by decide +kernel
theorem dX6_goHit_91 : decode cX6_goHit 91 = .ok (.iload_n 1, 1) := by decide +kernel
theorem dX6_goHit_92 : decode cX6_goHit 92 = .ok (.iload_n 2, 1) := by decide +kernel
theorem dX6_goHit_93 : decode cX6_goHit 93 = .ok (.invokevirtual 79, 3) := by decide +kernel
theorem dX6_goHit_96 : decode cX6_goHit 96 = .ok (.bastore, 1) := by decide +kernel
theorem dX6_goHit_97 : decode cX6_goHit 97 = .ok (.aload_n 0, 1) := by decide +kernel
theorem dX6_goHit_98 : decode cX6_goHit 98 = .ok (.aload_n 0, 1) := by decide +kernel
theorem dX6_goHit_99 : decode cX6_goHit 99 = .ok (.getfield 25, 3) := by decide +kernel
theorem dX6_goHit_102 : decode cX6_goHit 102 = .ok (.iload_n 3, 1) := by decide +kernel
theorem dX6_goHit_103 : decode cX6_goHit 103 = .ok (.baload, 1) := by decide +kernel
theorem dX6_goHit_104 : decode cX6_goHit 104 = .ok (.ifCond .eq 7, 3) := by decide +kernel
theorem dX6_goHit_107 : decode cX6_goHit 107 = .ok (.iload_n 3, 1) := by decide +kernel
theorem dX6_goHit_108 : decode cX6_goHit 108 = .ok (.goto 7, 3) := by decide +kernel
theorem dX6_goHit_111 : decode cX6_goHit 111 = .ok (.aload_n 0, 1) := by decide +kernel
theorem dX6_goHit_112 : decode cX6_goHit 112 = .ok (.getfield 76, 3) := by decide +kernel
theorem dX6_goHit_115 : decode cX6_goHit 115 = .ok (.putfield 76, 3) := by decide +kernel
theorem dX6_goHit_118 : decode cX6_goHit 118 = .ok (.iinc 3 (-1), 3) := by decide +kernel
theorem dX6_goHit_121 : decode cX6_goHit 121 = .ok (.goto (-41), 3) := by decide +kernel
theorem dX6_goHit_124 : decode cX6_goHit 124 = .ok (.iconst 1, 1) := by decide +kernel
theorem dX6_goHit_125 : decode cX6_goHit 125 = .ok (.istore_n 3, 1) := by decide +kernel
theorem dX6_goHit_126 : decode cX6_goHit 126 = .ok (.iload_n 3, 1) := by decide +kernel
theorem dX6_goHit_127 : decode cX6_goHit 127 = .ok (.iconst 5, 1) := by decide +kernel
theorem dX6_goHit_128 : decode cX6_goHit 128 = .ok (.if_icmp .ge 44, 3) := by decide +kernel
theorem dX6_goHit_131 : decode cX6_goHit 131 = .ok (.aload_n 0, 1) := by decide +kernel
theorem dX6_goHit_132 : decode cX6_goHit 132 = .ok (.getfield 7, 3) := by decide +kernel
theorem dX6_goHit_135 : decode cX6_goHit 135 = .ok (.bipush 12, 2) := by decide +kernel
theorem dX6_goHit_137 : decode cX6_goHit 137 = .ok (.iload_n 3, 1) := by decide +kernel
theorem dX6_goHit_138 : decode cX6_goHit 138 = .ok (.iadd, 1) := by decide +kernel
theorem dX6_goHit_139 : decode cX6_goHit 139 = .ok (.iconst 1, 1) := by decide +kernel
theorem dX6_goHit_140 : decode cX6_goHit 140 = .ok (.isub, 1) := by decide +kernel
theorem dX6_goHit_141 : decode cX6_goHit 141 = .ok (.dup2, 1) := by decide +kernel
theorem dX6_goHit_142 : decode cX6_goHit 142 = .ok (.iaload, 1) := by decide +kernel
theorem dX6_goHit_143 : decode cX6_goHit 143 = .ok (.aload_n 0, 1) := by decide +kernel
theorem dX6_goHit_144 : decode cX6_goHit 144 = .ok (.iload_n 3, 1) := by decide +kernel
theorem dX6_goHit_145 : decode cX6_goHit 145 = .ok (.aload_n 0, 1) := by decide +kernel
theorem dX6_goHit_146 : decode cX6_goHit 146 = .ok (.getfield 7, 3) := by decide +kernel
theorem dX6_goHit_149 : decode cX6_goHit 149 = .ok (.iconst 0, 1) := by decide +kernel
theorem dX6_goHit_150 : decode cX6_goHit 150 = .ok (.iaload, 1) := by decide +kernel
theorem dX6_goHit_151 : decode cX6_goHit 151 = .ok (.iload_n 1, 1) := by decide +kernel
theorem dX6_goHit_152 : decode cX6_goHit 152 = .ok (.iload_n 2, 1) := by decide +kernel
theorem dX6_goHit_153 : decode cX6_goHit 153 = .ok (.invokevirtual 51, 3) := by decide +kernel
theorem dX6_goHit_156 : decode cX6_goHit 156 = .ok (.ifCond .le 7, 3) := by decide +kernel
theorem dX6_goHit_159 : decode cX6_goHit 159 = .ok (.iconst 1, 1) := by decide +kernel
theorem dX6_goHit_160 : decode cX6_goHit 160 = .ok (.goto 4, 3) := by decide +kernel
theorem dX6_goHit_163 : decode cX6_goHit 163 = .ok (.iconst 0, 1) := by decide +kernel
theorem dX6_goHit_164 : decode cX6_goHit 164 = .ok (.iadd, 1) := by decide +kernel
theorem dX6_goHit_165 : decode cX6_goHit 165 = .ok (.iastore, 1) := by decide +kernel
theorem dX6_goHit_166 : decode cX6_goHit 166 = .ok (.iinc 3 1, 3) := by decide +kernel
theorem dX6_goHit_169 : decode cX6_goHit 169 = .ok (.goto (-43), 3) := by decide +kernel
theorem dX6_goHit_172 : decode cX6_goHit 172 = .ok (.iconst 0, 1) := by decide +kernel
theorem dX6_goHit_173 : decode cX6_goHit 173 = .ok (.istore_n 3, 1) := by decide +kernel
theorem dX6_goHit_174 : decode cX6_goHit 174 = .ok (.iconst 0, 1) := by decide +kernel
theorem dX6_goHit_175 : decode cX6_goHit 175 = .ok (.istore 4, 2) := by decide +kernel
theorem dX6_goHit_177 : decode cX6_goHit 177 = .ok (.iload 4, 2) := by decide +kernel
theorem dX6_goHit_179 : decode cX6_goHit 179 = .ok (.aload_n 0, 1) := by decide +kernel
theorem dX6_goHit_180 : decode cX6_goHit 180 = .ok (.getfield 7, 3) := by decide +kernel
theorem dX6_goHit_183 : decode cX6_goHit 183 = .ok (.iconst 0, 1) := by decide +kernel
theorem dX6_goHit_184 : decode cX6_goHit 184 = .ok (.iaload, 1) := by decide +kernel
theorem dX6_goHit_185 : decode cX6_goHit 185 = .ok (.if_icmp .ge 30, 3) := by decide +kernel
theorem dX6_goHit_188 : decode cX6_goHit 188 = .ok (.aload_n 0, 1) := by decide +kernel
theorem dX6_goHit_189 : decode cX6_goHit 189 = .ok (.getfield 25, 3) := by decide +kernel
theorem dX6_goHit_192 : decode cX6_goHit 192 = .ok (.iload 4, 2) := by decide +kernel
theorem dX6_goHit_194 : decode cX6_goHit 194 = .ok (.baload, 1) := by decide +kernel
theorem dX6_goHit_195 : decode cX6_goHit 195 = .ok (.ifCond .eq 14, 3) := by decide +kernel
theorem dX6_goHit_198 : decode cX6_goHit 198 = .ok (.aload_n 0, 1) := by decide +kernel
theorem dX6_goHit_199 : decode cX6_goHit 199 = .ok (.iload 4, 2) := by decide +kernel
theorem dX6_goHit_201 : decode cX6_goHit 201 = .ok (.iload_n 1, 1) := by decide +kernel
theorem dX6_goHit_202 : decode cX6_goHit 202 = .ok (.iload_n 2, 1) := by decide +kernel
theorem dX6_goHit_203 : decode cX6_goHit 203 = .ok (.invokevirtual 82, 3) := by decide +kernel
theorem dX6_goHit_206 : decode cX6_goHit 206 = .ok (.iinc 3 1, 3) := by decide +kernel
theorem dX6_goHit_209 : decode cX6_goHit 209 = .ok (.iinc 4 1, 3) := by decide +kernel
theorem dX6_goHit_212 : decode cX6_goHit 212 = .ok (.goto (-35), 3) := by decide +kernel
theorem dX6_goHit_215 : decode cX6_goHit 215 = .ok (.iconst 0, 1) := by decide +kernel
theorem dX6_goHit_216 : decode cX6_goHit 216 = .ok (.istore 4, 2) := by decide +kernel
theorem dX6_goHit_218 : decode cX6_goHit 218 = .ok (.iload 4, 2) := by decide +kernel
theorem dX6_goHit_220 : decode cX6_goHit 220 = .ok (.aload_n 0, 1) := by decide +kernel
theorem dX6_goHit_221 : decode cX6_goHit 221 = .ok (.getfield 7, 3) := by decide +kernel
theorem dX6_goHit_224 : decode cX6_goHit 224 = .ok (.iconst 1, 1) := by decide +kernel
theorem dX6_goHit_225 : decode cX6_goHit 225 = .ok (.iaload, 1) := by decide +kernel
theorem dX6_goHit_226 : decode cX6_goHit 226 = .ok (.if_icmp .ge 18, 3) := by decide +kernel
theorem dX6_goHit_229 : decode cX6_goHit 229 = .ok (.aload_n 0, 1) := by decide +kernel
theorem dX6_goHit_230 : decode cX6_goHit 230 = .ok (.iload 4, 2) := by decide +kernel
theorem dX6_goHit_232 : decode cX6_goHit 232 = .ok (.bipush 6, 2) := by decide +kernel
theorem dX6_goHit_234 : decode cX6_goHit 234 = .ok (.iconst 0, 1) := by decide +kernel
theorem dX6_goHit_235 : decode cX6_goHit 235 = .ok (.invokevirtual 72, 3) := by decide +kernel
theorem dX6_goHit_238 : decode cX6_goHit 238 = .ok (.iinc 4 1, 3) := by decide +kernel
theorem dX6_goHit_241 : decode cX6_goHit 241 = .ok (.goto (-23), 3) := by decide +kernel
theorem dX6_goHit_244 : decode cX6_goHit 244 = .ok (.iload_n 3, 1) := by decide +kernel
theorem dX6_goHit_245 : decode cX6_goHit 245 = .ok (.ireturn, 1) := by decide +kernel
set_option maxRecDepth 20000 in
theorem ggX6_goLet_X6_of : GoodIn wsX6_goLet wsX6_of := goodIn_r _ [6, 1, 11, 12, 13, 14, 15, 16, 17, 18, 19, 20, 21, 22, 23, 24, 25, 26, 27] (by decide +kernel) (by decide +kernel)
set_option maxRecDepth 20000 in
theorem gX6_goLet_X6_of : GoodIn wsX6_goLet (wsV RX6 55 RX6 yX6_of wsX6_of) := goodIn_app (goodIn_of _ (by decide +kernel)) ggX6_goLet_X6_of
set_option maxRecDepth 20000 in
theorem ggX6_goLet_X6_lays : GoodIn wsX6_goLet wsX6_lays := goodIn_r _ [10, 1, 11, 12, 13, 14, 15, 16, 17, 18, 19, 20, 21, 22, 23, 24, 25, 26, 27] (by decide +kernel) (by decide +kernel)
set_option maxRecDepth 20000 in
theorem gX6_goLet_X6_lays : GoodIn wsX6_goLet (wsV RX6 72 RX6 yX6_lays wsX6_lays) := goodIn_app (goodIn_of _ (by decide +kernel)) ggX6_goLet_X6_lays
theorem dX6_goLet_0 : decode cX6_goLet 0 = .ok (.iconst 0, 1) := by decide +kernel
theorem dX6_goLet_1 : decode cX6_goLet 1 = .ok (.istore_n 2, 1) := by decide +kernel
theorem dX6_goLet_2 : decode cX6_goLet 2 = .ok (.iconst 0, 1) := by decide +kernel
theorem dX6_goLet_3 : decode cX6_goLet 3 = .ok (.istore_n 3, 1) := by decide +kernel
theorem dX6_goLet_4 : decode cX6_goLet 4 = .ok (.iload_n 3, 1) := by decide +kernel
theorem dX6_goLet_5 : decode cX6_goLet 5 = .ok (.aload_n 0, 1) := by decide +kernel
theorem dX6_goLet_6 : decode cX6_goLet 6 = .ok (.getfield 7, 3) := by decide +kernel
theorem dX6_goLet_9 : decode cX6_goLet 9 = .ok (.iconst 1, 1) := by decide +kernel
theorem dX6_goLet_10 : decode cX6_goLet 10 = .ok (.iaload, 1) := by decide +kernel
theorem dX6_goLet_11 : decode cX6_goLet 11 = .ok (.if_icmp .ge 83, 3) := by decide +kernel
theorem dX6_goLet_14 : decode cX6_goLet 14 = .ok (.aload_n 0, 1) := by decide +kernel
theorem dX6_goLet_15 : decode cX6_goLet 15 = .ok (.iload_n 3, 1) := by decide +kernel
theorem dX6_goLet_16 : decode cX6_goLet 16 = .ok (.iconst 1, 1) := by decide +kernel
theorem dX6_goLet_17 : decode cX6_goLet 17 = .ok (.invokevirtual 55, 3) := by decide +kernel
theorem dX6_goLet_20 : decode cX6_goLet 20 = .ok (.iload_n 1, 1) := by decide +kernel
theorem dX6_goLet_21 : decode cX6_goLet 21 = .ok (.if_icmp .ne 16, 3) := by decide +kernel
theorem dX6_goLet_24 : decode cX6_goLet 24 = .ok (.aload_n 0, 1) := by decide +kernel
theorem dX6_goLet_25 : decode cX6_goLet 25 = .ok (.iload_n 3, 1) := by decide +kernel
theorem dX6_goLet_26 : decode cX6_goLet 26 = .ok (.iconst 5, 1) := by decide +kernel
theorem dX6_goLet_27 : decode cX6_goLet 27 = .ok (.invokevirtual 55, 3) := by decide +kernel
theorem dX6_goLet_30 : decode cX6_goLet 30 = .ok (.ifCond .ne 7, 3) := by decide +kernel
theorem dX6_goLet_33 : decode cX6_goLet 33 = .ok (.iconst 1, 1) := by decide +kernel
theorem dX6_goLet_34 : decode cX6_goLet 34 = .ok (.goto 4, 3) := by decide +kernel
theorem dX6_goLet_37 : decode cX6_goLet 37 = .ok (.iconst 0, 1) := by decide +kernel
theorem dX6_goLet_38 : decode cX6_goLet 38 = .ok (.istore 4, 2) := by decide +kernel
theorem dX6_goLet_40 : decode cX6_goLet 40 = .ok (.aload_n 0, 1) := by decide +kernel
theorem dX6_goLet_41 : decode cX6_goLet 41 = .ok (.iload_n 3, 1) := by decide +kernel
theorem dX6_goLet_42 : decode cX6_goLet 42 = .ok (.iconst 5, 1) := by decide +kernel
theorem dX6_goLet_43 : decode cX6_goLet 43 = .ok (.iload 4, 2) := by decide +kernel
theorem dX6_goLet_45 : decode cX6_goLet 45 = .ok (.ifCond .ne 12, 3) := by decide +kernel
theorem dX6_goLet_48 : decode cX6_goLet 48 = .ok (.aload_n 0, 1) := by decide +kernel
theorem dX6_goLet_49 : decode cX6_goLet 49 = .ok (.iload_n 3, 1) := by decide +kernel
theorem dX6_goLet_50 : decode cX6_goLet 50 = .ok (.iconst 5, 1) := by decide +kernel
theorem dX6_goLet_51 : decode cX6_goLet 51 = .ok (.invokevirtual 55, 3) := by decide +kernel
theorem dX6_goLet_54 : decode cX6_goLet 54 = .ok (.goto 18, 3) := by decide +kernel
theorem dX6_goLet_57 : decode cX6_goLet 57 = .ok (.aload_n 0, 1) := by decide +kernel
theorem dX6_goLet_58 : decode cX6_goLet 58 = .ok (.getfield 7, 3) := by decide +kernel
theorem dX6_goLet_61 : decode cX6_goLet 61 = .ok (.iconst 2, 1) := by decide +kernel
theorem dX6_goLet_62 : decode cX6_goLet 62 = .ok (.iaload, 1) := by decide +kernel
theorem dX6_goLet_63 : decode cX6_goLet 63 = .ok (.iconst 1, 1) := by decide +kernel
theorem dX6_goLet_64 : decode cX6_goLet 64 = .ok (.if_icmp .ne 7, 3) := by decide +kernel
theorem dX6_goLet_67 : decode cX6_goLet 67 = .ok (.iconst 1, 1) := by decide +kernel
theorem dX6_goLet_68 : decode cX6_goLet 68 = .ok (.goto 4, 3) := by decide +kernel
theorem dX6_goLet_71 : decode cX6_goLet 71 = .ok (.iconst 2, 1) := by decide +kernel
theorem dX6_goLet_72 : decode cX6_goLet 72 = .ok (.invokevirtual 72, 3) := by decide +kernel
theorem dX6_goLet_75 : decode cX6_goLet 75 = .ok (.iload_n 2, 1) := by decide +kernel
theorem dX6_goLet_76 : decode cX6_goLet 76 = .ok (.iload 4, 2) := by decide +kernel
theorem dX6_goLet_78 : decode cX6_goLet 78 = .ok (.ifCond .eq 7, 3) := by decide +kernel
theorem dX6_goLet_81 : decode cX6_goLet 81 = .ok (.iconst 1, 1) := by decide +kernel
theorem dX6_goLet_82 : decode cX6_goLet 82 = .ok (.goto 4, 3) := by decide +kernel
theorem dX6_goLet_85 : decode cX6_goLet 85 = .ok (.iconst 0, 1) := by decide +kernel
theorem dX6_goLet_86 : decode cX6_goLet 86 = .ok (.iadd, 1) := by decide +kernel
theorem dX6_goLet_87 : decode cX6_goLet 87 = .ok (.istore_n 2, 1) := by decide +kernel
theorem dX6_goLet_88 : decode cX6_goLet 88 = .ok (.iinc 3 1, 3) := by decide +kernel
theorem dX6_goLet_91 : decode cX6_goLet 91 = .ok (.goto (-87), 3) := by decide +kernel
theorem dX6_goLet_94 : decode cX6_goLet 94 = .ok (.iload_n 2, 1) := by decide +kernel
theorem dX6_goLet_95 : decode cX6_goLet 95 = .ok (.ireturn, 1) := by decide +kernel
set_option maxRecDepth 20000 in
theorem ggX6_goPedal_X6_of : GoodIn wsX6_goPedal wsX6_of := goodIn_r _ [6, 1, 11, 12, 13, 14, 15, 16, 17, 18, 19, 20, 21, 22, 23, 24, 25, 26, 27] (by decide +kernel) (by decide +kernel)
set_option maxRecDepth 20000 in
theorem gX6_goPedal_X6_of : GoodIn wsX6_goPedal (wsV RX6 55 RX6 yX6_of wsX6_of) := goodIn_app (goodIn_of _ (by decide +kernel)) ggX6_goPedal_X6_of
set_option maxRecDepth 20000 in
theorem ggX6_goPedal_X6_lays : GoodIn wsX6_goPedal wsX6_lays := goodIn_r _ [10, 1, 11, 12, 13, 14, 15, 16, 17, 18, 19, 20, 21, 22, 23, 24, 25, 26, 27] (by decide +kernel) (by decide +kernel)
set_option maxRecDepth 20000 in
theorem gX6_goPedal_X6_lays : GoodIn wsX6_goPedal (wsV RX6 72 RX6 yX6_lays wsX6_lays) := goodIn_app (goodIn_of _ (by decide +kernel)) ggX6_goPedal_X6_lays
theorem dX6_goPedal_0 : decode cX6_goPedal 0 = .ok (.iconst 0, 1) := by decide +kernel
theorem dX6_goPedal_1 : decode cX6_goPedal 1 = .ok (.istore_n 1, 1) := by decide +kernel
theorem dX6_goPedal_2 : decode cX6_goPedal 2 = .ok (.iconst 0, 1) := by decide +kernel
theorem dX6_goPedal_3 : decode cX6_goPedal 3 = .ok (.istore_n 2, 1) := by decide +kernel
theorem dX6_goPedal_4 : decode cX6_goPedal 4 = .ok (.iload_n 2, 1) := by decide +kernel
theorem dX6_goPedal_5 : decode cX6_goPedal 5 = .ok (.aload_n 0, 1) := by decide +kernel
theorem dX6_goPedal_6 : decode cX6_goPedal 6 = .ok (.getfield 7, 3) := by decide +kernel
theorem dX6_goPedal_9 : decode cX6_goPedal 9 = .ok (.iconst 1, 1) := by decide +kernel
theorem dX6_goPedal_10 : decode cX6_goPedal 10 = .ok (.iaload, 1) := by decide +kernel
theorem dX6_goPedal_11 : decode cX6_goPedal 11 = .ok (.if_icmp .ge 63, 3) := by decide +kernel
theorem dX6_goPedal_14 : decode cX6_goPedal 14 = .ok (.aload_n 0, 1) := by decide +kernel
theorem dX6_goPedal_15 : decode cX6_goPedal 15 = .ok (.getfield 7, 3) := by decide +kernel
theorem dX6_goPedal_18 : decode cX6_goPedal 18 = .ok (.iconst 2, 1) := by decide +kernel
theorem dX6_goPedal_19 : decode cX6_goPedal 19 = .ok (.iaload, 1) := by decide +kernel
theorem dX6_goPedal_20 : decode cX6_goPedal 20 = .ok (.iconst 1, 1) := by decide +kernel
theorem dX6_goPedal_21 : decode cX6_goPedal 21 = .ok (.if_icmp .ne 53, 3) := by decide +kernel
theorem dX6_goPedal_24 : decode cX6_goPedal 24 = .ok (.iload_n 1, 1) := by decide +kernel
theorem dX6_goPedal_25 : decode cX6_goPedal 25 = .ok (.aload_n 0, 1) := by decide +kernel
theorem dX6_goPedal_26 : decode cX6_goPedal 26 = .ok (.iload_n 2, 1) := by decide +kernel
theorem dX6_goPedal_27 : decode cX6_goPedal 27 = .ok (.iconst 5, 1) := by decide +kernel
theorem dX6_goPedal_28 : decode cX6_goPedal 28 = .ok (.invokevirtual 55, 3) := by decide +kernel
theorem dX6_goPedal_31 : decode cX6_goPedal 31 = .ok (.iconst 1, 1) := by decide +kernel
theorem dX6_goPedal_32 : decode cX6_goPedal 32 = .ok (.if_icmp .ne 7, 3) := by decide +kernel
theorem dX6_goPedal_35 : decode cX6_goPedal 35 = .ok (.iconst 1, 1) := by decide +kernel
theorem dX6_goPedal_36 : decode cX6_goPedal 36 = .ok (.goto 4, 3) := by decide +kernel
theorem dX6_goPedal_39 : decode cX6_goPedal 39 = .ok (.iconst 0, 1) := by decide +kernel
theorem dX6_goPedal_40 : decode cX6_goPedal 40 = .ok (.iadd, 1) := by decide +kernel
theorem dX6_goPedal_41 : decode cX6_goPedal 41 = .ok (.istore_n 1, 1) := by decide +kernel
theorem dX6_goPedal_42 : decode cX6_goPedal 42 = .ok (.aload_n 0, 1) := by decide +kernel
theorem dX6_goPedal_43 : decode cX6_goPedal 43 = .ok (.iload_n 2, 1) := by decide +kernel
theorem dX6_goPedal_44 : decode cX6_goPedal 44 = .ok (.iconst 5, 1) := by decide +kernel
theorem dX6_goPedal_45 : decode cX6_goPedal 45 = .ok (.aload_n 0, 1) := by decide +kernel
theorem dX6_goPedal_46 : decode cX6_goPedal 46 = .ok (.iload_n 2, 1) := by decide +kernel
theorem dX6_goPedal_47 : decode cX6_goPedal 47 = .ok (.iconst 5, 1) := by decide +kernel
theorem dX6_goPedal_48 : decode cX6_goPedal 48 = .ok (.invokevirtual 55, 3) := by decide +kernel
theorem dX6_goPedal_51 : decode cX6_goPedal 51 = .ok (.iconst 1, 1) := by decide +kernel
theorem dX6_goPedal_52 : decode cX6_goPedal 52 = .ok (.if_icmp .ne 7, 3) := by decide +kernel
theorem dX6_goPedal_55 : decode cX6_goPedal 55 = .ok (.iconst 2, 1) := by decide +kernel
theorem dX6_goPedal_56 : decode cX6_goPedal 56 = .ok (.goto 9, 3) := by decide +kernel
theorem dX6_goPedal_59 : decode cX6_goPedal 59 = .ok (.aload_n 0, 1) := by decide +kernel
theorem dX6_goPedal_60 : decode cX6_goPedal 60 = .ok (.iload_n 2, 1) := by decide +kernel
theorem dX6_goPedal_61 : decode cX6_goPedal 61 = .ok (.iconst 5, 1) := by decide +kernel
theorem dX6_goPedal_62 : decode cX6_goPedal 62 = .ok (.invokevirtual 55, 3) := by decide +kernel
theorem dX6_goPedal_65 : decode cX6_goPedal 65 = .ok (.invokevirtual 72, 3) := by decide +kernel
theorem dX6_goPedal_68 : decode cX6_goPedal 68 = .ok (.iinc 2 1, 3) := by decide +kernel
theorem dX6_goPedal_71 : decode cX6_goPedal 71 = .ok (.goto (-67), 3) := by decide +kernel
theorem dX6_goPedal_74 : decode cX6_goPedal 74 = .ok (.aload_n 0, 1) := by decide +kernel
theorem dX6_goPedal_75 : decode cX6_goPedal 75 = .ok (.getfield 7, 3) := by decide +kernel
theorem dX6_goPedal_78 : decode cX6_goPedal 78 = .ok (.iconst 2, 1) := by decide +kernel
theorem dX6_goPedal_79 : decode cX6_goPedal 79 = .ok (.iconst 1, 1) := by decide +kernel
theorem dX6_goPedal_80 : decode cX6_goPedal 80 = .ok (.aload_n 0, 1) := by decide +kernel
theorem dX6_goPedal_81 : decode cX6_goPedal 81 = .ok (.getfield 7, 3) := by decide +kernel
theorem dX6_goPedal_84 : decode cX6_goPedal 84 = .ok (.iconst 2, 1) := by decide +kernel
theorem dX6_goPedal_85 : decode cX6_goPedal 85 = .ok (.iaload, 1) := by decide +kernel
theorem dX6_goPedal_86 : decode cX6_goPedal 86 = .ok (.isub, 1) := by decide +kernel
theorem dX6_goPedal_87 : decode cX6_goPedal 87 = .ok (.iastore, 1) := by decide +kernel
theorem dX6_goPedal_88 : decode cX6_goPedal 88 = .ok (.iload_n 1, 1) := by decide +kernel
theorem dX6_goPedal_89 : decode cX6_goPedal 89 = .ok (.ireturn, 1) := by decide +kernel
set_option maxRecDepth 20000 in
theorem ggX6_tick_X6_of : GoodIn wsX6_tick wsX6_of := goodIn_r _ [6, 1, 19, 20, 21, 22, 23, 24, 25, 26, 27, 28, 29, 30, 31, 32, 33, 34, 35] (by decide +kernel) (by decide +kernel)
set_option maxRecDepth 20000 in
theorem gX6_tick_X6_of : GoodIn wsX6_tick (wsV RX6 55 RX6 yX6_of wsX6_of) := goodIn_app (goodIn_of _ (by decide +kernel)) ggX6_tick_X6_of
set_option maxRecDepth 20000 in
theorem ggX6_tick_X6_lays : GoodIn wsX6_tick wsX6_lays := goodIn_r _ [10, 1, 19, 20, 21, 22, 23, 24, 25, 26, 27, 28, 29, 30, 31, 32, 33, 34, 35] (by decide +kernel) (by decide +kernel)
set_option maxRecDepth 20000 in
theorem gX6_tick_X6_lays : GoodIn wsX6_tick (wsV RX6 72 RX6 yX6_lays wsX6_lays) := goodIn_app (goodIn_of _ (by decide +kernel)) ggX6_tick_X6_lays
set_option maxRecDepth 20000 in
theorem ggX6_tick_X6_ofZone : GoodIn wsX6_tick wsX6_ofZone := goodIn_r _ [14, 1, 19, 20, 21, 22, 23, 24, 25, 26, 27, 28, 29, 30, 31, 32, 33, 34, 35] (by decide +kernel) (by decide +kernel)
set_option maxRecDepth 20000 in
theorem gX6_tick_X6_ofZone : GoodIn wsX6_tick (wsV RX6 44 RX6 yX6_ofZone wsX6_ofZone) := goodIn_app (goodIn_of _ (by decide +kernel)) ggX6_tick_X6_ofZone
set_option maxRecDepth 20000 in
theorem ggX6_tick_X6_dropsVoice : GoodIn wsX6_tick wsX6_dropsVoice := goodIn_r _ [18, 1, 19, 20, 21, 22, 23, 24, 25, 26, 27, 28, 29, 30, 31, 32, 33, 34, 35] (by decide +kernel) (by decide +kernel)
set_option maxRecDepth 20000 in
theorem gX6_tick_X6_dropsVoice : GoodIn wsX6_tick (wsV RX6 62 RX6 yX6_dropsVoice wsX6_dropsVoice) := goodIn_app (goodIn_of _ (by decide +kernel)) ggX6_tick_X6_dropsVoice
theorem dX6_tick_0 : decode cX6_tick 0 = .ok (.aload_n 0, 1) := by decide +kernel
theorem dX6_tick_1 : decode cX6_tick 1 = .ok (.getfield 7, 3) := by decide +kernel
theorem dX6_tick_4 : decode cX6_tick 4 = .ok (.iconst 3, 1) := by decide +kernel
theorem dX6_tick_5 : decode cX6_tick 5 = .ok (.dup2, 1) := by decide +kernel
theorem dX6_tick_6 : decode cX6_tick 6 = .ok (.iaload, 1) := by decide +kernel
theorem dX6_tick_7 : decode cX6_tick 7 = .ok (.iconst 1, 1) := by decide +kernel
theorem dX6_tick_8 : decode cX6_tick 8 = .ok (.iadd, 1) := by decide +kernel
theorem dX6_tick_9 : decode cX6_tick 9 = .ok (.iastore, 1) := by decide +kernel
theorem dX6_tick_10 : decode cX6_tick 10 = .ok (.iconst 0, 1) := by decide +kernel
theorem dX6_tick_11 : decode cX6_tick 11 = .ok (.istore_n 1, 1) := by decide +kernel
theorem dX6_tick_12 : decode cX6_tick 12 = .ok (.iconst 0, 1) := by decide +kernel
theorem dX6_tick_13 : decode cX6_tick 13 = .ok (.istore_n 2, 1) := by decide +kernel
theorem dX6_tick_14 : decode cX6_tick 14 = .ok (.iload_n 2, 1) := by decide +kernel
theorem dX6_tick_15 : decode cX6_tick 15 = .ok (.aload_n 0, 1) := by decide +kernel
theorem dX6_tick_16 : decode cX6_tick 16 = .ok (.getfield 7, 3) := by decide +kernel
theorem dX6_tick_19 : decode cX6_tick 19 = .ok (.iconst 1, 1) := by decide +kernel
theorem dX6_tick_20 : decode cX6_tick 20 = .ok (.iaload, 1) := by decide +kernel
theorem dX6_tick_21 : decode cX6_tick 21 = .ok (.if_icmp .ge 98, 3) := by decide +kernel
theorem dX6_tick_24 : decode cX6_tick 24 = .ok (.aload_n 0, 1) := by decide +kernel
theorem dX6_tick_25 : decode cX6_tick 25 = .ok (.iload_n 2, 1) := by decide +kernel
theorem dX6_tick_26 : decode cX6_tick 26 = .ok (.iconst 4, 1) := by decide +kernel
theorem dX6_tick_27 : decode cX6_tick 27 = .ok (.aload_n 0, 1) := by decide +kernel
theorem dX6_tick_28 : decode cX6_tick 28 = .ok (.iload_n 2, 1) := by decide +kernel
theorem dX6_tick_29 : decode cX6_tick 29 = .ok (.iconst 4, 1) := by decide +kernel
theorem dX6_tick_30 : decode cX6_tick 30 = .ok (.invokevirtual 55, 3) := by decide +kernel
theorem dX6_tick_33 : decode cX6_tick 33 = .ok (.iconst 1, 1) := by decide +kernel
theorem dX6_tick_34 : decode cX6_tick 34 = .ok (.iadd, 1) := by decide +kernel
theorem dX6_tick_35 : decode cX6_tick 35 = .ok (.invokevirtual 72, 3) := by decide +kernel
theorem dX6_tick_38 : decode cX6_tick 38 = .ok (.aload_n 0, 1) := by decide +kernel
theorem dX6_tick_39 : decode cX6_tick 39 = .ok (.iload_n 2, 1) := by decide +kernel
theorem dX6_tick_40 : decode cX6_tick 40 = .ok (.iconst 3, 1) := by decide +kernel
theorem dX6_tick_41 : decode cX6_tick 41 = .ok (.aload_n 0, 1) := by decide +kernel
theorem dX6_tick_42 : decode cX6_tick 42 = .ok (.iload_n 2, 1) := by decide +kernel
theorem dX6_tick_43 : decode cX6_tick 43 = .ok (.iconst 3, 1) := by decide +kernel
theorem dX6_tick_44 : decode cX6_tick 44 = .ok (.invokevirtual 55, 3) := by decide +kernel
theorem dX6_tick_47 : decode cX6_tick 47 = .ok (.aload_n 0, 1) := by decide +kernel
theorem dX6_tick_48 : decode cX6_tick 48 = .ok (.iload_n 2, 1) := by decide +kernel
theorem dX6_tick_49 : decode cX6_tick 49 = .ok (.iconst 5, 1) := by decide +kernel
theorem dX6_tick_50 : decode cX6_tick 50 = .ok (.invokevirtual 55, 3) := by decide +kernel
theorem dX6_tick_53 : decode cX6_tick 53 = .ok (.iconst 2, 1) := by decide +kernel
theorem dX6_tick_54 : decode cX6_tick 54 = .ok (.if_icmp .ne 13, 3) := by decide +kernel
theorem dX6_tick_57 : decode cX6_tick 57 = .ok (.aload_n 0, 1) := by decide +kernel
theorem dX6_tick_58 : decode cX6_tick 58 = .ok (.getfield 7, 3) := by decide +kernel
theorem dX6_tick_61 : decode cX6_tick 61 = .ok (.bipush 11, 2) := by decide +kernel
theorem dX6_tick_63 : decode cX6_tick 63 = .ok (.iaload, 1) := by decide +kernel
theorem dX6_tick_64 : decode cX6_tick 64 = .ok (.goto 4, 3) := by decide +kernel
theorem dX6_tick_67 : decode cX6_tick 67 = .ok (.iconst 1, 1) := by decide +kernel
theorem dX6_tick_68 : decode cX6_tick 68 = .ok (.isub, 1) := by decide +kernel
theorem dX6_tick_69 : decode cX6_tick 69 = .ok (.invokevirtual 72, 3) := by decide +kernel
theorem dX6_tick_72 : decode cX6_tick 72 = .ok (.aload_n 0, 1) := by decide +kernel
theorem dX6_tick_73 : decode cX6_tick 73 = .ok (.iload_n 2, 1) := by decide +kernel
theorem dX6_tick_74 : decode cX6_tick 74 = .ok (.iconst 3, 1) := by decide +kernel
theorem dX6_tick_75 : decode cX6_tick 75 = .ok (.invokevirtual 55, 3) := by decide +kernel
theorem dX6_tick_78 : decode cX6_tick 78 = .ok (.ifCond .le 24, 3) := by decide +kernel
theorem dX6_tick_81 : decode cX6_tick 81 = .ok (.aload_n 0, 1) := by decide +kernel
theorem dX6_tick_82 : decode cX6_tick 82 = .ok (.iload_n 2, 1) := by decide +kernel
theorem dX6_tick_83 : decode cX6_tick 83 = .ok (.iconst 4, 1) := by decide +kernel
theorem dX6_tick_84 : decode cX6_tick 84 = .ok (.invokevirtual 55, 3) := by decide +kernel
theorem dX6_tick_87 : decode cX6_tick 87 = .ok (.aload_n 0, 1) := by decide +kernel
theorem dX6_tick_88 : decode cX6_tick 88 = .ok (.aload_n 0, 1) := by decide +kernel
theorem dX6_tick_89 : decode cX6_tick 89 = .ok (.iload_n 2, 1) := by decide +kernel
theorem dX6_tick_90 : decode cX6_tick 90 = .ok (.iconst 0, 1) := by decide +kernel
theorem dX6_tick_91 : decode cX6_tick 91 = .ok (.invokevirtual 55, 3) := by decide +kernel
theorem dX6_tick_94 : decode cX6_tick 94 = .ok (.bipush 6, 2) := by decide +kernel
theorem dX6_tick_96 : decode cX6_tick 96 = .ok (.invokevirtual 44, 3) := by decide +kernel
theorem dX6_tick_99 : decode cX6_tick 99 = .ok (.if_icmp .lt 14, 3) := by decide +kernel
theorem dX6_tick_102 : decode cX6_tick 102 = .ok (.aload_n 0, 1) := by decide +kernel
theorem dX6_tick_103 : decode cX6_tick 103 = .ok (.iload_n 2, 1) := by decide +kernel
theorem dX6_tick_104 : decode cX6_tick 104 = .ok (.invokevirtual 62, 3) := by decide +kernel
theorem dX6_tick_107 : decode cX6_tick 107 = .ok (.iinc 1 1, 3) := by decide +kernel
theorem dX6_tick_110 : decode cX6_tick 110 = .ok (.goto (-96), 3) := by decide +kernel
theorem dX6_tick_113 : decode cX6_tick 113 = .ok (.iinc 2 1, 3) := by decide +kernel
theorem dX6_tick_116 : decode cX6_tick 116 = .ok (.goto (-102), 3) := by decide +kernel
theorem dX6_tick_119 : decode cX6_tick 119 = .ok (.aload_n 0, 1) := by decide +kernel
theorem dX6_tick_120 : decode cX6_tick 120 = .ok (.getfield 7, 3) := by decide +kernel
theorem dX6_tick_123 : decode cX6_tick 123 = .ok (.iconst 5, 1) := by decide +kernel
theorem dX6_tick_124 : decode cX6_tick 124 = .ok (.dup2, 1) := by decide +kernel
theorem dX6_tick_125 : decode cX6_tick 125 = .ok (.iaload, 1) := by decide +kernel
theorem dX6_tick_126 : decode cX6_tick 126 = .ok (.iload_n 1, 1) := by decide +kernel
theorem dX6_tick_127 : decode cX6_tick 127 = .ok (.iadd, 1) := by decide +kernel
theorem dX6_tick_128 : decode cX6_tick 128 = .ok (.iastore, 1) := by decide +kernel
theorem dX6_tick_129 : decode cX6_tick 129 = .ok (.iload_n 1, 1) := by decide +kernel
theorem dX6_tick_130 : decode cX6_tick 130 = .ok (.ireturn, 1) := by decide +kernel
set_option maxRecDepth 20000 in
theorem ggX6_goPass_X6_tick : GoodIn wsX6_goPass wsX6_tick := goodIn_r _ [5, 6, 7, 8, 9, 4, 10, 11, 12, 13, 14, 15, 16, 17, 18, 19, 20, 21, 22, 23, 24, 25, 26, 27, 28, 29, 30, 31, 32, 33, 34, 35, 36, 37, 38, 39] (by decide +kernel) (by decide +kernel)
set_option maxRecDepth 20000 in
theorem gX6_goPass_X6_tick : GoodIn wsX6_goPass (wsV RX6 85 RX6 yX6_tick wsX6_tick) := goodIn_app (goodIn_of _ (by decide +kernel)) ggX6_goPass_X6_tick
theorem dX6_goPass_0 : decode cX6_goPass 0 = .ok (.iconst 0, 1) := by decide +kernel
theorem dX6_goPass_1 : decode cX6_goPass 1 = .ok (.istore_n 2, 1) := by decide +kernel
theorem dX6_goPass_2 : decode cX6_goPass 2 = .ok (.iconst 0, 1) := by decide +kernel
theorem dX6_goPass_3 : decode cX6_goPass 3 = .ok (.istore_n 3, 1) := by decide +kernel
theorem dX6_goPass_4 : decode cX6_goPass 4 = .ok (.iload_n 3, 1) := by decide +kernel
theorem dX6_goPass_5 : decode cX6_goPass 5 = .ok (.iload_n 1, 1) := by decide +kernel
theorem dX6_goPass_6 : decode cX6_goPass 6 = .ok (.if_icmp .ge 16, 3) := by decide +kernel
theorem dX6_goPass_9 : decode cX6_goPass 9 = .ok (.iload_n 2, 1) := by decide +kernel
theorem dX6_goPass_10 : decode cX6_goPass 10 = .ok (.aload_n 0, 1) := by decide +kernel
theorem dX6_goPass_11 : decode cX6_goPass 11 = .ok (.invokevirtual 85, 3) := by decide +kernel
theorem dX6_goPass_14 : decode cX6_goPass 14 = .ok (.iadd, 1) := by decide +kernel
theorem dX6_goPass_15 : decode cX6_goPass 15 = .ok (.istore_n 2, 1) := by decide +kernel
theorem dX6_goPass_16 : decode cX6_goPass 16 = .ok (.iinc 3 1, 3) := by decide +kernel
theorem dX6_goPass_19 : decode cX6_goPass 19 = .ok (.goto (-15), 3) := by decide +kernel
theorem dX6_goPass_22 : decode cX6_goPass 22 = .ok (.iload_n 2, 1) := by decide +kernel
theorem dX6_goPass_23 : decode cX6_goPass 23 = .ok (.ireturn, 1) := by decide +kernel
set_option maxRecDepth 20000 in
theorem ggX6_addsZone_X6_laysZone : GoodIn wsX6_addsZone wsX6_laysZone := goodIn_r _ [6, 1, 7, 8, 9, 10, 11, 12, 13, 14, 15, 16, 17, 18, 19, 20, 21, 22, 23] (by decide +kernel) (by decide +kernel)
set_option maxRecDepth 20000 in
theorem gX6_addsZone_X6_laysZone : GoodIn wsX6_addsZone (wsV RX6 89 RX6 yX6_laysZone wsX6_laysZone) := goodIn_app (goodIn_of _ (by decide +kernel)) ggX6_addsZone_X6_laysZone
theorem dX6_addsZone_0 : decode cX6_addsZone 0 = .ok (.aload_n 0, 1) := by decide +kernel
theorem dX6_addsZone_1 : decode cX6_addsZone 1 = .ok (.getfield 7, 3) := by decide +kernel
theorem dX6_addsZone_4 : decode cX6_addsZone 4 = .ok (.iconst 0, 1) := by decide +kernel
theorem dX6_addsZone_5 : decode cX6_addsZone 5 = .ok (.iaload, 1) := by decide +kernel
theorem dX6_addsZone_6 : decode cX6_addsZone 6 = .ok (.istore 5, 2) := by decide +kernel
theorem dX6_addsZone_8 : decode cX6_addsZone 8 = .ok (.aload_n 0, 1) := by decide +kernel
theorem dX6_addsZone_9 : decode cX6_addsZone 9 = .ok (.iload 5, 2) := by decide +kernel
theorem dX6_addsZone_11 : decode cX6_addsZone 11 = .ok (.iconst 0, 1) := by decide +kernel
theorem dX6_addsZone_12 : decode cX6_addsZone 12 = .ok (.iload_n 1, 1) := by decide +kernel
theorem dX6_addsZone_13 : decode cX6_addsZone 13 = .ok (.invokevirtual 89, 3) := by decide +kernel
theorem dX6_addsZone_16 : decode cX6_addsZone 16 = .ok (.aload_n 0, 1) := by decide +kernel
theorem dX6_addsZone_17 : decode cX6_addsZone 17 = .ok (.iload 5, 2) := by decide +kernel
theorem dX6_addsZone_19 : decode cX6_addsZone 19 = .ok (.iconst 1, 1) := by decide +kernel
theorem dX6_addsZone_20 : decode cX6_addsZone 20 = .ok (.iload_n 2, 1) := by decide +kernel
theorem dX6_addsZone_21 : decode cX6_addsZone 21 = .ok (.invokevirtual 89, 3) := by decide +kernel
theorem dX6_addsZone_24 : decode cX6_addsZone 24 = .ok (.aload_n 0, 1) := by decide +kernel
theorem dX6_addsZone_25 : decode cX6_addsZone 25 = .ok (.iload 5, 2) := by decide +kernel
theorem dX6_addsZone_27 : decode cX6_addsZone 27 = .ok (.iconst 2, 1) := by decide +kernel
theorem dX6_addsZone_28 : decode cX6_addsZone 28 = .ok (.iload_n 3, 1) := by decide +kernel
theorem dX6_addsZone_29 : decode cX6_addsZone 29 = .ok (.invokevirtual 89, 3) := by decide +kernel
theorem dX6_addsZone_32 : decode cX6_addsZone 32 = .ok (.aload_n 0, 1) := by decide +kernel
theorem dX6_addsZone_33 : decode cX6_addsZone 33 = .ok (.iload 5, 2) := by decide +kernel
theorem dX6_addsZone_35 : decode cX6_addsZone 35 = .ok (.iconst 3, 1) := by decide +kernel
theorem dX6_addsZone_36 : decode cX6_addsZone 36 = .ok (.iload 4, 2) := by decide +kernel
theorem dX6_addsZone_38 : decode cX6_addsZone 38 = .ok (.invokevirtual 89, 3) := by decide +kernel
theorem dX6_addsZone_41 : decode cX6_addsZone 41 = .ok (.aload_n 0, 1) := by decide +kernel
theorem dX6_addsZone_42 : decode cX6_addsZone 42 = .ok (.iload 5, 2) := by decide +kernel
theorem dX6_addsZone_44 : decode cX6_addsZone 44 = .ok (.iconst 4, 1) := by decide +kernel
theorem dX6_addsZone_45 : decode cX6_addsZone 45 = .ok (.iconst 0, 1) := by decide +kernel
theorem dX6_addsZone_46 : decode cX6_addsZone 46 = .ok (.invokevirtual 89, 3) := by decide +kernel
theorem dX6_addsZone_49 : decode cX6_addsZone 49 = .ok (.aload_n 0, 1) := by decide +kernel
theorem dX6_addsZone_50 : decode cX6_addsZone 50 = .ok (.iload 5, 2) := by decide +kernel
theorem dX6_addsZone_52 : decode cX6_addsZone 52 = .ok (.iconst 5, 1) := by decide +kernel
theorem dX6_addsZone_53 : decode cX6_addsZone 53 = .ok (.iconst 0, 1) := by decide +kernel
theorem dX6_addsZone_54 : decode cX6_addsZone 54 = .ok (.invokevirtual 89, 3) := by decide +kernel
theorem dX6_addsZone_57 : decode cX6_addsZone 57 = .ok (.aload_n 0, 1) := by decide +kernel
theorem dX6_addsZone_58 : decode cX6_addsZone 58 = .ok (.iload 5, 2) := by decide +kernel
theorem dX6_addsZone_60 : decode cX6_addsZone 60 = .ok (.bipush 6, 2) := by decide +kernel
theorem dX6_addsZone_62 : decode cX6_addsZone 62 = .ok (.bipush 60, 2) := by decide +kernel
theorem dX6_addsZone_64 : decode cX6_addsZone 64 = .ok (.invokevirtual 89, 3) := by decide +kernel
theorem dX6_addsZone_67 : decode cX6_addsZone 67 = .ok (.aload_n 0, 1) := by decide +kernel
theorem dX6_addsZone_68 : decode cX6_addsZone 68 = .ok (.getfield 7, 3) := by decide +kernel
theorem dX6_addsZone_71 : decode cX6_addsZone 71 = .ok (.iconst 0, 1) := by decide +kernel
theorem dX6_addsZone_72 : decode cX6_addsZone 72 = .ok (.dup2, 1) := by decide +kernel
theorem dX6_addsZone_73 : decode cX6_addsZone 73 = .ok (.iaload, 1) := by decide +kernel
theorem dX6_addsZone_74 : decode cX6_addsZone 74 = .ok (.iconst 1, 1) := by decide +kernel
theorem dX6_addsZone_75 : decode cX6_addsZone 75 = .ok (.iadd, 1) := by decide +kernel
theorem dX6_addsZone_76 : decode cX6_addsZone 76 = .ok (.iastore, 1) := by decide +kernel
theorem dX6_addsZone_77 : decode cX6_addsZone 77 = .ok (.return_, 1) := by decide +kernel
set_option maxRecDepth 20000 in
theorem ggX6_zone_X6_in : GoodIn wsX6_zone wsX6_in := goodIn_r _ [5] (by decide +kernel) (by decide +kernel)
set_option maxRecDepth 20000 in
theorem gX6_zone_X6_in : GoodIn wsX6_zone (va_wsS RX6 40 yX6_in wsX6_in) := goodIn_app (goodIn_of _ (by decide +kernel)) ggX6_zone_X6_in
set_option maxRecDepth 20000 in
theorem ggX6_zone_X6_records : GoodIn wsX6_zone wsX6_records := goodIn_r _ [9, 10, 11, 1, 12, 13, 4, 14, 23, 24, 25, 26, 27, 28, 29, 30, 31, 32, 33, 34, 35, 36, 37, 38, 39] (by decide +kernel) (by decide +kernel)
set_option maxRecDepth 20000 in
theorem gX6_zone_X6_records : GoodIn wsX6_zone (wsV RX6 92 RX6 yX6_records wsX6_records) := goodIn_app (goodIn_of _ (by decide +kernel)) ggX6_zone_X6_records
set_option maxRecDepth 20000 in
theorem ggX6_zone_X6_addsZone : GoodIn wsX6_zone wsX6_addsZone := goodIn_r _ [18, 1, 19, 20, 21, 4, 22, 23, 24, 25, 26, 27, 28, 29, 30, 31, 32, 33, 34, 35, 36, 37, 38, 39] (by decide +kernel) (by decide +kernel)
set_option maxRecDepth 20000 in
theorem gX6_zone_X6_addsZone : GoodIn wsX6_zone (wsV RX6 95 RX6 yX6_addsZone wsX6_addsZone) := goodIn_app (goodIn_of _ (by decide +kernel)) ggX6_zone_X6_addsZone
theorem dX6_zone_0 : decode cX6_zone 0 = .ok (.iload_n 1, 1) := by decide +kernel
theorem dX6_zone_1 : decode cX6_zone 1 = .ok (.iconst 0, 1) := by decide +kernel
theorem dX6_zone_2 : decode cX6_zone 2 = .ok (.bipush 35, 2) := by decide +kernel
theorem dX6_zone_4 : decode cX6_zone 4 = .ok (.invokestatic 40, 3) := by decide +kernel
theorem dX6_zone_7 : decode cX6_zone 7 = .ok (.ifCond .eq 34, 3) := by decide +kernel
theorem dX6_zone_10 : decode cX6_zone 10 = .ok (.iload_n 2, 1) := by decide +kernel
theorem dX6_zone_11 : decode cX6_zone 11 = .ok (.iload_n 1, 1) := by decide +kernel
theorem dX6_zone_12 : decode cX6_zone 12 = .ok (.bipush 35, 2) := by decide +kernel
theorem dX6_zone_14 : decode cX6_zone 14 = .ok (.invokestatic 40, 3) := by decide +kernel
theorem dX6_zone_17 : decode cX6_zone 17 = .ok (.ifCond .eq 24, 3) := by decide +kernel
theorem dX6_zone_20 : decode cX6_zone 20 = .ok (.iload_n 3, 1) := by decide +kernel
theorem dX6_zone_21 : decode cX6_zone 21 = .ok (.iconst 1, 1) := by decide +kernel
theorem dX6_zone_22 : decode cX6_zone 22 = .ok (.bipush 9, 2) := by decide +kernel
theorem dX6_zone_24 : decode cX6_zone 24 = .ok (.invokestatic 40, 3) := by decide +kernel
theorem dX6_zone_27 : decode cX6_zone 27 = .ok (.ifCond .eq 14, 3) := by decide +kernel
theorem dX6_zone_30 : decode cX6_zone 30 = .ok (.iload 4, 2) := by decide +kernel
theorem dX6_zone_32 : decode cX6_zone 32 = .ok (.iload_n 3, 1) := by decide +kernel
theorem dX6_zone_33 : decode cX6_zone 33 = .ok (.bipush 9, 2) := by decide +kernel
theorem dX6_zone_35 : decode cX6_zone 35 = .ok (.invokestatic 40, 3) := by decide +kernel
theorem dX6_zone_38 : decode cX6_zone 38 = .ok (.ifCond .ne 5, 3) := by decide +kernel
theorem dX6_zone_41 : decode cX6_zone 41 = .ok (.iconst (-1), 1) := by decide +kernel
theorem dX6_zone_42 : decode cX6_zone 42 = .ok (.ireturn, 1) := by decide +kernel
theorem dX6_zone_43 : decode cX6_zone 43 = .ok (.aload_n 0, 1) := by decide +kernel
theorem dX6_zone_44 : decode cX6_zone 44 = .ok (.getfield 7, 3) := by decide +kernel
theorem dX6_zone_47 : decode cX6_zone 47 = .ok (.iconst 0, 1) := by decide +kernel
theorem dX6_zone_48 : decode cX6_zone 48 = .ok (.iaload, 1) := by decide +kernel
theorem dX6_zone_49 : decode cX6_zone 49 = .ok (.bipush 10, 2) := by decide +kernel
theorem dX6_zone_51 : decode cX6_zone 51 = .ok (.if_icmp .ne 6, 3) := by decide +kernel
theorem dX6_zone_54 : decode cX6_zone 54 = .ok (.bipush (-3), 2) := by decide +kernel
theorem dX6_zone_56 : decode cX6_zone 56 = .ok (.ireturn, 1) := by decide +kernel
theorem dX6_zone_57 : decode cX6_zone 57 = .ok (.aload_n 0, 1) := by decide +kernel
theorem dX6_zone_58 : decode cX6_zone 58 = .ok (.invokevirtual 92, 3) := by decide +kernel
theorem dX6_zone_61 : decode cX6_zone 61 = .ok (.aload_n 0, 1) := by decide +kernel
theorem dX6_zone_62 : decode cX6_zone 62 = .ok (.iload_n 1, 1) := by decide +kernel
theorem dX6_zone_63 : decode cX6_zone 63 = .ok (.iload_n 2, 1) := by decide +kernel
theorem dX6_zone_64 : decode cX6_zone 64 = .ok (.iload_n 3, 1) := by decide +kernel
theorem dX6_zone_65 : decode cX6_zone 65 = .ok (.iload 4, 2) := by decide +kernel
theorem dX6_zone_67 : decode cX6_zone 67 = .ok (.invokevirtual 95, 3) := by decide +kernel
theorem dX6_zone_70 : decode cX6_zone 70 = .ok (.aload_n 0, 1) := by decide +kernel
theorem dX6_zone_71 : decode cX6_zone 71 = .ok (.getfield 7, 3) := by decide +kernel
theorem dX6_zone_74 : decode cX6_zone 74 = .ok (.iconst 0, 1) := by decide +kernel
theorem dX6_zone_75 : decode cX6_zone 75 = .ok (.iaload, 1) := by decide +kernel
theorem dX6_zone_76 : decode cX6_zone 76 = .ok (.iconst 1, 1) := by decide +kernel
theorem dX6_zone_77 : decode cX6_zone 77 = .ok (.isub, 1) := by decide +kernel
theorem dX6_zone_78 : decode cX6_zone 78 = .ok (.ireturn, 1) := by decide +kernel
set_option maxRecDepth 20000 in
theorem ggX6_like_X6_isZone : GoodIn wsX6_like wsX6_isZone := goodIn_r _ [6, 1, 7, 8, 5, 9, 27, 28, 29, 30, 31, 32, 33, 34, 35, 36, 37, 38, 39, 40, 41, 42, 43] (by decide +kernel) (by decide +kernel)
set_option maxRecDepth 20000 in
theorem gX6_like_X6_isZone : GoodIn wsX6_like (wsV RX6 99 RX6 yX6_isZone wsX6_isZone) := goodIn_app (goodIn_of _ (by decide +kernel)) ggX6_like_X6_isZone
set_option maxRecDepth 20000 in
theorem ggX6_like_X6_in : GoodIn wsX6_like wsX6_in := goodIn_r _ [9] (by decide +kernel) (by decide +kernel)
set_option maxRecDepth 20000 in
theorem gX6_like_X6_in : GoodIn wsX6_like (va_wsS RX6 40 yX6_in wsX6_in) := goodIn_app (goodIn_of _ (by decide +kernel)) ggX6_like_X6_in
set_option maxRecDepth 20000 in
theorem ggX6_like_X6_records : GoodIn wsX6_like wsX6_records := goodIn_r _ [13, 14, 15, 1, 16, 17, 5, 18, 27, 28, 29, 30, 31, 32, 33, 34, 35, 36, 37, 38, 39, 40, 41, 42, 43] (by decide +kernel) (by decide +kernel)
set_option maxRecDepth 20000 in
theorem gX6_like_X6_records : GoodIn wsX6_like (wsV RX6 92 RX6 yX6_records wsX6_records) := goodIn_app (goodIn_of _ (by decide +kernel)) ggX6_like_X6_records
set_option maxRecDepth 20000 in
theorem ggX6_like_X6_laysZone : GoodIn wsX6_like wsX6_laysZone := goodIn_r _ [22, 1, 27, 28, 29, 30, 31, 32, 33, 34, 35, 36, 37, 38, 39, 40, 41, 42, 43] (by decide +kernel) (by decide +kernel)
set_option maxRecDepth 20000 in
theorem gX6_like_X6_laysZone : GoodIn wsX6_like (wsV RX6 89 RX6 yX6_laysZone wsX6_laysZone) := goodIn_app (goodIn_of _ (by decide +kernel)) ggX6_like_X6_laysZone
set_option maxRecDepth 20000 in
theorem ggX6_like_X6_ofZone : GoodIn wsX6_like wsX6_ofZone := goodIn_r _ [26, 1, 27, 28, 29, 30, 31, 32, 33, 34, 35, 36, 37, 38, 39, 40, 41, 42, 43] (by decide +kernel) (by decide +kernel)
set_option maxRecDepth 20000 in
theorem gX6_like_X6_ofZone : GoodIn wsX6_like (wsV RX6 44 RX6 yX6_ofZone wsX6_ofZone) := goodIn_app (goodIn_of _ (by decide +kernel)) ggX6_like_X6_ofZone
theorem dX6_like_0 : decode cX6_like 0 = .ok (.aload_n 0, 1) := by decide +kernel
theorem dX6_like_1 : decode cX6_like 1 = .ok (.iload_n 1, 1) := by decide +kernel
theorem dX6_like_2 : decode cX6_like 2 = .ok (.invokevirtual 99, 3) := by decide +kernel
theorem dX6_like_5 : decode cX6_like 5 = .ok (.ifCond .eq 32, 3) := by decide +kernel
theorem dX6_like_8 : decode cX6_like 8 = .ok (.iload_n 2, 1) := by decide +kernel
theorem dX6_like_9 : decode cX6_like 9 = .ok (.iconst 0, 1) := by decide +kernel
theorem dX6_like_10 : decode cX6_like 10 = .ok (.iconst 3, 1) := by decide +kernel
theorem dX6_like_11 : decode cX6_like 11 = .ok (.invokestatic 40, 3) := by decide +kernel
theorem dX6_like_14 : decode cX6_like 14 = .ok (.ifCond .eq 23, 3) := by decide +kernel
theorem dX6_like_17 : decode cX6_like 17 = .ok (.iload_n 3, 1) := by decide +kernel
theorem dX6_like_18 : decode cX6_like 18 = .ok (.iconst 0, 1) := by decide +kernel
theorem dX6_like_19 : decode cX6_like 19 = .ok (.iconst 4, 1) := by decide +kernel
theorem dX6_like_20 : decode cX6_like 20 = .ok (.invokestatic 40, 3) := by decide +kernel
theorem dX6_like_23 : decode cX6_like 23 = .ok (.ifCond .eq 14, 3) := by decide +kernel
theorem dX6_like_26 : decode cX6_like 26 = .ok (.iload 4, 2) := by decide +kernel
theorem dX6_like_28 : decode cX6_like 28 = .ok (.iconst 1, 1) := by decide +kernel
theorem dX6_like_29 : decode cX6_like 29 = .ok (.bipush 60, 2) := by decide +kernel
theorem dX6_like_31 : decode cX6_like 31 = .ok (.invokestatic 40, 3) := by decide +kernel
theorem dX6_like_34 : decode cX6_like 34 = .ok (.ifCond .ne 5, 3) := by decide +kernel
theorem dX6_like_37 : decode cX6_like 37 = .ok (.iconst (-1), 1) := by decide +kernel
theorem dX6_like_38 : decode cX6_like 38 = .ok (.ireturn, 1) := by decide +kernel
theorem dX6_like_39 : decode cX6_like 39 = .ok (.aload_n 0, 1) := by decide +kernel
theorem dX6_like_40 : decode cX6_like 40 = .ok (.invokevirtual 92, 3) := by decide +kernel
theorem dX6_like_43 : decode cX6_like 43 = .ok (.aload_n 0, 1) := by decide +kernel
theorem dX6_like_44 : decode cX6_like 44 = .ok (.iload_n 1, 1) := by decide +kernel
theorem dX6_like_45 : decode cX6_like 45 = .ok (.iconst 4, 1) := by decide +kernel
theorem dX6_like_46 : decode cX6_like 46 = .ok (.iload_n 2, 1) := by decide +kernel
theorem dX6_like_47 : decode cX6_like 47 = .ok (.invokevirtual 89, 3) := by decide +kernel
theorem dX6_like_50 : decode cX6_like 50 = .ok (.aload_n 0, 1) := by decide +kernel
theorem dX6_like_51 : decode cX6_like 51 = .ok (.iload_n 1, 1) := by decide +kernel
theorem dX6_like_52 : decode cX6_like 52 = .ok (.iconst 5, 1) := by decide +kernel
theorem dX6_like_53 : decode cX6_like 53 = .ok (.iload_n 3, 1) := by decide +kernel
theorem dX6_like_54 : decode cX6_like 54 = .ok (.invokevirtual 89, 3) := by decide +kernel
theorem dX6_like_57 : decode cX6_like 57 = .ok (.aload_n 0, 1) := by decide +kernel
theorem dX6_like_58 : decode cX6_like 58 = .ok (.iload_n 1, 1) := by decide +kernel
theorem dX6_like_59 : decode cX6_like 59 = .ok (.bipush 6, 2) := by decide +kernel
theorem dX6_like_61 : decode cX6_like 61 = .ok (.iload 4, 2) := by decide +kernel
theorem dX6_like_63 : decode cX6_like 63 = .ok (.invokevirtual 89, 3) := by decide +kernel
theorem dX6_like_66 : decode cX6_like 66 = .ok (.iconst 0, 1) := by decide +kernel
theorem dX6_like_67 : decode cX6_like 67 = .ok (.istore 5, 2) := by decide +kernel
theorem dX6_like_69 : decode cX6_like 69 = .ok (.iconst 0, 1) := by decide +kernel
theorem dX6_like_70 : decode cX6_like 70 = .ok (.istore 6, 2) := by decide +kernel
theorem dX6_like_72 : decode cX6_like 72 = .ok (.iload 6, 2) := by decide +kernel
theorem dX6_like_74 : decode cX6_like 74 = .ok (.aload_n 0, 1) := by decide +kernel
theorem dX6_like_75 : decode cX6_like 75 = .ok (.getfield 7, 3) := by decide +kernel
theorem dX6_like_78 : decode cX6_like 78 = .ok (.iconst 0, 1) := by decide +kernel
theorem dX6_like_79 : decode cX6_like 79 = .ok (.iaload, 1) := by decide +kernel
theorem dX6_like_80 : decode cX6_like 80 = .ok (.if_icmp .ge 34, 3) := by decide +kernel
theorem dX6_like_83 : decode cX6_like 83 = .ok (.iload 5, 2) := by decide +kernel
theorem dX6_like_85 : decode cX6_like 85 = .ok (.iload_n 2, 1) := by decide +kernel
theorem dX6_like_86 : decode cX6_like 86 = .ok (.ifCond .le 18, 3) := by decide +kernel
theorem dX6_like_89 : decode cX6_like 89 = .ok (.aload_n 0, 1) := by decide +kernel
theorem dX6_like_90 : decode cX6_like 90 = .ok (.iload 6, 2) := by decide +kernel
theorem dX6_like_92 : decode cX6_like 92 = .ok (.iconst 4, 1) := by decide +kernel
theorem dX6_like_93 : decode cX6_like 93 = .ok (.invokevirtual 44, 3) := by decide +kernel
theorem dX6_like_96 : decode cX6_like 96 = .ok (.iload_n 2, 1) := by decide +kernel
theorem dX6_like_97 : decode cX6_like 97 = .ok (.if_icmp .ne 7, 3) := by decide +kernel
theorem dX6_like_100 : decode cX6_like 100 = .ok (.iconst 1, 1) := by decide +kernel
theorem dX6_like_101 : decode cX6_like 101 = .ok (.goto 4, 3) := by decide +kernel
theorem dX6_like_104 : decode cX6_like 104 = .ok (.iconst 0, 1) := by decide +kernel
theorem dX6_like_105 : decode cX6_like 105 = .ok (.iadd, 1) := by decide +kernel
theorem dX6_like_106 : decode cX6_like 106 = .ok (.istore 5, 2) := by decide +kernel
theorem dX6_like_108 : decode cX6_like 108 = .ok (.iinc 6 1, 3) := by decide +kernel
theorem dX6_like_111 : decode cX6_like 111 = .ok (.goto (-39), 3) := by decide +kernel
theorem dX6_like_114 : decode cX6_like 114 = .ok (.iload 5, 2) := by decide +kernel
theorem dX6_like_116 : decode cX6_like 116 = .ok (.ireturn, 1) := by decide +kernel
set_option maxRecDepth 20000 in
theorem ggX6_takeZone_X6_isZone : GoodIn wsX6_takeZone wsX6_isZone := goodIn_r _ [6, 1, 7, 8, 5, 9, 31, 32, 33, 34, 35, 36, 37, 38, 39, 40, 41, 42, 43, 44, 45, 46, 47] (by decide +kernel) (by decide +kernel)
set_option maxRecDepth 20000 in
theorem gX6_takeZone_X6_isZone : GoodIn wsX6_takeZone (wsV RX6 99 RX6 yX6_isZone wsX6_isZone) := goodIn_app (goodIn_of _ (by decide +kernel)) ggX6_takeZone_X6_isZone
set_option maxRecDepth 20000 in
theorem ggX6_takeZone_X6_records : GoodIn wsX6_takeZone wsX6_records := goodIn_r _ [13, 14, 15, 1, 16, 17, 5, 18, 31, 32, 33, 34, 35, 36, 37, 38, 39, 40, 41, 42, 43, 44, 45, 46, 47] (by decide +kernel) (by decide +kernel)
set_option maxRecDepth 20000 in
theorem gX6_takeZone_X6_records : GoodIn wsX6_takeZone (wsV RX6 92 RX6 yX6_records wsX6_records) := goodIn_app (goodIn_of _ (by decide +kernel)) ggX6_takeZone_X6_records
set_option maxRecDepth 20000 in
theorem ggX6_takeZone_X6_of : GoodIn wsX6_takeZone wsX6_of := goodIn_r _ [22, 1, 31, 32, 33, 34, 35, 36, 37, 38, 39, 40, 41, 42, 43, 44, 45, 46, 47] (by decide +kernel) (by decide +kernel)
set_option maxRecDepth 20000 in
theorem gX6_takeZone_X6_of : GoodIn wsX6_takeZone (wsV RX6 55 RX6 yX6_of wsX6_of) := goodIn_app (goodIn_of _ (by decide +kernel)) ggX6_takeZone_X6_of
set_option maxRecDepth 20000 in
theorem ggX6_takeZone_X6_dropsVoice : GoodIn wsX6_takeZone wsX6_dropsVoice := goodIn_r _ [26, 1, 31, 32, 33, 34, 35, 36, 37, 38, 39, 40, 41, 42, 43, 44, 45, 46, 47] (by decide +kernel) (by decide +kernel)
set_option maxRecDepth 20000 in
theorem gX6_takeZone_X6_dropsVoice : GoodIn wsX6_takeZone (wsV RX6 62 RX6 yX6_dropsVoice wsX6_dropsVoice) := goodIn_app (goodIn_of _ (by decide +kernel)) ggX6_takeZone_X6_dropsVoice
set_option maxRecDepth 20000 in
theorem ggX6_takeZone_X6_lays : GoodIn wsX6_takeZone wsX6_lays := goodIn_r _ [30, 1, 31, 32, 33, 34, 35, 36, 37, 38, 39, 40, 41, 42, 43, 44, 45, 46, 47] (by decide +kernel) (by decide +kernel)
set_option maxRecDepth 20000 in
theorem gX6_takeZone_X6_lays : GoodIn wsX6_takeZone (wsV RX6 72 RX6 yX6_lays wsX6_lays) := goodIn_app (goodIn_of _ (by decide +kernel)) ggX6_takeZone_X6_lays
theorem dX6_takeZone_0 : decode cX6_takeZone 0 = .ok (.aload_n 0, 1) := by decide +kernel
theorem dX6_takeZone_1 : decode cX6_takeZone 1 = .ok (.iload_n 1, 1) := by decide +kernel
theorem dX6_takeZone_2 : decode cX6_takeZone 2 = .ok (.invokevirtual 99, 3) := by decide +kernel
theorem dX6_takeZone_5 : decode cX6_takeZone 5 = .ok (.ifCond .ne 5, 3) := by decide +kernel
theorem dX6_takeZone_8 : decode cX6_takeZone 8 = .ok (.iconst (-1), 1) := by decide +kernel
theorem dX6_takeZone_9 : decode cX6_takeZone 9 = .ok (.ireturn, 1) := by decide +kernel
theorem dX6_takeZone_10 : decode cX6_takeZone 10 = .ok (.aload_n 0, 1) := by decide +kernel
theorem dX6_takeZone_11 : decode cX6_takeZone 11 = .ok (.invokevirtual 92, 3) := by decide +kernel
theorem dX6_takeZone_14 : decode cX6_takeZone 14 = .ok (.iconst 0, 1) := by decide +kernel
theorem dX6_takeZone_15 : decode cX6_takeZone 15 = .ok (.istore_n 2, 1) := by decide +kernel
theorem dX6_takeZone_16 : decode cX6_takeZone 16 = .ok (.iconst 0, 1) := by decide +kernel
theorem dX6_takeZone_17 : decode cX6_takeZone 17 = .ok (.istore_n 3, 1) := by decide +kernel
theorem dX6_takeZone_18 : decode cX6_takeZone 18 = .ok (.iload_n 3, 1) := by decide +kernel
theorem dX6_takeZone_19 : decode cX6_takeZone 19 = .ok (.aload_n 0, 1) := by decide +kernel
theorem dX6_takeZone_20 : decode cX6_takeZone 20 = .ok (.getfield 7, 3) := by decide +kernel
theorem dX6_takeZone_23 : decode cX6_takeZone 23 = .ok (.iconst 1, 1) := by decide +kernel
theorem dX6_takeZone_24 : decode cX6_takeZone 24 = .ok (.iaload, 1) := by decide +kernel
theorem dX6_takeZone_25 : decode cX6_takeZone 25 = .ok (.if_icmp .ge 63, 3) := by decide +kernel
theorem dX6_takeZone_28 : decode cX6_takeZone 28 = .ok (.aload_n 0, 1) := by decide +kernel
theorem dX6_takeZone_29 : decode cX6_takeZone 29 = .ok (.iload_n 3, 1) := by decide +kernel
theorem dX6_takeZone_30 : decode cX6_takeZone 30 = .ok (.iconst 0, 1) := by decide +kernel
theorem dX6_takeZone_31 : decode cX6_takeZone 31 = .ok (.invokevirtual 55, 3) := by decide +kernel
theorem dX6_takeZone_34 : decode cX6_takeZone 34 = .ok (.iload_n 1, 1) := by decide +kernel
theorem dX6_takeZone_35 : decode cX6_takeZone 35 = .ok (.if_icmp .ne 14, 3) := by decide +kernel
theorem dX6_takeZone_38 : decode cX6_takeZone 38 = .ok (.aload_n 0, 1) := by decide +kernel
theorem dX6_takeZone_39 : decode cX6_takeZone 39 = .ok (.iload_n 3, 1) := by decide +kernel
theorem dX6_takeZone_40 : decode cX6_takeZone 40 = .ok (.invokevirtual 62, 3) := by decide +kernel
theorem dX6_takeZone_43 : decode cX6_takeZone 43 = .ok (.iinc 2 1, 3) := by decide +kernel
theorem dX6_takeZone_46 : decode cX6_takeZone 46 = .ok (.goto (-28), 3) := by decide +kernel
theorem dX6_takeZone_49 : decode cX6_takeZone 49 = .ok (.aload_n 0, 1) := by decide +kernel
theorem dX6_takeZone_50 : decode cX6_takeZone 50 = .ok (.iload_n 3, 1) := by decide +kernel
theorem dX6_takeZone_51 : decode cX6_takeZone 51 = .ok (.iconst 0, 1) := by decide +kernel
theorem dX6_takeZone_52 : decode cX6_takeZone 52 = .ok (.aload_n 0, 1) := by decide +kernel
theorem dX6_takeZone_53 : decode cX6_takeZone 53 = .ok (.iload_n 3, 1) := by decide +kernel
theorem dX6_takeZone_54 : decode cX6_takeZone 54 = .ok (.iconst 0, 1) := by decide +kernel
theorem dX6_takeZone_55 : decode cX6_takeZone 55 = .ok (.invokevirtual 55, 3) := by decide +kernel
theorem dX6_takeZone_58 : decode cX6_takeZone 58 = .ok (.iload_n 1, 1) := by decide +kernel
theorem dX6_takeZone_59 : decode cX6_takeZone 59 = .ok (.if_icmp .le 14, 3) := by decide +kernel
theorem dX6_takeZone_62 : decode cX6_takeZone 62 = .ok (.aload_n 0, 1) := by decide +kernel
theorem dX6_takeZone_63 : decode cX6_takeZone 63 = .ok (.iload_n 3, 1) := by decide +kernel
theorem dX6_takeZone_64 : decode cX6_takeZone 64 = .ok (.iconst 0, 1) := by decide +kernel
theorem dX6_takeZone_65 : decode cX6_takeZone 65 = .ok (.invokevirtual 55, 3) := by decide +kernel
theorem dX6_takeZone_68 : decode cX6_takeZone 68 = .ok (.iconst 1, 1) := by decide +kernel
theorem dX6_takeZone_69 : decode cX6_takeZone 69 = .ok (.isub, 1) := by decide +kernel
theorem dX6_takeZone_70 : decode cX6_takeZone 70 = .ok (.goto 9, 3) := by decide +kernel
theorem dX6_takeZone_73 : decode cX6_takeZone 73 = .ok (.aload_n 0, 1) := by decide +kernel
theorem dX6_takeZone_74 : decode cX6_takeZone 74 = .ok (.iload_n 3, 1) := by decide +kernel
theorem dX6_takeZone_75 : decode cX6_takeZone 75 = .ok (.iconst 0, 1) := by decide +kernel
theorem dX6_takeZone_76 : decode cX6_takeZone 76 = .ok (.invokevirtual 55, 3) := by decide +kernel
theorem dX6_takeZone_79 : decode cX6_takeZone 79 = .ok (.invokevirtual 72, 3) := by decide +kernel
theorem dX6_takeZone_82 : decode cX6_takeZone 82 = .ok (.iinc 3 1, 3) := by decide +kernel
theorem dX6_takeZone_85 : decode cX6_takeZone 85 = .ok (.goto (-67), 3) := by decide +kernel
theorem dX6_takeZone_88 : decode cX6_takeZone 88 = .ok (.aload_n 0, 1) := by decide +kernel
theorem dX6_takeZone_89 : decode cX6_takeZone 89 = .ok (.getfield 7, 3) := by decide +kernel
theorem dX6_takeZone_92 : decode cX6_takeZone 92 = .ok (.bipush 8, 2) := by decide +kernel
theorem dX6_takeZone_94 : decode cX6_takeZone 94 = .ok (.dup2, 1) := by decide +kernel
theorem dX6_takeZone_95 : decode cX6_takeZone 95 = .ok (.iaload, 1) := by decide +kernel
theorem dX6_takeZone_96 : decode cX6_takeZone 96 = .ok (.iload_n 2, 1) := by decide +kernel
theorem dX6_takeZone_97 : decode cX6_takeZone 97 = .ok (.iadd, 1) := by decide +kernel
theorem dX6_takeZone_98 : decode cX6_takeZone 98 = .ok (.iastore, 1) := by decide +kernel
theorem dX6_takeZone_99 : decode cX6_takeZone 99 = .ok (.aload_n 0, 1) := by decide +kernel
theorem dX6_takeZone_100 : decode cX6_takeZone 100 = .ok (.getfield 7, 3) := by decide +kernel
theorem dX6_takeZone_103 : decode cX6_takeZone 103 = .ok (.iconst 0, 1) := by decide +kernel
theorem dX6_takeZone_104 : decode cX6_takeZone 104 = .ok (.dup2, 1) := by decide +kernel
theorem dX6_takeZone_105 : decode cX6_takeZone 105 = .ok (.iaload, 1) := by decide +kernel
theorem dX6_takeZone_106 : decode cX6_takeZone 106 = .ok (.iconst 1, 1) := by decide +kernel
theorem dX6_takeZone_107 : decode cX6_takeZone 107 = .ok (.isub, 1) := by decide +kernel
theorem dX6_takeZone_108 : decode cX6_takeZone 108 = .ok (.iastore, 1) := by decide +kernel
theorem dX6_takeZone_109 : decode cX6_takeZone 109 = .ok (.bipush 16, 2) := by decide +kernel
theorem dX6_takeZone_111 : decode cX6_takeZone 111 = .ok (.bipush 7, 2) := by decide +kernel
theorem dX6_takeZone_113 : decode cX6_takeZone 113 = .ok (.iload_n 1, 1) := by decide +kernel
theorem dX6_takeZone_114 : decode cX6_takeZone 114 = .ok (.imul, 1) := by decide +kernel
theorem dX6_takeZone_115 : decode cX6_takeZone 115 = .ok (.iadd, 1) := by decide +kernel
theorem dX6_takeZone_116 : decode cX6_takeZone 116 = .ok (.istore 4, 2) := by decide +kernel
theorem dX6_takeZone_118 : decode cX6_takeZone 118 = .ok (.iload 4, 2) := by decide +kernel
theorem dX6_takeZone_120 : decode cX6_takeZone 120 = .ok (.bipush 86, 2) := by decide +kernel
theorem dX6_takeZone_122 : decode cX6_takeZone 122 = .ok (.if_icmp .ge 40, 3) := by decide +kernel
theorem dX6_takeZone_125 : decode cX6_takeZone 125 = .ok (.aload_n 0, 1) := by decide +kernel
theorem dX6_takeZone_126 : decode cX6_takeZone 126 = .ok (.getfield 7, 3) := by decide +kernel
theorem dX6_takeZone_129 : decode cX6_takeZone 129 = .ok (.iload 4, 2) := by decide +kernel
theorem dX6_takeZone_131 : decode cX6_takeZone 131 = .ok (.iload 4, 2) := by decide +kernel
theorem dX6_takeZone_133 : decode cX6_takeZone 133 = .ok (.bipush 7, 2) := by decide +kernel
theorem dX6_takeZone_135 : decode cX6_takeZone 135 = .ok (.iadd, 1) := by decide +kernel
theorem dX6_takeZone_136 : decode cX6_takeZone 136 = .ok (.bipush 86, 2) := by decide +kernel
theorem dX6_takeZone_138 : decode cX6_takeZone 138 = .ok (.if_icmp .ge 16, 3) := by decide +kernel
theorem dX6_takeZone_141 : decode cX6_takeZone 141 = .ok (.aload_n 0, 1) := by decide +kernel
theorem dX6_takeZone_142 : decode cX6_takeZone 142 = .ok (.getfield 7, 3) := by decide +kernel
theorem dX6_takeZone_145 : decode cX6_takeZone 145 = .ok (.iload 4, 2) := by decide +kernel
theorem dX6_takeZone_147 : decode cX6_takeZone 147 = .ok (.bipush 7, 2) := by decide +kernel
theorem dX6_takeZone_149 : decode cX6_takeZone 149 = .ok (.iadd, 1) := by decide +kernel
theorem dX6_takeZone_150 : decode cX6_takeZone 150 = .ok (.iaload, 1) := by decide +kernel
theorem dX6_takeZone_151 : decode cX6_takeZone 151 = .ok (.goto 4, 3) := by decide +kernel
theorem dX6_takeZone_154 : decode cX6_takeZone 154 = .ok (.iconst 0, 1) := by decide +kernel
theorem dX6_takeZone_155 : decode cX6_takeZone 155 = .ok (.iastore, 1) := by decide +kernel
theorem dX6_takeZone_156 : decode cX6_takeZone 156 = .ok (.iinc 4 1, 3) := by decide +kernel
theorem dX6_takeZone_159 : decode cX6_takeZone 159 = .ok (.goto (-41), 3) := by decide +kernel
theorem dX6_takeZone_162 : decode cX6_takeZone 162 = .ok (.iload_n 2, 1) := by decide +kernel
theorem dX6_takeZone_163 : decode cX6_takeZone 163 = .ok (.ireturn, 1) := by decide +kernel
set_option maxRecDepth 20000 in
theorem ggX6_isNote_X6_in : GoodIn wsX6_isNote wsX6_in := goodIn_r _ [4] (by decide +kernel) (by decide +kernel)
set_option maxRecDepth 20000 in
theorem gX6_isNote_X6_in : GoodIn wsX6_isNote (va_wsS RX6 40 yX6_in wsX6_in) := goodIn_app (goodIn_of _ (by decide +kernel)) ggX6_isNote_X6_in
theorem dX6_isNote_0 : decode cX6_isNote 0 = .ok (.iload_n 0, 1) := by decide +kernel
theorem dX6_isNote_1 : decode cX6_isNote 1 = .ok (.iconst 0, 1) := by decide +kernel
theorem dX6_isNote_2 : decode cX6_isNote 2 = .ok (.bipush 35, 2) := by decide +kernel
theorem dX6_isNote_4 : decode cX6_isNote 4 = .ok (.invokestatic 40, 3) := by decide +kernel
theorem dX6_isNote_7 : decode cX6_isNote 7 = .ok (.ifCond .eq 17, 3) := by decide +kernel
theorem dX6_isNote_10 : decode cX6_isNote 10 = .ok (.iload_n 1, 1) := by decide +kernel
theorem dX6_isNote_11 : decode cX6_isNote 11 = .ok (.iconst 1, 1) := by decide +kernel
theorem dX6_isNote_12 : decode cX6_isNote 12 = .ok (.bipush 9, 2) := by decide +kernel
theorem dX6_isNote_14 : decode cX6_isNote 14 = .ok (.invokestatic 40, 3) := by decide +kernel
theorem dX6_isNote_17 : decode cX6_isNote 17 = .ok (.ifCond .eq 7, 3) := by decide +kernel
theorem dX6_isNote_20 : decode cX6_isNote 20 = .ok (.iconst 1, 1) := by decide +kernel
theorem dX6_isNote_21 : decode cX6_isNote 21 = .ok (.goto 4, 3) := by decide +kernel
theorem dX6_isNote_24 : decode cX6_isNote 24 = .ok (.iconst 0, 1) := by decide +kernel
theorem dX6_isNote_25 : decode cX6_isNote 25 = .ok (.ireturn, 1) := by decide +kernel
set_option maxRecDepth 20000 in
theorem ggX6_hit_X6_isNote : GoodIn wsX6_hit wsX6_isNote := goodIn_r _ [4, 5, 6, 3, 7] (by decide +kernel) (by decide +kernel)
set_option maxRecDepth 20000 in
theorem gX6_hit_X6_isNote : GoodIn wsX6_hit (va_wsS RX6 103 yX6_isNote wsX6_isNote) := goodIn_app (goodIn_of _ (by decide +kernel)) ggX6_hit_X6_isNote
set_option maxRecDepth 20000 in
theorem ggX6_hit_X6_records : GoodIn wsX6_hit wsX6_records := goodIn_r _ [11, 12, 13, 14, 15, 16, 3, 17, 68, 69, 70, 71, 72, 73, 74, 75, 76, 77, 78, 79, 80, 81, 82, 83, 84] (by decide +kernel) (by decide +kernel)
set_option maxRecDepth 20000 in
theorem gX6_hit_X6_records : GoodIn wsX6_hit (wsV RX6 92 RX6 yX6_records wsX6_records) := goodIn_app (goodIn_of _ (by decide +kernel)) ggX6_hit_X6_records
set_option maxRecDepth 20000 in
theorem ggX6_hit_X6_goHit : GoodIn wsX6_hit wsX6_goHit := goodIn_r _ [21, 14, 22, 23, 24, 25, 26, 3, 27, 28, 29, 30, 31, 32, 33, 34, 35, 36, 37, 38, 39, 40, 41, 42, 43, 5, 6, 7, 44, 45, 46, 47, 48, 49, 50, 51, 52, 53, 54, 55, 56, 57, 58, 59, 60, 61, 62, 63, 64, 65, 66, 67, 68, 69, 70, 71, 72, 73, 74, 75, 76, 77, 78, 79, 80, 81, 82, 83, 84] (by decide +kernel) (by decide +kernel)
set_option maxRecDepth 20000 in
theorem gX6_hit_X6_goHit : GoodIn wsX6_hit (wsV RX6 107 RX6 yX6_goHit wsX6_goHit) := goodIn_app (goodIn_of _ (by decide +kernel)) ggX6_hit_X6_goHit
theorem dX6_hit_0 : decode cX6_hit 0 = .ok (.iload_n 1, 1) := by decide +kernel
theorem dX6_hit_1 : decode cX6_hit 1 = .ok (.iload_n 2, 1) := by decide +kernel
theorem dX6_hit_2 : decode cX6_hit 2 = .ok (.invokestatic 103, 3) := by decide +kernel
theorem dX6_hit_5 : decode cX6_hit 5 = .ok (.ifCond .ne 5, 3) := by decide +kernel
theorem dX6_hit_8 : decode cX6_hit 8 = .ok (.iconst (-1), 1) := by decide +kernel
theorem dX6_hit_9 : decode cX6_hit 9 = .ok (.ireturn, 1) := by decide +kernel
theorem dX6_hit_10 : decode cX6_hit 10 = .ok (.aload_n 0, 1) := by decide +kernel
theorem dX6_hit_11 : decode cX6_hit 11 = .ok (.invokevirtual 92, 3) := by decide +kernel
theorem dX6_hit_14 : decode cX6_hit 14 = .ok (.aload_n 0, 1) := by decide +kernel
theorem dX6_hit_15 : decode cX6_hit 15 = .ok (.iload_n 1, 1) := by decide +kernel
theorem dX6_hit_16 : decode cX6_hit 16 = .ok (.iload_n 2, 1) := by decide +kernel
theorem dX6_hit_17 : decode cX6_hit 17 = .ok (.invokevirtual 107, 3) := by decide +kernel
theorem dX6_hit_20 : decode cX6_hit 20 = .ok (.ireturn, 1) := by decide +kernel
set_option maxRecDepth 20000 in
theorem ggX6_letGo_X6_in : GoodIn wsX6_letGo wsX6_in := goodIn_r _ [4] (by decide +kernel) (by decide +kernel)
set_option maxRecDepth 20000 in
theorem gX6_letGo_X6_in : GoodIn wsX6_letGo (va_wsS RX6 40 yX6_in wsX6_in) := goodIn_app (goodIn_of _ (by decide +kernel)) ggX6_letGo_X6_in
set_option maxRecDepth 20000 in
theorem ggX6_letGo_X6_records : GoodIn wsX6_letGo wsX6_records := goodIn_r _ [8, 9, 10, 11, 12, 13, 3, 14, 27, 28, 29, 30, 31, 32, 33, 34, 35, 36, 37, 38, 39, 40, 41, 42, 43] (by decide +kernel) (by decide +kernel)
set_option maxRecDepth 20000 in
theorem gX6_letGo_X6_records : GoodIn wsX6_letGo (wsV RX6 92 RX6 yX6_records wsX6_records) := goodIn_app (goodIn_of _ (by decide +kernel)) ggX6_letGo_X6_records
set_option maxRecDepth 20000 in
theorem ggX6_letGo_X6_goLet : GoodIn wsX6_letGo wsX6_goLet := goodIn_r _ [18, 11, 19, 20, 21, 3, 22, 23, 24, 25, 26, 27, 28, 29, 30, 31, 32, 33, 34, 35, 36, 37, 38, 39, 40, 41, 42, 43] (by decide +kernel) (by decide +kernel)
set_option maxRecDepth 20000 in
theorem gX6_letGo_X6_goLet : GoodIn wsX6_letGo (wsV RX6 110 RX6 yX6_goLet wsX6_goLet) := goodIn_app (goodIn_of _ (by decide +kernel)) ggX6_letGo_X6_goLet
theorem dX6_letGo_0 : decode cX6_letGo 0 = .ok (.iload_n 1, 1) := by decide +kernel
theorem dX6_letGo_1 : decode cX6_letGo 1 = .ok (.iconst 0, 1) := by decide +kernel
theorem dX6_letGo_2 : decode cX6_letGo 2 = .ok (.bipush 35, 2) := by decide +kernel
theorem dX6_letGo_4 : decode cX6_letGo 4 = .ok (.invokestatic 40, 3) := by decide +kernel
theorem dX6_letGo_7 : decode cX6_letGo 7 = .ok (.ifCond .ne 5, 3) := by decide +kernel
theorem dX6_letGo_10 : decode cX6_letGo 10 = .ok (.iconst (-1), 1) := by decide +kernel
theorem dX6_letGo_11 : decode cX6_letGo 11 = .ok (.ireturn, 1) := by decide +kernel
theorem dX6_letGo_12 : decode cX6_letGo 12 = .ok (.aload_n 0, 1) := by decide +kernel
theorem dX6_letGo_13 : decode cX6_letGo 13 = .ok (.invokevirtual 92, 3) := by decide +kernel
theorem dX6_letGo_16 : decode cX6_letGo 16 = .ok (.aload_n 0, 1) := by decide +kernel
theorem dX6_letGo_17 : decode cX6_letGo 17 = .ok (.iload_n 1, 1) := by decide +kernel
theorem dX6_letGo_18 : decode cX6_letGo 18 = .ok (.invokevirtual 110, 3) := by decide +kernel
theorem dX6_letGo_21 : decode cX6_letGo 21 = .ok (.ireturn, 1) := by decide +kernel
set_option maxRecDepth 20000 in
theorem ggX6_pedal_X6_records : GoodIn wsX6_pedal wsX6_records := goodIn_r _ [5, 6, 7, 8, 9, 10, 4, 11, 24, 25, 26, 27, 28, 29, 30, 31, 32, 33, 34, 35, 36, 37, 38, 39, 40] (by decide +kernel) (by decide +kernel)
set_option maxRecDepth 20000 in
theorem gX6_pedal_X6_records : GoodIn wsX6_pedal (wsV RX6 92 RX6 yX6_records wsX6_records) := goodIn_app (goodIn_of _ (by decide +kernel)) ggX6_pedal_X6_records
set_option maxRecDepth 20000 in
theorem ggX6_pedal_X6_goPedal : GoodIn wsX6_pedal wsX6_goPedal := goodIn_r _ [15, 8, 16, 17, 18, 4, 19, 20, 21, 22, 23, 24, 25, 26, 27, 28, 29, 30, 31, 32, 33, 34, 35, 36, 37, 38, 39, 40] (by decide +kernel) (by decide +kernel)
set_option maxRecDepth 20000 in
theorem gX6_pedal_X6_goPedal : GoodIn wsX6_pedal (wsV RX6 113 RX6 yX6_goPedal wsX6_goPedal) := goodIn_app (goodIn_of _ (by decide +kernel)) ggX6_pedal_X6_goPedal
theorem dX6_pedal_0 : decode cX6_pedal 0 = .ok (.aload_n 0, 1) := by decide +kernel
theorem dX6_pedal_1 : decode cX6_pedal 1 = .ok (.invokevirtual 92, 3) := by decide +kernel
theorem dX6_pedal_4 : decode cX6_pedal 4 = .ok (.aload_n 0, 1) := by decide +kernel
theorem dX6_pedal_5 : decode cX6_pedal 5 = .ok (.invokevirtual 113, 3) := by decide +kernel
theorem dX6_pedal_8 : decode cX6_pedal 8 = .ok (.ireturn, 1) := by decide +kernel
set_option maxRecDepth 20000 in
theorem ggX6_pass_X6_in : GoodIn wsX6_pass wsX6_in := goodIn_r _ [4] (by decide +kernel) (by decide +kernel)
set_option maxRecDepth 20000 in
theorem gX6_pass_X6_in : GoodIn wsX6_pass (va_wsS RX6 40 yX6_in wsX6_in) := goodIn_app (goodIn_of _ (by decide +kernel)) ggX6_pass_X6_in
set_option maxRecDepth 20000 in
theorem ggX6_pass_X6_records : GoodIn wsX6_pass wsX6_records := goodIn_r _ [8, 9, 10, 11, 12, 13, 3, 14, 39, 40, 41, 42, 43, 44, 45, 46, 47, 48, 49, 50, 51, 52, 53, 54, 55] (by decide +kernel) (by decide +kernel)
set_option maxRecDepth 20000 in
theorem gX6_pass_X6_records : GoodIn wsX6_pass (wsV RX6 92 RX6 yX6_records wsX6_records) := goodIn_app (goodIn_of _ (by decide +kernel)) ggX6_pass_X6_records
set_option maxRecDepth 20000 in
theorem ggX6_pass_X6_goPass : GoodIn wsX6_pass wsX6_goPass := goodIn_r _ [18, 19, 20, 21, 3, 22, 11, 23, 24, 25, 26, 27, 28, 29, 30, 31, 32, 33, 34, 35, 36, 37, 38, 39, 40, 41, 42, 43, 44, 45, 46, 47, 48, 49, 50, 51, 52, 53, 54, 55] (by decide +kernel) (by decide +kernel)
set_option maxRecDepth 20000 in
theorem gX6_pass_X6_goPass : GoodIn wsX6_pass (wsV RX6 116 RX6 yX6_goPass wsX6_goPass) := goodIn_app (goodIn_of _ (by decide +kernel)) ggX6_pass_X6_goPass
theorem dX6_pass_0 : decode cX6_pass 0 = .ok (.iload_n 1, 1) := by decide +kernel
theorem dX6_pass_1 : decode cX6_pass 1 = .ok (.iconst 1, 1) := by decide +kernel
theorem dX6_pass_2 : decode cX6_pass 2 = .ok (.bipush 99, 2) := by decide +kernel
theorem dX6_pass_4 : decode cX6_pass 4 = .ok (.invokestatic 40, 3) := by decide +kernel
theorem dX6_pass_7 : decode cX6_pass 7 = .ok (.ifCond .ne 5, 3) := by decide +kernel
theorem dX6_pass_10 : decode cX6_pass 10 = .ok (.iconst (-1), 1) := by decide +kernel
theorem dX6_pass_11 : decode cX6_pass 11 = .ok (.ireturn, 1) := by decide +kernel
theorem dX6_pass_12 : decode cX6_pass 12 = .ok (.aload_n 0, 1) := by decide +kernel
theorem dX6_pass_13 : decode cX6_pass 13 = .ok (.invokevirtual 92, 3) := by decide +kernel
theorem dX6_pass_16 : decode cX6_pass 16 = .ok (.aload_n 0, 1) := by decide +kernel
theorem dX6_pass_17 : decode cX6_pass 17 = .ok (.iload_n 1, 1) := by decide +kernel
theorem dX6_pass_18 : decode cX6_pass 18 = .ok (.invokevirtual 116, 3) := by decide +kernel
theorem dX6_pass_21 : decode cX6_pass 21 = .ok (.ireturn, 1) := by decide +kernel
set_option maxRecDepth 20000 in
theorem ggX6_silence_X6_records : GoodIn wsX6_silence wsX6_records := goodIn_r _ [6, 7, 8, 1, 9, 10, 5, 11, 16, 17, 18, 19, 20, 21, 22, 23, 24, 25, 26, 27, 28, 29, 30, 31, 32] (by decide +kernel) (by decide +kernel)
set_option maxRecDepth 20000 in
theorem gX6_silence_X6_records : GoodIn wsX6_silence (wsV RX6 92 RX6 yX6_records wsX6_records) := goodIn_app (goodIn_of _ (by decide +kernel)) ggX6_silence_X6_records
set_option maxRecDepth 20000 in
theorem ggX6_silence_X6_dropsVoice : GoodIn wsX6_silence wsX6_dropsVoice := goodIn_r _ [15, 1, 16, 17, 18, 19, 20, 21, 22, 23, 24, 25, 26, 27, 28, 29, 30, 31, 32] (by decide +kernel) (by decide +kernel)
set_option maxRecDepth 20000 in
theorem gX6_silence_X6_dropsVoice : GoodIn wsX6_silence (wsV RX6 62 RX6 yX6_dropsVoice wsX6_dropsVoice) := goodIn_app (goodIn_of _ (by decide +kernel)) ggX6_silence_X6_dropsVoice
theorem dX6_silence_0 : decode cX6_silence 0 = .ok (.aload_n 0, 1) := by decide +kernel
theorem dX6_silence_1 : decode cX6_silence 1 = .ok (.invokevirtual 92, 3) := by decide +kernel
theorem dX6_silence_4 : decode cX6_silence 4 = .ok (.aload_n 0, 1) := by decide +kernel
theorem dX6_silence_5 : decode cX6_silence 5 = .ok (.getfield 7, 3) := by decide +kernel
theorem dX6_silence_8 : decode cX6_silence 8 = .ok (.iconst 1, 1) := by decide +kernel
theorem dX6_silence_9 : decode cX6_silence 9 = .ok (.iaload, 1) := by decide +kernel
theorem dX6_silence_10 : decode cX6_silence 10 = .ok (.istore_n 1, 1) := by decide +kernel
theorem dX6_silence_11 : decode cX6_silence 11 = .ok (.aload_n 0, 1) := by decide +kernel
theorem dX6_silence_12 : decode cX6_silence 12 = .ok (.getfield 7, 3) := by decide +kernel
theorem dX6_silence_15 : decode cX6_silence 15 = .ok (.iconst 1, 1) := by decide +kernel
theorem dX6_silence_16 : decode cX6_silence 16 = .ok (.iaload, 1) := by decide +kernel
theorem dX6_silence_17 : decode cX6_silence 17 = .ok (.ifCond .le 11, 3) := by decide +kernel
theorem dX6_silence_20 : decode cX6_silence 20 = .ok (.aload_n 0, 1) := by decide +kernel
theorem dX6_silence_21 : decode cX6_silence 21 = .ok (.iconst 0, 1) := by decide +kernel
theorem dX6_silence_22 : decode cX6_silence 22 = .ok (.invokevirtual 62, 3) := by decide +kernel
theorem dX6_silence_25 : decode cX6_silence 25 = .ok (.goto (-14), 3) := by decide +kernel
theorem dX6_silence_28 : decode cX6_silence 28 = .ok (.aload_n 0, 1) := by decide +kernel
theorem dX6_silence_29 : decode cX6_silence 29 = .ok (.getfield 7, 3) := by decide +kernel
theorem dX6_silence_32 : decode cX6_silence 32 = .ok (.bipush 8, 2) := by decide +kernel
theorem dX6_silence_34 : decode cX6_silence 34 = .ok (.dup2, 1) := by decide +kernel
theorem dX6_silence_35 : decode cX6_silence 35 = .ok (.iaload, 1) := by decide +kernel
theorem dX6_silence_36 : decode cX6_silence 36 = .ok (.iload_n 1, 1) := by decide +kernel
theorem dX6_silence_37 : decode cX6_silence 37 = .ok (.iadd, 1) := by decide +kernel
theorem dX6_silence_38 : decode cX6_silence 38 = .ok (.iastore, 1) := by decide +kernel
theorem dX6_silence_39 : decode cX6_silence 39 = .ok (.iload_n 1, 1) := by decide +kernel
theorem dX6_silence_40 : decode cX6_silence 40 = .ok (.ireturn, 1) := by decide +kernel
theorem dX6_leastOf_0 : decode cX6_leastOf 0 = .ok (.iload_n 0, 1) := by decide +kernel
theorem dX6_leastOf_1 : decode cX6_leastOf 1 = .ok (.iconst 1, 1) := by decide +kernel
theorem dX6_leastOf_2 : decode cX6_leastOf 2 = .ok (.if_icmp .ne 7, 3) := by decide +kernel
theorem dX6_leastOf_5 : decode cX6_leastOf 5 = .ok (.iconst 0, 1) := by decide +kernel
theorem dX6_leastOf_6 : decode cX6_leastOf 6 = .ok (.goto 4, 3) := by decide +kernel
theorem dX6_leastOf_9 : decode cX6_leastOf 9 = .ok (.iconst 1, 1) := by decide +kernel
theorem dX6_leastOf_10 : decode cX6_leastOf 10 = .ok (.ireturn, 1) := by decide +kernel
theorem dX6_mostOf_0 : decode cX6_mostOf 0 = .ok (.iload_n 0, 1) := by decide +kernel
theorem dX6_mostOf_1 : decode cX6_mostOf 1 = .ok (.ifCond .ne 8, 3) := by decide +kernel
theorem dX6_mostOf_4 : decode cX6_mostOf 4 = .ok (.bipush 8, 2) := by decide +kernel
theorem dX6_mostOf_6 : decode cX6_mostOf 6 = .ok (.goto 14, 3) := by decide +kernel
theorem dX6_mostOf_9 : decode cX6_mostOf 9 = .ok (.iload_n 0, 1) := by decide +kernel
theorem dX6_mostOf_10 : decode cX6_mostOf 10 = .ok (.iconst 1, 1) := by decide +kernel
theorem dX6_mostOf_11 : decode cX6_mostOf 11 = .ok (.if_icmp .ne 7, 3) := by decide +kernel
theorem dX6_mostOf_14 : decode cX6_mostOf 14 = .ok (.iconst 2, 1) := by decide +kernel
theorem dX6_mostOf_15 : decode cX6_mostOf 15 = .ok (.goto 5, 3) := by decide +kernel
theorem dX6_mostOf_18 : decode cX6_mostOf 18 = .ok (.bipush 50, 2) := by decide +kernel
theorem dX6_mostOf_20 : decode cX6_mostOf 20 = .ok (.ireturn, 1) := by decide +kernel
set_option maxRecDepth 20000 in
theorem ggX6_set_X6_in : GoodIn wsX6_set wsX6_in := goodIn_r _ [5] (by decide +kernel) (by decide +kernel)
set_option maxRecDepth 20000 in
theorem gX6_set_X6_in : GoodIn wsX6_set (va_wsS RX6 40 yX6_in wsX6_in) := goodIn_app (goodIn_of _ (by decide +kernel)) ggX6_set_X6_in
set_option maxRecDepth 20000 in
theorem ggX6_set_X6_leastOf : GoodIn wsX6_set wsX6_leastOf := goodIn_r _ [8] (by decide +kernel) (by decide +kernel)
set_option maxRecDepth 20000 in
theorem gX6_set_X6_leastOf : GoodIn wsX6_set (va_wsS RX6 119 yX6_leastOf wsX6_leastOf) := goodIn_app (goodIn_of _ (by decide +kernel)) ggX6_set_X6_leastOf
set_option maxRecDepth 20000 in
theorem ggX6_set_X6_mostOf : GoodIn wsX6_set wsX6_mostOf := goodIn_r _ [11] (by decide +kernel) (by decide +kernel)
set_option maxRecDepth 20000 in
theorem gX6_set_X6_mostOf : GoodIn wsX6_set (va_wsS RX6 122 yX6_mostOf wsX6_mostOf) := goodIn_app (goodIn_of _ (by decide +kernel)) ggX6_set_X6_mostOf
set_option maxRecDepth 20000 in
theorem ggX6_set_X6_records : GoodIn wsX6_set wsX6_records := goodIn_r _ [15, 16, 17, 1, 18, 19, 4, 20, 37, 38, 39, 40, 41, 42, 43, 44, 45, 46, 47, 48, 49, 50, 51, 52, 53] (by decide +kernel) (by decide +kernel)
set_option maxRecDepth 20000 in
theorem gX6_set_X6_records : GoodIn wsX6_set (wsV RX6 92 RX6 yX6_records wsX6_records) := goodIn_app (goodIn_of _ (by decide +kernel)) ggX6_set_X6_records
set_option maxRecDepth 20000 in
theorem ggX6_set_X6_steals : GoodIn wsX6_set wsX6_steals := goodIn_r _ [24, 1, 25, 26, 27, 4, 28, 29, 30, 31, 32, 33, 34, 35, 36, 37, 38, 39, 40, 41, 42, 43, 44, 45, 46, 47, 48, 49, 50, 51, 52, 53] (by decide +kernel) (by decide +kernel)
set_option maxRecDepth 20000 in
theorem gX6_set_X6_steals : GoodIn wsX6_set (wsV RX6 69 RX6 yX6_steals wsX6_steals) := goodIn_app (goodIn_of _ (by decide +kernel)) ggX6_set_X6_steals
theorem dX6_set_0 : decode cX6_set 0 = .ok (.iload_n 1, 1) := by decide +kernel
theorem dX6_set_1 : decode cX6_set 1 = .ok (.iconst 0, 1) := by decide +kernel
theorem dX6_set_2 : decode cX6_set 2 = .ok (.iconst 2, 1) := by decide +kernel
theorem dX6_set_3 : decode cX6_set 3 = .ok (.invokestatic 40, 3) := by decide +kernel
theorem dX6_set_6 : decode cX6_set 6 = .ok (.ifCond .eq 18, 3) := by decide +kernel
theorem dX6_set_9 : decode cX6_set 9 = .ok (.iload_n 2, 1) := by decide +kernel
theorem dX6_set_10 : decode cX6_set 10 = .ok (.iload_n 1, 1) := by decide +kernel
theorem dX6_set_11 : decode cX6_set 11 = .ok (.invokestatic 119, 3) := by decide +kernel
theorem dX6_set_14 : decode cX6_set 14 = .ok (.iload_n 1, 1) := by decide +kernel
theorem dX6_set_15 : decode cX6_set 15 = .ok (.invokestatic 122, 3) := by decide +kernel
theorem dX6_set_18 : decode cX6_set 18 = .ok (.invokestatic 40, 3) := by decide +kernel
theorem dX6_set_21 : decode cX6_set 21 = .ok (.ifCond .ne 5, 3) := by decide +kernel
theorem dX6_set_24 : decode cX6_set 24 = .ok (.iconst (-1), 1) := by decide +kernel
theorem dX6_set_25 : decode cX6_set 25 = .ok (.ireturn, 1) := by decide +kernel
theorem dX6_set_26 : decode cX6_set 26 = .ok (.aload_n 0, 1) := by decide +kernel
theorem dX6_set_27 : decode cX6_set 27 = .ok (.invokevirtual 92, 3) := by decide +kernel
theorem dX6_set_30 : decode cX6_set 30 = .ok (.aload_n 0, 1) := by decide +kernel
theorem dX6_set_31 : decode cX6_set 31 = .ok (.getfield 7, 3) := by decide +kernel
theorem dX6_set_34 : decode cX6_set 34 = .ok (.bipush 9, 2) := by decide +kernel
theorem dX6_set_36 : decode cX6_set 36 = .ok (.iload_n 1, 1) := by decide +kernel
theorem dX6_set_37 : decode cX6_set 37 = .ok (.iadd, 1) := by decide +kernel
theorem dX6_set_38 : decode cX6_set 38 = .ok (.iaload, 1) := by decide +kernel
theorem dX6_set_39 : decode cX6_set 39 = .ok (.istore_n 3, 1) := by decide +kernel
theorem dX6_set_40 : decode cX6_set 40 = .ok (.aload_n 0, 1) := by decide +kernel
theorem dX6_set_41 : decode cX6_set 41 = .ok (.getfield 7, 3) := by decide +kernel
theorem dX6_set_44 : decode cX6_set 44 = .ok (.bipush 9, 2) := by decide +kernel
theorem dX6_set_46 : decode cX6_set 46 = .ok (.iload_n 1, 1) := by decide +kernel
theorem dX6_set_47 : decode cX6_set 47 = .ok (.iadd, 1) := by decide +kernel
theorem dX6_set_48 : decode cX6_set 48 = .ok (.iload_n 2, 1) := by decide +kernel
theorem dX6_set_49 : decode cX6_set 49 = .ok (.iastore, 1) := by decide +kernel
theorem dX6_set_50 : decode cX6_set 50 = .ok (.aload_n 0, 1) := by decide +kernel
theorem dX6_set_51 : decode cX6_set 51 = .ok (.getfield 7, 3) := by decide +kernel
theorem dX6_set_54 : decode cX6_set 54 = .ok (.iconst 1, 1) := by decide +kernel
theorem dX6_set_55 : decode cX6_set 55 = .ok (.iaload, 1) := by decide +kernel
theorem dX6_set_56 : decode cX6_set 56 = .ok (.aload_n 0, 1) := by decide +kernel
theorem dX6_set_57 : decode cX6_set 57 = .ok (.getfield 7, 3) := by decide +kernel
theorem dX6_set_60 : decode cX6_set 60 = .ok (.bipush 9, 2) := by decide +kernel
theorem dX6_set_62 : decode cX6_set 62 = .ok (.iaload, 1) := by decide +kernel
theorem dX6_set_63 : decode cX6_set 63 = .ok (.if_icmp .le 10, 3) := by decide +kernel
theorem dX6_set_66 : decode cX6_set 66 = .ok (.aload_n 0, 1) := by decide +kernel
theorem dX6_set_67 : decode cX6_set 67 = .ok (.invokevirtual 69, 3) := by decide +kernel
theorem dX6_set_70 : decode cX6_set 70 = .ok (.goto (-20), 3) := by decide +kernel
theorem dX6_set_73 : decode cX6_set 73 = .ok (.iload_n 3, 1) := by decide +kernel
theorem dX6_set_74 : decode cX6_set 74 = .ok (.ireturn, 1) := by decide +kernel
set_option maxRecDepth 20000 in
theorem ggX6_append_X6_in : GoodIn wsX6_append wsX6_in := goodIn_r _ [6] (by decide +kernel) (by decide +kernel)
set_option maxRecDepth 20000 in
theorem gX6_append_X6_in : GoodIn wsX6_append (va_wsS RX6 40 yX6_in wsX6_in) := goodIn_app (goodIn_of _ (by decide +kernel)) ggX6_append_X6_in
theorem dX6_append_0 : decode cX6_append 0 = .ok (.iload_n 1, 1) := by decide +kernel
theorem dX6_append_1 : decode cX6_append 1 = .ok (.bipush 33, 2) := by decide +kernel
theorem dX6_append_3 : decode cX6_append 3 = .ok (.bipush 126, 2) := by decide +kernel
theorem dX6_append_5 : decode cX6_append 5 = .ok (.invokestatic 40, 3) := by decide +kernel
theorem dX6_append_8 : decode cX6_append 8 = .ok (.ifCond .ne 5, 3) := by decide +kernel
theorem dX6_append_11 : decode cX6_append 11 = .ok (.iconst (-1), 1) := by decide +kernel
theorem dX6_append_12 : decode cX6_append 12 = .ok (.ireturn, 1) := by decide +kernel
theorem dX6_append_13 : decode cX6_append 13 = .ok (.aload_n 0, 1) := by decide +kernel
theorem dX6_append_14 : decode cX6_append 14 = .ok (.getfield 125, 3) := by decide +kernel
theorem dX6_append_17 : decode cX6_append 17 = .ok (.bipush 60, 2) := by decide +kernel
theorem dX6_append_19 : decode cX6_append 19 = .ok (.if_icmp .ne 6, 3) := by decide +kernel
theorem dX6_append_22 : decode cX6_append 22 = .ok (.bipush (-3), 2) := by decide +kernel
theorem dX6_append_24 : decode cX6_append 24 = .ok (.ireturn, 1) := by decide +kernel
theorem dX6_append_25 : decode cX6_append 25 = .ok (.aload_n 0, 1) := by decide +kernel
theorem dX6_append_26 : decode cX6_append 26 = .ok (.getfield 22, 3) := by decide +kernel
theorem dX6_append_29 : decode cX6_append 29 = .ok (.aload_n 0, 1) := by decide +kernel
theorem dX6_append_30 : decode cX6_append 30 = .ok (.getfield 125, 3) := by decide +kernel
theorem dX6_append_33 : decode cX6_append 33 = .ok (.iload_n 1, 1) := by decide +kernel
theorem dX6_append_34 : decode cX6_append 34 = .ok (.iastore, 1) := by decide +kernel
theorem dX6_append_35 : decode cX6_append 35 = .ok (.aload_n 0, 1) := by decide +kernel
theorem dX6_append_36 : decode cX6_append 36 = .ok (.dup, 1) := by decide +kernel
theorem dX6_append_37 : decode cX6_append 37 = .ok (.getfield 125, 3) := by decide +kernel
theorem dX6_append_40 : decode cX6_append 40 = .ok (.iconst 1, 1) := by decide +kernel
theorem dX6_append_41 : decode cX6_append 41 = .ok (.iadd, 1) := by decide +kernel
theorem dX6_append_42 : decode cX6_append 42 = .ok (.putfield 125, 3) := by decide +kernel
theorem dX6_append_45 : decode cX6_append 45 = .ok (.aload_n 0, 1) := by decide +kernel
theorem dX6_append_46 : decode cX6_append 46 = .ok (.getfield 125, 3) := by decide +kernel
theorem dX6_append_49 : decode cX6_append 49 = .ok (.ireturn, 1) := by decide +kernel
theorem dX6_clear_0 : decode cX6_clear 0 = .ok (.aload_n 0, 1) := by decide +kernel
theorem dX6_clear_1 : decode cX6_clear 1 = .ok (.getfield 125, 3) := by decide +kernel
theorem dX6_clear_4 : decode cX6_clear 4 = .ok (.istore_n 1, 1) := by decide +kernel
theorem dX6_clear_5 : decode cX6_clear 5 = .ok (.aload_n 0, 1) := by decide +kernel
theorem dX6_clear_6 : decode cX6_clear 6 = .ok (.iconst 0, 1) := by decide +kernel
theorem dX6_clear_7 : decode cX6_clear 7 = .ok (.putfield 125, 3) := by decide +kernel
theorem dX6_clear_10 : decode cX6_clear 10 = .ok (.iload_n 1, 1) := by decide +kernel
theorem dX6_clear_11 : decode cX6_clear 11 = .ok (.ireturn, 1) := by decide +kernel
theorem dX6_here_0 : decode cX6_here 0 = .ok (.aload_n 0, 1) := by decide +kernel
theorem dX6_here_1 : decode cX6_here 1 = .ok (.getfield 128, 3) := by decide +kernel
theorem dX6_here_4 : decode cX6_here 4 = .ok (.aload_n 0, 1) := by decide +kernel
theorem dX6_here_5 : decode cX6_here 5 = .ok (.getfield 125, 3) := by decide +kernel
theorem dX6_here_8 : decode cX6_here 8 = .ok (.if_icmp .ge 15, 3) := by decide +kernel
theorem dX6_here_11 : decode cX6_here 11 = .ok (.aload_n 0, 1) := by decide +kernel
theorem dX6_here_12 : decode cX6_here 12 = .ok (.getfield 22, 3) := by decide +kernel
theorem dX6_here_15 : decode cX6_here 15 = .ok (.aload_n 0, 1) := by decide +kernel
theorem dX6_here_16 : decode cX6_here 16 = .ok (.getfield 128, 3) := by decide +kernel
theorem dX6_here_19 : decode cX6_here 19 = .ok (.iaload, 1) := by decide +kernel
theorem dX6_here_20 : decode cX6_here 20 = .ok (.goto 4, 3) := by decide +kernel
theorem dX6_here_23 : decode cX6_here 23 = .ok (.iconst 0, 1) := by decide +kernel
theorem dX6_here_24 : decode cX6_here 24 = .ok (.ireturn, 1) := by decide +kernel
theorem dX6_takes_0 : decode cX6_takes 0 = .ok (.aload_n 0, 1) := by decide +kernel
theorem dX6_takes_1 : decode cX6_takes 1 = .ok (.aload_n 0, 1) := by decide +kernel
theorem dX6_takes_2 : decode cX6_takes 2 = .ok (.getfield 131, 3) := by decide +kernel
theorem dX6_takes_5 : decode cX6_takes 5 = .ok (.ifCond .eq 11, 3) := by decide +kernel
theorem dX6_takes_8 : decode cX6_takes 8 = .ok (.iload_n 1, 1) := by decide +kernel
theorem dX6_takes_9 : decode cX6_takes 9 = .ok (.ifCond .eq 7, 3) := by decide +kernel
theorem dX6_takes_12 : decode cX6_takes 12 = .ok (.iconst 1, 1) := by decide +kernel
theorem dX6_takes_13 : decode cX6_takes 13 = .ok (.goto 4, 3) := by decide +kernel
theorem dX6_takes_16 : decode cX6_takes 16 = .ok (.iconst 0, 1) := by decide +kernel
theorem dX6_takes_17 : decode cX6_takes 17 = .ok (.putfield 131, 3) := by decide +kernel
theorem dX6_takes_20 : decode cX6_takes 20 = .ok (.aload_n 0, 1) := by decide +kernel
theorem dX6_takes_21 : decode cX6_takes 21 = .ok (.dup, 1) := by decide +kernel
theorem dX6_takes_22 : decode cX6_takes 22 = .ok (.getfield 128, 3) := by decide +kernel
theorem dX6_takes_25 : decode cX6_takes 25 = .ok (.aload_n 0, 1) := by decide +kernel
theorem dX6_takes_26 : decode cX6_takes 26 = .ok (.getfield 131, 3) := by decide +kernel
theorem dX6_takes_29 : decode cX6_takes 29 = .ok (.ifCond .eq 7, 3) := by decide +kernel
theorem dX6_takes_32 : decode cX6_takes 32 = .ok (.iconst 1, 1) := by decide +kernel
theorem dX6_takes_33 : decode cX6_takes 33 = .ok (.goto 4, 3) := by decide +kernel
theorem dX6_takes_36 : decode cX6_takes 36 = .ok (.iconst 0, 1) := by decide +kernel
theorem dX6_takes_37 : decode cX6_takes 37 = .ok (.iadd, 1) := by decide +kernel
theorem dX6_takes_38 : decode cX6_takes 38 = .ok (.putfield 128, 3) := by decide +kernel
theorem dX6_takes_41 : decode cX6_takes 41 = .ok (.return_, 1) := by decide +kernel
theorem dX6_canBegin_0 : decode cX6_canBegin 0 = .ok (.bipush 10, 2) := by decide +kernel
theorem dX6_canBegin_2 : decode cX6_canBegin 2 = .ok (.iload_n 0, 1) := by decide +kernel
theorem dX6_canBegin_3 : decode cX6_canBegin 3 = .ok (.imul, 1) := by decide +kernel
theorem dX6_canBegin_4 : decode cX6_canBegin 4 = .ok (.iload_n 1, 1) := by decide +kernel
theorem dX6_canBegin_5 : decode cX6_canBegin 5 = .ok (.if_icmp .le 10, 3) := by decide +kernel
theorem dX6_canBegin_8 : decode cX6_canBegin 8 = .ok (.bipush 10, 2) := by decide +kernel
theorem dX6_canBegin_10 : decode cX6_canBegin 10 = .ok (.iload_n 0, 1) := by decide +kernel
theorem dX6_canBegin_11 : decode cX6_canBegin 11 = .ok (.imul, 1) := by decide +kernel
theorem dX6_canBegin_12 : decode cX6_canBegin 12 = .ok (.goto 4, 3) := by decide +kernel
theorem dX6_canBegin_15 : decode cX6_canBegin 15 = .ok (.iload_n 1, 1) := by decide +kernel
theorem dX6_canBegin_16 : decode cX6_canBegin 16 = .ok (.istore_n 3, 1) := by decide +kernel
theorem dX6_canBegin_17 : decode cX6_canBegin 17 = .ok (.bipush 10, 2) := by decide +kernel
theorem dX6_canBegin_19 : decode cX6_canBegin 19 = .ok (.iload_n 0, 1) := by decide +kernel
theorem dX6_canBegin_20 : decode cX6_canBegin 20 = .ok (.imul, 1) := by decide +kernel
theorem dX6_canBegin_21 : decode cX6_canBegin 21 = .ok (.bipush 9, 2) := by decide +kernel
theorem dX6_canBegin_23 : decode cX6_canBegin 23 = .ok (.iadd, 1) := by decide +kernel
theorem dX6_canBegin_24 : decode cX6_canBegin 24 = .ok (.iload_n 2, 1) := by decide +kernel
theorem dX6_canBegin_25 : decode cX6_canBegin 25 = .ok (.if_icmp .ge 13, 3) := by decide +kernel
theorem dX6_canBegin_28 : decode cX6_canBegin 28 = .ok (.bipush 10, 2) := by decide +kernel
theorem dX6_canBegin_30 : decode cX6_canBegin 30 = .ok (.iload_n 0, 1) := by decide +kernel
theorem dX6_canBegin_31 : decode cX6_canBegin 31 = .ok (.imul, 1) := by decide +kernel
theorem dX6_canBegin_32 : decode cX6_canBegin 32 = .ok (.bipush 9, 2) := by decide +kernel
theorem dX6_canBegin_34 : decode cX6_canBegin 34 = .ok (.iadd, 1) := by decide +kernel
theorem dX6_canBegin_35 : decode cX6_canBegin 35 = .ok (.goto 4, 3) := by decide +kernel
theorem dX6_canBegin_38 : decode cX6_canBegin 38 = .ok (.iload_n 2, 1) := by decide +kernel
theorem dX6_canBegin_39 : decode cX6_canBegin 39 = .ok (.istore 4, 2) := by decide +kernel
theorem dX6_canBegin_41 : decode cX6_canBegin 41 = .ok (.iload_n 0, 1) := by decide +kernel
theorem dX6_canBegin_42 : decode cX6_canBegin 42 = .ok (.ifCond .le 13, 3) := by decide +kernel
theorem dX6_canBegin_45 : decode cX6_canBegin 45 = .ok (.iload_n 3, 1) := by decide +kernel
theorem dX6_canBegin_46 : decode cX6_canBegin 46 = .ok (.iload 4, 2) := by decide +kernel
theorem dX6_canBegin_48 : decode cX6_canBegin 48 = .ok (.if_icmp .gt 7, 3) := by decide +kernel
theorem dX6_canBegin_51 : decode cX6_canBegin 51 = .ok (.iconst 1, 1) := by decide +kernel
theorem dX6_canBegin_52 : decode cX6_canBegin 52 = .ok (.goto 4, 3) := by decide +kernel
theorem dX6_canBegin_55 : decode cX6_canBegin 55 = .ok (.iconst 0, 1) := by decide +kernel
theorem dX6_canBegin_56 : decode cX6_canBegin 56 = .ok (.ireturn, 1) := by decide +kernel
set_option maxRecDepth 20000 in
theorem ggX6_takesNumber_X6_here : GoodIn wsX6_takesNumber wsX6_here := goodIn_r _ [7, 2, 8, 9, 20, 21, 22, 23, 24, 25, 26, 27, 28, 29, 30, 31, 32, 33, 34, 35, 36] (by decide +kernel) (by decide +kernel)
set_option maxRecDepth 20000 in
theorem gX6_takesNumber_X6_here : GoodIn wsX6_takesNumber (wsV RX6 135 RX6 yX6_here wsX6_here) := goodIn_app (goodIn_of _ (by decide +kernel)) ggX6_takesNumber_X6_here
set_option maxRecDepth 20000 in
theorem ggX6_takesNumber_X6_in : GoodIn wsX6_takesNumber wsX6_in := goodIn_r _ [12] (by decide +kernel) (by decide +kernel)
set_option maxRecDepth 20000 in
theorem gX6_takesNumber_X6_in : GoodIn wsX6_takesNumber (va_wsS RX6 40 yX6_in wsX6_in) := goodIn_app (goodIn_of _ (by decide +kernel)) ggX6_takesNumber_X6_in
set_option maxRecDepth 20000 in
theorem ggX6_takesNumber_X6_canBegin : GoodIn wsX6_takesNumber wsX6_canBegin := goodIn_r _ [15] (by decide +kernel) (by decide +kernel)
set_option maxRecDepth 20000 in
theorem gX6_takesNumber_X6_canBegin : GoodIn wsX6_takesNumber (va_wsS RX6 138 yX6_canBegin wsX6_canBegin) := goodIn_app (goodIn_of _ (by decide +kernel)) ggX6_takesNumber_X6_canBegin
set_option maxRecDepth 20000 in
theorem ggX6_takesNumber_X6_takes : GoodIn wsX6_takesNumber wsX6_takes := goodIn_r _ [19, 1, 2, 20, 21, 22, 23, 24, 25, 26, 27, 28, 29, 30, 31, 32, 33, 34, 35, 36] (by decide +kernel) (by decide +kernel)
set_option maxRecDepth 20000 in
theorem gX6_takesNumber_X6_takes : GoodIn wsX6_takesNumber (wsV RX6 141 RX6 yX6_takes wsX6_takes) := goodIn_app (goodIn_of _ (by decide +kernel)) ggX6_takesNumber_X6_takes
theorem dX6_takesNumber_0 : decode cX6_takesNumber 0 = .ok (.aload_n 0, 1) := by decide +kernel
theorem dX6_takesNumber_1 : decode cX6_takesNumber 1 = .ok (.invokevirtual 135, 3) := by decide +kernel
theorem dX6_takesNumber_4 : decode cX6_takesNumber 4 = .ok (.bipush 48, 2) := by decide +kernel
theorem dX6_takesNumber_6 : decode cX6_takesNumber 6 = .ok (.isub, 1) := by decide +kernel
theorem dX6_takesNumber_7 : decode cX6_takesNumber 7 = .ok (.istore_n 3, 1) := by decide +kernel
theorem dX6_takesNumber_8 : decode cX6_takesNumber 8 = .ok (.aload_n 0, 1) := by decide +kernel
theorem dX6_takesNumber_9 : decode cX6_takesNumber 9 = .ok (.iload_n 3, 1) := by decide +kernel
theorem dX6_takesNumber_10 : decode cX6_takesNumber 10 = .ok (.iconst 0, 1) := by decide +kernel
theorem dX6_takesNumber_11 : decode cX6_takesNumber 11 = .ok (.bipush 9, 2) := by decide +kernel
theorem dX6_takesNumber_13 : decode cX6_takesNumber 13 = .ok (.invokestatic 40, 3) := by decide +kernel
theorem dX6_takesNumber_16 : decode cX6_takesNumber 16 = .ok (.ifCond .eq 25, 3) := by decide +kernel
theorem dX6_takesNumber_19 : decode cX6_takesNumber 19 = .ok (.iload_n 3, 1) := by decide +kernel
theorem dX6_takesNumber_20 : decode cX6_takesNumber 20 = .ok (.iload_n 1, 1) := by decide +kernel
theorem dX6_takesNumber_21 : decode cX6_takesNumber 21 = .ok (.iload_n 2, 1) := by decide +kernel
theorem dX6_takesNumber_22 : decode cX6_takesNumber 22 = .ok (.invokestatic 40, 3) := by decide +kernel
theorem dX6_takesNumber_25 : decode cX6_takesNumber 25 = .ok (.ifCond .ne 12, 3) := by decide +kernel
theorem dX6_takesNumber_28 : decode cX6_takesNumber 28 = .ok (.iload_n 3, 1) := by decide +kernel
theorem dX6_takesNumber_29 : decode cX6_takesNumber 29 = .ok (.iload_n 1, 1) := by decide +kernel
theorem dX6_takesNumber_30 : decode cX6_takesNumber 30 = .ok (.iload_n 2, 1) := by decide +kernel
theorem dX6_takesNumber_31 : decode cX6_takesNumber 31 = .ok (.invokestatic 138, 3) := by decide +kernel
theorem dX6_takesNumber_34 : decode cX6_takesNumber 34 = .ok (.ifCond .eq 7, 3) := by decide +kernel
theorem dX6_takesNumber_37 : decode cX6_takesNumber 37 = .ok (.iconst 1, 1) := by decide +kernel
theorem dX6_takesNumber_38 : decode cX6_takesNumber 38 = .ok (.goto 4, 3) := by decide +kernel
theorem dX6_takesNumber_41 : decode cX6_takesNumber 41 = .ok (.iconst 0, 1) := by decide +kernel
theorem dX6_takesNumber_42 : decode cX6_takesNumber 42 = .ok (.invokevirtual 141, 3) := by decide +kernel
theorem dX6_takesNumber_45 : decode cX6_takesNumber 45 = .ok (.bipush 10, 2) := by decide +kernel
theorem dX6_takesNumber_47 : decode cX6_takesNumber 47 = .ok (.iload_n 3, 1) := by decide +kernel
theorem dX6_takesNumber_48 : decode cX6_takesNumber 48 = .ok (.imul, 1) := by decide +kernel
theorem dX6_takesNumber_49 : decode cX6_takesNumber 49 = .ok (.aload_n 0, 1) := by decide +kernel
theorem dX6_takesNumber_50 : decode cX6_takesNumber 50 = .ok (.invokevirtual 135, 3) := by decide +kernel
theorem dX6_takesNumber_53 : decode cX6_takesNumber 53 = .ok (.iadd, 1) := by decide +kernel
theorem dX6_takesNumber_54 : decode cX6_takesNumber 54 = .ok (.bipush 48, 2) := by decide +kernel
theorem dX6_takesNumber_56 : decode cX6_takesNumber 56 = .ok (.isub, 1) := by decide +kernel
theorem dX6_takesNumber_57 : decode cX6_takesNumber 57 = .ok (.istore 4, 2) := by decide +kernel
theorem dX6_takesNumber_59 : decode cX6_takesNumber 59 = .ok (.aload_n 0, 1) := by decide +kernel
theorem dX6_takesNumber_60 : decode cX6_takesNumber 60 = .ok (.getfield 131, 3) := by decide +kernel
theorem dX6_takesNumber_63 : decode cX6_takesNumber 63 = .ok (.ifCond .eq 44, 3) := by decide +kernel
theorem dX6_takesNumber_66 : decode cX6_takesNumber 66 = .ok (.iload_n 3, 1) := by decide +kernel
theorem dX6_takesNumber_67 : decode cX6_takesNumber 67 = .ok (.ifCond .le 40, 3) := by decide +kernel
theorem dX6_takesNumber_70 : decode cX6_takesNumber 70 = .ok (.aload_n 0, 1) := by decide +kernel
theorem dX6_takesNumber_71 : decode cX6_takesNumber 71 = .ok (.invokevirtual 135, 3) := by decide +kernel
theorem dX6_takesNumber_74 : decode cX6_takesNumber 74 = .ok (.bipush 48, 2) := by decide +kernel
theorem dX6_takesNumber_76 : decode cX6_takesNumber 76 = .ok (.bipush 57, 2) := by decide +kernel
theorem dX6_takesNumber_78 : decode cX6_takesNumber 78 = .ok (.invokestatic 40, 3) := by decide +kernel
theorem dX6_takesNumber_81 : decode cX6_takesNumber 81 = .ok (.ifCond .eq 26, 3) := by decide +kernel
theorem dX6_takesNumber_84 : decode cX6_takesNumber 84 = .ok (.iload 4, 2) := by decide +kernel
theorem dX6_takesNumber_86 : decode cX6_takesNumber 86 = .ok (.iload_n 1, 1) := by decide +kernel
theorem dX6_takesNumber_87 : decode cX6_takesNumber 87 = .ok (.iload_n 2, 1) := by decide +kernel
theorem dX6_takesNumber_88 : decode cX6_takesNumber 88 = .ok (.invokestatic 40, 3) := by decide +kernel
theorem dX6_takesNumber_91 : decode cX6_takesNumber 91 = .ok (.ifCond .eq 16, 3) := by decide +kernel
theorem dX6_takesNumber_94 : decode cX6_takesNumber 94 = .ok (.aload_n 0, 1) := by decide +kernel
theorem dX6_takesNumber_95 : decode cX6_takesNumber 95 = .ok (.dup, 1) := by decide +kernel
theorem dX6_takesNumber_96 : decode cX6_takesNumber 96 = .ok (.getfield 128, 3) := by decide +kernel
theorem dX6_takesNumber_99 : decode cX6_takesNumber 99 = .ok (.iconst 1, 1) := by decide +kernel
theorem dX6_takesNumber_100 : decode cX6_takesNumber 100 = .ok (.iadd, 1) := by decide +kernel
theorem dX6_takesNumber_101 : decode cX6_takesNumber 101 = .ok (.putfield 128, 3) := by decide +kernel
theorem dX6_takesNumber_104 : decode cX6_takesNumber 104 = .ok (.iload 4, 2) := by decide +kernel
theorem dX6_takesNumber_106 : decode cX6_takesNumber 106 = .ok (.ireturn, 1) := by decide +kernel
theorem dX6_takesNumber_107 : decode cX6_takesNumber 107 = .ok (.aload_n 0, 1) := by decide +kernel
theorem dX6_takesNumber_108 : decode cX6_takesNumber 108 = .ok (.aload_n 0, 1) := by decide +kernel
theorem dX6_takesNumber_109 : decode cX6_takesNumber 109 = .ok (.getfield 131, 3) := by decide +kernel
theorem dX6_takesNumber_112 : decode cX6_takesNumber 112 = .ok (.ifCond .eq 12, 3) := by decide +kernel
theorem dX6_takesNumber_115 : decode cX6_takesNumber 115 = .ok (.iload_n 3, 1) := by decide +kernel
theorem dX6_takesNumber_116 : decode cX6_takesNumber 116 = .ok (.iload_n 1, 1) := by decide +kernel
theorem dX6_takesNumber_117 : decode cX6_takesNumber 117 = .ok (.if_icmp .lt 7, 3) := by decide +kernel
theorem dX6_takesNumber_120 : decode cX6_takesNumber 120 = .ok (.iconst 1, 1) := by decide +kernel
theorem dX6_takesNumber_121 : decode cX6_takesNumber 121 = .ok (.goto 4, 3) := by decide +kernel
theorem dX6_takesNumber_124 : decode cX6_takesNumber 124 = .ok (.iconst 0, 1) := by decide +kernel
theorem dX6_takesNumber_125 : decode cX6_takesNumber 125 = .ok (.putfield 131, 3) := by decide +kernel
theorem dX6_takesNumber_128 : decode cX6_takesNumber 128 = .ok (.iload_n 3, 1) := by decide +kernel
theorem dX6_takesNumber_129 : decode cX6_takesNumber 129 = .ok (.ireturn, 1) := by decide +kernel
set_option maxRecDepth 20000 in
theorem ggX6_takesRange_X6_takesNumber : GoodIn wsX6_takesRange wsX6_takesNumber := goodIn_r _ [6, 7, 8, 9, 10, 11, 5, 12, 13, 14, 15, 16, 17, 18, 19, 20, 21, 22, 23, 24, 25, 26, 27, 28, 29, 30, 31, 32, 33, 34, 35, 36, 37, 38, 39, 40, 41] (by decide +kernel) (by decide +kernel)
set_option maxRecDepth 20000 in
theorem gX6_takesRange_X6_takesNumber : GoodIn wsX6_takesRange (wsV RX6 145 RX6 yX6_takesNumber wsX6_takesNumber) := goodIn_app (goodIn_of _ (by decide +kernel)) ggX6_takesRange_X6_takesNumber
set_option maxRecDepth 20000 in
theorem ggX6_takesRange_X6_here : GoodIn wsX6_takesRange wsX6_here := goodIn_r _ [12, 8, 13, 14, 25, 26, 27, 28, 29, 30, 31, 32, 33, 34, 35, 36, 37, 38, 39, 40, 41] (by decide +kernel) (by decide +kernel)
set_option maxRecDepth 20000 in
theorem gX6_takesRange_X6_here : GoodIn wsX6_takesRange (wsV RX6 135 RX6 yX6_here wsX6_here) := goodIn_app (goodIn_of _ (by decide +kernel)) ggX6_takesRange_X6_here
set_option maxRecDepth 20000 in
theorem ggX6_takesRange_X6_takes : GoodIn wsX6_takesRange wsX6_takes := goodIn_r _ [24, 7, 8, 25, 26, 27, 28, 29, 30, 31, 32, 33, 34, 35, 36, 37, 38, 39, 40, 41] (by decide +kernel) (by decide +kernel)
set_option maxRecDepth 20000 in
theorem gX6_takesRange_X6_takes : GoodIn wsX6_takesRange (wsV RX6 141 RX6 yX6_takes wsX6_takes) := goodIn_app (goodIn_of _ (by decide +kernel)) ggX6_takesRange_X6_takes
theorem dX6_takesRange_0 : decode cX6_takesRange 0 = .ok (.aload_n 0, 1) := by decide +kernel
theorem dX6_takesRange_1 : decode cX6_takesRange 1 = .ok (.getfield 29, 3) := by decide +kernel
theorem dX6_takesRange_4 : decode cX6_takesRange 4 = .ok (.iload_n 1, 1) := by decide +kernel
theorem dX6_takesRange_5 : decode cX6_takesRange 5 = .ok (.aload_n 0, 1) := by decide +kernel
theorem dX6_takesRange_6 : decode cX6_takesRange 6 = .ok (.iload_n 2, 1) := by decide +kernel
theorem dX6_takesRange_7 : decode cX6_takesRange 7 = .ok (.iload_n 3, 1) := by decide +kernel
theorem dX6_takesRange_8 : decode cX6_takesRange 8 = .ok (.invokevirtual 145, 3) := by decide +kernel
theorem dX6_takesRange_11 : decode cX6_takesRange 11 = .ok (.iastore, 1) := by decide +kernel
theorem dX6_takesRange_12 : decode cX6_takesRange 12 = .ok (.aload_n 0, 1) := by decide +kernel
theorem dX6_takesRange_13 : decode cX6_takesRange 13 = .ok (.aload_n 0, 1) := by decide +kernel
theorem dX6_takesRange_14 : decode cX6_takesRange 14 = .ok (.invokevirtual 135, 3) := by decide +kernel
theorem dX6_takesRange_17 : decode cX6_takesRange 17 = .ok (.bipush 45, 2) := by decide +kernel
theorem dX6_takesRange_19 : decode cX6_takesRange 19 = .ok (.if_icmp .ne 7, 3) := by decide +kernel
theorem dX6_takesRange_22 : decode cX6_takesRange 22 = .ok (.iconst 1, 1) := by decide +kernel
theorem dX6_takesRange_23 : decode cX6_takesRange 23 = .ok (.goto 4, 3) := by decide +kernel
theorem dX6_takesRange_26 : decode cX6_takesRange 26 = .ok (.iconst 0, 1) := by decide +kernel
theorem dX6_takesRange_27 : decode cX6_takesRange 27 = .ok (.invokevirtual 141, 3) := by decide +kernel
theorem dX6_takesRange_30 : decode cX6_takesRange 30 = .ok (.aload_n 0, 1) := by decide +kernel
theorem dX6_takesRange_31 : decode cX6_takesRange 31 = .ok (.getfield 29, 3) := by decide +kernel
theorem dX6_takesRange_34 : decode cX6_takesRange 34 = .ok (.iload_n 1, 1) := by decide +kernel
theorem dX6_takesRange_35 : decode cX6_takesRange 35 = .ok (.iconst 1, 1) := by decide +kernel
theorem dX6_takesRange_36 : decode cX6_takesRange 36 = .ok (.iadd, 1) := by decide +kernel
theorem dX6_takesRange_37 : decode cX6_takesRange 37 = .ok (.aload_n 0, 1) := by decide +kernel
theorem dX6_takesRange_38 : decode cX6_takesRange 38 = .ok (.aload_n 0, 1) := by decide +kernel
theorem dX6_takesRange_39 : decode cX6_takesRange 39 = .ok (.getfield 29, 3) := by decide +kernel
theorem dX6_takesRange_42 : decode cX6_takesRange 42 = .ok (.iload_n 1, 1) := by decide +kernel
theorem dX6_takesRange_43 : decode cX6_takesRange 43 = .ok (.iaload, 1) := by decide +kernel
theorem dX6_takesRange_44 : decode cX6_takesRange 44 = .ok (.iload_n 3, 1) := by decide +kernel
theorem dX6_takesRange_45 : decode cX6_takesRange 45 = .ok (.invokevirtual 145, 3) := by decide +kernel
theorem dX6_takesRange_48 : decode cX6_takesRange 48 = .ok (.iastore, 1) := by decide +kernel
theorem dX6_takesRange_49 : decode cX6_takesRange 49 = .ok (.aload_n 0, 1) := by decide +kernel
theorem dX6_takesRange_50 : decode cX6_takesRange 50 = .ok (.aload_n 0, 1) := by decide +kernel
theorem dX6_takesRange_51 : decode cX6_takesRange 51 = .ok (.invokevirtual 135, 3) := by decide +kernel
theorem dX6_takesRange_54 : decode cX6_takesRange 54 = .ok (.bipush 44, 2) := by decide +kernel
theorem dX6_takesRange_56 : decode cX6_takesRange 56 = .ok (.if_icmp .ne 7, 3) := by decide +kernel
theorem dX6_takesRange_59 : decode cX6_takesRange 59 = .ok (.iconst 1, 1) := by decide +kernel
theorem dX6_takesRange_60 : decode cX6_takesRange 60 = .ok (.goto 4, 3) := by decide +kernel
theorem dX6_takesRange_63 : decode cX6_takesRange 63 = .ok (.iconst 0, 1) := by decide +kernel
theorem dX6_takesRange_64 : decode cX6_takesRange 64 = .ok (.invokevirtual 141, 3) := by decide +kernel
theorem dX6_takesRange_67 : decode cX6_takesRange 67 = .ok (.return_, 1) := by decide +kernel
set_option maxRecDepth 20000 in
theorem ggX6_takesMark_X6_here : GoodIn wsX6_takesMark wsX6_here := goodIn_r _ [7, 2, 8, 9, 24, 25, 26, 27, 28, 29, 30, 31, 32, 33, 34, 35, 36, 37, 38, 39, 40] (by decide +kernel) (by decide +kernel)
set_option maxRecDepth 20000 in
theorem gX6_takesMark_X6_here : GoodIn wsX6_takesMark (wsV RX6 135 RX6 yX6_here wsX6_here) := goodIn_app (goodIn_of _ (by decide +kernel)) ggX6_takesMark_X6_here
set_option maxRecDepth 20000 in
theorem ggX6_takesMark_X6_takesNumber : GoodIn wsX6_takesMark wsX6_takesNumber := goodIn_r _ [13, 1, 2, 3, 4, 5, 6, 7, 8, 9, 14, 15, 16, 17, 18, 19, 20, 21, 22, 23, 24, 25, 26, 27, 28, 29, 30, 31, 32, 33, 34, 35, 36, 37, 38, 39, 40] (by decide +kernel) (by decide +kernel)
set_option maxRecDepth 20000 in
theorem gX6_takesMark_X6_takesNumber : GoodIn wsX6_takesMark (wsV RX6 145 RX6 yX6_takesNumber wsX6_takesNumber) := goodIn_app (goodIn_of _ (by decide +kernel)) ggX6_takesMark_X6_takesNumber
theorem dX6_takesMark_0 : decode cX6_takesMark 0 = .ok (.aload_n 0, 1) := by decide +kernel
theorem dX6_takesMark_1 : decode cX6_takesMark 1 = .ok (.getfield 131, 3) := by decide +kernel
theorem dX6_takesMark_4 : decode cX6_takesMark 4 = .ok (.ifCond .eq 11, 3) := by decide +kernel
theorem dX6_takesMark_7 : decode cX6_takesMark 7 = .ok (.aload_n 0, 1) := by decide +kernel
theorem dX6_takesMark_8 : decode cX6_takesMark 8 = .ok (.invokevirtual 135, 3) := by decide +kernel
theorem dX6_takesMark_11 : decode cX6_takesMark 11 = .ok (.iload_n 1, 1) := by decide +kernel
theorem dX6_takesMark_12 : decode cX6_takesMark 12 = .ok (.if_icmp .eq 5, 3) := by decide +kernel
theorem dX6_takesMark_15 : decode cX6_takesMark 15 = .ok (.iconst 0, 1) := by decide +kernel
theorem dX6_takesMark_16 : decode cX6_takesMark 16 = .ok (.ireturn, 1) := by decide +kernel
theorem dX6_takesMark_17 : decode cX6_takesMark 17 = .ok (.aload_n 0, 1) := by decide +kernel
theorem dX6_takesMark_18 : decode cX6_takesMark 18 = .ok (.dup, 1) := by decide +kernel
theorem dX6_takesMark_19 : decode cX6_takesMark 19 = .ok (.getfield 128, 3) := by decide +kernel
theorem dX6_takesMark_22 : decode cX6_takesMark 22 = .ok (.iconst 1, 1) := by decide +kernel
theorem dX6_takesMark_23 : decode cX6_takesMark 23 = .ok (.iadd, 1) := by decide +kernel
theorem dX6_takesMark_24 : decode cX6_takesMark 24 = .ok (.putfield 128, 3) := by decide +kernel
theorem dX6_takesMark_27 : decode cX6_takesMark 27 = .ok (.aload_n 0, 1) := by decide +kernel
theorem dX6_takesMark_28 : decode cX6_takesMark 28 = .ok (.iconst 1, 1) := by decide +kernel
theorem dX6_takesMark_29 : decode cX6_takesMark 29 = .ok (.iload_n 2, 1) := by decide +kernel
theorem dX6_takesMark_30 : decode cX6_takesMark 30 = .ok (.invokevirtual 145, 3) := by decide +kernel
theorem dX6_takesMark_33 : decode cX6_takesMark 33 = .ok (.ireturn, 1) := by decide +kernel
set_option maxRecDepth 20000 in
theorem ggX6_takesZone_X6_takesRange : GoodIn wsX6_takesZone wsX6_takesRange := goodIn_r _ [7, 2, 8, 9, 10, 6, 11, 12, 13, 14, 15, 16, 17, 18, 19, 20, 21, 22, 23, 24, 25, 26, 27, 28, 29, 34, 35, 36, 37, 38, 39, 40, 41, 42, 43, 44, 45, 46, 47, 48, 49, 50] (by decide +kernel) (by decide +kernel)
set_option maxRecDepth 20000 in
theorem gX6_takesZone_X6_takesRange : GoodIn wsX6_takesZone (wsV RX6 151 RX6 yX6_takesRange wsX6_takesRange) := goodIn_app (goodIn_of _ (by decide +kernel)) ggX6_takesZone_X6_takesRange
set_option maxRecDepth 20000 in
theorem ggX6_takesZone_X6_takesNumber : GoodIn wsX6_takesZone wsX6_takesNumber := goodIn_r _ [11, 12, 13, 14, 15, 16, 6, 17, 18, 19, 20, 21, 22, 23, 24, 25, 26, 27, 28, 29, 34, 35, 36, 37, 38, 39, 40, 41, 42, 43, 44, 45, 46, 47, 48, 49, 50] (by decide +kernel) (by decide +kernel)
set_option maxRecDepth 20000 in
theorem gX6_takesZone_X6_takesNumber : GoodIn wsX6_takesZone (wsV RX6 145 RX6 yX6_takesNumber wsX6_takesNumber) := goodIn_app (goodIn_of _ (by decide +kernel)) ggX6_takesZone_X6_takesNumber
set_option maxRecDepth 20000 in
theorem ggX6_takesZone_X6_takesMark : GoodIn wsX6_takesZone wsX6_takesMark := goodIn_r _ [33, 12, 13, 14, 15, 16, 6, 17, 18, 19, 8, 9, 10, 11, 20, 21, 22, 23, 24, 25, 26, 27, 28, 29, 34, 35, 36, 37, 38, 39, 40, 41, 42, 43, 44, 45, 46, 47, 48, 49, 50] (by decide +kernel) (by decide +kernel)
set_option maxRecDepth 20000 in
theorem gX6_takesZone_X6_takesMark : GoodIn wsX6_takesZone (wsV RX6 154 RX6 yX6_takesMark wsX6_takesMark) := goodIn_app (goodIn_of _ (by decide +kernel)) ggX6_takesZone_X6_takesMark
theorem dX6_takesZone_0 : decode cX6_takesZone 0 = .ok (.bipush 7, 2) := by decide +kernel
theorem dX6_takesZone_2 : decode cX6_takesZone 2 = .ok (.aload_n 0, 1) := by decide +kernel
theorem dX6_takesZone_3 : decode cX6_takesZone 3 = .ok (.getfield 148, 3) := by decide +kernel
theorem dX6_takesZone_6 : decode cX6_takesZone 6 = .ok (.imul, 1) := by decide +kernel
theorem dX6_takesZone_7 : decode cX6_takesZone 7 = .ok (.istore_n 1, 1) := by decide +kernel
theorem dX6_takesZone_8 : decode cX6_takesZone 8 = .ok (.aload_n 0, 1) := by decide +kernel
theorem dX6_takesZone_9 : decode cX6_takesZone 9 = .ok (.iload_n 1, 1) := by decide +kernel
theorem dX6_takesZone_10 : decode cX6_takesZone 10 = .ok (.iconst 0, 1) := by decide +kernel
theorem dX6_takesZone_11 : decode cX6_takesZone 11 = .ok (.iadd, 1) := by decide +kernel
theorem dX6_takesZone_12 : decode cX6_takesZone 12 = .ok (.iconst 0, 1) := by decide +kernel
theorem dX6_takesZone_13 : decode cX6_takesZone 13 = .ok (.bipush 35, 2) := by decide +kernel
theorem dX6_takesZone_15 : decode cX6_takesZone 15 = .ok (.invokevirtual 151, 3) := by decide +kernel
theorem dX6_takesZone_18 : decode cX6_takesZone 18 = .ok (.aload_n 0, 1) := by decide +kernel
theorem dX6_takesZone_19 : decode cX6_takesZone 19 = .ok (.iload_n 1, 1) := by decide +kernel
theorem dX6_takesZone_20 : decode cX6_takesZone 20 = .ok (.iconst 2, 1) := by decide +kernel
theorem dX6_takesZone_21 : decode cX6_takesZone 21 = .ok (.iadd, 1) := by decide +kernel
theorem dX6_takesZone_22 : decode cX6_takesZone 22 = .ok (.iconst 1, 1) := by decide +kernel
theorem dX6_takesZone_23 : decode cX6_takesZone 23 = .ok (.bipush 9, 2) := by decide +kernel
theorem dX6_takesZone_25 : decode cX6_takesZone 25 = .ok (.invokevirtual 151, 3) := by decide +kernel
theorem dX6_takesZone_28 : decode cX6_takesZone 28 = .ok (.aload_n 0, 1) := by decide +kernel
theorem dX6_takesZone_29 : decode cX6_takesZone 29 = .ok (.getfield 29, 3) := by decide +kernel
theorem dX6_takesZone_32 : decode cX6_takesZone 32 = .ok (.iload_n 1, 1) := by decide +kernel
theorem dX6_takesZone_33 : decode cX6_takesZone 33 = .ok (.bipush 6, 2) := by decide +kernel
theorem dX6_takesZone_35 : decode cX6_takesZone 35 = .ok (.iadd, 1) := by decide +kernel
theorem dX6_takesZone_36 : decode cX6_takesZone 36 = .ok (.aload_n 0, 1) := by decide +kernel
theorem dX6_takesZone_37 : decode cX6_takesZone 37 = .ok (.iconst 1, 1) := by decide +kernel
theorem dX6_takesZone_38 : decode cX6_takesZone 38 = .ok (.bipush 60, 2) := by decide +kernel
theorem dX6_takesZone_40 : decode cX6_takesZone 40 = .ok (.invokevirtual 145, 3) := by decide +kernel
theorem dX6_takesZone_43 : decode cX6_takesZone 43 = .ok (.iastore, 1) := by decide +kernel
theorem dX6_takesZone_44 : decode cX6_takesZone 44 = .ok (.aload_n 0, 1) := by decide +kernel
theorem dX6_takesZone_45 : decode cX6_takesZone 45 = .ok (.getfield 29, 3) := by decide +kernel
theorem dX6_takesZone_48 : decode cX6_takesZone 48 = .ok (.iload_n 1, 1) := by decide +kernel
theorem dX6_takesZone_49 : decode cX6_takesZone 49 = .ok (.iconst 4, 1) := by decide +kernel
theorem dX6_takesZone_50 : decode cX6_takesZone 50 = .ok (.iadd, 1) := by decide +kernel
theorem dX6_takesZone_51 : decode cX6_takesZone 51 = .ok (.aload_n 0, 1) := by decide +kernel
theorem dX6_takesZone_52 : decode cX6_takesZone 52 = .ok (.bipush 103, 2) := by decide +kernel
theorem dX6_takesZone_54 : decode cX6_takesZone 54 = .ok (.iconst 3, 1) := by decide +kernel
theorem dX6_takesZone_55 : decode cX6_takesZone 55 = .ok (.invokevirtual 154, 3) := by decide +kernel
theorem dX6_takesZone_58 : decode cX6_takesZone 58 = .ok (.iastore, 1) := by decide +kernel
theorem dX6_takesZone_59 : decode cX6_takesZone 59 = .ok (.aload_n 0, 1) := by decide +kernel
theorem dX6_takesZone_60 : decode cX6_takesZone 60 = .ok (.getfield 29, 3) := by decide +kernel
theorem dX6_takesZone_63 : decode cX6_takesZone 63 = .ok (.iload_n 1, 1) := by decide +kernel
theorem dX6_takesZone_64 : decode cX6_takesZone 64 = .ok (.iconst 5, 1) := by decide +kernel
theorem dX6_takesZone_65 : decode cX6_takesZone 65 = .ok (.iadd, 1) := by decide +kernel
theorem dX6_takesZone_66 : decode cX6_takesZone 66 = .ok (.aload_n 0, 1) := by decide +kernel
theorem dX6_takesZone_67 : decode cX6_takesZone 67 = .ok (.bipush 114, 2) := by decide +kernel
theorem dX6_takesZone_69 : decode cX6_takesZone 69 = .ok (.iconst 4, 1) := by decide +kernel
theorem dX6_takesZone_70 : decode cX6_takesZone 70 = .ok (.invokevirtual 154, 3) := by decide +kernel
theorem dX6_takesZone_73 : decode cX6_takesZone 73 = .ok (.iastore, 1) := by decide +kernel
theorem dX6_takesZone_74 : decode cX6_takesZone 74 = .ok (.aload_n 0, 1) := by decide +kernel
theorem dX6_takesZone_75 : decode cX6_takesZone 75 = .ok (.dup, 1) := by decide +kernel
theorem dX6_takesZone_76 : decode cX6_takesZone 76 = .ok (.getfield 148, 3) := by decide +kernel
theorem dX6_takesZone_79 : decode cX6_takesZone 79 = .ok (.iconst 1, 1) := by decide +kernel
theorem dX6_takesZone_80 : decode cX6_takesZone 80 = .ok (.iadd, 1) := by decide +kernel
theorem dX6_takesZone_81 : decode cX6_takesZone 81 = .ok (.putfield 148, 3) := by decide +kernel
theorem dX6_takesZone_84 : decode cX6_takesZone 84 = .ok (.return_, 1) := by decide +kernel
set_option maxRecDepth 20000 in
theorem ggX6_areZones_X6_takesZone : GoodIn wsX6_areZones wsX6_takesZone := goodIn_r _ [9, 3, 10, 11, 12, 13, 8, 14, 15, 16, 17, 18, 2, 1, 19, 20, 21, 22, 4, 23, 24, 25, 26, 27, 28, 29, 30, 31, 32, 33, 34, 35, 36, 37, 38, 39, 40, 41, 42, 43, 44, 45, 46, 47, 48, 49, 50, 51, 52, 53, 54] (by decide +kernel) (by decide +kernel)
set_option maxRecDepth 20000 in
theorem gX6_areZones_X6_takesZone : GoodIn wsX6_areZones (wsV RX6 157 RX6 yX6_takesZone wsX6_takesZone) := goodIn_app (goodIn_of _ (by decide +kernel)) ggX6_areZones_X6_takesZone
set_option maxRecDepth 20000 in
theorem ggX6_areZones_X6_here : GoodIn wsX6_areZones wsX6_here := goodIn_r _ [22, 1, 4, 23, 38, 39, 40, 41, 42, 43, 44, 45, 46, 47, 48, 49, 50, 51, 52, 53, 54] (by decide +kernel) (by decide +kernel)
set_option maxRecDepth 20000 in
theorem gX6_areZones_X6_here : GoodIn wsX6_areZones (wsV RX6 135 RX6 yX6_here wsX6_here) := goodIn_app (goodIn_of _ (by decide +kernel)) ggX6_areZones_X6_here
set_option maxRecDepth 20000 in
theorem ggX6_areZones_X6_takes : GoodIn wsX6_areZones wsX6_takes := goodIn_r _ [33, 2, 1, 38, 39, 40, 41, 42, 43, 44, 45, 46, 47, 48, 49, 50, 51, 52, 53, 54] (by decide +kernel) (by decide +kernel)
set_option maxRecDepth 20000 in
theorem gX6_areZones_X6_takes : GoodIn wsX6_areZones (wsV RX6 141 RX6 yX6_takes wsX6_takes) := goodIn_app (goodIn_of _ (by decide +kernel)) ggX6_areZones_X6_takes
theorem dX6_areZones_0 : decode cX6_areZones 0 = .ok (.aload_n 0, 1) := by decide +kernel
theorem dX6_areZones_1 : decode cX6_areZones 1 = .ok (.iconst 0, 1) := by decide +kernel
theorem dX6_areZones_2 : decode cX6_areZones 2 = .ok (.putfield 128, 3) := by decide +kernel
theorem dX6_areZones_5 : decode cX6_areZones 5 = .ok (.aload_n 0, 1) := by decide +kernel
theorem dX6_areZones_6 : decode cX6_areZones 6 = .ok (.iconst 1, 1) := by decide +kernel
theorem dX6_areZones_7 : decode cX6_areZones 7 = .ok (.putfield 131, 3) := by decide +kernel
theorem dX6_areZones_10 : decode cX6_areZones 10 = .ok (.aload_n 0, 1) := by decide +kernel
theorem dX6_areZones_11 : decode cX6_areZones 11 = .ok (.iconst 0, 1) := by decide +kernel
theorem dX6_areZones_12 : decode cX6_areZones 12 = .ok (.putfield 148, 3) := by decide +kernel
theorem dX6_areZones_15 : decode cX6_areZones 15 = .ok (.aload_n 0, 1) := by decide +kernel
theorem dX6_areZones_16 : decode cX6_areZones 16 = .ok (.invokevirtual 157, 3) := by decide +kernel
theorem dX6_areZones_19 : decode cX6_areZones 19 = .ok (.aload_n 0, 1) := by decide +kernel
theorem dX6_areZones_20 : decode cX6_areZones 20 = .ok (.getfield 131, 3) := by decide +kernel
theorem dX6_areZones_23 : decode cX6_areZones 23 = .ok (.ifCond .eq 46, 3) := by decide +kernel
theorem dX6_areZones_26 : decode cX6_areZones 26 = .ok (.aload_n 0, 1) := by decide +kernel
theorem dX6_areZones_27 : decode cX6_areZones 27 = .ok (.getfield 128, 3) := by decide +kernel
theorem dX6_areZones_30 : decode cX6_areZones 30 = .ok (.aload_n 0, 1) := by decide +kernel
theorem dX6_areZones_31 : decode cX6_areZones 31 = .ok (.getfield 125, 3) := by decide +kernel
theorem dX6_areZones_34 : decode cX6_areZones 34 = .ok (.if_icmp .ge 35, 3) := by decide +kernel
theorem dX6_areZones_37 : decode cX6_areZones 37 = .ok (.aload_n 0, 1) := by decide +kernel
theorem dX6_areZones_38 : decode cX6_areZones 38 = .ok (.aload_n 0, 1) := by decide +kernel
theorem dX6_areZones_39 : decode cX6_areZones 39 = .ok (.invokevirtual 135, 3) := by decide +kernel
theorem dX6_areZones_42 : decode cX6_areZones 42 = .ok (.bipush 59, 2) := by decide +kernel
theorem dX6_areZones_44 : decode cX6_areZones 44 = .ok (.if_icmp .ne 7, 3) := by decide +kernel
theorem dX6_areZones_47 : decode cX6_areZones 47 = .ok (.iconst 1, 1) := by decide +kernel
theorem dX6_areZones_48 : decode cX6_areZones 48 = .ok (.goto 4, 3) := by decide +kernel
theorem dX6_areZones_51 : decode cX6_areZones 51 = .ok (.iconst 0, 1) := by decide +kernel
theorem dX6_areZones_52 : decode cX6_areZones 52 = .ok (.invokevirtual 141, 3) := by decide +kernel
theorem dX6_areZones_55 : decode cX6_areZones 55 = .ok (.aload_n 0, 1) := by decide +kernel
theorem dX6_areZones_56 : decode cX6_areZones 56 = .ok (.getfield 131, 3) := by decide +kernel
theorem dX6_areZones_59 : decode cX6_areZones 59 = .ok (.ifCond .eq (-40), 3) := by decide +kernel
theorem dX6_areZones_62 : decode cX6_areZones 62 = .ok (.aload_n 0, 1) := by decide +kernel
theorem dX6_areZones_63 : decode cX6_areZones 63 = .ok (.invokevirtual 157, 3) := by decide +kernel
theorem dX6_areZones_66 : decode cX6_areZones 66 = .ok (.goto (-47), 3) := by decide +kernel
theorem dX6_areZones_69 : decode cX6_areZones 69 = .ok (.aload_n 0, 1) := by decide +kernel
theorem dX6_areZones_70 : decode cX6_areZones 70 = .ok (.getfield 131, 3) := by decide +kernel
theorem dX6_areZones_73 : decode cX6_areZones 73 = .ok (.ireturn, 1) := by decide +kernel
set_option maxRecDepth 20000 in
theorem ggX6_takesDeed_X6_here : GoodIn wsX6_takesDeed wsX6_here := goodIn_r _ [8, 9, 10, 11, 27, 28, 29, 30, 31, 32, 33, 34, 35, 36, 37, 38, 39, 40, 41, 42, 43] (by decide +kernel) (by decide +kernel)
set_option maxRecDepth 20000 in
theorem gX6_takesDeed_X6_here : GoodIn wsX6_takesDeed (wsV RX6 135 RX6 yX6_here wsX6_here) := goodIn_app (goodIn_of _ (by decide +kernel)) ggX6_takesDeed_X6_here
set_option maxRecDepth 20000 in
theorem ggX6_takesDeed_X6_takes : GoodIn wsX6_takesDeed wsX6_takes := goodIn_r _ [15, 16, 9, 27, 28, 29, 30, 31, 32, 33, 34, 35, 36, 37, 38, 39, 40, 41, 42, 43] (by decide +kernel) (by decide +kernel)
set_option maxRecDepth 20000 in
theorem gX6_takesDeed_X6_takes : GoodIn wsX6_takesDeed (wsV RX6 141 RX6 yX6_takes wsX6_takes) := goodIn_app (goodIn_of _ (by decide +kernel)) ggX6_takesDeed_X6_takes
set_option maxRecDepth 20000 in
theorem ggX6_takesDeed_X6_takesNumber : GoodIn wsX6_takesDeed wsX6_takesNumber := goodIn_r _ [20, 16, 9, 4, 5, 6, 7, 8, 10, 11, 21, 22, 23, 24, 25, 26, 12, 13, 14, 15, 27, 28, 29, 30, 31, 32, 33, 34, 35, 36, 37, 38, 39, 40, 41, 42, 43] (by decide +kernel) (by decide +kernel)
set_option maxRecDepth 20000 in
theorem gX6_takesDeed_X6_takesNumber : GoodIn wsX6_takesDeed (wsV RX6 145 RX6 yX6_takesNumber wsX6_takesNumber) := goodIn_app (goodIn_of _ (by decide +kernel)) ggX6_takesDeed_X6_takesNumber
theorem dX6_takesDeed_0 : decode cX6_takesDeed 0 = .ok (.aload_n 0, 1) := by decide +kernel
theorem dX6_takesDeed_1 : decode cX6_takesDeed 1 = .ok (.aload_n 0, 1) := by decide +kernel
theorem dX6_takesDeed_2 : decode cX6_takesDeed 2 = .ok (.invokevirtual 135, 3) := by decide +kernel
theorem dX6_takesDeed_5 : decode cX6_takesDeed 5 = .ok (.putfield 160, 3) := by decide +kernel
theorem dX6_takesDeed_8 : decode cX6_takesDeed 8 = .ok (.aload_n 0, 1) := by decide +kernel
theorem dX6_takesDeed_9 : decode cX6_takesDeed 9 = .ok (.aload_n 0, 1) := by decide +kernel
theorem dX6_takesDeed_10 : decode cX6_takesDeed 10 = .ok (.getfield 160, 3) := by decide +kernel
theorem dX6_takesDeed_13 : decode cX6_takesDeed 13 = .ok (.bipush 110, 2) := by decide +kernel
theorem dX6_takesDeed_15 : decode cX6_takesDeed 15 = .ok (.if_icmp .eq 30, 3) := by decide +kernel
theorem dX6_takesDeed_18 : decode cX6_takesDeed 18 = .ok (.aload_n 0, 1) := by decide +kernel
theorem dX6_takesDeed_19 : decode cX6_takesDeed 19 = .ok (.getfield 160, 3) := by decide +kernel
theorem dX6_takesDeed_22 : decode cX6_takesDeed 22 = .ok (.bipush 111, 2) := by decide +kernel
theorem dX6_takesDeed_24 : decode cX6_takesDeed 24 = .ok (.if_icmp .eq 21, 3) := by decide +kernel
theorem dX6_takesDeed_27 : decode cX6_takesDeed 27 = .ok (.aload_n 0, 1) := by decide +kernel
theorem dX6_takesDeed_28 : decode cX6_takesDeed 28 = .ok (.getfield 160, 3) := by decide +kernel
theorem dX6_takesDeed_31 : decode cX6_takesDeed 31 = .ok (.bipush 112, 2) := by decide +kernel
theorem dX6_takesDeed_33 : decode cX6_takesDeed 33 = .ok (.if_icmp .eq 12, 3) := by decide +kernel
theorem dX6_takesDeed_36 : decode cX6_takesDeed 36 = .ok (.aload_n 0, 1) := by decide +kernel
theorem dX6_takesDeed_37 : decode cX6_takesDeed 37 = .ok (.getfield 160, 3) := by decide +kernel
theorem dX6_takesDeed_40 : decode cX6_takesDeed 40 = .ok (.bipush 116, 2) := by decide +kernel
theorem dX6_takesDeed_42 : decode cX6_takesDeed 42 = .ok (.if_icmp .ne 7, 3) := by decide +kernel
theorem dX6_takesDeed_45 : decode cX6_takesDeed 45 = .ok (.iconst 1, 1) := by decide +kernel
theorem dX6_takesDeed_46 : decode cX6_takesDeed 46 = .ok (.goto 4, 3) := by decide +kernel
theorem dX6_takesDeed_49 : decode cX6_takesDeed 49 = .ok (.iconst 0, 1) := by decide +kernel
theorem dX6_takesDeed_50 : decode cX6_takesDeed 50 = .ok (.invokevirtual 141, 3) := by decide +kernel
theorem dX6_takesDeed_53 : decode cX6_takesDeed 53 = .ok (.aload_n 0, 1) := by decide +kernel
theorem dX6_takesDeed_54 : decode cX6_takesDeed 54 = .ok (.getfield 160, 3) := by decide +kernel
theorem dX6_takesDeed_57 : decode cX6_takesDeed 57 = .ok (.bipush 110, 2) := by decide +kernel
theorem dX6_takesDeed_59 : decode cX6_takesDeed 59 = .ok (.if_icmp .eq 12, 3) := by decide +kernel
theorem dX6_takesDeed_62 : decode cX6_takesDeed 62 = .ok (.aload_n 0, 1) := by decide +kernel
theorem dX6_takesDeed_63 : decode cX6_takesDeed 63 = .ok (.getfield 160, 3) := by decide +kernel
theorem dX6_takesDeed_66 : decode cX6_takesDeed 66 = .ok (.bipush 111, 2) := by decide +kernel
theorem dX6_takesDeed_68 : decode cX6_takesDeed 68 = .ok (.if_icmp .ne 14, 3) := by decide +kernel
theorem dX6_takesDeed_71 : decode cX6_takesDeed 71 = .ok (.aload_n 0, 1) := by decide +kernel
theorem dX6_takesDeed_72 : decode cX6_takesDeed 72 = .ok (.aload_n 0, 1) := by decide +kernel
theorem dX6_takesDeed_73 : decode cX6_takesDeed 73 = .ok (.iconst 0, 1) := by decide +kernel
theorem dX6_takesDeed_74 : decode cX6_takesDeed 74 = .ok (.bipush 35, 2) := by decide +kernel
theorem dX6_takesDeed_76 : decode cX6_takesDeed 76 = .ok (.invokevirtual 145, 3) := by decide +kernel
theorem dX6_takesDeed_79 : decode cX6_takesDeed 79 = .ok (.putfield 163, 3) := by decide +kernel
theorem dX6_takesDeed_82 : decode cX6_takesDeed 82 = .ok (.aload_n 0, 1) := by decide +kernel
theorem dX6_takesDeed_83 : decode cX6_takesDeed 83 = .ok (.getfield 160, 3) := by decide +kernel
theorem dX6_takesDeed_86 : decode cX6_takesDeed 86 = .ok (.bipush 110, 2) := by decide +kernel
theorem dX6_takesDeed_88 : decode cX6_takesDeed 88 = .ok (.if_icmp .ne 32, 3) := by decide +kernel
theorem dX6_takesDeed_91 : decode cX6_takesDeed 91 = .ok (.aload_n 0, 1) := by decide +kernel
theorem dX6_takesDeed_92 : decode cX6_takesDeed 92 = .ok (.aload_n 0, 1) := by decide +kernel
theorem dX6_takesDeed_93 : decode cX6_takesDeed 93 = .ok (.invokevirtual 135, 3) := by decide +kernel
theorem dX6_takesDeed_96 : decode cX6_takesDeed 96 = .ok (.bipush 46, 2) := by decide +kernel
theorem dX6_takesDeed_98 : decode cX6_takesDeed 98 = .ok (.if_icmp .ne 7, 3) := by decide +kernel
theorem dX6_takesDeed_101 : decode cX6_takesDeed 101 = .ok (.iconst 1, 1) := by decide +kernel
theorem dX6_takesDeed_102 : decode cX6_takesDeed 102 = .ok (.goto 4, 3) := by decide +kernel
theorem dX6_takesDeed_105 : decode cX6_takesDeed 105 = .ok (.iconst 0, 1) := by decide +kernel
theorem dX6_takesDeed_106 : decode cX6_takesDeed 106 = .ok (.invokevirtual 141, 3) := by decide +kernel
theorem dX6_takesDeed_109 : decode cX6_takesDeed 109 = .ok (.aload_n 0, 1) := by decide +kernel
theorem dX6_takesDeed_110 : decode cX6_takesDeed 110 = .ok (.aload_n 0, 1) := by decide +kernel
theorem dX6_takesDeed_111 : decode cX6_takesDeed 111 = .ok (.iconst 1, 1) := by decide +kernel
theorem dX6_takesDeed_112 : decode cX6_takesDeed 112 = .ok (.bipush 9, 2) := by decide +kernel
theorem dX6_takesDeed_114 : decode cX6_takesDeed 114 = .ok (.invokevirtual 145, 3) := by decide +kernel
theorem dX6_takesDeed_117 : decode cX6_takesDeed 117 = .ok (.putfield 166, 3) := by decide +kernel
theorem dX6_takesDeed_120 : decode cX6_takesDeed 120 = .ok (.aload_n 0, 1) := by decide +kernel
theorem dX6_takesDeed_121 : decode cX6_takesDeed 121 = .ok (.getfield 160, 3) := by decide +kernel
theorem dX6_takesDeed_124 : decode cX6_takesDeed 124 = .ok (.bipush 116, 2) := by decide +kernel
theorem dX6_takesDeed_126 : decode cX6_takesDeed 126 = .ok (.if_icmp .ne 14, 3) := by decide +kernel
theorem dX6_takesDeed_129 : decode cX6_takesDeed 129 = .ok (.aload_n 0, 1) := by decide +kernel
theorem dX6_takesDeed_130 : decode cX6_takesDeed 130 = .ok (.aload_n 0, 1) := by decide +kernel
theorem dX6_takesDeed_131 : decode cX6_takesDeed 131 = .ok (.iconst 1, 1) := by decide +kernel
theorem dX6_takesDeed_132 : decode cX6_takesDeed 132 = .ok (.bipush 99, 2) := by decide +kernel
theorem dX6_takesDeed_134 : decode cX6_takesDeed 134 = .ok (.invokevirtual 145, 3) := by decide +kernel
theorem dX6_takesDeed_137 : decode cX6_takesDeed 137 = .ok (.putfield 163, 3) := by decide +kernel
theorem dX6_takesDeed_140 : decode cX6_takesDeed 140 = .ok (.return_, 1) := by decide +kernel
set_option maxRecDepth 20000 in
theorem ggX6_isScore_X6_takesDeed : GoodIn wsX6_isScore wsX6_takesDeed := goodIn_r _ [8, 9, 10, 11, 12, 13, 14, 7, 15, 1, 3, 16, 17, 18, 19, 20, 2, 21, 22, 23, 24, 25, 26, 27, 28, 29, 30, 31, 32, 33, 34, 35, 36, 37, 38, 39, 40, 41, 42, 43, 44, 45, 46, 47] (by decide +kernel) (by decide +kernel)
set_option maxRecDepth 20000 in
theorem gX6_isScore_X6_takesDeed : GoodIn wsX6_isScore (wsV RX6 169 RX6 yX6_takesDeed wsX6_takesDeed) := goodIn_app (goodIn_of _ (by decide +kernel)) ggX6_isScore_X6_takesDeed
set_option maxRecDepth 20000 in
theorem ggX6_isScore_X6_here : GoodIn wsX6_isScore wsX6_here := goodIn_r _ [15, 1, 3, 16, 31, 32, 33, 34, 35, 36, 37, 38, 39, 40, 41, 42, 43, 44, 45, 46, 47] (by decide +kernel) (by decide +kernel)
set_option maxRecDepth 20000 in
theorem gX6_isScore_X6_here : GoodIn wsX6_isScore (wsV RX6 135 RX6 yX6_here wsX6_here) := goodIn_app (goodIn_of _ (by decide +kernel)) ggX6_isScore_X6_here
set_option maxRecDepth 20000 in
theorem ggX6_isScore_X6_takes : GoodIn wsX6_isScore wsX6_takes := goodIn_r _ [20, 2, 1, 31, 32, 33, 34, 35, 36, 37, 38, 39, 40, 41, 42, 43, 44, 45, 46, 47] (by decide +kernel) (by decide +kernel)
set_option maxRecDepth 20000 in
theorem gX6_isScore_X6_takes : GoodIn wsX6_isScore (wsV RX6 141 RX6 yX6_takes wsX6_takes) := goodIn_app (goodIn_of _ (by decide +kernel)) ggX6_isScore_X6_takes
theorem dX6_isScore_0 : decode cX6_isScore 0 = .ok (.aload_n 0, 1) := by decide +kernel
theorem dX6_isScore_1 : decode cX6_isScore 1 = .ok (.iconst 0, 1) := by decide +kernel
theorem dX6_isScore_2 : decode cX6_isScore 2 = .ok (.putfield 128, 3) := by decide +kernel
theorem dX6_isScore_5 : decode cX6_isScore 5 = .ok (.aload_n 0, 1) := by decide +kernel
theorem dX6_isScore_6 : decode cX6_isScore 6 = .ok (.iconst 1, 1) := by decide +kernel
theorem dX6_isScore_7 : decode cX6_isScore 7 = .ok (.putfield 131, 3) := by decide +kernel
theorem dX6_isScore_10 : decode cX6_isScore 10 = .ok (.aload_n 0, 1) := by decide +kernel
theorem dX6_isScore_11 : decode cX6_isScore 11 = .ok (.invokevirtual 169, 3) := by decide +kernel
theorem dX6_isScore_14 : decode cX6_isScore 14 = .ok (.aload_n 0, 1) := by decide +kernel
theorem dX6_isScore_15 : decode cX6_isScore 15 = .ok (.getfield 131, 3) := by decide +kernel
theorem dX6_isScore_18 : decode cX6_isScore 18 = .ok (.ifCond .eq 46, 3) := by decide +kernel
theorem dX6_isScore_21 : decode cX6_isScore 21 = .ok (.aload_n 0, 1) := by decide +kernel
theorem dX6_isScore_22 : decode cX6_isScore 22 = .ok (.getfield 128, 3) := by decide +kernel
theorem dX6_isScore_25 : decode cX6_isScore 25 = .ok (.aload_n 0, 1) := by decide +kernel
theorem dX6_isScore_26 : decode cX6_isScore 26 = .ok (.getfield 125, 3) := by decide +kernel
theorem dX6_isScore_29 : decode cX6_isScore 29 = .ok (.if_icmp .ge 35, 3) := by decide +kernel
theorem dX6_isScore_32 : decode cX6_isScore 32 = .ok (.aload_n 0, 1) := by decide +kernel
theorem dX6_isScore_33 : decode cX6_isScore 33 = .ok (.aload_n 0, 1) := by decide +kernel
theorem dX6_isScore_34 : decode cX6_isScore 34 = .ok (.invokevirtual 135, 3) := by decide +kernel
theorem dX6_isScore_37 : decode cX6_isScore 37 = .ok (.bipush 59, 2) := by decide +kernel
theorem dX6_isScore_39 : decode cX6_isScore 39 = .ok (.if_icmp .ne 7, 3) := by decide +kernel
theorem dX6_isScore_42 : decode cX6_isScore 42 = .ok (.iconst 1, 1) := by decide +kernel
theorem dX6_isScore_43 : decode cX6_isScore 43 = .ok (.goto 4, 3) := by decide +kernel
theorem dX6_isScore_46 : decode cX6_isScore 46 = .ok (.iconst 0, 1) := by decide +kernel
theorem dX6_isScore_47 : decode cX6_isScore 47 = .ok (.invokevirtual 141, 3) := by decide +kernel
theorem dX6_isScore_50 : decode cX6_isScore 50 = .ok (.aload_n 0, 1) := by decide +kernel
theorem dX6_isScore_51 : decode cX6_isScore 51 = .ok (.getfield 131, 3) := by decide +kernel
theorem dX6_isScore_54 : decode cX6_isScore 54 = .ok (.ifCond .eq (-40), 3) := by decide +kernel
theorem dX6_isScore_57 : decode cX6_isScore 57 = .ok (.aload_n 0, 1) := by decide +kernel
theorem dX6_isScore_58 : decode cX6_isScore 58 = .ok (.invokevirtual 169, 3) := by decide +kernel
theorem dX6_isScore_61 : decode cX6_isScore 61 = .ok (.goto (-47), 3) := by decide +kernel
theorem dX6_isScore_64 : decode cX6_isScore 64 = .ok (.aload_n 0, 1) := by decide +kernel
theorem dX6_isScore_65 : decode cX6_isScore 65 = .ok (.getfield 131, 3) := by decide +kernel
theorem dX6_isScore_68 : decode cX6_isScore 68 = .ok (.ireturn, 1) := by decide +kernel
set_option maxRecDepth 20000 in
theorem ggX6_fault_X6_in : GoodIn wsX6_fault wsX6_in := goodIn_r _ [5] (by decide +kernel) (by decide +kernel)
set_option maxRecDepth 20000 in
theorem gX6_fault_X6_in : GoodIn wsX6_fault (va_wsS RX6 40 yX6_in wsX6_in) := goodIn_app (goodIn_of _ (by decide +kernel)) ggX6_fault_X6_in
set_option maxRecDepth 20000 in
theorem ggX6_fault_X6_areZones : GoodIn wsX6_fault wsX6_areZones := goodIn_r _ [9, 1, 10, 11, 12, 13, 14, 15, 4, 16, 17, 18, 19, 20, 21, 22, 23, 24, 25, 26, 27, 28, 29, 30, 2, 3, 5, 31, 32, 33, 34, 35, 36, 37, 38, 39, 40, 41, 53, 54, 55, 56, 57, 58, 59, 60, 61, 62, 63, 64, 65, 66, 67, 68, 69] (by decide +kernel) (by decide +kernel)
set_option maxRecDepth 20000 in
theorem gX6_fault_X6_areZones : GoodIn wsX6_fault (wsV RX6 172 RX6 yX6_areZones wsX6_areZones) := goodIn_app (goodIn_of _ (by decide +kernel)) ggX6_fault_X6_areZones
set_option maxRecDepth 20000 in
theorem ggX6_fault_X6_isScore : GoodIn wsX6_fault wsX6_isScore := goodIn_r _ [45, 1, 10, 12, 46, 47, 48, 4, 49, 50, 51, 52, 26, 27, 28, 29, 30, 34, 35, 36, 37, 22, 23, 24, 25, 2, 3, 5, 31, 32, 33, 53, 54, 55, 56, 57, 58, 59, 60, 61, 62, 63, 64, 65, 66, 67, 68, 69] (by decide +kernel) (by decide +kernel)
set_option maxRecDepth 20000 in
theorem gX6_fault_X6_isScore : GoodIn wsX6_fault (wsV RX6 176 RX6 yX6_isScore wsX6_isScore) := goodIn_app (goodIn_of _ (by decide +kernel)) ggX6_fault_X6_isScore
theorem dX6_fault_0 : decode cX6_fault 0 = .ok (.iload_n 1, 1) := by decide +kernel
theorem dX6_fault_1 : decode cX6_fault 1 = .ok (.iconst 0, 1) := by decide +kernel
theorem dX6_fault_2 : decode cX6_fault 2 = .ok (.iconst 1, 1) := by decide +kernel
theorem dX6_fault_3 : decode cX6_fault 3 = .ok (.invokestatic 40, 3) := by decide +kernel
theorem dX6_fault_6 : decode cX6_fault 6 = .ok (.ifCond .ne 5, 3) := by decide +kernel
theorem dX6_fault_9 : decode cX6_fault 9 = .ok (.iconst (-1), 1) := by decide +kernel
theorem dX6_fault_10 : decode cX6_fault 10 = .ok (.ireturn, 1) := by decide +kernel
theorem dX6_fault_11 : decode cX6_fault 11 = .ok (.iload_n 1, 1) := by decide +kernel
theorem dX6_fault_12 : decode cX6_fault 12 = .ok (.ifCond .ne 13, 3) := by decide +kernel
theorem dX6_fault_15 : decode cX6_fault 15 = .ok (.aload_n 0, 1) := by decide +kernel
theorem dX6_fault_16 : decode cX6_fault 16 = .ok (.invokevirtual 172, 3) := by decide +kernel
theorem dX6_fault_19 : decode cX6_fault 19 = .ok (.ifCond .eq 18, 3) := by decide +kernel
theorem dX6_fault_22 : decode cX6_fault 22 = .ok (.goto 10, 3) := by decide +kernel
theorem dX6_fault_25 : decode cX6_fault 25 = .ok (.aload_n 0, 1) := by decide +kernel
theorem dX6_fault_26 : decode cX6_fault 26 = .ok (.invokevirtual 176, 3) := by decide +kernel
theorem dX6_fault_29 : decode cX6_fault 29 = .ok (.ifCond .eq 8, 3) := by decide +kernel
theorem dX6_fault_32 : decode cX6_fault 32 = .ok (.bipush (-4), 2) := by decide +kernel
theorem dX6_fault_34 : decode cX6_fault 34 = .ok (.goto 7, 3) := by decide +kernel
theorem dX6_fault_37 : decode cX6_fault 37 = .ok (.aload_n 0, 1) := by decide +kernel
theorem dX6_fault_38 : decode cX6_fault 38 = .ok (.getfield 128, 3) := by decide +kernel
theorem dX6_fault_41 : decode cX6_fault 41 = .ok (.ireturn, 1) := by decide +kernel
set_option maxRecDepth 20000 in
theorem ggX6_load_X6_areZones : GoodIn wsX6_load wsX6_areZones := goodIn_r _ [9, 10, 11, 2, 4, 12, 13, 14, 8, 15, 3, 16, 17, 18, 19, 20, 21, 22, 23, 24, 25, 26, 27, 28, 29, 30, 31, 32, 33, 34, 35, 36, 37, 38, 39, 40, 41, 42, 60, 61, 62, 63, 64, 65, 66, 67, 68, 69, 70, 71, 72, 73, 74, 75, 76] (by decide +kernel) (by decide +kernel)
set_option maxRecDepth 20000 in
theorem gX6_load_X6_areZones : GoodIn wsX6_load (wsV RX6 172 RX6 yX6_areZones wsX6_areZones) := goodIn_app (goodIn_of _ (by decide +kernel)) ggX6_load_X6_areZones
set_option maxRecDepth 20000 in
theorem ggX6_load_X6_records : GoodIn wsX6_load wsX6_records := goodIn_r _ [46, 47, 48, 1, 49, 50, 8, 51, 60, 61, 62, 63, 64, 65, 66, 67, 68, 69, 70, 71, 72, 73, 74, 75, 76] (by decide +kernel) (by decide +kernel)
set_option maxRecDepth 20000 in
theorem gX6_load_X6_records : GoodIn wsX6_load (wsV RX6 92 RX6 yX6_records wsX6_records) := goodIn_app (goodIn_of _ (by decide +kernel)) ggX6_load_X6_records
set_option maxRecDepth 20000 in
theorem ggX6_load_X6_addsZone : GoodIn wsX6_load wsX6_addsZone := goodIn_r _ [55, 1, 56, 57, 58, 8, 59, 60, 61, 62, 63, 64, 65, 66, 67, 68, 69, 70, 71, 72, 73, 74, 75, 76] (by decide +kernel) (by decide +kernel)
set_option maxRecDepth 20000 in
theorem gX6_load_X6_addsZone : GoodIn wsX6_load (wsV RX6 95 RX6 yX6_addsZone wsX6_addsZone) := goodIn_app (goodIn_of _ (by decide +kernel)) ggX6_load_X6_addsZone
set_option maxRecDepth 20000 in
theorem ggX6_load_X6_laysZone : GoodIn wsX6_load wsX6_laysZone := goodIn_r _ [59, 1, 60, 61, 62, 63, 64, 65, 66, 67, 68, 69, 70, 71, 72, 73, 74, 75, 76] (by decide +kernel) (by decide +kernel)
set_option maxRecDepth 20000 in
theorem gX6_load_X6_laysZone : GoodIn wsX6_load (wsV RX6 89 RX6 yX6_laysZone wsX6_laysZone) := goodIn_app (goodIn_of _ (by decide +kernel)) ggX6_load_X6_laysZone
theorem dX6_load_0 : decode cX6_load 0 = .ok (.aload_n 0, 1) := by decide +kernel
theorem dX6_load_1 : decode cX6_load 1 = .ok (.invokevirtual 172, 3) := by decide +kernel
theorem dX6_load_4 : decode cX6_load 4 = .ok (.ifCond .ne 6, 3) := by decide +kernel
theorem dX6_load_7 : decode cX6_load 7 = .ok (.bipush (-2), 2) := by decide +kernel
theorem dX6_load_9 : decode cX6_load 9 = .ok (.ireturn, 1) := by decide +kernel
theorem dX6_load_10 : decode cX6_load 10 = .ok (.aload_n 0, 1) := by decide +kernel
theorem dX6_load_11 : decode cX6_load 11 = .ok (.getfield 7, 3) := by decide +kernel
theorem dX6_load_14 : decode cX6_load 14 = .ok (.iconst 0, 1) := by decide +kernel
theorem dX6_load_15 : decode cX6_load 15 = .ok (.iaload, 1) := by decide +kernel
theorem dX6_load_16 : decode cX6_load 16 = .ok (.aload_n 0, 1) := by decide +kernel
theorem dX6_load_17 : decode cX6_load 17 = .ok (.getfield 148, 3) := by decide +kernel
theorem dX6_load_20 : decode cX6_load 20 = .ok (.iadd, 1) := by decide +kernel
theorem dX6_load_21 : decode cX6_load 21 = .ok (.bipush 10, 2) := by decide +kernel
theorem dX6_load_23 : decode cX6_load 23 = .ok (.if_icmp .le 6, 3) := by decide +kernel
theorem dX6_load_26 : decode cX6_load 26 = .ok (.bipush (-3), 2) := by decide +kernel
theorem dX6_load_28 : decode cX6_load 28 = .ok (.ireturn, 1) := by decide +kernel
theorem dX6_load_29 : decode cX6_load 29 = .ok (.aload_n 0, 1) := by decide +kernel
theorem dX6_load_30 : decode cX6_load 30 = .ok (.invokevirtual 92, 3) := by decide +kernel
theorem dX6_load_33 : decode cX6_load 33 = .ok (.iconst 0, 1) := by decide +kernel
theorem dX6_load_34 : decode cX6_load 34 = .ok (.istore_n 1, 1) := by decide +kernel
theorem dX6_load_35 : decode cX6_load 35 = .ok (.iload_n 1, 1) := by decide +kernel
theorem dX6_load_36 : decode cX6_load 36 = .ok (.aload_n 0, 1) := by decide +kernel
theorem dX6_load_37 : decode cX6_load 37 = .ok (.getfield 148, 3) := by decide +kernel
theorem dX6_load_40 : decode cX6_load 40 = .ok (.if_icmp .ge 113, 3) := by decide +kernel
theorem dX6_load_43 : decode cX6_load 43 = .ok (.bipush 7, 2) := by decide +kernel
theorem dX6_load_45 : decode cX6_load 45 = .ok (.iload_n 1, 1) := by decide +kernel
theorem dX6_load_46 : decode cX6_load 46 = .ok (.imul, 1) := by decide +kernel
theorem dX6_load_47 : decode cX6_load 47 = .ok (.istore_n 2, 1) := by decide +kernel
theorem dX6_load_48 : decode cX6_load 48 = .ok (.aload_n 0, 1) := by decide +kernel
theorem dX6_load_49 : decode cX6_load 49 = .ok (.aload_n 0, 1) := by decide +kernel
theorem dX6_load_50 : decode cX6_load 50 = .ok (.getfield 29, 3) := by decide +kernel
theorem dX6_load_53 : decode cX6_load 53 = .ok (.iload_n 2, 1) := by decide +kernel
theorem dX6_load_54 : decode cX6_load 54 = .ok (.iaload, 1) := by decide +kernel
theorem dX6_load_55 : decode cX6_load 55 = .ok (.aload_n 0, 1) := by decide +kernel
theorem dX6_load_56 : decode cX6_load 56 = .ok (.getfield 29, 3) := by decide +kernel
theorem dX6_load_59 : decode cX6_load 59 = .ok (.iload_n 2, 1) := by decide +kernel
theorem dX6_load_60 : decode cX6_load 60 = .ok (.iconst 1, 1) := by decide +kernel
theorem dX6_load_61 : decode cX6_load 61 = .ok (.iadd, 1) := by decide +kernel
theorem dX6_load_62 : decode cX6_load 62 = .ok (.iaload, 1) := by decide +kernel
theorem dX6_load_63 : decode cX6_load 63 = .ok (.aload_n 0, 1) := by decide +kernel
theorem dX6_load_64 : decode cX6_load 64 = .ok (.getfield 29, 3) := by decide +kernel
theorem dX6_load_67 : decode cX6_load 67 = .ok (.iload_n 2, 1) := by decide +kernel
theorem dX6_load_68 : decode cX6_load 68 = .ok (.iconst 2, 1) := by decide +kernel
theorem dX6_load_69 : decode cX6_load 69 = .ok (.iadd, 1) := by decide +kernel
theorem dX6_load_70 : decode cX6_load 70 = .ok (.iaload, 1) := by decide +kernel
theorem dX6_load_71 : decode cX6_load 71 = .ok (.aload_n 0, 1) := by decide +kernel
theorem dX6_load_72 : decode cX6_load 72 = .ok (.getfield 29, 3) := by decide +kernel
theorem dX6_load_75 : decode cX6_load 75 = .ok (.iload_n 2, 1) := by decide +kernel
theorem dX6_load_76 : decode cX6_load 76 = .ok (.iconst 3, 1) := by decide +kernel
theorem dX6_load_77 : decode cX6_load 77 = .ok (.iadd, 1) := by decide +kernel
theorem dX6_load_78 : decode cX6_load 78 = .ok (.iaload, 1) := by decide +kernel
theorem dX6_load_79 : decode cX6_load 79 = .ok (.invokevirtual 95, 3) := by decide +kernel
theorem dX6_load_82 : decode cX6_load 82 = .ok (.aload_n 0, 1) := by decide +kernel
theorem dX6_load_83 : decode cX6_load 83 = .ok (.aload_n 0, 1) := by decide +kernel
theorem dX6_load_84 : decode cX6_load 84 = .ok (.getfield 7, 3) := by decide +kernel
theorem dX6_load_87 : decode cX6_load 87 = .ok (.iconst 0, 1) := by decide +kernel
theorem dX6_load_88 : decode cX6_load 88 = .ok (.iaload, 1) := by decide +kernel
theorem dX6_load_89 : decode cX6_load 89 = .ok (.iconst 1, 1) := by decide +kernel
theorem dX6_load_90 : decode cX6_load 90 = .ok (.isub, 1) := by decide +kernel
theorem dX6_load_91 : decode cX6_load 91 = .ok (.iconst 4, 1) := by decide +kernel
theorem dX6_load_92 : decode cX6_load 92 = .ok (.aload_n 0, 1) := by decide +kernel
theorem dX6_load_93 : decode cX6_load 93 = .ok (.getfield 29, 3) := by decide +kernel
theorem dX6_load_96 : decode cX6_load 96 = .ok (.iload_n 2, 1) := by decide +kernel
theorem dX6_load_97 : decode cX6_load 97 = .ok (.iconst 4, 1) := by decide +kernel
theorem dX6_load_98 : decode cX6_load 98 = .ok (.iadd, 1) := by decide +kernel
theorem dX6_load_99 : decode cX6_load 99 = .ok (.iaload, 1) := by decide +kernel
theorem dX6_load_100 : decode cX6_load 100 = .ok (.invokevirtual 89, 3) := by decide +kernel
theorem dX6_load_103 : decode cX6_load 103 = .ok (.aload_n 0, 1) := by decide +kernel
theorem dX6_load_104 : decode cX6_load 104 = .ok (.aload_n 0, 1) := by decide +kernel
theorem dX6_load_105 : decode cX6_load 105 = .ok (.getfield 7, 3) := by decide +kernel
theorem dX6_load_108 : decode cX6_load 108 = .ok (.iconst 0, 1) := by decide +kernel
theorem dX6_load_109 : decode cX6_load 109 = .ok (.iaload, 1) := by decide +kernel
theorem dX6_load_110 : decode cX6_load 110 = .ok (.iconst 1, 1) := by decide +kernel
theorem dX6_load_111 : decode cX6_load 111 = .ok (.isub, 1) := by decide +kernel
theorem dX6_load_112 : decode cX6_load 112 = .ok (.iconst 5, 1) := by decide +kernel
theorem dX6_load_113 : decode cX6_load 113 = .ok (.aload_n 0, 1) := by decide +kernel
theorem dX6_load_114 : decode cX6_load 114 = .ok (.getfield 29, 3) := by decide +kernel
theorem dX6_load_117 : decode cX6_load 117 = .ok (.iload_n 2, 1) := by decide +kernel
theorem dX6_load_118 : decode cX6_load 118 = .ok (.iconst 5, 1) := by decide +kernel
theorem dX6_load_119 : decode cX6_load 119 = .ok (.iadd, 1) := by decide +kernel
theorem dX6_load_120 : decode cX6_load 120 = .ok (.iaload, 1) := by decide +kernel
theorem dX6_load_121 : decode cX6_load 121 = .ok (.invokevirtual 89, 3) := by decide +kernel
theorem dX6_load_124 : decode cX6_load 124 = .ok (.aload_n 0, 1) := by decide +kernel
theorem dX6_load_125 : decode cX6_load 125 = .ok (.aload_n 0, 1) := by decide +kernel
theorem dX6_load_126 : decode cX6_load 126 = .ok (.getfield 7, 3) := by decide +kernel
theorem dX6_load_129 : decode cX6_load 129 = .ok (.iconst 0, 1) := by decide +kernel
theorem dX6_load_130 : decode cX6_load 130 = .ok (.iaload, 1) := by decide +kernel
theorem dX6_load_131 : decode cX6_load 131 = .ok (.iconst 1, 1) := by decide +kernel
theorem dX6_load_132 : decode cX6_load 132 = .ok (.isub, 1) := by decide +kernel
theorem dX6_load_133 : decode cX6_load 133 = .ok (.bipush 6, 2) := by decide +kernel
theorem dX6_load_135 : decode cX6_load 135 = .ok (.aload_n 0, 1) := by decide +kernel
theorem dX6_load_136 : decode cX6_load 136 = .ok (.getfield 29, 3) := by decide +kernel
theorem dX6_load_139 : decode cX6_load 139 = .ok (.iload_n 2, 1) := by decide +kernel
theorem dX6_load_140 : decode cX6_load 140 = .ok (.bipush 6, 2) := by decide +kernel
theorem dX6_load_142 : decode cX6_load 142 = .ok (.iadd, 1) := by decide +kernel
theorem dX6_load_143 : decode cX6_load 143 = .ok (.iaload, 1) := by decide +kernel
theorem dX6_load_144 : decode cX6_load 144 = .ok (.invokevirtual 89, 3) := by decide +kernel
theorem dX6_load_147 : decode cX6_load 147 = .ok (.iinc 1 1, 3) := by decide +kernel
theorem dX6_load_150 : decode cX6_load 150 = .ok (.goto (-115), 3) := by decide +kernel
theorem dX6_load_153 : decode cX6_load 153 = .ok (.aload_n 0, 1) := by decide +kernel
theorem dX6_load_154 : decode cX6_load 154 = .ok (.iconst 0, 1) := by decide +kernel
theorem dX6_load_155 : decode cX6_load 155 = .ok (.putfield 125, 3) := by decide +kernel
theorem dX6_load_158 : decode cX6_load 158 = .ok (.aload_n 0, 1) := by decide +kernel
theorem dX6_load_159 : decode cX6_load 159 = .ok (.getfield 7, 3) := by decide +kernel
theorem dX6_load_162 : decode cX6_load 162 = .ok (.iconst 0, 1) := by decide +kernel
theorem dX6_load_163 : decode cX6_load 163 = .ok (.iaload, 1) := by decide +kernel
theorem dX6_load_164 : decode cX6_load 164 = .ok (.ireturn, 1) := by decide +kernel
set_option maxRecDepth 20000 in
theorem ggX6_doesDeed_X6_goHit : GoodIn wsX6_doesDeed wsX6_goHit := goodIn_r _ [8, 9, 10, 11, 12, 13, 14, 7, 15, 16, 17, 18, 19, 20, 21, 22, 23, 24, 25, 26, 27, 28, 29, 30, 31, 32, 33, 34, 35, 36, 37, 38, 39, 40, 41, 42, 43, 44, 45, 46, 47, 48, 49, 50, 51, 52, 53, 54, 55, 56, 57, 58, 75, 76, 77, 78, 79, 80, 81, 82, 83, 84, 85, 86, 87, 88, 89, 90, 91] (by decide +kernel) (by decide +kernel)
set_option maxRecDepth 20000 in
theorem gX6_doesDeed_X6_goHit : GoodIn wsX6_doesDeed (wsV RX6 107 RX6 yX6_goHit wsX6_goHit) := goodIn_app (goodIn_of _ (by decide +kernel)) ggX6_doesDeed_X6_goHit
set_option maxRecDepth 20000 in
theorem ggX6_doesDeed_X6_goLet : GoodIn wsX6_doesDeed wsX6_goLet := goodIn_r _ [62, 9, 12, 13, 14, 7, 15, 16, 17, 18, 19, 75, 76, 77, 78, 79, 80, 81, 82, 83, 84, 85, 86, 87, 88, 89, 90, 91] (by decide +kernel) (by decide +kernel)
set_option maxRecDepth 20000 in
theorem gX6_doesDeed_X6_goLet : GoodIn wsX6_doesDeed (wsV RX6 110 RX6 yX6_goLet wsX6_goLet) := goodIn_app (goodIn_of _ (by decide +kernel)) ggX6_doesDeed_X6_goLet
set_option maxRecDepth 20000 in
theorem ggX6_doesDeed_X6_goPedal : GoodIn wsX6_doesDeed wsX6_goPedal := goodIn_r _ [66, 9, 12, 13, 14, 7, 15, 16, 17, 18, 19, 75, 76, 77, 78, 79, 80, 81, 82, 83, 84, 85, 86, 87, 88, 89, 90, 91] (by decide +kernel) (by decide +kernel)
set_option maxRecDepth 20000 in
theorem gX6_doesDeed_X6_goPedal : GoodIn wsX6_doesDeed (wsV RX6 113 RX6 yX6_goPedal wsX6_goPedal) := goodIn_app (goodIn_of _ (by decide +kernel)) ggX6_doesDeed_X6_goPedal
set_option maxRecDepth 20000 in
theorem ggX6_doesDeed_X6_goPass : GoodIn wsX6_doesDeed wsX6_goPass := goodIn_r _ [70, 71, 72, 73, 7, 74, 9, 12, 13, 14, 15, 16, 17, 18, 19, 24, 25, 26, 27, 47, 48, 49, 50, 75, 76, 77, 78, 79, 80, 81, 82, 83, 84, 85, 86, 87, 88, 89, 90, 91] (by decide +kernel) (by decide +kernel)
set_option maxRecDepth 20000 in
theorem gX6_doesDeed_X6_goPass : GoodIn wsX6_doesDeed (wsV RX6 116 RX6 yX6_goPass wsX6_goPass) := goodIn_app (goodIn_of _ (by decide +kernel)) ggX6_doesDeed_X6_goPass
theorem dX6_doesDeed_0 : decode cX6_doesDeed 0 = .ok (.aload_n 0, 1) := by decide +kernel
theorem dX6_doesDeed_1 : decode cX6_doesDeed 1 = .ok (.getfield 160, 3) := by decide +kernel
theorem dX6_doesDeed_4 : decode cX6_doesDeed 4 = .ok (.tableswitch 64 110 112 #[28, 44, 56], 28) := by decide +kernel
theorem dX6_doesDeed_32 : decode cX6_doesDeed 32 = .ok (.aload_n 0, 1) := by decide +kernel
theorem dX6_doesDeed_33 : decode cX6_doesDeed 33 = .ok (.aload_n 0, 1) := by decide +kernel
theorem dX6_doesDeed_34 : decode cX6_doesDeed 34 = .ok (.getfield 163, 3) := by decide +kernel
theorem dX6_doesDeed_37 : decode cX6_doesDeed 37 = .ok (.aload_n 0, 1) := by decide +kernel
theorem dX6_doesDeed_38 : decode cX6_doesDeed 38 = .ok (.getfield 166, 3) := by decide +kernel
theorem dX6_doesDeed_41 : decode cX6_doesDeed 41 = .ok (.invokevirtual 107, 3) := by decide +kernel
theorem dX6_doesDeed_44 : decode cX6_doesDeed 44 = .ok (.istore_n 1, 1) := by decide +kernel
theorem dX6_doesDeed_45 : decode cX6_doesDeed 45 = .ok (.goto 33, 3) := by decide +kernel
theorem dX6_doesDeed_48 : decode cX6_doesDeed 48 = .ok (.aload_n 0, 1) := by decide +kernel
theorem dX6_doesDeed_49 : decode cX6_doesDeed 49 = .ok (.aload_n 0, 1) := by decide +kernel
theorem dX6_doesDeed_50 : decode cX6_doesDeed 50 = .ok (.getfield 163, 3) := by decide +kernel
theorem dX6_doesDeed_53 : decode cX6_doesDeed 53 = .ok (.invokevirtual 110, 3) := by decide +kernel
theorem dX6_doesDeed_56 : decode cX6_doesDeed 56 = .ok (.istore_n 2, 1) := by decide +kernel
theorem dX6_doesDeed_57 : decode cX6_doesDeed 57 = .ok (.goto 21, 3) := by decide +kernel
theorem dX6_doesDeed_60 : decode cX6_doesDeed 60 = .ok (.aload_n 0, 1) := by decide +kernel
theorem dX6_doesDeed_61 : decode cX6_doesDeed 61 = .ok (.invokevirtual 113, 3) := by decide +kernel
theorem dX6_doesDeed_64 : decode cX6_doesDeed 64 = .ok (.istore_n 3, 1) := by decide +kernel
theorem dX6_doesDeed_65 : decode cX6_doesDeed 65 = .ok (.goto 13, 3) := by decide +kernel
theorem dX6_doesDeed_68 : decode cX6_doesDeed 68 = .ok (.aload_n 0, 1) := by decide +kernel
theorem dX6_doesDeed_69 : decode cX6_doesDeed 69 = .ok (.aload_n 0, 1) := by decide +kernel
theorem dX6_doesDeed_70 : decode cX6_doesDeed 70 = .ok (.getfield 163, 3) := by decide +kernel
theorem dX6_doesDeed_73 : decode cX6_doesDeed 73 = .ok (.invokevirtual 116, 3) := by decide +kernel
theorem dX6_doesDeed_76 : decode cX6_doesDeed 76 = .ok (.istore 4, 2) := by decide +kernel
theorem dX6_doesDeed_78 : decode cX6_doesDeed 78 = .ok (.return_, 1) := by decide +kernel
set_option maxRecDepth 20000 in
theorem ggX6_play_X6_isScore : GoodIn wsX6_play wsX6_isScore := goodIn_r _ [8, 2, 9, 3, 10, 11, 12, 7, 13, 14, 15, 16, 17, 18, 19, 20, 21, 22, 23, 24, 25, 26, 27, 28, 29, 30, 31, 32, 33, 34, 35, 115, 116, 117, 118, 119, 120, 121, 122, 123, 124, 125, 126, 127, 128, 129, 130, 131] (by decide +kernel) (by decide +kernel)
set_option maxRecDepth 20000 in
theorem gX6_play_X6_isScore : GoodIn wsX6_play (wsV RX6 176 RX6 yX6_isScore wsX6_isScore) := goodIn_app (goodIn_of _ (by decide +kernel)) ggX6_play_X6_isScore
set_option maxRecDepth 20000 in
theorem ggX6_play_X6_records : GoodIn wsX6_play wsX6_records := goodIn_r _ [39, 40, 41, 1, 42, 43, 7, 44, 115, 116, 117, 118, 119, 120, 121, 122, 123, 124, 125, 126, 127, 128, 129, 130, 131] (by decide +kernel) (by decide +kernel)
set_option maxRecDepth 20000 in
theorem gX6_play_X6_records : GoodIn wsX6_play (wsV RX6 92 RX6 yX6_records wsX6_records) := goodIn_app (goodIn_of _ (by decide +kernel)) ggX6_play_X6_records
set_option maxRecDepth 20000 in
theorem ggX6_play_X6_takesDeed : GoodIn wsX6_play wsX6_takesDeed := goodIn_r _ [13, 14, 15, 16, 17, 18, 19, 7, 20, 2, 3, 21, 22, 23, 24, 25, 9, 26, 27, 28, 29, 30, 31, 32, 33, 34, 35, 115, 116, 117, 118, 119, 120, 121, 122, 123, 124, 125, 126, 127, 128, 129, 130, 131] (by decide +kernel) (by decide +kernel)
set_option maxRecDepth 20000 in
theorem gX6_play_X6_takesDeed : GoodIn wsX6_play (wsV RX6 169 RX6 yX6_takesDeed wsX6_takesDeed) := goodIn_app (goodIn_of _ (by decide +kernel)) ggX6_play_X6_takesDeed
set_option maxRecDepth 20000 in
theorem ggX6_play_X6_doesDeed : GoodIn wsX6_play wsX6_doesDeed := goodIn_r _ [48, 14, 15, 16, 49, 50, 51, 7, 52, 1, 53, 54, 55, 56, 57, 58, 59, 60, 61, 62, 63, 64, 65, 66, 67, 68, 69, 70, 71, 72, 73, 74, 30, 31, 32, 75, 76, 77, 78, 79, 80, 81, 82, 83, 84, 85, 86, 87, 88, 89, 90, 91, 92, 93, 94, 95, 96, 97, 98, 99, 100, 101, 102, 103, 104, 105, 106, 107, 108, 109, 110, 111, 112, 113, 114, 115, 116, 117, 118, 119, 120, 121, 122, 123, 124, 125, 126, 127, 128, 129, 130, 131] (by decide +kernel) (by decide +kernel)
set_option maxRecDepth 20000 in
theorem gX6_play_X6_doesDeed : GoodIn wsX6_play (wsV RX6 179 RX6 yX6_doesDeed wsX6_doesDeed) := goodIn_app (goodIn_of _ (by decide +kernel)) ggX6_play_X6_doesDeed
theorem dX6_play_0 : decode cX6_play 0 = .ok (.aload_n 0, 1) := by decide +kernel
theorem dX6_play_1 : decode cX6_play 1 = .ok (.invokevirtual 176, 3) := by decide +kernel
theorem dX6_play_4 : decode cX6_play 4 = .ok (.ifCond .ne 6, 3) := by decide +kernel
theorem dX6_play_7 : decode cX6_play 7 = .ok (.bipush (-2), 2) := by decide +kernel
theorem dX6_play_9 : decode cX6_play 9 = .ok (.ireturn, 1) := by decide +kernel
theorem dX6_play_10 : decode cX6_play 10 = .ok (.aload_n 0, 1) := by decide +kernel
theorem dX6_play_11 : decode cX6_play 11 = .ok (.invokevirtual 92, 3) := by decide +kernel
theorem dX6_play_14 : decode cX6_play 14 = .ok (.aload_n 0, 1) := by decide +kernel
theorem dX6_play_15 : decode cX6_play 15 = .ok (.getfield 7, 3) := by decide +kernel
theorem dX6_play_18 : decode cX6_play 18 = .ok (.iconst 4, 1) := by decide +kernel
theorem dX6_play_19 : decode cX6_play 19 = .ok (.iaload, 1) := by decide +kernel
theorem dX6_play_20 : decode cX6_play 20 = .ok (.istore_n 1, 1) := by decide +kernel
theorem dX6_play_21 : decode cX6_play 21 = .ok (.aload_n 0, 1) := by decide +kernel
theorem dX6_play_22 : decode cX6_play 22 = .ok (.iconst 0, 1) := by decide +kernel
theorem dX6_play_23 : decode cX6_play 23 = .ok (.putfield 128, 3) := by decide +kernel
theorem dX6_play_26 : decode cX6_play 26 = .ok (.aload_n 0, 1) := by decide +kernel
theorem dX6_play_27 : decode cX6_play 27 = .ok (.getfield 128, 3) := by decide +kernel
theorem dX6_play_30 : decode cX6_play 30 = .ok (.aload_n 0, 1) := by decide +kernel
theorem dX6_play_31 : decode cX6_play 31 = .ok (.getfield 125, 3) := by decide +kernel
theorem dX6_play_34 : decode cX6_play 34 = .ok (.if_icmp .ge 24, 3) := by decide +kernel
theorem dX6_play_37 : decode cX6_play 37 = .ok (.aload_n 0, 1) := by decide +kernel
theorem dX6_play_38 : decode cX6_play 38 = .ok (.invokevirtual 169, 3) := by decide +kernel
theorem dX6_play_41 : decode cX6_play 41 = .ok (.aload_n 0, 1) := by decide +kernel
theorem dX6_play_42 : decode cX6_play 42 = .ok (.dup, 1) := by decide +kernel
theorem dX6_play_43 : decode cX6_play 43 = .ok (.getfield 128, 3) := by decide +kernel
theorem dX6_play_46 : decode cX6_play 46 = .ok (.iconst 1, 1) := by decide +kernel
theorem dX6_play_47 : decode cX6_play 47 = .ok (.iadd, 1) := by decide +kernel
theorem dX6_play_48 : decode cX6_play 48 = .ok (.putfield 128, 3) := by decide +kernel
theorem dX6_play_51 : decode cX6_play 51 = .ok (.aload_n 0, 1) := by decide +kernel
theorem dX6_play_52 : decode cX6_play 52 = .ok (.invokevirtual 179, 3) := by decide +kernel
theorem dX6_play_55 : decode cX6_play 55 = .ok (.goto (-29), 3) := by decide +kernel
theorem dX6_play_58 : decode cX6_play 58 = .ok (.aload_n 0, 1) := by decide +kernel
theorem dX6_play_59 : decode cX6_play 59 = .ok (.iconst 0, 1) := by decide +kernel
theorem dX6_play_60 : decode cX6_play 60 = .ok (.putfield 125, 3) := by decide +kernel
theorem dX6_play_63 : decode cX6_play 63 = .ok (.aload_n 0, 1) := by decide +kernel
theorem dX6_play_64 : decode cX6_play 64 = .ok (.getfield 7, 3) := by decide +kernel
theorem dX6_play_67 : decode cX6_play 67 = .ok (.iconst 4, 1) := by decide +kernel
theorem dX6_play_68 : decode cX6_play 68 = .ok (.iaload, 1) := by decide +kernel
theorem dX6_play_69 : decode cX6_play 69 = .ok (.iload_n 1, 1) := by decide +kernel
theorem dX6_play_70 : decode cX6_play 70 = .ok (.isub, 1) := by decide +kernel
theorem dX6_play_71 : decode cX6_play 71 = .ok (.ireturn, 1) := by decide +kernel
set_option maxRecDepth 20000 in
theorem ggX6_voicesOf_X6_of : GoodIn wsX6_voicesOf wsX6_of := goodIn_r _ [6, 1, 7, 8, 9, 10, 11, 12, 13, 14, 15, 16, 17, 18, 19, 20, 21, 22, 23] (by decide +kernel) (by decide +kernel)
set_option maxRecDepth 20000 in
theorem gX6_voicesOf_X6_of : GoodIn wsX6_voicesOf (wsV RX6 55 RX6 yX6_of wsX6_of) := goodIn_app (goodIn_of _ (by decide +kernel)) ggX6_voicesOf_X6_of
theorem dX6_voicesOf_0 : decode cX6_voicesOf 0 = .ok (.iconst 0, 1) := by decide +kernel
theorem dX6_voicesOf_1 : decode cX6_voicesOf 1 = .ok (.istore_n 2, 1) := by decide +kernel
theorem dX6_voicesOf_2 : decode cX6_voicesOf 2 = .ok (.iconst 0, 1) := by decide +kernel
theorem dX6_voicesOf_3 : decode cX6_voicesOf 3 = .ok (.istore_n 3, 1) := by decide +kernel
theorem dX6_voicesOf_4 : decode cX6_voicesOf 4 = .ok (.iload_n 3, 1) := by decide +kernel
theorem dX6_voicesOf_5 : decode cX6_voicesOf 5 = .ok (.aload_n 0, 1) := by decide +kernel
theorem dX6_voicesOf_6 : decode cX6_voicesOf 6 = .ok (.getfield 7, 3) := by decide +kernel
theorem dX6_voicesOf_9 : decode cX6_voicesOf 9 = .ok (.iconst 1, 1) := by decide +kernel
theorem dX6_voicesOf_10 : decode cX6_voicesOf 10 = .ok (.iaload, 1) := by decide +kernel
theorem dX6_voicesOf_11 : decode cX6_voicesOf 11 = .ok (.if_icmp .ge 27, 3) := by decide +kernel
theorem dX6_voicesOf_14 : decode cX6_voicesOf 14 = .ok (.iload_n 2, 1) := by decide +kernel
theorem dX6_voicesOf_15 : decode cX6_voicesOf 15 = .ok (.aload_n 0, 1) := by decide +kernel
theorem dX6_voicesOf_16 : decode cX6_voicesOf 16 = .ok (.iload_n 3, 1) := by decide +kernel
theorem dX6_voicesOf_17 : decode cX6_voicesOf 17 = .ok (.iconst 0, 1) := by decide +kernel
theorem dX6_voicesOf_18 : decode cX6_voicesOf 18 = .ok (.invokevirtual 55, 3) := by decide +kernel
theorem dX6_voicesOf_21 : decode cX6_voicesOf 21 = .ok (.iload_n 1, 1) := by decide +kernel
theorem dX6_voicesOf_22 : decode cX6_voicesOf 22 = .ok (.if_icmp .ne 7, 3) := by decide +kernel
theorem dX6_voicesOf_25 : decode cX6_voicesOf 25 = .ok (.iconst 1, 1) := by decide +kernel
theorem dX6_voicesOf_26 : decode cX6_voicesOf 26 = .ok (.goto 4, 3) := by decide +kernel
theorem dX6_voicesOf_29 : decode cX6_voicesOf 29 = .ok (.iconst 0, 1) := by decide +kernel
theorem dX6_voicesOf_30 : decode cX6_voicesOf 30 = .ok (.iadd, 1) := by decide +kernel
theorem dX6_voicesOf_31 : decode cX6_voicesOf 31 = .ok (.istore_n 2, 1) := by decide +kernel
theorem dX6_voicesOf_32 : decode cX6_voicesOf 32 = .ok (.iinc 3 1, 3) := by decide +kernel
theorem dX6_voicesOf_35 : decode cX6_voicesOf 35 = .ok (.goto (-31), 3) := by decide +kernel
theorem dX6_voicesOf_38 : decode cX6_voicesOf 38 = .ok (.iload_n 2, 1) := by decide +kernel
theorem dX6_voicesOf_39 : decode cX6_voicesOf 39 = .ok (.ireturn, 1) := by decide +kernel
set_option maxRecDepth 20000 in
theorem ggX6_canSound_X6_ofZone : GoodIn wsX6_canSound wsX6_ofZone := goodIn_r _ [5, 6, 22, 23, 24, 25, 26, 27, 28, 29, 30, 31, 32, 33, 34, 35, 36, 37, 38] (by decide +kernel) (by decide +kernel)
set_option maxRecDepth 20000 in
theorem gX6_canSound_X6_ofZone : GoodIn wsX6_canSound (wsV RX6 44 RX6 yX6_ofZone wsX6_ofZone) := goodIn_app (goodIn_of _ (by decide +kernel)) ggX6_canSound_X6_ofZone
set_option maxRecDepth 20000 in
theorem ggX6_canSound_X6_isSounding : GoodIn wsX6_canSound wsX6_isSounding := goodIn_r _ [10, 6, 1, 2, 3, 4, 5, 11, 12, 13, 14, 15, 16, 17, 18, 19, 20, 21, 22, 23, 24, 25, 26, 27, 28, 29, 30, 31, 32, 33, 34, 35, 36, 37, 38] (by decide +kernel) (by decide +kernel)
set_option maxRecDepth 20000 in
theorem gX6_canSound_X6_isSounding : GoodIn wsX6_canSound (wsV RX6 79 RX6 yX6_isSounding wsX6_isSounding) := goodIn_app (goodIn_of _ (by decide +kernel)) ggX6_canSound_X6_isSounding
theorem dX6_canSound_0 : decode cX6_canSound 0 = .ok (.iconst 0, 1) := by decide +kernel
theorem dX6_canSound_1 : decode cX6_canSound 1 = .ok (.istore_n 2, 1) := by decide +kernel
theorem dX6_canSound_2 : decode cX6_canSound 2 = .ok (.aload_n 0, 1) := by decide +kernel
theorem dX6_canSound_3 : decode cX6_canSound 3 = .ok (.iload_n 1, 1) := by decide +kernel
theorem dX6_canSound_4 : decode cX6_canSound 4 = .ok (.iconst 0, 1) := by decide +kernel
theorem dX6_canSound_5 : decode cX6_canSound 5 = .ok (.invokevirtual 44, 3) := by decide +kernel
theorem dX6_canSound_8 : decode cX6_canSound 8 = .ok (.istore_n 3, 1) := by decide +kernel
theorem dX6_canSound_9 : decode cX6_canSound 9 = .ok (.iload_n 3, 1) := by decide +kernel
theorem dX6_canSound_10 : decode cX6_canSound 10 = .ok (.aload_n 0, 1) := by decide +kernel
theorem dX6_canSound_11 : decode cX6_canSound 11 = .ok (.iload_n 1, 1) := by decide +kernel
theorem dX6_canSound_12 : decode cX6_canSound 12 = .ok (.iconst 1, 1) := by decide +kernel
theorem dX6_canSound_13 : decode cX6_canSound 13 = .ok (.invokevirtual 44, 3) := by decide +kernel
theorem dX6_canSound_16 : decode cX6_canSound 16 = .ok (.if_icmp .gt 47, 3) := by decide +kernel
theorem dX6_canSound_19 : decode cX6_canSound 19 = .ok (.aload_n 0, 1) := by decide +kernel
theorem dX6_canSound_20 : decode cX6_canSound 20 = .ok (.iload_n 1, 1) := by decide +kernel
theorem dX6_canSound_21 : decode cX6_canSound 21 = .ok (.iconst 2, 1) := by decide +kernel
theorem dX6_canSound_22 : decode cX6_canSound 22 = .ok (.invokevirtual 44, 3) := by decide +kernel
theorem dX6_canSound_25 : decode cX6_canSound 25 = .ok (.istore 4, 2) := by decide +kernel
theorem dX6_canSound_27 : decode cX6_canSound 27 = .ok (.iload 4, 2) := by decide +kernel
theorem dX6_canSound_29 : decode cX6_canSound 29 = .ok (.aload_n 0, 1) := by decide +kernel
theorem dX6_canSound_30 : decode cX6_canSound 30 = .ok (.iload_n 1, 1) := by decide +kernel
theorem dX6_canSound_31 : decode cX6_canSound 31 = .ok (.iconst 3, 1) := by decide +kernel
theorem dX6_canSound_32 : decode cX6_canSound 32 = .ok (.invokevirtual 44, 3) := by decide +kernel
theorem dX6_canSound_35 : decode cX6_canSound 35 = .ok (.if_icmp .gt 22, 3) := by decide +kernel
theorem dX6_canSound_38 : decode cX6_canSound 38 = .ok (.iload_n 2, 1) := by decide +kernel
theorem dX6_canSound_39 : decode cX6_canSound 39 = .ok (.ifCond .ne 18, 3) := by decide +kernel
theorem dX6_canSound_42 : decode cX6_canSound 42 = .ok (.aload_n 0, 1) := by decide +kernel
theorem dX6_canSound_43 : decode cX6_canSound 43 = .ok (.iload_n 1, 1) := by decide +kernel
theorem dX6_canSound_44 : decode cX6_canSound 44 = .ok (.iload_n 3, 1) := by decide +kernel
theorem dX6_canSound_45 : decode cX6_canSound 45 = .ok (.iload 4, 2) := by decide +kernel
theorem dX6_canSound_47 : decode cX6_canSound 47 = .ok (.invokevirtual 79, 3) := by decide +kernel
theorem dX6_canSound_50 : decode cX6_canSound 50 = .ok (.istore_n 2, 1) := by decide +kernel
theorem dX6_canSound_51 : decode cX6_canSound 51 = .ok (.iinc 4 1, 3) := by decide +kernel
theorem dX6_canSound_54 : decode cX6_canSound 54 = .ok (.goto (-27), 3) := by decide +kernel
theorem dX6_canSound_57 : decode cX6_canSound 57 = .ok (.iinc 3 1, 3) := by decide +kernel
theorem dX6_canSound_60 : decode cX6_canSound 60 = .ok (.goto (-51), 3) := by decide +kernel
theorem dX6_canSound_63 : decode cX6_canSound 63 = .ok (.iload_n 2, 1) := by decide +kernel
theorem dX6_canSound_64 : decode cX6_canSound 64 = .ok (.ireturn, 1) := by decide +kernel
set_option maxRecDepth 20000 in
theorem ggX6_zoneOf_X6_isZone : GoodIn wsX6_zoneOf wsX6_isZone := goodIn_r _ [5, 6, 7, 8, 4, 9, 38, 39, 40, 41, 42, 43, 44, 45, 46, 47, 48, 49, 50, 51, 52, 53, 54] (by decide +kernel) (by decide +kernel)
set_option maxRecDepth 20000 in
theorem gX6_zoneOf_X6_isZone : GoodIn wsX6_zoneOf (wsV RX6 99 RX6 yX6_isZone wsX6_isZone) := goodIn_app (goodIn_of _ (by decide +kernel)) ggX6_zoneOf_X6_isZone
set_option maxRecDepth 20000 in
theorem ggX6_zoneOf_X6_in : GoodIn wsX6_zoneOf wsX6_in := goodIn_r _ [9] (by decide +kernel) (by decide +kernel)
set_option maxRecDepth 20000 in
theorem gX6_zoneOf_X6_in : GoodIn wsX6_zoneOf (va_wsS RX6 40 yX6_in wsX6_in) := goodIn_app (goodIn_of _ (by decide +kernel)) ggX6_zoneOf_X6_in
set_option maxRecDepth 20000 in
theorem ggX6_zoneOf_X6_ofZone : GoodIn wsX6_zoneOf wsX6_ofZone := goodIn_r _ [13, 6, 38, 39, 40, 41, 42, 43, 44, 45, 46, 47, 48, 49, 50, 51, 52, 53, 54] (by decide +kernel) (by decide +kernel)
set_option maxRecDepth 20000 in
theorem gX6_zoneOf_X6_ofZone : GoodIn wsX6_zoneOf (wsV RX6 44 RX6 yX6_ofZone wsX6_ofZone) := goodIn_app (goodIn_of _ (by decide +kernel)) ggX6_zoneOf_X6_ofZone
set_option maxRecDepth 20000 in
theorem ggX6_zoneOf_X6_voicesOf : GoodIn wsX6_zoneOf wsX6_voicesOf := goodIn_r _ [17, 6, 18, 19, 20, 4, 21, 38, 39, 40, 41, 42, 43, 44, 45, 46, 47, 48, 49, 50, 51, 52, 53, 54] (by decide +kernel) (by decide +kernel)
set_option maxRecDepth 20000 in
theorem gX6_zoneOf_X6_voicesOf : GoodIn wsX6_zoneOf (wsV RX6 182 RX6 yX6_voicesOf wsX6_voicesOf) := goodIn_app (goodIn_of _ (by decide +kernel)) ggX6_zoneOf_X6_voicesOf
set_option maxRecDepth 20000 in
theorem ggX6_zoneOf_X6_canSound : GoodIn wsX6_zoneOf wsX6_canSound := goodIn_r _ [25, 10, 11, 12, 4, 13, 6, 26, 27, 28, 29, 30, 31, 32, 33, 7, 8, 9, 34, 35, 36, 37, 38, 39, 40, 41, 42, 43, 44, 45, 46, 47, 48, 49, 50, 51, 52, 53, 54] (by decide +kernel) (by decide +kernel)
set_option maxRecDepth 20000 in
theorem gX6_zoneOf_X6_canSound : GoodIn wsX6_zoneOf (wsV RX6 185 RX6 yX6_canSound wsX6_canSound) := goodIn_app (goodIn_of _ (by decide +kernel)) ggX6_zoneOf_X6_canSound
theorem dX6_zoneOf_0 : decode cX6_zoneOf 0 = .ok (.aload_n 0, 1) := by decide +kernel
theorem dX6_zoneOf_1 : decode cX6_zoneOf 1 = .ok (.iload_n 1, 1) := by decide +kernel
theorem dX6_zoneOf_2 : decode cX6_zoneOf 2 = .ok (.invokevirtual 99, 3) := by decide +kernel
theorem dX6_zoneOf_5 : decode cX6_zoneOf 5 = .ok (.ifCond .eq 13, 3) := by decide +kernel
theorem dX6_zoneOf_8 : decode cX6_zoneOf 8 = .ok (.iload_n 2, 1) := by decide +kernel
theorem dX6_zoneOf_9 : decode cX6_zoneOf 9 = .ok (.iconst 0, 1) := by decide +kernel
theorem dX6_zoneOf_10 : decode cX6_zoneOf 10 = .ok (.bipush 8, 2) := by decide +kernel
theorem dX6_zoneOf_12 : decode cX6_zoneOf 12 = .ok (.invokestatic 40, 3) := by decide +kernel
theorem dX6_zoneOf_15 : decode cX6_zoneOf 15 = .ok (.ifCond .ne 5, 3) := by decide +kernel
theorem dX6_zoneOf_18 : decode cX6_zoneOf 18 = .ok (.iconst (-1), 1) := by decide +kernel
theorem dX6_zoneOf_19 : decode cX6_zoneOf 19 = .ok (.ireturn, 1) := by decide +kernel
theorem dX6_zoneOf_20 : decode cX6_zoneOf 20 = .ok (.iload_n 2, 1) := by decide +kernel
theorem dX6_zoneOf_21 : decode cX6_zoneOf 21 = .ok (.bipush 7, 2) := by decide +kernel
theorem dX6_zoneOf_23 : decode cX6_zoneOf 23 = .ok (.if_icmp .ge 12, 3) := by decide +kernel
theorem dX6_zoneOf_26 : decode cX6_zoneOf 26 = .ok (.aload_n 0, 1) := by decide +kernel
theorem dX6_zoneOf_27 : decode cX6_zoneOf 27 = .ok (.iload_n 1, 1) := by decide +kernel
theorem dX6_zoneOf_28 : decode cX6_zoneOf 28 = .ok (.iload_n 2, 1) := by decide +kernel
theorem dX6_zoneOf_29 : decode cX6_zoneOf 29 = .ok (.invokevirtual 44, 3) := by decide +kernel
theorem dX6_zoneOf_32 : decode cX6_zoneOf 32 = .ok (.goto 30, 3) := by decide +kernel
theorem dX6_zoneOf_35 : decode cX6_zoneOf 35 = .ok (.iload_n 2, 1) := by decide +kernel
theorem dX6_zoneOf_36 : decode cX6_zoneOf 36 = .ok (.bipush 7, 2) := by decide +kernel
theorem dX6_zoneOf_38 : decode cX6_zoneOf 38 = .ok (.if_icmp .ne 11, 3) := by decide +kernel
theorem dX6_zoneOf_41 : decode cX6_zoneOf 41 = .ok (.aload_n 0, 1) := by decide +kernel
theorem dX6_zoneOf_42 : decode cX6_zoneOf 42 = .ok (.iload_n 1, 1) := by decide +kernel
theorem dX6_zoneOf_43 : decode cX6_zoneOf 43 = .ok (.invokevirtual 182, 3) := by decide +kernel
theorem dX6_zoneOf_46 : decode cX6_zoneOf 46 = .ok (.goto 16, 3) := by decide +kernel
theorem dX6_zoneOf_49 : decode cX6_zoneOf 49 = .ok (.aload_n 0, 1) := by decide +kernel
theorem dX6_zoneOf_50 : decode cX6_zoneOf 50 = .ok (.iload_n 1, 1) := by decide +kernel
theorem dX6_zoneOf_51 : decode cX6_zoneOf 51 = .ok (.invokevirtual 185, 3) := by decide +kernel
theorem dX6_zoneOf_54 : decode cX6_zoneOf 54 = .ok (.ifCond .eq 7, 3) := by decide +kernel
theorem dX6_zoneOf_57 : decode cX6_zoneOf 57 = .ok (.iconst 1, 1) := by decide +kernel
theorem dX6_zoneOf_58 : decode cX6_zoneOf 58 = .ok (.goto 4, 3) := by decide +kernel
theorem dX6_zoneOf_61 : decode cX6_zoneOf 61 = .ok (.iconst 0, 1) := by decide +kernel
theorem dX6_zoneOf_62 : decode cX6_zoneOf 62 = .ok (.ireturn, 1) := by decide +kernel
set_option maxRecDepth 20000 in
theorem ggX6_rankOf_X6_soon : GoodIn wsX6_rankOf wsX6_soon := goodIn_r _ [6, 1, 7, 8, 9, 5, 10, 11, 12, 13, 14, 15, 16, 17, 18, 19, 20, 21, 22, 23, 24, 25, 26, 27] (by decide +kernel) (by decide +kernel)
set_option maxRecDepth 20000 in
theorem gX6_rankOf_X6_soon : GoodIn wsX6_rankOf (wsV RX6 58 RX6 yX6_soon wsX6_soon) := goodIn_app (goodIn_of _ (by decide +kernel)) ggX6_rankOf_X6_soon
theorem dX6_rankOf_0 : decode cX6_rankOf 0 = .ok (.iconst 0, 1) := by decide +kernel
theorem dX6_rankOf_1 : decode cX6_rankOf 1 = .ok (.istore_n 2, 1) := by decide +kernel
theorem dX6_rankOf_2 : decode cX6_rankOf 2 = .ok (.iconst 0, 1) := by decide +kernel
theorem dX6_rankOf_3 : decode cX6_rankOf 3 = .ok (.istore_n 3, 1) := by decide +kernel
theorem dX6_rankOf_4 : decode cX6_rankOf 4 = .ok (.iload_n 3, 1) := by decide +kernel
theorem dX6_rankOf_5 : decode cX6_rankOf 5 = .ok (.aload_n 0, 1) := by decide +kernel
theorem dX6_rankOf_6 : decode cX6_rankOf 6 = .ok (.getfield 7, 3) := by decide +kernel
theorem dX6_rankOf_9 : decode cX6_rankOf 9 = .ok (.iconst 1, 1) := by decide +kernel
theorem dX6_rankOf_10 : decode cX6_rankOf 10 = .ok (.iaload, 1) := by decide +kernel
theorem dX6_rankOf_11 : decode cX6_rankOf 11 = .ok (.if_icmp .ge 48, 3) := by decide +kernel
theorem dX6_rankOf_14 : decode cX6_rankOf 14 = .ok (.iload_n 2, 1) := by decide +kernel
theorem dX6_rankOf_15 : decode cX6_rankOf 15 = .ok (.aload_n 0, 1) := by decide +kernel
theorem dX6_rankOf_16 : decode cX6_rankOf 16 = .ok (.iload_n 3, 1) := by decide +kernel
theorem dX6_rankOf_17 : decode cX6_rankOf 17 = .ok (.invokevirtual 58, 3) := by decide +kernel
theorem dX6_rankOf_20 : decode cX6_rankOf 20 = .ok (.aload_n 0, 1) := by decide +kernel
theorem dX6_rankOf_21 : decode cX6_rankOf 21 = .ok (.iload_n 1, 1) := by decide +kernel
theorem dX6_rankOf_22 : decode cX6_rankOf 22 = .ok (.invokevirtual 58, 3) := by decide +kernel
theorem dX6_rankOf_25 : decode cX6_rankOf 25 = .ok (.if_icmp .gt 21, 3) := by decide +kernel
theorem dX6_rankOf_28 : decode cX6_rankOf 28 = .ok (.aload_n 0, 1) := by decide +kernel
theorem dX6_rankOf_29 : decode cX6_rankOf 29 = .ok (.iload_n 3, 1) := by decide +kernel
theorem dX6_rankOf_30 : decode cX6_rankOf 30 = .ok (.invokevirtual 58, 3) := by decide +kernel
theorem dX6_rankOf_33 : decode cX6_rankOf 33 = .ok (.aload_n 0, 1) := by decide +kernel
theorem dX6_rankOf_34 : decode cX6_rankOf 34 = .ok (.iload_n 1, 1) := by decide +kernel
theorem dX6_rankOf_35 : decode cX6_rankOf 35 = .ok (.invokevirtual 58, 3) := by decide +kernel
theorem dX6_rankOf_38 : decode cX6_rankOf 38 = .ok (.if_icmp .ne 12, 3) := by decide +kernel
theorem dX6_rankOf_41 : decode cX6_rankOf 41 = .ok (.iload_n 3, 1) := by decide +kernel
theorem dX6_rankOf_42 : decode cX6_rankOf 42 = .ok (.iload_n 1, 1) := by decide +kernel
theorem dX6_rankOf_43 : decode cX6_rankOf 43 = .ok (.if_icmp .ge 7, 3) := by decide +kernel
theorem dX6_rankOf_46 : decode cX6_rankOf 46 = .ok (.iconst 1, 1) := by decide +kernel
theorem dX6_rankOf_47 : decode cX6_rankOf 47 = .ok (.goto 4, 3) := by decide +kernel
theorem dX6_rankOf_50 : decode cX6_rankOf 50 = .ok (.iconst 0, 1) := by decide +kernel
theorem dX6_rankOf_51 : decode cX6_rankOf 51 = .ok (.iadd, 1) := by decide +kernel
theorem dX6_rankOf_52 : decode cX6_rankOf 52 = .ok (.istore_n 2, 1) := by decide +kernel
theorem dX6_rankOf_53 : decode cX6_rankOf 53 = .ok (.iinc 3 1, 3) := by decide +kernel
theorem dX6_rankOf_56 : decode cX6_rankOf 56 = .ok (.goto (-52), 3) := by decide +kernel
theorem dX6_rankOf_59 : decode cX6_rankOf 59 = .ok (.iload_n 2, 1) := by decide +kernel
theorem dX6_rankOf_60 : decode cX6_rankOf 60 = .ok (.ireturn, 1) := by decide +kernel
set_option maxRecDepth 20000 in
theorem ggX6_voice_X6_in : GoodIn wsX6_voice wsX6_in := goodIn_r _ [5] (by decide +kernel) (by decide +kernel)
set_option maxRecDepth 20000 in
theorem gX6_voice_X6_in : GoodIn wsX6_voice (va_wsS RX6 40 yX6_in wsX6_in) := goodIn_app (goodIn_of _ (by decide +kernel)) ggX6_voice_X6_in
set_option maxRecDepth 20000 in
theorem ggX6_voice_X6_of : GoodIn wsX6_voice wsX6_of := goodIn_r _ [9, 1, 18, 19, 20, 21, 22, 23, 24, 25, 26, 27, 28, 29, 30, 31, 32, 33, 34] (by decide +kernel) (by decide +kernel)
set_option maxRecDepth 20000 in
theorem gX6_voice_X6_of : GoodIn wsX6_voice (wsV RX6 55 RX6 yX6_of wsX6_of) := goodIn_app (goodIn_of _ (by decide +kernel)) ggX6_voice_X6_of
set_option maxRecDepth 20000 in
theorem ggX6_voice_X6_rankOf : GoodIn wsX6_voice wsX6_rankOf := goodIn_r _ [13, 1, 14, 15, 16, 4, 17, 6, 7, 8, 9, 18, 19, 20, 21, 22, 23, 24, 25, 26, 27, 28, 29, 30, 31, 32, 33, 34] (by decide +kernel) (by decide +kernel)
set_option maxRecDepth 20000 in
theorem gX6_voice_X6_rankOf : GoodIn wsX6_voice (wsV RX6 188 RX6 yX6_rankOf wsX6_rankOf) := goodIn_app (goodIn_of _ (by decide +kernel)) ggX6_voice_X6_rankOf
theorem dX6_voice_0 : decode cX6_voice 0 = .ok (.iload_n 1, 1) := by decide +kernel
theorem dX6_voice_1 : decode cX6_voice 1 = .ok (.iconst 0, 1) := by decide +kernel
theorem dX6_voice_2 : decode cX6_voice 2 = .ok (.aload_n 0, 1) := by decide +kernel
theorem dX6_voice_3 : decode cX6_voice 3 = .ok (.getfield 7, 3) := by decide +kernel
theorem dX6_voice_6 : decode cX6_voice 6 = .ok (.iconst 1, 1) := by decide +kernel
theorem dX6_voice_7 : decode cX6_voice 7 = .ok (.iaload, 1) := by decide +kernel
theorem dX6_voice_8 : decode cX6_voice 8 = .ok (.iconst 1, 1) := by decide +kernel
theorem dX6_voice_9 : decode cX6_voice 9 = .ok (.isub, 1) := by decide +kernel
theorem dX6_voice_10 : decode cX6_voice 10 = .ok (.invokestatic 40, 3) := by decide +kernel
theorem dX6_voice_13 : decode cX6_voice 13 = .ok (.ifCond .eq 13, 3) := by decide +kernel
theorem dX6_voice_16 : decode cX6_voice 16 = .ok (.iload_n 2, 1) := by decide +kernel
theorem dX6_voice_17 : decode cX6_voice 17 = .ok (.iconst 0, 1) := by decide +kernel
theorem dX6_voice_18 : decode cX6_voice 18 = .ok (.bipush 6, 2) := by decide +kernel
theorem dX6_voice_20 : decode cX6_voice 20 = .ok (.invokestatic 40, 3) := by decide +kernel
theorem dX6_voice_23 : decode cX6_voice 23 = .ok (.ifCond .ne 5, 3) := by decide +kernel
theorem dX6_voice_26 : decode cX6_voice 26 = .ok (.iconst (-1), 1) := by decide +kernel
theorem dX6_voice_27 : decode cX6_voice 27 = .ok (.ireturn, 1) := by decide +kernel
theorem dX6_voice_28 : decode cX6_voice 28 = .ok (.iload_n 2, 1) := by decide +kernel
theorem dX6_voice_29 : decode cX6_voice 29 = .ok (.bipush 6, 2) := by decide +kernel
theorem dX6_voice_31 : decode cX6_voice 31 = .ok (.if_icmp .ge 12, 3) := by decide +kernel
theorem dX6_voice_34 : decode cX6_voice 34 = .ok (.aload_n 0, 1) := by decide +kernel
theorem dX6_voice_35 : decode cX6_voice 35 = .ok (.iload_n 1, 1) := by decide +kernel
theorem dX6_voice_36 : decode cX6_voice 36 = .ok (.iload_n 2, 1) := by decide +kernel
theorem dX6_voice_37 : decode cX6_voice 37 = .ok (.invokevirtual 55, 3) := by decide +kernel
theorem dX6_voice_40 : decode cX6_voice 40 = .ok (.goto 8, 3) := by decide +kernel
theorem dX6_voice_43 : decode cX6_voice 43 = .ok (.aload_n 0, 1) := by decide +kernel
theorem dX6_voice_44 : decode cX6_voice 44 = .ok (.iload_n 1, 1) := by decide +kernel
theorem dX6_voice_45 : decode cX6_voice 45 = .ok (.invokevirtual 188, 3) := by decide +kernel
theorem dX6_voice_48 : decode cX6_voice 48 = .ok (.ireturn, 1) := by decide +kernel
set_option maxRecDepth 20000 in
theorem ggX6_answers_X6_isNote : GoodIn wsX6_answers wsX6_isNote := goodIn_r _ [4, 5, 6, 3, 7] (by decide +kernel) (by decide +kernel)
set_option maxRecDepth 20000 in
theorem gX6_answers_X6_isNote : GoodIn wsX6_answers (va_wsS RX6 103 yX6_isNote wsX6_isNote) := goodIn_app (goodIn_of _ (by decide +kernel)) ggX6_answers_X6_isNote
set_option maxRecDepth 20000 in
theorem ggX6_answers_X6_answering : GoodIn wsX6_answers wsX6_answering := goodIn_r _ [11, 12, 13, 14, 15, 3, 16, 17, 18, 19, 20, 5, 6, 7, 21, 22, 23, 24, 25, 26, 27, 28, 29, 30, 31, 32, 33, 34, 35, 36, 37] (by decide +kernel) (by decide +kernel)
set_option maxRecDepth 20000 in
theorem gX6_answers_X6_answering : GoodIn wsX6_answers (wsV RX6 191 RX6 yX6_answering wsX6_answering) := goodIn_app (goodIn_of _ (by decide +kernel)) ggX6_answers_X6_answering
theorem dX6_answers_0 : decode cX6_answers 0 = .ok (.iload_n 1, 1) := by decide +kernel
theorem dX6_answers_1 : decode cX6_answers 1 = .ok (.iload_n 2, 1) := by decide +kernel
theorem dX6_answers_2 : decode cX6_answers 2 = .ok (.invokestatic 103, 3) := by decide +kernel
theorem dX6_answers_5 : decode cX6_answers 5 = .ok (.ifCond .eq 12, 3) := by decide +kernel
theorem dX6_answers_8 : decode cX6_answers 8 = .ok (.aload_n 0, 1) := by decide +kernel
theorem dX6_answers_9 : decode cX6_answers 9 = .ok (.iload_n 1, 1) := by decide +kernel
theorem dX6_answers_10 : decode cX6_answers 10 = .ok (.iload_n 2, 1) := by decide +kernel
theorem dX6_answers_11 : decode cX6_answers 11 = .ok (.invokevirtual 191, 3) := by decide +kernel
theorem dX6_answers_14 : decode cX6_answers 14 = .ok (.goto 4, 3) := by decide +kernel
theorem dX6_answers_17 : decode cX6_answers 17 = .ok (.iconst (-1), 1) := by decide +kernel
theorem dX6_answers_18 : decode cX6_answers 18 = .ok (.ireturn, 1) := by decide +kernel
set_option maxRecDepth 20000 in
theorem ggX6_map_X6_in : GoodIn wsX6_map wsX6_in := goodIn_r _ [4] (by decide +kernel) (by decide +kernel)
set_option maxRecDepth 20000 in
theorem gX6_map_X6_in : GoodIn wsX6_map (va_wsS RX6 40 yX6_in wsX6_in) := goodIn_app (goodIn_of _ (by decide +kernel)) ggX6_map_X6_in
set_option maxRecDepth 20000 in
theorem ggX6_map_X6_answering : GoodIn wsX6_map wsX6_answering := goodIn_r _ [8, 9, 10, 11, 12, 3, 13, 14, 15, 16, 17, 1, 2, 4, 18, 19, 20, 21, 22, 23, 24, 25, 26, 27, 28, 29, 30, 31, 32, 33, 34] (by decide +kernel) (by decide +kernel)
set_option maxRecDepth 20000 in
theorem gX6_map_X6_answering : GoodIn wsX6_map (wsV RX6 191 RX6 yX6_answering wsX6_answering) := goodIn_app (goodIn_of _ (by decide +kernel)) ggX6_map_X6_answering
theorem dX6_map_0 : decode cX6_map 0 = .ok (.iload_n 1, 1) := by decide +kernel
theorem dX6_map_1 : decode cX6_map 1 = .ok (.iconst 0, 1) := by decide +kernel
theorem dX6_map_2 : decode cX6_map 2 = .ok (.iconst 3, 1) := by decide +kernel
theorem dX6_map_3 : decode cX6_map 3 = .ok (.invokestatic 40, 3) := by decide +kernel
theorem dX6_map_6 : decode cX6_map 6 = .ok (.ifCond .eq 12, 3) := by decide +kernel
theorem dX6_map_9 : decode cX6_map 9 = .ok (.iload_n 2, 1) := by decide +kernel
theorem dX6_map_10 : decode cX6_map 10 = .ok (.iconst 0, 1) := by decide +kernel
theorem dX6_map_11 : decode cX6_map 11 = .ok (.iconst 1, 1) := by decide +kernel
theorem dX6_map_12 : decode cX6_map 12 = .ok (.invokestatic 40, 3) := by decide +kernel
theorem dX6_map_15 : decode cX6_map 15 = .ok (.ifCond .ne 5, 3) := by decide +kernel
theorem dX6_map_18 : decode cX6_map 18 = .ok (.iconst (-1), 1) := by decide +kernel
theorem dX6_map_19 : decode cX6_map 19 = .ok (.ireturn, 1) := by decide +kernel
theorem dX6_map_20 : decode cX6_map 20 = .ok (.iconst 0, 1) := by decide +kernel
theorem dX6_map_21 : decode cX6_map 21 = .ok (.istore_n 3, 1) := by decide +kernel
theorem dX6_map_22 : decode cX6_map 22 = .ok (.iconst 0, 1) := by decide +kernel
theorem dX6_map_23 : decode cX6_map 23 = .ok (.istore 4, 2) := by decide +kernel
theorem dX6_map_25 : decode cX6_map 25 = .ok (.iconst 0, 1) := by decide +kernel
theorem dX6_map_26 : decode cX6_map 26 = .ok (.istore 5, 2) := by decide +kernel
theorem dX6_map_28 : decode cX6_map 28 = .ok (.bipush (-4), 2) := by decide +kernel
theorem dX6_map_30 : decode cX6_map 30 = .ok (.istore 6, 2) := by decide +kernel
theorem dX6_map_32 : decode cX6_map 32 = .ok (.iconst 0, 1) := by decide +kernel
theorem dX6_map_33 : decode cX6_map 33 = .ok (.istore 7, 2) := by decide +kernel
theorem dX6_map_35 : decode cX6_map 35 = .ok (.iload 7, 2) := by decide +kernel
theorem dX6_map_37 : decode cX6_map 37 = .ok (.bipush 36, 2) := by decide +kernel
theorem dX6_map_39 : decode cX6_map 39 = .ok (.if_icmp .ge 101, 3) := by decide +kernel
theorem dX6_map_42 : decode cX6_map 42 = .ok (.iconst 1, 1) := by decide +kernel
theorem dX6_map_43 : decode cX6_map 43 = .ok (.istore 8, 2) := by decide +kernel
theorem dX6_map_45 : decode cX6_map 45 = .ok (.iload 8, 2) := by decide +kernel
theorem dX6_map_47 : decode cX6_map 47 = .ok (.bipush 9, 2) := by decide +kernel
theorem dX6_map_49 : decode cX6_map 49 = .ok (.if_icmp .gt 85, 3) := by decide +kernel
theorem dX6_map_52 : decode cX6_map 52 = .ok (.aload_n 0, 1) := by decide +kernel
theorem dX6_map_53 : decode cX6_map 53 = .ok (.iload 7, 2) := by decide +kernel
theorem dX6_map_55 : decode cX6_map 55 = .ok (.iload 8, 2) := by decide +kernel
theorem dX6_map_57 : decode cX6_map 57 = .ok (.invokevirtual 191, 3) := by decide +kernel
theorem dX6_map_60 : decode cX6_map 60 = .ok (.istore 9, 2) := by decide +kernel
theorem dX6_map_62 : decode cX6_map 62 = .ok (.iload_n 3, 1) := by decide +kernel
theorem dX6_map_63 : decode cX6_map 63 = .ok (.iload 9, 2) := by decide +kernel
theorem dX6_map_65 : decode cX6_map 65 = .ok (.ifCond .ne 7, 3) := by decide +kernel
theorem dX6_map_68 : decode cX6_map 68 = .ok (.iconst 1, 1) := by decide +kernel
theorem dX6_map_69 : decode cX6_map 69 = .ok (.goto 4, 3) := by decide +kernel
theorem dX6_map_72 : decode cX6_map 72 = .ok (.iconst 0, 1) := by decide +kernel
theorem dX6_map_73 : decode cX6_map 73 = .ok (.iadd, 1) := by decide +kernel
theorem dX6_map_74 : decode cX6_map 74 = .ok (.istore_n 3, 1) := by decide +kernel
theorem dX6_map_75 : decode cX6_map 75 = .ok (.iload 4, 2) := by decide +kernel
theorem dX6_map_77 : decode cX6_map 77 = .ok (.iload 9, 2) := by decide +kernel
theorem dX6_map_79 : decode cX6_map 79 = .ok (.iconst 1, 1) := by decide +kernel
theorem dX6_map_80 : decode cX6_map 80 = .ok (.if_icmp .le 7, 3) := by decide +kernel
theorem dX6_map_83 : decode cX6_map 83 = .ok (.iconst 1, 1) := by decide +kernel
theorem dX6_map_84 : decode cX6_map 84 = .ok (.goto 4, 3) := by decide +kernel
theorem dX6_map_87 : decode cX6_map 87 = .ok (.iconst 0, 1) := by decide +kernel
theorem dX6_map_88 : decode cX6_map 88 = .ok (.iadd, 1) := by decide +kernel
theorem dX6_map_89 : decode cX6_map 89 = .ok (.istore 4, 2) := by decide +kernel
theorem dX6_map_91 : decode cX6_map 91 = .ok (.iload 9, 2) := by decide +kernel
theorem dX6_map_93 : decode cX6_map 93 = .ok (.iload 5, 2) := by decide +kernel
theorem dX6_map_95 : decode cX6_map 95 = .ok (.if_icmp .le 8, 3) := by decide +kernel
theorem dX6_map_98 : decode cX6_map 98 = .ok (.iload 9, 2) := by decide +kernel
theorem dX6_map_100 : decode cX6_map 100 = .ok (.goto 5, 3) := by decide +kernel
theorem dX6_map_103 : decode cX6_map 103 = .ok (.iload 5, 2) := by decide +kernel
theorem dX6_map_105 : decode cX6_map 105 = .ok (.istore 5, 2) := by decide +kernel
theorem dX6_map_107 : decode cX6_map 107 = .ok (.iload 9, 2) := by decide +kernel
theorem dX6_map_109 : decode cX6_map 109 = .ok (.ifCond .ne 15, 3) := by decide +kernel
theorem dX6_map_112 : decode cX6_map 112 = .ok (.iload 6, 2) := by decide +kernel
theorem dX6_map_114 : decode cX6_map 114 = .ok (.bipush (-4), 2) := by decide +kernel
theorem dX6_map_116 : decode cX6_map 116 = .ok (.if_icmp .ne 8, 3) := by decide +kernel
theorem dX6_map_119 : decode cX6_map 119 = .ok (.iload 7, 2) := by decide +kernel
theorem dX6_map_121 : decode cX6_map 121 = .ok (.goto 5, 3) := by decide +kernel
theorem dX6_map_124 : decode cX6_map 124 = .ok (.iload 6, 2) := by decide +kernel
theorem dX6_map_126 : decode cX6_map 126 = .ok (.istore 6, 2) := by decide +kernel
theorem dX6_map_128 : decode cX6_map 128 = .ok (.iinc 8 1, 3) := by decide +kernel
theorem dX6_map_131 : decode cX6_map 131 = .ok (.goto (-86), 3) := by decide +kernel
theorem dX6_map_134 : decode cX6_map 134 = .ok (.iinc 7 1, 3) := by decide +kernel
theorem dX6_map_137 : decode cX6_map 137 = .ok (.goto (-102), 3) := by decide +kernel
theorem dX6_map_140 : decode cX6_map 140 = .ok (.iload_n 1, 1) := by decide +kernel
theorem dX6_map_141 : decode cX6_map 141 = .ok (.ifCond .ne 7, 3) := by decide +kernel
theorem dX6_map_144 : decode cX6_map 144 = .ok (.iload_n 3, 1) := by decide +kernel
theorem dX6_map_145 : decode cX6_map 145 = .ok (.goto 25, 3) := by decide +kernel
theorem dX6_map_148 : decode cX6_map 148 = .ok (.iload_n 1, 1) := by decide +kernel
theorem dX6_map_149 : decode cX6_map 149 = .ok (.iconst 1, 1) := by decide +kernel
theorem dX6_map_150 : decode cX6_map 150 = .ok (.if_icmp .ne 8, 3) := by decide +kernel
theorem dX6_map_153 : decode cX6_map 153 = .ok (.iload 4, 2) := by decide +kernel
theorem dX6_map_155 : decode cX6_map 155 = .ok (.goto 15, 3) := by decide +kernel
theorem dX6_map_158 : decode cX6_map 158 = .ok (.iload_n 1, 1) := by decide +kernel
theorem dX6_map_159 : decode cX6_map 159 = .ok (.iconst 2, 1) := by decide +kernel
theorem dX6_map_160 : decode cX6_map 160 = .ok (.if_icmp .ne 8, 3) := by decide +kernel
theorem dX6_map_163 : decode cX6_map 163 = .ok (.iload 5, 2) := by decide +kernel
theorem dX6_map_165 : decode cX6_map 165 = .ok (.goto 5, 3) := by decide +kernel
theorem dX6_map_168 : decode cX6_map 168 = .ok (.iload 6, 2) := by decide +kernel
theorem dX6_map_170 : decode cX6_map 170 = .ok (.ireturn, 1) := by decide +kernel
set_option maxRecDepth 20000 in
theorem ggX6_inState_X6_of : GoodIn wsX6_inState wsX6_of := goodIn_r _ [6, 1, 7, 8, 9, 10, 11, 12, 13, 14, 15, 16, 17, 18, 19, 20, 21, 22, 23] (by decide +kernel) (by decide +kernel)
set_option maxRecDepth 20000 in
theorem gX6_inState_X6_of : GoodIn wsX6_inState (wsV RX6 55 RX6 yX6_of wsX6_of) := goodIn_app (goodIn_of _ (by decide +kernel)) ggX6_inState_X6_of
theorem dX6_inState_0 : decode cX6_inState 0 = .ok (.iconst 0, 1) := by decide +kernel
theorem dX6_inState_1 : decode cX6_inState 1 = .ok (.istore_n 2, 1) := by decide +kernel
theorem dX6_inState_2 : decode cX6_inState 2 = .ok (.iconst 0, 1) := by decide +kernel
theorem dX6_inState_3 : decode cX6_inState 3 = .ok (.istore_n 3, 1) := by decide +kernel
theorem dX6_inState_4 : decode cX6_inState 4 = .ok (.iload_n 3, 1) := by decide +kernel
theorem dX6_inState_5 : decode cX6_inState 5 = .ok (.aload_n 0, 1) := by decide +kernel
theorem dX6_inState_6 : decode cX6_inState 6 = .ok (.getfield 7, 3) := by decide +kernel
theorem dX6_inState_9 : decode cX6_inState 9 = .ok (.iconst 1, 1) := by decide +kernel
theorem dX6_inState_10 : decode cX6_inState 10 = .ok (.iaload, 1) := by decide +kernel
theorem dX6_inState_11 : decode cX6_inState 11 = .ok (.if_icmp .ge 27, 3) := by decide +kernel
theorem dX6_inState_14 : decode cX6_inState 14 = .ok (.iload_n 2, 1) := by decide +kernel
theorem dX6_inState_15 : decode cX6_inState 15 = .ok (.aload_n 0, 1) := by decide +kernel
theorem dX6_inState_16 : decode cX6_inState 16 = .ok (.iload_n 3, 1) := by decide +kernel
theorem dX6_inState_17 : decode cX6_inState 17 = .ok (.iconst 5, 1) := by decide +kernel
theorem dX6_inState_18 : decode cX6_inState 18 = .ok (.invokevirtual 55, 3) := by decide +kernel
theorem dX6_inState_21 : decode cX6_inState 21 = .ok (.iload_n 1, 1) := by decide +kernel
theorem dX6_inState_22 : decode cX6_inState 22 = .ok (.if_icmp .ne 7, 3) := by decide +kernel
theorem dX6_inState_25 : decode cX6_inState 25 = .ok (.iconst 1, 1) := by decide +kernel
theorem dX6_inState_26 : decode cX6_inState 26 = .ok (.goto 4, 3) := by decide +kernel
theorem dX6_inState_29 : decode cX6_inState 29 = .ok (.iconst 0, 1) := by decide +kernel
theorem dX6_inState_30 : decode cX6_inState 30 = .ok (.iadd, 1) := by decide +kernel
theorem dX6_inState_31 : decode cX6_inState 31 = .ok (.istore_n 2, 1) := by decide +kernel
theorem dX6_inState_32 : decode cX6_inState 32 = .ok (.iinc 3 1, 3) := by decide +kernel
theorem dX6_inState_35 : decode cX6_inState 35 = .ok (.goto (-31), 3) := by decide +kernel
theorem dX6_inState_38 : decode cX6_inState 38 = .ok (.iload_n 2, 1) := by decide +kernel
theorem dX6_inState_39 : decode cX6_inState 39 = .ok (.ireturn, 1) := by decide +kernel
set_option maxRecDepth 20000 in
theorem ggX6_allLoud_X6_of : GoodIn wsX6_allLoud wsX6_of := goodIn_r _ [6, 1, 7, 8, 9, 10, 11, 12, 13, 14, 15, 16, 17, 18, 19, 20, 21, 22, 23] (by decide +kernel) (by decide +kernel)
set_option maxRecDepth 20000 in
theorem gX6_allLoud_X6_of : GoodIn wsX6_allLoud (wsV RX6 55 RX6 yX6_of wsX6_of) := goodIn_app (goodIn_of _ (by decide +kernel)) ggX6_allLoud_X6_of
theorem dX6_allLoud_0 : decode cX6_allLoud 0 = .ok (.iconst 0, 1) := by decide +kernel
theorem dX6_allLoud_1 : decode cX6_allLoud 1 = .ok (.istore_n 1, 1) := by decide +kernel
theorem dX6_allLoud_2 : decode cX6_allLoud 2 = .ok (.iconst 0, 1) := by decide +kernel
theorem dX6_allLoud_3 : decode cX6_allLoud 3 = .ok (.istore_n 2, 1) := by decide +kernel
theorem dX6_allLoud_4 : decode cX6_allLoud 4 = .ok (.iload_n 2, 1) := by decide +kernel
theorem dX6_allLoud_5 : decode cX6_allLoud 5 = .ok (.aload_n 0, 1) := by decide +kernel
theorem dX6_allLoud_6 : decode cX6_allLoud 6 = .ok (.getfield 7, 3) := by decide +kernel
theorem dX6_allLoud_9 : decode cX6_allLoud 9 = .ok (.iconst 1, 1) := by decide +kernel
theorem dX6_allLoud_10 : decode cX6_allLoud 10 = .ok (.iaload, 1) := by decide +kernel
theorem dX6_allLoud_11 : decode cX6_allLoud 11 = .ok (.if_icmp .ge 18, 3) := by decide +kernel
theorem dX6_allLoud_14 : decode cX6_allLoud 14 = .ok (.iload_n 1, 1) := by decide +kernel
theorem dX6_allLoud_15 : decode cX6_allLoud 15 = .ok (.aload_n 0, 1) := by decide +kernel
theorem dX6_allLoud_16 : decode cX6_allLoud 16 = .ok (.iload_n 2, 1) := by decide +kernel
theorem dX6_allLoud_17 : decode cX6_allLoud 17 = .ok (.iconst 3, 1) := by decide +kernel
theorem dX6_allLoud_18 : decode cX6_allLoud 18 = .ok (.invokevirtual 55, 3) := by decide +kernel
theorem dX6_allLoud_21 : decode cX6_allLoud 21 = .ok (.iadd, 1) := by decide +kernel
theorem dX6_allLoud_22 : decode cX6_allLoud 22 = .ok (.istore_n 1, 1) := by decide +kernel
theorem dX6_allLoud_23 : decode cX6_allLoud 23 = .ok (.iinc 2 1, 3) := by decide +kernel
theorem dX6_allLoud_26 : decode cX6_allLoud 26 = .ok (.goto (-22), 3) := by decide +kernel
theorem dX6_allLoud_29 : decode cX6_allLoud 29 = .ok (.iload_n 1, 1) := by decide +kernel
theorem dX6_allLoud_30 : decode cX6_allLoud 30 = .ok (.ireturn, 1) := by decide +kernel
set_option maxRecDepth 20000 in
theorem ggX6_count_X6_inState : GoodIn wsX6_count wsX6_inState := goodIn_r _ [8, 1, 9, 10, 11, 7, 12, 20, 21, 22, 23, 24, 25, 26, 27, 28, 29, 30, 31, 32, 33, 34, 35, 36] (by decide +kernel) (by decide +kernel)
set_option maxRecDepth 20000 in
theorem gX6_count_X6_inState : GoodIn wsX6_count (wsV RX6 194 RX6 yX6_inState wsX6_inState) := goodIn_app (goodIn_of _ (by decide +kernel)) ggX6_count_X6_inState
set_option maxRecDepth 20000 in
theorem ggX6_count_X6_allLoud : GoodIn wsX6_count wsX6_allLoud := goodIn_r _ [16, 1, 9, 10, 11, 7, 12, 20, 21, 22, 23, 24, 25, 26, 27, 28, 29, 30, 31, 32, 33, 34, 35, 36] (by decide +kernel) (by decide +kernel)
set_option maxRecDepth 20000 in
theorem gX6_count_X6_allLoud : GoodIn wsX6_count (wsV RX6 197 RX6 yX6_allLoud wsX6_allLoud) := goodIn_app (goodIn_of _ (by decide +kernel)) ggX6_count_X6_allLoud
set_option maxRecDepth 20000 in
theorem ggX6_count_X6_in : GoodIn wsX6_count wsX6_in := goodIn_r _ [19] (by decide +kernel) (by decide +kernel)
set_option maxRecDepth 20000 in
theorem gX6_count_X6_in : GoodIn wsX6_count (va_wsS RX6 40 yX6_in wsX6_in) := goodIn_app (goodIn_of _ (by decide +kernel)) ggX6_count_X6_in
theorem dX6_count_0 : decode cX6_count 0 = .ok (.iload_n 1, 1) := by decide +kernel
theorem dX6_count_1 : decode cX6_count 1 = .ok (.tableswitch 133 0 21 #[103, 103, 110, 110, 110, 118, 133, 133, 133, 133, 133, 133, 133, 133, 133, 133, 133, 133, 133, 133, 123, 128], 103) := by decide +kernel
theorem dX6_count_104 : decode cX6_count 104 = .ok (.aload_n 0, 1) := by decide +kernel
theorem dX6_count_105 : decode cX6_count 105 = .ok (.getfield 7, 3) := by decide +kernel
theorem dX6_count_108 : decode cX6_count 108 = .ok (.iload_n 1, 1) := by decide +kernel
theorem dX6_count_109 : decode cX6_count 109 = .ok (.iaload, 1) := by decide +kernel
theorem dX6_count_110 : decode cX6_count 110 = .ok (.ireturn, 1) := by decide +kernel
theorem dX6_count_111 : decode cX6_count 111 = .ok (.aload_n 0, 1) := by decide +kernel
theorem dX6_count_112 : decode cX6_count 112 = .ok (.iload_n 1, 1) := by decide +kernel
theorem dX6_count_113 : decode cX6_count 113 = .ok (.iconst 2, 1) := by decide +kernel
theorem dX6_count_114 : decode cX6_count 114 = .ok (.isub, 1) := by decide +kernel
theorem dX6_count_115 : decode cX6_count 115 = .ok (.invokevirtual 194, 3) := by decide +kernel
theorem dX6_count_118 : decode cX6_count 118 = .ok (.ireturn, 1) := by decide +kernel
theorem dX6_count_119 : decode cX6_count 119 = .ok (.aload_n 0, 1) := by decide +kernel
theorem dX6_count_120 : decode cX6_count 120 = .ok (.invokevirtual 197, 3) := by decide +kernel
theorem dX6_count_123 : decode cX6_count 123 = .ok (.ireturn, 1) := by decide +kernel
theorem dX6_count_124 : decode cX6_count 124 = .ok (.aload_n 0, 1) := by decide +kernel
theorem dX6_count_125 : decode cX6_count 125 = .ok (.getfield 125, 3) := by decide +kernel
theorem dX6_count_128 : decode cX6_count 128 = .ok (.ireturn, 1) := by decide +kernel
theorem dX6_count_129 : decode cX6_count 129 = .ok (.aload_n 0, 1) := by decide +kernel
theorem dX6_count_130 : decode cX6_count 130 = .ok (.getfield 32, 3) := by decide +kernel
theorem dX6_count_133 : decode cX6_count 133 = .ok (.ireturn, 1) := by decide +kernel
theorem dX6_count_134 : decode cX6_count 134 = .ok (.iload_n 1, 1) := by decide +kernel
theorem dX6_count_135 : decode cX6_count 135 = .ok (.bipush 6, 2) := by decide +kernel
theorem dX6_count_137 : decode cX6_count 137 = .ok (.bipush 19, 2) := by decide +kernel
theorem dX6_count_139 : decode cX6_count 139 = .ok (.invokestatic 40, 3) := by decide +kernel
theorem dX6_count_142 : decode cX6_count 142 = .ok (.ifCond .eq 17, 3) := by decide +kernel
theorem dX6_count_145 : decode cX6_count 145 = .ok (.aload_n 0, 1) := by decide +kernel
theorem dX6_count_146 : decode cX6_count 146 = .ok (.getfield 7, 3) := by decide +kernel
theorem dX6_count_149 : decode cX6_count 149 = .ok (.iconst 2, 1) := by decide +kernel
theorem dX6_count_150 : decode cX6_count 150 = .ok (.iload_n 1, 1) := by decide +kernel
theorem dX6_count_151 : decode cX6_count 151 = .ok (.iadd, 1) := by decide +kernel
theorem dX6_count_152 : decode cX6_count 152 = .ok (.bipush 6, 2) := by decide +kernel
theorem dX6_count_154 : decode cX6_count 154 = .ok (.isub, 1) := by decide +kernel
theorem dX6_count_155 : decode cX6_count 155 = .ok (.iaload, 1) := by decide +kernel
theorem dX6_count_156 : decode cX6_count 156 = .ok (.goto 4, 3) := by decide +kernel
theorem dX6_count_159 : decode cX6_count 159 = .ok (.iconst (-1), 1) := by decide +kernel
theorem dX6_count_160 : decode cX6_count 160 = .ok (.ireturn, 1) := by decide +kernel
set_option maxRecDepth 20000 in
theorem ggX6_loudness_X6_allLoud : GoodIn wsX6_loudness wsX6_allLoud := goodIn_r _ [6, 1, 7, 8, 9, 5, 10, 11, 12, 13, 14, 15, 16, 17, 18, 19, 20, 21, 22, 23, 24, 25, 26, 27] (by decide +kernel) (by decide +kernel)
set_option maxRecDepth 20000 in
theorem gX6_loudness_X6_allLoud : GoodIn wsX6_loudness (wsV RX6 197 RX6 yX6_allLoud wsX6_allLoud) := goodIn_app (goodIn_of _ (by decide +kernel)) ggX6_loudness_X6_allLoud
theorem dX6_loudness_0 : decode cX6_loudness 0 = .ok (.aload_n 0, 1) := by decide +kernel
theorem dX6_loudness_1 : decode cX6_loudness 1 = .ok (.getfield 7, 3) := by decide +kernel
theorem dX6_loudness_4 : decode cX6_loudness 4 = .ok (.iconst 1, 1) := by decide +kernel
theorem dX6_loudness_5 : decode cX6_loudness 5 = .ok (.iaload, 1) := by decide +kernel
theorem dX6_loudness_6 : decode cX6_loudness 6 = .ok (.ifCond .ne 7, 3) := by decide +kernel
theorem dX6_loudness_9 : decode cX6_loudness 9 = .ok (.dconst 0, 1) := by decide +kernel
theorem dX6_loudness_10 : decode cX6_loudness 10 = .ok (.goto 16, 3) := by decide +kernel
theorem dX6_loudness_13 : decode cX6_loudness 13 = .ok (.aload_n 0, 1) := by decide +kernel
theorem dX6_loudness_14 : decode cX6_loudness 14 = .ok (.invokevirtual 197, 3) := by decide +kernel
theorem dX6_loudness_17 : decode cX6_loudness 17 = .ok (.i2d, 1) := by decide +kernel
theorem dX6_loudness_18 : decode cX6_loudness 18 = .ok (.aload_n 0, 1) := by decide +kernel
theorem dX6_loudness_19 : decode cX6_loudness 19 = .ok (.getfield 7, 3) := by decide +kernel
theorem dX6_loudness_22 : decode cX6_loudness 22 = .ok (.iconst 1, 1) := by decide +kernel
theorem dX6_loudness_23 : decode cX6_loudness 23 = .ok (.iaload, 1) := by decide +kernel
theorem dX6_loudness_24 : decode cX6_loudness 24 = .ok (.i2d, 1) := by decide +kernel
theorem dX6_loudness_25 : decode cX6_loudness 25 = .ok (.ddiv, 1) := by decide +kernel
theorem dX6_loudness_26 : decode cX6_loudness 26 = .ok (.dreturn, 1) := by decide +kernel
set_option maxRecDepth 20000 in
theorem ggX6_ifHit_X6_isNote : GoodIn wsX6_ifHit wsX6_isNote := goodIn_r _ [7, 8, 9, 6, 10] (by decide +kernel) (by decide +kernel)
set_option maxRecDepth 20000 in
theorem gX6_ifHit_X6_isNote : GoodIn wsX6_ifHit (va_wsS RX6 103 yX6_isNote wsX6_isNote) := goodIn_app (goodIn_of _ (by decide +kernel)) ggX6_ifHit_X6_isNote
set_option maxRecDepth 20000 in
theorem ggX6_ifHit_X6_in : GoodIn wsX6_ifHit wsX6_in := goodIn_r _ [10] (by decide +kernel) (by decide +kernel)
set_option maxRecDepth 20000 in
theorem gX6_ifHit_X6_in : GoodIn wsX6_ifHit (va_wsS RX6 40 yX6_in wsX6_in) := goodIn_app (goodIn_of _ (by decide +kernel)) ggX6_ifHit_X6_in
set_option maxRecDepth 20000 in
theorem ggX6_ifHit_X6_copies : GoodIn wsX6_ifHit wsX6_copies := goodIn_r _ [13] (by decide +kernel) (by decide +kernel)
set_option maxRecDepth 20000 in
theorem gX6_ifHit_X6_copies : GoodIn wsX6_ifHit (va_wsS RX6 36 yX6_copies wsX6_copies) := goodIn_app (goodIn_of _ (by decide +kernel)) ggX6_ifHit_X6_copies
set_option maxRecDepth 20000 in
theorem ggX6_ifHit_X6_goHit : GoodIn wsX6_ifHit wsX6_goHit := goodIn_r _ [17, 1, 3, 18, 19, 20, 21, 6, 22, 23, 24, 25, 26, 27, 28, 29, 30, 31, 32, 33, 34, 35, 36, 37, 38, 8, 9, 10, 39, 40, 41, 42, 43, 44, 45, 46, 47, 48, 49, 50, 51, 52, 53, 54, 55, 56, 57, 58, 59, 60, 61, 62, 63, 64, 65, 66, 67, 68, 69, 70, 71, 72, 73, 74, 75, 76, 77, 78, 79] (by decide +kernel) (by decide +kernel)
set_option maxRecDepth 20000 in
theorem gX6_ifHit_X6_goHit : GoodIn wsX6_ifHit (wsV RX6 107 RX6 yX6_goHit wsX6_goHit) := goodIn_app (goodIn_of _ (by decide +kernel)) ggX6_ifHit_X6_goHit
theorem dX6_ifHit_0 : decode cX6_ifHit 0 = .ok (.iload_n 1, 1) := by decide +kernel
theorem dX6_ifHit_1 : decode cX6_ifHit 1 = .ok (.iload_n 2, 1) := by decide +kernel
theorem dX6_ifHit_2 : decode cX6_ifHit 2 = .ok (.invokestatic 103, 3) := by decide +kernel
theorem dX6_ifHit_5 : decode cX6_ifHit 5 = .ok (.ifCond .eq 12, 3) := by decide +kernel
theorem dX6_ifHit_8 : decode cX6_ifHit 8 = .ok (.iload_n 3, 1) := by decide +kernel
theorem dX6_ifHit_9 : decode cX6_ifHit 9 = .ok (.iconst 0, 1) := by decide +kernel
theorem dX6_ifHit_10 : decode cX6_ifHit 10 = .ok (.iconst 4, 1) := by decide +kernel
theorem dX6_ifHit_11 : decode cX6_ifHit 11 = .ok (.invokestatic 40, 3) := by decide +kernel
theorem dX6_ifHit_14 : decode cX6_ifHit 14 = .ok (.ifCond .ne 5, 3) := by decide +kernel
theorem dX6_ifHit_17 : decode cX6_ifHit 17 = .ok (.iconst (-1), 1) := by decide +kernel
theorem dX6_ifHit_18 : decode cX6_ifHit 18 = .ok (.ireturn, 1) := by decide +kernel
theorem dX6_ifHit_19 : decode cX6_ifHit 19 = .ok (.aload_n 0, 1) := by decide +kernel
theorem dX6_ifHit_20 : decode cX6_ifHit 20 = .ok (.getfield 7, 3) := by decide +kernel
theorem dX6_ifHit_23 : decode cX6_ifHit 23 = .ok (.iconst 0, 1) := by decide +kernel
theorem dX6_ifHit_24 : decode cX6_ifHit 24 = .ok (.aload_n 0, 1) := by decide +kernel
theorem dX6_ifHit_25 : decode cX6_ifHit 25 = .ok (.getfield 13, 3) := by decide +kernel
theorem dX6_ifHit_28 : decode cX6_ifHit 28 = .ok (.iconst 0, 1) := by decide +kernel
theorem dX6_ifHit_29 : decode cX6_ifHit 29 = .ok (.invokestatic 36, 3) := by decide +kernel
theorem dX6_ifHit_32 : decode cX6_ifHit 32 = .ok (.aload_n 0, 1) := by decide +kernel
theorem dX6_ifHit_33 : decode cX6_ifHit 33 = .ok (.iload_n 1, 1) := by decide +kernel
theorem dX6_ifHit_34 : decode cX6_ifHit 34 = .ok (.iload_n 2, 1) := by decide +kernel
theorem dX6_ifHit_35 : decode cX6_ifHit 35 = .ok (.invokevirtual 107, 3) := by decide +kernel
theorem dX6_ifHit_38 : decode cX6_ifHit 38 = .ok (.istore 4, 2) := by decide +kernel
theorem dX6_ifHit_40 : decode cX6_ifHit 40 = .ok (.iload_n 3, 1) := by decide +kernel
theorem dX6_ifHit_41 : decode cX6_ifHit 41 = .ok (.ifCond .ne 8, 3) := by decide +kernel
theorem dX6_ifHit_44 : decode cX6_ifHit 44 = .ok (.iload 4, 2) := by decide +kernel
theorem dX6_ifHit_46 : decode cX6_ifHit 46 = .ok (.goto 67, 3) := by decide +kernel
theorem dX6_ifHit_49 : decode cX6_ifHit 49 = .ok (.iload_n 3, 1) := by decide +kernel
theorem dX6_ifHit_50 : decode cX6_ifHit 50 = .ok (.iconst 1, 1) := by decide +kernel
theorem dX6_ifHit_51 : decode cX6_ifHit 51 = .ok (.if_icmp .ne 21, 3) := by decide +kernel
theorem dX6_ifHit_54 : decode cX6_ifHit 54 = .ok (.aload_n 0, 1) := by decide +kernel
theorem dX6_ifHit_55 : decode cX6_ifHit 55 = .ok (.getfield 7, 3) := by decide +kernel
theorem dX6_ifHit_58 : decode cX6_ifHit 58 = .ok (.bipush 6, 2) := by decide +kernel
theorem dX6_ifHit_60 : decode cX6_ifHit 60 = .ok (.iaload, 1) := by decide +kernel
theorem dX6_ifHit_61 : decode cX6_ifHit 61 = .ok (.aload_n 0, 1) := by decide +kernel
theorem dX6_ifHit_62 : decode cX6_ifHit 62 = .ok (.getfield 13, 3) := by decide +kernel
theorem dX6_ifHit_65 : decode cX6_ifHit 65 = .ok (.bipush 6, 2) := by decide +kernel
theorem dX6_ifHit_67 : decode cX6_ifHit 67 = .ok (.iaload, 1) := by decide +kernel
theorem dX6_ifHit_68 : decode cX6_ifHit 68 = .ok (.isub, 1) := by decide +kernel
theorem dX6_ifHit_69 : decode cX6_ifHit 69 = .ok (.goto 44, 3) := by decide +kernel
theorem dX6_ifHit_72 : decode cX6_ifHit 72 = .ok (.iload_n 3, 1) := by decide +kernel
theorem dX6_ifHit_73 : decode cX6_ifHit 73 = .ok (.iconst 2, 1) := by decide +kernel
theorem dX6_ifHit_74 : decode cX6_ifHit 74 = .ok (.if_icmp .ne 21, 3) := by decide +kernel
theorem dX6_ifHit_77 : decode cX6_ifHit 77 = .ok (.aload_n 0, 1) := by decide +kernel
theorem dX6_ifHit_78 : decode cX6_ifHit 78 = .ok (.getfield 7, 3) := by decide +kernel
theorem dX6_ifHit_81 : decode cX6_ifHit 81 = .ok (.bipush 7, 2) := by decide +kernel
theorem dX6_ifHit_83 : decode cX6_ifHit 83 = .ok (.iaload, 1) := by decide +kernel
theorem dX6_ifHit_84 : decode cX6_ifHit 84 = .ok (.aload_n 0, 1) := by decide +kernel
theorem dX6_ifHit_85 : decode cX6_ifHit 85 = .ok (.getfield 13, 3) := by decide +kernel
theorem dX6_ifHit_88 : decode cX6_ifHit 88 = .ok (.bipush 7, 2) := by decide +kernel
theorem dX6_ifHit_90 : decode cX6_ifHit 90 = .ok (.iaload, 1) := by decide +kernel
theorem dX6_ifHit_91 : decode cX6_ifHit 91 = .ok (.isub, 1) := by decide +kernel
theorem dX6_ifHit_92 : decode cX6_ifHit 92 = .ok (.goto 21, 3) := by decide +kernel
theorem dX6_ifHit_95 : decode cX6_ifHit 95 = .ok (.iload_n 3, 1) := by decide +kernel
theorem dX6_ifHit_96 : decode cX6_ifHit 96 = .ok (.iconst 3, 1) := by decide +kernel
theorem dX6_ifHit_97 : decode cX6_ifHit 97 = .ok (.if_icmp .ne 10, 3) := by decide +kernel
theorem dX6_ifHit_100 : decode cX6_ifHit 100 = .ok (.aload_n 0, 1) := by decide +kernel
theorem dX6_ifHit_101 : decode cX6_ifHit 101 = .ok (.getfield 76, 3) := by decide +kernel
theorem dX6_ifHit_104 : decode cX6_ifHit 104 = .ok (.goto 9, 3) := by decide +kernel
theorem dX6_ifHit_107 : decode cX6_ifHit 107 = .ok (.aload_n 0, 1) := by decide +kernel
theorem dX6_ifHit_108 : decode cX6_ifHit 108 = .ok (.getfield 7, 3) := by decide +kernel
theorem dX6_ifHit_111 : decode cX6_ifHit 111 = .ok (.iconst 1, 1) := by decide +kernel
theorem dX6_ifHit_112 : decode cX6_ifHit 112 = .ok (.iaload, 1) := by decide +kernel
theorem dX6_ifHit_113 : decode cX6_ifHit 113 = .ok (.istore 5, 2) := by decide +kernel
theorem dX6_ifHit_115 : decode cX6_ifHit 115 = .ok (.aload_n 0, 1) := by decide +kernel
theorem dX6_ifHit_116 : decode cX6_ifHit 116 = .ok (.getfield 13, 3) := by decide +kernel
theorem dX6_ifHit_119 : decode cX6_ifHit 119 = .ok (.iconst 0, 1) := by decide +kernel
theorem dX6_ifHit_120 : decode cX6_ifHit 120 = .ok (.aload_n 0, 1) := by decide +kernel
theorem dX6_ifHit_121 : decode cX6_ifHit 121 = .ok (.getfield 7, 3) := by decide +kernel
theorem dX6_ifHit_124 : decode cX6_ifHit 124 = .ok (.iconst 0, 1) := by decide +kernel
theorem dX6_ifHit_125 : decode cX6_ifHit 125 = .ok (.invokestatic 36, 3) := by decide +kernel
theorem dX6_ifHit_128 : decode cX6_ifHit 128 = .ok (.iload 5, 2) := by decide +kernel
theorem dX6_ifHit_130 : decode cX6_ifHit 130 = .ok (.ireturn, 1) := by decide +kernel
set_option maxRecDepth 20000 in
theorem ggX6_silentIn_X6_copies : GoodIn wsX6_silentIn wsX6_copies := goodIn_r _ [6] (by decide +kernel) (by decide +kernel)
set_option maxRecDepth 20000 in
theorem gX6_silentIn_X6_copies : GoodIn wsX6_silentIn (va_wsS RX6 36 yX6_copies wsX6_copies) := goodIn_app (goodIn_of _ (by decide +kernel)) ggX6_silentIn_X6_copies
set_option maxRecDepth 20000 in
theorem ggX6_silentIn_X6_tick : GoodIn wsX6_silentIn wsX6_tick := goodIn_r _ [10, 1, 11, 12, 13, 5, 14, 15, 16, 17, 18, 19, 20, 21, 22, 23, 24, 25, 26, 27, 28, 29, 30, 31, 32, 33, 34, 35, 36, 37, 38, 39, 40, 41, 42, 43] (by decide +kernel) (by decide +kernel)
set_option maxRecDepth 20000 in
theorem gX6_silentIn_X6_tick : GoodIn wsX6_silentIn (wsV RX6 85 RX6 yX6_tick wsX6_tick) := goodIn_app (goodIn_of _ (by decide +kernel)) ggX6_silentIn_X6_tick
theorem dX6_silentIn_0 : decode cX6_silentIn 0 = .ok (.aload_n 0, 1) := by decide +kernel
theorem dX6_silentIn_1 : decode cX6_silentIn 1 = .ok (.getfield 7, 3) := by decide +kernel
theorem dX6_silentIn_4 : decode cX6_silentIn 4 = .ok (.iconst 0, 1) := by decide +kernel
theorem dX6_silentIn_5 : decode cX6_silentIn 5 = .ok (.aload_n 0, 1) := by decide +kernel
theorem dX6_silentIn_6 : decode cX6_silentIn 6 = .ok (.getfield 13, 3) := by decide +kernel
theorem dX6_silentIn_9 : decode cX6_silentIn 9 = .ok (.iconst 0, 1) := by decide +kernel
theorem dX6_silentIn_10 : decode cX6_silentIn 10 = .ok (.invokestatic 36, 3) := by decide +kernel
theorem dX6_silentIn_13 : decode cX6_silentIn 13 = .ok (.iconst 0, 1) := by decide +kernel
theorem dX6_silentIn_14 : decode cX6_silentIn 14 = .ok (.istore_n 1, 1) := by decide +kernel
theorem dX6_silentIn_15 : decode cX6_silentIn 15 = .ok (.aload_n 0, 1) := by decide +kernel
theorem dX6_silentIn_16 : decode cX6_silentIn 16 = .ok (.getfield 7, 3) := by decide +kernel
theorem dX6_silentIn_19 : decode cX6_silentIn 19 = .ok (.iconst 1, 1) := by decide +kernel
theorem dX6_silentIn_20 : decode cX6_silentIn 20 = .ok (.iaload, 1) := by decide +kernel
theorem dX6_silentIn_21 : decode cX6_silentIn 21 = .ok (.ifCond .le 14, 3) := by decide +kernel
theorem dX6_silentIn_24 : decode cX6_silentIn 24 = .ok (.aload_n 0, 1) := by decide +kernel
theorem dX6_silentIn_25 : decode cX6_silentIn 25 = .ok (.invokevirtual 85, 3) := by decide +kernel
theorem dX6_silentIn_28 : decode cX6_silentIn 28 = .ok (.istore_n 2, 1) := by decide +kernel
theorem dX6_silentIn_29 : decode cX6_silentIn 29 = .ok (.iinc 1 1, 3) := by decide +kernel
theorem dX6_silentIn_32 : decode cX6_silentIn 32 = .ok (.goto (-17), 3) := by decide +kernel
theorem dX6_silentIn_35 : decode cX6_silentIn 35 = .ok (.aload_n 0, 1) := by decide +kernel
theorem dX6_silentIn_36 : decode cX6_silentIn 36 = .ok (.getfield 13, 3) := by decide +kernel
theorem dX6_silentIn_39 : decode cX6_silentIn 39 = .ok (.iconst 0, 1) := by decide +kernel
theorem dX6_silentIn_40 : decode cX6_silentIn 40 = .ok (.aload_n 0, 1) := by decide +kernel
theorem dX6_silentIn_41 : decode cX6_silentIn 41 = .ok (.getfield 7, 3) := by decide +kernel
theorem dX6_silentIn_44 : decode cX6_silentIn 44 = .ok (.iconst 0, 1) := by decide +kernel
theorem dX6_silentIn_45 : decode cX6_silentIn 45 = .ok (.invokestatic 36, 3) := by decide +kernel
theorem dX6_silentIn_48 : decode cX6_silentIn 48 = .ok (.iload_n 1, 1) := by decide +kernel
theorem dX6_silentIn_49 : decode cX6_silentIn 49 = .ok (.ireturn, 1) := by decide +kernel
set_option maxRecDepth 20000 in
theorem ggX6_chord_X6_in : GoodIn wsX6_chord wsX6_in := goodIn_r _ [6] (by decide +kernel) (by decide +kernel)
set_option maxRecDepth 20000 in
theorem gX6_chord_X6_in : GoodIn wsX6_chord (va_wsS RX6 40 yX6_in wsX6_in) := goodIn_app (goodIn_of _ (by decide +kernel)) ggX6_chord_X6_in
set_option maxRecDepth 20000 in
theorem ggX6_chord_X6_copies : GoodIn wsX6_chord wsX6_copies := goodIn_r _ [9] (by decide +kernel) (by decide +kernel)
set_option maxRecDepth 20000 in
theorem gX6_chord_X6_copies : GoodIn wsX6_chord (va_wsS RX6 36 yX6_copies wsX6_copies) := goodIn_app (goodIn_of _ (by decide +kernel)) ggX6_chord_X6_copies
set_option maxRecDepth 20000 in
theorem ggX6_chord_X6_goHit : GoodIn wsX6_chord wsX6_goHit := goodIn_r _ [13, 1, 14, 15, 16, 17, 18, 5, 19, 20, 21, 22, 23, 24, 25, 26, 27, 28, 29, 30, 31, 32, 33, 34, 35, 3, 4, 6, 36, 37, 38, 39, 40, 41, 42, 43, 44, 45, 46, 47, 48, 49, 50, 51, 52, 53, 54, 55, 56, 57, 58, 59, 60, 61, 62, 63, 64, 65, 66, 67, 68, 69, 70, 71, 72, 73, 74, 75, 76] (by decide +kernel) (by decide +kernel)
set_option maxRecDepth 20000 in
theorem gX6_chord_X6_goHit : GoodIn wsX6_chord (wsV RX6 107 RX6 yX6_goHit wsX6_goHit) := goodIn_app (goodIn_of _ (by decide +kernel)) ggX6_chord_X6_goHit
theorem dX6_chord_0 : decode cX6_chord 0 = .ok (.iload_n 1, 1) := by decide +kernel
theorem dX6_chord_1 : decode cX6_chord 1 = .ok (.iconst 1, 1) := by decide +kernel
theorem dX6_chord_2 : decode cX6_chord 2 = .ok (.bipush 63, 2) := by decide +kernel
theorem dX6_chord_4 : decode cX6_chord 4 = .ok (.invokestatic 40, 3) := by decide +kernel
theorem dX6_chord_7 : decode cX6_chord 7 = .ok (.ifCond .eq 22, 3) := by decide +kernel
theorem dX6_chord_10 : decode cX6_chord 10 = .ok (.iload_n 2, 1) := by decide +kernel
theorem dX6_chord_11 : decode cX6_chord 11 = .ok (.iconst 0, 1) := by decide +kernel
theorem dX6_chord_12 : decode cX6_chord 12 = .ok (.iconst 5, 1) := by decide +kernel
theorem dX6_chord_13 : decode cX6_chord 13 = .ok (.invokestatic 40, 3) := by decide +kernel
theorem dX6_chord_16 : decode cX6_chord 16 = .ok (.ifCond .eq 13, 3) := by decide +kernel
theorem dX6_chord_19 : decode cX6_chord 19 = .ok (.iload_n 3, 1) := by decide +kernel
theorem dX6_chord_20 : decode cX6_chord 20 = .ok (.iconst 1, 1) := by decide +kernel
theorem dX6_chord_21 : decode cX6_chord 21 = .ok (.bipush 9, 2) := by decide +kernel
theorem dX6_chord_23 : decode cX6_chord 23 = .ok (.invokestatic 40, 3) := by decide +kernel
theorem dX6_chord_26 : decode cX6_chord 26 = .ok (.ifCond .ne 5, 3) := by decide +kernel
theorem dX6_chord_29 : decode cX6_chord 29 = .ok (.iconst (-1), 1) := by decide +kernel
theorem dX6_chord_30 : decode cX6_chord 30 = .ok (.ireturn, 1) := by decide +kernel
theorem dX6_chord_31 : decode cX6_chord 31 = .ok (.aload_n 0, 1) := by decide +kernel
theorem dX6_chord_32 : decode cX6_chord 32 = .ok (.getfield 7, 3) := by decide +kernel
theorem dX6_chord_35 : decode cX6_chord 35 = .ok (.iconst 0, 1) := by decide +kernel
theorem dX6_chord_36 : decode cX6_chord 36 = .ok (.aload_n 0, 1) := by decide +kernel
theorem dX6_chord_37 : decode cX6_chord 37 = .ok (.getfield 13, 3) := by decide +kernel
theorem dX6_chord_40 : decode cX6_chord 40 = .ok (.iconst 0, 1) := by decide +kernel
theorem dX6_chord_41 : decode cX6_chord 41 = .ok (.invokestatic 36, 3) := by decide +kernel
theorem dX6_chord_44 : decode cX6_chord 44 = .ok (.iconst 0, 1) := by decide +kernel
theorem dX6_chord_45 : decode cX6_chord 45 = .ok (.istore 4, 2) := by decide +kernel
theorem dX6_chord_47 : decode cX6_chord 47 = .ok (.iconst 0, 1) := by decide +kernel
theorem dX6_chord_48 : decode cX6_chord 48 = .ok (.istore 5, 2) := by decide +kernel
theorem dX6_chord_50 : decode cX6_chord 50 = .ok (.iload 5, 2) := by decide +kernel
theorem dX6_chord_52 : decode cX6_chord 52 = .ok (.bipush 6, 2) := by decide +kernel
theorem dX6_chord_54 : decode cX6_chord 54 = .ok (.if_icmp .ge 40, 3) := by decide +kernel
theorem dX6_chord_57 : decode cX6_chord 57 = .ok (.iload 4, 2) := by decide +kernel
theorem dX6_chord_59 : decode cX6_chord 59 = .ok (.iload_n 1, 1) := by decide +kernel
theorem dX6_chord_60 : decode cX6_chord 60 = .ok (.iload 5, 2) := by decide +kernel
theorem dX6_chord_62 : decode cX6_chord 62 = .ok (.ishr, 1) := by decide +kernel
theorem dX6_chord_63 : decode cX6_chord 63 = .ok (.iconst 1, 1) := by decide +kernel
theorem dX6_chord_64 : decode cX6_chord 64 = .ok (.iand, 1) := by decide +kernel
theorem dX6_chord_65 : decode cX6_chord 65 = .ok (.iconst 1, 1) := by decide +kernel
theorem dX6_chord_66 : decode cX6_chord 66 = .ok (.if_icmp .ne 18, 3) := by decide +kernel
theorem dX6_chord_69 : decode cX6_chord 69 = .ok (.aload_n 0, 1) := by decide +kernel
theorem dX6_chord_70 : decode cX6_chord 70 = .ok (.bipush 6, 2) := by decide +kernel
theorem dX6_chord_72 : decode cX6_chord 72 = .ok (.iload_n 2, 1) := by decide +kernel
theorem dX6_chord_73 : decode cX6_chord 73 = .ok (.imul, 1) := by decide +kernel
theorem dX6_chord_74 : decode cX6_chord 74 = .ok (.iload 5, 2) := by decide +kernel
theorem dX6_chord_76 : decode cX6_chord 76 = .ok (.iadd, 1) := by decide +kernel
theorem dX6_chord_77 : decode cX6_chord 77 = .ok (.iload_n 3, 1) := by decide +kernel
theorem dX6_chord_78 : decode cX6_chord 78 = .ok (.invokevirtual 107, 3) := by decide +kernel
theorem dX6_chord_81 : decode cX6_chord 81 = .ok (.goto 4, 3) := by decide +kernel
theorem dX6_chord_84 : decode cX6_chord 84 = .ok (.iconst 0, 1) := by decide +kernel
theorem dX6_chord_85 : decode cX6_chord 85 = .ok (.iadd, 1) := by decide +kernel
theorem dX6_chord_86 : decode cX6_chord 86 = .ok (.istore 4, 2) := by decide +kernel
theorem dX6_chord_88 : decode cX6_chord 88 = .ok (.iinc 5 1, 3) := by decide +kernel
theorem dX6_chord_91 : decode cX6_chord 91 = .ok (.goto (-41), 3) := by decide +kernel
theorem dX6_chord_94 : decode cX6_chord 94 = .ok (.aload_n 0, 1) := by decide +kernel
theorem dX6_chord_95 : decode cX6_chord 95 = .ok (.getfield 13, 3) := by decide +kernel
theorem dX6_chord_98 : decode cX6_chord 98 = .ok (.iconst 0, 1) := by decide +kernel
theorem dX6_chord_99 : decode cX6_chord 99 = .ok (.aload_n 0, 1) := by decide +kernel
theorem dX6_chord_100 : decode cX6_chord 100 = .ok (.getfield 7, 3) := by decide +kernel
theorem dX6_chord_103 : decode cX6_chord 103 = .ok (.iconst 0, 1) := by decide +kernel
theorem dX6_chord_104 : decode cX6_chord 104 = .ok (.invokestatic 36, 3) := by decide +kernel
theorem dX6_chord_107 : decode cX6_chord 107 = .ok (.iload 4, 2) := by decide +kernel
theorem dX6_chord_109 : decode cX6_chord 109 = .ok (.ireturn, 1) := by decide +kernel
set_option maxRecDepth 20000 in
theorem ggX6_undo_X6_copies : GoodIn wsX6_undo wsX6_copies := goodIn_r _ [7] (by decide +kernel) (by decide +kernel)
set_option maxRecDepth 20000 in
theorem gX6_undo_X6_copies : GoodIn wsX6_undo (va_wsS RX6 36 yX6_copies wsX6_copies) := goodIn_app (goodIn_of _ (by decide +kernel)) ggX6_undo_X6_copies
theorem dX6_undo_0 : decode cX6_undo 0 = .ok (.aload_n 0, 1) := by decide +kernel
theorem dX6_undo_1 : decode cX6_undo 1 = .ok (.getfield 32, 3) := by decide +kernel
theorem dX6_undo_4 : decode cX6_undo 4 = .ok (.ifCond .ne 6, 3) := by decide +kernel
theorem dX6_undo_7 : decode cX6_undo 7 = .ok (.bipush (-2), 2) := by decide +kernel
theorem dX6_undo_9 : decode cX6_undo 9 = .ok (.ireturn, 1) := by decide +kernel
theorem dX6_undo_10 : decode cX6_undo 10 = .ok (.aload_n 0, 1) := by decide +kernel
theorem dX6_undo_11 : decode cX6_undo 11 = .ok (.dup, 1) := by decide +kernel
theorem dX6_undo_12 : decode cX6_undo 12 = .ok (.getfield 32, 3) := by decide +kernel
theorem dX6_undo_15 : decode cX6_undo 15 = .ok (.iconst 1, 1) := by decide +kernel
theorem dX6_undo_16 : decode cX6_undo 16 = .ok (.isub, 1) := by decide +kernel
theorem dX6_undo_17 : decode cX6_undo 17 = .ok (.putfield 32, 3) := by decide +kernel
theorem dX6_undo_20 : decode cX6_undo 20 = .ok (.aload_n 0, 1) := by decide +kernel
theorem dX6_undo_21 : decode cX6_undo 21 = .ok (.getfield 16, 3) := by decide +kernel
theorem dX6_undo_24 : decode cX6_undo 24 = .ok (.sipush 150, 3) := by decide +kernel
theorem dX6_undo_27 : decode cX6_undo 27 = .ok (.aload_n 0, 1) := by decide +kernel
theorem dX6_undo_28 : decode cX6_undo 28 = .ok (.getfield 32, 3) := by decide +kernel
theorem dX6_undo_31 : decode cX6_undo 31 = .ok (.imul, 1) := by decide +kernel
theorem dX6_undo_32 : decode cX6_undo 32 = .ok (.aload_n 0, 1) := by decide +kernel
theorem dX6_undo_33 : decode cX6_undo 33 = .ok (.getfield 7, 3) := by decide +kernel
theorem dX6_undo_36 : decode cX6_undo 36 = .ok (.iconst 0, 1) := by decide +kernel
theorem dX6_undo_37 : decode cX6_undo 37 = .ok (.invokestatic 36, 3) := by decide +kernel
theorem dX6_undo_40 : decode cX6_undo 40 = .ok (.aload_n 0, 1) := by decide +kernel
theorem dX6_undo_41 : decode cX6_undo 41 = .ok (.getfield 32, 3) := by decide +kernel
theorem dX6_undo_44 : decode cX6_undo 44 = .ok (.ireturn, 1) := by decide +kernel
set_option maxRecDepth 20000 in
theorem ggX6_save_X6_copies : GoodIn wsX6_save wsX6_copies := goodIn_r _ [7] (by decide +kernel) (by decide +kernel)
set_option maxRecDepth 20000 in
theorem gX6_save_X6_copies : GoodIn wsX6_save (va_wsS RX6 36 yX6_copies wsX6_copies) := goodIn_app (goodIn_of _ (by decide +kernel)) ggX6_save_X6_copies
theorem dX6_save_0 : decode cX6_save 0 = .ok (.aload_n 0, 1) := by decide +kernel
theorem dX6_save_1 : decode cX6_save 1 = .ok (.getfield 7, 3) := by decide +kernel
theorem dX6_save_4 : decode cX6_save 4 = .ok (.iconst 0, 1) := by decide +kernel
theorem dX6_save_5 : decode cX6_save 5 = .ok (.aload_n 0, 1) := by decide +kernel
theorem dX6_save_6 : decode cX6_save 6 = .ok (.getfield 19, 3) := by decide +kernel
theorem dX6_save_9 : decode cX6_save 9 = .ok (.iconst 0, 1) := by decide +kernel
theorem dX6_save_10 : decode cX6_save 10 = .ok (.invokestatic 36, 3) := by decide +kernel
theorem dX6_save_13 : decode cX6_save 13 = .ok (.aload_n 0, 1) := by decide +kernel
theorem dX6_save_14 : decode cX6_save 14 = .ok (.iconst 1, 1) := by decide +kernel
theorem dX6_save_15 : decode cX6_save 15 = .ok (.putfield 200, 3) := by decide +kernel
theorem dX6_save_18 : decode cX6_save 18 = .ok (.aload_n 0, 1) := by decide +kernel
theorem dX6_save_19 : decode cX6_save 19 = .ok (.getfield 7, 3) := by decide +kernel
theorem dX6_save_22 : decode cX6_save 22 = .ok (.iconst 1, 1) := by decide +kernel
theorem dX6_save_23 : decode cX6_save 23 = .ok (.iaload, 1) := by decide +kernel
theorem dX6_save_24 : decode cX6_save 24 = .ok (.ireturn, 1) := by decide +kernel
set_option maxRecDepth 20000 in
theorem ggX6_restore_X6_records : GoodIn wsX6_restore wsX6_records := goodIn_r _ [8, 9, 10, 3, 11, 12, 7, 13, 14, 15, 16, 17, 18, 19, 20, 21, 22, 23, 24, 25, 26, 27, 28, 29, 30] (by decide +kernel) (by decide +kernel)
set_option maxRecDepth 20000 in
theorem gX6_restore_X6_records : GoodIn wsX6_restore (wsV RX6 92 RX6 yX6_records wsX6_records) := goodIn_app (goodIn_of _ (by decide +kernel)) ggX6_restore_X6_records
set_option maxRecDepth 20000 in
theorem ggX6_restore_X6_copies : GoodIn wsX6_restore wsX6_copies := goodIn_r _ [13] (by decide +kernel) (by decide +kernel)
set_option maxRecDepth 20000 in
theorem gX6_restore_X6_copies : GoodIn wsX6_restore (va_wsS RX6 36 yX6_copies wsX6_copies) := goodIn_app (goodIn_of _ (by decide +kernel)) ggX6_restore_X6_copies
theorem dX6_restore_0 : decode cX6_restore 0 = .ok (.aload_n 0, 1) := by decide +kernel
theorem dX6_restore_1 : decode cX6_restore 1 = .ok (.getfield 200, 3) := by decide +kernel
theorem dX6_restore_4 : decode cX6_restore 4 = .ok (.ifCond .ne 6, 3) := by decide +kernel
theorem dX6_restore_7 : decode cX6_restore 7 = .ok (.bipush (-2), 2) := by decide +kernel
theorem dX6_restore_9 : decode cX6_restore 9 = .ok (.ireturn, 1) := by decide +kernel
theorem dX6_restore_10 : decode cX6_restore 10 = .ok (.aload_n 0, 1) := by decide +kernel
theorem dX6_restore_11 : decode cX6_restore 11 = .ok (.invokevirtual 92, 3) := by decide +kernel
theorem dX6_restore_14 : decode cX6_restore 14 = .ok (.aload_n 0, 1) := by decide +kernel
theorem dX6_restore_15 : decode cX6_restore 15 = .ok (.getfield 19, 3) := by decide +kernel
theorem dX6_restore_18 : decode cX6_restore 18 = .ok (.iconst 0, 1) := by decide +kernel
theorem dX6_restore_19 : decode cX6_restore 19 = .ok (.aload_n 0, 1) := by decide +kernel
theorem dX6_restore_20 : decode cX6_restore 20 = .ok (.getfield 7, 3) := by decide +kernel
theorem dX6_restore_23 : decode cX6_restore 23 = .ok (.iconst 0, 1) := by decide +kernel
theorem dX6_restore_24 : decode cX6_restore 24 = .ok (.invokestatic 36, 3) := by decide +kernel
theorem dX6_restore_27 : decode cX6_restore 27 = .ok (.aload_n 0, 1) := by decide +kernel
theorem dX6_restore_28 : decode cX6_restore 28 = .ok (.getfield 7, 3) := by decide +kernel
theorem dX6_restore_31 : decode cX6_restore 31 = .ok (.iconst 1, 1) := by decide +kernel
theorem dX6_restore_32 : decode cX6_restore 32 = .ok (.iaload, 1) := by decide +kernel
theorem dX6_restore_33 : decode cX6_restore 33 = .ok (.ireturn, 1) := by decide +kernel
theorem dJ9_max_7cf53_0 : decode cJ9_max_7cf53 0 = .ok (.iload_n 0, 1) := by decide +kernel
theorem dJ9_max_7cf53_1 : decode cJ9_max_7cf53 1 = .ok (.iload_n 1, 1) := by decide +kernel
theorem dJ9_max_7cf53_2 : decode cJ9_max_7cf53 2 = .ok (.if_icmp .lt 7, 3) := by decide +kernel
theorem dJ9_max_7cf53_5 : decode cJ9_max_7cf53 5 = .ok (.iload_n 0, 1) := by decide +kernel
theorem dJ9_max_7cf53_6 : decode cJ9_max_7cf53 6 = .ok (.goto 4, 3) := by decide +kernel
theorem dJ9_max_7cf53_9 : decode cJ9_max_7cf53 9 = .ok (.iload_n 1, 1) := by decide +kernel
theorem dJ9_max_7cf53_10 : decode cJ9_max_7cf53 10 = .ok (.ireturn, 1) := by decide +kernel
theorem dJ9_min_7cf53_0 : decode cJ9_min_7cf53 0 = .ok (.iload_n 0, 1) := by decide +kernel
theorem dJ9_min_7cf53_1 : decode cJ9_min_7cf53 1 = .ok (.iload_n 1, 1) := by decide +kernel
theorem dJ9_min_7cf53_2 : decode cJ9_min_7cf53 2 = .ok (.if_icmp .gt 7, 3) := by decide +kernel
theorem dJ9_min_7cf53_5 : decode cJ9_min_7cf53 5 = .ok (.iload_n 0, 1) := by decide +kernel
theorem dJ9_min_7cf53_6 : decode cJ9_min_7cf53 6 = .ok (.goto 4, 3) := by decide +kernel
theorem dJ9_min_7cf53_9 : decode cJ9_min_7cf53 9 = .ok (.iload_n 1, 1) := by decide +kernel
theorem dJ9_min_7cf53_10 : decode cJ9_min_7cf53 10 = .ok (.ireturn, 1) := by decide +kernel

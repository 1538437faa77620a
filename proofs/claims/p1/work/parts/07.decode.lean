theorem dX18_init_79 : decode cX18_init 79 = .ok (.putfield 40, 3) := by decide +kernel
theorem dX18_init_82 : decode cX18_init 82 = .ok (.aload_n 0, 1) := by decide +kernel
theorem dX18_init_83 : decode cX18_init 83 = .ok (.sipush 256, 3) := by decide +kernel
theorem dX18_init_86 : decode cX18_init 86 = .ok (.newarray .int, 2) := by decide +kernel
theorem dX18_init_88 : decode cX18_init 88 = .ok (.putfield 43, 3) := by decide +kernel
theorem dX18_init_91 : decode cX18_init 91 = .ok (.aload_n 0, 1) := by decide +kernel
theorem dX18_init_92 : decode cX18_init 92 = .ok (.new 26, 3) := by decide +kernel
theorem dX18_init_95 : decode cX18_init 95 = .ok (.dup, 1) := by decide +kernel
theorem dX18_init_96 : decode cX18_init 96 = .ok (.invokespecial 28, 3) := by decide +kernel
theorem dX18_init_99 : decode cX18_init 99 = .ok (.putfield 46, 3) := by decide +kernel
theorem dX18_init_102 : decode cX18_init 102 = .ok (.aload_n 0, 1) := by decide +kernel
theorem dX18_init_103 : decode cX18_init 103 = .ok (.new 26, 3) := by decide +kernel
theorem dX18_init_106 : decode cX18_init 106 = .ok (.dup, 1) := by decide +kernel
theorem dX18_init_107 : decode cX18_init 107 = .ok (.invokespecial 28, 3) := by decide +kernel
theorem dX18_init_110 : decode cX18_init 110 = .ok (.putfield 49, 3) := by decide +kernel
theorem dX18_init_113 : decode cX18_init 113 = .ok (.aload_n 0, 1) := by decide +kernel
theorem dX18_init_114 : decode cX18_init 114 = .ok (.bipush 64, 2) := by decide +kernel
theorem dX18_init_116 : decode cX18_init 116 = .ok (.newarray .int, 2) := by decide +kernel
theorem dX18_init_118 : decode cX18_init 118 = .ok (.putfield 52, 3) := by decide +kernel
theorem dX18_init_121 : decode cX18_init 121 = .ok (.aload_n 0, 1) := by decide +kernel
theorem dX18_init_122 : decode cX18_init 122 = .ok (.bipush 64, 2) := by decide +kernel
theorem dX18_init_124 : decode cX18_init 124 = .ok (.newarray .int, 2) := by decide +kernel
theorem dX18_init_126 : decode cX18_init 126 = .ok (.putfield 55, 3) := by decide +kernel
theorem dX18_init_129 : decode cX18_init 129 = .ok (.aload_n 0, 1) := by decide +kernel
theorem dX18_init_130 : decode cX18_init 130 = .ok (.bipush 40, 2) := by decide +kernel
theorem dX18_init_132 : decode cX18_init 132 = .ok (.newarray .int, 2) := by decide +kernel
theorem dX18_init_134 : decode cX18_init 134 = .ok (.putfield 58, 3) := by decide +kernel
theorem dX18_init_137 : decode cX18_init 137 = .ok (.aload_n 0, 1) := by decide +kernel
theorem dX18_init_138 : decode cX18_init 138 = .ok (.sipush 320, 3) := by decide +kernel
theorem dX18_init_141 : decode cX18_init 141 = .ok (.newarray .int, 2) := by decide +kernel
theorem dX18_init_143 : decode cX18_init 143 = .ok (.putfield 61, 3) := by decide +kernel
theorem dX18_init_146 : decode cX18_init 146 = .ok (.aload_n 0, 1) := by decide +kernel
theorem dX18_init_147 : decode cX18_init 147 = .ok (.sipush 320, 3) := by decide +kernel
theorem dX18_init_150 : decode cX18_init 150 = .ok (.newarray .int, 2) := by decide +kernel
theorem dX18_init_152 : decode cX18_init 152 = .ok (.putfield 64, 3) := by decide +kernel
theorem dX18_init_155 : decode cX18_init 155 = .ok (.aload_n 0, 1) := by decide +kernel
theorem dX18_init_156 : decode cX18_init 156 = .ok (.sipush 256, 3) := by decide +kernel
theorem dX18_init_159 : decode cX18_init 159 = .ok (.newarray .int, 2) := by decide +kernel
theorem dX18_init_161 : decode cX18_init 161 = .ok (.putfield 67, 3) := by decide +kernel
theorem dX18_init_164 : decode cX18_init 164 = .ok (.aload_n 0, 1) := by decide +kernel
theorem dX18_init_165 : decode cX18_init 165 = .ok (.sipush 256, 3) := by decide +kernel
theorem dX18_init_168 : decode cX18_init 168 = .ok (.newarray .int, 2) := by decide +kernel
theorem dX18_init_170 : decode cX18_init 170 = .ok (.putfield 70, 3) := by decide +kernel
theorem dX18_init_173 : decode cX18_init 173 = .ok (.return_, 1) := by decide +kernel
theorem dX18_isArms_0 : decode cX18_isArms 0 = .ok (.iload_n 1, 1) := by decide +kernel
theorem dX18_isArms_1 : decode cX18_isArms 1 = .ok (.iconst 0, 1) := by decide +kernel
theorem dX18_isArms_2 : decode cX18_isArms 2 = .ok (.aload_n 0, 1) := by decide +kernel
theorem dX18_isArms_3 : decode cX18_isArms 3 = .ok (.getfield 20, 3) := by decide +kernel
theorem dX18_isArms_6 : decode cX18_isArms 6 = .ok (.invokevirtual 288, 3) := by decide +kernel
theorem dX18_isArms_9 : decode cX18_isArms 9 = .ok (.iconst 1, 1) := by decide +kernel
theorem dX18_isArms_10 : decode cX18_isArms 10 = .ok (.isub, 1) := by decide +kernel
theorem dX18_isArms_11 : decode cX18_isArms 11 = .ok (.invokestatic 77, 3) := by decide +kernel
theorem dX18_isArms_14 : decode cX18_isArms 14 = .ok (.ireturn, 1) := by decide +kernel
theorem dX18_isExtinct_0 : decode cX18_isExtinct 0 = .ok (.aload_n 0, 1) := by decide +kernel
theorem dX18_isExtinct_1 : decode cX18_isExtinct 1 = .ok (.iload_n 1, 1) := by decide +kernel
theorem dX18_isExtinct_2 : decode cX18_isExtinct 2 = .ok (.invokevirtual 446, 3) := by decide +kernel
theorem dX18_isExtinct_5 : decode cX18_isExtinct 5 = .ok (.ifCond .ne 23, 3) := by decide +kernel
theorem dX18_isExtinct_28 : decode cX18_isExtinct 28 = .ok (.iconst 0, 1) := by decide +kernel
theorem dX18_isExtinct_29 : decode cX18_isExtinct 29 = .ok (.ireturn, 1) := by decide +kernel
theorem dX18_isHeiress_0 : decode cX18_isHeiress 0 = .ok (.aload_n 0, 1) := by decide +kernel
theorem dX18_isHeiress_1 : decode cX18_isHeiress 1 = .ok (.iload_n 1, 1) := by decide +kernel
theorem dX18_isHeiress_2 : decode cX18_isHeiress 2 = .ok (.invokevirtual 337, 3) := by decide +kernel
theorem dX18_isHeiress_5 : decode cX18_isHeiress 5 = .ok (.ifCond .ne 25, 3) := by decide +kernel
theorem dX18_isHeiress_30 : decode cX18_isHeiress 30 = .ok (.iconst 0, 1) := by decide +kernel
theorem dX18_isHeiress_31 : decode cX18_isHeiress 31 = .ok (.ireturn, 1) := by decide +kernel
theorem dX18_isInAbeyance_0 : decode cX18_isInAbeyance 0 = .ok (.aload_n 0, 1) := by decide +kernel
theorem dX18_isInAbeyance_1 : decode cX18_isInAbeyance 1 = .ok (.iload_n 1, 1) := by decide +kernel
theorem dX18_isInAbeyance_2 : decode cX18_isInAbeyance 2 = .ok (.invokevirtual 446, 3) := by decide +kernel
theorem dX18_isInAbeyance_5 : decode cX18_isInAbeyance 5 = .ok (.ifCond .ne 15, 3) := by decide +kernel
theorem dX18_isInAbeyance_20 : decode cX18_isInAbeyance 20 = .ok (.iconst 0, 1) := by decide +kernel
theorem dX18_isInAbeyance_21 : decode cX18_isInAbeyance 21 = .ok (.ireturn, 1) := by decide +kernel
theorem dX18_isPerson_0 : decode cX18_isPerson 0 = .ok (.iload_n 1, 1) := by decide +kernel
theorem dX18_isPerson_1 : decode cX18_isPerson 1 = .ok (.iconst 0, 1) := by decide +kernel
theorem dX18_isPerson_2 : decode cX18_isPerson 2 = .ok (.aload_n 0, 1) := by decide +kernel
theorem dX18_isPerson_3 : decode cX18_isPerson 3 = .ok (.getfield 16, 3) := by decide +kernel
theorem dX18_isPerson_6 : decode cX18_isPerson 6 = .ok (.invokevirtual 288, 3) := by decide +kernel
theorem dX18_isPerson_9 : decode cX18_isPerson 9 = .ok (.iconst 1, 1) := by decide +kernel
theorem dX18_isPerson_10 : decode cX18_isPerson 10 = .ok (.isub, 1) := by decide +kernel
theorem dX18_isPerson_11 : decode cX18_isPerson 11 = .ok (.invokestatic 77, 3) := by decide +kernel
theorem dX18_isPerson_14 : decode cX18_isPerson 14 = .ok (.ireturn, 1) := by decide +kernel
theorem dX18_isPoint_0 : decode cX18_isPoint 0 = .ok (.iload_n 0, 1) := by decide +kernel
theorem dX18_isPoint_1 : decode cX18_isPoint 1 = .ok (.iconst 0, 1) := by decide +kernel
theorem dX18_isPoint_2 : decode cX18_isPoint 2 = .ok (.bipush 15, 2) := by decide +kernel
theorem dX18_isPoint_4 : decode cX18_isPoint 4 = .ok (.invokestatic 77, 3) := by decide +kernel
theorem dX18_isPoint_7 : decode cX18_isPoint 7 = .ok (.ifCond .eq 17, 3) := by decide +kernel
theorem dX18_isPoint_10 : decode cX18_isPoint 10 = .ok (.iload_n 1, 1) := by decide +kernel
theorem dX18_isPoint_11 : decode cX18_isPoint 11 = .ok (.iconst 0, 1) := by decide +kernel
theorem dX18_isPoint_12 : decode cX18_isPoint 12 = .ok (.bipush 15, 2) := by decide +kernel
theorem dX18_isPoint_14 : decode cX18_isPoint 14 = .ok (.invokestatic 77, 3) := by decide +kernel
theorem dX18_isPoint_17 : decode cX18_isPoint 17 = .ok (.ifCond .eq 7, 3) := by decide +kernel
theorem dX18_isPoint_20 : decode cX18_isPoint 20 = .ok (.iconst 1, 1) := by decide +kernel
theorem dX18_isPoint_21 : decode cX18_isPoint 21 = .ok (.goto 4, 3) := by decide +kernel
theorem dX18_isPoint_24 : decode cX18_isPoint 24 = .ok (.iconst 0, 1) := by decide +kernel
theorem dX18_isPoint_25 : decode cX18_isPoint 25 = .ok (.ireturn, 1) := by decide +kernel
theorem dX18_isShape_0 : decode cX18_isShape 0 = .ok (.iload_n 0, 1) := by decide +kernel
theorem dX18_isShape_1 : decode cX18_isShape 1 = .ok (.iconst 0, 1) := by decide +kernel
theorem dX18_isShape_2 : decode cX18_isShape 2 = .ok (.iconst 3, 1) := by decide +kernel
theorem dX18_isShape_3 : decode cX18_isShape 3 = .ok (.invokestatic 77, 3) := by decide +kernel
theorem dX18_isShape_6 : decode cX18_isShape 6 = .ok (.ifCond .eq 17, 3) := by decide +kernel
theorem dX18_isShape_9 : decode cX18_isShape 9 = .ok (.iload_n 1, 1) := by decide +kernel
theorem dX18_isShape_10 : decode cX18_isShape 10 = .ok (.iconst 1, 1) := by decide +kernel
theorem dX18_isShape_11 : decode cX18_isShape 11 = .ok (.bipush 8, 2) := by decide +kernel
theorem dX18_isShape_13 : decode cX18_isShape 13 = .ok (.invokestatic 77, 3) := by decide +kernel
theorem dX18_isShape_16 : decode cX18_isShape 16 = .ok (.ifCond .eq 7, 3) := by decide +kernel
theorem dX18_isShape_19 : decode cX18_isShape 19 = .ok (.iconst 1, 1) := by decide +kernel
theorem dX18_isShape_20 : decode cX18_isShape 20 = .ok (.goto 4, 3) := by decide +kernel
theorem dX18_isShape_23 : decode cX18_isShape 23 = .ok (.iconst 0, 1) := by decide +kernel
theorem dX18_isShape_24 : decode cX18_isShape 24 = .ok (.ireturn, 1) := by decide +kernel
theorem dX18_isSound_0 : decode cX18_isSound 0 = .ok (.aload_n 0, 1) := by decide +kernel
theorem dX18_isSound_1 : decode cX18_isSound 1 = .ok (.iconst 0, 1) := by decide +kernel
theorem dX18_isSound_2 : decode cX18_isSound 2 = .ok (.putfield 73, 3) := by decide +kernel
theorem dX18_isSound_5 : decode cX18_isSound 5 = .ok (.iconst 1, 1) := by decide +kernel
theorem dX18_isSound_6 : decode cX18_isSound 6 = .ok (.ireturn, 1) := by decide +kernel
theorem dX18_judged_0 : decode cX18_judged 0 = .ok (.aload_n 0, 1) := by decide +kernel
theorem dX18_judged_1 : decode cX18_judged 1 = .ok (.iload_n 1, 1) := by decide +kernel
theorem dX18_judged_2 : decode cX18_judged 2 = .ok (.invokevirtual 536, 3) := by decide +kernel
theorem dX18_judged_5 : decode cX18_judged 5 = .ok (.ifCond .eq 7, 3) := by decide +kernel
theorem dX18_judged_8 : decode cX18_judged 8 = .ok (.iconst 0, 1) := by decide +kernel
theorem dX18_judged_9 : decode cX18_judged 9 = .ok (.goto 17, 3) := by decide +kernel
theorem dX18_judged_26 : decode cX18_judged 26 = .ok (.ireturn, 1) := by decide +kernel
theorem dX18_latest_0 : decode cX18_latest 0 = .ok (.iconst (-1), 1) := by decide +kernel
theorem dX18_latest_1 : decode cX18_latest 1 = .ok (.istore_n 3, 1) := by decide +kernel
theorem dX18_latest_2 : decode cX18_latest 2 = .ok (.iconst 0, 1) := by decide +kernel
theorem dX18_latest_3 : decode cX18_latest 3 = .ok (.istore 4, 2) := by decide +kernel
theorem dX18_latest_5 : decode cX18_latest 5 = .ok (.iload 4, 2) := by decide +kernel
theorem dX18_latest_7 : decode cX18_latest 7 = .ok (.aload_n 0, 1) := by decide +kernel
theorem dX18_latest_8 : decode cX18_latest 8 = .ok (.getfield 23, 3) := by decide +kernel
theorem dX18_latest_11 : decode cX18_latest 11 = .ok (.invokevirtual 288, 3) := by decide +kernel
theorem dX18_latest_14 : decode cX18_latest 14 = .ok (.if_icmp .ge 59, 3) := by decide +kernel
theorem dX18_latest_73 : decode cX18_latest 73 = .ok (.iload_n 3, 1) := by decide +kernel
theorem dX18_latest_74 : decode cX18_latest 74 = .ok (.ireturn, 1) := by decide +kernel
theorem dX18_lineOf_0 : decode cX18_lineOf 0 = .ok (.aload_n 0, 1) := by decide +kernel
theorem dX18_lineOf_1 : decode cX18_lineOf 1 = .ok (.iload_n 1, 1) := by decide +kernel
theorem dX18_lineOf_2 : decode cX18_lineOf 2 = .ok (.invokevirtual 337, 3) := by decide +kernel
theorem dX18_lineOf_5 : decode cX18_lineOf 5 = .ok (.ifCond .ne 20, 3) := by decide +kernel
theorem dX18_lineOf_25 : decode cX18_lineOf 25 = .ok (.iconst 0, 1) := by decide +kernel
theorem dX18_lineOf_26 : decode cX18_lineOf 26 = .ok (.goto 8, 3) := by decide +kernel
theorem dX18_lineOf_34 : decode cX18_lineOf 34 = .ok (.ireturn, 1) := by decide +kernel
theorem dX18_lives_0 : decode cX18_lives 0 = .ok (.aload_n 0, 1) := by decide +kernel
theorem dX18_lives_1 : decode cX18_lives 1 = .ok (.iload_n 1, 1) := by decide +kernel
theorem dX18_lives_2 : decode cX18_lives 2 = .ok (.invokevirtual 337, 3) := by decide +kernel
theorem dX18_lives_5 : decode cX18_lives 5 = .ok (.ifCond .ne 24, 3) := by decide +kernel
theorem dX18_lives_29 : decode cX18_lives 29 = .ok (.iconst 0, 1) := by decide +kernel
theorem dX18_lives_30 : decode cX18_lives 30 = .ok (.ireturn, 1) := by decide +kernel
theorem dX18_losses_0 : decode cX18_losses 0 = .ok (.aload_n 0, 1) := by decide +kernel
theorem dX18_losses_1 : decode cX18_losses 1 = .ok (.iload_n 1, 1) := by decide +kernel
theorem dX18_losses_2 : decode cX18_losses 2 = .ok (.iconst 0, 1) := by decide +kernel
theorem dX18_losses_3 : decode cX18_losses 3 = .ok (.iconst 3, 1) := by decide +kernel
theorem dX18_losses_4 : decode cX18_losses 4 = .ok (.invokestatic 77, 3) := by decide +kernel
theorem dX18_losses_7 : decode cX18_losses 7 = .ok (.ifCond .eq 7, 3) := by decide +kernel
theorem dX18_losses_10 : decode cX18_losses 10 = .ok (.iconst 0, 1) := by decide +kernel
theorem dX18_losses_11 : decode cX18_losses 11 = .ok (.goto 4, 3) := by decide +kernel
theorem dX18_losses_14 : decode cX18_losses 14 = .ok (.iconst 1, 1) := by decide +kernel
theorem dX18_losses_15 : decode cX18_losses 15 = .ok (.invokevirtual 84, 3) := by decide +kernel
theorem dX18_losses_18 : decode cX18_losses 18 = .ok (.ifCond .ne 11, 3) := by decide +kernel
theorem dX18_losses_21 : decode cX18_losses 21 = .ok (.aload_n 0, 1) := by decide +kernel
theorem dX18_losses_22 : decode cX18_losses 22 = .ok (.iconst 2, 1) := by decide +kernel
theorem dX18_losses_23 : decode cX18_losses 23 = .ok (.invokevirtual 232, 3) := by decide +kernel
theorem dX18_losses_26 : decode cX18_losses 26 = .ok (.ifCond .eq 7, 3) := by decide +kernel
theorem dX18_losses_29 : decode cX18_losses 29 = .ok (.iconst 0, 1) := by decide +kernel
theorem dX18_losses_30 : decode cX18_losses 30 = .ok (.goto 8, 3) := by decide +kernel
theorem dX18_losses_38 : decode cX18_losses 38 = .ok (.ireturn, 1) := by decide +kernel
theorem dX18_marry_0 : decode cX18_marry 0 = .ok (.aload_n 0, 1) := by decide +kernel
theorem dX18_marry_1 : decode cX18_marry 1 = .ok (.aload_n 0, 1) := by decide +kernel
theorem dX18_marry_2 : decode cX18_marry 2 = .ok (.iload_n 1, 1) := by decide +kernel
theorem dX18_marry_3 : decode cX18_marry 3 = .ok (.invokevirtual 291, 3) := by decide +kernel
theorem dX18_marry_6 : decode cX18_marry 6 = .ok (.ifCond .eq 15, 3) := by decide +kernel
theorem dX18_marry_21 : decode cX18_marry 21 = .ok (.iconst 1, 1) := by decide +kernel
theorem dX18_marry_22 : decode cX18_marry 22 = .ok (.invokevirtual 84, 3) := by decide +kernel
theorem dX18_marry_25 : decode cX18_marry 25 = .ok (.ifCond .eq 5, 3) := by decide +kernel
theorem dX18_marry_28 : decode cX18_marry 28 = .ok (.iconst 0, 1) := by decide +kernel
theorem dX18_marry_29 : decode cX18_marry 29 = .ok (.ireturn, 1) := by decide +kernel
theorem dX18_may_0 : decode cX18_may 0 = .ok (.aload_n 0, 1) := by decide +kernel
theorem dX18_may_1 : decode cX18_may 1 = .ok (.getfield 91, 3) := by decide +kernel
theorem dX18_may_4 : decode cX18_may 4 = .ok (.ifCond .ge 24, 3) := by decide +kernel
theorem dX18_may_7 : decode cX18_may 7 = .ok (.aload_n 0, 1) := by decide +kernel
theorem dX18_may_8 : decode cX18_may 8 = .ok (.invokevirtual 94, 3) := by decide +kernel
theorem dX18_may_11 : decode cX18_may 11 = .ok (.iload_n 1, 1) := by decide +kernel
theorem dX18_may_12 : decode cX18_may 12 = .ok (.iload_n 2, 1) := by decide +kernel
theorem dX18_may_13 : decode cX18_may 13 = .ok (.invokestatic 77, 3) := by decide +kernel
theorem dX18_may_16 : decode cX18_may 16 = .ok (.ifCond .eq 12, 3) := by decide +kernel
theorem dX18_may_28 : decode cX18_may 28 = .ok (.iconst 0, 1) := by decide +kernel
theorem dX18_may_29 : decode cX18_may 29 = .ok (.ireturn, 1) := by decide +kernel
theorem dX18_meanWords_0 : decode cX18_meanWords 0 = .ok (.iconst 0, 1) := by decide +kernel
theorem dX18_meanWords_1 : decode cX18_meanWords 1 = .ok (.istore_n 1, 1) := by decide +kernel
theorem dX18_meanWords_2 : decode cX18_meanWords 2 = .ok (.aload_n 0, 1) := by decide +kernel
theorem dX18_meanWords_3 : decode cX18_meanWords 3 = .ok (.getfield 20, 3) := by decide +kernel
theorem dX18_meanWords_6 : decode cX18_meanWords 6 = .ok (.invokevirtual 313, 3) := by decide +kernel
theorem dX18_meanWords_9 : decode cX18_meanWords 9 = .ok (.astore_n 2, 1) := by decide +kernel
theorem dX18_meanWords_10 : decode cX18_meanWords 10 = .ok (.aload_n 2, 1) := by decide +kernel
theorem dX18_meanWords_11 : decode cX18_meanWords 11 = .ok (.invokeinterface 317 1, 5) := by decide +kernel
theorem dX18_meanWords_16 : decode cX18_meanWords 16 = .ok (.ifCond .eq 24, 3) := by decide +kernel
theorem dX18_meanWords_40 : decode cX18_meanWords 40 = .ok (.aload_n 0, 1) := by decide +kernel
theorem dX18_meanWords_41 : decode cX18_meanWords 41 = .ok (.aload_n 0, 1) := by decide +kernel
theorem dX18_meanWords_42 : decode cX18_meanWords 42 = .ok (.getfield 20, 3) := by decide +kernel
theorem dX18_meanWords_45 : decode cX18_meanWords 45 = .ok (.invokevirtual 562, 3) := by decide +kernel
theorem dX18_meanWords_48 : decode cX18_meanWords 48 = .ok (.ifCond .eq 7, 3) := by decide +kernel
theorem dX18_meanWords_51 : decode cX18_meanWords 51 = .ok (.iconst 1, 1) := by decide +kernel
theorem dX18_meanWords_52 : decode cX18_meanWords 52 = .ok (.goto 4, 3) := by decide +kernel
theorem dX18_meanWords_56 : decode cX18_meanWords 56 = .ok (.invokevirtual 84, 3) := by decide +kernel
theorem dX18_meanWords_59 : decode cX18_meanWords 59 = .ok (.ifCond .eq 7, 3) := by decide +kernel
theorem dX18_meanWords_62 : decode cX18_meanWords 62 = .ok (.dconst 0, 1) := by decide +kernel
theorem dX18_meanWords_63 : decode cX18_meanWords 63 = .ok (.goto 14, 3) := by decide +kernel
theorem dX18_meanWords_77 : decode cX18_meanWords 77 = .ok (.dreturn, 1) := by decide +kernel
theorem dX18_meant_0 : decode cX18_meant 0 = .ok (.aload_n 0, 1) := by decide +kernel
theorem dX18_meant_1 : decode cX18_meant 1 = .ok (.iconst 1, 1) := by decide +kernel
theorem dX18_meant_2 : decode cX18_meant 2 = .ok (.invokevirtual 232, 3) := by decide +kernel
theorem dX18_meant_5 : decode cX18_meant 5 = .ok (.ifCond .ne 38, 3) := by decide +kernel
theorem dX18_meant_43 : decode cX18_meant 43 = .ok (.iconst 0, 1) := by decide +kernel
theorem dX18_meant_44 : decode cX18_meant 44 = .ok (.ireturn, 1) := by decide +kernel
theorem dX18_nearest_0 : decode cX18_nearest 0 = .ok (.aload_n 0, 1) := by decide +kernel
theorem dX18_nearest_1 : decode cX18_nearest 1 = .ok (.iconst 1, 1) := by decide +kernel
theorem dX18_nearest_2 : decode cX18_nearest 2 = .ok (.invokevirtual 232, 3) := by decide +kernel
theorem dX18_nearest_5 : decode cX18_nearest 5 = .ok (.ifCond .eq 5, 3) := by decide +kernel
theorem dX18_nearest_8 : decode cX18_nearest 8 = .ok (.iconst 0, 1) := by decide +kernel
theorem dX18_nearest_9 : decode cX18_nearest 9 = .ok (.ireturn, 1) := by decide +kernel
theorem dX18_ofArms_0 : decode cX18_ofArms 0 = .ok (.aload_n 0, 1) := by decide +kernel
theorem dX18_ofArms_1 : decode cX18_ofArms 1 = .ok (.aload_n 0, 1) := by decide +kernel
theorem dX18_ofArms_2 : decode cX18_ofArms 2 = .ok (.iload_n 1, 1) := by decide +kernel
theorem dX18_ofArms_3 : decode cX18_ofArms 3 = .ok (.invokevirtual 443, 3) := by decide +kernel
theorem dX18_ofArms_6 : decode cX18_ofArms 6 = .ok (.ifCond .eq 15, 3) := by decide +kernel
theorem dX18_ofArms_21 : decode cX18_ofArms 21 = .ok (.iconst 1, 1) := by decide +kernel
theorem dX18_ofArms_22 : decode cX18_ofArms 22 = .ok (.invokevirtual 84, 3) := by decide +kernel
theorem dX18_ofArms_25 : decode cX18_ofArms 25 = .ok (.ifCond .eq 5, 3) := by decide +kernel
theorem dX18_ofArms_28 : decode cX18_ofArms 28 = .ok (.iconst 0, 1) := by decide +kernel
theorem dX18_ofArms_29 : decode cX18_ofArms 29 = .ok (.ireturn, 1) := by decide +kernel
theorem dX18_ofShield_0 : decode cX18_ofShield 0 = .ok (.aload_n 0, 1) := by decide +kernel
theorem dX18_ofShield_1 : decode cX18_ofShield 1 = .ok (.aload_n 0, 1) := by decide +kernel
theorem dX18_ofShield_2 : decode cX18_ofShield 2 = .ok (.iload_n 1, 1) := by decide +kernel
theorem dX18_ofShield_3 : decode cX18_ofShield 3 = .ok (.invokevirtual 291, 3) := by decide +kernel
theorem dX18_ofShield_6 : decode cX18_ofShield 6 = .ok (.ifCond .eq 15, 3) := by decide +kernel
theorem dX18_ofShield_21 : decode cX18_ofShield 21 = .ok (.iconst 1, 1) := by decide +kernel
theorem dX18_ofShield_22 : decode cX18_ofShield 22 = .ok (.invokevirtual 84, 3) := by decide +kernel
theorem dX18_ofShield_25 : decode cX18_ofShield 25 = .ok (.ifCond .ne 33, 3) := by decide +kernel
theorem dX18_ofShield_58 : decode cX18_ofShield 58 = .ok (.iconst 0, 1) := by decide +kernel
theorem dX18_ofShield_59 : decode cX18_ofShield 59 = .ok (.ireturn, 1) := by decide +kernel
theorem dX18_pass_0 : decode cX18_pass 0 = .ok (.aload_n 0, 1) := by decide +kernel
theorem dX18_pass_1 : decode cX18_pass 1 = .ok (.iload_n 1, 1) := by decide +kernel
theorem dX18_pass_2 : decode cX18_pass 2 = .ok (.iconst 1, 1) := by decide +kernel
theorem dX18_pass_3 : decode cX18_pass 3 = .ok (.bipush 100, 2) := by decide +kernel
theorem dX18_pass_5 : decode cX18_pass 5 = .ok (.invokestatic 77, 3) := by decide +kernel
theorem dX18_pass_8 : decode cX18_pass 8 = .ok (.ifCond .ne 7, 3) := by decide +kernel
theorem dX18_pass_11 : decode cX18_pass 11 = .ok (.iconst 1, 1) := by decide +kernel
theorem dX18_pass_12 : decode cX18_pass 12 = .ok (.goto 20, 3) := by decide +kernel
theorem dX18_pass_15 : decode cX18_pass 15 = .ok (.aload_n 0, 1) := by decide +kernel
theorem dX18_pass_16 : decode cX18_pass 16 = .ok (.getfield 285, 3) := by decide +kernel
theorem dX18_pass_19 : decode cX18_pass 19 = .ok (.iload_n 1, 1) := by decide +kernel
theorem dX18_pass_20 : decode cX18_pass 20 = .ok (.iadd, 1) := by decide +kernel
theorem dX18_pass_21 : decode cX18_pass 21 = .ok (.sipush 5000, 3) := by decide +kernel
theorem dX18_pass_24 : decode cX18_pass 24 = .ok (.if_icmp .le 7, 3) := by decide +kernel
theorem dX18_pass_31 : decode cX18_pass 31 = .ok (.iconst 0, 1) := by decide +kernel
theorem dX18_pass_32 : decode cX18_pass 32 = .ok (.invokevirtual 84, 3) := by decide +kernel
theorem dX18_pass_35 : decode cX18_pass 35 = .ok (.ifCond .eq 5, 3) := by decide +kernel
theorem dX18_pass_38 : decode cX18_pass 38 = .ok (.iconst 0, 1) := by decide +kernel
theorem dX18_pass_39 : decode cX18_pass 39 = .ok (.ireturn, 1) := by decide +kernel
theorem dX18_pass_40 : decode cX18_pass 40 = .ok (.aload_n 0, 1) := by decide +kernel
theorem dX18_pass_41 : decode cX18_pass 41 = .ok (.dup, 1) := by decide +kernel
theorem dX18_pass_42 : decode cX18_pass 42 = .ok (.getfield 285, 3) := by decide +kernel
theorem dX18_pass_45 : decode cX18_pass 45 = .ok (.iload_n 1, 1) := by decide +kernel
theorem dX18_pass_46 : decode cX18_pass 46 = .ok (.iadd, 1) := by decide +kernel
theorem dX18_pass_47 : decode cX18_pass 47 = .ok (.putfield 285, 3) := by decide +kernel
theorem dX18_pass_50 : decode cX18_pass 50 = .ok (.aload_n 0, 1) := by decide +kernel
theorem dX18_pass_51 : decode cX18_pass 51 = .ok (.getfield 285, 3) := by decide +kernel
theorem dX18_pass_54 : decode cX18_pass 54 = .ok (.ireturn, 1) := by decide +kernel
theorem dX18_persons_0 : decode cX18_persons 0 = .ok (.aload_n 0, 1) := by decide +kernel
theorem dX18_persons_1 : decode cX18_persons 1 = .ok (.iconst 0, 1) := by decide +kernel
theorem dX18_persons_2 : decode cX18_persons 2 = .ok (.putfield 73, 3) := by decide +kernel
theorem dX18_persons_5 : decode cX18_persons 5 = .ok (.aload_n 0, 1) := by decide +kernel
theorem dX18_persons_6 : decode cX18_persons 6 = .ok (.getfield 16, 3) := by decide +kernel
theorem dX18_persons_9 : decode cX18_persons 9 = .ok (.invokevirtual 288, 3) := by decide +kernel
theorem dX18_persons_12 : decode cX18_persons 12 = .ok (.ireturn, 1) := by decide +kernel
theorem dX18_point_0 : decode cX18_point 0 = .ok (.aload_n 0, 1) := by decide +kernel
theorem dX18_point_1 : decode cX18_point 1 = .ok (.iload_n 1, 1) := by decide +kernel
theorem dX18_point_2 : decode cX18_point 2 = .ok (.iload_n 2, 1) := by decide +kernel
theorem dX18_point_3 : decode cX18_point 3 = .ok (.invokestatic 229, 3) := by decide +kernel
theorem dX18_point_6 : decode cX18_point 6 = .ok (.ifCond .eq 7, 3) := by decide +kernel
theorem dX18_point_9 : decode cX18_point 9 = .ok (.iconst 0, 1) := by decide +kernel
theorem dX18_point_10 : decode cX18_point 10 = .ok (.goto 4, 3) := by decide +kernel
theorem dX18_point_13 : decode cX18_point 13 = .ok (.iconst 1, 1) := by decide +kernel
theorem dX18_point_14 : decode cX18_point 14 = .ok (.invokevirtual 84, 3) := by decide +kernel
theorem dX18_point_17 : decode cX18_point 17 = .ok (.ifCond .ne 11, 3) := by decide +kernel
theorem dX18_point_20 : decode cX18_point 20 = .ok (.aload_n 0, 1) := by decide +kernel
theorem dX18_point_21 : decode cX18_point 21 = .ok (.iconst 2, 1) := by decide +kernel
theorem dX18_point_22 : decode cX18_point 22 = .ok (.invokevirtual 232, 3) := by decide +kernel
theorem dX18_point_25 : decode cX18_point 25 = .ok (.ifCond .eq 5, 3) := by decide +kernel
theorem dX18_point_28 : decode cX18_point 28 = .ok (.iconst 0, 1) := by decide +kernel
theorem dX18_point_29 : decode cX18_point 29 = .ok (.ireturn, 1) := by decide +kernel
theorem dX18_points_0 : decode cX18_points 0 = .ok (.aload_n 0, 1) := by decide +kernel
theorem dX18_points_1 : decode cX18_points 1 = .ok (.iload_n 1, 1) := by decide +kernel
theorem dX18_points_2 : decode cX18_points 2 = .ok (.iload_n 2, 1) := by decide +kernel
theorem dX18_points_3 : decode cX18_points 3 = .ok (.invokestatic 242, 3) := by decide +kernel
theorem dX18_points_6 : decode cX18_points 6 = .ok (.ifCond .eq 7, 3) := by decide +kernel
theorem dX18_points_9 : decode cX18_points 9 = .ok (.iconst 0, 1) := by decide +kernel
theorem dX18_points_10 : decode cX18_points 10 = .ok (.goto 4, 3) := by decide +kernel
theorem dX18_points_13 : decode cX18_points 13 = .ok (.iconst 1, 1) := by decide +kernel
theorem dX18_points_14 : decode cX18_points 14 = .ok (.invokevirtual 84, 3) := by decide +kernel
theorem dX18_points_17 : decode cX18_points 17 = .ok (.ifCond .ne 11, 3) := by decide +kernel
theorem dX18_points_20 : decode cX18_points 20 = .ok (.aload_n 0, 1) := by decide +kernel
theorem dX18_points_21 : decode cX18_points 21 = .ok (.iconst 2, 1) := by decide +kernel
theorem dX18_points_22 : decode cX18_points 22 = .ok (.invokevirtual 232, 3) := by decide +kernel
theorem dX18_points_25 : decode cX18_points 25 = .ok (.ifCond .eq 5, 3) := by decide +kernel
theorem dX18_points_28 : decode cX18_points 28 = .ok (.iconst 0, 1) := by decide +kernel
theorem dX18_points_29 : decode cX18_points 29 = .ok (.ireturn, 1) := by decide +kernel
theorem dX18_precedent_0 : decode cX18_precedent 0 = .ok (.aload_n 0, 1) := by decide +kernel
theorem dX18_precedent_1 : decode cX18_precedent 1 = .ok (.iload_n 1, 1) := by decide +kernel
theorem dX18_precedent_2 : decode cX18_precedent 2 = .ok (.iconst 0, 1) := by decide +kernel
theorem dX18_precedent_3 : decode cX18_precedent 3 = .ok (.iconst 3, 1) := by decide +kernel
theorem dX18_precedent_4 : decode cX18_precedent 4 = .ok (.invokestatic 77, 3) := by decide +kernel
theorem dX18_precedent_7 : decode cX18_precedent 7 = .ok (.ifCond .eq 16, 3) := by decide +kernel
theorem dX18_precedent_10 : decode cX18_precedent 10 = .ok (.iload_n 2, 1) := by decide +kernel
theorem dX18_precedent_11 : decode cX18_precedent 11 = .ok (.iconst 0, 1) := by decide +kernel
theorem dX18_precedent_12 : decode cX18_precedent 12 = .ok (.iconst 2, 1) := by decide +kernel
theorem dX18_precedent_13 : decode cX18_precedent 13 = .ok (.invokestatic 77, 3) := by decide +kernel
theorem dX18_precedent_16 : decode cX18_precedent 16 = .ok (.ifCond .eq 7, 3) := by decide +kernel
theorem dX18_precedent_19 : decode cX18_precedent 19 = .ok (.iconst 0, 1) := by decide +kernel
theorem dX18_precedent_20 : decode cX18_precedent 20 = .ok (.goto 4, 3) := by decide +kernel
theorem dX18_precedent_23 : decode cX18_precedent 23 = .ok (.iconst 1, 1) := by decide +kernel
theorem dX18_precedent_24 : decode cX18_precedent 24 = .ok (.invokevirtual 84, 3) := by decide +kernel
theorem dX18_precedent_27 : decode cX18_precedent 27 = .ok (.ifCond .eq 5, 3) := by decide +kernel
theorem dX18_precedent_30 : decode cX18_precedent 30 = .ok (.iconst 0, 1) := by decide +kernel
theorem dX18_precedent_31 : decode cX18_precedent 31 = .ok (.ireturn, 1) := by decide +kernel
theorem dX18_precedent_32 : decode cX18_precedent 32 = .ok (.aload_n 0, 1) := by decide +kernel
theorem dX18_precedent_33 : decode cX18_precedent 33 = .ok (.iload_n 1, 1) := by decide +kernel
theorem dX18_precedent_34 : decode cX18_precedent 34 = .ok (.iload_n 2, 1) := by decide +kernel
theorem dX18_precedent_35 : decode cX18_precedent 35 = .ok (.invokevirtual 523, 3) := by decide +kernel
theorem dX18_precedent_38 : decode cX18_precedent 38 = .ok (.istore_n 3, 1) := by decide +kernel
theorem dX18_precedent_39 : decode cX18_precedent 39 = .ok (.aload_n 0, 1) := by decide +kernel
theorem dX18_precedent_40 : decode cX18_precedent 40 = .ok (.iload_n 3, 1) := by decide +kernel
theorem dX18_precedent_41 : decode cX18_precedent 41 = .ok (.ifCond .ge 7, 3) := by decide +kernel
theorem dX18_precedent_44 : decode cX18_precedent 44 = .ok (.iconst 2, 1) := by decide +kernel
theorem dX18_precedent_45 : decode cX18_precedent 45 = .ok (.goto 4, 3) := by decide +kernel
theorem dX18_precedent_49 : decode cX18_precedent 49 = .ok (.invokevirtual 84, 3) := by decide +kernel
theorem dX18_precedent_52 : decode cX18_precedent 52 = .ok (.ifCond .eq 7, 3) := by decide +kernel
theorem dX18_precedent_55 : decode cX18_precedent 55 = .ok (.iconst 0, 1) := by decide +kernel
theorem dX18_precedent_56 : decode cX18_precedent 56 = .ok (.goto 4, 3) := by decide +kernel
theorem dX18_precedent_60 : decode cX18_precedent 60 = .ok (.ireturn, 1) := by decide +kernel
theorem dX18_quarter_0 : decode cX18_quarter 0 = .ok (.aload_n 0, 1) := by decide +kernel
theorem dX18_quarter_1 : decode cX18_quarter 1 = .ok (.iload_n 1, 1) := by decide +kernel
theorem dX18_quarter_2 : decode cX18_quarter 2 = .ok (.iload_n 2, 1) := by decide +kernel
theorem dX18_quarter_3 : decode cX18_quarter 3 = .ok (.invokevirtual 488, 3) := by decide +kernel
theorem dX18_quarter_6 : decode cX18_quarter 6 = .ok (.ifCond .eq 7, 3) := by decide +kernel
theorem dX18_quarter_9 : decode cX18_quarter 9 = .ok (.iconst 0, 1) := by decide +kernel
theorem dX18_quarter_10 : decode cX18_quarter 10 = .ok (.goto 14, 3) := by decide +kernel
theorem dX18_quarter_24 : decode cX18_quarter 24 = .ok (.ireturn, 1) := by decide +kernel
theorem dX18_quarterBy_0 : decode cX18_quarterBy 0 = .ok (.aload_n 0, 1) := by decide +kernel
theorem dX18_quarterBy_1 : decode cX18_quarterBy 1 = .ok (.iload_n 1, 1) := by decide +kernel
theorem dX18_quarterBy_2 : decode cX18_quarterBy 2 = .ok (.iload_n 2, 1) := by decide +kernel
theorem dX18_quarterBy_3 : decode cX18_quarterBy 3 = .ok (.invokevirtual 488, 3) := by decide +kernel
theorem dX18_quarterBy_6 : decode cX18_quarterBy 6 = .ok (.ifCond .eq 7, 3) := by decide +kernel
theorem dX18_quarterBy_9 : decode cX18_quarterBy 9 = .ok (.iconst 0, 1) := by decide +kernel
theorem dX18_quarterBy_10 : decode cX18_quarterBy 10 = .ok (.goto 14, 3) := by decide +kernel
theorem dX18_quarterBy_24 : decode cX18_quarterBy 24 = .ok (.ireturn, 1) := by decide +kernel
theorem dX18_quarters_0 : decode cX18_quarters 0 = .ok (.aload_n 0, 1) := by decide +kernel
theorem dX18_quarters_1 : decode cX18_quarters 1 = .ok (.iload_n 1, 1) := by decide +kernel
theorem dX18_quarters_2 : decode cX18_quarters 2 = .ok (.invokevirtual 337, 3) := by decide +kernel
theorem dX18_quarters_5 : decode cX18_quarters 5 = .ok (.ifCond .eq 5, 3) := by decide +kernel
theorem dX18_quarters_8 : decode cX18_quarters 8 = .ok (.iconst 0, 1) := by decide +kernel
theorem dX18_quarters_9 : decode cX18_quarters 9 = .ok (.ireturn, 1) := by decide +kernel
theorem dX18_read_0 : decode cX18_read 0 = .ok (.aload_n 0, 1) := by decide +kernel
theorem dX18_read_1 : decode cX18_read 1 = .ok (.new 26, 3) := by decide +kernel
theorem dX18_read_4 : decode cX18_read 4 = .ok (.dup, 1) := by decide +kernel
theorem dX18_read_5 : decode cX18_read 5 = .ok (.invokespecial 28, 3) := by decide +kernel
theorem dX18_read_8 : decode cX18_read 8 = .ok (.putfield 29, 3) := by decide +kernel
theorem dX18_read_11 : decode cX18_read 11 = .ok (.aload_n 0, 1) := by decide +kernel
theorem dX18_read_12 : decode cX18_read 12 = .ok (.iconst (-1), 1) := by decide +kernel
theorem dX18_read_13 : decode cX18_read 13 = .ok (.putfield 91, 3) := by decide +kernel
theorem dX18_read_16 : decode cX18_read 16 = .ok (.aload_n 0, 1) := by decide +kernel
theorem dX18_read_17 : decode cX18_read 17 = .ok (.iconst 0, 1) := by decide +kernel
theorem dX18_read_18 : decode cX18_read 18 = .ok (.putfield 88, 3) := by decide +kernel
theorem dX18_read_21 : decode cX18_read 21 = .ok (.iconst 0, 1) := by decide +kernel
theorem dX18_read_22 : decode cX18_read 22 = .ok (.istore_n 1, 1) := by decide +kernel
theorem dX18_read_23 : decode cX18_read 23 = .ok (.iload_n 1, 1) := by decide +kernel
theorem dX18_read_24 : decode cX18_read 24 = .ok (.bipush 24, 2) := by decide +kernel
theorem dX18_read_26 : decode cX18_read 26 = .ok (.if_icmp .ge 16, 3) := by decide +kernel
theorem dX18_read_29 : decode cX18_read 29 = .ok (.aload_n 0, 1) := by decide +kernel
theorem dX18_read_30 : decode cX18_read 30 = .ok (.getfield 33, 3) := by decide +kernel
theorem dX18_read_33 : decode cX18_read 33 = .ok (.iload_n 1, 1) := by decide +kernel
theorem dX18_read_34 : decode cX18_read 34 = .ok (.iconst 0, 1) := by decide +kernel
theorem dX18_read_35 : decode cX18_read 35 = .ok (.iastore, 1) := by decide +kernel
theorem dX18_read_36 : decode cX18_read 36 = .ok (.iinc 1 1, 3) := by decide +kernel
theorem dX18_read_39 : decode cX18_read 39 = .ok (.goto (-16), 3) := by decide +kernel
theorem dX18_read_42 : decode cX18_read 42 = .ok (.aload_n 0, 1) := by decide +kernel
theorem dX18_read_43 : decode cX18_read 43 = .ok (.getfield 29, 3) := by decide +kernel
theorem dX18_read_46 : decode cX18_read 46 = .ok (.aload_n 0, 1) := by decide +kernel
theorem dX18_read_47 : decode cX18_read 47 = .ok (.bipush 11, 2) := by decide +kernel
theorem dX18_read_49 : decode cX18_read 49 = .ok (.bipush 15, 2) := by decide +kernel
theorem dX18_read_51 : decode cX18_read 51 = .ok (.invokevirtual 122, 3) := by decide +kernel
theorem dX18_read_54 : decode cX18_read 54 = .ok (.putfield 102, 3) := by decide +kernel
theorem dX18_read_57 : decode cX18_read 57 = .ok (.aload_n 0, 1) := by decide +kernel
theorem dX18_read_58 : decode cX18_read 58 = .ok (.getfield 29, 3) := by decide +kernel
theorem dX18_read_61 : decode cX18_read 61 = .ok (.aload_n 0, 1) := by decide +kernel
theorem dX18_read_62 : decode cX18_read 62 = .ok (.getfield 29, 3) := by decide +kernel
theorem dX18_read_65 : decode cX18_read 65 = .ok (.getfield 102, 3) := by decide +kernel
theorem dX18_read_68 : decode cX18_read 68 = .ok (.bipush 11, 2) := by decide +kernel
theorem dX18_read_70 : decode cX18_read 70 = .ok (.bipush 13, 2) := by decide +kernel
theorem dX18_read_72 : decode cX18_read 72 = .ok (.invokestatic 77, 3) := by decide +kernel
theorem dX18_read_75 : decode cX18_read 75 = .ok (.ifCond .eq 14, 3) := by decide +kernel
theorem dX18_read_89 : decode cX18_read 89 = .ok (.iconst 0, 1) := by decide +kernel
theorem dX18_read_90 : decode cX18_read 90 = .ok (.putfield 171, 3) := by decide +kernel
theorem dX18_read_93 : decode cX18_read 93 = .ok (.aload_n 0, 1) := by decide +kernel
theorem dX18_read_94 : decode cX18_read 94 = .ok (.getfield 29, 3) := by decide +kernel
theorem dX18_read_97 : decode cX18_read 97 = .ok (.aload_n 0, 1) := by decide +kernel
theorem dX18_read_98 : decode cX18_read 98 = .ok (.bipush 102, 2) := by decide +kernel
theorem dX18_read_100 : decode cX18_read 100 = .ok (.invokevirtual 149, 3) := by decide +kernel
theorem dX18_read_103 : decode cX18_read 103 = .ok (.putfield 108, 3) := by decide +kernel
theorem dX18_read_106 : decode cX18_read 106 = .ok (.aload_n 0, 1) := by decide +kernel
theorem dX18_read_107 : decode cX18_read 107 = .ok (.getfield 29, 3) := by decide +kernel
theorem dX18_read_110 : decode cX18_read 110 = .ok (.getfield 102, 3) := by decide +kernel
theorem dX18_read_113 : decode cX18_read 113 = .ok (.ifCond .le 25, 3) := by decide +kernel
theorem dX18_read_138 : decode cX18_read 138 = .ok (.aload_n 0, 1) := by decide +kernel
theorem dX18_read_139 : decode cX18_read 139 = .ok (.getfield 91, 3) := by decide +kernel
theorem dX18_read_142 : decode cX18_read 142 = .ok (.ifCond .ge 76, 3) := by decide +kernel
theorem dX18_read_218 : decode cX18_read 218 = .ok (.aload_n 0, 1) := by decide +kernel
theorem dX18_read_219 : decode cX18_read 219 = .ok (.getfield 91, 3) := by decide +kernel
theorem dX18_read_222 : decode cX18_read 222 = .ok (.ifCond .ge 22, 3) := by decide +kernel
theorem dX18_read_244 : decode cX18_read 244 = .ok (.return_, 1) := by decide +kernel
theorem dX18_setCrest_0 : decode cX18_setCrest 0 = .ok (.aload_n 0, 1) := by decide +kernel
theorem dX18_setCrest_1 : decode cX18_setCrest 1 = .ok (.iload_n 1, 1) := by decide +kernel
theorem dX18_setCrest_2 : decode cX18_setCrest 2 = .ok (.invokevirtual 337, 3) := by decide +kernel
theorem dX18_setCrest_5 : decode cX18_setCrest 5 = .ok (.ifCond .ne 26, 3) := by decide +kernel
theorem dX18_setCrest_31 : decode cX18_setCrest 31 = .ok (.iconst 0, 1) := by decide +kernel
theorem dX18_setCrest_32 : decode cX18_setCrest 32 = .ok (.ireturn, 1) := by decide +kernel
theorem dX18_setRank_0 : decode cX18_setRank 0 = .ok (.aload_n 0, 1) := by decide +kernel
theorem dX18_setRank_1 : decode cX18_setRank 1 = .ok (.iload_n 1, 1) := by decide +kernel
theorem dX18_setRank_2 : decode cX18_setRank 2 = .ok (.invokevirtual 337, 3) := by decide +kernel
theorem dX18_setRank_5 : decode cX18_setRank 5 = .ok (.ifCond .ne 24, 3) := by decide +kernel
theorem dX18_setRank_29 : decode cX18_setRank 29 = .ok (.iconst 0, 1) := by decide +kernel
theorem dX18_setRank_30 : decode cX18_setRank 30 = .ok (.ireturn, 1) := by decide +kernel
theorem dX18_setSupporters_0 : decode cX18_setSupporters 0 = .ok (.aload_n 0, 1) := by decide +kernel
theorem dX18_setSupporters_1 : decode cX18_setSupporters 1 = .ok (.iload_n 1, 1) := by decide +kernel
theorem dX18_setSupporters_2 : decode cX18_setSupporters 2 = .ok (.invokevirtual 337, 3) := by decide +kernel
theorem dX18_setSupporters_5 : decode cX18_setSupporters 5 = .ok (.ifCond .ne 37, 3) := by decide +kernel
theorem dX18_setSupporters_42 : decode cX18_setSupporters 42 = .ok (.iconst 0, 1) := by decide +kernel
theorem dX18_setSupporters_43 : decode cX18_setSupporters 43 = .ok (.ireturn, 1) := by decide +kernel
theorem dX18_shield_0 : decode cX18_shield 0 = .ok (.aload_n 0, 1) := by decide +kernel
theorem dX18_shield_1 : decode cX18_shield 1 = .ok (.iload_n 1, 1) := by decide +kernel
theorem dX18_shield_2 : decode cX18_shield 2 = .ok (.invokevirtual 337, 3) := by decide +kernel
theorem dX18_shield_5 : decode cX18_shield 5 = .ok (.ifCond .ne 45, 3) := by decide +kernel
theorem dX18_shield_50 : decode cX18_shield 50 = .ok (.iconst 0, 1) := by decide +kernel
theorem dX18_shield_51 : decode cX18_shield 51 = .ok (.ireturn, 1) := by decide +kernel
theorem dX18_spouse_0 : decode cX18_spouse 0 = .ok (.aload_n 0, 1) := by decide +kernel
theorem dX18_spouse_1 : decode cX18_spouse 1 = .ok (.iload_n 1, 1) := by decide +kernel
theorem dX18_spouse_2 : decode cX18_spouse 2 = .ok (.invokevirtual 337, 3) := by decide +kernel
theorem dX18_spouse_5 : decode cX18_spouse 5 = .ok (.ifCond .ne 32, 3) := by decide +kernel
theorem dX18_spouse_37 : decode cX18_spouse 37 = .ok (.iconst 0, 1) := by decide +kernel
theorem dX18_spouse_38 : decode cX18_spouse 38 = .ok (.goto 17, 3) := by decide +kernel
theorem dX18_spouse_55 : decode cX18_spouse 55 = .ok (.ireturn, 1) := by decide +kernel
theorem dX18_stands_0 : decode cX18_stands 0 = .ok (.aload_n 0, 1) := by decide +kernel
theorem dX18_stands_1 : decode cX18_stands 1 = .ok (.iload_n 1, 1) := by decide +kernel
theorem dX18_stands_2 : decode cX18_stands 2 = .ok (.invokevirtual 536, 3) := by decide +kernel
theorem dX18_stands_5 : decode cX18_stands 5 = .ok (.ifCond .ne 24, 3) := by decide +kernel
theorem dX18_stands_29 : decode cX18_stands 29 = .ok (.iconst 0, 1) := by decide +kernel
theorem dX18_stands_30 : decode cX18_stands 30 = .ok (.ireturn, 1) := by decide +kernel
theorem dX18_sue_0 : decode cX18_sue 0 = .ok (.aload_n 0, 1) := by decide +kernel
theorem dX18_sue_1 : decode cX18_sue 1 = .ok (.aload_n 0, 1) := by decide +kernel
theorem dX18_sue_2 : decode cX18_sue 2 = .ok (.iload_n 1, 1) := by decide +kernel
theorem dX18_sue_3 : decode cX18_sue 3 = .ok (.invokevirtual 291, 3) := by decide +kernel
theorem dX18_sue_6 : decode cX18_sue 6 = .ok (.ifCond .eq 15, 3) := by decide +kernel
theorem dX18_sue_21 : decode cX18_sue 21 = .ok (.iconst 1, 1) := by decide +kernel
theorem dX18_sue_22 : decode cX18_sue 22 = .ok (.invokevirtual 84, 3) := by decide +kernel
theorem dX18_sue_25 : decode cX18_sue 25 = .ok (.ifCond .eq 5, 3) := by decide +kernel
theorem dX18_sue_28 : decode cX18_sue 28 = .ok (.iconst 0, 1) := by decide +kernel
theorem dX18_sue_29 : decode cX18_sue 29 = .ok (.ireturn, 1) := by decide +kernel
theorem dX18_supporter_0 : decode cX18_supporter 0 = .ok (.aload_n 0, 1) := by decide +kernel
theorem dX18_supporter_1 : decode cX18_supporter 1 = .ok (.iload_n 1, 1) := by decide +kernel
theorem dX18_supporter_2 : decode cX18_supporter 2 = .ok (.invokevirtual 337, 3) := by decide +kernel
theorem dX18_supporter_5 : decode cX18_supporter 5 = .ok (.ifCond .ne 50, 3) := by decide +kernel
theorem dX18_supporter_55 : decode cX18_supporter 55 = .ok (.iconst 0, 1) := by decide +kernel
theorem dX18_supporter_56 : decode cX18_supporter 56 = .ok (.ireturn, 1) := by decide +kernel
theorem dX18_thrown_0 : decode cX18_thrown 0 = .ok (.aload_n 0, 1) := by decide +kernel
theorem dX18_thrown_1 : decode cX18_thrown 1 = .ok (.getfield 73, 3) := by decide +kernel
theorem dX18_thrown_4 : decode cX18_thrown 4 = .ok (.ireturn, 1) := by decide +kernel
theorem dX18_tincture_0 : decode cX18_tincture 0 = .ok (.aload_n 0, 1) := by decide +kernel
theorem dX18_tincture_1 : decode cX18_tincture 1 = .ok (.getfield 91, 3) := by decide +kernel
theorem dX18_tincture_4 : decode cX18_tincture 4 = .ok (.ifCond .lt 5, 3) := by decide +kernel
theorem dX18_tincture_9 : decode cX18_tincture 9 = .ok (.aload_n 0, 1) := by decide +kernel
theorem dX18_tincture_10 : decode cX18_tincture 10 = .ok (.invokevirtual 94, 3) := by decide +kernel
theorem dX18_tincture_13 : decode cX18_tincture 13 = .ok (.istore_n 2, 1) := by decide +kernel
theorem dX18_tincture_14 : decode cX18_tincture 14 = .ok (.aload_n 0, 1) := by decide +kernel
theorem dX18_tincture_15 : decode cX18_tincture 15 = .ok (.getfield 29, 3) := by decide +kernel
theorem dX18_tincture_18 : decode cX18_tincture 18 = .ok (.getfield 102, 3) := by decide +kernel
theorem dX18_tincture_21 : decode cX18_tincture 21 = .ok (.ifCond .le 7, 3) := by decide +kernel
theorem dX18_tincture_28 : decode cX18_tincture 28 = .ok (.iconst 0, 1) := by decide +kernel
theorem dX18_tincture_29 : decode cX18_tincture 29 = .ok (.istore_n 3, 1) := by decide +kernel
theorem dX18_tincture_30 : decode cX18_tincture 30 = .ok (.iload_n 2, 1) := by decide +kernel
theorem dX18_tincture_31 : decode cX18_tincture 31 = .ok (.iconst 1, 1) := by decide +kernel
theorem dX18_tincture_32 : decode cX18_tincture 32 = .ok (.bipush 8, 2) := by decide +kernel
theorem dX18_tincture_34 : decode cX18_tincture 34 = .ok (.invokestatic 77, 3) := by decide +kernel
theorem dX18_tincture_37 : decode cX18_tincture 37 = .ok (.ifCond .ne 59, 3) := by decide +kernel
theorem dX18_tincture_40 : decode cX18_tincture 40 = .ok (.iload_n 1, 1) := by decide +kernel
theorem dX18_tincture_41 : decode cX18_tincture 41 = .ok (.bipush 102, 2) := by decide +kernel
theorem dX18_tincture_43 : decode cX18_tincture 43 = .ok (.if_icmp .eq 15, 3) := by decide +kernel
theorem dX18_tincture_58 : decode cX18_tincture 58 = .ok (.iload_n 1, 1) := by decide +kernel
theorem dX18_tincture_59 : decode cX18_tincture 59 = .ok (.bipush 103, 2) := by decide +kernel
theorem dX18_tincture_61 : decode cX18_tincture 61 = .ok (.if_icmp .eq 9, 3) := by decide +kernel
theorem dX18_tincture_64 : decode cX18_tincture 64 = .ok (.iload_n 1, 1) := by decide +kernel
theorem dX18_tincture_65 : decode cX18_tincture 65 = .ok (.bipush 110, 2) := by decide +kernel
theorem dX18_tincture_67 : decode cX18_tincture 67 = .ok (.if_icmp .ne 13, 3) := by decide +kernel
theorem dX18_tincture_80 : decode cX18_tincture 80 = .ok (.iload_n 1, 1) := by decide +kernel
theorem dX18_tincture_81 : decode cX18_tincture 81 = .ok (.bipush 103, 2) := by decide +kernel
theorem dX18_tincture_83 : decode cX18_tincture 83 = .ok (.if_icmp .ne 17, 3) := by decide +kernel
theorem dX18_tincture_100 : decode cX18_tincture 100 = .ok (.iconst 0, 1) := by decide +kernel
theorem dX18_tincture_101 : decode cX18_tincture 101 = .ok (.istore 4, 2) := by decide +kernel
theorem dX18_tincture_103 : decode cX18_tincture 103 = .ok (.iload 4, 2) := by decide +kernel
theorem dX18_tincture_105 : decode cX18_tincture 105 = .ok (.ifCond .ne 13, 3) := by decide +kernel
theorem dX18_tincture_108 : decode cX18_tincture 108 = .ok (.aload_n 0, 1) := by decide +kernel
theorem dX18_tincture_109 : decode cX18_tincture 109 = .ok (.aload_n 0, 1) := by decide +kernel
theorem dX18_tincture_110 : decode cX18_tincture 110 = .ok (.getfield 88, 3) := by decide +kernel
theorem dX18_tincture_113 : decode cX18_tincture 113 = .ok (.putfield 91, 3) := by decide +kernel
theorem dX18_tincture_116 : decode cX18_tincture 116 = .ok (.iconst 0, 1) := by decide +kernel
theorem dX18_tincture_117 : decode cX18_tincture 117 = .ok (.ireturn, 1) := by decide +kernel
theorem dX18_translated_0 : decode cX18_translated 0 = .ok (.aload_n 0, 1) := by decide +kernel
theorem dX18_translated_1 : decode cX18_translated 1 = .ok (.iload_n 1, 1) := by decide +kernel
theorem dX18_translated_2 : decode cX18_translated 2 = .ok (.iconst 0, 1) := by decide +kernel
theorem dX18_translated_3 : decode cX18_translated 3 = .ok (.iconst 3, 1) := by decide +kernel
theorem dX18_translated_4 : decode cX18_translated 4 = .ok (.invokestatic 77, 3) := by decide +kernel
theorem dX18_translated_7 : decode cX18_translated 7 = .ok (.ifCond .eq 7, 3) := by decide +kernel
theorem dX18_translated_10 : decode cX18_translated 10 = .ok (.iconst 0, 1) := by decide +kernel
theorem dX18_translated_11 : decode cX18_translated 11 = .ok (.goto 4, 3) := by decide +kernel
theorem dX18_translated_14 : decode cX18_translated 14 = .ok (.iconst 1, 1) := by decide +kernel
theorem dX18_translated_15 : decode cX18_translated 15 = .ok (.invokevirtual 84, 3) := by decide +kernel
theorem dX18_translated_18 : decode cX18_translated 18 = .ok (.ifCond .ne 11, 3) := by decide +kernel
theorem dX18_translated_21 : decode cX18_translated 21 = .ok (.aload_n 0, 1) := by decide +kernel
theorem dX18_translated_22 : decode cX18_translated 22 = .ok (.iconst 2, 1) := by decide +kernel
theorem dX18_translated_23 : decode cX18_translated 23 = .ok (.invokevirtual 232, 3) := by decide +kernel
theorem dX18_translated_26 : decode cX18_translated 26 = .ok (.ifCond .eq 5, 3) := by decide +kernel
theorem dX18_translated_29 : decode cX18_translated 29 = .ok (.iconst 0, 1) := by decide +kernel
theorem dX18_translated_30 : decode cX18_translated 30 = .ok (.ireturn, 1) := by decide +kernel
theorem dX18_type_0 : decode cX18_type 0 = .ok (.aload_n 0, 1) := by decide +kernel
theorem dX18_type_1 : decode cX18_type 1 = .ok (.iload_n 1, 1) := by decide +kernel
theorem dX18_type_2 : decode cX18_type 2 = .ok (.iconst 0, 1) := by decide +kernel
theorem dX18_type_3 : decode cX18_type 3 = .ok (.bipush 99, 2) := by decide +kernel
theorem dX18_type_5 : decode cX18_type 5 = .ok (.invokestatic 77, 3) := by decide +kernel
theorem dX18_type_8 : decode cX18_type 8 = .ok (.ifCond .ne 7, 3) := by decide +kernel
theorem dX18_type_11 : decode cX18_type 11 = .ok (.iconst 1, 1) := by decide +kernel
theorem dX18_type_12 : decode cX18_type 12 = .ok (.goto 17, 3) := by decide +kernel
theorem dX18_type_15 : decode cX18_type 15 = .ok (.aload_n 0, 1) := by decide +kernel
theorem dX18_type_16 : decode cX18_type 16 = .ok (.getfield 81, 3) := by decide +kernel
theorem dX18_type_19 : decode cX18_type 19 = .ok (.bipush 24, 2) := by decide +kernel
theorem dX18_type_21 : decode cX18_type 21 = .ok (.if_icmp .ne 7, 3) := by decide +kernel
theorem dX18_type_28 : decode cX18_type 28 = .ok (.iconst 0, 1) := by decide +kernel
theorem dX18_type_29 : decode cX18_type 29 = .ok (.invokevirtual 84, 3) := by decide +kernel
theorem dX18_type_32 : decode cX18_type 32 = .ok (.ifCond .eq 5, 3) := by decide +kernel
theorem dX18_type_35 : decode cX18_type 35 = .ok (.iconst 0, 1) := by decide +kernel
theorem dX18_type_36 : decode cX18_type 36 = .ok (.ireturn, 1) := by decide +kernel
theorem dX18_type_37 : decode cX18_type 37 = .ok (.aload_n 0, 1) := by decide +kernel
theorem dX18_type_38 : decode cX18_type 38 = .ok (.getfield 9, 3) := by decide +kernel
theorem dX18_type_41 : decode cX18_type 41 = .ok (.aload_n 0, 1) := by decide +kernel
theorem dX18_type_42 : decode cX18_type 42 = .ok (.getfield 81, 3) := by decide +kernel
theorem dX18_type_45 : decode cX18_type 45 = .ok (.iload_n 1, 1) := by decide +kernel
theorem dX18_type_46 : decode cX18_type 46 = .ok (.iastore, 1) := by decide +kernel
theorem dX18_type_47 : decode cX18_type 47 = .ok (.aload_n 0, 1) := by decide +kernel
theorem dX18_type_48 : decode cX18_type 48 = .ok (.dup, 1) := by decide +kernel
theorem dX18_type_49 : decode cX18_type 49 = .ok (.getfield 81, 3) := by decide +kernel
theorem dX18_type_52 : decode cX18_type 52 = .ok (.iconst 1, 1) := by decide +kernel
theorem dX18_type_53 : decode cX18_type 53 = .ok (.iadd, 1) := by decide +kernel
theorem dX18_type_54 : decode cX18_type 54 = .ok (.putfield 81, 3) := by decide +kernel
theorem dX18_type_57 : decode cX18_type 57 = .ok (.aload_n 0, 1) := by decide +kernel
theorem dX18_type_58 : decode cX18_type 58 = .ok (.getfield 81, 3) := by decide +kernel
theorem dX18_type_61 : decode cX18_type 61 = .ok (.ireturn, 1) := by decide +kernel
theorem dX18_visit_0 : decode cX18_visit 0 = .ok (.aload_n 0, 1) := by decide +kernel
theorem dX18_visit_1 : decode cX18_visit 1 = .ok (.iload_n 1, 1) := by decide +kernel
theorem dX18_visit_2 : decode cX18_visit 2 = .ok (.iconst 0, 1) := by decide +kernel
theorem dX18_visit_3 : decode cX18_visit 3 = .ok (.iconst 3, 1) := by decide +kernel
theorem dX18_visit_4 : decode cX18_visit 4 = .ok (.invokestatic 77, 3) := by decide +kernel
theorem dX18_visit_7 : decode cX18_visit 7 = .ok (.ifCond .eq 7, 3) := by decide +kernel
theorem dX18_visit_10 : decode cX18_visit 10 = .ok (.iconst 0, 1) := by decide +kernel
theorem dX18_visit_11 : decode cX18_visit 11 = .ok (.goto 4, 3) := by decide +kernel
theorem dX18_visit_14 : decode cX18_visit 14 = .ok (.iconst 1, 1) := by decide +kernel
theorem dX18_visit_15 : decode cX18_visit 15 = .ok (.invokevirtual 84, 3) := by decide +kernel
theorem dX18_visit_18 : decode cX18_visit 18 = .ok (.ifCond .eq 5, 3) := by decide +kernel
theorem dX18_visit_21 : decode cX18_visit 21 = .ok (.iconst 0, 1) := by decide +kernel
theorem dX18_visit_22 : decode cX18_visit 22 = .ok (.ireturn, 1) := by decide +kernel
theorem dX18_visit_23 : decode cX18_visit 23 = .ok (.iconst 0, 1) := by decide +kernel
theorem dX18_visit_24 : decode cX18_visit 24 = .ok (.istore_n 2, 1) := by decide +kernel
theorem dX18_visit_25 : decode cX18_visit 25 = .ok (.iconst 0, 1) := by decide +kernel
theorem dX18_visit_26 : decode cX18_visit 26 = .ok (.istore_n 3, 1) := by decide +kernel
theorem dX18_visit_27 : decode cX18_visit 27 = .ok (.iload_n 3, 1) := by decide +kernel
theorem dX18_visit_28 : decode cX18_visit 28 = .ok (.aload_n 0, 1) := by decide +kernel
theorem dX18_visit_29 : decode cX18_visit 29 = .ok (.getfield 20, 3) := by decide +kernel
theorem dX18_visit_32 : decode cX18_visit 32 = .ok (.invokevirtual 288, 3) := by decide +kernel
theorem dX18_visit_35 : decode cX18_visit 35 = .ok (.if_icmp .ge 191, 3) := by decide +kernel
theorem dX18_visit_226 : decode cX18_visit 226 = .ok (.iload_n 2, 1) := by decide +kernel
theorem dX18_visit_227 : decode cX18_visit 227 = .ok (.ireturn, 1) := by decide +kernel
theorem dX18_withWord_0 : decode cX18_withWord 0 = .ok (.aload_n 0, 1) := by decide +kernel
theorem dX18_withWord_1 : decode cX18_withWord 1 = .ok (.iconst 0, 1) := by decide +kernel
theorem dX18_withWord_2 : decode cX18_withWord 2 = .ok (.putfield 73, 3) := by decide +kernel
theorem dX18_withWord_5 : decode cX18_withWord 5 = .ok (.iconst 0, 1) := by decide +kernel
theorem dX18_withWord_6 : decode cX18_withWord 6 = .ok (.istore_n 2, 1) := by decide +kernel
theorem dX18_withWord_7 : decode cX18_withWord 7 = .ok (.aload_n 0, 1) := by decide +kernel
theorem dX18_withWord_8 : decode cX18_withWord 8 = .ok (.getfield 20, 3) := by decide +kernel
theorem dX18_withWord_11 : decode cX18_withWord 11 = .ok (.invokevirtual 313, 3) := by decide +kernel
theorem dX18_withWord_14 : decode cX18_withWord 14 = .ok (.astore_n 3, 1) := by decide +kernel
theorem dX18_withWord_15 : decode cX18_withWord 15 = .ok (.aload_n 3, 1) := by decide +kernel
theorem dX18_withWord_16 : decode cX18_withWord 16 = .ok (.invokeinterface 317 1, 5) := by decide +kernel
theorem dX18_withWord_21 : decode cX18_withWord 21 = .ok (.ifCond .eq 86, 3) := by decide +kernel
theorem dX18_withWord_107 : decode cX18_withWord 107 = .ok (.iload_n 2, 1) := by decide +kernel
theorem dX18_withWord_108 : decode cX18_withWord 108 = .ok (.ireturn, 1) := by decide +kernel
theorem dX18_word_0 : decode cX18_word 0 = .ok (.aload_n 0, 1) := by decide +kernel
theorem dX18_word_1 : decode cX18_word 1 = .ok (.getfield 88, 3) := by decide +kernel
theorem dX18_word_4 : decode cX18_word 4 = .ok (.aload_n 0, 1) := by decide +kernel
theorem dX18_word_5 : decode cX18_word 5 = .ok (.getfield 81, 3) := by decide +kernel
theorem dX18_word_8 : decode cX18_word 8 = .ok (.if_icmp .ge 15, 3) := by decide +kernel
theorem dX18_word_23 : decode cX18_word 23 = .ok (.iconst (-1), 1) := by decide +kernel
theorem dX18_word_24 : decode cX18_word 24 = .ok (.ireturn, 1) := by decide +kernel
theorem dX18_wrongAt_0 : decode cX18_wrongAt 0 = .ok (.aload_n 0, 1) := by decide +kernel
theorem dX18_wrongAt_1 : decode cX18_wrongAt 1 = .ok (.iconst 0, 1) := by decide +kernel
theorem dX18_wrongAt_2 : decode cX18_wrongAt 2 = .ok (.putfield 73, 3) := by decide +kernel
theorem dX18_wrongAt_5 : decode cX18_wrongAt 5 = .ok (.aload_n 0, 1) := by decide +kernel
theorem dX18_wrongAt_6 : decode cX18_wrongAt 6 = .ok (.invokevirtual 176, 3) := by decide +kernel
theorem dX18_wrongAt_9 : decode cX18_wrongAt 9 = .ok (.aload_n 0, 1) := by decide +kernel
theorem dX18_wrongAt_10 : decode cX18_wrongAt 10 = .ok (.getfield 91, 3) := by decide +kernel
theorem dX18_wrongAt_13 : decode cX18_wrongAt 13 = .ok (.ireturn, 1) := by decide +kernel
theorem dX18_year_0 : decode cX18_year 0 = .ok (.aload_n 0, 1) := by decide +kernel
theorem dX18_year_1 : decode cX18_year 1 = .ok (.iconst 0, 1) := by decide +kernel
theorem dX18_year_2 : decode cX18_year 2 = .ok (.putfield 73, 3) := by decide +kernel
theorem dX18_year_5 : decode cX18_year 5 = .ok (.aload_n 0, 1) := by decide +kernel
theorem dX18_year_6 : decode cX18_year 6 = .ok (.getfield 285, 3) := by decide +kernel
theorem dX18_year_9 : decode cX18_year 9 = .ok (.ireturn, 1) := by decide +kernel
theorem dX18_yearOf_0 : decode cX18_yearOf 0 = .ok (.aload_n 0, 1) := by decide +kernel
theorem dX18_yearOf_1 : decode cX18_yearOf 1 = .ok (.iload_n 1, 1) := by decide +kernel
theorem dX18_yearOf_2 : decode cX18_yearOf 2 = .ok (.invokevirtual 446, 3) := by decide +kernel
theorem dX18_yearOf_5 : decode cX18_yearOf 5 = .ok (.ifCond .eq 7, 3) := by decide +kernel
theorem dX18_yearOf_8 : decode cX18_yearOf 8 = .ok (.iconst 0, 1) := by decide +kernel
theorem dX18_yearOf_9 : decode cX18_yearOf 9 = .ok (.goto 17, 3) := by decide +kernel
theorem dX18_yearOf_26 : decode cX18_yearOf 26 = .ok (.ireturn, 1) := by decide +kernel
theorem dX1_add_0 : decode cX1_add 0 = .ok (.aload_n 0, 1) := by decide +kernel
theorem dX1_add_1 : decode cX1_add 1 = .ok (.getfield 25, 3) := by decide +kernel
theorem dX1_add_4 : decode cX1_add 4 = .ok (.ifCond .lt 32, 3) := by decide +kernel
theorem dX1_add_7 : decode cX1_add 7 = .ok (.aload_n 0, 1) := by decide +kernel
theorem dX1_add_8 : decode cX1_add 8 = .ok (.getfield 25, 3) := by decide +kernel
theorem dX1_add_11 : decode cX1_add 11 = .ok (.bipush 24, 2) := by decide +kernel
theorem dX1_add_13 : decode cX1_add 13 = .ok (.if_icmp .ge 23, 3) := by decide +kernel
theorem dX1_add_16 : decode cX1_add 16 = .ok (.aload_n 0, 1) := by decide +kernel
theorem dX1_add_17 : decode cX1_add 17 = .ok (.getfield 9, 3) := by decide +kernel
theorem dX1_add_20 : decode cX1_add 20 = .ok (.aload_n 0, 1) := by decide +kernel
theorem dX1_add_21 : decode cX1_add 21 = .ok (.getfield 25, 3) := by decide +kernel
theorem dX1_add_24 : decode cX1_add 24 = .ok (.iload_n 1, 1) := by decide +kernel
theorem dX1_add_25 : decode cX1_add 25 = .ok (.iastore, 1) := by decide +kernel
theorem dX1_add_26 : decode cX1_add 26 = .ok (.aload_n 0, 1) := by decide +kernel
theorem dX1_add_27 : decode cX1_add 27 = .ok (.dup, 1) := by decide +kernel
theorem dX1_add_28 : decode cX1_add 28 = .ok (.getfield 25, 3) := by decide +kernel
theorem dX1_add_31 : decode cX1_add 31 = .ok (.iconst 1, 1) := by decide +kernel
theorem dX1_add_32 : decode cX1_add 32 = .ok (.iadd, 1) := by decide +kernel
theorem dX1_add_33 : decode cX1_add 33 = .ok (.putfield 25, 3) := by decide +kernel
theorem dX1_add_36 : decode cX1_add 36 = .ok (.return_, 1) := by decide +kernel
theorem dX1_clear_0 : decode cX1_clear 0 = .ok (.aload_n 0, 1) := by decide +kernel
theorem dX1_clear_1 : decode cX1_clear 1 = .ok (.iconst 0, 1) := by decide +kernel
theorem dX1_clear_2 : decode cX1_clear 2 = .ok (.putfield 25, 3) := by decide +kernel
theorem dX1_clear_5 : decode cX1_clear 5 = .ok (.return_, 1) := by decide +kernel
theorem dX1_init_0 : decode cX1_init 0 = .ok (.aload_n 0, 1) := by decide +kernel
theorem dX1_init_1 : decode cX1_init 1 = .ok (.invokespecial 3, 3) := by decide +kernel
theorem dX1_init_4 : decode cX1_init 4 = .ok (.aload_n 0, 1) := by decide +kernel
theorem dX1_init_5 : decode cX1_init 5 = .ok (.bipush 24, 2) := by decide +kernel
theorem dX1_init_7 : decode cX1_init 7 = .ok (.newarray .int, 2) := by decide +kernel
theorem dX1_init_9 : decode cX1_init 9 = .ok (.putfield 9, 3) := by decide +kernel
theorem dX1_init_12 : decode cX1_init 12 = .ok (.aload_n 0, 1) := by decide +kernel
theorem dX1_init_13 : decode cX1_init 13 = .ok (.bipush 24, 2) := by decide +kernel
theorem dX1_init_15 : decode cX1_init 15 = .ok (.newarray .int, 2) := by decide +kernel
theorem dX1_init_17 : decode cX1_init 17 = .ok (.putfield 15, 3) := by decide +kernel
theorem dX1_init_20 : decode cX1_init 20 = .ok (.aload_n 0, 1) := by decide +kernel
theorem dX1_init_21 : decode cX1_init 21 = .ok (.iconst 4, 1) := by decide +kernel
theorem dX1_init_22 : decode cX1_init 22 = .ok (.anewarray 18, 3) := by decide +kernel
theorem dX1_init_25 : decode cX1_init 25 = .ok (.putfield 20, 3) := by decide +kernel
theorem dX1_init_28 : decode cX1_init 28 = .ok (.iconst 0, 1) := by decide +kernel
theorem dX1_init_29 : decode cX1_init 29 = .ok (.istore_n 1, 1) := by decide +kernel
theorem dX1_init_30 : decode cX1_init 30 = .ok (.iload_n 1, 1) := by decide +kernel
theorem dX1_init_31 : decode cX1_init 31 = .ok (.iconst 4, 1) := by decide +kernel
theorem dX1_init_32 : decode cX1_init 32 = .ok (.if_icmp .ge 22, 3) := by decide +kernel
theorem dX1_init_35 : decode cX1_init 35 = .ok (.aload_n 0, 1) := by decide +kernel
theorem dX1_init_36 : decode cX1_init 36 = .ok (.getfield 20, 3) := by decide +kernel
theorem dX1_init_39 : decode cX1_init 39 = .ok (.iload_n 1, 1) := by decide +kernel
theorem dX1_init_40 : decode cX1_init 40 = .ok (.new 18, 3) := by decide +kernel
theorem dX1_init_43 : decode cX1_init 43 = .ok (.dup, 1) := by decide +kernel
theorem dX1_init_44 : decode cX1_init 44 = .ok (.invokespecial 24, 3) := by decide +kernel
theorem dX1_init_47 : decode cX1_init 47 = .ok (.aastore, 1) := by decide +kernel
theorem dX1_init_48 : decode cX1_init 48 = .ok (.iinc 1 1, 3) := by decide +kernel
theorem dX1_init_51 : decode cX1_init 51 = .ok (.goto (-21), 3) := by decide +kernel
theorem dX1_init_54 : decode cX1_init 54 = .ok (.return_, 1) := by decide +kernel
theorem dX1_meaningOf_0 : decode cX1_meaningOf 0 = .ok (.iload_n 1, 1) := by decide +kernel
theorem dX1_meaningOf_1 : decode cX1_meaningOf 1 = .ok (.iconst 1, 1) := by decide +kernel
theorem dX1_meaningOf_2 : decode cX1_meaningOf 2 = .ok (.if_icmp .lt 11, 3) := by decide +kernel
theorem dX1_meaningOf_5 : decode cX1_meaningOf 5 = .ok (.iload_n 1, 1) := by decide +kernel
theorem dX1_meaningOf_6 : decode cX1_meaningOf 6 = .ok (.bipush 8, 2) := by decide +kernel
theorem dX1_meaningOf_8 : decode cX1_meaningOf 8 = .ok (.if_icmp .gt 5, 3) := by decide +kernel
theorem dX1_meaningOf_11 : decode cX1_meaningOf 11 = .ok (.iload_n 1, 1) := by decide +kernel
theorem dX1_meaningOf_12 : decode cX1_meaningOf 12 = .ok (.ireturn, 1) := by decide +kernel
theorem dX1_meaningOf_13 : decode cX1_meaningOf 13 = .ok (.iload_n 1, 1) := by decide +kernel
theorem dX1_meaningOf_14 : decode cX1_meaningOf 14 = .ok (.tableswitch 87 31 35 #[34, 59, 64, 87, 69], 34) := by decide +kernel
theorem dX1_meaningOf_48 : decode cX1_meaningOf 48 = .ok (.iload_n 2, 1) := by decide +kernel
theorem dX1_meaningOf_49 : decode cX1_meaningOf 49 = .ok (.ifCond .eq 19, 3) := by decide +kernel
theorem dX1_meaningOf_68 : decode cX1_meaningOf 68 = .ok (.aload_n 0, 1) := by decide +kernel
theorem dX1_meaningOf_69 : decode cX1_meaningOf 69 = .ok (.getfield 36, 3) := by decide +kernel
theorem dX1_meaningOf_72 : decode cX1_meaningOf 72 = .ok (.ireturn, 1) := by decide +kernel
theorem dX1_meaningOf_73 : decode cX1_meaningOf 73 = .ok (.aload_n 0, 1) := by decide +kernel
theorem dX1_meaningOf_74 : decode cX1_meaningOf 74 = .ok (.getfield 48, 3) := by decide +kernel
theorem dX1_meaningOf_77 : decode cX1_meaningOf 77 = .ok (.ireturn, 1) := by decide +kernel
theorem dX1_meaningOf_78 : decode cX1_meaningOf 78 = .ok (.aload_n 0, 1) := by decide +kernel
theorem dX1_meaningOf_79 : decode cX1_meaningOf 79 = .ok (.getfield 51, 3) := by decide +kernel
theorem dX1_meaningOf_82 : decode cX1_meaningOf 82 = .ok (.ireturn, 1) := by decide +kernel
theorem dX1_meaningOf_83 : decode cX1_meaningOf 83 = .ok (.aload_n 0, 1) := by decide +kernel
theorem dX1_meaningOf_84 : decode cX1_meaningOf 84 = .ok (.getfield 51, 3) := by decide +kernel
theorem dX1_meaningOf_87 : decode cX1_meaningOf 87 = .ok (.ifCond .eq 12, 3) := by decide +kernel
theorem dX1_meaningOf_99 : decode cX1_meaningOf 99 = .ok (.iconst 0, 1) := by decide +kernel
theorem dX1_meaningOf_100 : decode cX1_meaningOf 100 = .ok (.ireturn, 1) := by decide +kernel
theorem dX1_meaningOf_101 : decode cX1_meaningOf 101 = .ok (.iconst 0, 1) := by decide +kernel
theorem dX1_meaningOf_102 : decode cX1_meaningOf 102 = .ok (.ireturn, 1) := by decide +kernel
theorem dX1_read_0 : decode cX1_read 0 = .ok (.aload_n 0, 1) := by decide +kernel
theorem dX1_read_1 : decode cX1_read 1 = .ok (.iconst 0, 1) := by decide +kernel
theorem dX1_read_2 : decode cX1_read 2 = .ok (.putfield 33, 3) := by decide +kernel
theorem dX1_read_5 : decode cX1_read 5 = .ok (.aload_n 0, 1) := by decide +kernel
theorem dX1_read_6 : decode cX1_read 6 = .ok (.iconst 0, 1) := by decide +kernel
theorem dX1_read_7 : decode cX1_read 7 = .ok (.putfield 36, 3) := by decide +kernel
theorem dX1_read_10 : decode cX1_read 10 = .ok (.aload_n 0, 1) := by decide +kernel
theorem dX1_read_11 : decode cX1_read 11 = .ok (.iconst (-1), 1) := by decide +kernel
theorem dX1_read_12 : decode cX1_read 12 = .ok (.putfield 39, 3) := by decide +kernel
theorem dX1_read_15 : decode cX1_read 15 = .ok (.aload_n 0, 1) := by decide +kernel
theorem dX1_read_16 : decode cX1_read 16 = .ok (.iconst 0, 1) := by decide +kernel
theorem dX1_read_17 : decode cX1_read 17 = .ok (.putfield 42, 3) := by decide +kernel
theorem dX1_read_20 : decode cX1_read 20 = .ok (.aload_n 0, 1) := by decide +kernel
theorem dX1_read_21 : decode cX1_read 21 = .ok (.iconst 0, 1) := by decide +kernel
theorem dX1_read_22 : decode cX1_read 22 = .ok (.putfield 45, 3) := by decide +kernel
theorem dX1_read_25 : decode cX1_read 25 = .ok (.aload_n 0, 1) := by decide +kernel
theorem dX1_read_26 : decode cX1_read 26 = .ok (.iconst 0, 1) := by decide +kernel
theorem dX1_read_27 : decode cX1_read 27 = .ok (.putfield 48, 3) := by decide +kernel
theorem dX1_read_30 : decode cX1_read 30 = .ok (.aload_n 0, 1) := by decide +kernel
theorem dX1_read_31 : decode cX1_read 31 = .ok (.iconst 0, 1) := by decide +kernel
theorem dX1_read_32 : decode cX1_read 32 = .ok (.putfield 51, 3) := by decide +kernel
theorem dX1_read_35 : decode cX1_read 35 = .ok (.aload_n 0, 1) := by decide +kernel
theorem dX1_read_36 : decode cX1_read 36 = .ok (.iconst 0, 1) := by decide +kernel
theorem dX1_read_37 : decode cX1_read 37 = .ok (.putfield 54, 3) := by decide +kernel
theorem dX1_read_40 : decode cX1_read 40 = .ok (.aload_n 0, 1) := by decide +kernel
theorem dX1_read_41 : decode cX1_read 41 = .ok (.getfield 15, 3) := by decide +kernel
theorem dX1_read_44 : decode cX1_read 44 = .ok (.iconst 0, 1) := by decide +kernel
theorem dX1_read_45 : decode cX1_read 45 = .ok (.invokestatic 57, 3) := by decide +kernel
theorem dX1_read_48 : decode cX1_read 48 = .ok (.aload_n 0, 1) := by decide +kernel
theorem dX1_read_49 : decode cX1_read 49 = .ok (.invokevirtual 63, 3) := by decide +kernel
theorem dX1_read_52 : decode cX1_read 52 = .ok (.ifCond .ne 12, 3) := by decide +kernel
theorem dX1_read_55 : decode cX1_read 55 = .ok (.aload_n 0, 1) := by decide +kernel
theorem dX1_read_56 : decode cX1_read 56 = .ok (.aload_n 0, 1) := by decide +kernel
theorem dX1_read_57 : decode cX1_read 57 = .ok (.getfield 33, 3) := by decide +kernel
theorem dX1_read_60 : decode cX1_read 60 = .ok (.putfield 39, 3) := by decide +kernel
theorem dX1_read_63 : decode cX1_read 63 = .ok (.return_, 1) := by decide +kernel
theorem dX1_read_64 : decode cX1_read 64 = .ok (.aload_n 0, 1) := by decide +kernel
theorem dX1_read_65 : decode cX1_read 65 = .ok (.getfield 54, 3) := by decide +kernel
theorem dX1_read_68 : decode cX1_read 68 = .ok (.iconst 4, 1) := by decide +kernel
theorem dX1_read_69 : decode cX1_read 69 = .ok (.if_icmp .ge 60, 3) := by decide +kernel
theorem dX1_read_72 : decode cX1_read 72 = .ok (.aload_n 0, 1) := by decide +kernel
theorem dX1_read_73 : decode cX1_read 73 = .ok (.getfield 33, 3) := by decide +kernel
theorem dX1_read_76 : decode cX1_read 76 = .ok (.aload_n 0, 1) := by decide +kernel
theorem dX1_read_77 : decode cX1_read 77 = .ok (.getfield 25, 3) := by decide +kernel
theorem dX1_read_80 : decode cX1_read 80 = .ok (.if_icmp .ge 49, 3) := by decide +kernel
theorem dX1_read_129 : decode cX1_read 129 = .ok (.aload_n 0, 1) := by decide +kernel
theorem dX1_read_130 : decode cX1_read 130 = .ok (.getfield 33, 3) := by decide +kernel
theorem dX1_read_133 : decode cX1_read 133 = .ok (.aload_n 0, 1) := by decide +kernel
theorem dX1_read_134 : decode cX1_read 134 = .ok (.getfield 25, 3) := by decide +kernel
theorem dX1_read_137 : decode cX1_read 137 = .ok (.if_icmp .ge 11, 3) := by decide +kernel
theorem dX1_read_148 : decode cX1_read 148 = .ok (.return_, 1) := by decide +kernel
theorem dX1_readField_0 : decode cX1_readField 0 = .ok (.aload_n 0, 1) := by decide +kernel
theorem dX1_readField_1 : decode cX1_readField 1 = .ok (.aload_n 0, 1) := by decide +kernel
theorem dX1_readField_2 : decode cX1_readField 2 = .ok (.getfield 33, 3) := by decide +kernel
theorem dX1_readField_5 : decode cX1_readField 5 = .ok (.invokevirtual 74, 3) := by decide +kernel
theorem dX1_readField_8 : decode cX1_readField 8 = .ok (.istore_n 1, 1) := by decide +kernel
theorem dX1_readField_9 : decode cX1_readField 9 = .ok (.iload_n 1, 1) := by decide +kernel
theorem dX1_readField_10 : decode cX1_readField 10 = .ok (.bipush 11, 2) := by decide +kernel
theorem dX1_readField_12 : decode cX1_readField 12 = .ok (.if_icmp .lt 49, 3) := by decide +kernel
theorem dX1_readField_15 : decode cX1_readField 15 = .ok (.iload_n 1, 1) := by decide +kernel
theorem dX1_readField_16 : decode cX1_readField 16 = .ok (.bipush 15, 2) := by decide +kernel
theorem dX1_readField_18 : decode cX1_readField 18 = .ok (.if_icmp .gt 43, 3) := by decide +kernel
theorem dX1_readField_21 : decode cX1_readField 21 = .ok (.aload_n 0, 1) := by decide +kernel
theorem dX1_readField_22 : decode cX1_readField 22 = .ok (.iload_n 1, 1) := by decide +kernel
theorem dX1_readField_23 : decode cX1_readField 23 = .ok (.putfield 42, 3) := by decide +kernel
theorem dX1_readField_26 : decode cX1_readField 26 = .ok (.aload_n 0, 1) := by decide +kernel
theorem dX1_readField_27 : decode cX1_readField 27 = .ok (.dup, 1) := by decide +kernel
theorem dX1_readField_28 : decode cX1_readField 28 = .ok (.getfield 33, 3) := by decide +kernel
theorem dX1_readField_31 : decode cX1_readField 31 = .ok (.iconst 1, 1) := by decide +kernel
theorem dX1_readField_32 : decode cX1_readField 32 = .ok (.iadd, 1) := by decide +kernel
theorem dX1_readField_33 : decode cX1_readField 33 = .ok (.putfield 33, 3) := by decide +kernel
theorem dX1_readField_36 : decode cX1_readField 36 = .ok (.aload_n 0, 1) := by decide +kernel
theorem dX1_readField_37 : decode cX1_readField 37 = .ok (.aload_n 0, 1) := by decide +kernel
theorem dX1_readField_38 : decode cX1_readField 38 = .ok (.getfield 42, 3) := by decide +kernel
theorem dX1_readField_41 : decode cX1_readField 41 = .ok (.bipush 14, 2) := by decide +kernel
theorem dX1_readField_43 : decode cX1_readField 43 = .ok (.if_icmp .ge 14, 3) := by decide +kernel
theorem dX1_readField_46 : decode cX1_readField 46 = .ok (.aload_n 0, 1) := by decide +kernel
theorem dX1_readField_47 : decode cX1_readField 47 = .ok (.bipush 9, 2) := by decide +kernel
theorem dX1_readField_49 : decode cX1_readField 49 = .ok (.bipush 10, 2) := by decide +kernel
theorem dX1_readField_51 : decode cX1_readField 51 = .ok (.invokevirtual 78, 3) := by decide +kernel
theorem dX1_readField_54 : decode cX1_readField 54 = .ok (.goto 4, 3) := by decide +kernel
theorem dX1_readField_57 : decode cX1_readField 57 = .ok (.iconst 0, 1) := by decide +kernel
theorem dX1_readField_58 : decode cX1_readField 58 = .ok (.putfield 45, 3) := by decide +kernel
theorem dX1_readField_61 : decode cX1_readField 61 = .ok (.aload_n 0, 1) := by decide +kernel
theorem dX1_readField_62 : decode cX1_readField 62 = .ok (.aload_n 0, 1) := by decide +kernel
theorem dX1_readField_63 : decode cX1_readField 63 = .ok (.iconst 0, 1) := by decide +kernel
theorem dX1_readField_64 : decode cX1_readField 64 = .ok (.invokevirtual 82, 3) := by decide +kernel
theorem dX1_readField_67 : decode cX1_readField 67 = .ok (.putfield 48, 3) := by decide +kernel
theorem dX1_readField_70 : decode cX1_readField 70 = .ok (.aload_n 0, 1) := by decide +kernel
theorem dX1_readField_71 : decode cX1_readField 71 = .ok (.getfield 48, 3) := by decide +kernel
theorem dX1_readField_74 : decode cX1_readField 74 = .ok (.ifCond .eq 10, 3) := by decide +kernel
theorem dX1_readField_77 : decode cX1_readField 77 = .ok (.aload_n 0, 1) := by decide +kernel
theorem dX1_readField_78 : decode cX1_readField 78 = .ok (.getfield 42, 3) := by decide +kernel
theorem dX1_readField_81 : decode cX1_readField 81 = .ok (.ifCond .ne 16, 3) := by decide +kernel
theorem dX1_readField_84 : decode cX1_readField 84 = .ok (.aload_n 0, 1) := by decide +kernel
theorem dX1_readField_85 : decode cX1_readField 85 = .ok (.getfield 48, 3) := by decide +kernel
theorem dX1_readField_88 : decode cX1_readField 88 = .ok (.ifCond .eq 7, 3) := by decide +kernel
theorem dX1_readField_91 : decode cX1_readField 91 = .ok (.iconst 1, 1) := by decide +kernel
theorem dX1_readField_92 : decode cX1_readField 92 = .ok (.goto 4, 3) := by decide +kernel
theorem dX1_readField_95 : decode cX1_readField 95 = .ok (.iconst 0, 1) := by decide +kernel
theorem dX1_readField_96 : decode cX1_readField 96 = .ok (.ireturn, 1) := by decide +kernel
theorem dX1_takeIn_0 : decode cX1_takeIn 0 = .ok (.aload_n 0, 1) := by decide +kernel
theorem dX1_takeIn_1 : decode cX1_takeIn 1 = .ok (.aload_n 0, 1) := by decide +kernel
theorem dX1_takeIn_2 : decode cX1_takeIn 2 = .ok (.getfield 33, 3) := by decide +kernel
theorem dX1_takeIn_5 : decode cX1_takeIn 5 = .ok (.invokevirtual 74, 3) := by decide +kernel
theorem dX1_takeIn_8 : decode cX1_takeIn 8 = .ok (.istore_n 3, 1) := by decide +kernel
theorem dX1_takeIn_9 : decode cX1_takeIn 9 = .ok (.iload_n 3, 1) := by decide +kernel
theorem dX1_takeIn_10 : decode cX1_takeIn 10 = .ok (.iload_n 1, 1) := by decide +kernel
theorem dX1_takeIn_11 : decode cX1_takeIn 11 = .ok (.if_icmp .lt 8, 3) := by decide +kernel
theorem dX1_takeIn_19 : decode cX1_takeIn 19 = .ok (.iconst 0, 1) := by decide +kernel
theorem dX1_takeIn_20 : decode cX1_takeIn 20 = .ok (.ireturn, 1) := by decide +kernel
theorem dX1_takeTincture_0 : decode cX1_takeTincture 0 = .ok (.aload_n 0, 1) := by decide +kernel
theorem dX1_takeTincture_1 : decode cX1_takeTincture 1 = .ok (.aload_n 0, 1) := by decide +kernel
theorem dX1_takeTincture_2 : decode cX1_takeTincture 2 = .ok (.aload_n 0, 1) := by decide +kernel
theorem dX1_takeTincture_3 : decode cX1_takeTincture 3 = .ok (.getfield 33, 3) := by decide +kernel
theorem dX1_takeTincture_6 : decode cX1_takeTincture 6 = .ok (.invokevirtual 74, 3) := by decide +kernel
theorem dX1_takeTincture_9 : decode cX1_takeTincture 9 = .ok (.iload_n 1, 1) := by decide +kernel
theorem dX1_takeTincture_10 : decode cX1_takeTincture 10 = .ok (.invokevirtual 125, 3) := by decide +kernel
theorem dX1_takeTincture_13 : decode cX1_takeTincture 13 = .ok (.istore_n 2, 1) := by decide +kernel
theorem dX1_takeTincture_14 : decode cX1_takeTincture 14 = .ok (.iload_n 2, 1) := by decide +kernel
theorem dX1_takeTincture_15 : decode cX1_takeTincture 15 = .ok (.ifCond .eq 19, 3) := by decide +kernel
theorem dX1_takeTincture_18 : decode cX1_takeTincture 18 = .ok (.aload_n 0, 1) := by decide +kernel
theorem dX1_takeTincture_19 : decode cX1_takeTincture 19 = .ok (.getfield 33, 3) := by decide +kernel
theorem dX1_takeTincture_22 : decode cX1_takeTincture 22 = .ok (.ifCond .lt 12, 3) := by decide +kernel
theorem dX1_takeTincture_25 : decode cX1_takeTincture 25 = .ok (.aload_n 0, 1) := by decide +kernel
theorem dX1_takeTincture_26 : decode cX1_takeTincture 26 = .ok (.getfield 33, 3) := by decide +kernel
theorem dX1_takeTincture_29 : decode cX1_takeTincture 29 = .ok (.bipush 24, 2) := by decide +kernel
theorem dX1_takeTincture_31 : decode cX1_takeTincture 31 = .ok (.if_icmp .lt 5, 3) := by decide +kernel
theorem dX1_takeTincture_34 : decode cX1_takeTincture 34 = .ok (.iconst 0, 1) := by decide +kernel
theorem dX1_takeTincture_35 : decode cX1_takeTincture 35 = .ok (.ireturn, 1) := by decide +kernel
theorem dX1_takeTincture_36 : decode cX1_takeTincture 36 = .ok (.aload_n 0, 1) := by decide +kernel
theorem dX1_takeTincture_37 : decode cX1_takeTincture 37 = .ok (.getfield 15, 3) := by decide +kernel
theorem dX1_takeTincture_40 : decode cX1_takeTincture 40 = .ok (.aload_n 0, 1) := by decide +kernel
theorem dX1_takeTincture_41 : decode cX1_takeTincture 41 = .ok (.getfield 33, 3) := by decide +kernel
theorem dX1_takeTincture_44 : decode cX1_takeTincture 44 = .ok (.iload_n 2, 1) := by decide +kernel
theorem dX1_takeTincture_45 : decode cX1_takeTincture 45 = .ok (.iastore, 1) := by decide +kernel
theorem dX1_takeTincture_46 : decode cX1_takeTincture 46 = .ok (.aload_n 0, 1) := by decide +kernel
theorem dX1_takeTincture_47 : decode cX1_takeTincture 47 = .ok (.iload_n 2, 1) := by decide +kernel
theorem dX1_takeTincture_48 : decode cX1_takeTincture 48 = .ok (.putfield 36, 3) := by decide +kernel
theorem dX1_takeTincture_51 : decode cX1_takeTincture 51 = .ok (.aload_n 0, 1) := by decide +kernel
theorem dX1_takeTincture_52 : decode cX1_takeTincture 52 = .ok (.dup, 1) := by decide +kernel
theorem dX1_takeTincture_53 : decode cX1_takeTincture 53 = .ok (.getfield 33, 3) := by decide +kernel
theorem dX1_takeTincture_56 : decode cX1_takeTincture 56 = .ok (.iconst 1, 1) := by decide +kernel
theorem dX1_takeTincture_57 : decode cX1_takeTincture 57 = .ok (.iadd, 1) := by decide +kernel
theorem dX1_takeTincture_58 : decode cX1_takeTincture 58 = .ok (.putfield 33, 3) := by decide +kernel
theorem dX1_takeTincture_61 : decode cX1_takeTincture 61 = .ok (.iload_n 2, 1) := by decide +kernel
theorem dX1_takeTincture_62 : decode cX1_takeTincture 62 = .ok (.ireturn, 1) := by decide +kernel
theorem dX1_wordAt_0 : decode cX1_wordAt 0 = .ok (.iload_n 1, 1) := by decide +kernel
theorem dX1_wordAt_1 : decode cX1_wordAt 1 = .ok (.ifCond .lt 26, 3) := by decide +kernel
theorem dX1_wordAt_4 : decode cX1_wordAt 4 = .ok (.iload_n 1, 1) := by decide +kernel
theorem dX1_wordAt_5 : decode cX1_wordAt 5 = .ok (.aload_n 0, 1) := by decide +kernel
theorem dX1_wordAt_6 : decode cX1_wordAt 6 = .ok (.getfield 25, 3) := by decide +kernel
theorem dX1_wordAt_9 : decode cX1_wordAt 9 = .ok (.if_icmp .ge 18, 3) := by decide +kernel
theorem dX1_wordAt_12 : decode cX1_wordAt 12 = .ok (.iload_n 1, 1) := by decide +kernel
theorem dX1_wordAt_13 : decode cX1_wordAt 13 = .ok (.bipush 24, 2) := by decide +kernel
theorem dX1_wordAt_15 : decode cX1_wordAt 15 = .ok (.if_icmp .ge 12, 3) := by decide +kernel
theorem dX1_wordAt_18 : decode cX1_wordAt 18 = .ok (.aload_n 0, 1) := by decide +kernel
theorem dX1_wordAt_19 : decode cX1_wordAt 19 = .ok (.getfield 9, 3) := by decide +kernel
theorem dX1_wordAt_22 : decode cX1_wordAt 22 = .ok (.iload_n 1, 1) := by decide +kernel
theorem dX1_wordAt_23 : decode cX1_wordAt 23 = .ok (.iaload, 1) := by decide +kernel
theorem dX1_wordAt_24 : decode cX1_wordAt 24 = .ok (.goto 4, 3) := by decide +kernel
theorem dX1_wordAt_27 : decode cX1_wordAt 27 = .ok (.iconst 0, 1) := by decide +kernel
theorem dX1_wordAt_28 : decode cX1_wordAt 28 = .ok (.ireturn, 1) := by decide +kernel
theorem dX2_init_0 : decode cX2_init 0 = .ok (.aload_n 0, 1) := by decide +kernel
theorem dX2_init_1 : decode cX2_init 1 = .ok (.invokespecial 3, 3) := by decide +kernel
theorem dX2_init_4 : decode cX2_init 4 = .ok (.aload_n 0, 1) := by decide +kernel
theorem dX2_init_5 : decode cX2_init 5 = .ok (.bipush 20, 2) := by decide +kernel
theorem dX2_init_7 : decode cX2_init 7 = .ok (.newarray .int, 2) := by decide +kernel
theorem dX2_init_9 : decode cX2_init 9 = .ok (.putfield 9, 3) := by decide +kernel
theorem dX2_init_12 : decode cX2_init 12 = .ok (.aload_n 0, 1) := by decide +kernel
theorem dX2_init_13 : decode cX2_init 13 = .ok (.bipush 20, 2) := by decide +kernel
theorem dX2_init_15 : decode cX2_init 15 = .ok (.newarray .int, 2) := by decide +kernel
theorem dX2_init_17 : decode cX2_init 17 = .ok (.putfield 15, 3) := by decide +kernel
theorem dX2_init_20 : decode cX2_init 20 = .ok (.aload_n 0, 1) := by decide +kernel
theorem dX2_init_21 : decode cX2_init 21 = .ok (.bipush 20, 2) := by decide +kernel
theorem dX2_init_23 : decode cX2_init 23 = .ok (.newarray .int, 2) := by decide +kernel
theorem dX2_init_25 : decode cX2_init 25 = .ok (.putfield 18, 3) := by decide +kernel
theorem dX2_init_28 : decode cX2_init 28 = .ok (.aload_n 0, 1) := by decide +kernel
theorem dX2_init_29 : decode cX2_init 29 = .ok (.bipush 20, 2) := by decide +kernel
theorem dX2_init_31 : decode cX2_init 31 = .ok (.newarray .int, 2) := by decide +kernel
theorem dX2_init_33 : decode cX2_init 33 = .ok (.putfield 21, 3) := by decide +kernel
theorem dX2_init_36 : decode cX2_init 36 = .ok (.aload_n 0, 1) := by decide +kernel
theorem dX2_init_37 : decode cX2_init 37 = .ok (.bipush 20, 2) := by decide +kernel
theorem dX2_init_39 : decode cX2_init 39 = .ok (.newarray .int, 2) := by decide +kernel
theorem dX2_init_41 : decode cX2_init 41 = .ok (.putfield 24, 3) := by decide +kernel
theorem dX2_init_44 : decode cX2_init 44 = .ok (.aload_n 0, 1) := by decide +kernel
theorem dX2_init_45 : decode cX2_init 45 = .ok (.bipush 20, 2) := by decide +kernel
theorem dX2_init_47 : decode cX2_init 47 = .ok (.newarray .char, 2) := by decide +kernel
theorem dX2_init_49 : decode cX2_init 49 = .ok (.putfield 27, 3) := by decide +kernel
theorem dX2_init_52 : decode cX2_init 52 = .ok (.aload_n 0, 1) := by decide +kernel
theorem dX2_init_53 : decode cX2_init 53 = .ok (.bipush 20, 2) := by decide +kernel
theorem dX2_init_55 : decode cX2_init 55 = .ok (.newarray .char, 2) := by decide +kernel
theorem dX2_init_57 : decode cX2_init 57 = .ok (.putfield 31, 3) := by decide +kernel
theorem dX2_init_60 : decode cX2_init 60 = .ok (.aload_n 0, 1) := by decide +kernel
theorem dX2_init_61 : decode cX2_init 61 = .ok (.bipush 20, 2) := by decide +kernel
theorem dX2_init_63 : decode cX2_init 63 = .ok (.newarray .boolean, 2) := by decide +kernel
theorem dX2_init_65 : decode cX2_init 65 = .ok (.putfield 34, 3) := by decide +kernel
theorem dX2_init_68 : decode cX2_init 68 = .ok (.aload_n 0, 1) := by decide +kernel
theorem dX2_init_69 : decode cX2_init 69 = .ok (.bipush 20, 2) := by decide +kernel
theorem dX2_init_71 : decode cX2_init 71 = .ok (.newarray .boolean, 2) := by decide +kernel
theorem dX2_init_73 : decode cX2_init 73 = .ok (.putfield 38, 3) := by decide +kernel
theorem dX2_init_76 : decode cX2_init 76 = .ok (.aload_n 0, 1) := by decide +kernel
theorem dX2_init_77 : decode cX2_init 77 = .ok (.aload_n 1, 1) := by decide +kernel
theorem dX2_init_78 : decode cX2_init 78 = .ok (.putfield 41, 3) := by decide +kernel
theorem dX2_init_81 : decode cX2_init 81 = .ok (.aload_n 0, 1) := by decide +kernel
theorem dX2_init_82 : decode cX2_init 82 = .ok (.aload_n 2, 1) := by decide +kernel
theorem dX2_init_83 : decode cX2_init 83 = .ok (.putfield 45, 3) := by decide +kernel
theorem dX2_init_86 : decode cX2_init 86 = .ok (.return_, 1) := by decide +kernel
theorem dX2_inspect_0 : decode cX2_inspect 0 = .ok (.iconst 0, 1) := by decide +kernel
theorem dX2_inspect_1 : decode cX2_inspect 1 = .ok (.istore_n 3, 1) := by decide +kernel
theorem dX2_inspect_2 : decode cX2_inspect 2 = .ok (.iconst 0, 1) := by decide +kernel
theorem dX2_inspect_3 : decode cX2_inspect 3 = .ok (.istore 4, 2) := by decide +kernel
theorem dX2_inspect_5 : decode cX2_inspect 5 = .ok (.iload 4, 2) := by decide +kernel
theorem dX2_inspect_7 : decode cX2_inspect 7 = .ok (.aload_n 0, 1) := by decide +kernel
theorem dX2_inspect_8 : decode cX2_inspect 8 = .ok (.getfield 41, 3) := by decide +kernel
theorem dX2_inspect_11 : decode cX2_inspect 11 = .ok (.getfield 49, 3) := by decide +kernel
theorem dX2_inspect_14 : decode cX2_inspect 14 = .ok (.if_icmp .ge 133, 3) := by decide +kernel
theorem dX2_inspect_147 : decode cX2_inspect 147 = .ok (.iload_n 3, 1) := by decide +kernel
theorem dX2_inspect_148 : decode cX2_inspect 148 = .ok (.ireturn, 1) := by decide +kernel
theorem dX2_latest_0 : decode cX2_latest 0 = .ok (.aload_n 0, 1) := by decide +kernel
theorem dX2_latest_1 : decode cX2_latest 1 = .ok (.getfield 105, 3) := by decide +kernel
theorem dX2_latest_4 : decode cX2_latest 4 = .ok (.bipush 20, 2) := by decide +kernel
theorem dX2_latest_6 : decode cX2_latest 6 = .ok (.invokestatic 109, 3) := by decide +kernel
theorem dX2_latest_9 : decode cX2_latest 9 = .ok (.iconst 1, 1) := by decide +kernel
theorem dX2_latest_10 : decode cX2_latest 10 = .ok (.isub, 1) := by decide +kernel
theorem dX2_latest_11 : decode cX2_latest 11 = .ok (.istore_n 3, 1) := by decide +kernel
theorem dX2_latest_12 : decode cX2_latest 12 = .ok (.iload_n 3, 1) := by decide +kernel
theorem dX2_latest_13 : decode cX2_latest 13 = .ok (.ifCond .lt 43, 3) := by decide +kernel
theorem dX2_latest_56 : decode cX2_latest 56 = .ok (.iconst (-1), 1) := by decide +kernel
theorem dX2_latest_57 : decode cX2_latest 57 = .ok (.ireturn, 1) := by decide +kernel
theorem dX3_init_0 : decode cX3_init 0 = .ok (.aload_n 0, 1) := by decide +kernel
theorem dX3_init_1 : decode cX3_init 1 = .ok (.invokespecial 3, 3) := by decide +kernel
theorem dX3_init_4 : decode cX3_init 4 = .ok (.return_, 1) := by decide +kernel
theorem dX4_init_0 : decode cX4_init 0 = .ok (.aload_n 0, 1) := by decide +kernel
theorem dX4_init_1 : decode cX4_init 1 = .ok (.invokespecial 3, 3) := by decide +kernel
theorem dX4_init_4 : decode cX4_init 4 = .ok (.aload_n 0, 1) := by decide +kernel
theorem dX4_init_5 : decode cX4_init 5 = .ok (.bipush 40, 2) := by decide +kernel
theorem dX4_init_7 : decode cX4_init 7 = .ok (.newarray .int, 2) := by decide +kernel
theorem dX4_init_9 : decode cX4_init 9 = .ok (.putfield 9, 3) := by decide +kernel
theorem dX4_init_12 : decode cX4_init 12 = .ok (.aload_n 0, 1) := by decide +kernel
theorem dX4_init_13 : decode cX4_init 13 = .ok (.bipush 40, 2) := by decide +kernel
theorem dX4_init_15 : decode cX4_init 15 = .ok (.newarray .int, 2) := by decide +kernel
theorem dX4_init_17 : decode cX4_init 17 = .ok (.putfield 15, 3) := by decide +kernel
theorem dX4_init_20 : decode cX4_init 20 = .ok (.aload_n 0, 1) := by decide +kernel
theorem dX4_init_21 : decode cX4_init 21 = .ok (.bipush 40, 2) := by decide +kernel
theorem dX4_init_23 : decode cX4_init 23 = .ok (.newarray .int, 2) := by decide +kernel
theorem dX4_init_25 : decode cX4_init 25 = .ok (.putfield 18, 3) := by decide +kernel
theorem dX4_init_28 : decode cX4_init 28 = .ok (.aload_n 0, 1) := by decide +kernel
theorem dX4_init_29 : decode cX4_init 29 = .ok (.bipush 40, 2) := by decide +kernel
theorem dX4_init_31 : decode cX4_init 31 = .ok (.newarray .int, 2) := by decide +kernel
theorem dX4_init_33 : decode cX4_init 33 = .ok (.putfield 21, 3) := by decide +kernel
theorem dX4_init_36 : decode cX4_init 36 = .ok (.aload_n 0, 1) := by decide +kernel
theorem dX4_init_37 : decode cX4_init 37 = .ok (.bipush 40, 2) := by decide +kernel
theorem dX4_init_39 : decode cX4_init 39 = .ok (.newarray .boolean, 2) := by decide +kernel
theorem dX4_init_41 : decode cX4_init 41 = .ok (.putfield 24, 3) := by decide +kernel
theorem dX4_init_44 : decode cX4_init 44 = .ok (.aload_n 0, 1) := by decide +kernel
theorem dX4_init_45 : decode cX4_init 45 = .ok (.aload_n 1, 1) := by decide +kernel
theorem dX4_init_46 : decode cX4_init 46 = .ok (.putfield 28, 3) := by decide +kernel
theorem dX4_init_49 : decode cX4_init 49 = .ok (.aload_n 0, 1) := by decide +kernel
theorem dX4_init_50 : decode cX4_init 50 = .ok (.aload_n 2, 1) := by decide +kernel
theorem dX4_init_51 : decode cX4_init 51 = .ok (.putfield 32, 3) := by decide +kernel
theorem dX4_init_54 : decode cX4_init 54 = .ok (.return_, 1) := by decide +kernel
theorem dX5_add_0 : decode cX5_add 0 = .ok (.aload_n 0, 1) := by decide +kernel
theorem dX5_add_1 : decode cX5_add 1 = .ok (.getfield 34, 3) := by decide +kernel
theorem dX5_add_4 : decode cX5_add 4 = .ok (.ifCond .lt 12, 3) := by decide +kernel
theorem dX5_add_7 : decode cX5_add 7 = .ok (.aload_n 0, 1) := by decide +kernel
theorem dX5_add_8 : decode cX5_add 8 = .ok (.getfield 34, 3) := by decide +kernel
theorem dX5_add_11 : decode cX5_add 11 = .ok (.bipush 40, 2) := by decide +kernel
theorem dX5_add_13 : decode cX5_add 13 = .ok (.if_icmp .lt 5, 3) := by decide +kernel
theorem dX5_add_18 : decode cX5_add 18 = .ok (.aload_n 0, 1) := by decide +kernel
theorem dX5_add_19 : decode cX5_add 19 = .ok (.getfield 34, 3) := by decide +kernel
theorem dX5_add_22 : decode cX5_add 22 = .ok (.istore 4, 2) := by decide +kernel
theorem dX5_add_24 : decode cX5_add 24 = .ok (.aload_n 0, 1) := by decide +kernel
theorem dX5_add_25 : decode cX5_add 25 = .ok (.dup, 1) := by decide +kernel
theorem dX5_add_26 : decode cX5_add 26 = .ok (.getfield 34, 3) := by decide +kernel
theorem dX5_add_29 : decode cX5_add 29 = .ok (.iconst 1, 1) := by decide +kernel
theorem dX5_add_30 : decode cX5_add 30 = .ok (.iadd, 1) := by decide +kernel
theorem dX5_add_31 : decode cX5_add 31 = .ok (.putfield 34, 3) := by decide +kernel
theorem dX5_add_34 : decode cX5_add 34 = .ok (.aload_n 0, 1) := by decide +kernel
theorem dX5_add_35 : decode cX5_add 35 = .ok (.getfield 9, 3) := by decide +kernel
theorem dX5_add_38 : decode cX5_add 38 = .ok (.iload 4, 2) := by decide +kernel
theorem dX5_add_40 : decode cX5_add 40 = .ok (.iload_n 1, 1) := by decide +kernel
theorem dX5_add_41 : decode cX5_add 41 = .ok (.iastore, 1) := by decide +kernel
theorem dX5_add_42 : decode cX5_add 42 = .ok (.aload_n 0, 1) := by decide +kernel
theorem dX5_add_43 : decode cX5_add 43 = .ok (.getfield 15, 3) := by decide +kernel
theorem dX5_add_46 : decode cX5_add 46 = .ok (.iload 4, 2) := by decide +kernel
theorem dX5_add_48 : decode cX5_add 48 = .ok (.iload_n 2, 1) := by decide +kernel
theorem dX5_add_49 : decode cX5_add 49 = .ok (.iastore, 1) := by decide +kernel
theorem dX5_add_50 : decode cX5_add 50 = .ok (.aload_n 0, 1) := by decide +kernel
theorem dX5_add_51 : decode cX5_add 51 = .ok (.getfield 18, 3) := by decide +kernel
theorem dX5_add_54 : decode cX5_add 54 = .ok (.iload 4, 2) := by decide +kernel
theorem dX5_add_56 : decode cX5_add 56 = .ok (.iconst (-1), 1) := by decide +kernel
theorem dX5_add_57 : decode cX5_add 57 = .ok (.iastore, 1) := by decide +kernel
theorem dX5_add_58 : decode cX5_add 58 = .ok (.aload_n 0, 1) := by decide +kernel
theorem dX5_add_59 : decode cX5_add 59 = .ok (.getfield 21, 3) := by decide +kernel
theorem dX5_add_62 : decode cX5_add 62 = .ok (.iload 4, 2) := by decide +kernel
theorem dX5_add_64 : decode cX5_add 64 = .ok (.iconst 0, 1) := by decide +kernel
theorem dX5_add_65 : decode cX5_add 65 = .ok (.iastore, 1) := by decide +kernel
theorem dX5_add_66 : decode cX5_add 66 = .ok (.aload_n 0, 1) := by decide +kernel
theorem dX5_add_67 : decode cX5_add 67 = .ok (.getfield 27, 3) := by decide +kernel
theorem dX5_add_70 : decode cX5_add 70 = .ok (.iload 4, 2) := by decide +kernel
theorem dX5_add_72 : decode cX5_add 72 = .ok (.iload_n 3, 1) := by decide +kernel
theorem dX5_add_73 : decode cX5_add 73 = .ok (.bastore, 1) := by decide +kernel
theorem dX5_add_74 : decode cX5_add 74 = .ok (.aload_n 0, 1) := by decide +kernel
theorem dX5_add_75 : decode cX5_add 75 = .ok (.iload 4, 2) := by decide +kernel
theorem dX5_add_77 : decode cX5_add 77 = .ok (.iconst 1, 1) := by decide +kernel
theorem dX5_add_78 : decode cX5_add 78 = .ok (.invokevirtual 38, 3) := by decide +kernel
theorem dX5_add_81 : decode cX5_add 81 = .ok (.iload 4, 2) := by decide +kernel
theorem dX5_add_83 : decode cX5_add 83 = .ok (.ireturn, 1) := by decide +kernel
theorem dX5_countInLines_0 : decode cX5_countInLines 0 = .ok (.aload_n 0, 1) := by decide +kernel
theorem dX5_countInLines_1 : decode cX5_countInLines 1 = .ok (.iload_n 1, 1) := by decide +kernel
theorem dX5_countInLines_2 : decode cX5_countInLines 2 = .ok (.invokevirtual 52, 3) := by decide +kernel
theorem dX5_countInLines_5 : decode cX5_countInLines 5 = .ok (.ifCond .ne 4, 3) := by decide +kernel
theorem dX5_countInLines_8 : decode cX5_countInLines 8 = .ok (.return_, 1) := by decide +kernel
theorem dX5_countInLines_9 : decode cX5_countInLines 9 = .ok (.aload_n 0, 1) := by decide +kernel
theorem dX5_countInLines_10 : decode cX5_countInLines 10 = .ok (.iload_n 1, 1) := by decide +kernel
theorem dX5_countInLines_11 : decode cX5_countInLines 11 = .ok (.invokevirtual 55, 3) := by decide +kernel
theorem dX5_countInLines_14 : decode cX5_countInLines 14 = .ok (.istore_n 3, 1) := by decide +kernel
theorem dX5_countInLines_15 : decode cX5_countInLines 15 = .ok (.iconst 0, 1) := by decide +kernel
theorem dX5_countInLines_16 : decode cX5_countInLines 16 = .ok (.istore 4, 2) := by decide +kernel
theorem dX5_countInLines_18 : decode cX5_countInLines 18 = .ok (.iload 4, 2) := by decide +kernel
theorem dX5_countInLines_20 : decode cX5_countInLines 20 = .ok (.bipush 40, 2) := by decide +kernel
theorem dX5_countInLines_22 : decode cX5_countInLines 22 = .ok (.if_icmp .ge 34, 3) := by decide +kernel
theorem dX5_countInLines_25 : decode cX5_countInLines 25 = .ok (.aload_n 0, 1) := by decide +kernel
theorem dX5_countInLines_26 : decode cX5_countInLines 26 = .ok (.iload_n 3, 1) := by decide +kernel
theorem dX5_countInLines_27 : decode cX5_countInLines 27 = .ok (.invokevirtual 49, 3) := by decide +kernel
theorem dX5_countInLines_30 : decode cX5_countInLines 30 = .ok (.ifCond .eq 26, 3) := by decide +kernel
theorem dX5_countInLines_56 : decode cX5_countInLines 56 = .ok (.return_, 1) := by decide +kernel
theorem dX5_countLiving_0 : decode cX5_countLiving 0 = .ok (.aload_n 0, 1) := by decide +kernel
theorem dX5_countLiving_1 : decode cX5_countLiving 1 = .ok (.getfield 34, 3) := by decide +kernel
theorem dX5_countLiving_4 : decode cX5_countLiving 4 = .ok (.aload_n 0, 1) := by decide +kernel
theorem dX5_countLiving_5 : decode cX5_countLiving 5 = .ok (.getfield 46, 3) := by decide +kernel
theorem dX5_countLiving_8 : decode cX5_countLiving 8 = .ok (.isub, 1) := by decide +kernel
theorem dX5_countLiving_9 : decode cX5_countLiving 9 = .ok (.ireturn, 1) := by decide +kernel
theorem dX5_fatherOf_0 : decode cX5_fatherOf 0 = .ok (.aload_n 0, 1) := by decide +kernel
theorem dX5_fatherOf_1 : decode cX5_fatherOf 1 = .ok (.iload_n 1, 1) := by decide +kernel
theorem dX5_fatherOf_2 : decode cX5_fatherOf 2 = .ok (.invokevirtual 49, 3) := by decide +kernel
theorem dX5_fatherOf_5 : decode cX5_fatherOf 5 = .ok (.ifCond .eq 12, 3) := by decide +kernel
theorem dX5_fatherOf_8 : decode cX5_fatherOf 8 = .ok (.aload_n 0, 1) := by decide +kernel
theorem dX5_fatherOf_9 : decode cX5_fatherOf 9 = .ok (.getfield 9, 3) := by decide +kernel
theorem dX5_fatherOf_12 : decode cX5_fatherOf 12 = .ok (.iload_n 1, 1) := by decide +kernel
theorem dX5_fatherOf_13 : decode cX5_fatherOf 13 = .ok (.iaload, 1) := by decide +kernel
theorem dX5_fatherOf_14 : decode cX5_fatherOf 14 = .ok (.goto 4, 3) := by decide +kernel
theorem dX5_fatherOf_18 : decode cX5_fatherOf 18 = .ok (.ireturn, 1) := by decide +kernel
theorem dX5_has_0 : decode cX5_has 0 = .ok (.iload_n 1, 1) := by decide +kernel
theorem dX5_has_1 : decode cX5_has 1 = .ok (.ifCond .lt 21, 3) := by decide +kernel
theorem dX5_has_4 : decode cX5_has 4 = .ok (.iload_n 1, 1) := by decide +kernel
theorem dX5_has_5 : decode cX5_has 5 = .ok (.aload_n 0, 1) := by decide +kernel
theorem dX5_has_6 : decode cX5_has 6 = .ok (.getfield 34, 3) := by decide +kernel
theorem dX5_has_9 : decode cX5_has 9 = .ok (.if_icmp .ge 13, 3) := by decide +kernel
theorem dX5_has_12 : decode cX5_has 12 = .ok (.iload_n 1, 1) := by decide +kernel
theorem dX5_has_13 : decode cX5_has 13 = .ok (.bipush 40, 2) := by decide +kernel
theorem dX5_has_15 : decode cX5_has 15 = .ok (.if_icmp .ge 7, 3) := by decide +kernel
theorem dX5_has_18 : decode cX5_has 18 = .ok (.iconst 1, 1) := by decide +kernel
theorem dX5_has_19 : decode cX5_has 19 = .ok (.goto 4, 3) := by decide +kernel
theorem dX5_has_22 : decode cX5_has 22 = .ok (.iconst 0, 1) := by decide +kernel
theorem dX5_has_23 : decode cX5_has 23 = .ok (.ireturn, 1) := by decide +kernel
theorem dX5_init_0 : decode cX5_init 0 = .ok (.aload_n 0, 1) := by decide +kernel
theorem dX5_init_1 : decode cX5_init 1 = .ok (.invokespecial 3, 3) := by decide +kernel
theorem dX5_init_4 : decode cX5_init 4 = .ok (.aload_n 0, 1) := by decide +kernel
theorem dX5_init_5 : decode cX5_init 5 = .ok (.bipush 40, 2) := by decide +kernel
theorem dX5_init_7 : decode cX5_init 7 = .ok (.newarray .int, 2) := by decide +kernel
theorem dX5_init_9 : decode cX5_init 9 = .ok (.putfield 9, 3) := by decide +kernel
theorem dX5_init_12 : decode cX5_init 12 = .ok (.aload_n 0, 1) := by decide +kernel
theorem dX5_init_13 : decode cX5_init 13 = .ok (.bipush 40, 2) := by decide +kernel
theorem dX5_init_15 : decode cX5_init 15 = .ok (.newarray .int, 2) := by decide +kernel
theorem dX5_init_17 : decode cX5_init 17 = .ok (.putfield 15, 3) := by decide +kernel
theorem dX5_init_20 : decode cX5_init 20 = .ok (.aload_n 0, 1) := by decide +kernel
theorem dX5_init_21 : decode cX5_init 21 = .ok (.bipush 40, 2) := by decide +kernel
theorem dX5_init_23 : decode cX5_init 23 = .ok (.newarray .int, 2) := by decide +kernel
theorem dX5_init_25 : decode cX5_init 25 = .ok (.putfield 18, 3) := by decide +kernel
theorem dX5_init_28 : decode cX5_init 28 = .ok (.aload_n 0, 1) := by decide +kernel
theorem dX5_init_29 : decode cX5_init 29 = .ok (.bipush 40, 2) := by decide +kernel
theorem dX5_init_31 : decode cX5_init 31 = .ok (.newarray .int, 2) := by decide +kernel
theorem dX5_init_33 : decode cX5_init 33 = .ok (.putfield 21, 3) := by decide +kernel
theorem dX5_init_36 : decode cX5_init 36 = .ok (.aload_n 0, 1) := by decide +kernel
theorem dX5_init_37 : decode cX5_init 37 = .ok (.bipush 40, 2) := by decide +kernel
theorem dX5_init_39 : decode cX5_init 39 = .ok (.newarray .int, 2) := by decide +kernel
theorem dX5_init_41 : decode cX5_init 41 = .ok (.putfield 24, 3) := by decide +kernel
theorem dX5_init_44 : decode cX5_init 44 = .ok (.aload_n 0, 1) := by decide +kernel
theorem dX5_init_45 : decode cX5_init 45 = .ok (.bipush 40, 2) := by decide +kernel
theorem dX5_init_47 : decode cX5_init 47 = .ok (.newarray .boolean, 2) := by decide +kernel
theorem dX5_init_49 : decode cX5_init 49 = .ok (.putfield 27, 3) := by decide +kernel
theorem dX5_init_52 : decode cX5_init 52 = .ok (.aload_n 0, 1) := by decide +kernel
theorem dX5_init_53 : decode cX5_init 53 = .ok (.bipush 40, 2) := by decide +kernel
theorem dX5_init_55 : decode cX5_init 55 = .ok (.newarray .boolean, 2) := by decide +kernel
theorem dX5_init_57 : decode cX5_init 57 = .ok (.putfield 31, 3) := by decide +kernel
theorem dX5_init_60 : decode cX5_init 60 = .ok (.return_, 1) := by decide +kernel
theorem dX5_isAlive_0 : decode cX5_isAlive 0 = .ok (.aload_n 0, 1) := by decide +kernel
theorem dX5_isAlive_1 : decode cX5_isAlive 1 = .ok (.iload_n 1, 1) := by decide +kernel
theorem dX5_isAlive_2 : decode cX5_isAlive 2 = .ok (.invokevirtual 49, 3) := by decide +kernel
theorem dX5_isAlive_5 : decode cX5_isAlive 5 = .ok (.ifCond .eq 16, 3) := by decide +kernel
theorem dX5_isAlive_8 : decode cX5_isAlive 8 = .ok (.aload_n 0, 1) := by decide +kernel
theorem dX5_isAlive_9 : decode cX5_isAlive 9 = .ok (.getfield 21, 3) := by decide +kernel
theorem dX5_isAlive_12 : decode cX5_isAlive 12 = .ok (.iload_n 1, 1) := by decide +kernel
theorem dX5_isAlive_13 : decode cX5_isAlive 13 = .ok (.iaload, 1) := by decide +kernel
theorem dX5_isAlive_14 : decode cX5_isAlive 14 = .ok (.ifCond .ne 7, 3) := by decide +kernel
theorem dX5_isAlive_17 : decode cX5_isAlive 17 = .ok (.iconst 1, 1) := by decide +kernel
theorem dX5_isAlive_18 : decode cX5_isAlive 18 = .ok (.goto 4, 3) := by decide +kernel
theorem dX5_isAlive_22 : decode cX5_isAlive 22 = .ok (.ireturn, 1) := by decide +kernel
theorem dX5_isMan_0 : decode cX5_isMan 0 = .ok (.aload_n 0, 1) := by decide +kernel
theorem dX5_isMan_1 : decode cX5_isMan 1 = .ok (.iload_n 1, 1) := by decide +kernel
theorem dX5_isMan_2 : decode cX5_isMan 2 = .ok (.invokevirtual 49, 3) := by decide +kernel
theorem dX5_isMan_5 : decode cX5_isMan 5 = .ok (.ifCond .eq 16, 3) := by decide +kernel
theorem dX5_isMan_8 : decode cX5_isMan 8 = .ok (.aload_n 0, 1) := by decide +kernel
theorem dX5_isMan_9 : decode cX5_isMan 9 = .ok (.getfield 27, 3) := by decide +kernel
theorem dX5_isMan_12 : decode cX5_isMan 12 = .ok (.iload_n 1, 1) := by decide +kernel
theorem dX5_isMan_13 : decode cX5_isMan 13 = .ok (.baload, 1) := by decide +kernel
theorem dX5_isMan_14 : decode cX5_isMan 14 = .ok (.ifCond .eq 7, 3) := by decide +kernel
theorem dX5_isMan_17 : decode cX5_isMan 17 = .ok (.iconst 1, 1) := by decide +kernel
theorem dX5_isMan_18 : decode cX5_isMan 18 = .ok (.goto 4, 3) := by decide +kernel
theorem dX5_isMan_21 : decode cX5_isMan 21 = .ok (.iconst 0, 1) := by decide +kernel
theorem dX5_isMan_22 : decode cX5_isMan 22 = .ok (.ireturn, 1) := by decide +kernel
theorem dX6_areProved_0 : decode cX6_areProved 0 = .ok (.iconst 0, 1) := by decide +kernel
theorem dX6_areProved_1 : decode cX6_areProved 1 = .ok (.istore_n 1, 1) := by decide +kernel
theorem dX6_areProved_2 : decode cX6_areProved 2 = .ok (.iload_n 1, 1) := by decide +kernel
theorem dX6_areProved_3 : decode cX6_areProved 3 = .ok (.aload_n 0, 1) := by decide +kernel
theorem dX6_areProved_4 : decode cX6_areProved 4 = .ok (.getfield 33, 3) := by decide +kernel
theorem dX6_areProved_7 : decode cX6_areProved 7 = .ok (.getfield 53, 3) := by decide +kernel
theorem dX6_areProved_10 : decode cX6_areProved 10 = .ok (.if_icmp .ge 81, 3) := by decide +kernel
theorem dX6_areProved_91 : decode cX6_areProved 91 = .ok (.iconst 1, 1) := by decide +kernel
theorem dX6_areProved_92 : decode cX6_areProved 92 = .ok (.ireturn, 1) := by decide +kernel
theorem dX6_init_0 : decode cX6_init 0 = .ok (.aload_n 0, 1) := by decide +kernel
theorem dX6_init_1 : decode cX6_init 1 = .ok (.invokespecial 3, 3) := by decide +kernel
theorem dX6_init_4 : decode cX6_init 4 = .ok (.aload_n 0, 1) := by decide +kernel
theorem dX6_init_5 : decode cX6_init 5 = .ok (.bipush 40, 2) := by decide +kernel
theorem dX6_init_7 : decode cX6_init 7 = .ok (.bipush 8, 2) := by decide +kernel
theorem dX6_init_9 : decode cX6_init 9 = .ok (.multianewarray 9 2, 4) := by decide +kernel
theorem dX6_init_13 : decode cX6_init 13 = .ok (.putfield 11, 3) := by decide +kernel
theorem dX6_init_16 : decode cX6_init 16 = .ok (.aload_n 0, 1) := by decide +kernel
theorem dX6_init_17 : decode cX6_init 17 = .ok (.bipush 40, 2) := by decide +kernel
theorem dX6_init_19 : decode cX6_init 19 = .ok (.bipush 8, 2) := by decide +kernel
theorem dX6_init_21 : decode cX6_init 21 = .ok (.multianewarray 9 2, 4) := by decide +kernel
theorem dX6_init_25 : decode cX6_init 25 = .ok (.putfield 16, 3) := by decide +kernel
theorem dX6_init_28 : decode cX6_init 28 = .ok (.aload_n 0, 1) := by decide +kernel
theorem dX6_init_29 : decode cX6_init 29 = .ok (.bipush 40, 2) := by decide +kernel
theorem dX6_init_31 : decode cX6_init 31 = .ok (.newarray .int, 2) := by decide +kernel
theorem dX6_init_33 : decode cX6_init 33 = .ok (.putfield 19, 3) := by decide +kernel
theorem dX6_init_36 : decode cX6_init 36 = .ok (.aload_n 0, 1) := by decide +kernel
theorem dX6_init_37 : decode cX6_init 37 = .ok (.new 23, 3) := by decide +kernel
theorem dX6_init_40 : decode cX6_init 40 = .ok (.dup, 1) := by decide +kernel
theorem dX6_init_41 : decode cX6_init 41 = .ok (.invokespecial 25, 3) := by decide +kernel
theorem dX6_init_44 : decode cX6_init 44 = .ok (.putfield 26, 3) := by decide +kernel
theorem dX6_init_47 : decode cX6_init 47 = .ok (.aload_n 0, 1) := by decide +kernel
theorem dX6_init_48 : decode cX6_init 48 = .ok (.new 23, 3) := by decide +kernel
theorem dX6_init_51 : decode cX6_init 51 = .ok (.dup, 1) := by decide +kernel
theorem dX6_init_52 : decode cX6_init 52 = .ok (.invokespecial 25, 3) := by decide +kernel
theorem dX6_init_55 : decode cX6_init 55 = .ok (.putfield 30, 3) := by decide +kernel
theorem dX6_init_58 : decode cX6_init 58 = .ok (.aload_n 0, 1) := by decide +kernel
theorem dX6_init_59 : decode cX6_init 59 = .ok (.aload_n 1, 1) := by decide +kernel
theorem dX6_init_60 : decode cX6_init 60 = .ok (.putfield 33, 3) := by decide +kernel
theorem dX6_init_63 : decode cX6_init 63 = .ok (.aload_n 0, 1) := by decide +kernel
theorem dX6_init_64 : decode cX6_init 64 = .ok (.aload_n 2, 1) := by decide +kernel
theorem dX6_init_65 : decode cX6_init 65 = .ok (.putfield 37, 3) := by decide +kernel
theorem dX6_init_68 : decode cX6_init 68 = .ok (.aload_n 0, 1) := by decide +kernel
theorem dX6_init_69 : decode cX6_init 69 = .ok (.aload_n 3, 1) := by decide +kernel
theorem dX6_init_70 : decode cX6_init 70 = .ok (.putfield 41, 3) := by decide +kernel
theorem dX6_init_73 : decode cX6_init 73 = .ok (.aload_n 0, 1) := by decide +kernel
theorem dX6_init_74 : decode cX6_init 74 = .ok (.aload 4, 2) := by decide +kernel
theorem dX6_init_76 : decode cX6_init 76 = .ok (.putfield 45, 3) := by decide +kernel
theorem dX6_init_79 : decode cX6_init 79 = .ok (.aload_n 0, 1) := by decide +kernel
theorem dX6_init_80 : decode cX6_init 80 = .ok (.aload 5, 2) := by decide +kernel
theorem dX6_init_82 : decode cX6_init 82 = .ok (.putfield 49, 3) := by decide +kernel
theorem dX6_init_85 : decode cX6_init 85 = .ok (.return_, 1) := by decide +kernel
theorem dX6_settle_0 : decode cX6_settle 0 = .ok (.iconst 0, 1) := by decide +kernel
theorem dX6_settle_1 : decode cX6_settle 1 = .ok (.istore_n 1, 1) := by decide +kernel
theorem dX6_settle_2 : decode cX6_settle 2 = .ok (.iload_n 1, 1) := by decide +kernel
theorem dX6_settle_3 : decode cX6_settle 3 = .ok (.aload_n 0, 1) := by decide +kernel
theorem dX6_settle_4 : decode cX6_settle 4 = .ok (.getfield 33, 3) := by decide +kernel
theorem dX6_settle_7 : decode cX6_settle 7 = .ok (.getfield 53, 3) := by decide +kernel
theorem dX6_settle_10 : decode cX6_settle 10 = .ok (.if_icmp .ge 86, 3) := by decide +kernel
theorem dX6_settle_13 : decode cX6_settle 13 = .ok (.iload_n 1, 1) := by decide +kernel
theorem dX6_settle_14 : decode cX6_settle 14 = .ok (.bipush 40, 2) := by decide +kernel
theorem dX6_settle_16 : decode cX6_settle 16 = .ok (.if_icmp .ge 80, 3) := by decide +kernel
theorem dX6_settle_19 : decode cX6_settle 19 = .ok (.aload_n 0, 1) := by decide +kernel
theorem dX6_settle_20 : decode cX6_settle 20 = .ok (.getfield 19, 3) := by decide +kernel
theorem dX6_settle_23 : decode cX6_settle 23 = .ok (.iload_n 1, 1) := by decide +kernel
theorem dX6_settle_24 : decode cX6_settle 24 = .ok (.iconst 0, 1) := by decide +kernel
theorem dX6_settle_25 : decode cX6_settle 25 = .ok (.iastore, 1) := by decide +kernel
theorem dX6_settle_26 : decode cX6_settle 26 = .ok (.aload_n 0, 1) := by decide +kernel
theorem dX6_settle_27 : decode cX6_settle 27 = .ok (.getfield 41, 3) := by decide +kernel
theorem dX6_settle_30 : decode cX6_settle 30 = .ok (.iload_n 1, 1) := by decide +kernel
theorem dX6_settle_31 : decode cX6_settle 31 = .ok (.invokevirtual 59, 3) := by decide +kernel
theorem dX6_settle_34 : decode cX6_settle 34 = .ok (.istore_n 2, 1) := by decide +kernel
theorem dX6_settle_35 : decode cX6_settle 35 = .ok (.iload_n 2, 1) := by decide +kernel
theorem dX6_settle_36 : decode cX6_settle 36 = .ok (.ifCond .lt 54, 3) := by decide +kernel
theorem dX6_settle_90 : decode cX6_settle 90 = .ok (.iinc 1 1, 3) := by decide +kernel
theorem dX6_settle_93 : decode cX6_settle 93 = .ok (.goto (-91), 3) := by decide +kernel
theorem dX6_settle_96 : decode cX6_settle 96 = .ok (.return_, 1) := by decide +kernel
theorem dX8_init_0 : decode cX8_init 0 = .ok (.aload_n 0, 1) := by decide +kernel
theorem dX8_init_1 : decode cX8_init 1 = .ok (.invokespecial 3, 3) := by decide +kernel
theorem dX8_init_4 : decode cX8_init 4 = .ok (.aload_n 0, 1) := by decide +kernel
theorem dX8_init_5 : decode cX8_init 5 = .ok (.bipush 16, 2) := by decide +kernel
theorem dX8_init_7 : decode cX8_init 7 = .ok (.newarray .long, 2) := by decide +kernel
theorem dX8_init_9 : decode cX8_init 9 = .ok (.putfield 9, 3) := by decide +kernel
theorem dX8_init_12 : decode cX8_init 12 = .ok (.aload_n 0, 1) := by decide +kernel
theorem dX8_init_13 : decode cX8_init 13 = .ok (.bipush 16, 2) := by decide +kernel
theorem dX8_init_15 : decode cX8_init 15 = .ok (.newarray .int, 2) := by decide +kernel
theorem dX8_init_17 : decode cX8_init 17 = .ok (.putfield 15, 3) := by decide +kernel
theorem dX8_init_20 : decode cX8_init 20 = .ok (.aload_n 0, 1) := by decide +kernel
theorem dX8_init_21 : decode cX8_init 21 = .ok (.bipush 16, 2) := by decide +kernel
theorem dX8_init_23 : decode cX8_init 23 = .ok (.newarray .long, 2) := by decide +kernel
theorem dX8_init_25 : decode cX8_init 25 = .ok (.putfield 19, 3) := by decide +kernel
theorem dX8_init_28 : decode cX8_init 28 = .ok (.return_, 1) := by decide +kernel
theorem dX9_countWithWord_0 : decode cX9_countWithWord 0 = .ok (.iconst 0, 1) := by decide +kernel
theorem dX9_countWithWord_1 : decode cX9_countWithWord 1 = .ok (.istore_n 2, 1) := by decide +kernel
theorem dX9_countWithWord_2 : decode cX9_countWithWord 2 = .ok (.iconst 0, 1) := by decide +kernel
theorem dX9_countWithWord_3 : decode cX9_countWithWord 3 = .ok (.istore_n 3, 1) := by decide +kernel
theorem dX9_countWithWord_4 : decode cX9_countWithWord 4 = .ok (.iload_n 3, 1) := by decide +kernel
theorem dX9_countWithWord_5 : decode cX9_countWithWord 5 = .ok (.aload_n 0, 1) := by decide +kernel
theorem dX9_countWithWord_6 : decode cX9_countWithWord 6 = .ok (.getfield 58, 3) := by decide +kernel
theorem dX9_countWithWord_9 : decode cX9_countWithWord 9 = .ok (.if_icmp .ge 31, 3) := by decide +kernel
theorem dX9_countWithWord_40 : decode cX9_countWithWord 40 = .ok (.iload_n 2, 1) := by decide +kernel
theorem dX9_countWithWord_41 : decode cX9_countWithWord 41 = .ok (.ireturn, 1) := by decide +kernel
theorem dX9_init_0 : decode cX9_init 0 = .ok (.aload_n 0, 1) := by decide +kernel
theorem dX9_init_1 : decode cX9_init 1 = .ok (.invokespecial 3, 3) := by decide +kernel
theorem dX9_init_4 : decode cX9_init 4 = .ok (.aload_n 0, 1) := by decide +kernel
theorem dX9_init_5 : decode cX9_init 5 = .ok (.bipush 24, 2) := by decide +kernel
theorem dX9_init_7 : decode cX9_init 7 = .ok (.anewarray 9, 3) := by decide +kernel
theorem dX9_init_10 : decode cX9_init 10 = .ok (.putfield 11, 3) := by decide +kernel
theorem dX9_init_13 : decode cX9_init 13 = .ok (.aload_n 0, 1) := by decide +kernel
theorem dX9_init_14 : decode cX9_init 14 = .ok (.bipush 24, 2) := by decide +kernel
theorem dX9_init_16 : decode cX9_init 16 = .ok (.bipush 16, 2) := by decide +kernel
theorem dX9_init_18 : decode cX9_init 18 = .ok (.multianewarray 17 2, 4) := by decide +kernel
theorem dX9_init_22 : decode cX9_init 22 = .ok (.putfield 19, 3) := by decide +kernel
theorem dX9_init_25 : decode cX9_init 25 = .ok (.aload_n 0, 1) := by decide +kernel
theorem dX9_init_26 : decode cX9_init 26 = .ok (.bipush 24, 2) := by decide +kernel
theorem dX9_init_28 : decode cX9_init 28 = .ok (.newarray .int, 2) := by decide +kernel
theorem dX9_init_30 : decode cX9_init 30 = .ok (.putfield 22, 3) := by decide +kernel
theorem dX9_init_33 : decode cX9_init 33 = .ok (.aload_n 0, 1) := by decide +kernel
theorem dX9_init_34 : decode cX9_init 34 = .ok (.bipush 24, 2) := by decide +kernel
theorem dX9_init_36 : decode cX9_init 36 = .ok (.newarray .int, 2) := by decide +kernel
theorem dX9_init_38 : decode cX9_init 38 = .ok (.putfield 26, 3) := by decide +kernel
theorem dX9_init_41 : decode cX9_init 41 = .ok (.aload_n 0, 1) := by decide +kernel
theorem dX9_init_42 : decode cX9_init 42 = .ok (.bipush 24, 2) := by decide +kernel
theorem dX9_init_44 : decode cX9_init 44 = .ok (.newarray .int, 2) := by decide +kernel
theorem dX9_init_46 : decode cX9_init 46 = .ok (.putfield 29, 3) := by decide +kernel
theorem dX9_init_49 : decode cX9_init 49 = .ok (.aload_n 0, 1) := by decide +kernel
theorem dX9_init_50 : decode cX9_init 50 = .ok (.bipush 24, 2) := by decide +kernel
theorem dX9_init_52 : decode cX9_init 52 = .ok (.newarray .int, 2) := by decide +kernel
theorem dX9_init_54 : decode cX9_init 54 = .ok (.putfield 32, 3) := by decide +kernel
theorem dX9_init_57 : decode cX9_init 57 = .ok (.aload_n 0, 1) := by decide +kernel
theorem dX9_init_58 : decode cX9_init 58 = .ok (.bipush 24, 2) := by decide +kernel
theorem dX9_init_60 : decode cX9_init 60 = .ok (.newarray .int, 2) := by decide +kernel
theorem dX9_init_62 : decode cX9_init 62 = .ok (.putfield 35, 3) := by decide +kernel
theorem dX9_init_65 : decode cX9_init 65 = .ok (.aload_n 0, 1) := by decide +kernel
theorem dX9_init_66 : decode cX9_init 66 = .ok (.bipush 24, 2) := by decide +kernel
theorem dX9_init_68 : decode cX9_init 68 = .ok (.newarray .char, 2) := by decide +kernel
theorem dX9_init_70 : decode cX9_init 70 = .ok (.putfield 38, 3) := by decide +kernel
theorem dX9_init_73 : decode cX9_init 73 = .ok (.aload_n 0, 1) := by decide +kernel
theorem dX9_init_74 : decode cX9_init 74 = .ok (.bipush 24, 2) := by decide +kernel
theorem dX9_init_76 : decode cX9_init 76 = .ok (.newarray .boolean, 2) := by decide +kernel
theorem dX9_init_78 : decode cX9_init 78 = .ok (.putfield 42, 3) := by decide +kernel
theorem dX9_init_81 : decode cX9_init 81 = .ok (.aload_n 0, 1) := by decide +kernel
theorem dX9_init_82 : decode cX9_init 82 = .ok (.new 46, 3) := by decide +kernel
theorem dX9_init_85 : decode cX9_init 85 = .ok (.dup, 1) := by decide +kernel
theorem dX9_init_86 : decode cX9_init 86 = .ok (.invokespecial 48, 3) := by decide +kernel
theorem dX9_init_89 : decode cX9_init 89 = .ok (.putfield 49, 3) := by decide +kernel
theorem dX9_init_92 : decode cX9_init 92 = .ok (.aload_n 0, 1) := by decide +kernel
theorem dX9_init_93 : decode cX9_init 93 = .ok (.aload_n 1, 1) := by decide +kernel
theorem dX9_init_94 : decode cX9_init 94 = .ok (.putfield 53, 3) := by decide +kernel
theorem dX9_init_97 : decode cX9_init 97 = .ok (.iconst 0, 1) := by decide +kernel
theorem dX9_init_98 : decode cX9_init 98 = .ok (.istore_n 2, 1) := by decide +kernel
theorem dX9_init_99 : decode cX9_init 99 = .ok (.iload_n 2, 1) := by decide +kernel
theorem dX9_init_100 : decode cX9_init 100 = .ok (.bipush 24, 2) := by decide +kernel
theorem dX9_init_102 : decode cX9_init 102 = .ok (.if_icmp .ge 22, 3) := by decide +kernel
theorem dX9_init_105 : decode cX9_init 105 = .ok (.aload_n 0, 1) := by decide +kernel
theorem dX9_init_106 : decode cX9_init 106 = .ok (.getfield 11, 3) := by decide +kernel
theorem dX9_init_109 : decode cX9_init 109 = .ok (.iload_n 2, 1) := by decide +kernel
theorem dX9_init_110 : decode cX9_init 110 = .ok (.new 9, 3) := by decide +kernel
theorem dX9_init_113 : decode cX9_init 113 = .ok (.dup, 1) := by decide +kernel
theorem dX9_init_114 : decode cX9_init 114 = .ok (.invokespecial 57, 3) := by decide +kernel
theorem dX9_init_117 : decode cX9_init 117 = .ok (.aastore, 1) := by decide +kernel
theorem dX9_init_118 : decode cX9_init 118 = .ok (.iinc 2 1, 3) := by decide +kernel
theorem dX9_init_121 : decode cX9_init 121 = .ok (.goto (-22), 3) := by decide +kernel
theorem dX9_init_124 : decode cX9_init 124 = .ok (.return_, 1) := by decide +kernel
theorem dX9_latestOf_0 : decode cX9_latestOf 0 = .ok (.aload_n 0, 1) := by decide +kernel
theorem dX9_latestOf_1 : decode cX9_latestOf 1 = .ok (.getfield 58, 3) := by decide +kernel
theorem dX9_latestOf_4 : decode cX9_latestOf 4 = .ok (.iconst 1, 1) := by decide +kernel
theorem dX9_latestOf_5 : decode cX9_latestOf 5 = .ok (.isub, 1) := by decide +kernel
theorem dX9_latestOf_6 : decode cX9_latestOf 6 = .ok (.istore_n 2, 1) := by decide +kernel
theorem dX9_latestOf_7 : decode cX9_latestOf 7 = .ok (.iload_n 2, 1) := by decide +kernel
theorem dX9_latestOf_8 : decode cX9_latestOf 8 = .ok (.ifCond .lt 31, 3) := by decide +kernel
theorem dX9_latestOf_39 : decode cX9_latestOf 39 = .ok (.iconst (-1), 1) := by decide +kernel
theorem dX9_latestOf_40 : decode cX9_latestOf 40 = .ok (.ireturn, 1) := by decide +kernel
theorem dX9_weighAll_0 : decode cX9_weighAll 0 = .ok (.lconst 0, 1) := by decide +kernel
theorem dX9_weighAll_1 : decode cX9_weighAll 1 = .ok (.lstore_n 1, 1) := by decide +kernel
theorem dX9_weighAll_2 : decode cX9_weighAll 2 = .ok (.iconst 0, 1) := by decide +kernel
theorem dX9_weighAll_3 : decode cX9_weighAll 3 = .ok (.istore_n 3, 1) := by decide +kernel
theorem dX9_weighAll_4 : decode cX9_weighAll 4 = .ok (.iload_n 3, 1) := by decide +kernel
theorem dX9_weighAll_5 : decode cX9_weighAll 5 = .ok (.aload_n 0, 1) := by decide +kernel
theorem dX9_weighAll_6 : decode cX9_weighAll 6 = .ok (.getfield 58, 3) := by decide +kernel
theorem dX9_weighAll_9 : decode cX9_weighAll 9 = .ok (.if_icmp .ge 80, 3) := by decide +kernel
theorem dX9_weighAll_89 : decode cX9_weighAll 89 = .ok (.lload_n 1, 1) := by decide +kernel
theorem dX9_weighAll_90 : decode cX9_weighAll 90 = .ok (.lreturn, 1) := by decide +kernel

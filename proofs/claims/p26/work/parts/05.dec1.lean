theorem dX6_count_113 : decode cX6_count 113 = .ok (.aload_n 0, 1) := by decide +kernel
theorem dX6_count_114 : decode cX6_count 114 = .ok (.getfield 26, 3) := by decide +kernel
theorem dX6_count_117 : decode cX6_count 117 = .ok (.getfield 255, 3) := by decide +kernel
theorem dX6_count_120 : decode cX6_count 120 = .ok (.ireturn, 1) := by decide +kernel
theorem dX6_count_121 : decode cX6_count 121 = .ok (.aload_n 0, 1) := by decide +kernel
theorem dX6_count_122 : decode cX6_count 122 = .ok (.getfield 26, 3) := by decide +kernel
theorem dX6_count_125 : decode cX6_count 125 = .ok (.invokevirtual 319, 3) := by decide +kernel
theorem dX6_count_128 : decode cX6_count 128 = .ok (.ireturn, 1) := by decide +kernel
theorem dX6_count_129 : decode cX6_count 129 = .ok (.aload_n 0, 1) := by decide +kernel
theorem dX6_count_130 : decode cX6_count 130 = .ok (.getfield 113, 3) := by decide +kernel
theorem dX6_count_133 : decode cX6_count 133 = .ok (.ireturn, 1) := by decide +kernel
theorem dX6_count_134 : decode cX6_count 134 = .ok (.aload_n 0, 1) := by decide +kernel
theorem dX6_count_135 : decode cX6_count 135 = .ok (.getfield 33, 3) := by decide +kernel
theorem dX6_count_138 : decode cX6_count 138 = .ok (.getfield 180, 3) := by decide +kernel
theorem dX6_count_141 : decode cX6_count 141 = .ok (.ireturn, 1) := by decide +kernel
theorem dX6_count_142 : decode cX6_count 142 = .ok (.aload_n 0, 1) := by decide +kernel
theorem dX6_count_143 : decode cX6_count 143 = .ok (.getfield 46, 3) := by decide +kernel
theorem dX6_count_146 : decode cX6_count 146 = .ok (.iconst 0, 1) := by decide +kernel
theorem dX6_count_147 : decode cX6_count 147 = .ok (.aaload, 1) := by decide +kernel
theorem dX6_count_148 : decode cX6_count 148 = .ok (.invokevirtual 322, 3) := by decide +kernel
theorem dX6_count_151 : decode cX6_count 151 = .ok (.ifCond .eq 8, 3) := by decide +kernel
theorem dX6_count_154 : decode cX6_count 154 = .ok (.bipush (-4), 2) := by decide +kernel
theorem dX6_count_156 : decode cX6_count 156 = .ok (.goto 12, 3) := by decide +kernel
theorem dX6_count_159 : decode cX6_count 159 = .ok (.aload_n 0, 1) := by decide +kernel
theorem dX6_count_160 : decode cX6_count 160 = .ok (.getfield 46, 3) := by decide +kernel
theorem dX6_count_163 : decode cX6_count 163 = .ok (.iconst 0, 1) := by decide +kernel
theorem dX6_count_164 : decode cX6_count 164 = .ok (.aaload, 1) := by decide +kernel
theorem dX6_count_165 : decode cX6_count 165 = .ok (.getfield 326, 3) := by decide +kernel
theorem dX6_count_168 : decode cX6_count 168 = .ok (.ireturn, 1) := by decide +kernel
theorem dX6_count_169 : decode cX6_count 169 = .ok (.iconst (-1), 1) := by decide +kernel
theorem dX6_count_170 : decode cX6_count 170 = .ok (.ireturn, 1) := by decide +kernel
theorem dX6_within_0 : decode cX6_within 0 = .ok (.iload_n 0, 1) := by decide +kernel
theorem dX6_within_1 : decode cX6_within 1 = .ok (.iload_n 1, 1) := by decide +kernel
theorem dX6_within_2 : decode cX6_within 2 = .ok (.if_icmp .lt 12, 3) := by decide +kernel
theorem dX6_within_5 : decode cX6_within 5 = .ok (.iload_n 0, 1) := by decide +kernel
theorem dX6_within_6 : decode cX6_within 6 = .ok (.iload_n 2, 1) := by decide +kernel
theorem dX6_within_7 : decode cX6_within 7 = .ok (.if_icmp .gt 7, 3) := by decide +kernel
theorem dX6_within_10 : decode cX6_within 10 = .ok (.iconst 1, 1) := by decide +kernel
theorem dX6_within_11 : decode cX6_within 11 = .ok (.goto 4, 3) := by decide +kernel
theorem dX6_within_14 : decode cX6_within 14 = .ok (.iconst 0, 1) := by decide +kernel
theorem dX6_within_15 : decode cX6_within 15 = .ok (.ireturn, 1) := by decide +kernel
theorem dX6_hasBit_0 : decode cX6_hasBit 0 = .ok (.iload_n 0, 1) := by decide +kernel
theorem dX6_hasBit_1 : decode cX6_hasBit 1 = .ok (.iload_n 1, 1) := by decide +kernel
theorem dX6_hasBit_2 : decode cX6_hasBit 2 = .ok (.ishr, 1) := by decide +kernel
theorem dX6_hasBit_3 : decode cX6_hasBit 3 = .ok (.iconst 1, 1) := by decide +kernel
theorem dX6_hasBit_4 : decode cX6_hasBit 4 = .ok (.iand, 1) := by decide +kernel
theorem dX6_hasBit_5 : decode cX6_hasBit 5 = .ok (.ifCond .eq 7, 3) := by decide +kernel
theorem dX6_hasBit_8 : decode cX6_hasBit 8 = .ok (.iconst 1, 1) := by decide +kernel
theorem dX6_hasBit_9 : decode cX6_hasBit 9 = .ok (.goto 4, 3) := by decide +kernel
theorem dX6_hasBit_12 : decode cX6_hasBit 12 = .ok (.iconst 0, 1) := by decide +kernel
theorem dX6_hasBit_13 : decode cX6_hasBit 13 = .ok (.ireturn, 1) := by decide +kernel
theorem dX6_oneIf_0 : decode cX6_oneIf 0 = .ok (.iload_n 0, 1) := by decide +kernel
theorem dX6_oneIf_1 : decode cX6_oneIf 1 = .ok (.ifCond .eq 7, 3) := by decide +kernel
theorem dX6_oneIf_4 : decode cX6_oneIf 4 = .ok (.iconst 1, 1) := by decide +kernel
theorem dX6_oneIf_5 : decode cX6_oneIf 5 = .ok (.goto 4, 3) := by decide +kernel
theorem dX6_oneIf_8 : decode cX6_oneIf 8 = .ok (.iconst 0, 1) := by decide +kernel
theorem dX6_oneIf_9 : decode cX6_oneIf 9 = .ok (.ireturn, 1) := by decide +kernel
theorem dX6_isName_0 : decode cX6_isName 0 = .ok (.iload_n 1, 1) := by decide +kernel
theorem dX6_isName_1 : decode cX6_isName 1 = .ok (.iconst 0, 1) := by decide +kernel
theorem dX6_isName_2 : decode cX6_isName 2 = .ok (.aload_n 0, 1) := by decide +kernel
theorem dX6_isName_3 : decode cX6_isName 3 = .ok (.getfield 12, 3) := by decide +kernel
theorem dX6_isName_6 : decode cX6_isName 6 = .ok (.getfield 161, 3) := by decide +kernel
theorem dX6_isName_9 : decode cX6_isName 9 = .ok (.iconst 1, 1) := by decide +kernel
theorem dX6_isName_10 : decode cX6_isName 10 = .ok (.isub, 1) := by decide +kernel
theorem dX6_isName_11 : decode cX6_isName 11 = .ok (.invokestatic 76, 3) := by decide +kernel
theorem dX6_isName_14 : decode cX6_isName 14 = .ok (.ireturn, 1) := by decide +kernel
theorem dX6_arePair_0 : decode cX6_arePair 0 = .ok (.aload_n 0, 1) := by decide +kernel
theorem dX6_arePair_1 : decode cX6_arePair 1 = .ok (.iload_n 1, 1) := by decide +kernel
theorem dX6_arePair_2 : decode cX6_arePair 2 = .ok (.invokevirtual 84, 3) := by decide +kernel
theorem dX6_arePair_5 : decode cX6_arePair 5 = .ok (.ifCond .eq 20, 3) := by decide +kernel
theorem dX6_arePair_8 : decode cX6_arePair 8 = .ok (.aload_n 0, 1) := by decide +kernel
theorem dX6_arePair_9 : decode cX6_arePair 9 = .ok (.iload_n 2, 1) := by decide +kernel
theorem dX6_arePair_10 : decode cX6_arePair 10 = .ok (.invokevirtual 84, 3) := by decide +kernel
theorem dX6_arePair_13 : decode cX6_arePair 13 = .ok (.ifCond .eq 12, 3) := by decide +kernel
theorem dX6_arePair_16 : decode cX6_arePair 16 = .ok (.iload_n 1, 1) := by decide +kernel
theorem dX6_arePair_17 : decode cX6_arePair 17 = .ok (.iload_n 2, 1) := by decide +kernel
theorem dX6_arePair_18 : decode cX6_arePair 18 = .ok (.if_icmp .eq 7, 3) := by decide +kernel
theorem dX6_arePair_21 : decode cX6_arePair 21 = .ok (.iconst 1, 1) := by decide +kernel
theorem dX6_arePair_22 : decode cX6_arePair 22 = .ok (.goto 4, 3) := by decide +kernel
theorem dX6_arePair_25 : decode cX6_arePair 25 = .ok (.iconst 0, 1) := by decide +kernel
theorem dX6_arePair_26 : decode cX6_arePair 26 = .ok (.ireturn, 1) := by decide +kernel
theorem dX6_isHeap_0 : decode cX6_isHeap 0 = .ok (.iload_n 1, 1) := by decide +kernel
theorem dX6_isHeap_1 : decode cX6_isHeap 1 = .ok (.iconst 0, 1) := by decide +kernel
theorem dX6_isHeap_2 : decode cX6_isHeap 2 = .ok (.iconst 1, 1) := by decide +kernel
theorem dX6_isHeap_3 : decode cX6_isHeap 3 = .ok (.aload_n 0, 1) := by decide +kernel
theorem dX6_isHeap_4 : decode cX6_isHeap 4 = .ok (.getfield 12, 3) := by decide +kernel
theorem dX6_isHeap_7 : decode cX6_isHeap 7 = .ok (.getfield 161, 3) := by decide +kernel
theorem dX6_isHeap_10 : decode cX6_isHeap 10 = .ok (.ishl, 1) := by decide +kernel
theorem dX6_isHeap_11 : decode cX6_isHeap 11 = .ok (.iconst 1, 1) := by decide +kernel
theorem dX6_isHeap_12 : decode cX6_isHeap 12 = .ok (.isub, 1) := by decide +kernel
theorem dX6_isHeap_13 : decode cX6_isHeap 13 = .ok (.invokestatic 76, 3) := by decide +kernel
theorem dX6_isHeap_16 : decode cX6_isHeap 16 = .ok (.ireturn, 1) := by decide +kernel
theorem dX6_isTie_0 : decode cX6_isTie 0 = .ok (.iload_n 1, 1) := by decide +kernel
theorem dX6_isTie_1 : decode cX6_isTie 1 = .ok (.iconst 0, 1) := by decide +kernel
theorem dX6_isTie_2 : decode cX6_isTie 2 = .ok (.aload_n 0, 1) := by decide +kernel
theorem dX6_isTie_3 : decode cX6_isTie 3 = .ok (.getfield 19, 3) := by decide +kernel
theorem dX6_isTie_6 : decode cX6_isTie 6 = .ok (.getfield 109, 3) := by decide +kernel
theorem dX6_isTie_9 : decode cX6_isTie 9 = .ok (.iconst 1, 1) := by decide +kernel
theorem dX6_isTie_10 : decode cX6_isTie 10 = .ok (.isub, 1) := by decide +kernel
theorem dX6_isTie_11 : decode cX6_isTie 11 = .ok (.invokestatic 76, 3) := by decide +kernel
theorem dX6_isTie_14 : decode cX6_isTie 14 = .ok (.ireturn, 1) := by decide +kernel
theorem dX6_isWord_0 : decode cX6_isWord 0 = .ok (.iload_n 1, 1) := by decide +kernel
theorem dX6_isWord_1 : decode cX6_isWord 1 = .ok (.iconst 0, 1) := by decide +kernel
theorem dX6_isWord_2 : decode cX6_isWord 2 = .ok (.aload_n 0, 1) := by decide +kernel
theorem dX6_isWord_3 : decode cX6_isWord 3 = .ok (.getfield 26, 3) := by decide +kernel
theorem dX6_isWord_6 : decode cX6_isWord 6 = .ok (.getfield 255, 3) := by decide +kernel
theorem dX6_isWord_9 : decode cX6_isWord 9 = .ok (.iconst 1, 1) := by decide +kernel
theorem dX6_isWord_10 : decode cX6_isWord 10 = .ok (.isub, 1) := by decide +kernel
theorem dX6_isWord_11 : decode cX6_isWord 11 = .ok (.invokestatic 76, 3) := by decide +kernel
theorem dX6_isWord_14 : decode cX6_isWord 14 = .ok (.ireturn, 1) := by decide +kernel
theorem dX6_isSheet_0 : decode cX6_isSheet 0 = .ok (.iload_n 0, 1) := by decide +kernel
theorem dX6_isSheet_1 : decode cX6_isSheet 1 = .ok (.iconst 0, 1) := by decide +kernel
theorem dX6_isSheet_2 : decode cX6_isSheet 2 = .ok (.iconst 3, 1) := by decide +kernel
theorem dX6_isSheet_3 : decode cX6_isSheet 3 = .ok (.invokestatic 76, 3) := by decide +kernel
theorem dX6_isSheet_6 : decode cX6_isSheet 6 = .ok (.ireturn, 1) := by decide +kernel
theorem dX6_isLane_0 : decode cX6_isLane 0 = .ok (.iload_n 0, 1) := by decide +kernel
theorem dX6_isLane_1 : decode cX6_isLane 1 = .ok (.iconst 0, 1) := by decide +kernel
theorem dX6_isLane_2 : decode cX6_isLane 2 = .ok (.iconst 2, 1) := by decide +kernel
theorem dX6_isLane_3 : decode cX6_isLane 3 = .ok (.invokestatic 76, 3) := by decide +kernel
theorem dX6_isLane_6 : decode cX6_isLane 6 = .ok (.ireturn, 1) := by decide +kernel
theorem dX6_isOffer_0 : decode cX6_isOffer 0 = .ok (.iload_n 0, 1) := by decide +kernel
theorem dX6_isOffer_1 : decode cX6_isOffer 1 = .ok (.iconst 1, 1) := by decide +kernel
theorem dX6_isOffer_2 : decode cX6_isOffer 2 = .ok (.sipush 999, 3) := by decide +kernel
theorem dX6_isOffer_5 : decode cX6_isOffer 5 = .ok (.invokestatic 76, 3) := by decide +kernel
theorem dX6_isOffer_8 : decode cX6_isOffer 8 = .ok (.ifCond .eq 17, 3) := by decide +kernel
theorem dX6_isOffer_11 : decode cX6_isOffer 11 = .ok (.iload_n 1, 1) := by decide +kernel
theorem dX6_isOffer_12 : decode cX6_isOffer 12 = .ok (.iconst 0, 1) := by decide +kernel
theorem dX6_isOffer_13 : decode cX6_isOffer 13 = .ok (.bipush 99, 2) := by decide +kernel
theorem dX6_isOffer_15 : decode cX6_isOffer 15 = .ok (.invokestatic 76, 3) := by decide +kernel
theorem dX6_isOffer_18 : decode cX6_isOffer 18 = .ok (.ifCond .eq 7, 3) := by decide +kernel
theorem dX6_isOffer_21 : decode cX6_isOffer 21 = .ok (.iconst 1, 1) := by decide +kernel
theorem dX6_isOffer_22 : decode cX6_isOffer 22 = .ok (.goto 4, 3) := by decide +kernel
theorem dX6_isOffer_25 : decode cX6_isOffer 25 = .ok (.iconst 0, 1) := by decide +kernel
theorem dX6_isOffer_26 : decode cX6_isOffer 26 = .ok (.ireturn, 1) := by decide +kernel
theorem dX6_isFined_0 : decode cX6_isFined 0 = .ok (.aload_n 0, 1) := by decide +kernel
theorem dX6_isFined_1 : decode cX6_isFined 1 = .ok (.getfield 113, 3) := by decide +kernel
theorem dX6_isFined_4 : decode cX6_isFined 4 = .ok (.aload_n 0, 1) := by decide +kernel
theorem dX6_isFined_5 : decode cX6_isFined 5 = .ok (.getfield 12, 3) := by decide +kernel
theorem dX6_isFined_8 : decode cX6_isFined 8 = .ok (.getfield 149, 3) := by decide +kernel
theorem dX6_isFined_11 : decode cX6_isFined 11 = .ok (.iload_n 1, 1) := by decide +kernel
theorem dX6_isFined_12 : decode cX6_isFined 12 = .ok (.iaload, 1) := by decide +kernel
theorem dX6_isFined_13 : decode cX6_isFined 13 = .ok (.if_icmp .ge 7, 3) := by decide +kernel
theorem dX6_isFined_16 : decode cX6_isFined 16 = .ok (.iconst 1, 1) := by decide +kernel
theorem dX6_isFined_17 : decode cX6_isFined 17 = .ok (.goto 4, 3) := by decide +kernel
theorem dX6_isFined_20 : decode cX6_isFined 20 = .ok (.iconst 0, 1) := by decide +kernel
theorem dX6_isFined_21 : decode cX6_isFined 21 = .ok (.ireturn, 1) := by decide +kernel
theorem dX6_isPlain_0 : decode cX6_isPlain 0 = .ok (.aload_n 0, 1) := by decide +kernel
theorem dX6_isPlain_1 : decode cX6_isPlain 1 = .ok (.getfield 12, 3) := by decide +kernel
theorem dX6_isPlain_4 : decode cX6_isPlain 4 = .ok (.getfield 88, 3) := by decide +kernel
theorem dX6_isPlain_7 : decode cX6_isPlain 7 = .ok (.iload_n 1, 1) := by decide +kernel
theorem dX6_isPlain_8 : decode cX6_isPlain 8 = .ok (.baload, 1) := by decide +kernel
theorem dX6_isPlain_9 : decode cX6_isPlain 9 = .ok (.ifCond .ne 19, 3) := by decide +kernel
theorem dX6_isPlain_12 : decode cX6_isPlain 12 = .ok (.aload_n 0, 1) := by decide +kernel
theorem dX6_isPlain_13 : decode cX6_isPlain 13 = .ok (.getfield 12, 3) := by decide +kernel
theorem dX6_isPlain_16 : decode cX6_isPlain 16 = .ok (.getfield 96, 3) := by decide +kernel
theorem dX6_isPlain_19 : decode cX6_isPlain 19 = .ok (.iload_n 1, 1) := by decide +kernel
theorem dX6_isPlain_20 : decode cX6_isPlain 20 = .ok (.baload, 1) := by decide +kernel
theorem dX6_isPlain_21 : decode cX6_isPlain 21 = .ok (.ifCond .ne 7, 3) := by decide +kernel
theorem dX6_isPlain_24 : decode cX6_isPlain 24 = .ok (.iconst 1, 1) := by decide +kernel
theorem dX6_isPlain_25 : decode cX6_isPlain 25 = .ok (.goto 4, 3) := by decide +kernel
theorem dX6_isPlain_28 : decode cX6_isPlain 28 = .ok (.iconst 0, 1) := by decide +kernel
theorem dX6_isPlain_29 : decode cX6_isPlain 29 = .ok (.ireturn, 1) := by decide +kernel
theorem dX6_countTrue_0 : decode cX6_countTrue 0 = .ok (.iconst 0, 1) := by decide +kernel
theorem dX6_countTrue_1 : decode cX6_countTrue 1 = .ok (.istore_n 2, 1) := by decide +kernel
theorem dX6_countTrue_2 : decode cX6_countTrue 2 = .ok (.iconst 0, 1) := by decide +kernel
theorem dX6_countTrue_3 : decode cX6_countTrue 3 = .ok (.istore_n 3, 1) := by decide +kernel
theorem dX6_countTrue_4 : decode cX6_countTrue 4 = .ok (.iload_n 3, 1) := by decide +kernel
theorem dX6_countTrue_5 : decode cX6_countTrue 5 = .ok (.aload_n 0, 1) := by decide +kernel
theorem dX6_countTrue_6 : decode cX6_countTrue 6 = .ok (.getfield 12, 3) := by decide +kernel
theorem dX6_countTrue_9 : decode cX6_countTrue 9 = .ok (.getfield 161, 3) := by decide +kernel
theorem dX6_countTrue_12 : decode cX6_countTrue 12 = .ok (.if_icmp .ge 18, 3) := by decide +kernel
theorem dX6_countTrue_15 : decode cX6_countTrue 15 = .ok (.iload_n 2, 1) := by decide +kernel
theorem dX6_countTrue_16 : decode cX6_countTrue 16 = .ok (.aload_n 1, 1) := by decide +kernel
theorem dX6_countTrue_17 : decode cX6_countTrue 17 = .ok (.iload_n 3, 1) := by decide +kernel
theorem dX6_countTrue_18 : decode cX6_countTrue 18 = .ok (.baload, 1) := by decide +kernel
theorem dX6_countTrue_19 : decode cX6_countTrue 19 = .ok (.invokestatic 92, 3) := by decide +kernel
theorem dX6_countTrue_22 : decode cX6_countTrue 22 = .ok (.iadd, 1) := by decide +kernel
theorem dX6_countTrue_23 : decode cX6_countTrue 23 = .ok (.istore_n 2, 1) := by decide +kernel
theorem dX6_countTrue_24 : decode cX6_countTrue 24 = .ok (.iinc 3 1, 3) := by decide +kernel
theorem dX6_countTrue_27 : decode cX6_countTrue 27 = .ok (.goto (-23), 3) := by decide +kernel
theorem dX6_countTrue_30 : decode cX6_countTrue 30 = .ok (.iload_n 2, 1) := by decide +kernel
theorem dX6_countTrue_31 : decode cX6_countTrue 31 = .ok (.ireturn, 1) := by decide +kernel
theorem dX6_countFined_0 : decode cX6_countFined 0 = .ok (.iconst 0, 1) := by decide +kernel
theorem dX6_countFined_1 : decode cX6_countFined 1 = .ok (.istore_n 1, 1) := by decide +kernel
theorem dX6_countFined_2 : decode cX6_countFined 2 = .ok (.iconst 0, 1) := by decide +kernel
theorem dX6_countFined_3 : decode cX6_countFined 3 = .ok (.istore_n 2, 1) := by decide +kernel
theorem dX6_countFined_4 : decode cX6_countFined 4 = .ok (.iload_n 2, 1) := by decide +kernel
theorem dX6_countFined_5 : decode cX6_countFined 5 = .ok (.aload_n 0, 1) := by decide +kernel
theorem dX6_countFined_6 : decode cX6_countFined 6 = .ok (.getfield 12, 3) := by decide +kernel
theorem dX6_countFined_9 : decode cX6_countFined 9 = .ok (.getfield 161, 3) := by decide +kernel
theorem dX6_countFined_12 : decode cX6_countFined 12 = .ok (.if_icmp .ge 20, 3) := by decide +kernel
theorem dX6_countFined_15 : decode cX6_countFined 15 = .ok (.iload_n 1, 1) := by decide +kernel
theorem dX6_countFined_16 : decode cX6_countFined 16 = .ok (.aload_n 0, 1) := by decide +kernel
theorem dX6_countFined_17 : decode cX6_countFined 17 = .ok (.iload_n 2, 1) := by decide +kernel
theorem dX6_countFined_18 : decode cX6_countFined 18 = .ok (.invokevirtual 146, 3) := by decide +kernel
theorem dX6_countFined_21 : decode cX6_countFined 21 = .ok (.invokestatic 92, 3) := by decide +kernel
theorem dX6_countFined_24 : decode cX6_countFined 24 = .ok (.iadd, 1) := by decide +kernel
theorem dX6_countFined_25 : decode cX6_countFined 25 = .ok (.istore_n 1, 1) := by decide +kernel
theorem dX6_countFined_26 : decode cX6_countFined 26 = .ok (.iinc 2 1, 3) := by decide +kernel
theorem dX6_countFined_29 : decode cX6_countFined 29 = .ok (.goto (-25), 3) := by decide +kernel
theorem dX6_countFined_32 : decode cX6_countFined 32 = .ok (.iload_n 1, 1) := by decide +kernel
theorem dX6_countFined_33 : decode cX6_countFined 33 = .ok (.ireturn, 1) := by decide +kernel
theorem dX6_standingFor_0 : decode cX6_standingFor 0 = .ok (.iconst 0, 1) := by decide +kernel
theorem dX6_standingFor_1 : decode cX6_standingFor 1 = .ok (.istore_n 2, 1) := by decide +kernel
theorem dX6_standingFor_2 : decode cX6_standingFor 2 = .ok (.iconst 0, 1) := by decide +kernel
theorem dX6_standingFor_3 : decode cX6_standingFor 3 = .ok (.istore_n 3, 1) := by decide +kernel
theorem dX6_standingFor_4 : decode cX6_standingFor 4 = .ok (.iload_n 3, 1) := by decide +kernel
theorem dX6_standingFor_5 : decode cX6_standingFor 5 = .ok (.aload_n 0, 1) := by decide +kernel
theorem dX6_standingFor_6 : decode cX6_standingFor 6 = .ok (.getfield 19, 3) := by decide +kernel
theorem dX6_standingFor_9 : decode cX6_standingFor 9 = .ok (.getfield 109, 3) := by decide +kernel
theorem dX6_standingFor_12 : decode cX6_standingFor 12 = .ok (.if_icmp .ge 66, 3) := by decide +kernel
theorem dX6_standingFor_15 : decode cX6_standingFor 15 = .ok (.aload_n 0, 1) := by decide +kernel
theorem dX6_standingFor_16 : decode cX6_standingFor 16 = .ok (.getfield 19, 3) := by decide +kernel
theorem dX6_standingFor_19 : decode cX6_standingFor 19 = .ok (.getfield 122, 3) := by decide +kernel
theorem dX6_standingFor_22 : decode cX6_standingFor 22 = .ok (.iload_n 3, 1) := by decide +kernel
theorem dX6_standingFor_23 : decode cX6_standingFor 23 = .ok (.iaload, 1) := by decide +kernel
theorem dX6_standingFor_24 : decode cX6_standingFor 24 = .ok (.istore 4, 2) := by decide +kernel
theorem dX6_standingFor_26 : decode cX6_standingFor 26 = .ok (.aload_n 0, 1) := by decide +kernel
theorem dX6_standingFor_27 : decode cX6_standingFor 27 = .ok (.getfield 19, 3) := by decide +kernel
theorem dX6_standingFor_30 : decode cX6_standingFor 30 = .ok (.getfield 131, 3) := by decide +kernel
theorem dX6_standingFor_33 : decode cX6_standingFor 33 = .ok (.iload_n 3, 1) := by decide +kernel
theorem dX6_standingFor_34 : decode cX6_standingFor 34 = .ok (.iaload, 1) := by decide +kernel
theorem dX6_standingFor_35 : decode cX6_standingFor 35 = .ok (.iconst 2, 1) := by decide +kernel
theorem dX6_standingFor_36 : decode cX6_standingFor 36 = .ok (.if_icmp .ne 36, 3) := by decide +kernel
theorem dX6_standingFor_39 : decode cX6_standingFor 39 = .ok (.aload_n 0, 1) := by decide +kernel
theorem dX6_standingFor_40 : decode cX6_standingFor 40 = .ok (.getfield 19, 3) := by decide +kernel
theorem dX6_standingFor_43 : decode cX6_standingFor 43 = .ok (.getfield 125, 3) := by decide +kernel
theorem dX6_standingFor_46 : decode cX6_standingFor 46 = .ok (.iload_n 3, 1) := by decide +kernel
theorem dX6_standingFor_47 : decode cX6_standingFor 47 = .ok (.iaload, 1) := by decide +kernel
theorem dX6_standingFor_48 : decode cX6_standingFor 48 = .ok (.iload_n 1, 1) := by decide +kernel
theorem dX6_standingFor_49 : decode cX6_standingFor 49 = .ok (.if_icmp .ne 23, 3) := by decide +kernel
theorem dX6_standingFor_52 : decode cX6_standingFor 52 = .ok (.aload_n 0, 1) := by decide +kernel
theorem dX6_standingFor_53 : decode cX6_standingFor 53 = .ok (.getfield 12, 3) := by decide +kernel
theorem dX6_standingFor_56 : decode cX6_standingFor 56 = .ok (.getfield 96, 3) := by decide +kernel
theorem dX6_standingFor_59 : decode cX6_standingFor 59 = .ok (.iload 4, 2) := by decide +kernel
theorem dX6_standingFor_61 : decode cX6_standingFor 61 = .ok (.baload, 1) := by decide +kernel
theorem dX6_standingFor_62 : decode cX6_standingFor 62 = .ok (.ifCond .ne 10, 3) := by decide +kernel
theorem dX6_standingFor_65 : decode cX6_standingFor 65 = .ok (.iload_n 2, 1) := by decide +kernel
theorem dX6_standingFor_66 : decode cX6_standingFor 66 = .ok (.iconst 1, 1) := by decide +kernel
theorem dX6_standingFor_67 : decode cX6_standingFor 67 = .ok (.iload 4, 2) := by decide +kernel
theorem dX6_standingFor_69 : decode cX6_standingFor 69 = .ok (.ishl, 1) := by decide +kernel
theorem dX6_standingFor_70 : decode cX6_standingFor 70 = .ok (.ior, 1) := by decide +kernel
theorem dX6_standingFor_71 : decode cX6_standingFor 71 = .ok (.istore_n 2, 1) := by decide +kernel
theorem dX6_standingFor_72 : decode cX6_standingFor 72 = .ok (.iinc 3 1, 3) := by decide +kernel
theorem dX6_standingFor_75 : decode cX6_standingFor 75 = .ok (.goto (-71), 3) := by decide +kernel
theorem dX6_standingFor_78 : decode cX6_standingFor 78 = .ok (.iload_n 2, 1) := by decide +kernel
theorem dX6_standingFor_79 : decode cX6_standingFor 79 = .ok (.ireturn, 1) := by decide +kernel
theorem dX6_pledgeRoom_0 : decode cX6_pledgeRoom 0 = .ok (.aload_n 0, 1) := by decide +kernel
theorem dX6_pledgeRoom_1 : decode cX6_pledgeRoom 1 = .ok (.getfield 12, 3) := by decide +kernel
theorem dX6_pledgeRoom_4 : decode cX6_pledgeRoom 4 = .ok (.getfield 99, 3) := by decide +kernel
theorem dX6_pledgeRoom_7 : decode cX6_pledgeRoom 7 = .ok (.iload_n 1, 1) := by decide +kernel
theorem dX6_pledgeRoom_8 : decode cX6_pledgeRoom 8 = .ok (.iaload, 1) := by decide +kernel
theorem dX6_pledgeRoom_9 : decode cX6_pledgeRoom 9 = .ok (.aload_n 0, 1) := by decide +kernel
theorem dX6_pledgeRoom_10 : decode cX6_pledgeRoom 10 = .ok (.getfield 50, 3) := by decide +kernel
theorem dX6_pledgeRoom_13 : decode cX6_pledgeRoom 13 = .ok (.bipush 7, 2) := by decide +kernel
theorem dX6_pledgeRoom_15 : decode cX6_pledgeRoom 15 = .ok (.iaload, 1) := by decide +kernel
theorem dX6_pledgeRoom_16 : decode cX6_pledgeRoom 16 = .ok (.imul, 1) := by decide +kernel
theorem dX6_pledgeRoom_17 : decode cX6_pledgeRoom 17 = .ok (.bipush 100, 2) := by decide +kernel
theorem dX6_pledgeRoom_19 : decode cX6_pledgeRoom 19 = .ok (.idiv, 1) := by decide +kernel
theorem dX6_pledgeRoom_20 : decode cX6_pledgeRoom 20 = .ok (.ireturn, 1) := by decide +kernel
theorem dX6_givenTo_0 : decode cX6_givenTo 0 = .ok (.aload_n 0, 1) := by decide +kernel
theorem dX6_givenTo_1 : decode cX6_givenTo 1 = .ok (.getfield 12, 3) := by decide +kernel
theorem dX6_givenTo_4 : decode cX6_givenTo 4 = .ok (.getfield 96, 3) := by decide +kernel
theorem dX6_givenTo_7 : decode cX6_givenTo 7 = .ok (.iload_n 1, 1) := by decide +kernel
theorem dX6_givenTo_8 : decode cX6_givenTo 8 = .ok (.baload, 1) := by decide +kernel
theorem dX6_givenTo_9 : decode cX6_givenTo 9 = .ok (.ifCond .eq 5, 3) := by decide +kernel
theorem dX6_givenTo_12 : decode cX6_givenTo 12 = .ok (.iconst 0, 1) := by decide +kernel
theorem dX6_givenTo_13 : decode cX6_givenTo 13 = .ok (.ireturn, 1) := by decide +kernel
theorem dX6_givenTo_14 : decode cX6_givenTo 14 = .ok (.aload_n 0, 1) := by decide +kernel
theorem dX6_givenTo_15 : decode cX6_givenTo 15 = .ok (.iload_n 1, 1) := by decide +kernel
theorem dX6_givenTo_16 : decode cX6_givenTo 16 = .ok (.invokevirtual 102, 3) := by decide +kernel
theorem dX6_givenTo_19 : decode cX6_givenTo 19 = .ok (.aload_n 0, 1) := by decide +kernel
theorem dX6_givenTo_20 : decode cX6_givenTo 20 = .ok (.getfield 12, 3) := by decide +kernel
theorem dX6_givenTo_23 : decode cX6_givenTo 23 = .ok (.getfield 88, 3) := by decide +kernel
theorem dX6_givenTo_26 : decode cX6_givenTo 26 = .ok (.iload_n 1, 1) := by decide +kernel
theorem dX6_givenTo_27 : decode cX6_givenTo 27 = .ok (.baload, 1) := by decide +kernel
theorem dX6_givenTo_28 : decode cX6_givenTo 28 = .ok (.ifCond .eq 13, 3) := by decide +kernel
theorem dX6_givenTo_31 : decode cX6_givenTo 31 = .ok (.aload_n 0, 1) := by decide +kernel
theorem dX6_givenTo_32 : decode cX6_givenTo 32 = .ok (.getfield 50, 3) := by decide +kernel
theorem dX6_givenTo_35 : decode cX6_givenTo 35 = .ok (.bipush 6, 2) := by decide +kernel
theorem dX6_givenTo_37 : decode cX6_givenTo 37 = .ok (.iaload, 1) := by decide +kernel
theorem dX6_givenTo_38 : decode cX6_givenTo 38 = .ok (.goto 4, 3) := by decide +kernel
theorem dX6_givenTo_41 : decode cX6_givenTo 41 = .ok (.iconst 0, 1) := by decide +kernel
theorem dX6_givenTo_42 : decode cX6_givenTo 42 = .ok (.iadd, 1) := by decide +kernel
theorem dX6_givenTo_43 : decode cX6_givenTo 43 = .ok (.ireturn, 1) := by decide +kernel
theorem dX6_faded_0 : decode cX6_faded 0 = .ok (.iconst 0, 1) := by decide +kernel
theorem dX6_faded_1 : decode cX6_faded 1 = .ok (.bipush 100, 2) := by decide +kernel
theorem dX6_faded_3 : decode cX6_faded 3 = .ok (.iload_n 1, 1) := by decide +kernel
theorem dX6_faded_4 : decode cX6_faded 4 = .ok (.iload_n 2, 1) := by decide +kernel
theorem dX6_faded_5 : decode cX6_faded 5 = .ok (.imul, 1) := by decide +kernel
theorem dX6_faded_6 : decode cX6_faded 6 = .ok (.bipush 100, 2) := by decide +kernel
theorem dX6_faded_8 : decode cX6_faded 8 = .ok (.idiv, 1) := by decide +kernel
theorem dX6_faded_9 : decode cX6_faded 9 = .ok (.isub, 1) := by decide +kernel
theorem dX6_faded_10 : decode cX6_faded 10 = .ok (.invokestatic 165, 3) := by decide +kernel
theorem dX6_faded_13 : decode cX6_faded 13 = .ok (.istore_n 3, 1) := by decide +kernel
theorem dX6_faded_14 : decode cX6_faded 14 = .ok (.iload_n 0, 1) := by decide +kernel
theorem dX6_faded_15 : decode cX6_faded 15 = .ok (.iload_n 3, 1) := by decide +kernel
theorem dX6_faded_16 : decode cX6_faded 16 = .ok (.imul, 1) := by decide +kernel
theorem dX6_faded_17 : decode cX6_faded 17 = .ok (.bipush 100, 2) := by decide +kernel
theorem dX6_faded_19 : decode cX6_faded 19 = .ok (.idiv, 1) := by decide +kernel
theorem dX6_faded_20 : decode cX6_faded 20 = .ok (.ireturn, 1) := by decide +kernel
theorem dX6_hasMadeEnd_0 : decode cX6_hasMadeEnd 0 = .ok (.aload_n 0, 1) := by decide +kernel
theorem dX6_hasMadeEnd_1 : decode cX6_hasMadeEnd 1 = .ok (.getfield 12, 3) := by decide +kernel
theorem dX6_hasMadeEnd_4 : decode cX6_hasMadeEnd 4 = .ok (.getfield 96, 3) := by decide +kernel
theorem dX6_hasMadeEnd_7 : decode cX6_hasMadeEnd 7 = .ok (.aload_n 0, 1) := by decide +kernel
theorem dX6_hasMadeEnd_8 : decode cX6_hasMadeEnd 8 = .ok (.getfield 19, 3) := by decide +kernel
theorem dX6_hasMadeEnd_11 : decode cX6_hasMadeEnd 11 = .ok (.getfield 122, 3) := by decide +kernel
theorem dX6_hasMadeEnd_14 : decode cX6_hasMadeEnd 14 = .ok (.iload_n 1, 1) := by decide +kernel
theorem dX6_hasMadeEnd_15 : decode cX6_hasMadeEnd 15 = .ok (.iaload, 1) := by decide +kernel
theorem dX6_hasMadeEnd_16 : decode cX6_hasMadeEnd 16 = .ok (.baload, 1) := by decide +kernel
theorem dX6_hasMadeEnd_17 : decode cX6_hasMadeEnd 17 = .ok (.ifCond .ne 23, 3) := by decide +kernel
theorem dX6_hasMadeEnd_20 : decode cX6_hasMadeEnd 20 = .ok (.aload_n 0, 1) := by decide +kernel
theorem dX6_hasMadeEnd_21 : decode cX6_hasMadeEnd 21 = .ok (.getfield 12, 3) := by decide +kernel
theorem dX6_hasMadeEnd_24 : decode cX6_hasMadeEnd 24 = .ok (.getfield 96, 3) := by decide +kernel
theorem dX6_hasMadeEnd_27 : decode cX6_hasMadeEnd 27 = .ok (.aload_n 0, 1) := by decide +kernel
theorem dX6_hasMadeEnd_28 : decode cX6_hasMadeEnd 28 = .ok (.getfield 19, 3) := by decide +kernel
theorem dX6_hasMadeEnd_31 : decode cX6_hasMadeEnd 31 = .ok (.getfield 125, 3) := by decide +kernel
theorem dX6_hasMadeEnd_34 : decode cX6_hasMadeEnd 34 = .ok (.iload_n 1, 1) := by decide +kernel
theorem dX6_hasMadeEnd_35 : decode cX6_hasMadeEnd 35 = .ok (.iaload, 1) := by decide +kernel
theorem dX6_hasMadeEnd_36 : decode cX6_hasMadeEnd 36 = .ok (.baload, 1) := by decide +kernel
theorem dX6_hasMadeEnd_37 : decode cX6_hasMadeEnd 37 = .ok (.ifCond .eq 7, 3) := by decide +kernel
theorem dX6_hasMadeEnd_40 : decode cX6_hasMadeEnd 40 = .ok (.iconst 1, 1) := by decide +kernel
theorem dX6_hasMadeEnd_41 : decode cX6_hasMadeEnd 41 = .ok (.goto 4, 3) := by decide +kernel
theorem dX6_hasMadeEnd_44 : decode cX6_hasMadeEnd 44 = .ok (.iconst 0, 1) := by decide +kernel
theorem dX6_hasMadeEnd_45 : decode cX6_hasMadeEnd 45 = .ok (.ireturn, 1) := by decide +kernel
theorem dX6_roomOf_0 : decode cX6_roomOf 0 = .ok (.aload_n 0, 1) := by decide +kernel
theorem dX6_roomOf_1 : decode cX6_roomOf 1 = .ok (.iload_n 1, 1) := by decide +kernel
theorem dX6_roomOf_2 : decode cX6_roomOf 2 = .ok (.invokevirtual 140, 3) := by decide +kernel
theorem dX6_roomOf_5 : decode cX6_roomOf 5 = .ok (.ifCond .eq 5, 3) := by decide +kernel
theorem dX6_roomOf_8 : decode cX6_roomOf 8 = .ok (.iconst 0, 1) := by decide +kernel
theorem dX6_roomOf_9 : decode cX6_roomOf 9 = .ok (.ireturn, 1) := by decide +kernel
theorem dX6_roomOf_10 : decode cX6_roomOf 10 = .ok (.aload_n 0, 1) := by decide +kernel
theorem dX6_roomOf_11 : decode cX6_roomOf 11 = .ok (.getfield 19, 3) := by decide +kernel
theorem dX6_roomOf_14 : decode cX6_roomOf 14 = .ok (.getfield 128, 3) := by decide +kernel
theorem dX6_roomOf_17 : decode cX6_roomOf 17 = .ok (.iload_n 1, 1) := by decide +kernel
theorem dX6_roomOf_18 : decode cX6_roomOf 18 = .ok (.iaload, 1) := by decide +kernel
theorem dX6_roomOf_19 : decode cX6_roomOf 19 = .ok (.aload_n 0, 1) := by decide +kernel
theorem dX6_roomOf_20 : decode cX6_roomOf 20 = .ok (.getfield 50, 3) := by decide +kernel
theorem dX6_roomOf_23 : decode cX6_roomOf 23 = .ok (.aload_n 0, 1) := by decide +kernel
theorem dX6_roomOf_24 : decode cX6_roomOf 24 = .ok (.getfield 19, 3) := by decide +kernel
theorem dX6_roomOf_27 : decode cX6_roomOf 27 = .ok (.getfield 131, 3) := by decide +kernel
theorem dX6_roomOf_30 : decode cX6_roomOf 30 = .ok (.iload_n 1, 1) := by decide +kernel
theorem dX6_roomOf_31 : decode cX6_roomOf 31 = .ok (.iaload, 1) := by decide +kernel
theorem dX6_roomOf_32 : decode cX6_roomOf 32 = .ok (.iaload, 1) := by decide +kernel
theorem dX6_roomOf_33 : decode cX6_roomOf 33 = .ok (.imul, 1) := by decide +kernel
theorem dX6_roomOf_34 : decode cX6_roomOf 34 = .ok (.bipush 100, 2) := by decide +kernel
theorem dX6_roomOf_36 : decode cX6_roomOf 36 = .ok (.idiv, 1) := by decide +kernel
theorem dX6_roomOf_37 : decode cX6_roomOf 37 = .ok (.aload_n 0, 1) := by decide +kernel
theorem dX6_roomOf_38 : decode cX6_roomOf 38 = .ok (.getfield 50, 3) := by decide +kernel
theorem dX6_roomOf_41 : decode cX6_roomOf 41 = .ok (.iconst 4, 1) := by decide +kernel
theorem dX6_roomOf_42 : decode cX6_roomOf 42 = .ok (.iaload, 1) := by decide +kernel
theorem dX6_roomOf_43 : decode cX6_roomOf 43 = .ok (.aload_n 0, 1) := by decide +kernel
theorem dX6_roomOf_44 : decode cX6_roomOf 44 = .ok (.getfield 113, 3) := by decide +kernel
theorem dX6_roomOf_47 : decode cX6_roomOf 47 = .ok (.aload_n 0, 1) := by decide +kernel
theorem dX6_roomOf_48 : decode cX6_roomOf 48 = .ok (.getfield 19, 3) := by decide +kernel
theorem dX6_roomOf_51 : decode cX6_roomOf 51 = .ok (.getfield 134, 3) := by decide +kernel
theorem dX6_roomOf_54 : decode cX6_roomOf 54 = .ok (.iload_n 1, 1) := by decide +kernel
theorem dX6_roomOf_55 : decode cX6_roomOf 55 = .ok (.iaload, 1) := by decide +kernel
theorem dX6_roomOf_56 : decode cX6_roomOf 56 = .ok (.isub, 1) := by decide +kernel
theorem dX6_roomOf_57 : decode cX6_roomOf 57 = .ok (.invokestatic 329, 3) := by decide +kernel
theorem dX6_roomOf_60 : decode cX6_roomOf 60 = .ok (.istore_n 2, 1) := by decide +kernel
theorem dX6_roomOf_61 : decode cX6_roomOf 61 = .ok (.aload_n 0, 1) := by decide +kernel
theorem dX6_roomOf_62 : decode cX6_roomOf 62 = .ok (.aload_n 0, 1) := by decide +kernel
theorem dX6_roomOf_63 : decode cX6_roomOf 63 = .ok (.getfield 19, 3) := by decide +kernel
theorem dX6_roomOf_66 : decode cX6_roomOf 66 = .ok (.getfield 122, 3) := by decide +kernel
theorem dX6_roomOf_69 : decode cX6_roomOf 69 = .ok (.iload_n 1, 1) := by decide +kernel
theorem dX6_roomOf_70 : decode cX6_roomOf 70 = .ok (.iaload, 1) := by decide +kernel
theorem dX6_roomOf_71 : decode cX6_roomOf 71 = .ok (.invokevirtual 146, 3) := by decide +kernel
theorem dX6_roomOf_74 : decode cX6_roomOf 74 = .ok (.ifCond .ne 19, 3) := by decide +kernel
theorem dX6_roomOf_77 : decode cX6_roomOf 77 = .ok (.aload_n 0, 1) := by decide +kernel
theorem dX6_roomOf_78 : decode cX6_roomOf 78 = .ok (.aload_n 0, 1) := by decide +kernel
theorem dX6_roomOf_79 : decode cX6_roomOf 79 = .ok (.getfield 19, 3) := by decide +kernel
theorem dX6_roomOf_82 : decode cX6_roomOf 82 = .ok (.getfield 125, 3) := by decide +kernel
theorem dX6_roomOf_85 : decode cX6_roomOf 85 = .ok (.iload_n 1, 1) := by decide +kernel
theorem dX6_roomOf_86 : decode cX6_roomOf 86 = .ok (.iaload, 1) := by decide +kernel
theorem dX6_roomOf_87 : decode cX6_roomOf 87 = .ok (.invokevirtual 146, 3) := by decide +kernel
theorem dX6_roomOf_90 : decode cX6_roomOf 90 = .ok (.ifCond .eq 9, 3) := by decide +kernel
theorem dX6_roomOf_93 : decode cX6_roomOf 93 = .ok (.iload_n 2, 1) := by decide +kernel
theorem dX6_roomOf_94 : decode cX6_roomOf 94 = .ok (.iconst 2, 1) := by decide +kernel
theorem dX6_roomOf_95 : decode cX6_roomOf 95 = .ok (.idiv, 1) := by decide +kernel
theorem dX6_roomOf_96 : decode cX6_roomOf 96 = .ok (.goto 4, 3) := by decide +kernel
theorem dX6_roomOf_99 : decode cX6_roomOf 99 = .ok (.iload_n 2, 1) := by decide +kernel
theorem dX6_roomOf_100 : decode cX6_roomOf 100 = .ok (.ireturn, 1) := by decide +kernel
theorem dX6_openTies_0 : decode cX6_openTies 0 = .ok (.iconst 0, 1) := by decide +kernel
theorem dX6_openTies_1 : decode cX6_openTies 1 = .ok (.istore_n 2, 1) := by decide +kernel
theorem dX6_openTies_2 : decode cX6_openTies 2 = .ok (.iconst 0, 1) := by decide +kernel
theorem dX6_openTies_3 : decode cX6_openTies 3 = .ok (.istore_n 3, 1) := by decide +kernel
theorem dX6_openTies_4 : decode cX6_openTies 4 = .ok (.iload_n 3, 1) := by decide +kernel
theorem dX6_openTies_5 : decode cX6_openTies 5 = .ok (.aload_n 0, 1) := by decide +kernel
theorem dX6_openTies_6 : decode cX6_openTies 6 = .ok (.getfield 19, 3) := by decide +kernel
theorem dX6_openTies_9 : decode cX6_openTies 9 = .ok (.getfield 109, 3) := by decide +kernel
theorem dX6_openTies_12 : decode cX6_openTies 12 = .ok (.if_icmp .ge 72, 3) := by decide +kernel
theorem dX6_openTies_15 : decode cX6_openTies 15 = .ok (.iload_n 1, 1) := by decide +kernel
theorem dX6_openTies_16 : decode cX6_openTies 16 = .ok (.aload_n 0, 1) := by decide +kernel
theorem dX6_openTies_17 : decode cX6_openTies 17 = .ok (.getfield 19, 3) := by decide +kernel
theorem dX6_openTies_20 : decode cX6_openTies 20 = .ok (.getfield 122, 3) := by decide +kernel
theorem dX6_openTies_23 : decode cX6_openTies 23 = .ok (.iload_n 3, 1) := by decide +kernel
theorem dX6_openTies_24 : decode cX6_openTies 24 = .ok (.iaload, 1) := by decide +kernel
theorem dX6_openTies_25 : decode cX6_openTies 25 = .ok (.invokestatic 162, 3) := by decide +kernel
theorem dX6_openTies_28 : decode cX6_openTies 28 = .ok (.ifCond .ne 19, 3) := by decide +kernel
theorem dX6_openTies_31 : decode cX6_openTies 31 = .ok (.iload_n 1, 1) := by decide +kernel
theorem dX6_openTies_32 : decode cX6_openTies 32 = .ok (.aload_n 0, 1) := by decide +kernel
theorem dX6_openTies_33 : decode cX6_openTies 33 = .ok (.getfield 19, 3) := by decide +kernel
theorem dX6_openTies_36 : decode cX6_openTies 36 = .ok (.getfield 125, 3) := by decide +kernel
theorem dX6_openTies_39 : decode cX6_openTies 39 = .ok (.iload_n 3, 1) := by decide +kernel
theorem dX6_openTies_40 : decode cX6_openTies 40 = .ok (.iaload, 1) := by decide +kernel
theorem dX6_openTies_41 : decode cX6_openTies 41 = .ok (.invokestatic 162, 3) := by decide +kernel
theorem dX6_openTies_44 : decode cX6_openTies 44 = .ok (.ifCond .eq 7, 3) := by decide +kernel
theorem dX6_openTies_47 : decode cX6_openTies 47 = .ok (.iconst 1, 1) := by decide +kernel
theorem dX6_openTies_48 : decode cX6_openTies 48 = .ok (.goto 4, 3) := by decide +kernel
theorem dX6_openTies_51 : decode cX6_openTies 51 = .ok (.iconst 0, 1) := by decide +kernel
theorem dX6_openTies_52 : decode cX6_openTies 52 = .ok (.istore 4, 2) := by decide +kernel
theorem dX6_openTies_54 : decode cX6_openTies 54 = .ok (.iload_n 2, 1) := by decide +kernel
theorem dX6_openTies_55 : decode cX6_openTies 55 = .ok (.iload 4, 2) := by decide +kernel
theorem dX6_openTies_57 : decode cX6_openTies 57 = .ok (.ifCond .eq 15, 3) := by decide +kernel
theorem dX6_openTies_60 : decode cX6_openTies 60 = .ok (.aload_n 0, 1) := by decide +kernel
theorem dX6_openTies_61 : decode cX6_openTies 61 = .ok (.iload_n 3, 1) := by decide +kernel
theorem dX6_openTies_62 : decode cX6_openTies 62 = .ok (.invokevirtual 137, 3) := by decide +kernel
theorem dX6_openTies_65 : decode cX6_openTies 65 = .ok (.ifCond .le 7, 3) := by decide +kernel
theorem dX6_openTies_68 : decode cX6_openTies 68 = .ok (.iconst 1, 1) := by decide +kernel
theorem dX6_openTies_69 : decode cX6_openTies 69 = .ok (.goto 4, 3) := by decide +kernel
theorem dX6_openTies_72 : decode cX6_openTies 72 = .ok (.iconst 0, 1) := by decide +kernel
theorem dX6_openTies_73 : decode cX6_openTies 73 = .ok (.invokestatic 92, 3) := by decide +kernel
theorem dX6_openTies_76 : decode cX6_openTies 76 = .ok (.iadd, 1) := by decide +kernel
theorem dX6_openTies_77 : decode cX6_openTies 77 = .ok (.istore_n 2, 1) := by decide +kernel
theorem dX6_openTies_78 : decode cX6_openTies 78 = .ok (.iinc 3 1, 3) := by decide +kernel
theorem dX6_openTies_81 : decode cX6_openTies 81 = .ok (.goto (-77), 3) := by decide +kernel
theorem dX6_openTies_84 : decode cX6_openTies 84 = .ok (.iload_n 2, 1) := by decide +kernel
theorem dX6_openTies_85 : decode cX6_openTies 85 = .ok (.ireturn, 1) := by decide +kernel
theorem dX6_layFlow_0 : decode cX6_layFlow 0 = .ok (.aload_n 0, 1) := by decide +kernel
theorem dX6_layFlow_1 : decode cX6_layFlow 1 = .ok (.getfield 40, 3) := by decide +kernel
theorem dX6_layFlow_4 : decode cX6_layFlow 4 = .ok (.invokevirtual 332, 3) := by decide +kernel
theorem dX6_layFlow_7 : decode cX6_layFlow 7 = .ok (.iconst 0, 1) := by decide +kernel
theorem dX6_layFlow_8 : decode cX6_layFlow 8 = .ok (.istore_n 1, 1) := by decide +kernel
theorem dX6_layFlow_9 : decode cX6_layFlow 9 = .ok (.iload_n 1, 1) := by decide +kernel
theorem dX6_layFlow_10 : decode cX6_layFlow 10 = .ok (.aload_n 0, 1) := by decide +kernel
theorem dX6_layFlow_11 : decode cX6_layFlow 11 = .ok (.getfield 12, 3) := by decide +kernel
theorem dX6_layFlow_14 : decode cX6_layFlow 14 = .ok (.getfield 161, 3) := by decide +kernel
theorem dX6_layFlow_17 : decode cX6_layFlow 17 = .ok (.if_icmp .ge 22, 3) := by decide +kernel
theorem dX6_layFlow_20 : decode cX6_layFlow 20 = .ok (.aload_n 0, 1) := by decide +kernel
theorem dX6_layFlow_21 : decode cX6_layFlow 21 = .ok (.getfield 40, 3) := by decide +kernel
theorem dX6_layFlow_24 : decode cX6_layFlow 24 = .ok (.iload_n 1, 1) := by decide +kernel
theorem dX6_layFlow_25 : decode cX6_layFlow 25 = .ok (.aload_n 0, 1) := by decide +kernel
theorem dX6_layFlow_26 : decode cX6_layFlow 26 = .ok (.iload_n 1, 1) := by decide +kernel
theorem dX6_layFlow_27 : decode cX6_layFlow 27 = .ok (.invokevirtual 152, 3) := by decide +kernel
theorem dX6_layFlow_30 : decode cX6_layFlow 30 = .ok (.invokevirtual 335, 3) := by decide +kernel
theorem dX6_layFlow_33 : decode cX6_layFlow 33 = .ok (.iinc 1 1, 3) := by decide +kernel
theorem dX6_layFlow_36 : decode cX6_layFlow 36 = .ok (.goto (-27), 3) := by decide +kernel
theorem dX6_layFlow_39 : decode cX6_layFlow 39 = .ok (.iconst 0, 1) := by decide +kernel
theorem dX6_layFlow_40 : decode cX6_layFlow 40 = .ok (.istore_n 1, 1) := by decide +kernel
theorem dX6_layFlow_41 : decode cX6_layFlow 41 = .ok (.iload_n 1, 1) := by decide +kernel
theorem dX6_layFlow_42 : decode cX6_layFlow 42 = .ok (.aload_n 0, 1) := by decide +kernel
theorem dX6_layFlow_43 : decode cX6_layFlow 43 = .ok (.getfield 19, 3) := by decide +kernel
theorem dX6_layFlow_46 : decode cX6_layFlow 46 = .ok (.getfield 109, 3) := by decide +kernel
theorem dX6_layFlow_49 : decode cX6_layFlow 49 = .ok (.if_icmp .ge 39, 3) := by decide +kernel
theorem dX6_layFlow_52 : decode cX6_layFlow 52 = .ok (.aload_n 0, 1) := by decide +kernel
theorem dX6_layFlow_53 : decode cX6_layFlow 53 = .ok (.getfield 40, 3) := by decide +kernel
theorem dX6_layFlow_56 : decode cX6_layFlow 56 = .ok (.aload_n 0, 1) := by decide +kernel
theorem dX6_layFlow_57 : decode cX6_layFlow 57 = .ok (.getfield 19, 3) := by decide +kernel
theorem dX6_layFlow_60 : decode cX6_layFlow 60 = .ok (.getfield 122, 3) := by decide +kernel
theorem dX6_layFlow_63 : decode cX6_layFlow 63 = .ok (.iload_n 1, 1) := by decide +kernel
theorem dX6_layFlow_64 : decode cX6_layFlow 64 = .ok (.iaload, 1) := by decide +kernel
theorem dX6_layFlow_65 : decode cX6_layFlow 65 = .ok (.aload_n 0, 1) := by decide +kernel
theorem dX6_layFlow_66 : decode cX6_layFlow 66 = .ok (.getfield 19, 3) := by decide +kernel
theorem dX6_layFlow_69 : decode cX6_layFlow 69 = .ok (.getfield 125, 3) := by decide +kernel
theorem dX6_layFlow_72 : decode cX6_layFlow 72 = .ok (.iload_n 1, 1) := by decide +kernel
theorem dX6_layFlow_73 : decode cX6_layFlow 73 = .ok (.iaload, 1) := by decide +kernel
theorem dX6_layFlow_74 : decode cX6_layFlow 74 = .ok (.aload_n 0, 1) := by decide +kernel
theorem dX6_layFlow_75 : decode cX6_layFlow 75 = .ok (.iload_n 1, 1) := by decide +kernel
theorem dX6_layFlow_76 : decode cX6_layFlow 76 = .ok (.invokevirtual 137, 3) := by decide +kernel
theorem dX6_layFlow_79 : decode cX6_layFlow 79 = .ok (.invokevirtual 338, 3) := by decide +kernel
theorem dX6_layFlow_82 : decode cX6_layFlow 82 = .ok (.iinc 1 1, 3) := by decide +kernel
theorem dX6_layFlow_85 : decode cX6_layFlow 85 = .ok (.goto (-44), 3) := by decide +kernel
theorem dX6_layFlow_88 : decode cX6_layFlow 88 = .ok (.return_, 1) := by decide +kernel
theorem dX6_tiesOutOf_0 : decode cX6_tiesOutOf 0 = .ok (.iconst 0, 1) := by decide +kernel
theorem dX6_tiesOutOf_1 : decode cX6_tiesOutOf 1 = .ok (.istore_n 2, 1) := by decide +kernel
theorem dX6_tiesOutOf_2 : decode cX6_tiesOutOf 2 = .ok (.iconst 0, 1) := by decide +kernel
theorem dX6_tiesOutOf_3 : decode cX6_tiesOutOf 3 = .ok (.istore_n 3, 1) := by decide +kernel
theorem dX6_tiesOutOf_4 : decode cX6_tiesOutOf 4 = .ok (.iload_n 3, 1) := by decide +kernel
theorem dX6_tiesOutOf_5 : decode cX6_tiesOutOf 5 = .ok (.aload_n 0, 1) := by decide +kernel
theorem dX6_tiesOutOf_6 : decode cX6_tiesOutOf 6 = .ok (.getfield 19, 3) := by decide +kernel
theorem dX6_tiesOutOf_9 : decode cX6_tiesOutOf 9 = .ok (.getfield 109, 3) := by decide +kernel
theorem dX6_tiesOutOf_12 : decode cX6_tiesOutOf 12 = .ok (.if_icmp .ge 64, 3) := by decide +kernel
theorem dX6_tiesOutOf_15 : decode cX6_tiesOutOf 15 = .ok (.iload_n 1, 1) := by decide +kernel
theorem dX6_tiesOutOf_16 : decode cX6_tiesOutOf 16 = .ok (.aload_n 0, 1) := by decide +kernel
theorem dX6_tiesOutOf_17 : decode cX6_tiesOutOf 17 = .ok (.getfield 19, 3) := by decide +kernel
theorem dX6_tiesOutOf_20 : decode cX6_tiesOutOf 20 = .ok (.getfield 122, 3) := by decide +kernel
theorem dX6_tiesOutOf_23 : decode cX6_tiesOutOf 23 = .ok (.iload_n 3, 1) := by decide +kernel
theorem dX6_tiesOutOf_24 : decode cX6_tiesOutOf 24 = .ok (.iaload, 1) := by decide +kernel
theorem dX6_tiesOutOf_25 : decode cX6_tiesOutOf 25 = .ok (.invokestatic 162, 3) := by decide +kernel
theorem dX6_tiesOutOf_28 : decode cX6_tiesOutOf 28 = .ok (.iload_n 1, 1) := by decide +kernel
theorem dX6_tiesOutOf_29 : decode cX6_tiesOutOf 29 = .ok (.aload_n 0, 1) := by decide +kernel
theorem dX6_tiesOutOf_30 : decode cX6_tiesOutOf 30 = .ok (.getfield 19, 3) := by decide +kernel
theorem dX6_tiesOutOf_33 : decode cX6_tiesOutOf 33 = .ok (.getfield 125, 3) := by decide +kernel
theorem dX6_tiesOutOf_36 : decode cX6_tiesOutOf 36 = .ok (.iload_n 3, 1) := by decide +kernel
theorem dX6_tiesOutOf_37 : decode cX6_tiesOutOf 37 = .ok (.iaload, 1) := by decide +kernel
theorem dX6_tiesOutOf_38 : decode cX6_tiesOutOf 38 = .ok (.invokestatic 162, 3) := by decide +kernel
theorem dX6_tiesOutOf_41 : decode cX6_tiesOutOf 41 = .ok (.if_icmp .eq 7, 3) := by decide +kernel
theorem dX6_tiesOutOf_44 : decode cX6_tiesOutOf 44 = .ok (.iconst 1, 1) := by decide +kernel
theorem dX6_tiesOutOf_45 : decode cX6_tiesOutOf 45 = .ok (.goto 4, 3) := by decide +kernel
theorem dX6_tiesOutOf_48 : decode cX6_tiesOutOf 48 = .ok (.iconst 0, 1) := by decide +kernel
theorem dX6_tiesOutOf_49 : decode cX6_tiesOutOf 49 = .ok (.istore 4, 2) := by decide +kernel
theorem dX6_tiesOutOf_51 : decode cX6_tiesOutOf 51 = .ok (.iload 4, 2) := by decide +kernel
theorem dX6_tiesOutOf_53 : decode cX6_tiesOutOf 53 = .ok (.ifCond .eq 17, 3) := by decide +kernel
theorem dX6_tiesOutOf_56 : decode cX6_tiesOutOf 56 = .ok (.aload_n 0, 1) := by decide +kernel
theorem dX6_tiesOutOf_57 : decode cX6_tiesOutOf 57 = .ok (.iload_n 3, 1) := by decide +kernel
theorem dX6_tiesOutOf_58 : decode cX6_tiesOutOf 58 = .ok (.invokevirtual 137, 3) := by decide +kernel
theorem dX6_tiesOutOf_61 : decode cX6_tiesOutOf 61 = .ok (.ifCond .le 9, 3) := by decide +kernel
theorem dX6_tiesOutOf_64 : decode cX6_tiesOutOf 64 = .ok (.iload_n 2, 1) := by decide +kernel
theorem dX6_tiesOutOf_65 : decode cX6_tiesOutOf 65 = .ok (.iconst 1, 1) := by decide +kernel
theorem dX6_tiesOutOf_66 : decode cX6_tiesOutOf 66 = .ok (.iload_n 3, 1) := by decide +kernel
theorem dX6_tiesOutOf_67 : decode cX6_tiesOutOf 67 = .ok (.ishl, 1) := by decide +kernel
theorem dX6_tiesOutOf_68 : decode cX6_tiesOutOf 68 = .ok (.ior, 1) := by decide +kernel
theorem dX6_tiesOutOf_69 : decode cX6_tiesOutOf 69 = .ok (.istore_n 2, 1) := by decide +kernel
theorem dX6_tiesOutOf_70 : decode cX6_tiesOutOf 70 = .ok (.iinc 3 1, 3) := by decide +kernel
theorem dX6_tiesOutOf_73 : decode cX6_tiesOutOf 73 = .ok (.goto (-69), 3) := by decide +kernel
theorem dX6_tiesOutOf_76 : decode cX6_tiesOutOf 76 = .ok (.iload_n 2, 1) := by decide +kernel
theorem dX6_tiesOutOf_77 : decode cX6_tiesOutOf 77 = .ok (.ireturn, 1) := by decide +kernel
theorem dX6_givenBeyond_0 : decode cX6_givenBeyond 0 = .ok (.iconst 0, 1) := by decide +kernel
theorem dX6_givenBeyond_1 : decode cX6_givenBeyond 1 = .ok (.istore_n 2, 1) := by decide +kernel
theorem dX6_givenBeyond_2 : decode cX6_givenBeyond 2 = .ok (.iconst 0, 1) := by decide +kernel
theorem dX6_givenBeyond_3 : decode cX6_givenBeyond 3 = .ok (.istore_n 3, 1) := by decide +kernel
theorem dX6_givenBeyond_4 : decode cX6_givenBeyond 4 = .ok (.iload_n 3, 1) := by decide +kernel
theorem dX6_givenBeyond_5 : decode cX6_givenBeyond 5 = .ok (.aload_n 0, 1) := by decide +kernel
theorem dX6_givenBeyond_6 : decode cX6_givenBeyond 6 = .ok (.getfield 12, 3) := by decide +kernel
theorem dX6_givenBeyond_9 : decode cX6_givenBeyond 9 = .ok (.getfield 161, 3) := by decide +kernel
theorem dX6_givenBeyond_12 : decode cX6_givenBeyond 12 = .ok (.if_icmp .ge 25, 3) := by decide +kernel
theorem dX6_givenBeyond_15 : decode cX6_givenBeyond 15 = .ok (.iload_n 1, 1) := by decide +kernel
theorem dX6_givenBeyond_16 : decode cX6_givenBeyond 16 = .ok (.iload_n 3, 1) := by decide +kernel
theorem dX6_givenBeyond_17 : decode cX6_givenBeyond 17 = .ok (.invokestatic 162, 3) := by decide +kernel
theorem dX6_givenBeyond_20 : decode cX6_givenBeyond 20 = .ok (.ifCond .ne 11, 3) := by decide +kernel
theorem dX6_givenBeyond_23 : decode cX6_givenBeyond 23 = .ok (.iload_n 2, 1) := by decide +kernel
theorem dX6_givenBeyond_24 : decode cX6_givenBeyond 24 = .ok (.aload_n 0, 1) := by decide +kernel
theorem dX6_givenBeyond_25 : decode cX6_givenBeyond 25 = .ok (.iload_n 3, 1) := by decide +kernel
theorem dX6_givenBeyond_26 : decode cX6_givenBeyond 26 = .ok (.invokevirtual 152, 3) := by decide +kernel
theorem dX6_givenBeyond_29 : decode cX6_givenBeyond 29 = .ok (.iadd, 1) := by decide +kernel
theorem dX6_givenBeyond_30 : decode cX6_givenBeyond 30 = .ok (.istore_n 2, 1) := by decide +kernel
theorem dX6_givenBeyond_31 : decode cX6_givenBeyond 31 = .ok (.iinc 3 1, 3) := by decide +kernel
theorem dX6_givenBeyond_34 : decode cX6_givenBeyond 34 = .ok (.goto (-30), 3) := by decide +kernel
theorem dX6_givenBeyond_37 : decode cX6_givenBeyond 37 = .ok (.iload_n 2, 1) := by decide +kernel
theorem dX6_givenBeyond_38 : decode cX6_givenBeyond 38 = .ok (.ireturn, 1) := by decide +kernel
theorem dX6_fillTrusts_0 : decode cX6_fillTrusts 0 = .ok (.aload_n 0, 1) := by decide +kernel
theorem dX6_fillTrusts_1 : decode cX6_fillTrusts 1 = .ok (.invokevirtual 190, 3) := by decide +kernel
theorem dX6_fillTrusts_4 : decode cX6_fillTrusts 4 = .ok (.iconst 0, 1) := by decide +kernel
theorem dX6_fillTrusts_5 : decode cX6_fillTrusts 5 = .ok (.istore_n 1, 1) := by decide +kernel
theorem dX6_fillTrusts_6 : decode cX6_fillTrusts 6 = .ok (.iload_n 1, 1) := by decide +kernel
theorem dX6_fillTrusts_7 : decode cX6_fillTrusts 7 = .ok (.aload_n 0, 1) := by decide +kernel
theorem dX6_fillTrusts_8 : decode cX6_fillTrusts 8 = .ok (.getfield 12, 3) := by decide +kernel
theorem dX6_fillTrusts_11 : decode cX6_fillTrusts 11 = .ok (.getfield 161, 3) := by decide +kernel
theorem dX6_fillTrusts_14 : decode cX6_fillTrusts 14 = .ok (.if_icmp .ge 37, 3) := by decide +kernel
theorem dX6_fillTrusts_17 : decode cX6_fillTrusts 17 = .ok (.aload_n 0, 1) := by decide +kernel
theorem dX6_fillTrusts_18 : decode cX6_fillTrusts 18 = .ok (.getfield 63, 3) := by decide +kernel
theorem dX6_fillTrusts_21 : decode cX6_fillTrusts 21 = .ok (.iload_n 1, 1) := by decide +kernel
theorem dX6_fillTrusts_22 : decode cX6_fillTrusts 22 = .ok (.aload_n 0, 1) := by decide +kernel
theorem dX6_fillTrusts_23 : decode cX6_fillTrusts 23 = .ok (.iload_n 1, 1) := by decide +kernel
theorem dX6_fillTrusts_24 : decode cX6_fillTrusts 24 = .ok (.invokevirtual 208, 3) := by decide +kernel
theorem dX6_fillTrusts_27 : decode cX6_fillTrusts 27 = .ok (.ifCond .eq 16, 3) := by decide +kernel
theorem dX6_fillTrusts_30 : decode cX6_fillTrusts 30 = .ok (.aload_n 0, 1) := by decide +kernel
theorem dX6_fillTrusts_31 : decode cX6_fillTrusts 31 = .ok (.getfield 40, 3) := by decide +kernel
theorem dX6_fillTrusts_34 : decode cX6_fillTrusts 34 = .ok (.iconst 1, 1) := by decide +kernel
theorem dX6_fillTrusts_35 : decode cX6_fillTrusts 35 = .ok (.iload_n 1, 1) := by decide +kernel
theorem dX6_fillTrusts_36 : decode cX6_fillTrusts 36 = .ok (.ishl, 1) := by decide +kernel
theorem dX6_fillTrusts_37 : decode cX6_fillTrusts 37 = .ok (.invokevirtual 193, 3) := by decide +kernel
theorem dX6_fillTrusts_40 : decode cX6_fillTrusts 40 = .ok (.goto 4, 3) := by decide +kernel
theorem dX6_fillTrusts_43 : decode cX6_fillTrusts 43 = .ok (.iconst 0, 1) := by decide +kernel
theorem dX6_fillTrusts_44 : decode cX6_fillTrusts 44 = .ok (.iastore, 1) := by decide +kernel
theorem dX6_fillTrusts_45 : decode cX6_fillTrusts 45 = .ok (.iinc 1 1, 3) := by decide +kernel
theorem dX6_fillTrusts_48 : decode cX6_fillTrusts 48 = .ok (.goto (-42), 3) := by decide +kernel
theorem dX6_fillTrusts_51 : decode cX6_fillTrusts 51 = .ok (.return_, 1) := by decide +kernel
theorem dX6_refusalOf_0 : decode cX6_refusalOf 0 = .ok (.aload_n 0, 1) := by decide +kernel
theorem dX6_refusalOf_1 : decode cX6_refusalOf 1 = .ok (.iload_n 1, 1) := by decide +kernel
theorem dX6_refusalOf_2 : decode cX6_refusalOf 2 = .ok (.iload_n 2, 1) := by decide +kernel
theorem dX6_refusalOf_3 : decode cX6_refusalOf 3 = .ok (.invokevirtual 105, 3) := by decide +kernel
theorem dX6_refusalOf_6 : decode cX6_refusalOf 6 = .ok (.ifCond .eq 24, 3) := by decide +kernel
theorem dX6_refusalOf_9 : decode cX6_refusalOf 9 = .ok (.iload_n 3, 1) := by decide +kernel
theorem dX6_refusalOf_10 : decode cX6_refusalOf 10 = .ok (.iconst 0, 1) := by decide +kernel
theorem dX6_refusalOf_11 : decode cX6_refusalOf 11 = .ok (.bipush 99, 2) := by decide +kernel
theorem dX6_refusalOf_13 : decode cX6_refusalOf 13 = .ok (.invokestatic 76, 3) := by decide +kernel
theorem dX6_refusalOf_16 : decode cX6_refusalOf 16 = .ok (.ifCond .eq 14, 3) := by decide +kernel
theorem dX6_refusalOf_19 : decode cX6_refusalOf 19 = .ok (.iload 4, 2) := by decide +kernel
theorem dX6_refusalOf_21 : decode cX6_refusalOf 21 = .ok (.iconst 0, 1) := by decide +kernel
theorem dX6_refusalOf_22 : decode cX6_refusalOf 22 = .ok (.bipush 10, 2) := by decide +kernel
theorem dX6_refusalOf_24 : decode cX6_refusalOf 24 = .ok (.invokestatic 76, 3) := by decide +kernel
theorem dX6_refusalOf_27 : decode cX6_refusalOf 27 = .ok (.ifCond .ne 5, 3) := by decide +kernel
theorem dX6_refusalOf_30 : decode cX6_refusalOf 30 = .ok (.iconst (-1), 1) := by decide +kernel
theorem dX6_refusalOf_31 : decode cX6_refusalOf 31 = .ok (.ireturn, 1) := by decide +kernel
theorem dX6_refusalOf_32 : decode cX6_refusalOf 32 = .ok (.aload_n 0, 1) := by decide +kernel
theorem dX6_refusalOf_33 : decode cX6_refusalOf 33 = .ok (.getfield 26, 3) := by decide +kernel
theorem dX6_refusalOf_36 : decode cX6_refusalOf 36 = .ok (.getfield 255, 3) := by decide +kernel
theorem dX6_refusalOf_39 : decode cX6_refusalOf 39 = .ok (.iload 5, 2) := by decide +kernel
theorem dX6_refusalOf_41 : decode cX6_refusalOf 41 = .ok (.iadd, 1) := by decide +kernel
theorem dX6_refusalOf_42 : decode cX6_refusalOf 42 = .ok (.bipush 24, 2) := by decide +kernel
theorem dX6_refusalOf_44 : decode cX6_refusalOf 44 = .ok (.if_icmp .lt 6, 3) := by decide +kernel
theorem dX6_refusalOf_47 : decode cX6_refusalOf 47 = .ok (.bipush (-3), 2) := by decide +kernel
theorem dX6_refusalOf_49 : decode cX6_refusalOf 49 = .ok (.ireturn, 1) := by decide +kernel
theorem dX6_refusalOf_50 : decode cX6_refusalOf 50 = .ok (.aload_n 0, 1) := by decide +kernel
theorem dX6_refusalOf_51 : decode cX6_refusalOf 51 = .ok (.getfield 12, 3) := by decide +kernel
theorem dX6_refusalOf_54 : decode cX6_refusalOf 54 = .ok (.getfield 96, 3) := by decide +kernel
theorem dX6_refusalOf_57 : decode cX6_refusalOf 57 = .ok (.iload_n 1, 1) := by decide +kernel
theorem dX6_refusalOf_58 : decode cX6_refusalOf 58 = .ok (.baload, 1) := by decide +kernel
theorem dX6_refusalOf_59 : decode cX6_refusalOf 59 = .ok (.ifCond .eq 8, 3) := by decide +kernel
theorem dX6_refusalOf_62 : decode cX6_refusalOf 62 = .ok (.bipush (-2), 2) := by decide +kernel
theorem dX6_refusalOf_64 : decode cX6_refusalOf 64 = .ok (.goto 4, 3) := by decide +kernel
theorem dX6_refusalOf_67 : decode cX6_refusalOf 67 = .ok (.iconst 0, 1) := by decide +kernel
theorem dX6_refusalOf_68 : decode cX6_refusalOf 68 = .ok (.ireturn, 1) := by decide +kernel
theorem dX6_sayersOf_0 : decode cX6_sayersOf 0 = .ok (.iconst 0, 1) := by decide +kernel
theorem dX6_sayersOf_1 : decode cX6_sayersOf 1 = .ok (.istore_n 2, 1) := by decide +kernel
theorem dX6_sayersOf_2 : decode cX6_sayersOf 2 = .ok (.iconst 0, 1) := by decide +kernel
theorem dX6_sayersOf_3 : decode cX6_sayersOf 3 = .ok (.istore_n 3, 1) := by decide +kernel
theorem dX6_sayersOf_4 : decode cX6_sayersOf 4 = .ok (.iload_n 3, 1) := by decide +kernel
theorem dX6_sayersOf_5 : decode cX6_sayersOf 5 = .ok (.aload_n 0, 1) := by decide +kernel
theorem dX6_sayersOf_6 : decode cX6_sayersOf 6 = .ok (.getfield 26, 3) := by decide +kernel
theorem dX6_sayersOf_9 : decode cX6_sayersOf 9 = .ok (.getfield 255, 3) := by decide +kernel
theorem dX6_sayersOf_12 : decode cX6_sayersOf 12 = .ok (.if_icmp .ge 64, 3) := by decide +kernel
theorem dX6_sayersOf_15 : decode cX6_sayersOf 15 = .ok (.aload_n 0, 1) := by decide +kernel
theorem dX6_sayersOf_16 : decode cX6_sayersOf 16 = .ok (.getfield 26, 3) := by decide +kernel
theorem dX6_sayersOf_19 : decode cX6_sayersOf 19 = .ok (.getfield 221, 3) := by decide +kernel
theorem dX6_sayersOf_22 : decode cX6_sayersOf 22 = .ok (.iload_n 3, 1) := by decide +kernel
theorem dX6_sayersOf_23 : decode cX6_sayersOf 23 = .ok (.iaload, 1) := by decide +kernel
theorem dX6_sayersOf_24 : decode cX6_sayersOf 24 = .ok (.istore 4, 2) := by decide +kernel
theorem dX6_sayersOf_26 : decode cX6_sayersOf 26 = .ok (.aload_n 0, 1) := by decide +kernel
theorem dX6_sayersOf_27 : decode cX6_sayersOf 27 = .ok (.getfield 26, 3) := by decide +kernel
theorem dX6_sayersOf_30 : decode cX6_sayersOf 30 = .ok (.getfield 224, 3) := by decide +kernel
theorem dX6_sayersOf_33 : decode cX6_sayersOf 33 = .ok (.iload_n 3, 1) := by decide +kernel
theorem dX6_sayersOf_34 : decode cX6_sayersOf 34 = .ok (.iaload, 1) := by decide +kernel
theorem dX6_sayersOf_35 : decode cX6_sayersOf 35 = .ok (.iload_n 1, 1) := by decide +kernel
theorem dX6_sayersOf_36 : decode cX6_sayersOf 36 = .ok (.if_icmp .ne 34, 3) := by decide +kernel
theorem dX6_sayersOf_39 : decode cX6_sayersOf 39 = .ok (.aload_n 0, 1) := by decide +kernel
theorem dX6_sayersOf_40 : decode cX6_sayersOf 40 = .ok (.getfield 12, 3) := by decide +kernel
theorem dX6_sayersOf_43 : decode cX6_sayersOf 43 = .ok (.getfield 96, 3) := by decide +kernel
theorem dX6_sayersOf_46 : decode cX6_sayersOf 46 = .ok (.iload 4, 2) := by decide +kernel
theorem dX6_sayersOf_48 : decode cX6_sayersOf 48 = .ok (.baload, 1) := by decide +kernel
theorem dX6_sayersOf_49 : decode cX6_sayersOf 49 = .ok (.ifCond .ne 21, 3) := by decide +kernel
theorem dX6_sayersOf_52 : decode cX6_sayersOf 52 = .ok (.aload_n 0, 1) := by decide +kernel
theorem dX6_sayersOf_53 : decode cX6_sayersOf 53 = .ok (.getfield 26, 3) := by decide +kernel
theorem dX6_sayersOf_56 : decode cX6_sayersOf 56 = .ok (.iload_n 3, 1) := by decide +kernel
theorem dX6_sayersOf_57 : decode cX6_sayersOf 57 = .ok (.invokevirtual 234, 3) := by decide +kernel
theorem dX6_sayersOf_60 : decode cX6_sayersOf 60 = .ok (.ifCond .eq 10, 3) := by decide +kernel
theorem dX6_sayersOf_63 : decode cX6_sayersOf 63 = .ok (.iload_n 2, 1) := by decide +kernel
theorem dX6_sayersOf_64 : decode cX6_sayersOf 64 = .ok (.iconst 1, 1) := by decide +kernel
theorem dX6_sayersOf_65 : decode cX6_sayersOf 65 = .ok (.iload 4, 2) := by decide +kernel
theorem dX6_sayersOf_67 : decode cX6_sayersOf 67 = .ok (.ishl, 1) := by decide +kernel
theorem dX6_sayersOf_68 : decode cX6_sayersOf 68 = .ok (.ior, 1) := by decide +kernel
theorem dX6_sayersOf_69 : decode cX6_sayersOf 69 = .ok (.istore_n 2, 1) := by decide +kernel
theorem dX6_sayersOf_70 : decode cX6_sayersOf 70 = .ok (.iinc 3 1, 3) := by decide +kernel
theorem dX6_sayersOf_73 : decode cX6_sayersOf 73 = .ok (.goto (-69), 3) := by decide +kernel
theorem dX6_sayersOf_76 : decode cX6_sayersOf 76 = .ok (.iload_n 2, 1) := by decide +kernel
theorem dX6_sayersOf_77 : decode cX6_sayersOf 77 = .ok (.ireturn, 1) := by decide +kernel
theorem dX6_weighSayers_0 : decode cX6_weighSayers 0 = .ok (.aload_n 0, 1) := by decide +kernel
theorem dX6_weighSayers_1 : decode cX6_weighSayers 1 = .ok (.iload_n 1, 1) := by decide +kernel
theorem dX6_weighSayers_2 : decode cX6_weighSayers 2 = .ok (.invokevirtual 237, 3) := by decide +kernel
theorem dX6_weighSayers_5 : decode cX6_weighSayers 5 = .ok (.istore_n 2, 1) := by decide +kernel
theorem dX6_weighSayers_6 : decode cX6_weighSayers 6 = .ok (.iconst 0, 1) := by decide +kernel
theorem dX6_weighSayers_7 : decode cX6_weighSayers 7 = .ok (.istore_n 3, 1) := by decide +kernel
theorem dX6_weighSayers_8 : decode cX6_weighSayers 8 = .ok (.iconst 0, 1) := by decide +kernel
theorem dX6_weighSayers_9 : decode cX6_weighSayers 9 = .ok (.istore 4, 2) := by decide +kernel
theorem dX6_weighSayers_11 : decode cX6_weighSayers 11 = .ok (.iconst 0, 1) := by decide +kernel
theorem dX6_weighSayers_12 : decode cX6_weighSayers 12 = .ok (.istore 5, 2) := by decide +kernel
theorem dX6_weighSayers_14 : decode cX6_weighSayers 14 = .ok (.aload_n 0, 1) := by decide +kernel
theorem dX6_weighSayers_15 : decode cX6_weighSayers 15 = .ok (.invokevirtual 190, 3) := by decide +kernel
theorem dX6_weighSayers_18 : decode cX6_weighSayers 18 = .ok (.iconst 0, 1) := by decide +kernel
theorem dX6_weighSayers_19 : decode cX6_weighSayers 19 = .ok (.istore 6, 2) := by decide +kernel
theorem dX6_weighSayers_21 : decode cX6_weighSayers 21 = .ok (.iload 6, 2) := by decide +kernel
theorem dX6_weighSayers_23 : decode cX6_weighSayers 23 = .ok (.bipush 12, 2) := by decide +kernel
theorem dX6_weighSayers_25 : decode cX6_weighSayers 25 = .ok (.if_icmp .ge 145, 3) := by decide +kernel
theorem dX6_weighSayers_28 : decode cX6_weighSayers 28 = .ok (.aload_n 0, 1) := by decide +kernel
theorem dX6_weighSayers_29 : decode cX6_weighSayers 29 = .ok (.getfield 57, 3) := by decide +kernel
theorem dX6_weighSayers_32 : decode cX6_weighSayers 32 = .ok (.iload 6, 2) := by decide +kernel
theorem dX6_weighSayers_34 : decode cX6_weighSayers 34 = .ok (.iconst 0, 1) := by decide +kernel
theorem dX6_weighSayers_35 : decode cX6_weighSayers 35 = .ok (.iastore, 1) := by decide +kernel
theorem dX6_weighSayers_36 : decode cX6_weighSayers 36 = .ok (.aload_n 0, 1) := by decide +kernel
theorem dX6_weighSayers_37 : decode cX6_weighSayers 37 = .ok (.getfield 60, 3) := by decide +kernel
theorem dX6_weighSayers_40 : decode cX6_weighSayers 40 = .ok (.iload 6, 2) := by decide +kernel
theorem dX6_weighSayers_42 : decode cX6_weighSayers 42 = .ok (.iconst 0, 1) := by decide +kernel
theorem dX6_weighSayers_43 : decode cX6_weighSayers 43 = .ok (.iastore, 1) := by decide +kernel
theorem dX6_weighSayers_44 : decode cX6_weighSayers 44 = .ok (.iload_n 2, 1) := by decide +kernel
theorem dX6_weighSayers_45 : decode cX6_weighSayers 45 = .ok (.iload 6, 2) := by decide +kernel
theorem dX6_weighSayers_47 : decode cX6_weighSayers 47 = .ok (.invokestatic 162, 3) := by decide +kernel
theorem dX6_weighSayers_50 : decode cX6_weighSayers 50 = .ok (.ifCond .eq 16, 3) := by decide +kernel
theorem dX6_weighSayers_53 : decode cX6_weighSayers 53 = .ok (.aload_n 0, 1) := by decide +kernel
theorem dX6_weighSayers_54 : decode cX6_weighSayers 54 = .ok (.getfield 26, 3) := by decide +kernel
theorem dX6_weighSayers_57 : decode cX6_weighSayers 57 = .ok (.iload 6, 2) := by decide +kernel
theorem dX6_weighSayers_59 : decode cX6_weighSayers 59 = .ok (.iload_n 1, 1) := by decide +kernel
theorem dX6_weighSayers_60 : decode cX6_weighSayers 60 = .ok (.invokevirtual 342, 3) := by decide +kernel
theorem dX6_weighSayers_63 : decode cX6_weighSayers 63 = .ok (.goto 5, 3) := by decide +kernel
theorem dX6_weighSayers_66 : decode cX6_weighSayers 66 = .ok (.bipush (-4), 2) := by decide +kernel
theorem dX6_weighSayers_68 : decode cX6_weighSayers 68 = .ok (.istore 7, 2) := by decide +kernel
theorem dX6_weighSayers_70 : decode cX6_weighSayers 70 = .ok (.iload 7, 2) := by decide +kernel
theorem dX6_weighSayers_72 : decode cX6_weighSayers 72 = .ok (.ifCond .ge 6, 3) := by decide +kernel
theorem dX6_weighSayers_75 : decode cX6_weighSayers 75 = .ok (.goto 89, 3) := by decide +kernel
theorem dX6_weighSayers_78 : decode cX6_weighSayers 78 = .ok (.iload_n 3, 1) := by decide +kernel
theorem dX6_weighSayers_79 : decode cX6_weighSayers 79 = .ok (.iconst 1, 1) := by decide +kernel
theorem dX6_weighSayers_80 : decode cX6_weighSayers 80 = .ok (.iload 6, 2) := by decide +kernel
theorem dX6_weighSayers_82 : decode cX6_weighSayers 82 = .ok (.ishl, 1) := by decide +kernel
theorem dX6_weighSayers_83 : decode cX6_weighSayers 83 = .ok (.ior, 1) := by decide +kernel
theorem dX6_weighSayers_84 : decode cX6_weighSayers 84 = .ok (.istore_n 3, 1) := by decide +kernel
theorem dX6_weighSayers_85 : decode cX6_weighSayers 85 = .ok (.aload_n 0, 1) := by decide +kernel
theorem dX6_weighSayers_86 : decode cX6_weighSayers 86 = .ok (.getfield 40, 3) := by decide +kernel
theorem dX6_weighSayers_89 : decode cX6_weighSayers 89 = .ok (.iload_n 3, 1) := by decide +kernel
theorem dX6_weighSayers_90 : decode cX6_weighSayers 90 = .ok (.invokevirtual 193, 3) := by decide +kernel
theorem dX6_weighSayers_93 : decode cX6_weighSayers 93 = .ok (.istore 8, 2) := by decide +kernel
theorem dX6_weighSayers_95 : decode cX6_weighSayers 95 = .ok (.aload_n 0, 1) := by decide +kernel
theorem dX6_weighSayers_96 : decode cX6_weighSayers 96 = .ok (.getfield 57, 3) := by decide +kernel
theorem dX6_weighSayers_99 : decode cX6_weighSayers 99 = .ok (.iload 6, 2) := by decide +kernel
theorem dX6_weighSayers_101 : decode cX6_weighSayers 101 = .ok (.iload 8, 2) := by decide +kernel
theorem dX6_weighSayers_103 : decode cX6_weighSayers 103 = .ok (.iload 4, 2) := by decide +kernel
theorem dX6_weighSayers_105 : decode cX6_weighSayers 105 = .ok (.isub, 1) := by decide +kernel
theorem dX6_weighSayers_106 : decode cX6_weighSayers 106 = .ok (.aload_n 0, 1) := by decide +kernel
theorem dX6_weighSayers_107 : decode cX6_weighSayers 107 = .ok (.getfield 50, 3) := by decide +kernel
theorem dX6_weighSayers_110 : decode cX6_weighSayers 110 = .ok (.iconst 5, 1) := by decide +kernel
theorem dX6_weighSayers_111 : decode cX6_weighSayers 111 = .ok (.iaload, 1) := by decide +kernel
theorem dX6_weighSayers_112 : decode cX6_weighSayers 112 = .ok (.aload_n 0, 1) := by decide +kernel
theorem dX6_weighSayers_113 : decode cX6_weighSayers 113 = .ok (.getfield 113, 3) := by decide +kernel
theorem dX6_weighSayers_116 : decode cX6_weighSayers 116 = .ok (.aload_n 0, 1) := by decide +kernel
theorem dX6_weighSayers_117 : decode cX6_weighSayers 117 = .ok (.getfield 26, 3) := by decide +kernel
theorem dX6_weighSayers_120 : decode cX6_weighSayers 120 = .ok (.getfield 233, 3) := by decide +kernel
theorem dX6_weighSayers_123 : decode cX6_weighSayers 123 = .ok (.iload 7, 2) := by decide +kernel
theorem dX6_weighSayers_125 : decode cX6_weighSayers 125 = .ok (.iaload, 1) := by decide +kernel
theorem dX6_weighSayers_126 : decode cX6_weighSayers 126 = .ok (.isub, 1) := by decide +kernel
theorem dX6_weighSayers_127 : decode cX6_weighSayers 127 = .ok (.invokestatic 329, 3) := by decide +kernel
theorem dX6_weighSayers_130 : decode cX6_weighSayers 130 = .ok (.iastore, 1) := by decide +kernel
theorem dX6_weighSayers_131 : decode cX6_weighSayers 131 = .ok (.aload_n 0, 1) := by decide +kernel
theorem dX6_weighSayers_132 : decode cX6_weighSayers 132 = .ok (.getfield 60, 3) := by decide +kernel
theorem dX6_weighSayers_135 : decode cX6_weighSayers 135 = .ok (.iload 6, 2) := by decide +kernel
theorem dX6_weighSayers_137 : decode cX6_weighSayers 137 = .ok (.aload_n 0, 1) := by decide +kernel
theorem dX6_weighSayers_138 : decode cX6_weighSayers 138 = .ok (.getfield 26, 3) := by decide +kernel
theorem dX6_weighSayers_141 : decode cX6_weighSayers 141 = .ok (.getfield 230, 3) := by decide +kernel
theorem dX6_weighSayers_144 : decode cX6_weighSayers 144 = .ok (.iload 7, 2) := by decide +kernel
theorem dX6_weighSayers_146 : decode cX6_weighSayers 146 = .ok (.iaload, 1) := by decide +kernel
theorem dX6_weighSayers_147 : decode cX6_weighSayers 147 = .ok (.iastore, 1) := by decide +kernel
theorem dX6_weighSayers_148 : decode cX6_weighSayers 148 = .ok (.iload 8, 2) := by decide +kernel
theorem dX6_weighSayers_150 : decode cX6_weighSayers 150 = .ok (.istore 4, 2) := by decide +kernel
theorem dX6_weighSayers_152 : decode cX6_weighSayers 152 = .ok (.iload 5, 2) := by decide +kernel
theorem dX6_weighSayers_154 : decode cX6_weighSayers 154 = .ok (.aload_n 0, 1) := by decide +kernel
theorem dX6_weighSayers_155 : decode cX6_weighSayers 155 = .ok (.getfield 57, 3) := by decide +kernel
theorem dX6_weighSayers_158 : decode cX6_weighSayers 158 = .ok (.iload 6, 2) := by decide +kernel
theorem dX6_weighSayers_160 : decode cX6_weighSayers 160 = .ok (.iaload, 1) := by decide +kernel
theorem dX6_weighSayers_161 : decode cX6_weighSayers 161 = .ok (.iadd, 1) := by decide +kernel
theorem dX6_weighSayers_162 : decode cX6_weighSayers 162 = .ok (.istore 5, 2) := by decide +kernel
theorem dX6_weighSayers_164 : decode cX6_weighSayers 164 = .ok (.iinc 6 1, 3) := by decide +kernel
theorem dX6_weighSayers_167 : decode cX6_weighSayers 167 = .ok (.goto (-146), 3) := by decide +kernel
theorem dX6_weighSayers_170 : decode cX6_weighSayers 170 = .ok (.iload 5, 2) := by decide +kernel
theorem dX6_weighSayers_172 : decode cX6_weighSayers 172 = .ok (.ireturn, 1) := by decide +kernel
theorem dX6_summedMarks_0 : decode cX6_summedMarks 0 = .ok (.iconst 0, 1) := by decide +kernel
theorem dX6_summedMarks_1 : decode cX6_summedMarks 1 = .ok (.istore_n 1, 1) := by decide +kernel
theorem dX6_summedMarks_2 : decode cX6_summedMarks 2 = .ok (.iconst 0, 1) := by decide +kernel
theorem dX6_summedMarks_3 : decode cX6_summedMarks 3 = .ok (.istore_n 2, 1) := by decide +kernel
theorem dX6_summedMarks_4 : decode cX6_summedMarks 4 = .ok (.iload_n 2, 1) := by decide +kernel
theorem dX6_summedMarks_5 : decode cX6_summedMarks 5 = .ok (.bipush 12, 2) := by decide +kernel
theorem dX6_summedMarks_7 : decode cX6_summedMarks 7 = .ok (.if_icmp .ge 25, 3) := by decide +kernel
theorem dX6_summedMarks_10 : decode cX6_summedMarks 10 = .ok (.iload_n 1, 1) := by decide +kernel
theorem dX6_summedMarks_11 : decode cX6_summedMarks 11 = .ok (.aload_n 0, 1) := by decide +kernel
theorem dX6_summedMarks_12 : decode cX6_summedMarks 12 = .ok (.getfield 57, 3) := by decide +kernel
theorem dX6_summedMarks_15 : decode cX6_summedMarks 15 = .ok (.iload_n 2, 1) := by decide +kernel
theorem dX6_summedMarks_16 : decode cX6_summedMarks 16 = .ok (.iaload, 1) := by decide +kernel
theorem dX6_summedMarks_17 : decode cX6_summedMarks 17 = .ok (.aload_n 0, 1) := by decide +kernel
theorem dX6_summedMarks_18 : decode cX6_summedMarks 18 = .ok (.getfield 60, 3) := by decide +kernel
theorem dX6_summedMarks_21 : decode cX6_summedMarks 21 = .ok (.iload_n 2, 1) := by decide +kernel
theorem dX6_summedMarks_22 : decode cX6_summedMarks 22 = .ok (.iaload, 1) := by decide +kernel
theorem dX6_summedMarks_23 : decode cX6_summedMarks 23 = .ok (.imul, 1) := by decide +kernel
theorem dX6_summedMarks_24 : decode cX6_summedMarks 24 = .ok (.iadd, 1) := by decide +kernel
theorem dX6_summedMarks_25 : decode cX6_summedMarks 25 = .ok (.istore_n 1, 1) := by decide +kernel
theorem dX6_summedMarks_26 : decode cX6_summedMarks 26 = .ok (.iinc 2 1, 3) := by decide +kernel
theorem dX6_summedMarks_29 : decode cX6_summedMarks 29 = .ok (.goto (-25), 3) := by decide +kernel
theorem dX6_summedMarks_32 : decode cX6_summedMarks 32 = .ok (.iload_n 1, 1) := by decide +kernel
theorem dX6_summedMarks_33 : decode cX6_summedMarks 33 = .ok (.ireturn, 1) := by decide +kernel
theorem dX6_greatestStakes_0 : decode cX6_greatestStakes 0 = .ok (.iconst 0, 1) := by decide +kernel
theorem dX6_greatestStakes_1 : decode cX6_greatestStakes 1 = .ok (.istore_n 3, 1) := by decide +kernel
theorem dX6_greatestStakes_2 : decode cX6_greatestStakes 2 = .ok (.iload_n 3, 1) := by decide +kernel
theorem dX6_greatestStakes_3 : decode cX6_greatestStakes 3 = .ok (.bipush 12, 2) := by decide +kernel
theorem dX6_greatestStakes_5 : decode cX6_greatestStakes 5 = .ok (.if_icmp .ge 44, 3) := by decide +kernel
theorem dX6_greatestStakes_8 : decode cX6_greatestStakes 8 = .ok (.aload_n 0, 1) := by decide +kernel
theorem dX6_greatestStakes_9 : decode cX6_greatestStakes 9 = .ok (.getfield 63, 3) := by decide +kernel
theorem dX6_greatestStakes_12 : decode cX6_greatestStakes 12 = .ok (.iload_n 3, 1) := by decide +kernel
theorem dX6_greatestStakes_13 : decode cX6_greatestStakes 13 = .ok (.aload_n 0, 1) := by decide +kernel
theorem dX6_greatestStakes_14 : decode cX6_greatestStakes 14 = .ok (.getfield 57, 3) := by decide +kernel
theorem dX6_greatestStakes_17 : decode cX6_greatestStakes 17 = .ok (.iload_n 3, 1) := by decide +kernel
theorem dX6_greatestStakes_18 : decode cX6_greatestStakes 18 = .ok (.iaload, 1) := by decide +kernel
theorem dX6_greatestStakes_19 : decode cX6_greatestStakes 19 = .ok (.iload_n 2, 1) := by decide +kernel
theorem dX6_greatestStakes_20 : decode cX6_greatestStakes 20 = .ok (.ifCond .eq 15, 3) := by decide +kernel
theorem dX6_greatestStakes_23 : decode cX6_greatestStakes 23 = .ok (.bipush 10, 2) := by decide +kernel
theorem dX6_greatestStakes_25 : decode cX6_greatestStakes 25 = .ok (.aload_n 0, 1) := by decide +kernel
theorem dX6_greatestStakes_26 : decode cX6_greatestStakes 26 = .ok (.getfield 60, 3) := by decide +kernel
theorem dX6_greatestStakes_29 : decode cX6_greatestStakes 29 = .ok (.iload_n 3, 1) := by decide +kernel
theorem dX6_greatestStakes_30 : decode cX6_greatestStakes 30 = .ok (.iaload, 1) := by decide +kernel
theorem dX6_greatestStakes_31 : decode cX6_greatestStakes 31 = .ok (.isub, 1) := by decide +kernel
theorem dX6_greatestStakes_32 : decode cX6_greatestStakes 32 = .ok (.goto 9, 3) := by decide +kernel
theorem dX6_greatestStakes_35 : decode cX6_greatestStakes 35 = .ok (.aload_n 0, 1) := by decide +kernel
theorem dX6_greatestStakes_36 : decode cX6_greatestStakes 36 = .ok (.getfield 60, 3) := by decide +kernel
theorem dX6_greatestStakes_39 : decode cX6_greatestStakes 39 = .ok (.iload_n 3, 1) := by decide +kernel
theorem dX6_greatestStakes_40 : decode cX6_greatestStakes 40 = .ok (.iaload, 1) := by decide +kernel
theorem dX6_greatestStakes_41 : decode cX6_greatestStakes 41 = .ok (.imul, 1) := by decide +kernel
theorem dX6_greatestStakes_42 : decode cX6_greatestStakes 42 = .ok (.iastore, 1) := by decide +kernel
theorem dX6_greatestStakes_43 : decode cX6_greatestStakes 43 = .ok (.iinc 3 1, 3) := by decide +kernel
theorem dX6_greatestStakes_46 : decode cX6_greatestStakes 46 = .ok (.goto (-44), 3) := by decide +kernel
theorem dX6_greatestStakes_49 : decode cX6_greatestStakes 49 = .ok (.iconst 0, 1) := by decide +kernel
theorem dX6_greatestStakes_50 : decode cX6_greatestStakes 50 = .ok (.istore_n 3, 1) := by decide +kernel
theorem dX6_greatestStakes_51 : decode cX6_greatestStakes 51 = .ok (.iconst 0, 1) := by decide +kernel
theorem dX6_greatestStakes_52 : decode cX6_greatestStakes 52 = .ok (.istore 4, 2) := by decide +kernel
theorem dX6_greatestStakes_54 : decode cX6_greatestStakes 54 = .ok (.iload 4, 2) := by decide +kernel
theorem dX6_greatestStakes_56 : decode cX6_greatestStakes 56 = .ok (.iload_n 1, 1) := by decide +kernel
theorem dX6_greatestStakes_57 : decode cX6_greatestStakes 57 = .ok (.if_icmp .ge 72, 3) := by decide +kernel
theorem dX6_greatestStakes_60 : decode cX6_greatestStakes 60 = .ok (.iconst 0, 1) := by decide +kernel
theorem dX6_greatestStakes_61 : decode cX6_greatestStakes 61 = .ok (.istore 5, 2) := by decide +kernel
theorem dX6_greatestStakes_63 : decode cX6_greatestStakes 63 = .ok (.iconst 1, 1) := by decide +kernel
theorem dX6_greatestStakes_64 : decode cX6_greatestStakes 64 = .ok (.istore 6, 2) := by decide +kernel
theorem dX6_greatestStakes_66 : decode cX6_greatestStakes 66 = .ok (.iload 6, 2) := by decide +kernel
theorem dX6_greatestStakes_68 : decode cX6_greatestStakes 68 = .ok (.bipush 12, 2) := by decide +kernel
theorem dX6_greatestStakes_70 : decode cX6_greatestStakes 70 = .ok (.if_icmp .ge 35, 3) := by decide +kernel
theorem dX6_greatestStakes_73 : decode cX6_greatestStakes 73 = .ok (.aload_n 0, 1) := by decide +kernel
theorem dX6_greatestStakes_74 : decode cX6_greatestStakes 74 = .ok (.getfield 63, 3) := by decide +kernel
theorem dX6_greatestStakes_77 : decode cX6_greatestStakes 77 = .ok (.iload 6, 2) := by decide +kernel
theorem dX6_greatestStakes_79 : decode cX6_greatestStakes 79 = .ok (.iaload, 1) := by decide +kernel
theorem dX6_greatestStakes_80 : decode cX6_greatestStakes 80 = .ok (.aload_n 0, 1) := by decide +kernel
theorem dX6_greatestStakes_81 : decode cX6_greatestStakes 81 = .ok (.getfield 63, 3) := by decide +kernel
theorem dX6_greatestStakes_84 : decode cX6_greatestStakes 84 = .ok (.iload 5, 2) := by decide +kernel
theorem dX6_greatestStakes_86 : decode cX6_greatestStakes 86 = .ok (.iaload, 1) := by decide +kernel
theorem dX6_greatestStakes_87 : decode cX6_greatestStakes 87 = .ok (.if_icmp .le 8, 3) := by decide +kernel
theorem dX6_greatestStakes_90 : decode cX6_greatestStakes 90 = .ok (.iload 6, 2) := by decide +kernel
theorem dX6_greatestStakes_92 : decode cX6_greatestStakes 92 = .ok (.goto 5, 3) := by decide +kernel
theorem dX6_greatestStakes_95 : decode cX6_greatestStakes 95 = .ok (.iload 5, 2) := by decide +kernel
theorem dX6_greatestStakes_97 : decode cX6_greatestStakes 97 = .ok (.istore 5, 2) := by decide +kernel
theorem dX6_greatestStakes_99 : decode cX6_greatestStakes 99 = .ok (.iinc 6 1, 3) := by decide +kernel
theorem dX6_greatestStakes_102 : decode cX6_greatestStakes 102 = .ok (.goto (-36), 3) := by decide +kernel
theorem dX6_greatestStakes_105 : decode cX6_greatestStakes 105 = .ok (.iload_n 3, 1) := by decide +kernel
theorem dX6_greatestStakes_106 : decode cX6_greatestStakes 106 = .ok (.aload_n 0, 1) := by decide +kernel
theorem dX6_greatestStakes_107 : decode cX6_greatestStakes 107 = .ok (.getfield 63, 3) := by decide +kernel
theorem dX6_greatestStakes_110 : decode cX6_greatestStakes 110 = .ok (.iload 5, 2) := by decide +kernel
theorem dX6_greatestStakes_112 : decode cX6_greatestStakes 112 = .ok (.iaload, 1) := by decide +kernel
theorem dX6_greatestStakes_113 : decode cX6_greatestStakes 113 = .ok (.iadd, 1) := by decide +kernel
theorem dX6_greatestStakes_114 : decode cX6_greatestStakes 114 = .ok (.istore_n 3, 1) := by decide +kernel
theorem dX6_greatestStakes_115 : decode cX6_greatestStakes 115 = .ok (.aload_n 0, 1) := by decide +kernel
theorem dX6_greatestStakes_116 : decode cX6_greatestStakes 116 = .ok (.getfield 63, 3) := by decide +kernel
theorem dX6_greatestStakes_119 : decode cX6_greatestStakes 119 = .ok (.iload 5, 2) := by decide +kernel
theorem dX6_greatestStakes_121 : decode cX6_greatestStakes 121 = .ok (.iconst 0, 1) := by decide +kernel
theorem dX6_greatestStakes_122 : decode cX6_greatestStakes 122 = .ok (.iastore, 1) := by decide +kernel
theorem dX6_greatestStakes_123 : decode cX6_greatestStakes 123 = .ok (.iinc 4 1, 3) := by decide +kernel
theorem dX6_greatestStakes_126 : decode cX6_greatestStakes 126 = .ok (.goto (-72), 3) := by decide +kernel
theorem dX6_greatestStakes_129 : decode cX6_greatestStakes 129 = .ok (.iload_n 3, 1) := by decide +kernel
theorem dX6_greatestStakes_130 : decode cX6_greatestStakes 130 = .ok (.ireturn, 1) := by decide +kernel
theorem dX6_inLowest_0 : decode cX6_inLowest 0 = .ok (.lload_n 0, 1) := by decide +kernel
theorem dX6_inLowest_1 : decode cX6_inLowest 1 = .ok (.lload_n 2, 1) := by decide +kernel
theorem dX6_inLowest_2 : decode cX6_inLowest 2 = .ok (.invokestatic 345, 3) := by decide +kernel
theorem dX6_inLowest_5 : decode cX6_inLowest 5 = .ok (.lstore 5, 2) := by decide +kernel
theorem dX6_inLowest_7 : decode cX6_inLowest 7 = .ok (.iload 4, 2) := by decide +kernel
theorem dX6_inLowest_9 : decode cX6_inLowest 9 = .ok (.ifCond .eq 10, 3) := by decide +kernel
theorem dX6_inLowest_12 : decode cX6_inLowest 12 = .ok (.lload_n 0, 1) := by decide +kernel
theorem dX6_inLowest_13 : decode cX6_inLowest 13 = .ok (.lload 5, 2) := by decide +kernel
theorem dX6_inLowest_15 : decode cX6_inLowest 15 = .ok (.ldiv, 1) := by decide +kernel
theorem dX6_inLowest_16 : decode cX6_inLowest 16 = .ok (.goto 7, 3) := by decide +kernel
theorem dX6_inLowest_19 : decode cX6_inLowest 19 = .ok (.lload_n 2, 1) := by decide +kernel
theorem dX6_inLowest_20 : decode cX6_inLowest 20 = .ok (.lload 5, 2) := by decide +kernel
theorem dX6_inLowest_22 : decode cX6_inLowest 22 = .ok (.ldiv, 1) := by decide +kernel
theorem dX6_inLowest_23 : decode cX6_inLowest 23 = .ok (.lreturn, 1) := by decide +kernel
theorem dX6_commonPart_0 : decode cX6_commonPart 0 = .ok (.lload_n 0, 1) := by decide +kernel
theorem dX6_commonPart_1 : decode cX6_commonPart 1 = .ok (.lstore 4, 2) := by decide +kernel
theorem dX6_commonPart_3 : decode cX6_commonPart 3 = .ok (.lload_n 2, 1) := by decide +kernel
theorem dX6_commonPart_4 : decode cX6_commonPart 4 = .ok (.lstore 6, 2) := by decide +kernel
theorem dX6_commonPart_6 : decode cX6_commonPart 6 = .ok (.iconst 0, 1) := by decide +kernel
theorem dX6_commonPart_7 : decode cX6_commonPart 7 = .ok (.istore 8, 2) := by decide +kernel
theorem dX6_commonPart_9 : decode cX6_commonPart 9 = .ok (.iload 8, 2) := by decide +kernel
theorem dX6_commonPart_11 : decode cX6_commonPart 11 = .ok (.sipush 200, 3) := by decide +kernel
theorem dX6_commonPart_14 : decode cX6_commonPart 14 = .ok (.if_icmp .ge 31, 3) := by decide +kernel
theorem dX6_commonPart_17 : decode cX6_commonPart 17 = .ok (.lload 6, 2) := by decide +kernel
theorem dX6_commonPart_19 : decode cX6_commonPart 19 = .ok (.lconst 0, 1) := by decide +kernel
theorem dX6_commonPart_20 : decode cX6_commonPart 20 = .ok (.lcmp, 1) := by decide +kernel
theorem dX6_commonPart_21 : decode cX6_commonPart 21 = .ok (.ifCond .eq 24, 3) := by decide +kernel
theorem dX6_commonPart_24 : decode cX6_commonPart 24 = .ok (.lload 4, 2) := by decide +kernel
theorem dX6_commonPart_26 : decode cX6_commonPart 26 = .ok (.lload 6, 2) := by decide +kernel
theorem dX6_commonPart_28 : decode cX6_commonPart 28 = .ok (.lrem, 1) := by decide +kernel
theorem dX6_commonPart_29 : decode cX6_commonPart 29 = .ok (.lstore 9, 2) := by decide +kernel
theorem dX6_commonPart_31 : decode cX6_commonPart 31 = .ok (.lload 6, 2) := by decide +kernel
theorem dX6_commonPart_33 : decode cX6_commonPart 33 = .ok (.lstore 4, 2) := by decide +kernel
theorem dX6_commonPart_35 : decode cX6_commonPart 35 = .ok (.lload 9, 2) := by decide +kernel
theorem dX6_commonPart_37 : decode cX6_commonPart 37 = .ok (.lstore 6, 2) := by decide +kernel
theorem dX6_commonPart_39 : decode cX6_commonPart 39 = .ok (.iinc 8 1, 3) := by decide +kernel
theorem dX6_commonPart_42 : decode cX6_commonPart 42 = .ok (.goto (-33), 3) := by decide +kernel
theorem dX6_commonPart_45 : decode cX6_commonPart 45 = .ok (.lconst 1, 1) := by decide +kernel
theorem dX6_commonPart_46 : decode cX6_commonPart 46 = .ok (.lload 4, 2) := by decide +kernel
theorem dX6_commonPart_48 : decode cX6_commonPart 48 = .ok (.invokestatic 349, 3) := by decide +kernel
theorem dX6_commonPart_51 : decode cX6_commonPart 51 = .ok (.lreturn, 1) := by decide +kernel
theorem dX6_choose_0 : decode cX6_choose 0 = .ok (.iload_n 1, 1) := by decide +kernel
theorem dX6_choose_1 : decode cX6_choose 1 = .ok (.ifCond .lt 8, 3) := by decide +kernel
theorem dX6_choose_4 : decode cX6_choose 4 = .ok (.iload_n 1, 1) := by decide +kernel
theorem dX6_choose_5 : decode cX6_choose 5 = .ok (.iload_n 0, 1) := by decide +kernel
theorem dX6_choose_6 : decode cX6_choose 6 = .ok (.if_icmp .le 5, 3) := by decide +kernel
theorem dX6_choose_9 : decode cX6_choose 9 = .ok (.lconst 0, 1) := by decide +kernel
theorem dX6_choose_10 : decode cX6_choose 10 = .ok (.lreturn, 1) := by decide +kernel
theorem dX6_choose_11 : decode cX6_choose 11 = .ok (.lconst 1, 1) := by decide +kernel
theorem dX6_choose_12 : decode cX6_choose 12 = .ok (.lstore_n 2, 1) := by decide +kernel
theorem dX6_choose_13 : decode cX6_choose 13 = .ok (.iconst 0, 1) := by decide +kernel
theorem dX6_choose_14 : decode cX6_choose 14 = .ok (.istore 4, 2) := by decide +kernel
theorem dX6_choose_16 : decode cX6_choose 16 = .ok (.iload 4, 2) := by decide +kernel
theorem dX6_choose_18 : decode cX6_choose 18 = .ok (.iload_n 1, 1) := by decide +kernel
theorem dX6_choose_19 : decode cX6_choose 19 = .ok (.if_icmp .ge 23, 3) := by decide +kernel
theorem dX6_choose_22 : decode cX6_choose 22 = .ok (.lload_n 2, 1) := by decide +kernel
theorem dX6_choose_23 : decode cX6_choose 23 = .ok (.iload_n 0, 1) := by decide +kernel
theorem dX6_choose_24 : decode cX6_choose 24 = .ok (.iload 4, 2) := by decide +kernel
theorem dX6_choose_26 : decode cX6_choose 26 = .ok (.isub, 1) := by decide +kernel
theorem dX6_choose_27 : decode cX6_choose 27 = .ok (.i2l, 1) := by decide +kernel
theorem dX6_choose_28 : decode cX6_choose 28 = .ok (.lmul, 1) := by decide +kernel
theorem dX6_choose_29 : decode cX6_choose 29 = .ok (.iload 4, 2) := by decide +kernel
theorem dX6_choose_31 : decode cX6_choose 31 = .ok (.iconst 1, 1) := by decide +kernel
theorem dX6_choose_32 : decode cX6_choose 32 = .ok (.iadd, 1) := by decide +kernel
theorem dX6_choose_33 : decode cX6_choose 33 = .ok (.i2l, 1) := by decide +kernel
theorem dX6_choose_34 : decode cX6_choose 34 = .ok (.ldiv, 1) := by decide +kernel
theorem dX6_choose_35 : decode cX6_choose 35 = .ok (.lstore_n 2, 1) := by decide +kernel
theorem dX6_choose_36 : decode cX6_choose 36 = .ok (.iinc 4 1, 3) := by decide +kernel
theorem dX6_choose_39 : decode cX6_choose 39 = .ok (.goto (-23), 3) := by decide +kernel
theorem dX6_choose_42 : decode cX6_choose 42 = .ok (.lload_n 2, 1) := by decide +kernel
theorem dX6_choose_43 : decode cX6_choose 43 = .ok (.lreturn, 1) := by decide +kernel
theorem dX6_wordsWithin_0 : decode cX6_wordsWithin 0 = .ok (.iconst 0, 1) := by decide +kernel
theorem dX6_wordsWithin_1 : decode cX6_wordsWithin 1 = .ok (.istore_n 3, 1) := by decide +kernel
theorem dX6_wordsWithin_2 : decode cX6_wordsWithin 2 = .ok (.iconst 0, 1) := by decide +kernel
theorem dX6_wordsWithin_3 : decode cX6_wordsWithin 3 = .ok (.istore 4, 2) := by decide +kernel
theorem dX6_wordsWithin_5 : decode cX6_wordsWithin 5 = .ok (.iload 4, 2) := by decide +kernel
theorem dX6_wordsWithin_7 : decode cX6_wordsWithin 7 = .ok (.aload_n 0, 1) := by decide +kernel
theorem dX6_wordsWithin_8 : decode cX6_wordsWithin 8 = .ok (.getfield 26, 3) := by decide +kernel
theorem dX6_wordsWithin_11 : decode cX6_wordsWithin 11 = .ok (.getfield 255, 3) := by decide +kernel
theorem dX6_wordsWithin_14 : decode cX6_wordsWithin 14 = .ok (.if_icmp .ge 73, 3) := by decide +kernel
theorem dX6_wordsWithin_17 : decode cX6_wordsWithin 17 = .ok (.aload_n 0, 1) := by decide +kernel
theorem dX6_wordsWithin_18 : decode cX6_wordsWithin 18 = .ok (.getfield 26, 3) := by decide +kernel
theorem dX6_wordsWithin_21 : decode cX6_wordsWithin 21 = .ok (.getfield 351, 3) := by decide +kernel
theorem dX6_wordsWithin_24 : decode cX6_wordsWithin 24 = .ok (.iload 4, 2) := by decide +kernel
theorem dX6_wordsWithin_26 : decode cX6_wordsWithin 26 = .ok (.iaload, 1) := by decide +kernel
theorem dX6_wordsWithin_27 : decode cX6_wordsWithin 27 = .ok (.iload_n 1, 1) := by decide +kernel
theorem dX6_wordsWithin_28 : decode cX6_wordsWithin 28 = .ok (.iconst (-1), 1) := by decide +kernel
theorem dX6_wordsWithin_29 : decode cX6_wordsWithin 29 = .ok (.ixor, 1) := by decide +kernel
theorem dX6_wordsWithin_30 : decode cX6_wordsWithin 30 = .ok (.iand, 1) := by decide +kernel
theorem dX6_wordsWithin_31 : decode cX6_wordsWithin 31 = .ok (.ifCond .ne 7, 3) := by decide +kernel
theorem dX6_wordsWithin_34 : decode cX6_wordsWithin 34 = .ok (.iconst 1, 1) := by decide +kernel
theorem dX6_wordsWithin_35 : decode cX6_wordsWithin 35 = .ok (.goto 4, 3) := by decide +kernel
theorem dX6_wordsWithin_38 : decode cX6_wordsWithin 38 = .ok (.iconst 0, 1) := by decide +kernel
theorem dX6_wordsWithin_39 : decode cX6_wordsWithin 39 = .ok (.istore 5, 2) := by decide +kernel
theorem dX6_wordsWithin_41 : decode cX6_wordsWithin 41 = .ok (.iload_n 3, 1) := by decide +kernel
theorem dX6_wordsWithin_42 : decode cX6_wordsWithin 42 = .ok (.iload 5, 2) := by decide +kernel
theorem dX6_wordsWithin_44 : decode cX6_wordsWithin 44 = .ok (.ifCond .eq 31, 3) := by decide +kernel
theorem dX6_wordsWithin_47 : decode cX6_wordsWithin 47 = .ok (.iload_n 2, 1) := by decide +kernel
theorem dX6_wordsWithin_48 : decode cX6_wordsWithin 48 = .ok (.ifCond .eq 23, 3) := by decide +kernel
theorem dX6_wordsWithin_51 : decode cX6_wordsWithin 51 = .ok (.aload_n 0, 1) := by decide +kernel
theorem dX6_wordsWithin_52 : decode cX6_wordsWithin 52 = .ok (.getfield 26, 3) := by decide +kernel
theorem dX6_wordsWithin_55 : decode cX6_wordsWithin 55 = .ok (.getfield 230, 3) := by decide +kernel
theorem dX6_wordsWithin_58 : decode cX6_wordsWithin 58 = .ok (.iload 4, 2) := by decide +kernel
theorem dX6_wordsWithin_60 : decode cX6_wordsWithin 60 = .ok (.iaload, 1) := by decide +kernel
theorem dX6_wordsWithin_61 : decode cX6_wordsWithin 61 = .ok (.aload_n 0, 1) := by decide +kernel
theorem dX6_wordsWithin_62 : decode cX6_wordsWithin 62 = .ok (.getfield 50, 3) := by decide +kernel
theorem dX6_wordsWithin_65 : decode cX6_wordsWithin 65 = .ok (.bipush 9, 2) := by decide +kernel
theorem dX6_wordsWithin_67 : decode cX6_wordsWithin 67 = .ok (.iaload, 1) := by decide +kernel
theorem dX6_wordsWithin_68 : decode cX6_wordsWithin 68 = .ok (.if_icmp .lt 7, 3) := by decide +kernel
theorem dX6_wordsWithin_71 : decode cX6_wordsWithin 71 = .ok (.iconst 1, 1) := by decide +kernel
theorem dX6_wordsWithin_72 : decode cX6_wordsWithin 72 = .ok (.goto 4, 3) := by decide +kernel
theorem dX6_wordsWithin_75 : decode cX6_wordsWithin 75 = .ok (.iconst 0, 1) := by decide +kernel
theorem dX6_wordsWithin_76 : decode cX6_wordsWithin 76 = .ok (.invokestatic 92, 3) := by decide +kernel
theorem dX6_wordsWithin_79 : decode cX6_wordsWithin 79 = .ok (.iadd, 1) := by decide +kernel
theorem dX6_wordsWithin_80 : decode cX6_wordsWithin 80 = .ok (.istore_n 3, 1) := by decide +kernel
theorem dX6_wordsWithin_81 : decode cX6_wordsWithin 81 = .ok (.iinc 4 1, 3) := by decide +kernel
theorem dX6_wordsWithin_84 : decode cX6_wordsWithin 84 = .ok (.goto (-79), 3) := by decide +kernel
theorem dX6_wordsWithin_87 : decode cX6_wordsWithin 87 = .ok (.iload_n 3, 1) := by decide +kernel
theorem dX6_wordsWithin_88 : decode cX6_wordsWithin 88 = .ok (.ireturn, 1) := by decide +kernel
theorem dX6_waysOf_0 : decode cX6_waysOf 0 = .ok (.aload_n 0, 1) := by decide +kernel
theorem dX6_waysOf_1 : decode cX6_waysOf 1 = .ok (.iload_n 1, 1) := by decide +kernel
theorem dX6_waysOf_2 : decode cX6_waysOf 2 = .ok (.iconst 0, 1) := by decide +kernel
theorem dX6_waysOf_3 : decode cX6_waysOf 3 = .ok (.invokevirtual 256, 3) := by decide +kernel
theorem dX6_waysOf_6 : decode cX6_waysOf 6 = .ok (.istore_n 3, 1) := by decide +kernel
theorem dX6_waysOf_7 : decode cX6_waysOf 7 = .ok (.aload_n 0, 1) := by decide +kernel
theorem dX6_waysOf_8 : decode cX6_waysOf 8 = .ok (.getfield 26, 3) := by decide +kernel
theorem dX6_waysOf_11 : decode cX6_waysOf 11 = .ok (.getfield 255, 3) := by decide +kernel
theorem dX6_waysOf_14 : decode cX6_waysOf 14 = .ok (.iload_n 3, 1) := by decide +kernel
theorem dX6_waysOf_15 : decode cX6_waysOf 15 = .ok (.isub, 1) := by decide +kernel
theorem dX6_waysOf_16 : decode cX6_waysOf 16 = .ok (.istore 4, 2) := by decide +kernel
theorem dX6_waysOf_18 : decode cX6_waysOf 18 = .ok (.lconst 0, 1) := by decide +kernel
theorem dX6_waysOf_19 : decode cX6_waysOf 19 = .ok (.lstore 5, 2) := by decide +kernel
theorem dX6_waysOf_21 : decode cX6_waysOf 21 = .ok (.aload_n 0, 1) := by decide +kernel
theorem dX6_waysOf_22 : decode cX6_waysOf 22 = .ok (.iload_n 1, 1) := by decide +kernel
theorem dX6_waysOf_23 : decode cX6_waysOf 23 = .ok (.iconst 1, 1) := by decide +kernel
theorem dX6_waysOf_24 : decode cX6_waysOf 24 = .ok (.invokevirtual 256, 3) := by decide +kernel
theorem dX6_waysOf_27 : decode cX6_waysOf 27 = .ok (.istore 7, 2) := by decide +kernel
theorem dX6_waysOf_29 : decode cX6_waysOf 29 = .ok (.iload 7, 2) := by decide +kernel
theorem dX6_waysOf_31 : decode cX6_waysOf 31 = .ok (.iload_n 3, 1) := by decide +kernel
theorem dX6_waysOf_32 : decode cX6_waysOf 32 = .ok (.if_icmp .gt 36, 3) := by decide +kernel
theorem dX6_waysOf_35 : decode cX6_waysOf 35 = .ok (.iload 7, 2) := by decide +kernel
theorem dX6_waysOf_37 : decode cX6_waysOf 37 = .ok (.iload_n 2, 1) := by decide +kernel
theorem dX6_waysOf_38 : decode cX6_waysOf 38 = .ok (.if_icmp .gt 30, 3) := by decide +kernel
theorem dX6_waysOf_41 : decode cX6_waysOf 41 = .ok (.lload 5, 2) := by decide +kernel
theorem dX6_waysOf_43 : decode cX6_waysOf 43 = .ok (.iload_n 3, 1) := by decide +kernel
theorem dX6_waysOf_44 : decode cX6_waysOf 44 = .ok (.iload 7, 2) := by decide +kernel
theorem dX6_waysOf_46 : decode cX6_waysOf 46 = .ok (.invokestatic 265, 3) := by decide +kernel
theorem dX6_waysOf_49 : decode cX6_waysOf 49 = .ok (.iload 4, 2) := by decide +kernel
theorem dX6_waysOf_51 : decode cX6_waysOf 51 = .ok (.iload_n 2, 1) := by decide +kernel
theorem dX6_waysOf_52 : decode cX6_waysOf 52 = .ok (.iload 7, 2) := by decide +kernel
theorem dX6_waysOf_54 : decode cX6_waysOf 54 = .ok (.isub, 1) := by decide +kernel
theorem dX6_waysOf_55 : decode cX6_waysOf 55 = .ok (.invokestatic 265, 3) := by decide +kernel
theorem dX6_waysOf_58 : decode cX6_waysOf 58 = .ok (.lmul, 1) := by decide +kernel
theorem dX6_waysOf_59 : decode cX6_waysOf 59 = .ok (.ladd, 1) := by decide +kernel
theorem dX6_waysOf_60 : decode cX6_waysOf 60 = .ok (.lstore 5, 2) := by decide +kernel
theorem dX6_waysOf_62 : decode cX6_waysOf 62 = .ok (.iinc 7 1, 3) := by decide +kernel
theorem dX6_waysOf_65 : decode cX6_waysOf 65 = .ok (.goto (-36), 3) := by decide +kernel
theorem dX6_waysOf_68 : decode cX6_waysOf 68 = .ok (.lload 5, 2) := by decide +kernel
theorem dX6_waysOf_70 : decode cX6_waysOf 70 = .ok (.lreturn, 1) := by decide +kernel
theorem dX6_boughtRoom_0 : decode cX6_boughtRoom 0 = .ok (.iload_n 1, 1) := by decide +kernel
theorem dX6_boughtRoom_1 : decode cX6_boughtRoom 1 = .ok (.aload_n 0, 1) := by decide +kernel
theorem dX6_boughtRoom_2 : decode cX6_boughtRoom 2 = .ok (.getfield 50, 3) := by decide +kernel
theorem dX6_boughtRoom_5 : decode cX6_boughtRoom 5 = .ok (.iconst 3, 1) := by decide +kernel
theorem dX6_boughtRoom_6 : decode cX6_boughtRoom 6 = .ok (.iaload, 1) := by decide +kernel
theorem dX6_boughtRoom_7 : decode cX6_boughtRoom 7 = .ok (.imul, 1) := by decide +kernel
theorem dX6_boughtRoom_8 : decode cX6_boughtRoom 8 = .ok (.bipush 100, 2) := by decide +kernel
theorem dX6_boughtRoom_10 : decode cX6_boughtRoom 10 = .ok (.idiv, 1) := by decide +kernel
theorem dX6_boughtRoom_11 : decode cX6_boughtRoom 11 = .ok (.ireturn, 1) := by decide +kernel
theorem dX6_sellingNames_0 : decode cX6_sellingNames 0 = .ok (.iconst 0, 1) := by decide +kernel
theorem dX6_sellingNames_1 : decode cX6_sellingNames 1 = .ok (.istore_n 1, 1) := by decide +kernel
theorem dX6_sellingNames_2 : decode cX6_sellingNames 2 = .ok (.iconst 0, 1) := by decide +kernel
theorem dX6_sellingNames_3 : decode cX6_sellingNames 3 = .ok (.istore_n 2, 1) := by decide +kernel
theorem dX6_sellingNames_4 : decode cX6_sellingNames 4 = .ok (.iload_n 2, 1) := by decide +kernel
theorem dX6_sellingNames_5 : decode cX6_sellingNames 5 = .ok (.aload_n 0, 1) := by decide +kernel
theorem dX6_sellingNames_6 : decode cX6_sellingNames 6 = .ok (.getfield 12, 3) := by decide +kernel
theorem dX6_sellingNames_9 : decode cX6_sellingNames 9 = .ok (.getfield 161, 3) := by decide +kernel
theorem dX6_sellingNames_12 : decode cX6_sellingNames 12 = .ok (.if_icmp .ge 39, 3) := by decide +kernel
theorem dX6_sellingNames_15 : decode cX6_sellingNames 15 = .ok (.aload_n 0, 1) := by decide +kernel
theorem dX6_sellingNames_16 : decode cX6_sellingNames 16 = .ok (.getfield 12, 3) := by decide +kernel
theorem dX6_sellingNames_19 : decode cX6_sellingNames 19 = .ok (.getfield 143, 3) := by decide +kernel
theorem dX6_sellingNames_22 : decode cX6_sellingNames 22 = .ok (.iload_n 2, 1) := by decide +kernel
theorem dX6_sellingNames_23 : decode cX6_sellingNames 23 = .ok (.iaload, 1) := by decide +kernel
theorem dX6_sellingNames_24 : decode cX6_sellingNames 24 = .ok (.ifCond .le 21, 3) := by decide +kernel
theorem dX6_sellingNames_27 : decode cX6_sellingNames 27 = .ok (.aload_n 0, 1) := by decide +kernel
theorem dX6_sellingNames_28 : decode cX6_sellingNames 28 = .ok (.getfield 12, 3) := by decide +kernel
theorem dX6_sellingNames_31 : decode cX6_sellingNames 31 = .ok (.getfield 96, 3) := by decide +kernel
theorem dX6_sellingNames_34 : decode cX6_sellingNames 34 = .ok (.iload_n 2, 1) := by decide +kernel
theorem dX6_sellingNames_35 : decode cX6_sellingNames 35 = .ok (.baload, 1) := by decide +kernel
theorem dX6_sellingNames_36 : decode cX6_sellingNames 36 = .ok (.ifCond .ne 9, 3) := by decide +kernel
theorem dX6_sellingNames_39 : decode cX6_sellingNames 39 = .ok (.iload_n 1, 1) := by decide +kernel
theorem dX6_sellingNames_40 : decode cX6_sellingNames 40 = .ok (.iconst 1, 1) := by decide +kernel
theorem dX6_sellingNames_41 : decode cX6_sellingNames 41 = .ok (.iload_n 2, 1) := by decide +kernel
theorem dX6_sellingNames_42 : decode cX6_sellingNames 42 = .ok (.ishl, 1) := by decide +kernel
theorem dX6_sellingNames_43 : decode cX6_sellingNames 43 = .ok (.ior, 1) := by decide +kernel
theorem dX6_sellingNames_44 : decode cX6_sellingNames 44 = .ok (.istore_n 1, 1) := by decide +kernel
theorem dX6_sellingNames_45 : decode cX6_sellingNames 45 = .ok (.iinc 2 1, 3) := by decide +kernel
theorem dX6_sellingNames_48 : decode cX6_sellingNames 48 = .ok (.goto (-44), 3) := by decide +kernel
theorem dX6_sellingNames_51 : decode cX6_sellingNames 51 = .ok (.iload_n 1, 1) := by decide +kernel
theorem dX6_sellingNames_52 : decode cX6_sellingNames 52 = .ok (.ireturn, 1) := by decide +kernel
theorem dX6_gainBy_0 : decode cX6_gainBy 0 = .ok (.iconst 0, 1) := by decide +kernel
theorem dX6_gainBy_1 : decode cX6_gainBy 1 = .ok (.istore 4, 2) := by decide +kernel
theorem dX6_gainBy_3 : decode cX6_gainBy 3 = .ok (.aload_n 0, 1) := by decide +kernel
theorem dX6_gainBy_4 : decode cX6_gainBy 4 = .ok (.getfield 40, 3) := by decide +kernel
theorem dX6_gainBy_7 : decode cX6_gainBy 7 = .ok (.invokevirtual 354, 3) := by decide +kernel
theorem dX6_gainBy_10 : decode cX6_gainBy 10 = .ok (.iconst 0, 1) := by decide +kernel
theorem dX6_gainBy_11 : decode cX6_gainBy 11 = .ok (.istore 5, 2) := by decide +kernel
theorem dX6_gainBy_13 : decode cX6_gainBy 13 = .ok (.iload 5, 2) := by decide +kernel
theorem dX6_gainBy_15 : decode cX6_gainBy 15 = .ok (.aload_n 0, 1) := by decide +kernel
theorem dX6_gainBy_16 : decode cX6_gainBy 16 = .ok (.getfield 12, 3) := by decide +kernel
theorem dX6_gainBy_19 : decode cX6_gainBy 19 = .ok (.getfield 161, 3) := by decide +kernel
theorem dX6_gainBy_22 : decode cX6_gainBy 22 = .ok (.if_icmp .ge 45, 3) := by decide +kernel
theorem dX6_gainBy_25 : decode cX6_gainBy 25 = .ok (.iload_n 1, 1) := by decide +kernel
theorem dX6_gainBy_26 : decode cX6_gainBy 26 = .ok (.iload 5, 2) := by decide +kernel
theorem dX6_gainBy_28 : decode cX6_gainBy 28 = .ok (.invokestatic 162, 3) := by decide +kernel
theorem dX6_gainBy_31 : decode cX6_gainBy 31 = .ok (.ifCond .eq 30, 3) := by decide +kernel
theorem dX6_gainBy_34 : decode cX6_gainBy 34 = .ok (.iload 4, 2) := by decide +kernel
theorem dX6_gainBy_36 : decode cX6_gainBy 36 = .ok (.aload_n 0, 1) := by decide +kernel
theorem dX6_gainBy_37 : decode cX6_gainBy 37 = .ok (.getfield 12, 3) := by decide +kernel
theorem dX6_gainBy_40 : decode cX6_gainBy 40 = .ok (.getfield 143, 3) := by decide +kernel
theorem dX6_gainBy_43 : decode cX6_gainBy 43 = .ok (.iload 5, 2) := by decide +kernel
theorem dX6_gainBy_45 : decode cX6_gainBy 45 = .ok (.iaload, 1) := by decide +kernel
theorem dX6_gainBy_46 : decode cX6_gainBy 46 = .ok (.iadd, 1) := by decide +kernel
theorem dX6_gainBy_47 : decode cX6_gainBy 47 = .ok (.istore 4, 2) := by decide +kernel
theorem dX6_gainBy_49 : decode cX6_gainBy 49 = .ok (.aload_n 0, 1) := by decide +kernel
theorem dX6_gainBy_50 : decode cX6_gainBy 50 = .ok (.getfield 40, 3) := by decide +kernel
theorem dX6_gainBy_53 : decode cX6_gainBy 53 = .ok (.iload 5, 2) := by decide +kernel
theorem dX6_gainBy_55 : decode cX6_gainBy 55 = .ok (.bipush 12, 2) := by decide +kernel
theorem dX6_gainBy_57 : decode cX6_gainBy 57 = .ok (.iload_n 2, 1) := by decide +kernel
theorem dX6_gainBy_58 : decode cX6_gainBy 58 = .ok (.invokevirtual 338, 3) := by decide +kernel
theorem dX6_gainBy_61 : decode cX6_gainBy 61 = .ok (.iinc 5 1, 3) := by decide +kernel
theorem dX6_gainBy_64 : decode cX6_gainBy 64 = .ok (.goto (-51), 3) := by decide +kernel
theorem dX6_gainBy_67 : decode cX6_gainBy 67 = .ok (.iload_n 3, 1) := by decide +kernel
theorem dX6_gainBy_68 : decode cX6_gainBy 68 = .ok (.aload_n 0, 1) := by decide +kernel
theorem dX6_gainBy_69 : decode cX6_gainBy 69 = .ok (.getfield 40, 3) := by decide +kernel
theorem dX6_gainBy_72 : decode cX6_gainBy 72 = .ok (.sipush 4096, 3) := by decide +kernel
theorem dX6_gainBy_75 : decode cX6_gainBy 75 = .ok (.invokevirtual 193, 3) := by decide +kernel
theorem dX6_gainBy_78 : decode cX6_gainBy 78 = .ok (.imul, 1) := by decide +kernel
theorem dX6_gainBy_79 : decode cX6_gainBy 79 = .ok (.iload 4, 2) := by decide +kernel
theorem dX6_gainBy_81 : decode cX6_gainBy 81 = .ok (.isub, 1) := by decide +kernel
theorem dX6_gainBy_82 : decode cX6_gainBy 82 = .ok (.ireturn, 1) := by decide +kernel
theorem dX7_init_0 : decode cX7_init 0 = .ok (.aload_n 0, 1) := by decide +kernel
theorem dX7_init_1 : decode cX7_init 1 = .ok (.invokespecial 1, 3) := by decide +kernel
theorem dX7_init_4 : decode cX7_init 4 = .ok (.aload_n 0, 1) := by decide +kernel
theorem dX7_init_5 : decode cX7_init 5 = .ok (.bipush 12, 2) := by decide +kernel
theorem dX7_init_7 : decode cX7_init 7 = .ok (.newarray .int, 2) := by decide +kernel
theorem dX7_init_9 : decode cX7_init 9 = .ok (.putfield 7, 3) := by decide +kernel
theorem dX7_init_12 : decode cX7_init 12 = .ok (.aload_n 0, 1) := by decide +kernel
theorem dX7_init_13 : decode cX7_init 13 = .ok (.bipush 12, 2) := by decide +kernel
theorem dX7_init_15 : decode cX7_init 15 = .ok (.newarray .boolean, 2) := by decide +kernel
theorem dX7_init_17 : decode cX7_init 17 = .ok (.putfield 13, 3) := by decide +kernel
theorem dX7_init_20 : decode cX7_init 20 = .ok (.aload_n 0, 1) := by decide +kernel
theorem dX7_init_21 : decode cX7_init 21 = .ok (.bipush 12, 2) := by decide +kernel
theorem dX7_init_23 : decode cX7_init 23 = .ok (.newarray .boolean, 2) := by decide +kernel
theorem dX7_init_25 : decode cX7_init 25 = .ok (.putfield 17, 3) := by decide +kernel
theorem dX7_init_28 : decode cX7_init 28 = .ok (.aload_n 0, 1) := by decide +kernel
theorem dX7_init_29 : decode cX7_init 29 = .ok (.bipush 12, 2) := by decide +kernel
theorem dX7_init_31 : decode cX7_init 31 = .ok (.newarray .int, 2) := by decide +kernel
theorem dX7_init_33 : decode cX7_init 33 = .ok (.putfield 20, 3) := by decide +kernel
theorem dX7_init_36 : decode cX7_init 36 = .ok (.aload_n 0, 1) := by decide +kernel
theorem dX7_init_37 : decode cX7_init 37 = .ok (.bipush 12, 2) := by decide +kernel
theorem dX7_init_39 : decode cX7_init 39 = .ok (.newarray .int, 2) := by decide +kernel
theorem dX7_init_41 : decode cX7_init 41 = .ok (.putfield 23, 3) := by decide +kernel
theorem dX7_init_44 : decode cX7_init 44 = .ok (.aload_n 0, 1) := by decide +kernel
theorem dX7_init_45 : decode cX7_init 45 = .ok (.bipush 24, 2) := by decide +kernel
theorem dX7_init_47 : decode cX7_init 47 = .ok (.newarray .int, 2) := by decide +kernel
theorem dX7_init_49 : decode cX7_init 49 = .ok (.putfield 26, 3) := by decide +kernel
theorem dX7_init_52 : decode cX7_init 52 = .ok (.aload_n 0, 1) := by decide +kernel
theorem dX7_init_53 : decode cX7_init 53 = .ok (.bipush 24, 2) := by decide +kernel
theorem dX7_init_55 : decode cX7_init 55 = .ok (.newarray .int, 2) := by decide +kernel
theorem dX7_init_57 : decode cX7_init 57 = .ok (.putfield 29, 3) := by decide +kernel
theorem dX7_init_60 : decode cX7_init 60 = .ok (.aload_n 0, 1) := by decide +kernel
theorem dX7_init_61 : decode cX7_init 61 = .ok (.bipush 24, 2) := by decide +kernel
theorem dX7_init_63 : decode cX7_init 63 = .ok (.newarray .int, 2) := by decide +kernel
theorem dX7_init_65 : decode cX7_init 65 = .ok (.putfield 32, 3) := by decide +kernel
theorem dX7_init_68 : decode cX7_init 68 = .ok (.aload_n 0, 1) := by decide +kernel
theorem dX7_init_69 : decode cX7_init 69 = .ok (.bipush 24, 2) := by decide +kernel
theorem dX7_init_71 : decode cX7_init 71 = .ok (.newarray .int, 2) := by decide +kernel
theorem dX7_init_73 : decode cX7_init 73 = .ok (.putfield 35, 3) := by decide +kernel
theorem dX7_init_76 : decode cX7_init 76 = .ok (.aload_n 0, 1) := by decide +kernel
theorem dX7_init_77 : decode cX7_init 77 = .ok (.bipush 24, 2) := by decide +kernel
theorem dX7_init_79 : decode cX7_init 79 = .ok (.newarray .int, 2) := by decide +kernel
theorem dX7_init_81 : decode cX7_init 81 = .ok (.putfield 38, 3) := by decide +kernel
theorem dX7_init_84 : decode cX7_init 84 = .ok (.aload_n 0, 1) := by decide +kernel
theorem dX7_init_85 : decode cX7_init 85 = .ok (.bipush 10, 2) := by decide +kernel
theorem dX7_init_87 : decode cX7_init 87 = .ok (.newarray .int, 2) := by decide +kernel
theorem dX7_init_89 : decode cX7_init 89 = .ok (.putfield 41, 3) := by decide +kernel
theorem dX7_init_92 : decode cX7_init 92 = .ok (.aload_n 0, 1) := by decide +kernel
theorem dX7_init_93 : decode cX7_init 93 = .ok (.bipush 10, 2) := by decide +kernel
theorem dX7_init_95 : decode cX7_init 95 = .ok (.newarray .int, 2) := by decide +kernel
theorem dX7_init_97 : decode cX7_init 97 = .ok (.putfield 44, 3) := by decide +kernel
theorem dX7_init_100 : decode cX7_init 100 = .ok (.aload_n 0, 1) := by decide +kernel
theorem dX7_init_101 : decode cX7_init 101 = .ok (.bipush 10, 2) := by decide +kernel
theorem dX7_init_103 : decode cX7_init 103 = .ok (.newarray .boolean, 2) := by decide +kernel
theorem dX7_init_105 : decode cX7_init 105 = .ok (.putfield 47, 3) := by decide +kernel
theorem dX7_init_108 : decode cX7_init 108 = .ok (.aload_n 0, 1) := by decide +kernel
theorem dX7_init_109 : decode cX7_init 109 = .ok (.sipush 200, 3) := by decide +kernel
theorem dX7_init_112 : decode cX7_init 112 = .ok (.newarray .int, 2) := by decide +kernel
theorem dX7_init_114 : decode cX7_init 114 = .ok (.putfield 50, 3) := by decide +kernel
theorem dX7_init_117 : decode cX7_init 117 = .ok (.aload_n 0, 1) := by decide +kernel
theorem dX7_init_118 : decode cX7_init 118 = .ok (.sipush 196, 3) := by decide +kernel
theorem dX7_init_121 : decode cX7_init 121 = .ok (.newarray .int, 2) := by decide +kernel
theorem dX7_init_123 : decode cX7_init 123 = .ok (.putfield 53, 3) := by decide +kernel
theorem dX7_init_126 : decode cX7_init 126 = .ok (.aload_n 0, 1) := by decide +kernel
theorem dX7_init_127 : decode cX7_init 127 = .ok (.bipush 14, 2) := by decide +kernel
theorem dX7_init_129 : decode cX7_init 129 = .ok (.newarray .int, 2) := by decide +kernel
theorem dX7_init_131 : decode cX7_init 131 = .ok (.putfield 56, 3) := by decide +kernel
theorem dX7_init_134 : decode cX7_init 134 = .ok (.aload_n 0, 1) := by decide +kernel
theorem dX7_init_135 : decode cX7_init 135 = .ok (.bipush 14, 2) := by decide +kernel
theorem dX7_init_137 : decode cX7_init 137 = .ok (.newarray .int, 2) := by decide +kernel
theorem dX7_init_139 : decode cX7_init 139 = .ok (.putfield 59, 3) := by decide +kernel
theorem dX7_init_142 : decode cX7_init 142 = .ok (.aload_n 0, 1) := by decide +kernel
theorem dX7_init_143 : decode cX7_init 143 = .ok (.bipush 24, 2) := by decide +kernel
theorem dX7_init_145 : decode cX7_init 145 = .ok (.newarray .int, 2) := by decide +kernel
theorem dX7_init_147 : decode cX7_init 147 = .ok (.putfield 62, 3) := by decide +kernel
theorem dX7_init_150 : decode cX7_init 150 = .ok (.aload_n 0, 1) := by decide +kernel
theorem dX7_init_151 : decode cX7_init 151 = .ok (.bipush 24, 2) := by decide +kernel
theorem dX7_init_153 : decode cX7_init 153 = .ok (.newarray .int, 2) := by decide +kernel
theorem dX7_init_155 : decode cX7_init 155 = .ok (.putfield 65, 3) := by decide +kernel
theorem dX7_init_158 : decode cX7_init 158 = .ok (.aload_n 0, 1) := by decide +kernel
theorem dX7_init_159 : decode cX7_init 159 = .ok (.bipush 24, 2) := by decide +kernel
theorem dX7_init_161 : decode cX7_init 161 = .ok (.newarray .int, 2) := by decide +kernel
theorem dX7_init_163 : decode cX7_init 163 = .ok (.putfield 68, 3) := by decide +kernel
theorem dX7_init_166 : decode cX7_init 166 = .ok (.aload_n 0, 1) := by decide +kernel
theorem dX7_init_167 : decode cX7_init 167 = .ok (.bipush 24, 2) := by decide +kernel
theorem dX7_init_169 : decode cX7_init 169 = .ok (.newarray .int, 2) := by decide +kernel
theorem dX7_init_171 : decode cX7_init 171 = .ok (.putfield 71, 3) := by decide +kernel
theorem dX7_init_174 : decode cX7_init 174 = .ok (.aload_n 0, 1) := by decide +kernel
theorem dX7_init_175 : decode cX7_init 175 = .ok (.bipush 24, 2) := by decide +kernel
theorem dX7_init_177 : decode cX7_init 177 = .ok (.newarray .int, 2) := by decide +kernel
theorem dX7_init_179 : decode cX7_init 179 = .ok (.putfield 74, 3) := by decide +kernel
theorem dX7_init_182 : decode cX7_init 182 = .ok (.aload_n 0, 1) := by decide +kernel
theorem dX7_init_183 : decode cX7_init 183 = .ok (.bipush 12, 2) := by decide +kernel
theorem dX7_init_185 : decode cX7_init 185 = .ok (.newarray .int, 2) := by decide +kernel
theorem dX7_init_187 : decode cX7_init 187 = .ok (.putfield 77, 3) := by decide +kernel
theorem dX7_init_190 : decode cX7_init 190 = .ok (.aload_n 0, 1) := by decide +kernel
theorem dX7_init_191 : decode cX7_init 191 = .ok (.bipush 12, 2) := by decide +kernel
theorem dX7_init_193 : decode cX7_init 193 = .ok (.newarray .int, 2) := by decide +kernel
theorem dX7_init_195 : decode cX7_init 195 = .ok (.putfield 80, 3) := by decide +kernel
theorem dX7_init_198 : decode cX7_init 198 = .ok (.aload_n 0, 1) := by decide +kernel
theorem dX7_init_199 : decode cX7_init 199 = .ok (.iconst 4, 1) := by decide +kernel
theorem dX7_init_200 : decode cX7_init 200 = .ok (.newarray .int, 2) := by decide +kernel
theorem dX7_init_202 : decode cX7_init 202 = .ok (.putfield 83, 3) := by decide +kernel
theorem dX7_init_205 : decode cX7_init 205 = .ok (.aload_n 0, 1) := by decide +kernel
theorem dX7_init_206 : decode cX7_init 206 = .ok (.iconst 4, 1) := by decide +kernel
theorem dX7_init_207 : decode cX7_init 207 = .ok (.newarray .int, 2) := by decide +kernel
theorem dX7_init_209 : decode cX7_init 209 = .ok (.putfield 86, 3) := by decide +kernel
theorem dX7_init_212 : decode cX7_init 212 = .ok (.aload_n 0, 1) := by decide +kernel
theorem dX7_init_213 : decode cX7_init 213 = .ok (.sipush 192, 3) := by decide +kernel
theorem dX7_init_216 : decode cX7_init 216 = .ok (.newarray .int, 2) := by decide +kernel
theorem dX7_init_218 : decode cX7_init 218 = .ok (.putfield 89, 3) := by decide +kernel
theorem dX7_init_221 : decode cX7_init 221 = .ok (.iconst 0, 1) := by decide +kernel
theorem dX7_init_222 : decode cX7_init 222 = .ok (.istore_n 1, 1) := by decide +kernel
theorem dX7_init_223 : decode cX7_init 223 = .ok (.iload_n 1, 1) := by decide +kernel
theorem dX7_init_224 : decode cX7_init 224 = .ok (.iconst 4, 1) := by decide +kernel
theorem dX7_init_225 : decode cX7_init 225 = .ok (.if_icmp .ge 17, 3) := by decide +kernel
theorem dX7_init_228 : decode cX7_init 228 = .ok (.aload_n 0, 1) := by decide +kernel
theorem dX7_init_229 : decode cX7_init 229 = .ok (.getfield 83, 3) := by decide +kernel
theorem dX7_init_232 : decode cX7_init 232 = .ok (.iload_n 1, 1) := by decide +kernel
theorem dX7_init_233 : decode cX7_init 233 = .ok (.bipush (-4), 2) := by decide +kernel
theorem dX7_init_235 : decode cX7_init 235 = .ok (.iastore, 1) := by decide +kernel
theorem dX7_init_236 : decode cX7_init 236 = .ok (.iinc 1 1, 3) := by decide +kernel
theorem dX7_init_239 : decode cX7_init 239 = .ok (.goto (-16), 3) := by decide +kernel
theorem dX7_init_242 : decode cX7_init 242 = .ok (.aload_n 0, 1) := by decide +kernel
theorem dX7_init_243 : decode cX7_init 243 = .ok (.invokevirtual 92, 3) := by decide +kernel
theorem dX7_init_246 : decode cX7_init 246 = .ok (.aload_n 0, 1) := by decide +kernel
theorem dX7_init_247 : decode cX7_init 247 = .ok (.invokevirtual 95, 3) := by decide +kernel
theorem dX7_init_250 : decode cX7_init 250 = .ok (.return_, 1) := by decide +kernel
theorem dX7_in_0 : decode cX7_in 0 = .ok (.lload_n 0, 1) := by decide +kernel
theorem dX7_in_1 : decode cX7_in 1 = .ok (.lload_n 2, 1) := by decide +kernel
theorem dX7_in_2 : decode cX7_in 2 = .ok (.lcmp, 1) := by decide +kernel
theorem dX7_in_3 : decode cX7_in 3 = .ok (.ifCond .lt 14, 3) := by decide +kernel
theorem dX7_in_6 : decode cX7_in 6 = .ok (.lload_n 0, 1) := by decide +kernel
theorem dX7_in_7 : decode cX7_in 7 = .ok (.lload 4, 2) := by decide +kernel
theorem dX7_in_9 : decode cX7_in 9 = .ok (.lcmp, 1) := by decide +kernel
theorem dX7_in_10 : decode cX7_in 10 = .ok (.ifCond .gt 7, 3) := by decide +kernel
theorem dX7_in_13 : decode cX7_in 13 = .ok (.iconst 1, 1) := by decide +kernel
theorem dX7_in_14 : decode cX7_in 14 = .ok (.goto 4, 3) := by decide +kernel
theorem dX7_in_17 : decode cX7_in 17 = .ok (.iconst 0, 1) := by decide +kernel
theorem dX7_in_18 : decode cX7_in 18 = .ok (.ireturn, 1) := by decide +kernel
theorem dX7_bits_0 : decode cX7_bits 0 = .ok (.iconst 0, 1) := by decide +kernel
theorem dX7_bits_1 : decode cX7_bits 1 = .ok (.istore_n 1, 1) := by decide +kernel
theorem dX7_bits_2 : decode cX7_bits 2 = .ok (.iconst 0, 1) := by decide +kernel
theorem dX7_bits_3 : decode cX7_bits 3 = .ok (.istore_n 2, 1) := by decide +kernel
theorem dX7_bits_4 : decode cX7_bits 4 = .ok (.iload_n 2, 1) := by decide +kernel
theorem dX7_bits_5 : decode cX7_bits 5 = .ok (.bipush 24, 2) := by decide +kernel
theorem dX7_bits_7 : decode cX7_bits 7 = .ok (.if_icmp .ge 17, 3) := by decide +kernel
theorem dX7_bits_10 : decode cX7_bits 10 = .ok (.iload_n 1, 1) := by decide +kernel
theorem dX7_bits_11 : decode cX7_bits 11 = .ok (.iload_n 0, 1) := by decide +kernel
theorem dX7_bits_12 : decode cX7_bits 12 = .ok (.iload_n 2, 1) := by decide +kernel
theorem dX7_bits_13 : decode cX7_bits 13 = .ok (.ishr, 1) := by decide +kernel
theorem dX7_bits_14 : decode cX7_bits 14 = .ok (.iconst 1, 1) := by decide +kernel
theorem dX7_bits_15 : decode cX7_bits 15 = .ok (.iand, 1) := by decide +kernel
theorem dX7_bits_16 : decode cX7_bits 16 = .ok (.iadd, 1) := by decide +kernel
theorem dX7_bits_17 : decode cX7_bits 17 = .ok (.istore_n 1, 1) := by decide +kernel
theorem dX7_bits_18 : decode cX7_bits 18 = .ok (.iinc 2 1, 3) := by decide +kernel
theorem dX7_bits_21 : decode cX7_bits 21 = .ok (.goto (-17), 3) := by decide +kernel
theorem dX7_bits_24 : decode cX7_bits 24 = .ok (.iload_n 1, 1) := by decide +kernel
theorem dX7_bits_25 : decode cX7_bits 25 = .ok (.ireturn, 1) := by decide +kernel
theorem dX7_common_0 : decode cX7_common 0 = .ok (.lload_n 0, 1) := by decide +kernel
theorem dX7_common_1 : decode cX7_common 1 = .ok (.lstore 4, 2) := by decide +kernel
theorem dX7_common_3 : decode cX7_common 3 = .ok (.lload_n 2, 1) := by decide +kernel
theorem dX7_common_4 : decode cX7_common 4 = .ok (.lstore 6, 2) := by decide +kernel
theorem dX7_common_6 : decode cX7_common 6 = .ok (.lload 6, 2) := by decide +kernel
theorem dX7_common_8 : decode cX7_common 8 = .ok (.lconst 0, 1) := by decide +kernel
theorem dX7_common_9 : decode cX7_common 9 = .ok (.lcmp, 1) := by decide +kernel
theorem dX7_common_10 : decode cX7_common 10 = .ok (.ifCond .eq 21, 3) := by decide +kernel
theorem dX7_common_13 : decode cX7_common 13 = .ok (.lload 4, 2) := by decide +kernel
theorem dX7_common_15 : decode cX7_common 15 = .ok (.lload 6, 2) := by decide +kernel
theorem dX7_common_17 : decode cX7_common 17 = .ok (.lrem, 1) := by decide +kernel
theorem dX7_common_18 : decode cX7_common 18 = .ok (.lstore 8, 2) := by decide +kernel
theorem dX7_common_20 : decode cX7_common 20 = .ok (.lload 6, 2) := by decide +kernel
theorem dX7_common_22 : decode cX7_common 22 = .ok (.lstore 4, 2) := by decide +kernel
theorem dX7_common_24 : decode cX7_common 24 = .ok (.lload 8, 2) := by decide +kernel
theorem dX7_common_26 : decode cX7_common 26 = .ok (.lstore 6, 2) := by decide +kernel
theorem dX7_common_28 : decode cX7_common 28 = .ok (.goto (-22), 3) := by decide +kernel
theorem dX7_common_31 : decode cX7_common 31 = .ok (.lload 4, 2) := by decide +kernel
theorem dX7_common_33 : decode cX7_common 33 = .ok (.lreturn, 1) := by decide +kernel
theorem dX7_isName_0 : decode cX7_isName 0 = .ok (.iload_n 1, 1) := by decide +kernel
theorem dX7_isName_1 : decode cX7_isName 1 = .ok (.i2l, 1) := by decide +kernel
theorem dX7_isName_2 : decode cX7_isName 2 = .ok (.lconst 0, 1) := by decide +kernel
theorem dX7_isName_3 : decode cX7_isName 3 = .ok (.aload_n 0, 1) := by decide +kernel
theorem dX7_isName_4 : decode cX7_isName 4 = .ok (.getfield 98, 3) := by decide +kernel
theorem dX7_isName_7 : decode cX7_isName 7 = .ok (.iconst 1, 1) := by decide +kernel
theorem dX7_isName_8 : decode cX7_isName 8 = .ok (.isub, 1) := by decide +kernel
theorem dX7_isName_9 : decode cX7_isName 9 = .ok (.i2l, 1) := by decide +kernel
theorem dX7_isName_10 : decode cX7_isName 10 = .ok (.invokestatic 102, 3) := by decide +kernel
theorem dX7_isName_13 : decode cX7_isName 13 = .ok (.ireturn, 1) := by decide +kernel
theorem dX7_isFined_0 : decode cX7_isFined 0 = .ok (.aload_n 0, 1) := by decide +kernel
theorem dX7_isFined_1 : decode cX7_isFined 1 = .ok (.getfield 106, 3) := by decide +kernel
theorem dX7_isFined_4 : decode cX7_isFined 4 = .ok (.aload_n 0, 1) := by decide +kernel
theorem dX7_isFined_5 : decode cX7_isFined 5 = .ok (.getfield 20, 3) := by decide +kernel
theorem dX7_isFined_8 : decode cX7_isFined 8 = .ok (.iload_n 1, 1) := by decide +kernel
theorem dX7_isFined_9 : decode cX7_isFined 9 = .ok (.iaload, 1) := by decide +kernel
theorem dX7_isFined_10 : decode cX7_isFined 10 = .ok (.if_icmp .ge 7, 3) := by decide +kernel
theorem dX7_isFined_13 : decode cX7_isFined 13 = .ok (.iconst 1, 1) := by decide +kernel
theorem dX7_isFined_14 : decode cX7_isFined 14 = .ok (.goto 4, 3) := by decide +kernel
theorem dX7_isFined_17 : decode cX7_isFined 17 = .ok (.iconst 0, 1) := by decide +kernel
theorem dX7_isFined_18 : decode cX7_isFined 18 = .ok (.ireturn, 1) := by decide +kernel
theorem dX7_name_0 : decode cX7_name 0 = .ok (.iload_n 1, 1) := by decide +kernel
theorem dX7_name_1 : decode cX7_name 1 = .ok (.i2l, 1) := by decide +kernel
theorem dX7_name_2 : decode cX7_name 2 = .ok (.lconst 0, 1) := by decide +kernel
theorem dX7_name_3 : decode cX7_name 3 = .ok (.ldc2_w 109, 3) := by decide +kernel
theorem dX7_name_6 : decode cX7_name 6 = .ok (.invokestatic 102, 3) := by decide +kernel
theorem dX7_name_9 : decode cX7_name 9 = .ok (.ifCond .ne 5, 3) := by decide +kernel
theorem dX7_name_12 : decode cX7_name 12 = .ok (.iconst (-1), 1) := by decide +kernel
theorem dX7_name_13 : decode cX7_name 13 = .ok (.ireturn, 1) := by decide +kernel
theorem dX7_name_14 : decode cX7_name 14 = .ok (.aload_n 0, 1) := by decide +kernel
theorem dX7_name_15 : decode cX7_name 15 = .ok (.getfield 98, 3) := by decide +kernel
theorem dX7_name_18 : decode cX7_name 18 = .ok (.bipush 12, 2) := by decide +kernel
theorem dX7_name_20 : decode cX7_name 20 = .ok (.if_icmp .ne 6, 3) := by decide +kernel
theorem dX7_name_23 : decode cX7_name 23 = .ok (.bipush (-3), 2) := by decide +kernel
theorem dX7_name_25 : decode cX7_name 25 = .ok (.ireturn, 1) := by decide +kernel
theorem dX7_name_26 : decode cX7_name 26 = .ok (.aload_n 0, 1) := by decide +kernel
theorem dX7_name_27 : decode cX7_name 27 = .ok (.getfield 7, 3) := by decide +kernel
theorem dX7_name_30 : decode cX7_name 30 = .ok (.aload_n 0, 1) := by decide +kernel
theorem dX7_name_31 : decode cX7_name 31 = .ok (.getfield 98, 3) := by decide +kernel
theorem dX7_name_34 : decode cX7_name 34 = .ok (.iload_n 1, 1) := by decide +kernel
theorem dX7_name_35 : decode cX7_name 35 = .ok (.iastore, 1) := by decide +kernel
theorem dX7_name_36 : decode cX7_name 36 = .ok (.aload_n 0, 1) := by decide +kernel
theorem dX7_name_37 : decode cX7_name 37 = .ok (.dup, 1) := by decide +kernel
theorem dX7_name_38 : decode cX7_name 38 = .ok (.getfield 98, 3) := by decide +kernel
theorem dX7_name_41 : decode cX7_name 41 = .ok (.iconst 1, 1) := by decide +kernel
theorem dX7_name_42 : decode cX7_name 42 = .ok (.iadd, 1) := by decide +kernel
theorem dX7_name_43 : decode cX7_name 43 = .ok (.putfield 98, 3) := by decide +kernel
theorem dX7_name_46 : decode cX7_name 46 = .ok (.aload_n 0, 1) := by decide +kernel
theorem dX7_name_47 : decode cX7_name 47 = .ok (.getfield 98, 3) := by decide +kernel
theorem dX7_name_50 : decode cX7_name 50 = .ok (.iconst 1, 1) := by decide +kernel
theorem dX7_name_51 : decode cX7_name 51 = .ok (.isub, 1) := by decide +kernel
theorem dX7_name_52 : decode cX7_name 52 = .ok (.ireturn, 1) := by decide +kernel
theorem dX7_seed_0 : decode cX7_seed 0 = .ok (.aload_n 0, 1) := by decide +kernel
theorem dX7_seed_1 : decode cX7_seed 1 = .ok (.iload_n 1, 1) := by decide +kernel
theorem dX7_seed_2 : decode cX7_seed 2 = .ok (.invokevirtual 111, 3) := by decide +kernel
theorem dX7_seed_5 : decode cX7_seed 5 = .ok (.ifCond .ne 5, 3) := by decide +kernel
theorem dX7_seed_8 : decode cX7_seed 8 = .ok (.iconst (-1), 1) := by decide +kernel
theorem dX7_seed_9 : decode cX7_seed 9 = .ok (.ireturn, 1) := by decide +kernel
theorem dX7_seed_10 : decode cX7_seed 10 = .ok (.aload_n 0, 1) := by decide +kernel
theorem dX7_seed_11 : decode cX7_seed 11 = .ok (.getfield 13, 3) := by decide +kernel
theorem dX7_seed_14 : decode cX7_seed 14 = .ok (.iload_n 1, 1) := by decide +kernel
theorem dX7_seed_15 : decode cX7_seed 15 = .ok (.baload, 1) := by decide +kernel
theorem dX7_seed_16 : decode cX7_seed 16 = .ok (.ifCond .eq 7, 3) := by decide +kernel
theorem dX7_seed_19 : decode cX7_seed 19 = .ok (.iconst 1, 1) := by decide +kernel
theorem dX7_seed_20 : decode cX7_seed 20 = .ok (.goto 4, 3) := by decide +kernel
theorem dX7_seed_23 : decode cX7_seed 23 = .ok (.iconst 0, 1) := by decide +kernel
theorem dX7_seed_24 : decode cX7_seed 24 = .ok (.istore_n 3, 1) := by decide +kernel
theorem dX7_seed_25 : decode cX7_seed 25 = .ok (.aload_n 0, 1) := by decide +kernel
theorem dX7_seed_26 : decode cX7_seed 26 = .ok (.getfield 13, 3) := by decide +kernel
theorem dX7_seed_29 : decode cX7_seed 29 = .ok (.iload_n 1, 1) := by decide +kernel
theorem dX7_seed_30 : decode cX7_seed 30 = .ok (.iload_n 2, 1) := by decide +kernel
theorem dX7_seed_31 : decode cX7_seed 31 = .ok (.bastore, 1) := by decide +kernel
theorem dX7_seed_32 : decode cX7_seed 32 = .ok (.iload_n 3, 1) := by decide +kernel
theorem dX7_seed_33 : decode cX7_seed 33 = .ok (.ireturn, 1) := by decide +kernel
theorem dX7_pledged_0 : decode cX7_pledged 0 = .ok (.aload_n 0, 1) := by decide +kernel
theorem dX7_pledged_1 : decode cX7_pledged 1 = .ok (.getfield 23, 3) := by decide +kernel
theorem dX7_pledged_4 : decode cX7_pledged 4 = .ok (.iload_n 1, 1) := by decide +kernel
theorem dX7_pledged_5 : decode cX7_pledged 5 = .ok (.iaload, 1) := by decide +kernel
theorem dX7_pledged_6 : decode cX7_pledged 6 = .ok (.aload_n 0, 1) := by decide +kernel
theorem dX7_pledged_7 : decode cX7_pledged 7 = .ok (.getfield 41, 3) := by decide +kernel
theorem dX7_pledged_10 : decode cX7_pledged 10 = .ok (.bipush 7, 2) := by decide +kernel
theorem dX7_pledged_12 : decode cX7_pledged 12 = .ok (.iaload, 1) := by decide +kernel
theorem dX7_pledged_13 : decode cX7_pledged 13 = .ok (.imul, 1) := by decide +kernel
theorem dX7_pledged_14 : decode cX7_pledged 14 = .ok (.bipush 100, 2) := by decide +kernel
theorem dX7_pledged_16 : decode cX7_pledged 16 = .ok (.idiv, 1) := by decide +kernel
theorem dX7_pledged_17 : decode cX7_pledged 17 = .ok (.ireturn, 1) := by decide +kernel
theorem dX7_pledge_0 : decode cX7_pledge 0 = .ok (.aload_n 0, 1) := by decide +kernel
theorem dX7_pledge_1 : decode cX7_pledge 1 = .ok (.iload_n 1, 1) := by decide +kernel
theorem dX7_pledge_2 : decode cX7_pledge 2 = .ok (.invokevirtual 111, 3) := by decide +kernel
theorem dX7_pledge_5 : decode cX7_pledge 5 = .ok (.ifCond .eq 15, 3) := by decide +kernel
theorem dX7_pledge_8 : decode cX7_pledge 8 = .ok (.iload_n 2, 1) := by decide +kernel
theorem dX7_pledge_9 : decode cX7_pledge 9 = .ok (.i2l, 1) := by decide +kernel
theorem dX7_pledge_10 : decode cX7_pledge 10 = .ok (.lconst 1, 1) := by decide +kernel
theorem dX7_pledge_11 : decode cX7_pledge 11 = .ok (.ldc2_w 109, 3) := by decide +kernel
theorem dX7_pledge_14 : decode cX7_pledge 14 = .ok (.invokestatic 102, 3) := by decide +kernel
theorem dX7_pledge_17 : decode cX7_pledge 17 = .ok (.ifCond .ne 5, 3) := by decide +kernel
theorem dX7_pledge_20 : decode cX7_pledge 20 = .ok (.iconst (-1), 1) := by decide +kernel
theorem dX7_pledge_21 : decode cX7_pledge 21 = .ok (.ireturn, 1) := by decide +kernel
theorem dX7_pledge_22 : decode cX7_pledge 22 = .ok (.aload_n 0, 1) := by decide +kernel
theorem dX7_pledge_23 : decode cX7_pledge 23 = .ok (.getfield 17, 3) := by decide +kernel
theorem dX7_pledge_26 : decode cX7_pledge 26 = .ok (.iload_n 1, 1) := by decide +kernel
theorem dX7_pledge_27 : decode cX7_pledge 27 = .ok (.baload, 1) := by decide +kernel
theorem dX7_pledge_28 : decode cX7_pledge 28 = .ok (.ifCond .eq 6, 3) := by decide +kernel
theorem dX7_pledge_31 : decode cX7_pledge 31 = .ok (.bipush (-2), 2) := by decide +kernel
theorem dX7_pledge_33 : decode cX7_pledge 33 = .ok (.ireturn, 1) := by decide +kernel
theorem dX7_pledge_34 : decode cX7_pledge 34 = .ok (.aload_n 0, 1) := by decide +kernel
theorem dX7_pledge_35 : decode cX7_pledge 35 = .ok (.getfield 23, 3) := by decide +kernel
theorem dX7_pledge_38 : decode cX7_pledge 38 = .ok (.iload_n 1, 1) := by decide +kernel
theorem dX7_pledge_39 : decode cX7_pledge 39 = .ok (.dup2, 1) := by decide +kernel
theorem dX7_pledge_40 : decode cX7_pledge 40 = .ok (.iaload, 1) := by decide +kernel
theorem dX7_pledge_41 : decode cX7_pledge 41 = .ok (.iload_n 2, 1) := by decide +kernel
theorem dX7_pledge_42 : decode cX7_pledge 42 = .ok (.iadd, 1) := by decide +kernel
theorem dX7_pledge_43 : decode cX7_pledge 43 = .ok (.iastore, 1) := by decide +kernel
theorem dX7_pledge_44 : decode cX7_pledge 44 = .ok (.aload_n 0, 1) := by decide +kernel
theorem dX7_pledge_45 : decode cX7_pledge 45 = .ok (.iload_n 1, 1) := by decide +kernel
theorem dX7_pledge_46 : decode cX7_pledge 46 = .ok (.invokevirtual 115, 3) := by decide +kernel
theorem dX7_pledge_49 : decode cX7_pledge 49 = .ok (.ireturn, 1) := by decide +kernel
theorem dX7_tie_0 : decode cX7_tie 0 = .ok (.aload_n 0, 1) := by decide +kernel
theorem dX7_tie_1 : decode cX7_tie 1 = .ok (.iload_n 1, 1) := by decide +kernel
theorem dX7_tie_2 : decode cX7_tie 2 = .ok (.invokevirtual 111, 3) := by decide +kernel
theorem dX7_tie_5 : decode cX7_tie 5 = .ok (.ifCond .eq 41, 3) := by decide +kernel
theorem dX7_tie_8 : decode cX7_tie 8 = .ok (.aload_n 0, 1) := by decide +kernel
theorem dX7_tie_9 : decode cX7_tie 9 = .ok (.iload_n 2, 1) := by decide +kernel
theorem dX7_tie_10 : decode cX7_tie 10 = .ok (.invokevirtual 111, 3) := by decide +kernel
theorem dX7_tie_13 : decode cX7_tie 13 = .ok (.ifCond .eq 33, 3) := by decide +kernel
theorem dX7_tie_16 : decode cX7_tie 16 = .ok (.iload_n 1, 1) := by decide +kernel
theorem dX7_tie_17 : decode cX7_tie 17 = .ok (.iload_n 2, 1) := by decide +kernel
theorem dX7_tie_18 : decode cX7_tie 18 = .ok (.if_icmp .eq 28, 3) := by decide +kernel
theorem dX7_tie_21 : decode cX7_tie 21 = .ok (.iload_n 3, 1) := by decide +kernel
theorem dX7_tie_22 : decode cX7_tie 22 = .ok (.i2l, 1) := by decide +kernel
theorem dX7_tie_23 : decode cX7_tie 23 = .ok (.lconst 1, 1) := by decide +kernel
theorem dX7_tie_24 : decode cX7_tie 24 = .ok (.ldc2_w 109, 3) := by decide +kernel
theorem dX7_tie_27 : decode cX7_tie 27 = .ok (.invokestatic 102, 3) := by decide +kernel
theorem dX7_tie_30 : decode cX7_tie 30 = .ok (.ifCond .eq 16, 3) := by decide +kernel
theorem dX7_tie_33 : decode cX7_tie 33 = .ok (.iload 4, 2) := by decide +kernel
theorem dX7_tie_35 : decode cX7_tie 35 = .ok (.i2l, 1) := by decide +kernel
theorem dX7_tie_36 : decode cX7_tie 36 = .ok (.lconst 0, 1) := by decide +kernel
theorem dX7_tie_37 : decode cX7_tie 37 = .ok (.ldc2_w 119, 3) := by decide +kernel
theorem dX7_tie_40 : decode cX7_tie 40 = .ok (.invokestatic 102, 3) := by decide +kernel
theorem dX7_tie_43 : decode cX7_tie 43 = .ok (.ifCond .ne 5, 3) := by decide +kernel
theorem dX7_tie_46 : decode cX7_tie 46 = .ok (.iconst (-1), 1) := by decide +kernel
theorem dX7_tie_47 : decode cX7_tie 47 = .ok (.ireturn, 1) := by decide +kernel
theorem dX7_tie_48 : decode cX7_tie 48 = .ok (.aload_n 0, 1) := by decide +kernel
theorem dX7_tie_49 : decode cX7_tie 49 = .ok (.getfield 121, 3) := by decide +kernel
theorem dX7_tie_52 : decode cX7_tie 52 = .ok (.bipush 24, 2) := by decide +kernel
theorem dX7_tie_54 : decode cX7_tie 54 = .ok (.if_icmp .ne 6, 3) := by decide +kernel
theorem dX7_tie_57 : decode cX7_tie 57 = .ok (.bipush (-3), 2) := by decide +kernel
theorem dX7_tie_59 : decode cX7_tie 59 = .ok (.ireturn, 1) := by decide +kernel
theorem dX7_tie_60 : decode cX7_tie 60 = .ok (.aload_n 0, 1) := by decide +kernel
theorem dX7_tie_61 : decode cX7_tie 61 = .ok (.getfield 17, 3) := by decide +kernel
theorem dX7_tie_64 : decode cX7_tie 64 = .ok (.iload_n 1, 1) := by decide +kernel
theorem dX7_tie_65 : decode cX7_tie 65 = .ok (.baload, 1) := by decide +kernel
theorem dX7_tie_66 : decode cX7_tie 66 = .ok (.ifCond .ne 12, 3) := by decide +kernel
theorem dX7_tie_69 : decode cX7_tie 69 = .ok (.aload_n 0, 1) := by decide +kernel
theorem dX7_tie_70 : decode cX7_tie 70 = .ok (.getfield 17, 3) := by decide +kernel
theorem dX7_tie_73 : decode cX7_tie 73 = .ok (.iload_n 2, 1) := by decide +kernel
theorem dX7_tie_74 : decode cX7_tie 74 = .ok (.baload, 1) := by decide +kernel
theorem dX7_tie_75 : decode cX7_tie 75 = .ok (.ifCond .eq 6, 3) := by decide +kernel
theorem dX7_tie_78 : decode cX7_tie 78 = .ok (.bipush (-2), 2) := by decide +kernel
theorem dX7_tie_80 : decode cX7_tie 80 = .ok (.ireturn, 1) := by decide +kernel
theorem dX7_tie_81 : decode cX7_tie 81 = .ok (.aload_n 0, 1) := by decide +kernel
theorem dX7_tie_82 : decode cX7_tie 82 = .ok (.getfield 26, 3) := by decide +kernel
theorem dX7_tie_85 : decode cX7_tie 85 = .ok (.aload_n 0, 1) := by decide +kernel
theorem dX7_tie_86 : decode cX7_tie 86 = .ok (.getfield 121, 3) := by decide +kernel
theorem dX7_tie_89 : decode cX7_tie 89 = .ok (.iload_n 1, 1) := by decide +kernel
theorem dX7_tie_90 : decode cX7_tie 90 = .ok (.iastore, 1) := by decide +kernel
theorem dX7_tie_91 : decode cX7_tie 91 = .ok (.aload_n 0, 1) := by decide +kernel
theorem dX7_tie_92 : decode cX7_tie 92 = .ok (.getfield 29, 3) := by decide +kernel
theorem dX7_tie_95 : decode cX7_tie 95 = .ok (.aload_n 0, 1) := by decide +kernel
theorem dX7_tie_96 : decode cX7_tie 96 = .ok (.getfield 121, 3) := by decide +kernel
theorem dX7_tie_99 : decode cX7_tie 99 = .ok (.iload_n 2, 1) := by decide +kernel
theorem dX7_tie_100 : decode cX7_tie 100 = .ok (.iastore, 1) := by decide +kernel
theorem dX7_tie_101 : decode cX7_tie 101 = .ok (.aload_n 0, 1) := by decide +kernel
theorem dX7_tie_102 : decode cX7_tie 102 = .ok (.getfield 32, 3) := by decide +kernel
theorem dX7_tie_105 : decode cX7_tie 105 = .ok (.aload_n 0, 1) := by decide +kernel
theorem dX7_tie_106 : decode cX7_tie 106 = .ok (.getfield 121, 3) := by decide +kernel
theorem dX7_tie_109 : decode cX7_tie 109 = .ok (.iload_n 3, 1) := by decide +kernel
theorem dX7_tie_110 : decode cX7_tie 110 = .ok (.iastore, 1) := by decide +kernel
theorem dX7_tie_111 : decode cX7_tie 111 = .ok (.aload_n 0, 1) := by decide +kernel
theorem dX7_tie_112 : decode cX7_tie 112 = .ok (.getfield 35, 3) := by decide +kernel
theorem dX7_tie_115 : decode cX7_tie 115 = .ok (.aload_n 0, 1) := by decide +kernel
theorem dX7_tie_116 : decode cX7_tie 116 = .ok (.getfield 121, 3) := by decide +kernel
theorem dX7_tie_119 : decode cX7_tie 119 = .ok (.iload 4, 2) := by decide +kernel
theorem dX7_tie_121 : decode cX7_tie 121 = .ok (.iastore, 1) := by decide +kernel
theorem dX7_tie_122 : decode cX7_tie 122 = .ok (.aload_n 0, 1) := by decide +kernel
theorem dX7_tie_123 : decode cX7_tie 123 = .ok (.getfield 38, 3) := by decide +kernel
theorem dX7_tie_126 : decode cX7_tie 126 = .ok (.aload_n 0, 1) := by decide +kernel
theorem dX7_tie_127 : decode cX7_tie 127 = .ok (.getfield 121, 3) := by decide +kernel
theorem dX7_tie_130 : decode cX7_tie 130 = .ok (.aload_n 0, 1) := by decide +kernel
theorem dX7_tie_131 : decode cX7_tie 131 = .ok (.getfield 106, 3) := by decide +kernel
theorem dX7_tie_134 : decode cX7_tie 134 = .ok (.iastore, 1) := by decide +kernel
theorem dX7_tie_135 : decode cX7_tie 135 = .ok (.aload_n 0, 1) := by decide +kernel
theorem dX7_tie_136 : decode cX7_tie 136 = .ok (.dup, 1) := by decide +kernel
theorem dX7_tie_137 : decode cX7_tie 137 = .ok (.getfield 121, 3) := by decide +kernel
theorem dX7_tie_140 : decode cX7_tie 140 = .ok (.iconst 1, 1) := by decide +kernel
theorem dX7_tie_141 : decode cX7_tie 141 = .ok (.iadd, 1) := by decide +kernel
theorem dX7_tie_142 : decode cX7_tie 142 = .ok (.putfield 121, 3) := by decide +kernel
theorem dX7_tie_145 : decode cX7_tie 145 = .ok (.aload_n 0, 1) := by decide +kernel
theorem dX7_tie_146 : decode cX7_tie 146 = .ok (.getfield 121, 3) := by decide +kernel
theorem dX7_tie_149 : decode cX7_tie 149 = .ok (.iconst 1, 1) := by decide +kernel
theorem dX7_tie_150 : decode cX7_tie 150 = .ok (.isub, 1) := by decide +kernel
theorem dX7_tie_151 : decode cX7_tie 151 = .ok (.ireturn, 1) := by decide +kernel
theorem dX7_faded_0 : decode cX7_faded 0 = .ok (.bipush 100, 2) := by decide +kernel
theorem dX7_faded_2 : decode cX7_faded 2 = .ok (.iload_n 1, 1) := by decide +kernel
theorem dX7_faded_3 : decode cX7_faded 3 = .ok (.iload_n 2, 1) := by decide +kernel
theorem dX7_faded_4 : decode cX7_faded 4 = .ok (.imul, 1) := by decide +kernel
theorem dX7_faded_5 : decode cX7_faded 5 = .ok (.bipush 100, 2) := by decide +kernel
theorem dX7_faded_7 : decode cX7_faded 7 = .ok (.idiv, 1) := by decide +kernel
theorem dX7_faded_8 : decode cX7_faded 8 = .ok (.isub, 1) := by decide +kernel
theorem dX7_faded_9 : decode cX7_faded 9 = .ok (.istore_n 3, 1) := by decide +kernel
theorem dX7_faded_10 : decode cX7_faded 10 = .ok (.iload_n 3, 1) := by decide +kernel
theorem dX7_faded_11 : decode cX7_faded 11 = .ok (.ifCond .ge 7, 3) := by decide +kernel
theorem dX7_faded_14 : decode cX7_faded 14 = .ok (.iconst 0, 1) := by decide +kernel
theorem dX7_faded_15 : decode cX7_faded 15 = .ok (.goto 9, 3) := by decide +kernel
theorem dX7_faded_18 : decode cX7_faded 18 = .ok (.iload_n 0, 1) := by decide +kernel
theorem dX7_faded_19 : decode cX7_faded 19 = .ok (.iload_n 3, 1) := by decide +kernel
theorem dX7_faded_20 : decode cX7_faded 20 = .ok (.imul, 1) := by decide +kernel
theorem dX7_faded_21 : decode cX7_faded 21 = .ok (.bipush 100, 2) := by decide +kernel
theorem dX7_faded_23 : decode cX7_faded 23 = .ok (.idiv, 1) := by decide +kernel
theorem dX7_faded_24 : decode cX7_faded 24 = .ok (.ireturn, 1) := by decide +kernel
theorem dX7_roomOf_0 : decode cX7_roomOf 0 = .ok (.aload_n 0, 1) := by decide +kernel
theorem dX7_roomOf_1 : decode cX7_roomOf 1 = .ok (.getfield 17, 3) := by decide +kernel
theorem dX7_roomOf_4 : decode cX7_roomOf 4 = .ok (.aload_n 0, 1) := by decide +kernel
theorem dX7_roomOf_5 : decode cX7_roomOf 5 = .ok (.getfield 26, 3) := by decide +kernel
theorem dX7_roomOf_8 : decode cX7_roomOf 8 = .ok (.iload_n 1, 1) := by decide +kernel
theorem dX7_roomOf_9 : decode cX7_roomOf 9 = .ok (.iaload, 1) := by decide +kernel
theorem dX7_roomOf_10 : decode cX7_roomOf 10 = .ok (.baload, 1) := by decide +kernel
theorem dX7_roomOf_11 : decode cX7_roomOf 11 = .ok (.ifCond .ne 17, 3) := by decide +kernel
theorem dX7_roomOf_14 : decode cX7_roomOf 14 = .ok (.aload_n 0, 1) := by decide +kernel
theorem dX7_roomOf_15 : decode cX7_roomOf 15 = .ok (.getfield 17, 3) := by decide +kernel
theorem dX7_roomOf_18 : decode cX7_roomOf 18 = .ok (.aload_n 0, 1) := by decide +kernel
theorem dX7_roomOf_19 : decode cX7_roomOf 19 = .ok (.getfield 29, 3) := by decide +kernel
theorem dX7_roomOf_22 : decode cX7_roomOf 22 = .ok (.iload_n 1, 1) := by decide +kernel
theorem dX7_roomOf_23 : decode cX7_roomOf 23 = .ok (.iaload, 1) := by decide +kernel
theorem dX7_roomOf_24 : decode cX7_roomOf 24 = .ok (.baload, 1) := by decide +kernel
theorem dX7_roomOf_25 : decode cX7_roomOf 25 = .ok (.ifCond .eq 5, 3) := by decide +kernel
theorem dX7_roomOf_28 : decode cX7_roomOf 28 = .ok (.iconst 0, 1) := by decide +kernel
theorem dX7_roomOf_29 : decode cX7_roomOf 29 = .ok (.ireturn, 1) := by decide +kernel
theorem dX7_roomOf_30 : decode cX7_roomOf 30 = .ok (.aload_n 0, 1) := by decide +kernel
theorem dX7_roomOf_31 : decode cX7_roomOf 31 = .ok (.getfield 32, 3) := by decide +kernel
theorem dX7_roomOf_34 : decode cX7_roomOf 34 = .ok (.iload_n 1, 1) := by decide +kernel
theorem dX7_roomOf_35 : decode cX7_roomOf 35 = .ok (.iaload, 1) := by decide +kernel
theorem dX7_roomOf_36 : decode cX7_roomOf 36 = .ok (.aload_n 0, 1) := by decide +kernel
theorem dX7_roomOf_37 : decode cX7_roomOf 37 = .ok (.getfield 41, 3) := by decide +kernel
theorem dX7_roomOf_40 : decode cX7_roomOf 40 = .ok (.aload_n 0, 1) := by decide +kernel
theorem dX7_roomOf_41 : decode cX7_roomOf 41 = .ok (.getfield 35, 3) := by decide +kernel
theorem dX7_roomOf_44 : decode cX7_roomOf 44 = .ok (.iload_n 1, 1) := by decide +kernel
theorem dX7_roomOf_45 : decode cX7_roomOf 45 = .ok (.iaload, 1) := by decide +kernel
theorem dX7_roomOf_46 : decode cX7_roomOf 46 = .ok (.iaload, 1) := by decide +kernel
theorem dX7_roomOf_47 : decode cX7_roomOf 47 = .ok (.imul, 1) := by decide +kernel
theorem dX7_roomOf_48 : decode cX7_roomOf 48 = .ok (.bipush 100, 2) := by decide +kernel
theorem dX7_roomOf_50 : decode cX7_roomOf 50 = .ok (.idiv, 1) := by decide +kernel
theorem dX7_roomOf_51 : decode cX7_roomOf 51 = .ok (.aload_n 0, 1) := by decide +kernel
theorem dX7_roomOf_52 : decode cX7_roomOf 52 = .ok (.getfield 41, 3) := by decide +kernel
theorem dX7_roomOf_55 : decode cX7_roomOf 55 = .ok (.iconst 4, 1) := by decide +kernel
theorem dX7_roomOf_56 : decode cX7_roomOf 56 = .ok (.iaload, 1) := by decide +kernel
theorem dX7_roomOf_57 : decode cX7_roomOf 57 = .ok (.aload_n 0, 1) := by decide +kernel
theorem dX7_roomOf_58 : decode cX7_roomOf 58 = .ok (.getfield 106, 3) := by decide +kernel
theorem dX7_roomOf_61 : decode cX7_roomOf 61 = .ok (.aload_n 0, 1) := by decide +kernel
theorem dX7_roomOf_62 : decode cX7_roomOf 62 = .ok (.getfield 38, 3) := by decide +kernel
theorem dX7_roomOf_65 : decode cX7_roomOf 65 = .ok (.iload_n 1, 1) := by decide +kernel
theorem dX7_roomOf_66 : decode cX7_roomOf 66 = .ok (.iaload, 1) := by decide +kernel
theorem dX7_roomOf_67 : decode cX7_roomOf 67 = .ok (.isub, 1) := by decide +kernel
theorem dX7_roomOf_68 : decode cX7_roomOf 68 = .ok (.invokestatic 124, 3) := by decide +kernel
theorem dX7_roomOf_71 : decode cX7_roomOf 71 = .ok (.istore_n 2, 1) := by decide +kernel
theorem dX7_roomOf_72 : decode cX7_roomOf 72 = .ok (.aload_n 0, 1) := by decide +kernel
theorem dX7_roomOf_73 : decode cX7_roomOf 73 = .ok (.aload_n 0, 1) := by decide +kernel
theorem dX7_roomOf_74 : decode cX7_roomOf 74 = .ok (.getfield 26, 3) := by decide +kernel
theorem dX7_roomOf_77 : decode cX7_roomOf 77 = .ok (.iload_n 1, 1) := by decide +kernel
theorem dX7_roomOf_78 : decode cX7_roomOf 78 = .ok (.iaload, 1) := by decide +kernel
theorem dX7_roomOf_79 : decode cX7_roomOf 79 = .ok (.invokevirtual 128, 3) := by decide +kernel
theorem dX7_roomOf_82 : decode cX7_roomOf 82 = .ok (.ifCond .ne 16, 3) := by decide +kernel
theorem dX7_roomOf_85 : decode cX7_roomOf 85 = .ok (.aload_n 0, 1) := by decide +kernel
theorem dX7_roomOf_86 : decode cX7_roomOf 86 = .ok (.aload_n 0, 1) := by decide +kernel
theorem dX7_roomOf_87 : decode cX7_roomOf 87 = .ok (.getfield 29, 3) := by decide +kernel
theorem dX7_roomOf_90 : decode cX7_roomOf 90 = .ok (.iload_n 1, 1) := by decide +kernel
theorem dX7_roomOf_91 : decode cX7_roomOf 91 = .ok (.iaload, 1) := by decide +kernel
theorem dX7_roomOf_92 : decode cX7_roomOf 92 = .ok (.invokevirtual 128, 3) := by decide +kernel
theorem dX7_roomOf_95 : decode cX7_roomOf 95 = .ok (.ifCond .eq 9, 3) := by decide +kernel
theorem dX7_roomOf_98 : decode cX7_roomOf 98 = .ok (.iload_n 2, 1) := by decide +kernel
theorem dX7_roomOf_99 : decode cX7_roomOf 99 = .ok (.iconst 2, 1) := by decide +kernel
theorem dX7_roomOf_100 : decode cX7_roomOf 100 = .ok (.idiv, 1) := by decide +kernel
theorem dX7_roomOf_101 : decode cX7_roomOf 101 = .ok (.goto 4, 3) := by decide +kernel
theorem dX7_roomOf_104 : decode cX7_roomOf 104 = .ok (.iload_n 2, 1) := by decide +kernel
theorem dX7_roomOf_105 : decode cX7_roomOf 105 = .ok (.ireturn, 1) := by decide +kernel
theorem dX7_isTie_0 : decode cX7_isTie 0 = .ok (.iload_n 1, 1) := by decide +kernel
theorem dX7_isTie_1 : decode cX7_isTie 1 = .ok (.i2l, 1) := by decide +kernel
theorem dX7_isTie_2 : decode cX7_isTie 2 = .ok (.lconst 0, 1) := by decide +kernel
theorem dX7_isTie_3 : decode cX7_isTie 3 = .ok (.aload_n 0, 1) := by decide +kernel
theorem dX7_isTie_4 : decode cX7_isTie 4 = .ok (.getfield 121, 3) := by decide +kernel
theorem dX7_isTie_7 : decode cX7_isTie 7 = .ok (.iconst 1, 1) := by decide +kernel
theorem dX7_isTie_8 : decode cX7_isTie 8 = .ok (.isub, 1) := by decide +kernel
theorem dX7_isTie_9 : decode cX7_isTie 9 = .ok (.i2l, 1) := by decide +kernel
theorem dX7_isTie_10 : decode cX7_isTie 10 = .ok (.invokestatic 102, 3) := by decide +kernel
theorem dX7_isTie_13 : decode cX7_isTie 13 = .ok (.ireturn, 1) := by decide +kernel
theorem dX7_tieOf_0 : decode cX7_tieOf 0 = .ok (.aload_n 0, 1) := by decide +kernel
theorem dX7_tieOf_1 : decode cX7_tieOf 1 = .ok (.iload_n 1, 1) := by decide +kernel
theorem dX7_tieOf_2 : decode cX7_tieOf 2 = .ok (.invokevirtual 131, 3) := by decide +kernel
theorem dX7_tieOf_5 : decode cX7_tieOf 5 = .ok (.ifCond .eq 15, 3) := by decide +kernel
theorem dX7_tieOf_8 : decode cX7_tieOf 8 = .ok (.iload_n 2, 1) := by decide +kernel
theorem dX7_tieOf_9 : decode cX7_tieOf 9 = .ok (.i2l, 1) := by decide +kernel
theorem dX7_tieOf_10 : decode cX7_tieOf 10 = .ok (.lconst 0, 1) := by decide +kernel
theorem dX7_tieOf_11 : decode cX7_tieOf 11 = .ok (.ldc2_w 134, 3) := by decide +kernel
theorem dX7_tieOf_14 : decode cX7_tieOf 14 = .ok (.invokestatic 102, 3) := by decide +kernel
theorem dX7_tieOf_17 : decode cX7_tieOf 17 = .ok (.ifCond .ne 5, 3) := by decide +kernel
theorem dX7_tieOf_20 : decode cX7_tieOf 20 = .ok (.iconst (-1), 1) := by decide +kernel
theorem dX7_tieOf_21 : decode cX7_tieOf 21 = .ok (.ireturn, 1) := by decide +kernel
theorem dX7_tieOf_22 : decode cX7_tieOf 22 = .ok (.iload_n 2, 1) := by decide +kernel
theorem dX7_tieOf_23 : decode cX7_tieOf 23 = .ok (.ifCond .ne 12, 3) := by decide +kernel
theorem dX7_tieOf_26 : decode cX7_tieOf 26 = .ok (.aload_n 0, 1) := by decide +kernel
theorem dX7_tieOf_27 : decode cX7_tieOf 27 = .ok (.getfield 26, 3) := by decide +kernel
theorem dX7_tieOf_30 : decode cX7_tieOf 30 = .ok (.iload_n 1, 1) := by decide +kernel
theorem dX7_tieOf_31 : decode cX7_tieOf 31 = .ok (.iaload, 1) := by decide +kernel
theorem dX7_tieOf_32 : decode cX7_tieOf 32 = .ok (.goto 64, 3) := by decide +kernel
theorem dX7_tieOf_35 : decode cX7_tieOf 35 = .ok (.iload_n 2, 1) := by decide +kernel
theorem dX7_tieOf_36 : decode cX7_tieOf 36 = .ok (.iconst 1, 1) := by decide +kernel
theorem dX7_tieOf_37 : decode cX7_tieOf 37 = .ok (.if_icmp .ne 12, 3) := by decide +kernel
theorem dX7_tieOf_40 : decode cX7_tieOf 40 = .ok (.aload_n 0, 1) := by decide +kernel
theorem dX7_tieOf_41 : decode cX7_tieOf 41 = .ok (.getfield 29, 3) := by decide +kernel
theorem dX7_tieOf_44 : decode cX7_tieOf 44 = .ok (.iload_n 1, 1) := by decide +kernel
theorem dX7_tieOf_45 : decode cX7_tieOf 45 = .ok (.iaload, 1) := by decide +kernel
theorem dX7_tieOf_46 : decode cX7_tieOf 46 = .ok (.goto 50, 3) := by decide +kernel
theorem dX7_tieOf_49 : decode cX7_tieOf 49 = .ok (.iload_n 2, 1) := by decide +kernel
theorem dX7_tieOf_50 : decode cX7_tieOf 50 = .ok (.iconst 2, 1) := by decide +kernel
theorem dX7_tieOf_51 : decode cX7_tieOf 51 = .ok (.if_icmp .ne 12, 3) := by decide +kernel
theorem dX7_tieOf_54 : decode cX7_tieOf 54 = .ok (.aload_n 0, 1) := by decide +kernel
theorem dX7_tieOf_55 : decode cX7_tieOf 55 = .ok (.getfield 32, 3) := by decide +kernel
theorem dX7_tieOf_58 : decode cX7_tieOf 58 = .ok (.iload_n 1, 1) := by decide +kernel
theorem dX7_tieOf_59 : decode cX7_tieOf 59 = .ok (.iaload, 1) := by decide +kernel
theorem dX7_tieOf_60 : decode cX7_tieOf 60 = .ok (.goto 36, 3) := by decide +kernel
theorem dX7_tieOf_63 : decode cX7_tieOf 63 = .ok (.iload_n 2, 1) := by decide +kernel
theorem dX7_tieOf_64 : decode cX7_tieOf 64 = .ok (.iconst 3, 1) := by decide +kernel
theorem dX7_tieOf_65 : decode cX7_tieOf 65 = .ok (.if_icmp .ne 12, 3) := by decide +kernel
theorem dX7_tieOf_68 : decode cX7_tieOf 68 = .ok (.aload_n 0, 1) := by decide +kernel
theorem dX7_tieOf_69 : decode cX7_tieOf 69 = .ok (.getfield 35, 3) := by decide +kernel
theorem dX7_tieOf_72 : decode cX7_tieOf 72 = .ok (.iload_n 1, 1) := by decide +kernel
theorem dX7_tieOf_73 : decode cX7_tieOf 73 = .ok (.iaload, 1) := by decide +kernel
theorem dX7_tieOf_74 : decode cX7_tieOf 74 = .ok (.goto 22, 3) := by decide +kernel
theorem dX7_tieOf_77 : decode cX7_tieOf 77 = .ok (.iload_n 2, 1) := by decide +kernel
theorem dX7_tieOf_78 : decode cX7_tieOf 78 = .ok (.iconst 4, 1) := by decide +kernel
theorem dX7_tieOf_79 : decode cX7_tieOf 79 = .ok (.if_icmp .ne 12, 3) := by decide +kernel
theorem dX7_tieOf_82 : decode cX7_tieOf 82 = .ok (.aload_n 0, 1) := by decide +kernel
theorem dX7_tieOf_83 : decode cX7_tieOf 83 = .ok (.getfield 38, 3) := by decide +kernel
theorem dX7_tieOf_86 : decode cX7_tieOf 86 = .ok (.iload_n 1, 1) := by decide +kernel
theorem dX7_tieOf_87 : decode cX7_tieOf 87 = .ok (.iaload, 1) := by decide +kernel
theorem dX7_tieOf_88 : decode cX7_tieOf 88 = .ok (.goto 8, 3) := by decide +kernel
theorem dX7_tieOf_91 : decode cX7_tieOf 91 = .ok (.aload_n 0, 1) := by decide +kernel
theorem dX7_tieOf_92 : decode cX7_tieOf 92 = .ok (.iload_n 1, 1) := by decide +kernel
theorem dX7_tieOf_93 : decode cX7_tieOf 93 = .ok (.invokevirtual 136, 3) := by decide +kernel
theorem dX7_tieOf_96 : decode cX7_tieOf 96 = .ok (.ireturn, 1) := by decide +kernel
theorem dX7_renew_0 : decode cX7_renew 0 = .ok (.aload_n 0, 1) := by decide +kernel
theorem dX7_renew_1 : decode cX7_renew 1 = .ok (.iload_n 1, 1) := by decide +kernel
theorem dX7_renew_2 : decode cX7_renew 2 = .ok (.invokevirtual 131, 3) := by decide +kernel
theorem dX7_renew_5 : decode cX7_renew 5 = .ok (.ifCond .ne 5, 3) := by decide +kernel
theorem dX7_renew_8 : decode cX7_renew 8 = .ok (.iconst (-1), 1) := by decide +kernel
theorem dX7_renew_9 : decode cX7_renew 9 = .ok (.ireturn, 1) := by decide +kernel
theorem dX7_renew_10 : decode cX7_renew 10 = .ok (.aload_n 0, 1) := by decide +kernel
theorem dX7_renew_11 : decode cX7_renew 11 = .ok (.getfield 17, 3) := by decide +kernel
theorem dX7_renew_14 : decode cX7_renew 14 = .ok (.aload_n 0, 1) := by decide +kernel
theorem dX7_renew_15 : decode cX7_renew 15 = .ok (.getfield 26, 3) := by decide +kernel
theorem dX7_renew_18 : decode cX7_renew 18 = .ok (.iload_n 1, 1) := by decide +kernel
theorem dX7_renew_19 : decode cX7_renew 19 = .ok (.iaload, 1) := by decide +kernel
theorem dX7_renew_20 : decode cX7_renew 20 = .ok (.baload, 1) := by decide +kernel
theorem dX7_renew_21 : decode cX7_renew 21 = .ok (.ifCond .ne 17, 3) := by decide +kernel
theorem dX7_renew_24 : decode cX7_renew 24 = .ok (.aload_n 0, 1) := by decide +kernel
theorem dX7_renew_25 : decode cX7_renew 25 = .ok (.getfield 17, 3) := by decide +kernel
theorem dX7_renew_28 : decode cX7_renew 28 = .ok (.aload_n 0, 1) := by decide +kernel
theorem dX7_renew_29 : decode cX7_renew 29 = .ok (.getfield 29, 3) := by decide +kernel
theorem dX7_renew_32 : decode cX7_renew 32 = .ok (.iload_n 1, 1) := by decide +kernel
theorem dX7_renew_33 : decode cX7_renew 33 = .ok (.iaload, 1) := by decide +kernel
theorem dX7_renew_34 : decode cX7_renew 34 = .ok (.baload, 1) := by decide +kernel
theorem dX7_renew_35 : decode cX7_renew 35 = .ok (.ifCond .eq 6, 3) := by decide +kernel
theorem dX7_renew_38 : decode cX7_renew 38 = .ok (.bipush (-2), 2) := by decide +kernel
theorem dX7_renew_40 : decode cX7_renew 40 = .ok (.ireturn, 1) := by decide +kernel
theorem dX7_renew_41 : decode cX7_renew 41 = .ok (.aload_n 0, 1) := by decide +kernel
theorem dX7_renew_42 : decode cX7_renew 42 = .ok (.getfield 106, 3) := by decide +kernel
theorem dX7_renew_45 : decode cX7_renew 45 = .ok (.aload_n 0, 1) := by decide +kernel
theorem dX7_renew_46 : decode cX7_renew 46 = .ok (.getfield 38, 3) := by decide +kernel
theorem dX7_renew_49 : decode cX7_renew 49 = .ok (.iload_n 1, 1) := by decide +kernel
theorem dX7_renew_50 : decode cX7_renew 50 = .ok (.iaload, 1) := by decide +kernel
theorem dX7_renew_51 : decode cX7_renew 51 = .ok (.isub, 1) := by decide +kernel
theorem dX7_renew_52 : decode cX7_renew 52 = .ok (.istore_n 2, 1) := by decide +kernel
theorem dX7_renew_53 : decode cX7_renew 53 = .ok (.aload_n 0, 1) := by decide +kernel
theorem dX7_renew_54 : decode cX7_renew 54 = .ok (.getfield 38, 3) := by decide +kernel
theorem dX7_renew_57 : decode cX7_renew 57 = .ok (.iload_n 1, 1) := by decide +kernel
theorem dX7_renew_58 : decode cX7_renew 58 = .ok (.aload_n 0, 1) := by decide +kernel
theorem dX7_renew_59 : decode cX7_renew 59 = .ok (.getfield 106, 3) := by decide +kernel
theorem dX7_renew_62 : decode cX7_renew 62 = .ok (.iastore, 1) := by decide +kernel
theorem dX7_renew_63 : decode cX7_renew 63 = .ok (.iload_n 2, 1) := by decide +kernel
theorem dX7_renew_64 : decode cX7_renew 64 = .ok (.ireturn, 1) := by decide +kernel
theorem dX7_given_0 : decode cX7_given 0 = .ok (.aload_n 0, 1) := by decide +kernel
theorem dX7_given_1 : decode cX7_given 1 = .ok (.getfield 17, 3) := by decide +kernel
theorem dX7_given_4 : decode cX7_given 4 = .ok (.iload_n 1, 1) := by decide +kernel
theorem dX7_given_5 : decode cX7_given 5 = .ok (.baload, 1) := by decide +kernel
theorem dX7_given_6 : decode cX7_given 6 = .ok (.ifCond .eq 7, 3) := by decide +kernel
theorem dX7_given_9 : decode cX7_given 9 = .ok (.iconst 0, 1) := by decide +kernel
theorem dX7_given_10 : decode cX7_given 10 = .ok (.goto 29, 3) := by decide +kernel
theorem dX7_given_13 : decode cX7_given 13 = .ok (.aload_n 0, 1) := by decide +kernel
theorem dX7_given_14 : decode cX7_given 14 = .ok (.iload_n 1, 1) := by decide +kernel
theorem dX7_given_15 : decode cX7_given 15 = .ok (.invokevirtual 115, 3) := by decide +kernel
theorem dX7_given_18 : decode cX7_given 18 = .ok (.aload_n 0, 1) := by decide +kernel
theorem dX7_given_19 : decode cX7_given 19 = .ok (.getfield 13, 3) := by decide +kernel
theorem dX7_given_22 : decode cX7_given 22 = .ok (.iload_n 1, 1) := by decide +kernel
theorem dX7_given_23 : decode cX7_given 23 = .ok (.baload, 1) := by decide +kernel
theorem dX7_given_24 : decode cX7_given 24 = .ok (.ifCond .eq 13, 3) := by decide +kernel
theorem dX7_given_27 : decode cX7_given 27 = .ok (.aload_n 0, 1) := by decide +kernel
theorem dX7_given_28 : decode cX7_given 28 = .ok (.getfield 41, 3) := by decide +kernel
theorem dX7_given_31 : decode cX7_given 31 = .ok (.bipush 6, 2) := by decide +kernel
theorem dX7_given_33 : decode cX7_given 33 = .ok (.iaload, 1) := by decide +kernel
theorem dX7_given_34 : decode cX7_given 34 = .ok (.goto 4, 3) := by decide +kernel
theorem dX7_given_37 : decode cX7_given 37 = .ok (.iconst 0, 1) := by decide +kernel
theorem dX7_given_38 : decode cX7_given 38 = .ok (.iadd, 1) := by decide +kernel
theorem dX7_given_39 : decode cX7_given 39 = .ok (.ireturn, 1) := by decide +kernel
theorem dX7_of_0 : decode cX7_of 0 = .ok (.aload_n 0, 1) := by decide +kernel
theorem dX7_of_1 : decode cX7_of 1 = .ok (.iload_n 1, 1) := by decide +kernel
theorem dX7_of_2 : decode cX7_of 2 = .ok (.invokevirtual 111, 3) := by decide +kernel
theorem dX7_of_5 : decode cX7_of 5 = .ok (.ifCond .eq 15, 3) := by decide +kernel
theorem dX7_of_8 : decode cX7_of 8 = .ok (.iload_n 2, 1) := by decide +kernel
theorem dX7_of_9 : decode cX7_of 9 = .ok (.i2l, 1) := by decide +kernel
theorem dX7_of_10 : decode cX7_of 10 = .ok (.lconst 0, 1) := by decide +kernel
theorem dX7_of_11 : decode cX7_of 11 = .ok (.ldc2_w 139, 3) := by decide +kernel
theorem dX7_of_14 : decode cX7_of 14 = .ok (.invokestatic 102, 3) := by decide +kernel
theorem dX7_of_17 : decode cX7_of 17 = .ok (.ifCond .ne 5, 3) := by decide +kernel
theorem dX7_of_20 : decode cX7_of 20 = .ok (.iconst (-1), 1) := by decide +kernel
theorem dX7_of_21 : decode cX7_of 21 = .ok (.ireturn, 1) := by decide +kernel
theorem dX7_of_22 : decode cX7_of 22 = .ok (.iconst 0, 1) := by decide +kernel
theorem dX7_of_23 : decode cX7_of 23 = .ok (.istore_n 3, 1) := by decide +kernel
theorem dX7_of_24 : decode cX7_of 24 = .ok (.iconst 0, 1) := by decide +kernel
theorem dX7_of_25 : decode cX7_of 25 = .ok (.istore 4, 2) := by decide +kernel
theorem dX7_of_27 : decode cX7_of 27 = .ok (.iload 4, 2) := by decide +kernel
theorem dX7_of_29 : decode cX7_of 29 = .ok (.aload_n 0, 1) := by decide +kernel
theorem dX7_of_30 : decode cX7_of 30 = .ok (.getfield 121, 3) := by decide +kernel
theorem dX7_of_33 : decode cX7_of 33 = .ok (.if_icmp .ge 48, 3) := by decide +kernel
theorem dX7_of_36 : decode cX7_of 36 = .ok (.iload_n 3, 1) := by decide +kernel
theorem dX7_of_37 : decode cX7_of 37 = .ok (.aload_n 0, 1) := by decide +kernel
theorem dX7_of_38 : decode cX7_of 38 = .ok (.getfield 26, 3) := by decide +kernel
theorem dX7_of_41 : decode cX7_of 41 = .ok (.iload 4, 2) := by decide +kernel
theorem dX7_of_43 : decode cX7_of 43 = .ok (.iaload, 1) := by decide +kernel
theorem dX7_of_44 : decode cX7_of 44 = .ok (.iload_n 1, 1) := by decide +kernel
theorem dX7_of_45 : decode cX7_of 45 = .ok (.if_icmp .eq 14, 3) := by decide +kernel
theorem dX7_of_48 : decode cX7_of 48 = .ok (.aload_n 0, 1) := by decide +kernel
theorem dX7_of_49 : decode cX7_of 49 = .ok (.getfield 29, 3) := by decide +kernel
theorem dX7_of_52 : decode cX7_of 52 = .ok (.iload 4, 2) := by decide +kernel
theorem dX7_of_54 : decode cX7_of 54 = .ok (.iaload, 1) := by decide +kernel
theorem dX7_of_55 : decode cX7_of 55 = .ok (.iload_n 1, 1) := by decide +kernel
theorem dX7_of_56 : decode cX7_of 56 = .ok (.if_icmp .ne 16, 3) := by decide +kernel
theorem dX7_of_59 : decode cX7_of 59 = .ok (.aload_n 0, 1) := by decide +kernel
theorem dX7_of_60 : decode cX7_of 60 = .ok (.iload 4, 2) := by decide +kernel
theorem dX7_of_62 : decode cX7_of 62 = .ok (.invokevirtual 136, 3) := by decide +kernel
theorem dX7_of_65 : decode cX7_of 65 = .ok (.ifCond .le 7, 3) := by decide +kernel
theorem dX7_of_68 : decode cX7_of 68 = .ok (.iconst 1, 1) := by decide +kernel
theorem dX7_of_69 : decode cX7_of 69 = .ok (.goto 4, 3) := by decide +kernel
theorem dX7_of_72 : decode cX7_of 72 = .ok (.iconst 0, 1) := by decide +kernel
theorem dX7_of_73 : decode cX7_of 73 = .ok (.iadd, 1) := by decide +kernel
theorem dX7_of_74 : decode cX7_of 74 = .ok (.istore_n 3, 1) := by decide +kernel
theorem dX7_of_75 : decode cX7_of 75 = .ok (.iinc 4 1, 3) := by decide +kernel
theorem dX7_of_78 : decode cX7_of 78 = .ok (.goto (-51), 3) := by decide +kernel
theorem dX7_of_81 : decode cX7_of 81 = .ok (.iload_n 2, 1) := by decide +kernel
theorem dX7_of_82 : decode cX7_of 82 = .ok (.tableswitch 102 0 5 #[38, 45, 60, 75, 89, 96], 38) := by decide +kernel
theorem dX7_of_120 : decode cX7_of 120 = .ok (.aload_n 0, 1) := by decide +kernel
theorem dX7_of_121 : decode cX7_of 121 = .ok (.getfield 7, 3) := by decide +kernel
theorem dX7_of_124 : decode cX7_of 124 = .ok (.iload_n 1, 1) := by decide +kernel
theorem dX7_of_125 : decode cX7_of 125 = .ok (.iaload, 1) := by decide +kernel
theorem dX7_of_126 : decode cX7_of 126 = .ok (.ireturn, 1) := by decide +kernel
theorem dX7_of_127 : decode cX7_of 127 = .ok (.aload_n 0, 1) := by decide +kernel
theorem dX7_of_128 : decode cX7_of 128 = .ok (.getfield 13, 3) := by decide +kernel
theorem dX7_of_131 : decode cX7_of 131 = .ok (.iload_n 1, 1) := by decide +kernel
theorem dX7_of_132 : decode cX7_of 132 = .ok (.baload, 1) := by decide +kernel
theorem dX7_of_133 : decode cX7_of 133 = .ok (.ifCond .eq 7, 3) := by decide +kernel
theorem dX7_of_136 : decode cX7_of 136 = .ok (.iconst 1, 1) := by decide +kernel
theorem dX7_of_137 : decode cX7_of 137 = .ok (.goto 4, 3) := by decide +kernel
theorem dX7_of_140 : decode cX7_of 140 = .ok (.iconst 0, 1) := by decide +kernel
theorem dX7_of_141 : decode cX7_of 141 = .ok (.ireturn, 1) := by decide +kernel
theorem dX7_of_142 : decode cX7_of 142 = .ok (.aload_n 0, 1) := by decide +kernel
theorem dX7_of_143 : decode cX7_of 143 = .ok (.getfield 17, 3) := by decide +kernel
theorem dX7_of_146 : decode cX7_of 146 = .ok (.iload_n 1, 1) := by decide +kernel
theorem dX7_of_147 : decode cX7_of 147 = .ok (.baload, 1) := by decide +kernel
theorem dX7_of_148 : decode cX7_of 148 = .ok (.ifCond .eq 7, 3) := by decide +kernel
theorem dX7_of_151 : decode cX7_of 151 = .ok (.iconst 1, 1) := by decide +kernel
theorem dX7_of_152 : decode cX7_of 152 = .ok (.goto 4, 3) := by decide +kernel
theorem dX7_of_155 : decode cX7_of 155 = .ok (.iconst 0, 1) := by decide +kernel
theorem dX7_of_156 : decode cX7_of 156 = .ok (.ireturn, 1) := by decide +kernel
theorem dX7_of_157 : decode cX7_of 157 = .ok (.aload_n 0, 1) := by decide +kernel
theorem dX7_of_158 : decode cX7_of 158 = .ok (.iload_n 1, 1) := by decide +kernel
theorem dX7_of_159 : decode cX7_of 159 = .ok (.invokevirtual 128, 3) := by decide +kernel
theorem dX7_of_162 : decode cX7_of 162 = .ok (.ifCond .eq 7, 3) := by decide +kernel
theorem dX7_of_165 : decode cX7_of 165 = .ok (.iconst 1, 1) := by decide +kernel
theorem dX7_of_166 : decode cX7_of 166 = .ok (.goto 4, 3) := by decide +kernel
theorem dX7_of_169 : decode cX7_of 169 = .ok (.iconst 0, 1) := by decide +kernel
theorem dX7_of_170 : decode cX7_of 170 = .ok (.ireturn, 1) := by decide +kernel
theorem dX7_of_171 : decode cX7_of 171 = .ok (.aload_n 0, 1) := by decide +kernel
theorem dX7_of_172 : decode cX7_of 172 = .ok (.getfield 20, 3) := by decide +kernel
theorem dX7_of_175 : decode cX7_of 175 = .ok (.iload_n 1, 1) := by decide +kernel
theorem dX7_of_176 : decode cX7_of 176 = .ok (.iaload, 1) := by decide +kernel
theorem dX7_of_177 : decode cX7_of 177 = .ok (.ireturn, 1) := by decide +kernel
theorem dX7_of_178 : decode cX7_of 178 = .ok (.aload_n 0, 1) := by decide +kernel
theorem dX7_of_179 : decode cX7_of 179 = .ok (.iload_n 1, 1) := by decide +kernel
theorem dX7_of_180 : decode cX7_of 180 = .ok (.invokevirtual 141, 3) := by decide +kernel
theorem dX7_of_183 : decode cX7_of 183 = .ok (.ireturn, 1) := by decide +kernel
theorem dX7_of_184 : decode cX7_of 184 = .ok (.iload_n 3, 1) := by decide +kernel
theorem dX7_of_185 : decode cX7_of 185 = .ok (.ireturn, 1) := by decide +kernel
theorem dX7_made_0 : decode cX7_made 0 = .ok (.aload_n 0, 1) := by decide +kernel
theorem dX7_made_1 : decode cX7_made 1 = .ok (.iload_n 1, 1) := by decide +kernel
theorem dX7_made_2 : decode cX7_made 2 = .ok (.invokevirtual 111, 3) := by decide +kernel
theorem dX7_made_5 : decode cX7_made 5 = .ok (.ifCond .ne 5, 3) := by decide +kernel
theorem dX7_made_8 : decode cX7_made 8 = .ok (.iconst (-1), 1) := by decide +kernel
theorem dX7_made_9 : decode cX7_made 9 = .ok (.ireturn, 1) := by decide +kernel
theorem dX7_made_10 : decode cX7_made 10 = .ok (.aload_n 0, 1) := by decide +kernel
theorem dX7_made_11 : decode cX7_made 11 = .ok (.getfield 17, 3) := by decide +kernel
theorem dX7_made_14 : decode cX7_made 14 = .ok (.iload_n 1, 1) := by decide +kernel
theorem dX7_made_15 : decode cX7_made 15 = .ok (.baload, 1) := by decide +kernel
theorem dX7_made_16 : decode cX7_made 16 = .ok (.ifCond .eq 6, 3) := by decide +kernel
theorem dX7_made_19 : decode cX7_made 19 = .ok (.bipush (-2), 2) := by decide +kernel
theorem dX7_made_21 : decode cX7_made 21 = .ok (.ireturn, 1) := by decide +kernel
theorem dX7_made_22 : decode cX7_made 22 = .ok (.aload_n 0, 1) := by decide +kernel
theorem dX7_made_23 : decode cX7_made 23 = .ok (.getfield 17, 3) := by decide +kernel
theorem dX7_made_26 : decode cX7_made 26 = .ok (.iload_n 1, 1) := by decide +kernel
theorem dX7_made_27 : decode cX7_made 27 = .ok (.iconst 1, 1) := by decide +kernel
theorem dX7_made_28 : decode cX7_made 28 = .ok (.bastore, 1) := by decide +kernel
theorem dX7_made_29 : decode cX7_made 29 = .ok (.iconst 0, 1) := by decide +kernel
theorem dX7_made_30 : decode cX7_made 30 = .ok (.istore_n 2, 1) := by decide +kernel
theorem dX7_made_31 : decode cX7_made 31 = .ok (.iconst 0, 1) := by decide +kernel
theorem dX7_made_32 : decode cX7_made 32 = .ok (.istore_n 3, 1) := by decide +kernel
theorem dX7_made_33 : decode cX7_made 33 = .ok (.iload_n 3, 1) := by decide +kernel
theorem dX7_made_34 : decode cX7_made 34 = .ok (.aload_n 0, 1) := by decide +kernel
theorem dX7_made_35 : decode cX7_made 35 = .ok (.getfield 121, 3) := by decide +kernel
theorem dX7_made_38 : decode cX7_made 38 = .ok (.if_icmp .ge 58, 3) := by decide +kernel
theorem dX7_made_41 : decode cX7_made 41 = .ok (.iload_n 2, 1) := by decide +kernel
theorem dX7_made_42 : decode cX7_made 42 = .ok (.aload_n 0, 1) := by decide +kernel
theorem dX7_made_43 : decode cX7_made 43 = .ok (.getfield 35, 3) := by decide +kernel
theorem dX7_made_46 : decode cX7_made 46 = .ok (.iload_n 3, 1) := by decide +kernel
theorem dX7_made_47 : decode cX7_made 47 = .ok (.iaload, 1) := by decide +kernel
theorem dX7_made_48 : decode cX7_made 48 = .ok (.iconst 2, 1) := by decide +kernel
theorem dX7_made_49 : decode cX7_made 49 = .ok (.if_icmp .ne 38, 3) := by decide +kernel
theorem dX7_made_52 : decode cX7_made 52 = .ok (.aload_n 0, 1) := by decide +kernel
theorem dX7_made_53 : decode cX7_made 53 = .ok (.getfield 29, 3) := by decide +kernel
theorem dX7_made_56 : decode cX7_made 56 = .ok (.iload_n 3, 1) := by decide +kernel
theorem dX7_made_57 : decode cX7_made 57 = .ok (.iaload, 1) := by decide +kernel
theorem dX7_made_58 : decode cX7_made 58 = .ok (.iload_n 1, 1) := by decide +kernel
theorem dX7_made_59 : decode cX7_made 59 = .ok (.if_icmp .ne 28, 3) := by decide +kernel
theorem dX7_made_62 : decode cX7_made 62 = .ok (.aload_n 0, 1) := by decide +kernel
theorem dX7_made_63 : decode cX7_made 63 = .ok (.getfield 17, 3) := by decide +kernel
theorem dX7_made_66 : decode cX7_made 66 = .ok (.aload_n 0, 1) := by decide +kernel
theorem dX7_made_67 : decode cX7_made 67 = .ok (.getfield 26, 3) := by decide +kernel
theorem dX7_made_70 : decode cX7_made 70 = .ok (.iload_n 3, 1) := by decide +kernel
theorem dX7_made_71 : decode cX7_made 71 = .ok (.iaload, 1) := by decide +kernel
theorem dX7_made_72 : decode cX7_made 72 = .ok (.baload, 1) := by decide +kernel
theorem dX7_made_73 : decode cX7_made 73 = .ok (.ifCond .ne 14, 3) := by decide +kernel
theorem dX7_made_76 : decode cX7_made 76 = .ok (.iconst 1, 1) := by decide +kernel
theorem dX7_made_77 : decode cX7_made 77 = .ok (.aload_n 0, 1) := by decide +kernel
theorem dX7_made_78 : decode cX7_made 78 = .ok (.getfield 26, 3) := by decide +kernel
theorem dX7_made_81 : decode cX7_made 81 = .ok (.iload_n 3, 1) := by decide +kernel
theorem dX7_made_82 : decode cX7_made 82 = .ok (.iaload, 1) := by decide +kernel
theorem dX7_made_83 : decode cX7_made 83 = .ok (.ishl, 1) := by decide +kernel
theorem dX7_made_84 : decode cX7_made 84 = .ok (.goto 4, 3) := by decide +kernel
theorem dX7_made_87 : decode cX7_made 87 = .ok (.iconst 0, 1) := by decide +kernel
theorem dX7_made_88 : decode cX7_made 88 = .ok (.ior, 1) := by decide +kernel
theorem dX7_made_89 : decode cX7_made 89 = .ok (.istore_n 2, 1) := by decide +kernel
theorem dX7_made_90 : decode cX7_made 90 = .ok (.iinc 3 1, 3) := by decide +kernel
theorem dX7_made_93 : decode cX7_made 93 = .ok (.goto (-60), 3) := by decide +kernel
theorem dX7_made_96 : decode cX7_made 96 = .ok (.iconst 0, 1) := by decide +kernel
theorem dX7_made_97 : decode cX7_made 97 = .ok (.istore_n 3, 1) := by decide +kernel
theorem dX7_made_98 : decode cX7_made 98 = .ok (.iload_n 3, 1) := by decide +kernel
theorem dX7_made_99 : decode cX7_made 99 = .ok (.aload_n 0, 1) := by decide +kernel
theorem dX7_made_100 : decode cX7_made 100 = .ok (.getfield 98, 3) := by decide +kernel
theorem dX7_made_103 : decode cX7_made 103 = .ok (.if_icmp .ge 66, 3) := by decide +kernel
theorem dX7_made_106 : decode cX7_made 106 = .ok (.iload_n 2, 1) := by decide +kernel
theorem dX7_made_107 : decode cX7_made 107 = .ok (.iload_n 3, 1) := by decide +kernel
theorem dX7_made_108 : decode cX7_made 108 = .ok (.ishr, 1) := by decide +kernel
theorem dX7_made_109 : decode cX7_made 109 = .ok (.iconst 1, 1) := by decide +kernel
theorem dX7_made_110 : decode cX7_made 110 = .ok (.iand, 1) := by decide +kernel
theorem dX7_made_111 : decode cX7_made 111 = .ok (.iconst 1, 1) := by decide +kernel
theorem dX7_made_112 : decode cX7_made 112 = .ok (.if_icmp .ne 51, 3) := by decide +kernel
theorem dX7_made_115 : decode cX7_made 115 = .ok (.aload_n 0, 1) := by decide +kernel
theorem dX7_made_116 : decode cX7_made 116 = .ok (.getfield 20, 3) := by decide +kernel
theorem dX7_made_119 : decode cX7_made 119 = .ok (.iload_n 3, 1) := by decide +kernel
theorem dX7_made_120 : decode cX7_made 120 = .ok (.aload_n 0, 1) := by decide +kernel
theorem dX7_made_121 : decode cX7_made 121 = .ok (.getfield 106, 3) := by decide +kernel
theorem dX7_made_124 : decode cX7_made 124 = .ok (.aload_n 0, 1) := by decide +kernel
theorem dX7_made_125 : decode cX7_made 125 = .ok (.getfield 41, 3) := by decide +kernel
theorem dX7_made_128 : decode cX7_made 128 = .ok (.bipush 8, 2) := by decide +kernel
theorem dX7_made_130 : decode cX7_made 130 = .ok (.iaload, 1) := by decide +kernel
theorem dX7_made_131 : decode cX7_made 131 = .ok (.iadd, 1) := by decide +kernel
theorem dX7_made_132 : decode cX7_made 132 = .ok (.aload_n 0, 1) := by decide +kernel
theorem dX7_made_133 : decode cX7_made 133 = .ok (.getfield 20, 3) := by decide +kernel
theorem dX7_made_136 : decode cX7_made 136 = .ok (.iload_n 3, 1) := by decide +kernel
theorem dX7_made_137 : decode cX7_made 137 = .ok (.iaload, 1) := by decide +kernel
theorem dX7_made_138 : decode cX7_made 138 = .ok (.if_icmp .le 18, 3) := by decide +kernel
theorem dX7_made_141 : decode cX7_made 141 = .ok (.aload_n 0, 1) := by decide +kernel
theorem dX7_made_142 : decode cX7_made 142 = .ok (.getfield 106, 3) := by decide +kernel
theorem dX7_made_145 : decode cX7_made 145 = .ok (.aload_n 0, 1) := by decide +kernel
theorem dX7_made_146 : decode cX7_made 146 = .ok (.getfield 41, 3) := by decide +kernel
theorem dX7_made_149 : decode cX7_made 149 = .ok (.bipush 8, 2) := by decide +kernel
theorem dX7_made_151 : decode cX7_made 151 = .ok (.iaload, 1) := by decide +kernel
theorem dX7_made_152 : decode cX7_made 152 = .ok (.iadd, 1) := by decide +kernel
theorem dX7_made_153 : decode cX7_made 153 = .ok (.goto 9, 3) := by decide +kernel
theorem dX7_made_156 : decode cX7_made 156 = .ok (.aload_n 0, 1) := by decide +kernel
theorem dX7_made_157 : decode cX7_made 157 = .ok (.getfield 20, 3) := by decide +kernel
theorem dX7_made_160 : decode cX7_made 160 = .ok (.iload_n 3, 1) := by decide +kernel
theorem dX7_made_161 : decode cX7_made 161 = .ok (.iaload, 1) := by decide +kernel
theorem dX7_made_162 : decode cX7_made 162 = .ok (.iastore, 1) := by decide +kernel
theorem dX7_made_163 : decode cX7_made 163 = .ok (.iinc 3 1, 3) := by decide +kernel
theorem dX7_made_166 : decode cX7_made 166 = .ok (.goto (-68), 3) := by decide +kernel
theorem dX7_made_169 : decode cX7_made 169 = .ok (.iload_n 2, 1) := by decide +kernel
theorem dX7_made_170 : decode cX7_made 170 = .ok (.invokestatic 144, 3) := by decide +kernel
theorem dX7_made_173 : decode cX7_made 173 = .ok (.ireturn, 1) := by decide +kernel
theorem dX7_day_0 : decode cX7_day 0 = .ok (.iload_n 1, 1) := by decide +kernel
theorem dX7_day_1 : decode cX7_day 1 = .ok (.i2l, 1) := by decide +kernel
theorem dX7_day_2 : decode cX7_day 2 = .ok (.aload_n 0, 1) := by decide +kernel
theorem dX7_day_3 : decode cX7_day 3 = .ok (.getfield 106, 3) := by decide +kernel
theorem dX7_day_6 : decode cX7_day 6 = .ok (.i2l, 1) := by decide +kernel
theorem dX7_day_7 : decode cX7_day 7 = .ok (.ldc2_w 147, 3) := by decide +kernel
theorem dX7_day_10 : decode cX7_day 10 = .ok (.invokestatic 102, 3) := by decide +kernel
theorem dX7_day_13 : decode cX7_day 13 = .ok (.ifCond .ne 5, 3) := by decide +kernel
theorem dX7_day_16 : decode cX7_day 16 = .ok (.iconst (-1), 1) := by decide +kernel
theorem dX7_day_17 : decode cX7_day 17 = .ok (.ireturn, 1) := by decide +kernel
theorem dX7_day_18 : decode cX7_day 18 = .ok (.aload_n 0, 1) := by decide +kernel
theorem dX7_day_19 : decode cX7_day 19 = .ok (.getfield 106, 3) := by decide +kernel
theorem dX7_day_22 : decode cX7_day 22 = .ok (.istore_n 2, 1) := by decide +kernel
theorem dX7_day_23 : decode cX7_day 23 = .ok (.aload_n 0, 1) := by decide +kernel
theorem dX7_day_24 : decode cX7_day 24 = .ok (.iload_n 1, 1) := by decide +kernel
theorem dX7_day_25 : decode cX7_day 25 = .ok (.putfield 106, 3) := by decide +kernel
theorem dX7_day_28 : decode cX7_day 28 = .ok (.iload_n 2, 1) := by decide +kernel
theorem dX7_day_29 : decode cX7_day 29 = .ok (.ireturn, 1) := by decide +kernel
theorem dX7_firstRules_0 : decode cX7_firstRules 0 = .ok (.iconst 0, 1) := by decide +kernel
theorem dX7_firstRules_1 : decode cX7_firstRules 1 = .ok (.istore_n 1, 1) := by decide +kernel
theorem dX7_firstRules_2 : decode cX7_firstRules 2 = .ok (.iload_n 1, 1) := by decide +kernel
theorem dX7_firstRules_3 : decode cX7_firstRules 3 = .ok (.bipush 10, 2) := by decide +kernel
theorem dX7_firstRules_5 : decode cX7_firstRules 5 = .ok (.if_icmp .ge 95, 3) := by decide +kernel
theorem dX7_firstRules_8 : decode cX7_firstRules 8 = .ok (.aload_n 0, 1) := by decide +kernel
theorem dX7_firstRules_9 : decode cX7_firstRules 9 = .ok (.getfield 47, 3) := by decide +kernel
theorem dX7_firstRules_12 : decode cX7_firstRules 12 = .ok (.iload_n 1, 1) := by decide +kernel
theorem dX7_firstRules_13 : decode cX7_firstRules 13 = .ok (.iconst 0, 1) := by decide +kernel
theorem dX7_firstRules_14 : decode cX7_firstRules 14 = .ok (.bastore, 1) := by decide +kernel
theorem dX7_firstRules_15 : decode cX7_firstRules 15 = .ok (.aload_n 0, 1) := by decide +kernel
theorem dX7_firstRules_16 : decode cX7_firstRules 16 = .ok (.getfield 44, 3) := by decide +kernel
theorem dX7_firstRules_19 : decode cX7_firstRules 19 = .ok (.iload_n 1, 1) := by decide +kernel
theorem dX7_firstRules_20 : decode cX7_firstRules 20 = .ok (.iload_n 1, 1) := by decide +kernel
theorem dX7_firstRules_21 : decode cX7_firstRules 21 = .ok (.ifCond .eq 15, 3) := by decide +kernel
theorem dX7_firstRules_24 : decode cX7_firstRules 24 = .ok (.iload_n 1, 1) := by decide +kernel
theorem dX7_firstRules_25 : decode cX7_firstRules 25 = .ok (.bipush 6, 2) := by decide +kernel
theorem dX7_firstRules_27 : decode cX7_firstRules 27 = .ok (.if_icmp .eq 9, 3) := by decide +kernel
theorem dX7_firstRules_30 : decode cX7_firstRules 30 = .ok (.iload_n 1, 1) := by decide +kernel
theorem dX7_firstRules_31 : decode cX7_firstRules 31 = .ok (.bipush 8, 2) := by decide +kernel
theorem dX7_firstRules_33 : decode cX7_firstRules 33 = .ok (.if_icmp .ne 8, 3) := by decide +kernel
theorem dX7_firstRules_36 : decode cX7_firstRules 36 = .ok (.bipush 100, 2) := by decide +kernel
theorem dX7_firstRules_38 : decode cX7_firstRules 38 = .ok (.goto 55, 3) := by decide +kernel
theorem dX7_firstRules_41 : decode cX7_firstRules 41 = .ok (.iload_n 1, 1) := by decide +kernel
theorem dX7_firstRules_42 : decode cX7_firstRules 42 = .ok (.iconst 1, 1) := by decide +kernel
theorem dX7_firstRules_43 : decode cX7_firstRules 43 = .ok (.if_icmp .ne 8, 3) := by decide +kernel
theorem dX7_firstRules_46 : decode cX7_firstRules 46 = .ok (.bipush 80, 2) := by decide +kernel
theorem dX7_firstRules_48 : decode cX7_firstRules 48 = .ok (.goto 45, 3) := by decide +kernel
theorem dX7_firstRules_51 : decode cX7_firstRules 51 = .ok (.iload_n 1, 1) := by decide +kernel
theorem dX7_firstRules_52 : decode cX7_firstRules 52 = .ok (.iconst 2, 1) := by decide +kernel
theorem dX7_firstRules_53 : decode cX7_firstRules 53 = .ok (.if_icmp .ne 8, 3) := by decide +kernel
theorem dX7_firstRules_56 : decode cX7_firstRules 56 = .ok (.bipush 50, 2) := by decide +kernel
theorem dX7_firstRules_58 : decode cX7_firstRules 58 = .ok (.goto 35, 3) := by decide +kernel
theorem dX7_firstRules_61 : decode cX7_firstRules 61 = .ok (.iload_n 1, 1) := by decide +kernel
theorem dX7_firstRules_62 : decode cX7_firstRules 62 = .ok (.iconst 3, 1) := by decide +kernel
theorem dX7_firstRules_63 : decode cX7_firstRules 63 = .ok (.if_icmp .ne 7, 3) := by decide +kernel
theorem dX7_firstRules_66 : decode cX7_firstRules 66 = .ok (.iconst 0, 1) := by decide +kernel
theorem dX7_firstRules_67 : decode cX7_firstRules 67 = .ok (.goto 26, 3) := by decide +kernel
theorem dX7_firstRules_70 : decode cX7_firstRules 70 = .ok (.iload_n 1, 1) := by decide +kernel
theorem dX7_firstRules_71 : decode cX7_firstRules 71 = .ok (.iconst 5, 1) := by decide +kernel
theorem dX7_firstRules_72 : decode cX7_firstRules 72 = .ok (.if_icmp .ne 8, 3) := by decide +kernel
theorem dX7_firstRules_75 : decode cX7_firstRules 75 = .ok (.bipush 20, 2) := by decide +kernel
theorem dX7_firstRules_77 : decode cX7_firstRules 77 = .ok (.goto 16, 3) := by decide +kernel
theorem dX7_firstRules_80 : decode cX7_firstRules 80 = .ok (.iload_n 1, 1) := by decide +kernel
theorem dX7_firstRules_81 : decode cX7_firstRules 81 = .ok (.bipush 9, 2) := by decide +kernel
theorem dX7_firstRules_83 : decode cX7_firstRules 83 = .ok (.if_icmp .ne 8, 3) := by decide +kernel
theorem dX7_firstRules_86 : decode cX7_firstRules 86 = .ok (.bipush 8, 2) := by decide +kernel
theorem dX7_firstRules_88 : decode cX7_firstRules 88 = .ok (.goto 5, 3) := by decide +kernel
theorem dX7_firstRules_91 : decode cX7_firstRules 91 = .ok (.bipush 10, 2) := by decide +kernel
theorem dX7_firstRules_93 : decode cX7_firstRules 93 = .ok (.iastore, 1) := by decide +kernel
theorem dX7_firstRules_94 : decode cX7_firstRules 94 = .ok (.iinc 1 1, 3) := by decide +kernel
theorem dX7_firstRules_97 : decode cX7_firstRules 97 = .ok (.goto (-95), 3) := by decide +kernel
theorem dX7_firstRules_100 : decode cX7_firstRules 100 = .ok (.return_, 1) := by decide +kernel
theorem dX7_keepRules_0 : decode cX7_keepRules 0 = .ok (.iconst 0, 1) := by decide +kernel
theorem dX7_keepRules_1 : decode cX7_keepRules 1 = .ok (.istore_n 1, 1) := by decide +kernel
theorem dX7_keepRules_2 : decode cX7_keepRules 2 = .ok (.iload_n 1, 1) := by decide +kernel
theorem dX7_keepRules_3 : decode cX7_keepRules 3 = .ok (.bipush 10, 2) := by decide +kernel
theorem dX7_keepRules_5 : decode cX7_keepRules 5 = .ok (.if_icmp .ge 21, 3) := by decide +kernel
theorem dX7_keepRules_8 : decode cX7_keepRules 8 = .ok (.aload_n 0, 1) := by decide +kernel
theorem dX7_keepRules_9 : decode cX7_keepRules 9 = .ok (.getfield 41, 3) := by decide +kernel
theorem dX7_keepRules_12 : decode cX7_keepRules 12 = .ok (.iload_n 1, 1) := by decide +kernel
theorem dX7_keepRules_13 : decode cX7_keepRules 13 = .ok (.aload_n 0, 1) := by decide +kernel
theorem dX7_keepRules_14 : decode cX7_keepRules 14 = .ok (.getfield 44, 3) := by decide +kernel
theorem dX7_keepRules_17 : decode cX7_keepRules 17 = .ok (.iload_n 1, 1) := by decide +kernel
theorem dX7_keepRules_18 : decode cX7_keepRules 18 = .ok (.iaload, 1) := by decide +kernel
theorem dX7_keepRules_19 : decode cX7_keepRules 19 = .ok (.iastore, 1) := by decide +kernel
theorem dX7_keepRules_20 : decode cX7_keepRules 20 = .ok (.iinc 1 1, 3) := by decide +kernel
theorem dX7_keepRules_23 : decode cX7_keepRules 23 = .ok (.goto (-21), 3) := by decide +kernel
theorem dX7_keepRules_26 : decode cX7_keepRules 26 = .ok (.return_, 1) := by decide +kernel
theorem dX7_feed_0 : decode cX7_feed 0 = .ok (.aload_n 0, 1) := by decide +kernel
theorem dX7_feed_1 : decode cX7_feed 1 = .ok (.getfield 149, 3) := by decide +kernel
theorem dX7_feed_4 : decode cX7_feed 4 = .ok (.bipush 8, 2) := by decide +kernel
theorem dX7_feed_6 : decode cX7_feed 6 = .ok (.iadd, 1) := by decide +kernel
theorem dX7_feed_7 : decode cX7_feed 7 = .ok (.sipush 200, 3) := by decide +kernel
theorem dX7_feed_10 : decode cX7_feed 10 = .ok (.if_icmp .le 6, 3) := by decide +kernel
theorem dX7_feed_13 : decode cX7_feed 13 = .ok (.bipush (-3), 2) := by decide +kernel
theorem dX7_feed_15 : decode cX7_feed 15 = .ok (.ireturn, 1) := by decide +kernel
theorem dX7_feed_16 : decode cX7_feed 16 = .ok (.bipush 56, 2) := by decide +kernel
theorem dX7_feed_18 : decode cX7_feed 18 = .ok (.istore_n 3, 1) := by decide +kernel
theorem dX7_feed_19 : decode cX7_feed 19 = .ok (.iload_n 3, 1) := by decide +kernel
theorem dX7_feed_20 : decode cX7_feed 20 = .ok (.ifCond .lt 36, 3) := by decide +kernel
theorem dX7_feed_23 : decode cX7_feed 23 = .ok (.aload_n 0, 1) := by decide +kernel
theorem dX7_feed_24 : decode cX7_feed 24 = .ok (.getfield 50, 3) := by decide +kernel
theorem dX7_feed_27 : decode cX7_feed 27 = .ok (.aload_n 0, 1) := by decide +kernel
theorem dX7_feed_28 : decode cX7_feed 28 = .ok (.getfield 149, 3) := by decide +kernel
theorem dX7_feed_31 : decode cX7_feed 31 = .ok (.lload_n 1, 1) := by decide +kernel
theorem dX7_feed_32 : decode cX7_feed 32 = .ok (.iload_n 3, 1) := by decide +kernel
theorem dX7_feed_33 : decode cX7_feed 33 = .ok (.lshr, 1) := by decide +kernel
theorem dX7_feed_34 : decode cX7_feed 34 = .ok (.ldc2_w 152, 3) := by decide +kernel
theorem dX7_feed_37 : decode cX7_feed 37 = .ok (.land, 1) := by decide +kernel
theorem dX7_feed_38 : decode cX7_feed 38 = .ok (.l2i, 1) := by decide +kernel
theorem dX7_feed_39 : decode cX7_feed 39 = .ok (.iastore, 1) := by decide +kernel
theorem dX7_feed_40 : decode cX7_feed 40 = .ok (.aload_n 0, 1) := by decide +kernel
theorem dX7_feed_41 : decode cX7_feed 41 = .ok (.dup, 1) := by decide +kernel
theorem dX7_feed_42 : decode cX7_feed 42 = .ok (.getfield 149, 3) := by decide +kernel
theorem dX7_feed_45 : decode cX7_feed 45 = .ok (.iconst 1, 1) := by decide +kernel
theorem dX7_feed_46 : decode cX7_feed 46 = .ok (.iadd, 1) := by decide +kernel
theorem dX7_feed_47 : decode cX7_feed 47 = .ok (.putfield 149, 3) := by decide +kernel
theorem dX7_feed_50 : decode cX7_feed 50 = .ok (.iinc 3 (-8), 3) := by decide +kernel
theorem dX7_feed_53 : decode cX7_feed 53 = .ok (.goto (-34), 3) := by decide +kernel
theorem dX7_feed_56 : decode cX7_feed 56 = .ok (.aload_n 0, 1) := by decide +kernel
theorem dX7_feed_57 : decode cX7_feed 57 = .ok (.getfield 149, 3) := by decide +kernel
theorem dX7_feed_60 : decode cX7_feed 60 = .ok (.ireturn, 1) := by decide +kernel
theorem dX7_end_0 : decode cX7_end 0 = .ok (.iload_n 1, 1) := by decide +kernel
theorem dX7_end_1 : decode cX7_end 1 = .ok (.i2l, 1) := by decide +kernel
theorem dX7_end_2 : decode cX7_end 2 = .ok (.lconst 0, 1) := by decide +kernel
theorem dX7_end_3 : decode cX7_end 3 = .ok (.aload_n 0, 1) := by decide +kernel
theorem dX7_end_4 : decode cX7_end 4 = .ok (.getfield 149, 3) := by decide +kernel
theorem dX7_end_7 : decode cX7_end 7 = .ok (.i2l, 1) := by decide +kernel
theorem dX7_end_8 : decode cX7_end 8 = .ok (.invokestatic 102, 3) := by decide +kernel
theorem dX7_end_11 : decode cX7_end 11 = .ok (.ifCond .ne 5, 3) := by decide +kernel
theorem dX7_end_14 : decode cX7_end 14 = .ok (.iconst (-1), 1) := by decide +kernel
theorem dX7_end_15 : decode cX7_end 15 = .ok (.ireturn, 1) := by decide +kernel
theorem dX7_end_16 : decode cX7_end 16 = .ok (.aload_n 0, 1) := by decide +kernel
theorem dX7_end_17 : decode cX7_end 17 = .ok (.getfield 149, 3) := by decide +kernel
theorem dX7_end_20 : decode cX7_end 20 = .ok (.istore_n 2, 1) := by decide +kernel
theorem dX7_end_21 : decode cX7_end 21 = .ok (.aload_n 0, 1) := by decide +kernel
theorem dX7_end_22 : decode cX7_end 22 = .ok (.iload_n 1, 1) := by decide +kernel
theorem dX7_end_23 : decode cX7_end 23 = .ok (.putfield 149, 3) := by decide +kernel
theorem dX7_end_26 : decode cX7_end 26 = .ok (.iload_n 2, 1) := by decide +kernel
theorem dX7_end_27 : decode cX7_end 27 = .ok (.ireturn, 1) := by decide +kernel
theorem dX7_wants_0 : decode cX7_wants 0 = .ok (.iload_n 1, 1) := by decide +kernel
theorem dX7_wants_1 : decode cX7_wants 1 = .ok (.ifCond .ne 23, 3) := by decide +kernel
theorem dX7_wants_4 : decode cX7_wants 4 = .ok (.aload_n 0, 1) := by decide +kernel
theorem dX7_wants_5 : decode cX7_wants 5 = .ok (.getfield 154, 3) := by decide +kernel
theorem dX7_wants_8 : decode cX7_wants 8 = .ok (.ifCond .ne 16, 3) := by decide +kernel
theorem dX7_wants_11 : decode cX7_wants 11 = .ok (.aload_n 0, 1) := by decide +kernel
theorem dX7_wants_12 : decode cX7_wants 12 = .ok (.iload_n 2, 1) := by decide +kernel
theorem dX7_wants_13 : decode cX7_wants 13 = .ok (.putfield 154, 3) := by decide +kernel
theorem dX7_wants_16 : decode cX7_wants 16 = .ok (.aload_n 0, 1) := by decide +kernel
theorem dX7_wants_17 : decode cX7_wants 17 = .ok (.aload_n 0, 1) := by decide +kernel
theorem dX7_wants_18 : decode cX7_wants 18 = .ok (.getfield 157, 3) := by decide +kernel
theorem dX7_wants_21 : decode cX7_wants 21 = .ok (.putfield 160, 3) := by decide +kernel
theorem dX7_wants_24 : decode cX7_wants 24 = .ok (.return_, 1) := by decide +kernel
theorem dX7_look_0 : decode cX7_look 0 = .ok (.iload_n 1, 1) := by decide +kernel
theorem dX7_look_1 : decode cX7_look 1 = .ok (.aload_n 0, 1) := by decide +kernel
theorem dX7_look_2 : decode cX7_look 2 = .ok (.getfield 149, 3) := by decide +kernel
theorem dX7_look_5 : decode cX7_look 5 = .ok (.if_icmp .ge 12, 3) := by decide +kernel
theorem dX7_look_8 : decode cX7_look 8 = .ok (.aload_n 0, 1) := by decide +kernel
theorem dX7_look_9 : decode cX7_look 9 = .ok (.getfield 50, 3) := by decide +kernel
theorem dX7_look_12 : decode cX7_look 12 = .ok (.iload_n 1, 1) := by decide +kernel
theorem dX7_look_13 : decode cX7_look 13 = .ok (.iaload, 1) := by decide +kernel
theorem dX7_look_14 : decode cX7_look 14 = .ok (.goto 4, 3) := by decide +kernel
theorem dX7_look_17 : decode cX7_look 17 = .ok (.iconst (-1), 1) := by decide +kernel
theorem dX7_look_18 : decode cX7_look 18 = .ok (.ireturn, 1) := by decide +kernel
theorem dX7_is_0 : decode cX7_is 0 = .ok (.aload_n 0, 1) := by decide +kernel
theorem dX7_is_1 : decode cX7_is 1 = .ok (.getfield 163, 3) := by decide +kernel
theorem dX7_is_4 : decode cX7_is 4 = .ok (.aload_n 0, 1) := by decide +kernel
theorem dX7_is_5 : decode cX7_is 5 = .ok (.getfield 157, 3) := by decide +kernel
theorem dX7_is_8 : decode cX7_is 8 = .ok (.isub, 1) := by decide +kernel
theorem dX7_is_9 : decode cX7_is 9 = .ok (.iload_n 1, 1) := by decide +kernel
theorem dX7_is_10 : decode cX7_is 10 = .ok (.if_icmp .ne 68, 3) := by decide +kernel
theorem dX7_is_13 : decode cX7_is 13 = .ok (.aload_n 0, 1) := by decide +kernel
theorem dX7_is_14 : decode cX7_is 14 = .ok (.aload_n 0, 1) := by decide +kernel
theorem dX7_is_15 : decode cX7_is 15 = .ok (.getfield 157, 3) := by decide +kernel
theorem dX7_is_18 : decode cX7_is 18 = .ok (.invokevirtual 166, 3) := by decide +kernel
theorem dX7_is_21 : decode cX7_is 21 = .ok (.iload_n 2, 1) := by decide +kernel
theorem dX7_is_22 : decode cX7_is 22 = .ok (.if_icmp .ne 56, 3) := by decide +kernel
theorem dX7_is_25 : decode cX7_is 25 = .ok (.aload_n 0, 1) := by decide +kernel
theorem dX7_is_26 : decode cX7_is 26 = .ok (.aload_n 0, 1) := by decide +kernel
theorem dX7_is_27 : decode cX7_is 27 = .ok (.getfield 157, 3) := by decide +kernel
theorem dX7_is_30 : decode cX7_is 30 = .ok (.iconst 1, 1) := by decide +kernel
theorem dX7_is_31 : decode cX7_is 31 = .ok (.iadd, 1) := by decide +kernel
theorem dX7_is_32 : decode cX7_is 32 = .ok (.invokevirtual 166, 3) := by decide +kernel
theorem dX7_is_35 : decode cX7_is 35 = .ok (.iload_n 3, 1) := by decide +kernel
theorem dX7_is_36 : decode cX7_is 36 = .ok (.if_icmp .ne 42, 3) := by decide +kernel
theorem dX7_is_39 : decode cX7_is 39 = .ok (.aload_n 0, 1) := by decide +kernel
theorem dX7_is_40 : decode cX7_is 40 = .ok (.aload_n 0, 1) := by decide +kernel
theorem dX7_is_41 : decode cX7_is 41 = .ok (.getfield 157, 3) := by decide +kernel
theorem dX7_is_44 : decode cX7_is 44 = .ok (.iconst 2, 1) := by decide +kernel
theorem dX7_is_45 : decode cX7_is 45 = .ok (.iadd, 1) := by decide +kernel
theorem dX7_is_46 : decode cX7_is 46 = .ok (.invokevirtual 166, 3) := by decide +kernel
theorem dX7_is_49 : decode cX7_is 49 = .ok (.iload 4, 2) := by decide +kernel
theorem dX7_is_51 : decode cX7_is 51 = .ok (.if_icmp .ne 27, 3) := by decide +kernel
theorem dX7_is_54 : decode cX7_is 54 = .ok (.iload_n 1, 1) := by decide +kernel
theorem dX7_is_55 : decode cX7_is 55 = .ok (.iconst 4, 1) := by decide +kernel
theorem dX7_is_56 : decode cX7_is 56 = .ok (.if_icmp .lt 18, 3) := by decide +kernel
theorem dX7_is_59 : decode cX7_is 59 = .ok (.aload_n 0, 1) := by decide +kernel
theorem dX7_is_60 : decode cX7_is 60 = .ok (.aload_n 0, 1) := by decide +kernel
theorem dX7_is_61 : decode cX7_is 61 = .ok (.getfield 157, 3) := by decide +kernel
theorem dX7_is_64 : decode cX7_is 64 = .ok (.iconst 3, 1) := by decide +kernel
theorem dX7_is_65 : decode cX7_is 65 = .ok (.iadd, 1) := by decide +kernel
theorem dX7_is_66 : decode cX7_is 66 = .ok (.invokevirtual 166, 3) := by decide +kernel
theorem dX7_is_69 : decode cX7_is 69 = .ok (.iload 5, 2) := by decide +kernel
theorem dX7_is_71 : decode cX7_is 71 = .ok (.if_icmp .ne 7, 3) := by decide +kernel
theorem dX7_is_74 : decode cX7_is 74 = .ok (.iconst 1, 1) := by decide +kernel
theorem dX7_is_75 : decode cX7_is 75 = .ok (.goto 4, 3) := by decide +kernel
theorem dX7_is_78 : decode cX7_is 78 = .ok (.iconst 0, 1) := by decide +kernel
theorem dX7_is_79 : decode cX7_is 79 = .ok (.ireturn, 1) := by decide +kernel
theorem dX7_nameNow_0 : decode cX7_nameNow 0 = .ok (.aload_n 0, 1) := by decide +kernel
theorem dX7_nameNow_1 : decode cX7_nameNow 1 = .ok (.iconst 3, 1) := by decide +kernel
theorem dX7_nameNow_2 : decode cX7_nameNow 2 = .ok (.bipush 109, 2) := by decide +kernel
theorem dX7_nameNow_4 : decode cX7_nameNow 4 = .ok (.bipush 101, 2) := by decide +kernel
theorem dX7_nameNow_6 : decode cX7_nameNow 6 = .ok (.bipush 116, 2) := by decide +kernel
theorem dX7_nameNow_8 : decode cX7_nameNow 8 = .ok (.iconst 0, 1) := by decide +kernel
theorem dX7_nameNow_9 : decode cX7_nameNow 9 = .ok (.invokevirtual 169, 3) := by decide +kernel
theorem dX7_nameNow_12 : decode cX7_nameNow 12 = .ok (.ifCond .eq 5, 3) := by decide +kernel
theorem dX7_nameNow_15 : decode cX7_nameNow 15 = .ok (.iconst 0, 1) := by decide +kernel
theorem dX7_nameNow_16 : decode cX7_nameNow 16 = .ok (.ireturn, 1) := by decide +kernel
theorem dX7_nameNow_17 : decode cX7_nameNow 17 = .ok (.aload_n 0, 1) := by decide +kernel
theorem dX7_nameNow_18 : decode cX7_nameNow 18 = .ok (.iconst 5, 1) := by decide +kernel
theorem dX7_nameNow_19 : decode cX7_nameNow 19 = .ok (.bipush 100, 2) := by decide +kernel
theorem dX7_nameNow_21 : decode cX7_nameNow 21 = .ok (.bipush 101, 2) := by decide +kernel
theorem dX7_nameNow_23 : decode cX7_nameNow 23 = .ok (.bipush 97, 2) := by decide +kernel
theorem dX7_nameNow_25 : decode cX7_nameNow 25 = .ok (.bipush 108, 2) := by decide +kernel
theorem dX7_nameNow_27 : decode cX7_nameNow 27 = .ok (.invokevirtual 169, 3) := by decide +kernel
theorem dX7_nameNow_30 : decode cX7_nameNow 30 = .ok (.ifCond .eq 20, 3) := by decide +kernel
theorem dX7_nameNow_33 : decode cX7_nameNow 33 = .ok (.aload_n 0, 1) := by decide +kernel
theorem dX7_nameNow_34 : decode cX7_nameNow 34 = .ok (.aload_n 0, 1) := by decide +kernel
theorem dX7_nameNow_35 : decode cX7_nameNow 35 = .ok (.getfield 157, 3) := by decide +kernel
theorem dX7_nameNow_38 : decode cX7_nameNow 38 = .ok (.iconst 4, 1) := by decide +kernel
theorem dX7_nameNow_39 : decode cX7_nameNow 39 = .ok (.iadd, 1) := by decide +kernel
theorem dX7_nameNow_40 : decode cX7_nameNow 40 = .ok (.invokevirtual 166, 3) := by decide +kernel
theorem dX7_nameNow_43 : decode cX7_nameNow 43 = .ok (.bipush 116, 2) := by decide +kernel
theorem dX7_nameNow_45 : decode cX7_nameNow 45 = .ok (.if_icmp .ne 5, 3) := by decide +kernel
theorem dX7_nameNow_48 : decode cX7_nameNow 48 = .ok (.iconst 1, 1) := by decide +kernel
theorem dX7_nameNow_49 : decode cX7_nameNow 49 = .ok (.ireturn, 1) := by decide +kernel
theorem dX7_nameNow_50 : decode cX7_nameNow 50 = .ok (.aload_n 0, 1) := by decide +kernel
theorem dX7_nameNow_51 : decode cX7_nameNow 51 = .ok (.iconst 4, 1) := by decide +kernel
theorem dX7_nameNow_52 : decode cX7_nameNow 52 = .ok (.bipush 115, 2) := by decide +kernel
theorem dX7_nameNow_54 : decode cX7_nameNow 54 = .ok (.bipush 97, 2) := by decide +kernel
theorem dX7_nameNow_56 : decode cX7_nameNow 56 = .ok (.bipush 105, 2) := by decide +kernel
theorem dX7_nameNow_58 : decode cX7_nameNow 58 = .ok (.bipush 100, 2) := by decide +kernel
theorem dX7_nameNow_60 : decode cX7_nameNow 60 = .ok (.invokevirtual 169, 3) := by decide +kernel
theorem dX7_nameNow_63 : decode cX7_nameNow 63 = .ok (.ifCond .eq 5, 3) := by decide +kernel
theorem dX7_nameNow_66 : decode cX7_nameNow 66 = .ok (.iconst 2, 1) := by decide +kernel
theorem dX7_nameNow_67 : decode cX7_nameNow 67 = .ok (.ireturn, 1) := by decide +kernel
theorem dX7_nameNow_68 : decode cX7_nameNow 68 = .ok (.aload_n 0, 1) := by decide +kernel
theorem dX7_nameNow_69 : decode cX7_nameNow 69 = .ok (.bipush 6, 2) := by decide +kernel
theorem dX7_nameNow_71 : decode cX7_nameNow 71 = .ok (.bipush 98, 2) := by decide +kernel
theorem dX7_nameNow_73 : decode cX7_nameNow 73 = .ok (.bipush 111, 2) := by decide +kernel
theorem dX7_nameNow_75 : decode cX7_nameNow 75 = .ok (.bipush 117, 2) := by decide +kernel
theorem dX7_nameNow_77 : decode cX7_nameNow 77 = .ok (.bipush 103, 2) := by decide +kernel
theorem dX7_nameNow_79 : decode cX7_nameNow 79 = .ok (.invokevirtual 169, 3) := by decide +kernel
theorem dX7_nameNow_82 : decode cX7_nameNow 82 = .ok (.ifCond .eq 35, 3) := by decide +kernel
theorem dX7_nameNow_85 : decode cX7_nameNow 85 = .ok (.aload_n 0, 1) := by decide +kernel
theorem dX7_nameNow_86 : decode cX7_nameNow 86 = .ok (.aload_n 0, 1) := by decide +kernel
theorem dX7_nameNow_87 : decode cX7_nameNow 87 = .ok (.getfield 157, 3) := by decide +kernel
theorem dX7_nameNow_90 : decode cX7_nameNow 90 = .ok (.iconst 4, 1) := by decide +kernel
theorem dX7_nameNow_91 : decode cX7_nameNow 91 = .ok (.iadd, 1) := by decide +kernel
theorem dX7_nameNow_92 : decode cX7_nameNow 92 = .ok (.invokevirtual 166, 3) := by decide +kernel
theorem dX7_nameNow_95 : decode cX7_nameNow 95 = .ok (.bipush 104, 2) := by decide +kernel
theorem dX7_nameNow_97 : decode cX7_nameNow 97 = .ok (.if_icmp .ne 20, 3) := by decide +kernel
theorem dX7_nameNow_100 : decode cX7_nameNow 100 = .ok (.aload_n 0, 1) := by decide +kernel
theorem dX7_nameNow_101 : decode cX7_nameNow 101 = .ok (.aload_n 0, 1) := by decide +kernel
theorem dX7_nameNow_102 : decode cX7_nameNow 102 = .ok (.getfield 157, 3) := by decide +kernel
theorem dX7_nameNow_105 : decode cX7_nameNow 105 = .ok (.iconst 5, 1) := by decide +kernel
theorem dX7_nameNow_106 : decode cX7_nameNow 106 = .ok (.iadd, 1) := by decide +kernel
theorem dX7_nameNow_107 : decode cX7_nameNow 107 = .ok (.invokevirtual 166, 3) := by decide +kernel
theorem dX7_nameNow_110 : decode cX7_nameNow 110 = .ok (.bipush 116, 2) := by decide +kernel
theorem dX7_nameNow_112 : decode cX7_nameNow 112 = .ok (.if_icmp .ne 5, 3) := by decide +kernel
theorem dX7_nameNow_115 : decode cX7_nameNow 115 = .ok (.iconst 3, 1) := by decide +kernel
theorem dX7_nameNow_116 : decode cX7_nameNow 116 = .ok (.ireturn, 1) := by decide +kernel
theorem dX7_nameNow_117 : decode cX7_nameNow 117 = .ok (.aload_n 0, 1) := by decide +kernel
theorem dX7_nameNow_118 : decode cX7_nameNow 118 = .ok (.iconst 4, 1) := by decide +kernel
theorem dX7_nameNow_119 : decode cX7_nameNow 119 = .ok (.bipush 102, 2) := by decide +kernel
theorem dX7_nameNow_121 : decode cX7_nameNow 121 = .ok (.bipush 97, 2) := by decide +kernel
theorem dX7_nameNow_123 : decode cX7_nameNow 123 = .ok (.bipush 100, 2) := by decide +kernel
theorem dX7_nameNow_125 : decode cX7_nameNow 125 = .ok (.bipush 101, 2) := by decide +kernel
theorem dX7_nameNow_127 : decode cX7_nameNow 127 = .ok (.invokevirtual 169, 3) := by decide +kernel
theorem dX7_nameNow_130 : decode cX7_nameNow 130 = .ok (.ifCond .eq 5, 3) := by decide +kernel
theorem dX7_nameNow_133 : decode cX7_nameNow 133 = .ok (.iconst 4, 1) := by decide +kernel
theorem dX7_nameNow_134 : decode cX7_nameNow 134 = .ok (.ireturn, 1) := by decide +kernel
theorem dX7_nameNow_135 : decode cX7_nameNow 135 = .ok (.aload_n 0, 1) := by decide +kernel
theorem dX7_nameNow_136 : decode cX7_nameNow 136 = .ok (.iconst 4, 1) := by decide +kernel
theorem dX7_nameNow_137 : decode cX7_nameNow 137 = .ok (.bipush 119, 2) := by decide +kernel
theorem dX7_nameNow_139 : decode cX7_nameNow 139 = .ok (.bipush 111, 2) := by decide +kernel
theorem dX7_nameNow_141 : decode cX7_nameNow 141 = .ok (.bipush 114, 2) := by decide +kernel
theorem dX7_nameNow_143 : decode cX7_nameNow 143 = .ok (.bipush 100, 2) := by decide +kernel
theorem dX7_nameNow_145 : decode cX7_nameNow 145 = .ok (.invokevirtual 169, 3) := by decide +kernel
theorem dX7_nameNow_148 : decode cX7_nameNow 148 = .ok (.ifCond .eq 5, 3) := by decide +kernel
theorem dX7_nameNow_151 : decode cX7_nameNow 151 = .ok (.iconst 5, 1) := by decide +kernel
theorem dX7_nameNow_152 : decode cX7_nameNow 152 = .ok (.ireturn, 1) := by decide +kernel
theorem dX7_nameNow_153 : decode cX7_nameNow 153 = .ok (.aload_n 0, 1) := by decide +kernel
theorem dX7_nameNow_154 : decode cX7_nameNow 154 = .ok (.iconst 4, 1) := by decide +kernel
theorem dX7_nameNow_155 : decode cX7_nameNow 155 = .ok (.bipush 115, 2) := by decide +kernel
theorem dX7_nameNow_157 : decode cX7_nameNow 157 = .ok (.bipush 101, 2) := by decide +kernel
theorem dX7_nameNow_159 : decode cX7_nameNow 159 = .ok (.bipush 101, 2) := by decide +kernel
theorem dX7_nameNow_161 : decode cX7_nameNow 161 = .ok (.bipush 100, 2) := by decide +kernel
theorem dX7_nameNow_163 : decode cX7_nameNow 163 = .ok (.invokevirtual 169, 3) := by decide +kernel
theorem dX7_nameNow_166 : decode cX7_nameNow 166 = .ok (.ifCond .eq 6, 3) := by decide +kernel
theorem dX7_nameNow_169 : decode cX7_nameNow 169 = .ok (.bipush 6, 2) := by decide +kernel
theorem dX7_nameNow_171 : decode cX7_nameNow 171 = .ok (.ireturn, 1) := by decide +kernel
theorem dX7_nameNow_172 : decode cX7_nameNow 172 = .ok (.aload_n 0, 1) := by decide +kernel
theorem dX7_nameNow_173 : decode cX7_nameNow 173 = .ok (.bipush 6, 2) := by decide +kernel
theorem dX7_nameNow_175 : decode cX7_nameNow 175 = .ok (.bipush 112, 2) := by decide +kernel
theorem dX7_nameNow_177 : decode cX7_nameNow 177 = .ok (.bipush 108, 2) := by decide +kernel
theorem dX7_nameNow_179 : decode cX7_nameNow 179 = .ok (.bipush 101, 2) := by decide +kernel
theorem dX7_nameNow_181 : decode cX7_nameNow 181 = .ok (.bipush 100, 2) := by decide +kernel
theorem dX7_nameNow_183 : decode cX7_nameNow 183 = .ok (.invokevirtual 169, 3) := by decide +kernel
theorem dX7_nameNow_186 : decode cX7_nameNow 186 = .ok (.ifCond .eq 36, 3) := by decide +kernel
theorem dX7_nameNow_189 : decode cX7_nameNow 189 = .ok (.aload_n 0, 1) := by decide +kernel
theorem dX7_nameNow_190 : decode cX7_nameNow 190 = .ok (.aload_n 0, 1) := by decide +kernel
theorem dX7_nameNow_191 : decode cX7_nameNow 191 = .ok (.getfield 157, 3) := by decide +kernel
theorem dX7_nameNow_194 : decode cX7_nameNow 194 = .ok (.iconst 4, 1) := by decide +kernel
theorem dX7_nameNow_195 : decode cX7_nameNow 195 = .ok (.iadd, 1) := by decide +kernel
theorem dX7_nameNow_196 : decode cX7_nameNow 196 = .ok (.invokevirtual 166, 3) := by decide +kernel
theorem dX7_nameNow_199 : decode cX7_nameNow 199 = .ok (.bipush 103, 2) := by decide +kernel
theorem dX7_nameNow_201 : decode cX7_nameNow 201 = .ok (.if_icmp .ne 21, 3) := by decide +kernel
theorem dX7_nameNow_204 : decode cX7_nameNow 204 = .ok (.aload_n 0, 1) := by decide +kernel
theorem dX7_nameNow_205 : decode cX7_nameNow 205 = .ok (.aload_n 0, 1) := by decide +kernel
theorem dX7_nameNow_206 : decode cX7_nameNow 206 = .ok (.getfield 157, 3) := by decide +kernel
theorem dX7_nameNow_209 : decode cX7_nameNow 209 = .ok (.iconst 5, 1) := by decide +kernel
theorem dX7_nameNow_210 : decode cX7_nameNow 210 = .ok (.iadd, 1) := by decide +kernel
theorem dX7_nameNow_211 : decode cX7_nameNow 211 = .ok (.invokevirtual 166, 3) := by decide +kernel
theorem dX7_nameNow_214 : decode cX7_nameNow 214 = .ok (.bipush 101, 2) := by decide +kernel
theorem dX7_nameNow_216 : decode cX7_nameNow 216 = .ok (.if_icmp .ne 6, 3) := by decide +kernel
theorem dX7_nameNow_219 : decode cX7_nameNow 219 = .ok (.bipush 7, 2) := by decide +kernel
theorem dX7_nameNow_221 : decode cX7_nameNow 221 = .ok (.ireturn, 1) := by decide +kernel
theorem dX7_nameNow_222 : decode cX7_nameNow 222 = .ok (.aload_n 0, 1) := by decide +kernel
theorem dX7_nameNow_223 : decode cX7_nameNow 223 = .ok (.iconst 4, 1) := by decide +kernel
theorem dX7_nameNow_224 : decode cX7_nameNow 224 = .ok (.bipush 102, 2) := by decide +kernel
theorem dX7_nameNow_226 : decode cX7_nameNow 226 = .ok (.bipush 105, 2) := by decide +kernel
theorem dX7_nameNow_228 : decode cX7_nameNow 228 = .ok (.bipush 110, 2) := by decide +kernel
theorem dX7_nameNow_230 : decode cX7_nameNow 230 = .ok (.bipush 101, 2) := by decide +kernel
theorem dX7_nameNow_232 : decode cX7_nameNow 232 = .ok (.invokevirtual 169, 3) := by decide +kernel
theorem dX7_nameNow_235 : decode cX7_nameNow 235 = .ok (.ifCond .eq 8, 3) := by decide +kernel
theorem dX7_nameNow_238 : decode cX7_nameNow 238 = .ok (.bipush 8, 2) := by decide +kernel
theorem dX7_nameNow_240 : decode cX7_nameNow 240 = .ok (.goto 26, 3) := by decide +kernel
theorem dX7_nameNow_243 : decode cX7_nameNow 243 = .ok (.aload_n 0, 1) := by decide +kernel
theorem dX7_nameNow_244 : decode cX7_nameNow 244 = .ok (.iconst 4, 1) := by decide +kernel
theorem dX7_nameNow_245 : decode cX7_nameNow 245 = .ok (.bipush 103, 2) := by decide +kernel
theorem dX7_nameNow_247 : decode cX7_nameNow 247 = .ok (.bipush 111, 2) := by decide +kernel
theorem dX7_nameNow_249 : decode cX7_nameNow 249 = .ok (.bipush 111, 2) := by decide +kernel
theorem dX7_nameNow_251 : decode cX7_nameNow 251 = .ok (.bipush 100, 2) := by decide +kernel
theorem dX7_nameNow_253 : decode cX7_nameNow 253 = .ok (.invokevirtual 169, 3) := by decide +kernel
theorem dX7_nameNow_256 : decode cX7_nameNow 256 = .ok (.ifCond .eq 8, 3) := by decide +kernel
theorem dX7_nameNow_259 : decode cX7_nameNow 259 = .ok (.bipush 9, 2) := by decide +kernel
theorem dX7_nameNow_261 : decode cX7_nameNow 261 = .ok (.goto 5, 3) := by decide +kernel
theorem dX7_nameNow_264 : decode cX7_nameNow 264 = .ok (.bipush (-4), 2) := by decide +kernel
theorem dX7_nameNow_266 : decode cX7_nameNow 266 = .ok (.ireturn, 1) := by decide +kernel
theorem dX7_next_0 : decode cX7_next 0 = .ok (.aload_n 0, 1) := by decide +kernel
theorem dX7_next_1 : decode cX7_next 1 = .ok (.getfield 154, 3) := by decide +kernel
theorem dX7_next_4 : decode cX7_next 4 = .ok (.ifCond .le 4, 3) := by decide +kernel
theorem dX7_next_7 : decode cX7_next 7 = .ok (.return_, 1) := by decide +kernel
theorem dX7_next_8 : decode cX7_next 8 = .ok (.aload_n 0, 1) := by decide +kernel
theorem dX7_next_9 : decode cX7_next 9 = .ok (.aload_n 0, 1) := by decide +kernel
theorem dX7_next_10 : decode cX7_next 10 = .ok (.getfield 163, 3) := by decide +kernel
theorem dX7_next_13 : decode cX7_next 13 = .ok (.invokevirtual 166, 3) := by decide +kernel
theorem dX7_next_16 : decode cX7_next 16 = .ok (.bipush 32, 2) := by decide +kernel
theorem dX7_next_18 : decode cX7_next 18 = .ok (.if_icmp .ne 16, 3) := by decide +kernel
theorem dX7_next_21 : decode cX7_next 21 = .ok (.aload_n 0, 1) := by decide +kernel
theorem dX7_next_22 : decode cX7_next 22 = .ok (.dup, 1) := by decide +kernel
theorem dX7_next_23 : decode cX7_next 23 = .ok (.getfield 163, 3) := by decide +kernel
theorem dX7_next_26 : decode cX7_next 26 = .ok (.iconst 1, 1) := by decide +kernel
theorem dX7_next_27 : decode cX7_next 27 = .ok (.iadd, 1) := by decide +kernel
theorem dX7_next_28 : decode cX7_next 28 = .ok (.putfield 163, 3) := by decide +kernel
theorem dX7_next_31 : decode cX7_next 31 = .ok (.goto (-23), 3) := by decide +kernel
theorem dX7_next_34 : decode cX7_next 34 = .ok (.aload_n 0, 1) := by decide +kernel
theorem dX7_next_35 : decode cX7_next 35 = .ok (.aload_n 0, 1) := by decide +kernel
theorem dX7_next_36 : decode cX7_next 36 = .ok (.getfield 163, 3) := by decide +kernel
theorem dX7_next_39 : decode cX7_next 39 = .ok (.putfield 157, 3) := by decide +kernel
theorem dX7_next_42 : decode cX7_next 42 = .ok (.aload_n 0, 1) := by decide +kernel
theorem dX7_next_43 : decode cX7_next 43 = .ok (.aload_n 0, 1) := by decide +kernel
theorem dX7_next_44 : decode cX7_next 44 = .ok (.getfield 163, 3) := by decide +kernel
theorem dX7_next_47 : decode cX7_next 47 = .ok (.invokevirtual 166, 3) := by decide +kernel
theorem dX7_next_50 : decode cX7_next 50 = .ok (.istore_n 1, 1) := by decide +kernel
theorem dX7_next_51 : decode cX7_next 51 = .ok (.iload_n 1, 1) := by decide +kernel
theorem dX7_next_52 : decode cX7_next 52 = .ok (.ifCond .ge 11, 3) := by decide +kernel
theorem dX7_next_55 : decode cX7_next 55 = .ok (.aload_n 0, 1) := by decide +kernel
theorem dX7_next_56 : decode cX7_next 56 = .ok (.iconst 0, 1) := by decide +kernel
theorem dX7_next_57 : decode cX7_next 57 = .ok (.putfield 173, 3) := by decide +kernel
theorem dX7_next_60 : decode cX7_next 60 = .ok (.goto 244, 3) := by decide +kernel
theorem dX7_next_63 : decode cX7_next 63 = .ok (.iload_n 1, 1) := by decide +kernel
theorem dX7_next_64 : decode cX7_next 64 = .ok (.i2l, 1) := by decide +kernel
theorem dX7_next_65 : decode cX7_next 65 = .ok (.ldc2_w 176, 3) := by decide +kernel
theorem dX7_next_68 : decode cX7_next 68 = .ok (.ldc2_w 178, 3) := by decide +kernel
theorem dX7_next_71 : decode cX7_next 71 = .ok (.invokestatic 102, 3) := by decide +kernel
theorem dX7_next_74 : decode cX7_next 74 = .ok (.ifCond .eq 72, 3) := by decide +kernel
theorem dX7_next_77 : decode cX7_next 77 = .ok (.aload_n 0, 1) := by decide +kernel
theorem dX7_next_78 : decode cX7_next 78 = .ok (.iconst 1, 1) := by decide +kernel
theorem dX7_next_79 : decode cX7_next 79 = .ok (.putfield 173, 3) := by decide +kernel
theorem dX7_next_82 : decode cX7_next 82 = .ok (.aload_n 0, 1) := by decide +kernel
theorem dX7_next_83 : decode cX7_next 83 = .ok (.aload_n 0, 1) := by decide +kernel
theorem dX7_next_84 : decode cX7_next 84 = .ok (.getfield 163, 3) := by decide +kernel
theorem dX7_next_87 : decode cX7_next 87 = .ok (.invokevirtual 166, 3) := by decide +kernel
theorem dX7_next_90 : decode cX7_next 90 = .ok (.i2l, 1) := by decide +kernel
theorem dX7_next_91 : decode cX7_next 91 = .ok (.ldc2_w 176, 3) := by decide +kernel
theorem dX7_next_94 : decode cX7_next 94 = .ok (.ldc2_w 178, 3) := by decide +kernel
theorem dX7_next_97 : decode cX7_next 97 = .ok (.invokestatic 102, 3) := by decide +kernel
theorem dX7_next_100 : decode cX7_next 100 = .ok (.ifCond .eq 16, 3) := by decide +kernel
theorem dX7_next_103 : decode cX7_next 103 = .ok (.aload_n 0, 1) := by decide +kernel
theorem dX7_next_104 : decode cX7_next 104 = .ok (.dup, 1) := by decide +kernel
theorem dX7_next_105 : decode cX7_next 105 = .ok (.getfield 163, 3) := by decide +kernel
theorem dX7_next_108 : decode cX7_next 108 = .ok (.iconst 1, 1) := by decide +kernel
theorem dX7_next_109 : decode cX7_next 109 = .ok (.iadd, 1) := by decide +kernel
theorem dX7_next_110 : decode cX7_next 110 = .ok (.putfield 163, 3) := by decide +kernel
theorem dX7_next_113 : decode cX7_next 113 = .ok (.goto (-31), 3) := by decide +kernel
theorem dX7_next_116 : decode cX7_next 116 = .ok (.aload_n 0, 1) := by decide +kernel
theorem dX7_next_117 : decode cX7_next 117 = .ok (.aload_n 0, 1) := by decide +kernel
theorem dX7_next_118 : decode cX7_next 118 = .ok (.invokevirtual 180, 3) := by decide +kernel
theorem dX7_next_121 : decode cX7_next 121 = .ok (.putfield 184, 3) := by decide +kernel
theorem dX7_next_124 : decode cX7_next 124 = .ok (.aload_n 0, 1) := by decide +kernel
theorem dX7_next_125 : decode cX7_next 125 = .ok (.aload_n 0, 1) := by decide +kernel
theorem dX7_next_126 : decode cX7_next 126 = .ok (.getfield 184, 3) := by decide +kernel
theorem dX7_next_129 : decode cX7_next 129 = .ok (.bipush (-4), 2) := by decide +kernel
theorem dX7_next_131 : decode cX7_next 131 = .ok (.if_icmp .eq 7, 3) := by decide +kernel
theorem dX7_next_134 : decode cX7_next 134 = .ok (.iconst 1, 1) := by decide +kernel
theorem dX7_next_135 : decode cX7_next 135 = .ok (.goto 4, 3) := by decide +kernel
theorem dX7_next_138 : decode cX7_next 138 = .ok (.iconst 0, 1) := by decide +kernel
theorem dX7_next_139 : decode cX7_next 139 = .ok (.iconst 1, 1) := by decide +kernel
theorem dX7_next_140 : decode cX7_next 140 = .ok (.invokevirtual 187, 3) := by decide +kernel
theorem dX7_next_143 : decode cX7_next 143 = .ok (.goto 161, 3) := by decide +kernel
theorem dX7_next_146 : decode cX7_next 146 = .ok (.iload_n 1, 1) := by decide +kernel
theorem dX7_next_147 : decode cX7_next 147 = .ok (.i2l, 1) := by decide +kernel
theorem dX7_next_148 : decode cX7_next 148 = .ok (.ldc2_w 191, 3) := by decide +kernel
theorem dX7_next_151 : decode cX7_next 151 = .ok (.ldc2_w 193, 3) := by decide +kernel
theorem dX7_next_154 : decode cX7_next 154 = .ok (.invokestatic 102, 3) := by decide +kernel
theorem dX7_next_157 : decode cX7_next 157 = .ok (.ifCond .eq 116, 3) := by decide +kernel
theorem dX7_next_160 : decode cX7_next 160 = .ok (.aload_n 0, 1) := by decide +kernel
theorem dX7_next_161 : decode cX7_next 161 = .ok (.iconst 2, 1) := by decide +kernel
theorem dX7_next_162 : decode cX7_next 162 = .ok (.putfield 173, 3) := by decide +kernel
theorem dX7_next_165 : decode cX7_next 165 = .ok (.aload_n 0, 1) := by decide +kernel
theorem dX7_next_166 : decode cX7_next 166 = .ok (.iconst 0, 1) := by decide +kernel
theorem dX7_next_167 : decode cX7_next 167 = .ok (.putfield 184, 3) := by decide +kernel
theorem dX7_next_170 : decode cX7_next 170 = .ok (.aload_n 0, 1) := by decide +kernel
theorem dX7_next_171 : decode cX7_next 171 = .ok (.aload_n 0, 1) := by decide +kernel
theorem dX7_next_172 : decode cX7_next 172 = .ok (.getfield 163, 3) := by decide +kernel
theorem dX7_next_175 : decode cX7_next 175 = .ok (.invokevirtual 166, 3) := by decide +kernel
theorem dX7_next_178 : decode cX7_next 178 = .ok (.i2l, 1) := by decide +kernel
theorem dX7_next_179 : decode cX7_next 179 = .ok (.ldc2_w 191, 3) := by decide +kernel
theorem dX7_next_182 : decode cX7_next 182 = .ok (.ldc2_w 193, 3) := by decide +kernel
theorem dX7_next_185 : decode cX7_next 185 = .ok (.invokestatic 102, 3) := by decide +kernel
theorem dX7_next_188 : decode cX7_next 188 = .ok (.ifCond .eq 59, 3) := by decide +kernel
theorem dX7_next_191 : decode cX7_next 191 = .ok (.aload_n 0, 1) := by decide +kernel
theorem dX7_next_192 : decode cX7_next 192 = .ok (.aload_n 0, 1) := by decide +kernel
theorem dX7_next_193 : decode cX7_next 193 = .ok (.getfield 163, 3) := by decide +kernel
theorem dX7_next_196 : decode cX7_next 196 = .ok (.aload_n 0, 1) := by decide +kernel
theorem dX7_next_197 : decode cX7_next 197 = .ok (.getfield 157, 3) := by decide +kernel
theorem dX7_next_200 : decode cX7_next 200 = .ok (.isub, 1) := by decide +kernel
theorem dX7_next_201 : decode cX7_next 201 = .ok (.iconst 4, 1) := by decide +kernel
theorem dX7_next_202 : decode cX7_next 202 = .ok (.if_icmp .ge 25, 3) := by decide +kernel
theorem dX7_next_205 : decode cX7_next 205 = .ok (.bipush 10, 2) := by decide +kernel
theorem dX7_next_207 : decode cX7_next 207 = .ok (.aload_n 0, 1) := by decide +kernel
theorem dX7_next_208 : decode cX7_next 208 = .ok (.getfield 184, 3) := by decide +kernel
theorem dX7_next_211 : decode cX7_next 211 = .ok (.imul, 1) := by decide +kernel
theorem dX7_next_212 : decode cX7_next 212 = .ok (.aload_n 0, 1) := by decide +kernel
theorem dX7_next_213 : decode cX7_next 213 = .ok (.aload_n 0, 1) := by decide +kernel
theorem dX7_next_214 : decode cX7_next 214 = .ok (.getfield 163, 3) := by decide +kernel
theorem dX7_next_217 : decode cX7_next 217 = .ok (.invokevirtual 166, 3) := by decide +kernel
theorem dX7_next_220 : decode cX7_next 220 = .ok (.iadd, 1) := by decide +kernel
theorem dX7_next_221 : decode cX7_next 221 = .ok (.bipush 48, 2) := by decide +kernel
theorem dX7_next_223 : decode cX7_next 223 = .ok (.isub, 1) := by decide +kernel
theorem dX7_next_224 : decode cX7_next 224 = .ok (.goto 7, 3) := by decide +kernel
theorem dX7_next_227 : decode cX7_next 227 = .ok (.aload_n 0, 1) := by decide +kernel
theorem dX7_next_228 : decode cX7_next 228 = .ok (.getfield 184, 3) := by decide +kernel
theorem dX7_next_231 : decode cX7_next 231 = .ok (.putfield 184, 3) := by decide +kernel
theorem dX7_next_234 : decode cX7_next 234 = .ok (.aload_n 0, 1) := by decide +kernel
theorem dX7_next_235 : decode cX7_next 235 = .ok (.dup, 1) := by decide +kernel
theorem dX7_next_236 : decode cX7_next 236 = .ok (.getfield 163, 3) := by decide +kernel
theorem dX7_next_239 : decode cX7_next 239 = .ok (.iconst 1, 1) := by decide +kernel
theorem dX7_next_240 : decode cX7_next 240 = .ok (.iadd, 1) := by decide +kernel
theorem dX7_next_241 : decode cX7_next 241 = .ok (.putfield 163, 3) := by decide +kernel
theorem dX7_next_244 : decode cX7_next 244 = .ok (.goto (-74), 3) := by decide +kernel
theorem dX7_next_247 : decode cX7_next 247 = .ok (.aload_n 0, 1) := by decide +kernel
theorem dX7_next_248 : decode cX7_next 248 = .ok (.aload_n 0, 1) := by decide +kernel
theorem dX7_next_249 : decode cX7_next 249 = .ok (.getfield 163, 3) := by decide +kernel
theorem dX7_next_252 : decode cX7_next 252 = .ok (.aload_n 0, 1) := by decide +kernel
theorem dX7_next_253 : decode cX7_next 253 = .ok (.getfield 157, 3) := by decide +kernel
theorem dX7_next_256 : decode cX7_next 256 = .ok (.isub, 1) := by decide +kernel
theorem dX7_next_257 : decode cX7_next 257 = .ok (.iconst 4, 1) := by decide +kernel
theorem dX7_next_258 : decode cX7_next 258 = .ok (.if_icmp .gt 7, 3) := by decide +kernel
theorem dX7_next_261 : decode cX7_next 261 = .ok (.iconst 1, 1) := by decide +kernel
theorem dX7_next_262 : decode cX7_next 262 = .ok (.goto 4, 3) := by decide +kernel
theorem dX7_next_265 : decode cX7_next 265 = .ok (.iconst 0, 1) := by decide +kernel
theorem dX7_next_266 : decode cX7_next 266 = .ok (.iconst 1, 1) := by decide +kernel
theorem dX7_next_267 : decode cX7_next 267 = .ok (.invokevirtual 187, 3) := by decide +kernel
theorem dX7_next_270 : decode cX7_next 270 = .ok (.goto 34, 3) := by decide +kernel
theorem dX7_next_273 : decode cX7_next 273 = .ok (.aload_n 0, 1) := by decide +kernel
theorem dX7_next_274 : decode cX7_next 274 = .ok (.iconst 3, 1) := by decide +kernel
theorem dX7_next_275 : decode cX7_next 275 = .ok (.putfield 173, 3) := by decide +kernel
theorem dX7_next_278 : decode cX7_next 278 = .ok (.aload_n 0, 1) := by decide +kernel
theorem dX7_next_279 : decode cX7_next 279 = .ok (.iload_n 1, 1) := by decide +kernel
theorem dX7_next_280 : decode cX7_next 280 = .ok (.bipush 59, 2) := by decide +kernel
theorem dX7_next_282 : decode cX7_next 282 = .ok (.if_icmp .ne 7, 3) := by decide +kernel
theorem dX7_next_285 : decode cX7_next 285 = .ok (.iconst 1, 1) := by decide +kernel
theorem dX7_next_286 : decode cX7_next 286 = .ok (.goto 4, 3) := by decide +kernel
theorem dX7_next_289 : decode cX7_next 289 = .ok (.iconst 0, 1) := by decide +kernel
theorem dX7_next_290 : decode cX7_next 290 = .ok (.iconst 1, 1) := by decide +kernel
theorem dX7_next_291 : decode cX7_next 291 = .ok (.invokevirtual 187, 3) := by decide +kernel
theorem dX7_next_294 : decode cX7_next 294 = .ok (.aload_n 0, 1) := by decide +kernel
theorem dX7_next_295 : decode cX7_next 295 = .ok (.dup, 1) := by decide +kernel
theorem dX7_next_296 : decode cX7_next 296 = .ok (.getfield 163, 3) := by decide +kernel
theorem dX7_next_299 : decode cX7_next 299 = .ok (.iconst 1, 1) := by decide +kernel
theorem dX7_next_300 : decode cX7_next 300 = .ok (.iadd, 1) := by decide +kernel
theorem dX7_next_301 : decode cX7_next 301 = .ok (.putfield 163, 3) := by decide +kernel
theorem dX7_next_304 : decode cX7_next 304 = .ok (.return_, 1) := by decide +kernel
theorem dX7_least_0 : decode cX7_least 0 = .ok (.iload_n 0, 1) := by decide +kernel
theorem dX7_least_1 : decode cX7_least 1 = .ok (.bipush 6, 2) := by decide +kernel
theorem dX7_least_3 : decode cX7_least 3 = .ok (.if_icmp .eq 9, 3) := by decide +kernel
theorem dX7_least_6 : decode cX7_least 6 = .ok (.iload_n 0, 1) := by decide +kernel
theorem dX7_least_7 : decode cX7_least 7 = .ok (.bipush 9, 2) := by decide +kernel
theorem dX7_least_9 : decode cX7_least 9 = .ok (.if_icmp .ne 7, 3) := by decide +kernel
theorem dX7_least_12 : decode cX7_least 12 = .ok (.iconst 1, 1) := by decide +kernel
theorem dX7_least_13 : decode cX7_least 13 = .ok (.goto 4, 3) := by decide +kernel
theorem dX7_least_16 : decode cX7_least 16 = .ok (.iconst 0, 1) := by decide +kernel
theorem dX7_least_17 : decode cX7_least 17 = .ok (.ireturn, 1) := by decide +kernel
theorem dX7_most_0 : decode cX7_most 0 = .ok (.iload_n 0, 1) := by decide +kernel
theorem dX7_most_1 : decode cX7_most 1 = .ok (.bipush 6, 2) := by decide +kernel
theorem dX7_most_3 : decode cX7_most 3 = .ok (.if_icmp .eq 9, 3) := by decide +kernel
theorem dX7_most_6 : decode cX7_most 6 = .ok (.iload_n 0, 1) := by decide +kernel
theorem dX7_most_7 : decode cX7_most 7 = .ok (.bipush 8, 2) := by decide +kernel
theorem dX7_most_9 : decode cX7_most 9 = .ok (.if_icmp .ne 9, 3) := by decide +kernel
theorem dX7_most_12 : decode cX7_most 12 = .ok (.sipush 999, 3) := by decide +kernel
theorem dX7_most_15 : decode cX7_most 15 = .ok (.goto 16, 3) := by decide +kernel
theorem dX7_most_18 : decode cX7_most 18 = .ok (.iload_n 0, 1) := by decide +kernel
theorem dX7_most_19 : decode cX7_most 19 = .ok (.bipush 9, 2) := by decide +kernel
theorem dX7_most_21 : decode cX7_most 21 = .ok (.if_icmp .ne 8, 3) := by decide +kernel
theorem dX7_most_24 : decode cX7_most 24 = .ok (.bipush 10, 2) := by decide +kernel
theorem dX7_most_26 : decode cX7_most 26 = .ok (.goto 5, 3) := by decide +kernel
theorem dX7_most_29 : decode cX7_most 29 = .ok (.bipush 100, 2) := by decide +kernel
theorem dX7_most_31 : decode cX7_most 31 = .ok (.ireturn, 1) := by decide +kernel
theorem dX7_readLine_0 : decode cX7_readLine 0 = .ok (.aload_n 0, 1) := by decide +kernel
theorem dX7_readLine_1 : decode cX7_readLine 1 = .ok (.getfield 184, 3) := by decide +kernel
theorem dX7_readLine_4 : decode cX7_readLine 4 = .ok (.istore_n 1, 1) := by decide +kernel
theorem dX7_readLine_5 : decode cX7_readLine 5 = .ok (.aload_n 0, 1) := by decide +kernel
theorem dX7_readLine_6 : decode cX7_readLine 6 = .ok (.aload_n 0, 1) := by decide +kernel
theorem dX7_readLine_7 : decode cX7_readLine 7 = .ok (.getfield 173, 3) := by decide +kernel
theorem dX7_readLine_10 : decode cX7_readLine 10 = .ok (.iconst 1, 1) := by decide +kernel
theorem dX7_readLine_11 : decode cX7_readLine 11 = .ok (.if_icmp .ne 7, 3) := by decide +kernel
theorem dX7_readLine_14 : decode cX7_readLine 14 = .ok (.iconst 1, 1) := by decide +kernel
theorem dX7_readLine_15 : decode cX7_readLine 15 = .ok (.goto 4, 3) := by decide +kernel
theorem dX7_readLine_18 : decode cX7_readLine 18 = .ok (.iconst 0, 1) := by decide +kernel
theorem dX7_readLine_19 : decode cX7_readLine 19 = .ok (.iconst 2, 1) := by decide +kernel
theorem dX7_readLine_20 : decode cX7_readLine 20 = .ok (.invokevirtual 187, 3) := by decide +kernel
theorem dX7_readLine_23 : decode cX7_readLine 23 = .ok (.aload_n 0, 1) := by decide +kernel
theorem dX7_readLine_24 : decode cX7_readLine 24 = .ok (.getfield 154, 3) := by decide +kernel
theorem dX7_readLine_27 : decode cX7_readLine 27 = .ok (.ifCond .le 4, 3) := by decide +kernel
theorem dX7_readLine_30 : decode cX7_readLine 30 = .ok (.return_, 1) := by decide +kernel
theorem dX7_readLine_31 : decode cX7_readLine 31 = .ok (.aload_n 0, 1) := by decide +kernel
theorem dX7_readLine_32 : decode cX7_readLine 32 = .ok (.aload_n 0, 1) := by decide +kernel
theorem dX7_readLine_33 : decode cX7_readLine 33 = .ok (.getfield 47, 3) := by decide +kernel
theorem dX7_readLine_36 : decode cX7_readLine 36 = .ok (.iload_n 1, 1) := by decide +kernel
theorem dX7_readLine_37 : decode cX7_readLine 37 = .ok (.baload, 1) := by decide +kernel
theorem dX7_readLine_38 : decode cX7_readLine 38 = .ok (.ifCond .ne 7, 3) := by decide +kernel
theorem dX7_readLine_41 : decode cX7_readLine 41 = .ok (.iconst 1, 1) := by decide +kernel
theorem dX7_readLine_42 : decode cX7_readLine 42 = .ok (.goto 4, 3) := by decide +kernel
theorem dX7_readLine_45 : decode cX7_readLine 45 = .ok (.iconst 0, 1) := by decide +kernel
theorem dX7_readLine_46 : decode cX7_readLine 46 = .ok (.iconst 4, 1) := by decide +kernel
theorem dX7_readLine_47 : decode cX7_readLine 47 = .ok (.invokevirtual 187, 3) := by decide +kernel
theorem dX7_readLine_50 : decode cX7_readLine 50 = .ok (.aload_n 0, 1) := by decide +kernel
theorem dX7_readLine_51 : decode cX7_readLine 51 = .ok (.invokevirtual 195, 3) := by decide +kernel
theorem dX7_readLine_54 : decode cX7_readLine 54 = .ok (.aload_n 0, 1) := by decide +kernel
theorem dX7_readLine_55 : decode cX7_readLine 55 = .ok (.getfield 154, 3) := by decide +kernel
theorem dX7_readLine_58 : decode cX7_readLine 58 = .ok (.ifCond .ne 21, 3) := by decide +kernel
theorem dX7_readLine_61 : decode cX7_readLine 61 = .ok (.aload_n 0, 1) := by decide +kernel
theorem dX7_readLine_62 : decode cX7_readLine 62 = .ok (.aload_n 0, 1) := by decide +kernel
theorem dX7_readLine_63 : decode cX7_readLine 63 = .ok (.getfield 173, 3) := by decide +kernel
theorem dX7_readLine_66 : decode cX7_readLine 66 = .ok (.iconst 2, 1) := by decide +kernel
theorem dX7_readLine_67 : decode cX7_readLine 67 = .ok (.if_icmp .ne 7, 3) := by decide +kernel
theorem dX7_readLine_70 : decode cX7_readLine 70 = .ok (.iconst 1, 1) := by decide +kernel
theorem dX7_readLine_71 : decode cX7_readLine 71 = .ok (.goto 4, 3) := by decide +kernel
theorem dX7_readLine_74 : decode cX7_readLine 74 = .ok (.iconst 0, 1) := by decide +kernel
theorem dX7_readLine_75 : decode cX7_readLine 75 = .ok (.iconst 2, 1) := by decide +kernel
theorem dX7_readLine_76 : decode cX7_readLine 76 = .ok (.invokevirtual 187, 3) := by decide +kernel
theorem dX7_readLine_79 : decode cX7_readLine 79 = .ok (.aload_n 0, 1) := by decide +kernel
theorem dX7_readLine_80 : decode cX7_readLine 80 = .ok (.getfield 154, 3) := by decide +kernel
theorem dX7_readLine_83 : decode cX7_readLine 83 = .ok (.ifCond .ne 26, 3) := by decide +kernel
theorem dX7_readLine_86 : decode cX7_readLine 86 = .ok (.aload_n 0, 1) := by decide +kernel
theorem dX7_readLine_87 : decode cX7_readLine 87 = .ok (.aload_n 0, 1) := by decide +kernel
theorem dX7_readLine_88 : decode cX7_readLine 88 = .ok (.getfield 184, 3) := by decide +kernel
theorem dX7_readLine_91 : decode cX7_readLine 91 = .ok (.i2l, 1) := by decide +kernel

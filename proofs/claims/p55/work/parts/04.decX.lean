theorem dX1_init_0 : decode cX1_init 0 = .ok (.aload_n 0, 1) := by decide +kernel
theorem dX1_init_1 : decode cX1_init 1 = .ok (.invokespecial 3, 3) := by decide +kernel
theorem dX1_init_4 : decode cX1_init 4 = .ok (.aload_n 0, 1) := by decide +kernel
theorem dX1_init_5 : decode cX1_init 5 = .ok (.bipush 40, 2) := by decide +kernel
theorem dX1_init_7 : decode cX1_init 7 = .ok (.newarray .int, 2) := by decide +kernel
theorem dX1_init_9 : decode cX1_init 9 = .ok (.putfield 9, 3) := by decide +kernel
theorem dX1_init_12 : decode cX1_init 12 = .ok (.aload_n 0, 1) := by decide +kernel
theorem dX1_init_13 : decode cX1_init 13 = .ok (.bipush 40, 2) := by decide +kernel
theorem dX1_init_15 : decode cX1_init 15 = .ok (.newarray .int, 2) := by decide +kernel
theorem dX1_init_17 : decode cX1_init 17 = .ok (.putfield 15, 3) := by decide +kernel
theorem dX1_init_20 : decode cX1_init 20 = .ok (.aload_n 0, 1) := by decide +kernel
theorem dX1_init_21 : decode cX1_init 21 = .ok (.bipush 40, 2) := by decide +kernel
theorem dX1_init_23 : decode cX1_init 23 = .ok (.newarray .int, 2) := by decide +kernel
theorem dX1_init_25 : decode cX1_init 25 = .ok (.putfield 18, 3) := by decide +kernel
theorem dX1_init_28 : decode cX1_init 28 = .ok (.return_, 1) := by decide +kernel
theorem dX1_isColumn_0 : decode cX1_isColumn 0 = .ok (.iload_n 0, 1) := by decide +kernel
theorem dX1_isColumn_1 : decode cX1_isColumn 1 = .ok (.ifCond .lt 13, 3) := by decide +kernel
theorem dX1_isColumn_4 : decode cX1_isColumn 4 = .ok (.iload_n 0, 1) := by decide +kernel
theorem dX1_isColumn_5 : decode cX1_isColumn 5 = .ok (.bipush 16, 2) := by decide +kernel
theorem dX1_isColumn_7 : decode cX1_isColumn 7 = .ok (.if_icmp .ge 7, 3) := by decide +kernel
theorem dX1_isColumn_10 : decode cX1_isColumn 10 = .ok (.iconst 1, 1) := by decide +kernel
theorem dX1_isColumn_11 : decode cX1_isColumn 11 = .ok (.goto 4, 3) := by decide +kernel
theorem dX1_isColumn_14 : decode cX1_isColumn 14 = .ok (.iconst 0, 1) := by decide +kernel
theorem dX1_isColumn_15 : decode cX1_isColumn 15 = .ok (.ireturn, 1) := by decide +kernel
theorem dX1_copyFrom_0 : decode cX1_copyFrom 0 = .ok (.aload_n 1, 1) := by decide +kernel
theorem dX1_copyFrom_1 : decode cX1_copyFrom 1 = .ok (.getfield 9, 3) := by decide +kernel
theorem dX1_copyFrom_4 : decode cX1_copyFrom 4 = .ok (.iconst 0, 1) := by decide +kernel
theorem dX1_copyFrom_5 : decode cX1_copyFrom 5 = .ok (.aload_n 0, 1) := by decide +kernel
theorem dX1_copyFrom_6 : decode cX1_copyFrom 6 = .ok (.getfield 9, 3) := by decide +kernel
theorem dX1_copyFrom_9 : decode cX1_copyFrom 9 = .ok (.iconst 0, 1) := by decide +kernel
theorem dX1_copyFrom_10 : decode cX1_copyFrom 10 = .ok (.bipush 40, 2) := by decide +kernel
theorem dX1_copyFrom_12 : decode cX1_copyFrom 12 = .ok (.invokestatic 21, 3) := by decide +kernel
theorem dX1_copyFrom_15 : decode cX1_copyFrom 15 = .ok (.aload_n 1, 1) := by decide +kernel
theorem dX1_copyFrom_16 : decode cX1_copyFrom 16 = .ok (.getfield 15, 3) := by decide +kernel
theorem dX1_copyFrom_19 : decode cX1_copyFrom 19 = .ok (.iconst 0, 1) := by decide +kernel
theorem dX1_copyFrom_20 : decode cX1_copyFrom 20 = .ok (.aload_n 0, 1) := by decide +kernel
theorem dX1_copyFrom_21 : decode cX1_copyFrom 21 = .ok (.getfield 15, 3) := by decide +kernel
theorem dX1_copyFrom_24 : decode cX1_copyFrom 24 = .ok (.iconst 0, 1) := by decide +kernel
theorem dX1_copyFrom_25 : decode cX1_copyFrom 25 = .ok (.bipush 40, 2) := by decide +kernel
theorem dX1_copyFrom_27 : decode cX1_copyFrom 27 = .ok (.invokestatic 21, 3) := by decide +kernel
theorem dX1_copyFrom_30 : decode cX1_copyFrom 30 = .ok (.aload_n 1, 1) := by decide +kernel
theorem dX1_copyFrom_31 : decode cX1_copyFrom 31 = .ok (.getfield 18, 3) := by decide +kernel
theorem dX1_copyFrom_34 : decode cX1_copyFrom 34 = .ok (.iconst 0, 1) := by decide +kernel
theorem dX1_copyFrom_35 : decode cX1_copyFrom 35 = .ok (.aload_n 0, 1) := by decide +kernel
theorem dX1_copyFrom_36 : decode cX1_copyFrom 36 = .ok (.getfield 18, 3) := by decide +kernel
theorem dX1_copyFrom_39 : decode cX1_copyFrom 39 = .ok (.iconst 0, 1) := by decide +kernel
theorem dX1_copyFrom_40 : decode cX1_copyFrom 40 = .ok (.bipush 40, 2) := by decide +kernel
theorem dX1_copyFrom_42 : decode cX1_copyFrom 42 = .ok (.invokestatic 21, 3) := by decide +kernel
theorem dX1_copyFrom_45 : decode cX1_copyFrom 45 = .ok (.aload_n 0, 1) := by decide +kernel
theorem dX1_copyFrom_46 : decode cX1_copyFrom 46 = .ok (.aload_n 1, 1) := by decide +kernel
theorem dX1_copyFrom_47 : decode cX1_copyFrom 47 = .ok (.getfield 27, 3) := by decide +kernel
theorem dX1_copyFrom_50 : decode cX1_copyFrom 50 = .ok (.putfield 27, 3) := by decide +kernel
theorem dX1_copyFrom_53 : decode cX1_copyFrom 53 = .ok (.return_, 1) := by decide +kernel
theorem dX1_has_0 : decode cX1_has 0 = .ok (.iload_n 1, 1) := by decide +kernel
theorem dX1_has_1 : decode cX1_has 1 = .ok (.ifCond .lt 15, 3) := by decide +kernel
theorem dX1_has_4 : decode cX1_has 4 = .ok (.iload_n 1, 1) := by decide +kernel
theorem dX1_has_5 : decode cX1_has 5 = .ok (.aload_n 0, 1) := by decide +kernel
theorem dX1_has_6 : decode cX1_has 6 = .ok (.getfield 27, 3) := by decide +kernel
theorem dX1_has_9 : decode cX1_has 9 = .ok (.if_icmp .ge 7, 3) := by decide +kernel
theorem dX1_has_12 : decode cX1_has 12 = .ok (.iconst 1, 1) := by decide +kernel
theorem dX1_has_13 : decode cX1_has 13 = .ok (.goto 4, 3) := by decide +kernel
theorem dX1_has_16 : decode cX1_has 16 = .ok (.iconst 0, 1) := by decide +kernel
theorem dX1_has_17 : decode cX1_has 17 = .ok (.ireturn, 1) := by decide +kernel
theorem dX1_hasCell_0 : decode cX1_hasCell 0 = .ok (.aload_n 0, 1) := by decide +kernel
theorem dX1_hasCell_1 : decode cX1_hasCell 1 = .ok (.iload_n 1, 1) := by decide +kernel
theorem dX1_hasCell_2 : decode cX1_hasCell 2 = .ok (.invokevirtual 31, 3) := by decide +kernel
theorem dX1_hasCell_5 : decode cX1_hasCell 5 = .ok (.ifCond .eq 14, 3) := by decide +kernel
theorem dX1_hasCell_8 : decode cX1_hasCell 8 = .ok (.iload_n 2, 1) := by decide +kernel
theorem dX1_hasCell_9 : decode cX1_hasCell 9 = .ok (.invokestatic 35, 3) := by decide +kernel
theorem dX1_hasCell_12 : decode cX1_hasCell 12 = .ok (.ifCond .eq 7, 3) := by decide +kernel
theorem dX1_hasCell_15 : decode cX1_hasCell 15 = .ok (.iconst 1, 1) := by decide +kernel
theorem dX1_hasCell_16 : decode cX1_hasCell 16 = .ok (.goto 4, 3) := by decide +kernel
theorem dX1_hasCell_19 : decode cX1_hasCell 19 = .ok (.iconst 0, 1) := by decide +kernel
theorem dX1_hasCell_20 : decode cX1_hasCell 20 = .ok (.ireturn, 1) := by decide +kernel
theorem dX1_raisedAt_0 : decode cX1_raisedAt 0 = .ok (.aload_n 0, 1) := by decide +kernel
theorem dX1_raisedAt_1 : decode cX1_raisedAt 1 = .ok (.getfield 9, 3) := by decide +kernel
theorem dX1_raisedAt_4 : decode cX1_raisedAt 4 = .ok (.iload_n 1, 1) := by decide +kernel
theorem dX1_raisedAt_5 : decode cX1_raisedAt 5 = .ok (.iaload, 1) := by decide +kernel
theorem dX1_raisedAt_6 : decode cX1_raisedAt 6 = .ok (.iload_n 2, 1) := by decide +kernel
theorem dX1_raisedAt_7 : decode cX1_raisedAt 7 = .ok (.ishr, 1) := by decide +kernel
theorem dX1_raisedAt_8 : decode cX1_raisedAt 8 = .ok (.iconst 1, 1) := by decide +kernel
theorem dX1_raisedAt_9 : decode cX1_raisedAt 9 = .ok (.iand, 1) := by decide +kernel
theorem dX1_raisedAt_10 : decode cX1_raisedAt 10 = .ok (.ifCond .eq 7, 3) := by decide +kernel
theorem dX1_raisedAt_13 : decode cX1_raisedAt 13 = .ok (.iconst 1, 1) := by decide +kernel
theorem dX1_raisedAt_14 : decode cX1_raisedAt 14 = .ok (.goto 4, 3) := by decide +kernel
theorem dX1_raisedAt_17 : decode cX1_raisedAt 17 = .ok (.iconst 0, 1) := by decide +kernel
theorem dX1_raisedAt_18 : decode cX1_raisedAt 18 = .ok (.ireturn, 1) := by decide +kernel
theorem dX1_knottedAt_0 : decode cX1_knottedAt 0 = .ok (.aload_n 0, 1) := by decide +kernel
theorem dX1_knottedAt_1 : decode cX1_knottedAt 1 = .ok (.getfield 18, 3) := by decide +kernel
theorem dX1_knottedAt_4 : decode cX1_knottedAt 4 = .ok (.iload_n 1, 1) := by decide +kernel
theorem dX1_knottedAt_5 : decode cX1_knottedAt 5 = .ok (.iaload, 1) := by decide +kernel
theorem dX1_knottedAt_6 : decode cX1_knottedAt 6 = .ok (.iload_n 2, 1) := by decide +kernel
theorem dX1_knottedAt_7 : decode cX1_knottedAt 7 = .ok (.ishr, 1) := by decide +kernel
theorem dX1_knottedAt_8 : decode cX1_knottedAt 8 = .ok (.iconst 1, 1) := by decide +kernel
theorem dX1_knottedAt_9 : decode cX1_knottedAt 9 = .ok (.iand, 1) := by decide +kernel
theorem dX1_knottedAt_10 : decode cX1_knottedAt 10 = .ok (.ifCond .eq 7, 3) := by decide +kernel
theorem dX1_knottedAt_13 : decode cX1_knottedAt 13 = .ok (.iconst 1, 1) := by decide +kernel
theorem dX1_knottedAt_14 : decode cX1_knottedAt 14 = .ok (.goto 4, 3) := by decide +kernel
theorem dX1_knottedAt_17 : decode cX1_knottedAt 17 = .ok (.iconst 0, 1) := by decide +kernel
theorem dX1_knottedAt_18 : decode cX1_knottedAt 18 = .ok (.ireturn, 1) := by decide +kernel
theorem dX1_append_0 : decode cX1_append 0 = .ok (.aload_n 0, 1) := by decide +kernel
theorem dX1_append_1 : decode cX1_append 1 = .ok (.getfield 9, 3) := by decide +kernel
theorem dX1_append_4 : decode cX1_append 4 = .ok (.aload_n 0, 1) := by decide +kernel
theorem dX1_append_5 : decode cX1_append 5 = .ok (.getfield 27, 3) := by decide +kernel
theorem dX1_append_8 : decode cX1_append 8 = .ok (.iload_n 1, 1) := by decide +kernel
theorem dX1_append_9 : decode cX1_append 9 = .ok (.iastore, 1) := by decide +kernel
theorem dX1_append_10 : decode cX1_append 10 = .ok (.aload_n 0, 1) := by decide +kernel
theorem dX1_append_11 : decode cX1_append 11 = .ok (.getfield 15, 3) := by decide +kernel
theorem dX1_append_14 : decode cX1_append 14 = .ok (.aload_n 0, 1) := by decide +kernel
theorem dX1_append_15 : decode cX1_append 15 = .ok (.getfield 27, 3) := by decide +kernel
theorem dX1_append_18 : decode cX1_append 18 = .ok (.iload_n 2, 1) := by decide +kernel
theorem dX1_append_19 : decode cX1_append 19 = .ok (.iastore, 1) := by decide +kernel
theorem dX1_append_20 : decode cX1_append 20 = .ok (.aload_n 0, 1) := by decide +kernel
theorem dX1_append_21 : decode cX1_append 21 = .ok (.getfield 18, 3) := by decide +kernel
theorem dX1_append_24 : decode cX1_append 24 = .ok (.aload_n 0, 1) := by decide +kernel
theorem dX1_append_25 : decode cX1_append 25 = .ok (.getfield 27, 3) := by decide +kernel
theorem dX1_append_28 : decode cX1_append 28 = .ok (.iconst 0, 1) := by decide +kernel
theorem dX1_append_29 : decode cX1_append 29 = .ok (.iastore, 1) := by decide +kernel
theorem dX1_append_30 : decode cX1_append 30 = .ok (.aload_n 0, 1) := by decide +kernel
theorem dX1_append_31 : decode cX1_append 31 = .ok (.dup, 1) := by decide +kernel
theorem dX1_append_32 : decode cX1_append 32 = .ok (.getfield 27, 3) := by decide +kernel
theorem dX1_append_35 : decode cX1_append 35 = .ok (.iconst 1, 1) := by decide +kernel
theorem dX1_append_36 : decode cX1_append 36 = .ok (.iadd, 1) := by decide +kernel
theorem dX1_append_37 : decode cX1_append 37 = .ok (.putfield 27, 3) := by decide +kernel
theorem dX1_append_40 : decode cX1_append 40 = .ok (.return_, 1) := by decide +kernel
theorem dX1_removeLast_0 : decode cX1_removeLast 0 = .ok (.aload_n 0, 1) := by decide +kernel
theorem dX1_removeLast_1 : decode cX1_removeLast 1 = .ok (.dup, 1) := by decide +kernel
theorem dX1_removeLast_2 : decode cX1_removeLast 2 = .ok (.getfield 27, 3) := by decide +kernel
theorem dX1_removeLast_5 : decode cX1_removeLast 5 = .ok (.iload_n 1, 1) := by decide +kernel
theorem dX1_removeLast_6 : decode cX1_removeLast 6 = .ok (.isub, 1) := by decide +kernel
theorem dX1_removeLast_7 : decode cX1_removeLast 7 = .ok (.putfield 27, 3) := by decide +kernel
theorem dX1_removeLast_10 : decode cX1_removeLast 10 = .ok (.aload_n 0, 1) := by decide +kernel
theorem dX1_removeLast_11 : decode cX1_removeLast 11 = .ok (.getfield 27, 3) := by decide +kernel
theorem dX1_removeLast_14 : decode cX1_removeLast 14 = .ok (.ireturn, 1) := by decide +kernel
theorem dX1_copyLast_0 : decode cX1_copyLast 0 = .ok (.iload_n 1, 1) := by decide +kernel
theorem dX1_copyLast_1 : decode cX1_copyLast 1 = .ok (.iload_n 2, 1) := by decide +kernel
theorem dX1_copyLast_2 : decode cX1_copyLast 2 = .ok (.imul, 1) := by decide +kernel
theorem dX1_copyLast_3 : decode cX1_copyLast 3 = .ok (.istore_n 3, 1) := by decide +kernel
theorem dX1_copyLast_4 : decode cX1_copyLast 4 = .ok (.iconst 0, 1) := by decide +kernel
theorem dX1_copyLast_5 : decode cX1_copyLast 5 = .ok (.istore 4, 2) := by decide +kernel
theorem dX1_copyLast_7 : decode cX1_copyLast 7 = .ok (.iload 4, 2) := by decide +kernel
theorem dX1_copyLast_9 : decode cX1_copyLast 9 = .ok (.iload_n 3, 1) := by decide +kernel
theorem dX1_copyLast_10 : decode cX1_copyLast 10 = .ok (.if_icmp .ge 35, 3) := by decide +kernel
theorem dX1_copyLast_13 : decode cX1_copyLast 13 = .ok (.aload_n 0, 1) := by decide +kernel
theorem dX1_copyLast_14 : decode cX1_copyLast 14 = .ok (.getfield 27, 3) := by decide +kernel
theorem dX1_copyLast_17 : decode cX1_copyLast 17 = .ok (.iload_n 1, 1) := by decide +kernel
theorem dX1_copyLast_18 : decode cX1_copyLast 18 = .ok (.isub, 1) := by decide +kernel
theorem dX1_copyLast_19 : decode cX1_copyLast 19 = .ok (.istore 5, 2) := by decide +kernel
theorem dX1_copyLast_21 : decode cX1_copyLast 21 = .ok (.aload_n 0, 1) := by decide +kernel
theorem dX1_copyLast_22 : decode cX1_copyLast 22 = .ok (.aload_n 0, 1) := by decide +kernel
theorem dX1_copyLast_23 : decode cX1_copyLast 23 = .ok (.getfield 9, 3) := by decide +kernel
theorem dX1_copyLast_26 : decode cX1_copyLast 26 = .ok (.iload 5, 2) := by decide +kernel
theorem dX1_copyLast_28 : decode cX1_copyLast 28 = .ok (.iaload, 1) := by decide +kernel
theorem dX1_copyLast_29 : decode cX1_copyLast 29 = .ok (.aload_n 0, 1) := by decide +kernel
theorem dX1_copyLast_30 : decode cX1_copyLast 30 = .ok (.getfield 15, 3) := by decide +kernel
theorem dX1_copyLast_33 : decode cX1_copyLast 33 = .ok (.iload 5, 2) := by decide +kernel
theorem dX1_copyLast_35 : decode cX1_copyLast 35 = .ok (.iaload, 1) := by decide +kernel
theorem dX1_copyLast_36 : decode cX1_copyLast 36 = .ok (.invokevirtual 38, 3) := by decide +kernel
theorem dX1_copyLast_39 : decode cX1_copyLast 39 = .ok (.iinc 4 1, 3) := by decide +kernel
theorem dX1_copyLast_42 : decode cX1_copyLast 42 = .ok (.goto (-35), 3) := by decide +kernel
theorem dX1_copyLast_45 : decode cX1_copyLast 45 = .ok (.aload_n 0, 1) := by decide +kernel
theorem dX1_copyLast_46 : decode cX1_copyLast 46 = .ok (.getfield 27, 3) := by decide +kernel
theorem dX1_copyLast_49 : decode cX1_copyLast 49 = .ok (.ireturn, 1) := by decide +kernel
theorem dX1_flipKnot_0 : decode cX1_flipKnot 0 = .ok (.aload_n 0, 1) := by decide +kernel
theorem dX1_flipKnot_1 : decode cX1_flipKnot 1 = .ok (.getfield 18, 3) := by decide +kernel
theorem dX1_flipKnot_4 : decode cX1_flipKnot 4 = .ok (.iload_n 1, 1) := by decide +kernel
theorem dX1_flipKnot_5 : decode cX1_flipKnot 5 = .ok (.dup2, 1) := by decide +kernel
theorem dX1_flipKnot_6 : decode cX1_flipKnot 6 = .ok (.iaload, 1) := by decide +kernel
theorem dX1_flipKnot_7 : decode cX1_flipKnot 7 = .ok (.iconst 1, 1) := by decide +kernel
theorem dX1_flipKnot_8 : decode cX1_flipKnot 8 = .ok (.iload_n 2, 1) := by decide +kernel
theorem dX1_flipKnot_9 : decode cX1_flipKnot 9 = .ok (.ishl, 1) := by decide +kernel
theorem dX1_flipKnot_10 : decode cX1_flipKnot 10 = .ok (.ixor, 1) := by decide +kernel
theorem dX1_flipKnot_11 : decode cX1_flipKnot 11 = .ok (.iastore, 1) := by decide +kernel
theorem dX1_flipKnot_12 : decode cX1_flipKnot 12 = .ok (.aload_n 0, 1) := by decide +kernel
theorem dX1_flipKnot_13 : decode cX1_flipKnot 13 = .ok (.invokevirtual 42, 3) := by decide +kernel
theorem dX1_flipKnot_16 : decode cX1_flipKnot 16 = .ok (.ireturn, 1) := by decide +kernel
theorem dX1_countKnots_0 : decode cX1_countKnots 0 = .ok (.iconst 0, 1) := by decide +kernel
theorem dX1_countKnots_1 : decode cX1_countKnots 1 = .ok (.istore_n 1, 1) := by decide +kernel
theorem dX1_countKnots_2 : decode cX1_countKnots 2 = .ok (.iconst 0, 1) := by decide +kernel
theorem dX1_countKnots_3 : decode cX1_countKnots 3 = .ok (.istore_n 2, 1) := by decide +kernel
theorem dX1_countKnots_4 : decode cX1_countKnots 4 = .ok (.iload_n 2, 1) := by decide +kernel
theorem dX1_countKnots_5 : decode cX1_countKnots 5 = .ok (.aload_n 0, 1) := by decide +kernel
theorem dX1_countKnots_6 : decode cX1_countKnots 6 = .ok (.getfield 27, 3) := by decide +kernel
theorem dX1_countKnots_9 : decode cX1_countKnots 9 = .ok (.if_icmp .ge 21, 3) := by decide +kernel
theorem dX1_countKnots_12 : decode cX1_countKnots 12 = .ok (.iload_n 1, 1) := by decide +kernel
theorem dX1_countKnots_13 : decode cX1_countKnots 13 = .ok (.aload_n 0, 1) := by decide +kernel
theorem dX1_countKnots_14 : decode cX1_countKnots 14 = .ok (.getfield 18, 3) := by decide +kernel
theorem dX1_countKnots_17 : decode cX1_countKnots 17 = .ok (.iload_n 2, 1) := by decide +kernel
theorem dX1_countKnots_18 : decode cX1_countKnots 18 = .ok (.iaload, 1) := by decide +kernel
theorem dX1_countKnots_19 : decode cX1_countKnots 19 = .ok (.invokestatic 46, 3) := by decide +kernel
theorem dX1_countKnots_22 : decode cX1_countKnots 22 = .ok (.iadd, 1) := by decide +kernel
theorem dX1_countKnots_23 : decode cX1_countKnots 23 = .ok (.istore_n 1, 1) := by decide +kernel
theorem dX1_countKnots_24 : decode cX1_countKnots 24 = .ok (.iinc 2 1, 3) := by decide +kernel
theorem dX1_countKnots_27 : decode cX1_countKnots 27 = .ok (.goto (-23), 3) := by decide +kernel
theorem dX1_countKnots_30 : decode cX1_countKnots 30 = .ok (.iload_n 1, 1) := by decide +kernel
theorem dX1_countKnots_31 : decode cX1_countKnots 31 = .ok (.ireturn, 1) := by decide +kernel
theorem dX1_countRaised_0 : decode cX1_countRaised 0 = .ok (.iconst 0, 1) := by decide +kernel
theorem dX1_countRaised_1 : decode cX1_countRaised 1 = .ok (.istore_n 1, 1) := by decide +kernel
theorem dX1_countRaised_2 : decode cX1_countRaised 2 = .ok (.iconst 0, 1) := by decide +kernel
theorem dX1_countRaised_3 : decode cX1_countRaised 3 = .ok (.istore_n 2, 1) := by decide +kernel
theorem dX1_countRaised_4 : decode cX1_countRaised 4 = .ok (.iload_n 2, 1) := by decide +kernel
theorem dX1_countRaised_5 : decode cX1_countRaised 5 = .ok (.aload_n 0, 1) := by decide +kernel
theorem dX1_countRaised_6 : decode cX1_countRaised 6 = .ok (.getfield 27, 3) := by decide +kernel
theorem dX1_countRaised_9 : decode cX1_countRaised 9 = .ok (.if_icmp .ge 21, 3) := by decide +kernel
theorem dX1_countRaised_12 : decode cX1_countRaised 12 = .ok (.iload_n 1, 1) := by decide +kernel
theorem dX1_countRaised_13 : decode cX1_countRaised 13 = .ok (.aload_n 0, 1) := by decide +kernel
theorem dX1_countRaised_14 : decode cX1_countRaised 14 = .ok (.getfield 9, 3) := by decide +kernel
theorem dX1_countRaised_17 : decode cX1_countRaised 17 = .ok (.iload_n 2, 1) := by decide +kernel
theorem dX1_countRaised_18 : decode cX1_countRaised 18 = .ok (.iaload, 1) := by decide +kernel
theorem dX1_countRaised_19 : decode cX1_countRaised 19 = .ok (.invokestatic 46, 3) := by decide +kernel
theorem dX1_countRaised_22 : decode cX1_countRaised 22 = .ok (.iadd, 1) := by decide +kernel
theorem dX1_countRaised_23 : decode cX1_countRaised 23 = .ok (.istore_n 1, 1) := by decide +kernel
theorem dX1_countRaised_24 : decode cX1_countRaised 24 = .ok (.iinc 2 1, 3) := by decide +kernel
theorem dX1_countRaised_27 : decode cX1_countRaised 27 = .ok (.goto (-23), 3) := by decide +kernel
theorem dX1_countRaised_30 : decode cX1_countRaised 30 = .ok (.iload_n 1, 1) := by decide +kernel
theorem dX1_countRaised_31 : decode cX1_countRaised 31 = .ok (.ireturn, 1) := by decide +kernel
theorem dX1_firstKnottedRow_0 : decode cX1_firstKnottedRow 0 = .ok (.iload_n 1, 1) := by decide +kernel
theorem dX1_firstKnottedRow_1 : decode cX1_firstKnottedRow 1 = .ok (.istore_n 2, 1) := by decide +kernel
theorem dX1_firstKnottedRow_2 : decode cX1_firstKnottedRow 2 = .ok (.iload_n 2, 1) := by decide +kernel
theorem dX1_firstKnottedRow_3 : decode cX1_firstKnottedRow 3 = .ok (.aload_n 0, 1) := by decide +kernel
theorem dX1_firstKnottedRow_4 : decode cX1_firstKnottedRow 4 = .ok (.getfield 27, 3) := by decide +kernel
theorem dX1_firstKnottedRow_7 : decode cX1_firstKnottedRow 7 = .ok (.if_icmp .ge 20, 3) := by decide +kernel
theorem dX1_firstKnottedRow_10 : decode cX1_firstKnottedRow 10 = .ok (.aload_n 0, 1) := by decide +kernel
theorem dX1_firstKnottedRow_11 : decode cX1_firstKnottedRow 11 = .ok (.getfield 18, 3) := by decide +kernel
theorem dX1_firstKnottedRow_14 : decode cX1_firstKnottedRow 14 = .ok (.iload_n 2, 1) := by decide +kernel
theorem dX1_firstKnottedRow_15 : decode cX1_firstKnottedRow 15 = .ok (.iaload, 1) := by decide +kernel
theorem dX1_firstKnottedRow_16 : decode cX1_firstKnottedRow 16 = .ok (.ifCond .eq 5, 3) := by decide +kernel
theorem dX1_firstKnottedRow_19 : decode cX1_firstKnottedRow 19 = .ok (.iload_n 2, 1) := by decide +kernel
theorem dX1_firstKnottedRow_20 : decode cX1_firstKnottedRow 20 = .ok (.ireturn, 1) := by decide +kernel
theorem dX1_firstKnottedRow_21 : decode cX1_firstKnottedRow 21 = .ok (.iinc 2 1, 3) := by decide +kernel
theorem dX1_firstKnottedRow_24 : decode cX1_firstKnottedRow 24 = .ok (.goto (-22), 3) := by decide +kernel
theorem dX1_firstKnottedRow_27 : decode cX1_firstKnottedRow 27 = .ok (.iconst (-1), 1) := by decide +kernel
theorem dX1_firstKnottedRow_28 : decode cX1_firstKnottedRow 28 = .ok (.ireturn, 1) := by decide +kernel
theorem dX1_lastKnottedRow_0 : decode cX1_lastKnottedRow 0 = .ok (.aload_n 0, 1) := by decide +kernel
theorem dX1_lastKnottedRow_1 : decode cX1_lastKnottedRow 1 = .ok (.getfield 27, 3) := by decide +kernel
theorem dX1_lastKnottedRow_4 : decode cX1_lastKnottedRow 4 = .ok (.iconst 1, 1) := by decide +kernel
theorem dX1_lastKnottedRow_5 : decode cX1_lastKnottedRow 5 = .ok (.isub, 1) := by decide +kernel
theorem dX1_lastKnottedRow_6 : decode cX1_lastKnottedRow 6 = .ok (.istore_n 1, 1) := by decide +kernel
theorem dX1_lastKnottedRow_7 : decode cX1_lastKnottedRow 7 = .ok (.iload_n 1, 1) := by decide +kernel
theorem dX1_lastKnottedRow_8 : decode cX1_lastKnottedRow 8 = .ok (.ifCond .lt 18, 3) := by decide +kernel
theorem dX1_lastKnottedRow_11 : decode cX1_lastKnottedRow 11 = .ok (.aload_n 0, 1) := by decide +kernel
theorem dX1_lastKnottedRow_12 : decode cX1_lastKnottedRow 12 = .ok (.getfield 18, 3) := by decide +kernel
theorem dX1_lastKnottedRow_15 : decode cX1_lastKnottedRow 15 = .ok (.iload_n 1, 1) := by decide +kernel
theorem dX1_lastKnottedRow_16 : decode cX1_lastKnottedRow 16 = .ok (.iaload, 1) := by decide +kernel
theorem dX1_lastKnottedRow_17 : decode cX1_lastKnottedRow 17 = .ok (.ifCond .ne 9, 3) := by decide +kernel
theorem dX1_lastKnottedRow_20 : decode cX1_lastKnottedRow 20 = .ok (.iinc 1 (-1), 3) := by decide +kernel
theorem dX1_lastKnottedRow_23 : decode cX1_lastKnottedRow 23 = .ok (.goto (-16), 3) := by decide +kernel
theorem dX1_lastKnottedRow_26 : decode cX1_lastKnottedRow 26 = .ok (.iload_n 1, 1) := by decide +kernel
theorem dX1_lastKnottedRow_27 : decode cX1_lastKnottedRow 27 = .ok (.ireturn, 1) := by decide +kernel
theorem dX1_firstKnottedColumn_0 : decode cX1_firstKnottedColumn 0 = .ok (.iconst 0, 1) := by decide +kernel
theorem dX1_firstKnottedColumn_1 : decode cX1_firstKnottedColumn 1 = .ok (.istore_n 2, 1) := by decide +kernel
theorem dX1_firstKnottedColumn_2 : decode cX1_firstKnottedColumn 2 = .ok (.iload_n 2, 1) := by decide +kernel
theorem dX1_firstKnottedColumn_3 : decode cX1_firstKnottedColumn 3 = .ok (.bipush 15, 2) := by decide +kernel
theorem dX1_firstKnottedColumn_5 : decode cX1_firstKnottedColumn 5 = .ok (.if_icmp .ge 18, 3) := by decide +kernel
theorem dX1_firstKnottedColumn_8 : decode cX1_firstKnottedColumn 8 = .ok (.aload_n 0, 1) := by decide +kernel
theorem dX1_firstKnottedColumn_9 : decode cX1_firstKnottedColumn 9 = .ok (.iload_n 1, 1) := by decide +kernel
theorem dX1_firstKnottedColumn_10 : decode cX1_firstKnottedColumn 10 = .ok (.iload_n 2, 1) := by decide +kernel
theorem dX1_firstKnottedColumn_11 : decode cX1_firstKnottedColumn 11 = .ok (.invokevirtual 52, 3) := by decide +kernel
theorem dX1_firstKnottedColumn_14 : decode cX1_firstKnottedColumn 14 = .ok (.ifCond .ne 9, 3) := by decide +kernel
theorem dX1_firstKnottedColumn_17 : decode cX1_firstKnottedColumn 17 = .ok (.iinc 2 1, 3) := by decide +kernel
theorem dX1_firstKnottedColumn_20 : decode cX1_firstKnottedColumn 20 = .ok (.goto (-18), 3) := by decide +kernel
theorem dX1_firstKnottedColumn_23 : decode cX1_firstKnottedColumn 23 = .ok (.iload_n 2, 1) := by decide +kernel
theorem dX1_firstKnottedColumn_24 : decode cX1_firstKnottedColumn 24 = .ok (.ireturn, 1) := by decide +kernel
theorem dX1_sameRows_0 : decode cX1_sameRows 0 = .ok (.aload_n 0, 1) := by decide +kernel
theorem dX1_sameRows_1 : decode cX1_sameRows 1 = .ok (.getfield 9, 3) := by decide +kernel
theorem dX1_sameRows_4 : decode cX1_sameRows 4 = .ok (.iload_n 1, 1) := by decide +kernel
theorem dX1_sameRows_5 : decode cX1_sameRows 5 = .ok (.iaload, 1) := by decide +kernel
theorem dX1_sameRows_6 : decode cX1_sameRows 6 = .ok (.aload_n 0, 1) := by decide +kernel
theorem dX1_sameRows_7 : decode cX1_sameRows 7 = .ok (.getfield 9, 3) := by decide +kernel
theorem dX1_sameRows_10 : decode cX1_sameRows 10 = .ok (.iload_n 2, 1) := by decide +kernel
theorem dX1_sameRows_11 : decode cX1_sameRows 11 = .ok (.iaload, 1) := by decide +kernel
theorem dX1_sameRows_12 : decode cX1_sameRows 12 = .ok (.if_icmp .ne 22, 3) := by decide +kernel
theorem dX1_sameRows_15 : decode cX1_sameRows 15 = .ok (.aload_n 0, 1) := by decide +kernel
theorem dX1_sameRows_16 : decode cX1_sameRows 16 = .ok (.getfield 15, 3) := by decide +kernel
theorem dX1_sameRows_19 : decode cX1_sameRows 19 = .ok (.iload_n 1, 1) := by decide +kernel
theorem dX1_sameRows_20 : decode cX1_sameRows 20 = .ok (.iaload, 1) := by decide +kernel
theorem dX1_sameRows_21 : decode cX1_sameRows 21 = .ok (.aload_n 0, 1) := by decide +kernel
theorem dX1_sameRows_22 : decode cX1_sameRows 22 = .ok (.getfield 15, 3) := by decide +kernel
theorem dX1_sameRows_25 : decode cX1_sameRows 25 = .ok (.iload_n 2, 1) := by decide +kernel
theorem dX1_sameRows_26 : decode cX1_sameRows 26 = .ok (.iaload, 1) := by decide +kernel
theorem dX1_sameRows_27 : decode cX1_sameRows 27 = .ok (.if_icmp .ne 7, 3) := by decide +kernel
theorem dX1_sameRows_30 : decode cX1_sameRows 30 = .ok (.iconst 1, 1) := by decide +kernel
theorem dX1_sameRows_31 : decode cX1_sameRows 31 = .ok (.goto 4, 3) := by decide +kernel
theorem dX1_sameRows_34 : decode cX1_sameRows 34 = .ok (.iconst 0, 1) := by decide +kernel
theorem dX1_sameRows_35 : decode cX1_sameRows 35 = .ok (.ireturn, 1) := by decide +kernel
theorem dX1_sameRuns_0 : decode cX1_sameRuns 0 = .ok (.iconst 0, 1) := by decide +kernel
theorem dX1_sameRuns_1 : decode cX1_sameRuns 1 = .ok (.istore 4, 2) := by decide +kernel
theorem dX1_sameRuns_3 : decode cX1_sameRuns 3 = .ok (.iload 4, 2) := by decide +kernel
theorem dX1_sameRuns_5 : decode cX1_sameRuns 5 = .ok (.iload_n 3, 1) := by decide +kernel
theorem dX1_sameRuns_6 : decode cX1_sameRuns 6 = .ok (.if_icmp .ge 26, 3) := by decide +kernel
theorem dX1_sameRuns_9 : decode cX1_sameRuns 9 = .ok (.aload_n 0, 1) := by decide +kernel
theorem dX1_sameRuns_10 : decode cX1_sameRuns 10 = .ok (.iload_n 1, 1) := by decide +kernel
theorem dX1_sameRuns_11 : decode cX1_sameRuns 11 = .ok (.iload 4, 2) := by decide +kernel
theorem dX1_sameRuns_13 : decode cX1_sameRuns 13 = .ok (.iadd, 1) := by decide +kernel
theorem dX1_sameRuns_14 : decode cX1_sameRuns 14 = .ok (.iload_n 2, 1) := by decide +kernel
theorem dX1_sameRuns_15 : decode cX1_sameRuns 15 = .ok (.iload 4, 2) := by decide +kernel
theorem dX1_sameRuns_17 : decode cX1_sameRuns 17 = .ok (.iadd, 1) := by decide +kernel
theorem dX1_sameRuns_18 : decode cX1_sameRuns 18 = .ok (.invokevirtual 56, 3) := by decide +kernel
theorem dX1_sameRuns_21 : decode cX1_sameRuns 21 = .ok (.ifCond .ne 5, 3) := by decide +kernel
theorem dX1_sameRuns_24 : decode cX1_sameRuns 24 = .ok (.iconst 0, 1) := by decide +kernel
theorem dX1_sameRuns_25 : decode cX1_sameRuns 25 = .ok (.ireturn, 1) := by decide +kernel
theorem dX1_sameRuns_26 : decode cX1_sameRuns 26 = .ok (.iinc 4 1, 3) := by decide +kernel
theorem dX1_sameRuns_29 : decode cX1_sameRuns 29 = .ok (.goto (-26), 3) := by decide +kernel
theorem dX1_sameRuns_32 : decode cX1_sameRuns 32 = .ok (.iconst 1, 1) := by decide +kernel
theorem dX1_sameRuns_33 : decode cX1_sameRuns 33 = .ok (.ireturn, 1) := by decide +kernel
theorem dX1_overlapsItself_0 : decode cX1_overlapsItself 0 = .ok (.iload_n 1, 1) := by decide +kernel
theorem dX1_overlapsItself_1 : decode cX1_overlapsItself 1 = .ok (.istore_n 2, 1) := by decide +kernel
theorem dX1_overlapsItself_2 : decode cX1_overlapsItself 2 = .ok (.iload_n 2, 1) := by decide +kernel
theorem dX1_overlapsItself_3 : decode cX1_overlapsItself 3 = .ok (.aload_n 0, 1) := by decide +kernel
theorem dX1_overlapsItself_4 : decode cX1_overlapsItself 4 = .ok (.getfield 27, 3) := by decide +kernel
theorem dX1_overlapsItself_7 : decode cX1_overlapsItself 7 = .ok (.if_icmp .ge 22, 3) := by decide +kernel
theorem dX1_overlapsItself_10 : decode cX1_overlapsItself 10 = .ok (.aload_n 0, 1) := by decide +kernel
theorem dX1_overlapsItself_11 : decode cX1_overlapsItself 11 = .ok (.iload_n 2, 1) := by decide +kernel
theorem dX1_overlapsItself_12 : decode cX1_overlapsItself 12 = .ok (.iload_n 2, 1) := by decide +kernel
theorem dX1_overlapsItself_13 : decode cX1_overlapsItself 13 = .ok (.iload_n 1, 1) := by decide +kernel
theorem dX1_overlapsItself_14 : decode cX1_overlapsItself 14 = .ok (.isub, 1) := by decide +kernel
theorem dX1_overlapsItself_15 : decode cX1_overlapsItself 15 = .ok (.invokevirtual 56, 3) := by decide +kernel
theorem dX1_overlapsItself_18 : decode cX1_overlapsItself 18 = .ok (.ifCond .ne 5, 3) := by decide +kernel
theorem dX1_overlapsItself_21 : decode cX1_overlapsItself 21 = .ok (.iconst 0, 1) := by decide +kernel
theorem dX1_overlapsItself_22 : decode cX1_overlapsItself 22 = .ok (.ireturn, 1) := by decide +kernel
theorem dX1_overlapsItself_23 : decode cX1_overlapsItself 23 = .ok (.iinc 2 1, 3) := by decide +kernel
theorem dX1_overlapsItself_26 : decode cX1_overlapsItself 26 = .ok (.goto (-24), 3) := by decide +kernel
theorem dX1_overlapsItself_29 : decode cX1_overlapsItself 29 = .ok (.iconst 1, 1) := by decide +kernel
theorem dX1_overlapsItself_30 : decode cX1_overlapsItself 30 = .ok (.ireturn, 1) := by decide +kernel
theorem dX1_longestBorder_0 : decode cX1_longestBorder 0 = .ok (.aload_n 0, 1) := by decide +kernel
theorem dX1_longestBorder_1 : decode cX1_longestBorder 1 = .ok (.getfield 27, 3) := by decide +kernel
theorem dX1_longestBorder_4 : decode cX1_longestBorder 4 = .ok (.iconst 1, 1) := by decide +kernel
theorem dX1_longestBorder_5 : decode cX1_longestBorder 5 = .ok (.isub, 1) := by decide +kernel
theorem dX1_longestBorder_6 : decode cX1_longestBorder 6 = .ok (.istore_n 1, 1) := by decide +kernel
theorem dX1_longestBorder_7 : decode cX1_longestBorder 7 = .ok (.iload_n 1, 1) := by decide +kernel
theorem dX1_longestBorder_8 : decode cX1_longestBorder 8 = .ok (.ifCond .le 24, 3) := by decide +kernel
theorem dX1_longestBorder_11 : decode cX1_longestBorder 11 = .ok (.aload_n 0, 1) := by decide +kernel
theorem dX1_longestBorder_12 : decode cX1_longestBorder 12 = .ok (.iconst 0, 1) := by decide +kernel
theorem dX1_longestBorder_13 : decode cX1_longestBorder 13 = .ok (.aload_n 0, 1) := by decide +kernel
theorem dX1_longestBorder_14 : decode cX1_longestBorder 14 = .ok (.getfield 27, 3) := by decide +kernel
theorem dX1_longestBorder_17 : decode cX1_longestBorder 17 = .ok (.iload_n 1, 1) := by decide +kernel
theorem dX1_longestBorder_18 : decode cX1_longestBorder 18 = .ok (.isub, 1) := by decide +kernel
theorem dX1_longestBorder_19 : decode cX1_longestBorder 19 = .ok (.iload_n 1, 1) := by decide +kernel
theorem dX1_longestBorder_20 : decode cX1_longestBorder 20 = .ok (.invokevirtual 59, 3) := by decide +kernel
theorem dX1_longestBorder_23 : decode cX1_longestBorder 23 = .ok (.ifCond .ne 9, 3) := by decide +kernel
theorem dX1_longestBorder_26 : decode cX1_longestBorder 26 = .ok (.iinc 1 (-1), 3) := by decide +kernel
theorem dX1_longestBorder_29 : decode cX1_longestBorder 29 = .ok (.goto (-22), 3) := by decide +kernel
theorem dX1_longestBorder_32 : decode cX1_longestBorder 32 = .ok (.iload_n 1, 1) := by decide +kernel
theorem dX1_longestBorder_33 : decode cX1_longestBorder 33 = .ok (.ireturn, 1) := by decide +kernel
theorem dX1_countOfLast_0 : decode cX1_countOfLast 0 = .ok (.aload_n 0, 1) := by decide +kernel
theorem dX1_countOfLast_1 : decode cX1_countOfLast 1 = .ok (.getfield 27, 3) := by decide +kernel
theorem dX1_countOfLast_4 : decode cX1_countOfLast 4 = .ok (.iload_n 1, 1) := by decide +kernel
theorem dX1_countOfLast_5 : decode cX1_countOfLast 5 = .ok (.isub, 1) := by decide +kernel
theorem dX1_countOfLast_6 : decode cX1_countOfLast 6 = .ok (.istore_n 2, 1) := by decide +kernel
theorem dX1_countOfLast_7 : decode cX1_countOfLast 7 = .ok (.iconst 0, 1) := by decide +kernel
theorem dX1_countOfLast_8 : decode cX1_countOfLast 8 = .ok (.istore_n 3, 1) := by decide +kernel
theorem dX1_countOfLast_9 : decode cX1_countOfLast 9 = .ok (.iconst 0, 1) := by decide +kernel
theorem dX1_countOfLast_10 : decode cX1_countOfLast 10 = .ok (.istore 4, 2) := by decide +kernel
theorem dX1_countOfLast_12 : decode cX1_countOfLast 12 = .ok (.iload 4, 2) := by decide +kernel
theorem dX1_countOfLast_14 : decode cX1_countOfLast 14 = .ok (.iload_n 2, 1) := by decide +kernel
theorem dX1_countOfLast_15 : decode cX1_countOfLast 15 = .ok (.if_icmp .gt 23, 3) := by decide +kernel
theorem dX1_countOfLast_18 : decode cX1_countOfLast 18 = .ok (.aload_n 0, 1) := by decide +kernel
theorem dX1_countOfLast_19 : decode cX1_countOfLast 19 = .ok (.iload 4, 2) := by decide +kernel
theorem dX1_countOfLast_21 : decode cX1_countOfLast 21 = .ok (.iload_n 2, 1) := by decide +kernel
theorem dX1_countOfLast_22 : decode cX1_countOfLast 22 = .ok (.iload_n 1, 1) := by decide +kernel
theorem dX1_countOfLast_23 : decode cX1_countOfLast 23 = .ok (.invokevirtual 59, 3) := by decide +kernel
theorem dX1_countOfLast_26 : decode cX1_countOfLast 26 = .ok (.ifCond .eq 6, 3) := by decide +kernel
theorem dX1_countOfLast_29 : decode cX1_countOfLast 29 = .ok (.iinc 3 1, 3) := by decide +kernel
theorem dX1_countOfLast_32 : decode cX1_countOfLast 32 = .ok (.iinc 4 1, 3) := by decide +kernel
theorem dX1_countOfLast_35 : decode cX1_countOfLast 35 = .ok (.goto (-23), 3) := by decide +kernel
theorem dX1_countOfLast_38 : decode cX1_countOfLast 38 = .ok (.iload_n 3, 1) := by decide +kernel
theorem dX1_countOfLast_39 : decode cX1_countOfLast 39 = .ok (.ireturn, 1) := by decide +kernel
theorem dX1_countDifferent_0 : decode cX1_countDifferent 0 = .ok (.iconst 0, 1) := by decide +kernel
theorem dX1_countDifferent_1 : decode cX1_countDifferent 1 = .ok (.istore_n 1, 1) := by decide +kernel
theorem dX1_countDifferent_2 : decode cX1_countDifferent 2 = .ok (.iconst 0, 1) := by decide +kernel
theorem dX1_countDifferent_3 : decode cX1_countDifferent 3 = .ok (.istore_n 2, 1) := by decide +kernel
theorem dX1_countDifferent_4 : decode cX1_countDifferent 4 = .ok (.iload_n 2, 1) := by decide +kernel
theorem dX1_countDifferent_5 : decode cX1_countDifferent 5 = .ok (.aload_n 0, 1) := by decide +kernel
theorem dX1_countDifferent_6 : decode cX1_countDifferent 6 = .ok (.getfield 27, 3) := by decide +kernel
theorem dX1_countDifferent_9 : decode cX1_countDifferent 9 = .ok (.if_icmp .ge 20, 3) := by decide +kernel
theorem dX1_countDifferent_12 : decode cX1_countDifferent 12 = .ok (.aload_n 0, 1) := by decide +kernel
theorem dX1_countDifferent_13 : decode cX1_countDifferent 13 = .ok (.iload_n 2, 1) := by decide +kernel
theorem dX1_countDifferent_14 : decode cX1_countDifferent 14 = .ok (.invokevirtual 63, 3) := by decide +kernel
theorem dX1_countDifferent_17 : decode cX1_countDifferent 17 = .ok (.ifCond .eq 6, 3) := by decide +kernel
theorem dX1_countDifferent_20 : decode cX1_countDifferent 20 = .ok (.iinc 1 1, 3) := by decide +kernel
theorem dX1_countDifferent_23 : decode cX1_countDifferent 23 = .ok (.iinc 2 1, 3) := by decide +kernel
theorem dX1_countDifferent_26 : decode cX1_countDifferent 26 = .ok (.goto (-22), 3) := by decide +kernel
theorem dX1_countDifferent_29 : decode cX1_countDifferent 29 = .ok (.iload_n 1, 1) := by decide +kernel
theorem dX1_countDifferent_30 : decode cX1_countDifferent 30 = .ok (.ireturn, 1) := by decide +kernel
theorem dX1_isNew_0 : decode cX1_isNew 0 = .ok (.iconst 0, 1) := by decide +kernel
theorem dX1_isNew_1 : decode cX1_isNew 1 = .ok (.istore_n 2, 1) := by decide +kernel
theorem dX1_isNew_2 : decode cX1_isNew 2 = .ok (.iload_n 2, 1) := by decide +kernel
theorem dX1_isNew_3 : decode cX1_isNew 3 = .ok (.iload_n 1, 1) := by decide +kernel
theorem dX1_isNew_4 : decode cX1_isNew 4 = .ok (.if_icmp .ge 20, 3) := by decide +kernel
theorem dX1_isNew_7 : decode cX1_isNew 7 = .ok (.aload_n 0, 1) := by decide +kernel
theorem dX1_isNew_8 : decode cX1_isNew 8 = .ok (.iload_n 2, 1) := by decide +kernel
theorem dX1_isNew_9 : decode cX1_isNew 9 = .ok (.iload_n 1, 1) := by decide +kernel
theorem dX1_isNew_10 : decode cX1_isNew 10 = .ok (.invokevirtual 56, 3) := by decide +kernel
theorem dX1_isNew_13 : decode cX1_isNew 13 = .ok (.ifCond .eq 5, 3) := by decide +kernel
theorem dX1_isNew_16 : decode cX1_isNew 16 = .ok (.iconst 0, 1) := by decide +kernel
theorem dX1_isNew_17 : decode cX1_isNew 17 = .ok (.ireturn, 1) := by decide +kernel
theorem dX1_isNew_18 : decode cX1_isNew 18 = .ok (.iinc 2 1, 3) := by decide +kernel
theorem dX1_isNew_21 : decode cX1_isNew 21 = .ok (.goto (-19), 3) := by decide +kernel
theorem dX1_isNew_24 : decode cX1_isNew 24 = .ok (.iconst 1, 1) := by decide +kernel
theorem dX1_isNew_25 : decode cX1_isNew 25 = .ok (.ireturn, 1) := by decide +kernel
theorem dX1_longestRaisedRun_0 : decode cX1_longestRaisedRun 0 = .ok (.iconst 0, 1) := by decide +kernel
theorem dX1_longestRaisedRun_1 : decode cX1_longestRaisedRun 1 = .ok (.istore_n 2, 1) := by decide +kernel
theorem dX1_longestRaisedRun_2 : decode cX1_longestRaisedRun 2 = .ok (.iconst 0, 1) := by decide +kernel
theorem dX1_longestRaisedRun_3 : decode cX1_longestRaisedRun 3 = .ok (.istore_n 3, 1) := by decide +kernel
theorem dX1_longestRaisedRun_4 : decode cX1_longestRaisedRun 4 = .ok (.iconst 0, 1) := by decide +kernel
theorem dX1_longestRaisedRun_5 : decode cX1_longestRaisedRun 5 = .ok (.istore 4, 2) := by decide +kernel
theorem dX1_longestRaisedRun_7 : decode cX1_longestRaisedRun 7 = .ok (.iload 4, 2) := by decide +kernel
theorem dX1_longestRaisedRun_9 : decode cX1_longestRaisedRun 9 = .ok (.aload_n 0, 1) := by decide +kernel
theorem dX1_longestRaisedRun_10 : decode cX1_longestRaisedRun 10 = .ok (.getfield 27, 3) := by decide +kernel
theorem dX1_longestRaisedRun_13 : decode cX1_longestRaisedRun 13 = .ok (.if_icmp .ge 33, 3) := by decide +kernel
theorem dX1_longestRaisedRun_16 : decode cX1_longestRaisedRun 16 = .ok (.aload_n 0, 1) := by decide +kernel
theorem dX1_longestRaisedRun_17 : decode cX1_longestRaisedRun 17 = .ok (.iload 4, 2) := by decide +kernel
theorem dX1_longestRaisedRun_19 : decode cX1_longestRaisedRun 19 = .ok (.iload_n 1, 1) := by decide +kernel
theorem dX1_longestRaisedRun_20 : decode cX1_longestRaisedRun 20 = .ok (.invokevirtual 66, 3) := by decide +kernel
theorem dX1_longestRaisedRun_23 : decode cX1_longestRaisedRun 23 = .ok (.ifCond .eq 9, 3) := by decide +kernel
theorem dX1_longestRaisedRun_26 : decode cX1_longestRaisedRun 26 = .ok (.iload_n 3, 1) := by decide +kernel
theorem dX1_longestRaisedRun_27 : decode cX1_longestRaisedRun 27 = .ok (.iconst 1, 1) := by decide +kernel
theorem dX1_longestRaisedRun_28 : decode cX1_longestRaisedRun 28 = .ok (.iadd, 1) := by decide +kernel
theorem dX1_longestRaisedRun_29 : decode cX1_longestRaisedRun 29 = .ok (.goto 4, 3) := by decide +kernel
theorem dX1_longestRaisedRun_32 : decode cX1_longestRaisedRun 32 = .ok (.iconst 0, 1) := by decide +kernel
theorem dX1_longestRaisedRun_33 : decode cX1_longestRaisedRun 33 = .ok (.istore_n 3, 1) := by decide +kernel
theorem dX1_longestRaisedRun_34 : decode cX1_longestRaisedRun 34 = .ok (.iload_n 2, 1) := by decide +kernel
theorem dX1_longestRaisedRun_35 : decode cX1_longestRaisedRun 35 = .ok (.iload_n 3, 1) := by decide +kernel
theorem dX1_longestRaisedRun_36 : decode cX1_longestRaisedRun 36 = .ok (.invokestatic 69, 3) := by decide +kernel
theorem dX1_longestRaisedRun_39 : decode cX1_longestRaisedRun 39 = .ok (.istore_n 2, 1) := by decide +kernel
theorem dX1_longestRaisedRun_40 : decode cX1_longestRaisedRun 40 = .ok (.iinc 4 1, 3) := by decide +kernel
theorem dX1_longestRaisedRun_43 : decode cX1_longestRaisedRun 43 = .ok (.goto (-36), 3) := by decide +kernel
theorem dX1_longestRaisedRun_46 : decode cX1_longestRaisedRun 46 = .ok (.iload_n 2, 1) := by decide +kernel
theorem dX1_longestRaisedRun_47 : decode cX1_longestRaisedRun 47 = .ok (.ireturn, 1) := by decide +kernel
theorem dX1_sameReversed_0 : decode cX1_sameReversed 0 = .ok (.iconst 0, 1) := by decide +kernel
theorem dX1_sameReversed_1 : decode cX1_sameReversed 1 = .ok (.istore_n 1, 1) := by decide +kernel
theorem dX1_sameReversed_2 : decode cX1_sameReversed 2 = .ok (.iload_n 1, 1) := by decide +kernel
theorem dX1_sameReversed_3 : decode cX1_sameReversed 3 = .ok (.aload_n 0, 1) := by decide +kernel
theorem dX1_sameReversed_4 : decode cX1_sameReversed 4 = .ok (.getfield 27, 3) := by decide +kernel
theorem dX1_sameReversed_7 : decode cX1_sameReversed 7 = .ok (.if_icmp .ge 27, 3) := by decide +kernel
theorem dX1_sameReversed_10 : decode cX1_sameReversed 10 = .ok (.aload_n 0, 1) := by decide +kernel
theorem dX1_sameReversed_11 : decode cX1_sameReversed 11 = .ok (.iload_n 1, 1) := by decide +kernel
theorem dX1_sameReversed_12 : decode cX1_sameReversed 12 = .ok (.aload_n 0, 1) := by decide +kernel
theorem dX1_sameReversed_13 : decode cX1_sameReversed 13 = .ok (.getfield 27, 3) := by decide +kernel
theorem dX1_sameReversed_16 : decode cX1_sameReversed 16 = .ok (.iconst 1, 1) := by decide +kernel
theorem dX1_sameReversed_17 : decode cX1_sameReversed 17 = .ok (.isub, 1) := by decide +kernel
theorem dX1_sameReversed_18 : decode cX1_sameReversed 18 = .ok (.iload_n 1, 1) := by decide +kernel
theorem dX1_sameReversed_19 : decode cX1_sameReversed 19 = .ok (.isub, 1) := by decide +kernel
theorem dX1_sameReversed_20 : decode cX1_sameReversed 20 = .ok (.invokevirtual 56, 3) := by decide +kernel
theorem dX1_sameReversed_23 : decode cX1_sameReversed 23 = .ok (.ifCond .ne 5, 3) := by decide +kernel
theorem dX1_sameReversed_26 : decode cX1_sameReversed 26 = .ok (.iconst 0, 1) := by decide +kernel
theorem dX1_sameReversed_27 : decode cX1_sameReversed 27 = .ok (.ireturn, 1) := by decide +kernel
theorem dX1_sameReversed_28 : decode cX1_sameReversed 28 = .ok (.iinc 1 1, 3) := by decide +kernel
theorem dX1_sameReversed_31 : decode cX1_sameReversed 31 = .ok (.goto (-29), 3) := by decide +kernel
theorem dX1_sameReversed_34 : decode cX1_sameReversed 34 = .ok (.iconst 1, 1) := by decide +kernel
theorem dX1_sameReversed_35 : decode cX1_sameReversed 35 = .ok (.ireturn, 1) := by decide +kernel
theorem dX2_init_0 : decode cX2_init 0 = .ok (.aload_n 0, 1) := by decide +kernel
theorem dX2_init_1 : decode cX2_init 1 = .ok (.invokespecial 1, 3) := by decide +kernel
theorem dX2_init_4 : decode cX2_init 4 = .ok (.aload_n 0, 1) := by decide +kernel
theorem dX2_init_5 : decode cX2_init 5 = .ok (.getstatic 7, 3) := by decide +kernel
theorem dX2_init_8 : decode cX2_init 8 = .ok (.putfield 13, 3) := by decide +kernel
theorem dX2_init_11 : decode cX2_init 11 = .ok (.return_, 1) := by decide +kernel
theorem dX2_become_0 : decode cX2_become 0 = .ok (.aload_n 0, 1) := by decide +kernel
theorem dX2_become_1 : decode cX2_become 1 = .ok (.aload_n 1, 1) := by decide +kernel
theorem dX2_become_2 : decode cX2_become 2 = .ok (.putfield 13, 3) := by decide +kernel
theorem dX2_become_5 : decode cX2_become 5 = .ok (.aload_n 0, 1) := by decide +kernel
theorem dX2_become_6 : decode cX2_become 6 = .ok (.iload_n 2, 1) := by decide +kernel
theorem dX2_become_7 : decode cX2_become 7 = .ok (.putfield 18, 3) := by decide +kernel
theorem dX2_become_10 : decode cX2_become 10 = .ok (.aload_n 0, 1) := by decide +kernel
theorem dX2_become_11 : decode cX2_become 11 = .ok (.iload_n 3, 1) := by decide +kernel
theorem dX2_become_12 : decode cX2_become 12 = .ok (.putfield 22, 3) := by decide +kernel
theorem dX2_become_15 : decode cX2_become 15 = .ok (.aload_n 0, 1) := by decide +kernel
theorem dX2_become_16 : decode cX2_become 16 = .ok (.iload 4, 2) := by decide +kernel
theorem dX2_become_18 : decode cX2_become 18 = .ok (.putfield 25, 3) := by decide +kernel
theorem dX2_become_21 : decode cX2_become 21 = .ok (.aload_n 0, 1) := by decide +kernel
theorem dX2_become_22 : decode cX2_become 22 = .ok (.areturn, 1) := by decide +kernel
theorem dX2_put_0 : decode cX2_put 0 = .ok (.iload_n 1, 1) := by decide +kernel
theorem dX2_put_1 : decode cX2_put 1 = .ok (.ifCond .ne 11, 3) := by decide +kernel
theorem dX2_put_4 : decode cX2_put 4 = .ok (.aload_n 0, 1) := by decide +kernel
theorem dX2_put_5 : decode cX2_put 5 = .ok (.iload_n 2, 1) := by decide +kernel
theorem dX2_put_6 : decode cX2_put 6 = .ok (.putfield 18, 3) := by decide +kernel
theorem dX2_put_9 : decode cX2_put 9 = .ok (.goto 21, 3) := by decide +kernel
theorem dX2_put_12 : decode cX2_put 12 = .ok (.iload_n 1, 1) := by decide +kernel
theorem dX2_put_13 : decode cX2_put 13 = .ok (.iconst 1, 1) := by decide +kernel
theorem dX2_put_14 : decode cX2_put 14 = .ok (.if_icmp .ne 11, 3) := by decide +kernel
theorem dX2_put_17 : decode cX2_put 17 = .ok (.aload_n 0, 1) := by decide +kernel
theorem dX2_put_18 : decode cX2_put 18 = .ok (.iload_n 2, 1) := by decide +kernel
theorem dX2_put_19 : decode cX2_put 19 = .ok (.putfield 22, 3) := by decide +kernel
theorem dX2_put_22 : decode cX2_put 22 = .ok (.goto 8, 3) := by decide +kernel
theorem dX2_put_25 : decode cX2_put 25 = .ok (.aload_n 0, 1) := by decide +kernel
theorem dX2_put_26 : decode cX2_put 26 = .ok (.iload_n 2, 1) := by decide +kernel
theorem dX2_put_27 : decode cX2_put 27 = .ok (.putfield 25, 3) := by decide +kernel
theorem dX2_put_30 : decode cX2_put 30 = .ok (.return_, 1) := by decide +kernel
theorem dX3_init_0 : decode cX3_init 0 = .ok (.aload_n 0, 1) := by decide +kernel
theorem dX3_init_1 : decode cX3_init 1 = .ok (.invokespecial 3, 3) := by decide +kernel
theorem dX3_init_4 : decode cX3_init 4 = .ok (.return_, 1) := by decide +kernel
theorem dX3_copyFrom_0 : decode cX3_copyFrom 0 = .ok (.aload_n 0, 1) := by decide +kernel
theorem dX3_copyFrom_1 : decode cX3_copyFrom 1 = .ok (.aload_n 1, 1) := by decide +kernel
theorem dX3_copyFrom_2 : decode cX3_copyFrom 2 = .ok (.getfield 9, 3) := by decide +kernel
theorem dX3_copyFrom_5 : decode cX3_copyFrom 5 = .ok (.putfield 9, 3) := by decide +kernel
theorem dX3_copyFrom_8 : decode cX3_copyFrom 8 = .ok (.aload_n 0, 1) := by decide +kernel
theorem dX3_copyFrom_9 : decode cX3_copyFrom 9 = .ok (.aload_n 1, 1) := by decide +kernel
theorem dX3_copyFrom_10 : decode cX3_copyFrom 10 = .ok (.getfield 15, 3) := by decide +kernel
theorem dX3_copyFrom_13 : decode cX3_copyFrom 13 = .ok (.putfield 15, 3) := by decide +kernel
theorem dX3_copyFrom_16 : decode cX3_copyFrom 16 = .ok (.return_, 1) := by decide +kernel
theorem dX3_feel_0 : decode cX3_feel 0 = .ok (.aload_n 0, 1) := by decide +kernel
theorem dX3_feel_1 : decode cX3_feel 1 = .ok (.iload_n 1, 1) := by decide +kernel
theorem dX3_feel_2 : decode cX3_feel 2 = .ok (.ifCond .eq 12, 3) := by decide +kernel
theorem dX3_feel_5 : decode cX3_feel 5 = .ok (.aload_n 0, 1) := by decide +kernel
theorem dX3_feel_6 : decode cX3_feel 6 = .ok (.getfield 9, 3) := by decide +kernel
theorem dX3_feel_9 : decode cX3_feel 9 = .ok (.iconst 1, 1) := by decide +kernel
theorem dX3_feel_10 : decode cX3_feel 10 = .ok (.iadd, 1) := by decide +kernel
theorem dX3_feel_11 : decode cX3_feel 11 = .ok (.goto 4, 3) := by decide +kernel
theorem dX3_feel_14 : decode cX3_feel 14 = .ok (.iconst 0, 1) := by decide +kernel
theorem dX3_feel_15 : decode cX3_feel 15 = .ok (.putfield 9, 3) := by decide +kernel
theorem dX3_feel_18 : decode cX3_feel 18 = .ok (.aload_n 0, 1) := by decide +kernel
theorem dX3_feel_19 : decode cX3_feel 19 = .ok (.getfield 9, 3) := by decide +kernel
theorem dX3_feel_22 : decode cX3_feel 22 = .ok (.iconst 5, 1) := by decide +kernel
theorem dX3_feel_23 : decode cX3_feel 23 = .ok (.if_icmp .ne 22, 3) := by decide +kernel
theorem dX3_feel_26 : decode cX3_feel 26 = .ok (.aload_n 0, 1) := by decide +kernel
theorem dX3_feel_27 : decode cX3_feel 27 = .ok (.iconst 0, 1) := by decide +kernel
theorem dX3_feel_28 : decode cX3_feel 28 = .ok (.putfield 9, 3) := by decide +kernel
theorem dX3_feel_31 : decode cX3_feel 31 = .ok (.aload_n 0, 1) := by decide +kernel
theorem dX3_feel_32 : decode cX3_feel 32 = .ok (.aload_n 0, 1) := by decide +kernel
theorem dX3_feel_33 : decode cX3_feel 33 = .ok (.getfield 15, 3) := by decide +kernel
theorem dX3_feel_36 : decode cX3_feel 36 = .ok (.iconst 1, 1) := by decide +kernel
theorem dX3_feel_37 : decode cX3_feel 37 = .ok (.iadd, 1) := by decide +kernel
theorem dX3_feel_38 : decode cX3_feel 38 = .ok (.iconst 4, 1) := by decide +kernel
theorem dX3_feel_39 : decode cX3_feel 39 = .ok (.invokestatic 18, 3) := by decide +kernel
theorem dX3_feel_42 : decode cX3_feel 42 = .ok (.putfield 15, 3) := by decide +kernel
theorem dX3_feel_45 : decode cX3_feel 45 = .ok (.return_, 1) := by decide +kernel
theorem dX3_repair_0 : decode cX3_repair 0 = .ok (.aload_n 0, 1) := by decide +kernel
theorem dX3_repair_1 : decode cX3_repair 1 = .ok (.dup, 1) := by decide +kernel
theorem dX3_repair_2 : decode cX3_repair 2 = .ok (.getfield 15, 3) := by decide +kernel
theorem dX3_repair_5 : decode cX3_repair 5 = .ok (.iconst 1, 1) := by decide +kernel
theorem dX3_repair_6 : decode cX3_repair 6 = .ok (.isub, 1) := by decide +kernel
theorem dX3_repair_7 : decode cX3_repair 7 = .ok (.putfield 15, 3) := by decide +kernel
theorem dX3_repair_10 : decode cX3_repair 10 = .ok (.aload_n 0, 1) := by decide +kernel
theorem dX3_repair_11 : decode cX3_repair 11 = .ok (.iconst 0, 1) := by decide +kernel
theorem dX3_repair_12 : decode cX3_repair 12 = .ok (.putfield 9, 3) := by decide +kernel
theorem dX3_repair_15 : decode cX3_repair 15 = .ok (.aload_n 0, 1) := by decide +kernel
theorem dX3_repair_16 : decode cX3_repair 16 = .ok (.getfield 15, 3) := by decide +kernel
theorem dX3_repair_19 : decode cX3_repair 19 = .ok (.ireturn, 1) := by decide +kernel
theorem dX4_init_0 : decode cX4_init 0 = .ok (.aload_n 0, 1) := by decide +kernel
theorem dX4_init_1 : decode cX4_init 1 = .ok (.invokespecial 3, 3) := by decide +kernel
theorem dX4_init_4 : decode cX4_init 4 = .ok (.aload_n 0, 1) := by decide +kernel
theorem dX4_init_5 : decode cX4_init 5 = .ok (.bipush 8, 2) := by decide +kernel
theorem dX4_init_7 : decode cX4_init 7 = .ok (.anewarray 9, 3) := by decide +kernel
theorem dX4_init_10 : decode cX4_init 10 = .ok (.putfield 11, 3) := by decide +kernel
theorem dX4_init_13 : decode cX4_init 13 = .ok (.iconst 0, 1) := by decide +kernel
theorem dX4_init_14 : decode cX4_init 14 = .ok (.istore_n 1, 1) := by decide +kernel
theorem dX4_init_15 : decode cX4_init 15 = .ok (.iload_n 1, 1) := by decide +kernel
theorem dX4_init_16 : decode cX4_init 16 = .ok (.bipush 8, 2) := by decide +kernel
theorem dX4_init_18 : decode cX4_init 18 = .ok (.if_icmp .ge 22, 3) := by decide +kernel
theorem dX4_init_21 : decode cX4_init 21 = .ok (.aload_n 0, 1) := by decide +kernel
theorem dX4_init_22 : decode cX4_init 22 = .ok (.getfield 11, 3) := by decide +kernel
theorem dX4_init_25 : decode cX4_init 25 = .ok (.iload_n 1, 1) := by decide +kernel
theorem dX4_init_26 : decode cX4_init 26 = .ok (.new 9, 3) := by decide +kernel
theorem dX4_init_29 : decode cX4_init 29 = .ok (.dup, 1) := by decide +kernel
theorem dX4_init_30 : decode cX4_init 30 = .ok (.invokespecial 17, 3) := by decide +kernel
theorem dX4_init_33 : decode cX4_init 33 = .ok (.aastore, 1) := by decide +kernel
theorem dX4_init_34 : decode cX4_init 34 = .ok (.iinc 1 1, 3) := by decide +kernel
theorem dX4_init_37 : decode cX4_init 37 = .ok (.goto (-22), 3) := by decide +kernel
theorem dX4_init_40 : decode cX4_init 40 = .ok (.return_, 1) := by decide +kernel
theorem dX4_keep_0 : decode cX4_keep 0 = .ok (.aload_n 0, 1) := by decide +kernel
theorem dX4_keep_1 : decode cX4_keep 1 = .ok (.getfield 11, 3) := by decide +kernel
theorem dX4_keep_4 : decode cX4_keep 4 = .ok (.aload_n 0, 1) := by decide +kernel
theorem dX4_keep_5 : decode cX4_keep 5 = .ok (.getfield 18, 3) := by decide +kernel
theorem dX4_keep_8 : decode cX4_keep 8 = .ok (.aload_n 0, 1) := by decide +kernel
theorem dX4_keep_9 : decode cX4_keep 9 = .ok (.getfield 22, 3) := by decide +kernel
theorem dX4_keep_12 : decode cX4_keep 12 = .ok (.iadd, 1) := by decide +kernel
theorem dX4_keep_13 : decode cX4_keep 13 = .ok (.bipush 8, 2) := by decide +kernel
theorem dX4_keep_15 : decode cX4_keep 15 = .ok (.irem, 1) := by decide +kernel
theorem dX4_keep_16 : decode cX4_keep 16 = .ok (.aaload, 1) := by decide +kernel
theorem dX4_keep_17 : decode cX4_keep 17 = .ok (.aload_n 1, 1) := by decide +kernel
theorem dX4_keep_18 : decode cX4_keep 18 = .ok (.invokevirtual 25, 3) := by decide +kernel
theorem dX4_keep_21 : decode cX4_keep 21 = .ok (.aload_n 0, 1) := by decide +kernel
theorem dX4_keep_22 : decode cX4_keep 22 = .ok (.getfield 22, 3) := by decide +kernel
theorem dX4_keep_25 : decode cX4_keep 25 = .ok (.bipush 8, 2) := by decide +kernel
theorem dX4_keep_27 : decode cX4_keep 27 = .ok (.if_icmp .ge 16, 3) := by decide +kernel
theorem dX4_keep_30 : decode cX4_keep 30 = .ok (.aload_n 0, 1) := by decide +kernel
theorem dX4_keep_31 : decode cX4_keep 31 = .ok (.dup, 1) := by decide +kernel
theorem dX4_keep_32 : decode cX4_keep 32 = .ok (.getfield 22, 3) := by decide +kernel
theorem dX4_keep_35 : decode cX4_keep 35 = .ok (.iconst 1, 1) := by decide +kernel
theorem dX4_keep_36 : decode cX4_keep 36 = .ok (.iadd, 1) := by decide +kernel
theorem dX4_keep_37 : decode cX4_keep 37 = .ok (.putfield 22, 3) := by decide +kernel
theorem dX4_keep_40 : decode cX4_keep 40 = .ok (.goto 16, 3) := by decide +kernel
theorem dX4_keep_43 : decode cX4_keep 43 = .ok (.aload_n 0, 1) := by decide +kernel
theorem dX4_keep_44 : decode cX4_keep 44 = .ok (.aload_n 0, 1) := by decide +kernel
theorem dX4_keep_45 : decode cX4_keep 45 = .ok (.getfield 18, 3) := by decide +kernel
theorem dX4_keep_48 : decode cX4_keep 48 = .ok (.iconst 1, 1) := by decide +kernel
theorem dX4_keep_49 : decode cX4_keep 49 = .ok (.iadd, 1) := by decide +kernel
theorem dX4_keep_50 : decode cX4_keep 50 = .ok (.bipush 8, 2) := by decide +kernel
theorem dX4_keep_52 : decode cX4_keep 52 = .ok (.irem, 1) := by decide +kernel
theorem dX4_keep_53 : decode cX4_keep 53 = .ok (.putfield 18, 3) := by decide +kernel
theorem dX4_keep_56 : decode cX4_keep 56 = .ok (.return_, 1) := by decide +kernel
theorem dX4_takeBack_0 : decode cX4_takeBack 0 = .ok (.aload_n 0, 1) := by decide +kernel
theorem dX4_takeBack_1 : decode cX4_takeBack 1 = .ok (.dup, 1) := by decide +kernel
theorem dX4_takeBack_2 : decode cX4_takeBack 2 = .ok (.getfield 22, 3) := by decide +kernel
theorem dX4_takeBack_5 : decode cX4_takeBack 5 = .ok (.iconst 1, 1) := by decide +kernel
theorem dX4_takeBack_6 : decode cX4_takeBack 6 = .ok (.isub, 1) := by decide +kernel
theorem dX4_takeBack_7 : decode cX4_takeBack 7 = .ok (.putfield 22, 3) := by decide +kernel
theorem dX4_takeBack_10 : decode cX4_takeBack 10 = .ok (.aload_n 1, 1) := by decide +kernel
theorem dX4_takeBack_11 : decode cX4_takeBack 11 = .ok (.aload_n 0, 1) := by decide +kernel
theorem dX4_takeBack_12 : decode cX4_takeBack 12 = .ok (.getfield 11, 3) := by decide +kernel
theorem dX4_takeBack_15 : decode cX4_takeBack 15 = .ok (.aload_n 0, 1) := by decide +kernel
theorem dX4_takeBack_16 : decode cX4_takeBack 16 = .ok (.getfield 18, 3) := by decide +kernel
theorem dX4_takeBack_19 : decode cX4_takeBack 19 = .ok (.aload_n 0, 1) := by decide +kernel
theorem dX4_takeBack_20 : decode cX4_takeBack 20 = .ok (.getfield 22, 3) := by decide +kernel
theorem dX4_takeBack_23 : decode cX4_takeBack 23 = .ok (.iadd, 1) := by decide +kernel
theorem dX4_takeBack_24 : decode cX4_takeBack 24 = .ok (.bipush 8, 2) := by decide +kernel
theorem dX4_takeBack_26 : decode cX4_takeBack 26 = .ok (.irem, 1) := by decide +kernel
theorem dX4_takeBack_27 : decode cX4_takeBack 27 = .ok (.aaload, 1) := by decide +kernel
theorem dX4_takeBack_28 : decode cX4_takeBack 28 = .ok (.invokevirtual 25, 3) := by decide +kernel
theorem dX4_takeBack_31 : decode cX4_takeBack 31 = .ok (.return_, 1) := by decide +kernel
theorem dX4_forget_0 : decode cX4_forget 0 = .ok (.aload_n 0, 1) := by decide +kernel
theorem dX4_forget_1 : decode cX4_forget 1 = .ok (.iconst 0, 1) := by decide +kernel
theorem dX4_forget_2 : decode cX4_forget 2 = .ok (.putfield 22, 3) := by decide +kernel
theorem dX4_forget_5 : decode cX4_forget 5 = .ok (.return_, 1) := by decide +kernel
theorem dX5_init_0 : decode cX5_init 0 = .ok (.aload_n 0, 1) := by decide +kernel
theorem dX5_init_1 : decode cX5_init 1 = .ok (.invokespecial 3, 3) := by decide +kernel
theorem dX5_init_4 : decode cX5_init 4 = .ok (.return_, 1) := by decide +kernel
theorem dX5_verdictOn_0 : decode cX5_verdictOn 0 = .ok (.aload_n 1, 1) := by decide +kernel
theorem dX5_verdictOn_1 : decode cX5_verdictOn 1 = .ok (.getfield 9, 3) := by decide +kernel
theorem dX5_verdictOn_4 : decode cX5_verdictOn 4 = .ok (.istore_n 3, 1) := by decide +kernel
theorem dX5_verdictOn_5 : decode cX5_verdictOn 5 = .ok (.aload_n 1, 1) := by decide +kernel
theorem dX5_verdictOn_6 : decode cX5_verdictOn 6 = .ok (.getfield 15, 3) := by decide +kernel
theorem dX5_verdictOn_9 : decode cX5_verdictOn 9 = .ok (.istore 4, 2) := by decide +kernel
theorem dX5_verdictOn_11 : decode cX5_verdictOn 11 = .ok (.getstatic 18, 3) := by decide +kernel
theorem dX5_verdictOn_14 : decode cX5_verdictOn 14 = .ok (.aload_n 1, 1) := by decide +kernel
theorem dX5_verdictOn_15 : decode cX5_verdictOn 15 = .ok (.getfield 24, 3) := by decide +kernel
theorem dX5_verdictOn_18 : decode cX5_verdictOn 18 = .ok (.invokevirtual 28, 3) := by decide +kernel
theorem dX5_verdictOn_21 : decode cX5_verdictOn 21 = .ok (.iaload, 1) := by decide +kernel
theorem dX5_verdictOn_22 : decode cX5_verdictOn 22 = .ok (.tableswitch 153 1 9 #[50, 66, 76, 86, 98, 105, 115, 127, 140], 50) := by decide +kernel
theorem dX5_verdictOn_72 : decode cX5_verdictOn 72 = .ok (.aload_n 0, 1) := by decide +kernel
theorem dX5_verdictOn_73 : decode cX5_verdictOn 73 = .ok (.aload_n 2, 1) := by decide +kernel
theorem dX5_verdictOn_74 : decode cX5_verdictOn 74 = .ok (.getfield 34, 3) := by decide +kernel
theorem dX5_verdictOn_77 : decode cX5_verdictOn 77 = .ok (.iload_n 3, 1) := by decide +kernel
theorem dX5_verdictOn_78 : decode cX5_verdictOn 78 = .ok (.iload 4, 2) := by decide +kernel
theorem dX5_verdictOn_80 : decode cX5_verdictOn 80 = .ok (.aload_n 1, 1) := by decide +kernel
theorem dX5_verdictOn_81 : decode cX5_verdictOn 81 = .ok (.getfield 40, 3) := by decide +kernel
theorem dX5_verdictOn_84 : decode cX5_verdictOn 84 = .ok (.invokevirtual 43, 3) := by decide +kernel
theorem dX5_verdictOn_87 : decode cX5_verdictOn 87 = .ok (.ireturn, 1) := by decide +kernel
theorem dX5_verdictOn_88 : decode cX5_verdictOn 88 = .ok (.aload_n 0, 1) := by decide +kernel
theorem dX5_verdictOn_89 : decode cX5_verdictOn 89 = .ok (.aload_n 2, 1) := by decide +kernel
theorem dX5_verdictOn_90 : decode cX5_verdictOn 90 = .ok (.getfield 34, 3) := by decide +kernel
theorem dX5_verdictOn_93 : decode cX5_verdictOn 93 = .ok (.iload_n 3, 1) := by decide +kernel
theorem dX5_verdictOn_94 : decode cX5_verdictOn 94 = .ok (.invokevirtual 49, 3) := by decide +kernel
theorem dX5_verdictOn_97 : decode cX5_verdictOn 97 = .ok (.ireturn, 1) := by decide +kernel
theorem dX5_verdictOn_98 : decode cX5_verdictOn 98 = .ok (.aload_n 0, 1) := by decide +kernel
theorem dX5_verdictOn_99 : decode cX5_verdictOn 99 = .ok (.aload_n 2, 1) := by decide +kernel
theorem dX5_verdictOn_100 : decode cX5_verdictOn 100 = .ok (.getfield 34, 3) := by decide +kernel
theorem dX5_verdictOn_103 : decode cX5_verdictOn 103 = .ok (.iload_n 3, 1) := by decide +kernel
theorem dX5_verdictOn_104 : decode cX5_verdictOn 104 = .ok (.invokevirtual 53, 3) := by decide +kernel
theorem dX5_verdictOn_107 : decode cX5_verdictOn 107 = .ok (.ireturn, 1) := by decide +kernel
theorem dX5_verdictOn_108 : decode cX5_verdictOn 108 = .ok (.aload_n 0, 1) := by decide +kernel
theorem dX5_verdictOn_109 : decode cX5_verdictOn 109 = .ok (.aload_n 2, 1) := by decide +kernel
theorem dX5_verdictOn_110 : decode cX5_verdictOn 110 = .ok (.getfield 34, 3) := by decide +kernel
theorem dX5_verdictOn_113 : decode cX5_verdictOn 113 = .ok (.iload_n 3, 1) := by decide +kernel
theorem dX5_verdictOn_114 : decode cX5_verdictOn 114 = .ok (.iload 4, 2) := by decide +kernel
theorem dX5_verdictOn_116 : decode cX5_verdictOn 116 = .ok (.invokevirtual 56, 3) := by decide +kernel
theorem dX5_verdictOn_119 : decode cX5_verdictOn 119 = .ok (.ireturn, 1) := by decide +kernel
theorem dX5_verdictOn_120 : decode cX5_verdictOn 120 = .ok (.aload_n 0, 1) := by decide +kernel
theorem dX5_verdictOn_121 : decode cX5_verdictOn 121 = .ok (.aload_n 2, 1) := by decide +kernel
theorem dX5_verdictOn_122 : decode cX5_verdictOn 122 = .ok (.iload_n 3, 1) := by decide +kernel
theorem dX5_verdictOn_123 : decode cX5_verdictOn 123 = .ok (.invokevirtual 60, 3) := by decide +kernel
theorem dX5_verdictOn_126 : decode cX5_verdictOn 126 = .ok (.ireturn, 1) := by decide +kernel
theorem dX5_verdictOn_127 : decode cX5_verdictOn 127 = .ok (.aload_n 0, 1) := by decide +kernel
theorem dX5_verdictOn_128 : decode cX5_verdictOn 128 = .ok (.aload_n 2, 1) := by decide +kernel
theorem dX5_verdictOn_129 : decode cX5_verdictOn 129 = .ok (.getfield 64, 3) := by decide +kernel
theorem dX5_verdictOn_132 : decode cX5_verdictOn 132 = .ok (.iload_n 3, 1) := by decide +kernel
theorem dX5_verdictOn_133 : decode cX5_verdictOn 133 = .ok (.invokevirtual 68, 3) := by decide +kernel
theorem dX5_verdictOn_136 : decode cX5_verdictOn 136 = .ok (.ireturn, 1) := by decide +kernel
theorem dX5_verdictOn_137 : decode cX5_verdictOn 137 = .ok (.aload_n 0, 1) := by decide +kernel
theorem dX5_verdictOn_138 : decode cX5_verdictOn 138 = .ok (.aload_n 2, 1) := by decide +kernel
theorem dX5_verdictOn_139 : decode cX5_verdictOn 139 = .ok (.getfield 64, 3) := by decide +kernel
theorem dX5_verdictOn_142 : decode cX5_verdictOn 142 = .ok (.iload_n 3, 1) := by decide +kernel
theorem dX5_verdictOn_143 : decode cX5_verdictOn 143 = .ok (.iload 4, 2) := by decide +kernel
theorem dX5_verdictOn_145 : decode cX5_verdictOn 145 = .ok (.invokevirtual 72, 3) := by decide +kernel
theorem dX5_verdictOn_148 : decode cX5_verdictOn 148 = .ok (.ireturn, 1) := by decide +kernel
theorem dX5_verdictOn_149 : decode cX5_verdictOn 149 = .ok (.aload_n 0, 1) := by decide +kernel
theorem dX5_verdictOn_150 : decode cX5_verdictOn 150 = .ok (.aload_n 2, 1) := by decide +kernel
theorem dX5_verdictOn_151 : decode cX5_verdictOn 151 = .ok (.getfield 64, 3) := by decide +kernel
theorem dX5_verdictOn_154 : decode cX5_verdictOn 154 = .ok (.iload_n 3, 1) := by decide +kernel
theorem dX5_verdictOn_155 : decode cX5_verdictOn 155 = .ok (.iload 4, 2) := by decide +kernel
theorem dX5_verdictOn_157 : decode cX5_verdictOn 157 = .ok (.iconst 1, 1) := by decide +kernel
theorem dX5_verdictOn_158 : decode cX5_verdictOn 158 = .ok (.invokevirtual 76, 3) := by decide +kernel
theorem dX5_verdictOn_161 : decode cX5_verdictOn 161 = .ok (.ireturn, 1) := by decide +kernel
theorem dX5_verdictOn_162 : decode cX5_verdictOn 162 = .ok (.aload_n 0, 1) := by decide +kernel
theorem dX5_verdictOn_163 : decode cX5_verdictOn 163 = .ok (.aload_n 2, 1) := by decide +kernel
theorem dX5_verdictOn_164 : decode cX5_verdictOn 164 = .ok (.getfield 64, 3) := by decide +kernel
theorem dX5_verdictOn_167 : decode cX5_verdictOn 167 = .ok (.iload_n 3, 1) := by decide +kernel
theorem dX5_verdictOn_168 : decode cX5_verdictOn 168 = .ok (.iload 4, 2) := by decide +kernel
theorem dX5_verdictOn_170 : decode cX5_verdictOn 170 = .ok (.iconst 0, 1) := by decide +kernel
theorem dX5_verdictOn_171 : decode cX5_verdictOn 171 = .ok (.invokevirtual 76, 3) := by decide +kernel
theorem dX5_verdictOn_174 : decode cX5_verdictOn 174 = .ok (.ireturn, 1) := by decide +kernel
theorem dX5_verdictOn_175 : decode cX5_verdictOn 175 = .ok (.aload_n 0, 1) := by decide +kernel
theorem dX5_verdictOn_176 : decode cX5_verdictOn 176 = .ok (.aload_n 2, 1) := by decide +kernel
theorem dX5_verdictOn_177 : decode cX5_verdictOn 177 = .ok (.iload_n 3, 1) := by decide +kernel
theorem dX5_verdictOn_178 : decode cX5_verdictOn 178 = .ok (.invokevirtual 80, 3) := by decide +kernel
theorem dX5_verdictOn_181 : decode cX5_verdictOn 181 = .ok (.ireturn, 1) := by decide +kernel
theorem dX5_onNewWick_0 : decode cX5_onNewWick 0 = .ok (.iload_n 2, 1) := by decide +kernel
theorem dX5_onNewWick_1 : decode cX5_onNewWick 1 = .ok (.ifCond .lt 32, 3) := by decide +kernel
theorem dX5_onNewWick_4 : decode cX5_onNewWick 4 = .ok (.iload_n 2, 1) := by decide +kernel
theorem dX5_onNewWick_5 : decode cX5_onNewWick 5 = .ok (.bipush 7, 2) := by decide +kernel
theorem dX5_onNewWick_7 : decode cX5_onNewWick 7 = .ok (.if_icmp .gt 26, 3) := by decide +kernel
theorem dX5_onNewWick_10 : decode cX5_onNewWick 10 = .ok (.iload_n 3, 1) := by decide +kernel
theorem dX5_onNewWick_11 : decode cX5_onNewWick 11 = .ok (.iconst 1, 1) := by decide +kernel
theorem dX5_onNewWick_12 : decode cX5_onNewWick 12 = .ok (.if_icmp .lt 21, 3) := by decide +kernel
theorem dX5_onNewWick_15 : decode cX5_onNewWick 15 = .ok (.iload_n 3, 1) := by decide +kernel
theorem dX5_onNewWick_16 : decode cX5_onNewWick 16 = .ok (.ldc 83, 2) := by decide +kernel
theorem dX5_onNewWick_18 : decode cX5_onNewWick 18 = .ok (.if_icmp .gt 15, 3) := by decide +kernel
theorem dX5_onNewWick_21 : decode cX5_onNewWick 21 = .ok (.iload 4, 2) := by decide +kernel
theorem dX5_onNewWick_23 : decode cX5_onNewWick 23 = .ok (.ifCond .lt 10, 3) := by decide +kernel
theorem dX5_onNewWick_26 : decode cX5_onNewWick 26 = .ok (.iload 4, 2) := by decide +kernel
theorem dX5_onNewWick_28 : decode cX5_onNewWick 28 = .ok (.bipush 99, 2) := by decide +kernel
theorem dX5_onNewWick_30 : decode cX5_onNewWick 30 = .ok (.if_icmp .le 6, 3) := by decide +kernel
theorem dX5_onNewWick_33 : decode cX5_onNewWick 33 = .ok (.bipush 9, 2) := by decide +kernel
theorem dX5_onNewWick_35 : decode cX5_onNewWick 35 = .ok (.ireturn, 1) := by decide +kernel
theorem dX5_onNewWick_36 : decode cX5_onNewWick 36 = .ok (.aload_n 1, 1) := by decide +kernel
theorem dX5_onNewWick_37 : decode cX5_onNewWick 37 = .ok (.getfield 84, 3) := by decide +kernel
theorem dX5_onNewWick_40 : decode cX5_onNewWick 40 = .ok (.bipush 8, 2) := by decide +kernel
theorem dX5_onNewWick_42 : decode cX5_onNewWick 42 = .ok (.if_icmp .lt 13, 3) := by decide +kernel
theorem dX5_onNewWick_45 : decode cX5_onNewWick 45 = .ok (.aload_n 0, 1) := by decide +kernel
theorem dX5_onNewWick_46 : decode cX5_onNewWick 46 = .ok (.iconst 1, 1) := by decide +kernel
theorem dX5_onNewWick_47 : decode cX5_onNewWick 47 = .ok (.bipush 8, 2) := by decide +kernel
theorem dX5_onNewWick_49 : decode cX5_onNewWick 49 = .ok (.invokevirtual 89, 3) := by decide +kernel
theorem dX5_onNewWick_52 : decode cX5_onNewWick 52 = .ok (.goto 4, 3) := by decide +kernel
theorem dX5_onNewWick_55 : decode cX5_onNewWick 55 = .ok (.iconst 0, 1) := by decide +kernel
theorem dX5_onNewWick_56 : decode cX5_onNewWick 56 = .ok (.ireturn, 1) := by decide +kernel
theorem dX5_onLighting_0 : decode cX5_onLighting 0 = .ok (.aload_n 1, 1) := by decide +kernel
theorem dX5_onLighting_1 : decode cX5_onLighting 1 = .ok (.iload_n 2, 1) := by decide +kernel
theorem dX5_onLighting_2 : decode cX5_onLighting 2 = .ok (.invokevirtual 93, 3) := by decide +kernel
theorem dX5_onLighting_5 : decode cX5_onLighting 5 = .ok (.ifCond .ne 6, 3) := by decide +kernel
theorem dX5_onLighting_8 : decode cX5_onLighting 8 = .ok (.bipush 10, 2) := by decide +kernel
theorem dX5_onLighting_10 : decode cX5_onLighting 10 = .ok (.ireturn, 1) := by decide +kernel
theorem dX5_onLighting_11 : decode cX5_onLighting 11 = .ok (.aload_n 1, 1) := by decide +kernel
theorem dX5_onLighting_12 : decode cX5_onLighting 12 = .ok (.getfield 97, 3) := by decide +kernel
theorem dX5_onLighting_15 : decode cX5_onLighting 15 = .ok (.iload_n 2, 1) := by decide +kernel
theorem dX5_onLighting_16 : decode cX5_onLighting 16 = .ok (.baload, 1) := by decide +kernel
theorem dX5_onLighting_17 : decode cX5_onLighting 17 = .ok (.ifCond .eq 10, 3) := by decide +kernel
theorem dX5_onLighting_20 : decode cX5_onLighting 20 = .ok (.aload_n 0, 1) := by decide +kernel
theorem dX5_onLighting_21 : decode cX5_onLighting 21 = .ok (.iconst 5, 1) := by decide +kernel
theorem dX5_onLighting_22 : decode cX5_onLighting 22 = .ok (.iconst 1, 1) := by decide +kernel
theorem dX5_onLighting_23 : decode cX5_onLighting 23 = .ok (.invokevirtual 89, 3) := by decide +kernel
theorem dX5_onLighting_26 : decode cX5_onLighting 26 = .ok (.ireturn, 1) := by decide +kernel
theorem dX5_onLighting_27 : decode cX5_onLighting 27 = .ok (.aload_n 1, 1) := by decide +kernel
theorem dX5_onLighting_28 : decode cX5_onLighting 28 = .ok (.getfield 101, 3) := by decide +kernel
theorem dX5_onLighting_31 : decode cX5_onLighting 31 = .ok (.iload_n 2, 1) := by decide +kernel
theorem dX5_onLighting_32 : decode cX5_onLighting 32 = .ok (.iaload, 1) := by decide +kernel
theorem dX5_onLighting_33 : decode cX5_onLighting 33 = .ok (.ifCond .ne 13, 3) := by decide +kernel
theorem dX5_onLighting_36 : decode cX5_onLighting 36 = .ok (.aload_n 0, 1) := by decide +kernel
theorem dX5_onLighting_37 : decode cX5_onLighting 37 = .ok (.bipush 6, 2) := by decide +kernel
theorem dX5_onLighting_39 : decode cX5_onLighting 39 = .ok (.iload_n 2, 1) := by decide +kernel
theorem dX5_onLighting_40 : decode cX5_onLighting 40 = .ok (.invokevirtual 89, 3) := by decide +kernel
theorem dX5_onLighting_43 : decode cX5_onLighting 43 = .ok (.goto 4, 3) := by decide +kernel
theorem dX5_onLighting_46 : decode cX5_onLighting 46 = .ok (.iconst 0, 1) := by decide +kernel
theorem dX5_onLighting_47 : decode cX5_onLighting 47 = .ok (.ireturn, 1) := by decide +kernel
theorem dX5_onSnuffing_0 : decode cX5_onSnuffing 0 = .ok (.aload_n 1, 1) := by decide +kernel
theorem dX5_onSnuffing_1 : decode cX5_onSnuffing 1 = .ok (.iload_n 2, 1) := by decide +kernel
theorem dX5_onSnuffing_2 : decode cX5_onSnuffing 2 = .ok (.invokevirtual 93, 3) := by decide +kernel
theorem dX5_onSnuffing_5 : decode cX5_onSnuffing 5 = .ok (.ifCond .ne 6, 3) := by decide +kernel
theorem dX5_onSnuffing_8 : decode cX5_onSnuffing 8 = .ok (.bipush 10, 2) := by decide +kernel
theorem dX5_onSnuffing_10 : decode cX5_onSnuffing 10 = .ok (.ireturn, 1) := by decide +kernel
theorem dX5_onSnuffing_11 : decode cX5_onSnuffing 11 = .ok (.aload_n 1, 1) := by decide +kernel
theorem dX5_onSnuffing_12 : decode cX5_onSnuffing 12 = .ok (.getfield 97, 3) := by decide +kernel
theorem dX5_onSnuffing_15 : decode cX5_onSnuffing 15 = .ok (.iload_n 2, 1) := by decide +kernel
theorem dX5_onSnuffing_16 : decode cX5_onSnuffing 16 = .ok (.baload, 1) := by decide +kernel
theorem dX5_onSnuffing_17 : decode cX5_onSnuffing 17 = .ok (.ifCond .eq 7, 3) := by decide +kernel
theorem dX5_onSnuffing_20 : decode cX5_onSnuffing 20 = .ok (.iconst 0, 1) := by decide +kernel
theorem dX5_onSnuffing_21 : decode cX5_onSnuffing 21 = .ok (.goto 9, 3) := by decide +kernel
theorem dX5_onSnuffing_24 : decode cX5_onSnuffing 24 = .ok (.aload_n 0, 1) := by decide +kernel
theorem dX5_onSnuffing_25 : decode cX5_onSnuffing 25 = .ok (.iconst 5, 1) := by decide +kernel
theorem dX5_onSnuffing_26 : decode cX5_onSnuffing 26 = .ok (.iconst 0, 1) := by decide +kernel
theorem dX5_onSnuffing_27 : decode cX5_onSnuffing 27 = .ok (.invokevirtual 89, 3) := by decide +kernel
theorem dX5_onSnuffing_30 : decode cX5_onSnuffing 30 = .ok (.ireturn, 1) := by decide +kernel
theorem dX5_onMoreWax_0 : decode cX5_onMoreWax 0 = .ok (.aload_n 1, 1) := by decide +kernel
theorem dX5_onMoreWax_1 : decode cX5_onMoreWax 1 = .ok (.iload_n 2, 1) := by decide +kernel
theorem dX5_onMoreWax_2 : decode cX5_onMoreWax 2 = .ok (.invokevirtual 93, 3) := by decide +kernel
theorem dX5_onMoreWax_5 : decode cX5_onMoreWax 5 = .ok (.ifCond .ne 6, 3) := by decide +kernel
theorem dX5_onMoreWax_8 : decode cX5_onMoreWax 8 = .ok (.bipush 10, 2) := by decide +kernel
theorem dX5_onMoreWax_10 : decode cX5_onMoreWax 10 = .ok (.ireturn, 1) := by decide +kernel
theorem dX5_onMoreWax_11 : decode cX5_onMoreWax 11 = .ok (.iload_n 3, 1) := by decide +kernel
theorem dX5_onMoreWax_12 : decode cX5_onMoreWax 12 = .ok (.iconst 1, 1) := by decide +kernel
theorem dX5_onMoreWax_13 : decode cX5_onMoreWax 13 = .ok (.if_icmp .lt 9, 3) := by decide +kernel
theorem dX5_onMoreWax_16 : decode cX5_onMoreWax 16 = .ok (.iload_n 3, 1) := by decide +kernel
theorem dX5_onMoreWax_17 : decode cX5_onMoreWax 17 = .ok (.bipush 50, 2) := by decide +kernel
theorem dX5_onMoreWax_19 : decode cX5_onMoreWax 19 = .ok (.if_icmp .le 6, 3) := by decide +kernel
theorem dX5_onMoreWax_22 : decode cX5_onMoreWax 22 = .ok (.bipush 9, 2) := by decide +kernel
theorem dX5_onMoreWax_24 : decode cX5_onMoreWax 24 = .ok (.ireturn, 1) := by decide +kernel
theorem dX5_onMoreWax_25 : decode cX5_onMoreWax 25 = .ok (.aload_n 1, 1) := by decide +kernel
theorem dX5_onMoreWax_26 : decode cX5_onMoreWax 26 = .ok (.getfield 101, 3) := by decide +kernel
theorem dX5_onMoreWax_29 : decode cX5_onMoreWax 29 = .ok (.iload_n 2, 1) := by decide +kernel
theorem dX5_onMoreWax_30 : decode cX5_onMoreWax 30 = .ok (.iaload, 1) := by decide +kernel
theorem dX5_onMoreWax_31 : decode cX5_onMoreWax 31 = .ok (.iload_n 3, 1) := by decide +kernel
theorem dX5_onMoreWax_32 : decode cX5_onMoreWax 32 = .ok (.iadd, 1) := by decide +kernel
theorem dX5_onMoreWax_33 : decode cX5_onMoreWax 33 = .ok (.bipush 99, 2) := by decide +kernel
theorem dX5_onMoreWax_35 : decode cX5_onMoreWax 35 = .ok (.if_icmp .le 13, 3) := by decide +kernel
theorem dX5_onMoreWax_38 : decode cX5_onMoreWax 38 = .ok (.aload_n 0, 1) := by decide +kernel
theorem dX5_onMoreWax_39 : decode cX5_onMoreWax 39 = .ok (.iconst 1, 1) := by decide +kernel
theorem dX5_onMoreWax_40 : decode cX5_onMoreWax 40 = .ok (.bipush 99, 2) := by decide +kernel
theorem dX5_onMoreWax_42 : decode cX5_onMoreWax 42 = .ok (.invokevirtual 89, 3) := by decide +kernel
theorem dX5_onMoreWax_45 : decode cX5_onMoreWax 45 = .ok (.goto 4, 3) := by decide +kernel
theorem dX5_onMoreWax_48 : decode cX5_onMoreWax 48 = .ok (.iconst 0, 1) := by decide +kernel
theorem dX5_onMoreWax_49 : decode cX5_onMoreWax 49 = .ok (.ireturn, 1) := by decide +kernel
theorem dX5_onWeaving_0 : decode cX5_onWeaving 0 = .ok (.iload_n 2, 1) := by decide +kernel
theorem dX5_onWeaving_1 : decode cX5_onWeaving 1 = .ok (.iconst 1, 1) := by decide +kernel
theorem dX5_onWeaving_2 : decode cX5_onWeaving 2 = .ok (.if_icmp .lt 9, 3) := by decide +kernel
theorem dX5_onWeaving_5 : decode cX5_onWeaving 5 = .ok (.iload_n 2, 1) := by decide +kernel
theorem dX5_onWeaving_6 : decode cX5_onWeaving 6 = .ok (.bipush 10, 2) := by decide +kernel
theorem dX5_onWeaving_8 : decode cX5_onWeaving 8 = .ok (.if_icmp .le 6, 3) := by decide +kernel
theorem dX5_onWeaving_11 : decode cX5_onWeaving 11 = .ok (.bipush 9, 2) := by decide +kernel
theorem dX5_onWeaving_13 : decode cX5_onWeaving 13 = .ok (.ireturn, 1) := by decide +kernel
theorem dX5_onWeaving_14 : decode cX5_onWeaving 14 = .ok (.aload_n 1, 1) := by decide +kernel
theorem dX5_onWeaving_15 : decode cX5_onWeaving 15 = .ok (.getfield 34, 3) := by decide +kernel
theorem dX5_onWeaving_18 : decode cX5_onWeaving 18 = .ok (.invokevirtual 104, 3) := by decide +kernel
theorem dX5_onWeaving_21 : decode cX5_onWeaving 21 = .ok (.ifCond .ne 16, 3) := by decide +kernel
theorem dX5_onWeaving_24 : decode cX5_onWeaving 24 = .ok (.aload_n 0, 1) := by decide +kernel
theorem dX5_onWeaving_25 : decode cX5_onWeaving 25 = .ok (.iconst 2, 1) := by decide +kernel
theorem dX5_onWeaving_26 : decode cX5_onWeaving 26 = .ok (.aload_n 1, 1) := by decide +kernel
theorem dX5_onWeaving_27 : decode cX5_onWeaving 27 = .ok (.getfield 34, 3) := by decide +kernel
theorem dX5_onWeaving_30 : decode cX5_onWeaving 30 = .ok (.getfield 84, 3) := by decide +kernel
theorem dX5_onWeaving_33 : decode cX5_onWeaving 33 = .ok (.invokevirtual 89, 3) := by decide +kernel
theorem dX5_onWeaving_36 : decode cX5_onWeaving 36 = .ok (.ireturn, 1) := by decide +kernel
theorem dX5_onWeaving_37 : decode cX5_onWeaving 37 = .ok (.aload_n 1, 1) := by decide +kernel
theorem dX5_onWeaving_38 : decode cX5_onWeaving 38 = .ok (.getfield 64, 3) := by decide +kernel
theorem dX5_onWeaving_41 : decode cX5_onWeaving 41 = .ok (.getfield 107, 3) := by decide +kernel
theorem dX5_onWeaving_44 : decode cX5_onWeaving 44 = .ok (.iload_n 2, 1) := by decide +kernel
theorem dX5_onWeaving_45 : decode cX5_onWeaving 45 = .ok (.iadd, 1) := by decide +kernel
theorem dX5_onWeaving_46 : decode cX5_onWeaving 46 = .ok (.bipush 40, 2) := by decide +kernel
theorem dX5_onWeaving_48 : decode cX5_onWeaving 48 = .ok (.if_icmp .le 13, 3) := by decide +kernel
theorem dX5_onWeaving_51 : decode cX5_onWeaving 51 = .ok (.aload_n 0, 1) := by decide +kernel
theorem dX5_onWeaving_52 : decode cX5_onWeaving 52 = .ok (.iconst 1, 1) := by decide +kernel
theorem dX5_onWeaving_53 : decode cX5_onWeaving 53 = .ok (.bipush 40, 2) := by decide +kernel
theorem dX5_onWeaving_55 : decode cX5_onWeaving 55 = .ok (.invokevirtual 89, 3) := by decide +kernel
theorem dX5_onWeaving_58 : decode cX5_onWeaving 58 = .ok (.goto 4, 3) := by decide +kernel
theorem dX5_onWeaving_61 : decode cX5_onWeaving 61 = .ok (.iconst 0, 1) := by decide +kernel
theorem dX5_onWeaving_62 : decode cX5_onWeaving 62 = .ok (.ireturn, 1) := by decide +kernel
theorem dX5_onRavelling_0 : decode cX5_onRavelling 0 = .ok (.iload_n 2, 1) := by decide +kernel
theorem dX5_onRavelling_1 : decode cX5_onRavelling 1 = .ok (.iconst 1, 1) := by decide +kernel
theorem dX5_onRavelling_2 : decode cX5_onRavelling 2 = .ok (.if_icmp .lt 9, 3) := by decide +kernel
theorem dX5_onRavelling_5 : decode cX5_onRavelling 5 = .ok (.iload_n 2, 1) := by decide +kernel
theorem dX5_onRavelling_6 : decode cX5_onRavelling 6 = .ok (.bipush 10, 2) := by decide +kernel
theorem dX5_onRavelling_8 : decode cX5_onRavelling 8 = .ok (.if_icmp .le 6, 3) := by decide +kernel
theorem dX5_onRavelling_11 : decode cX5_onRavelling 11 = .ok (.bipush 9, 2) := by decide +kernel
theorem dX5_onRavelling_13 : decode cX5_onRavelling 13 = .ok (.ireturn, 1) := by decide +kernel
theorem dX5_onRavelling_14 : decode cX5_onRavelling 14 = .ok (.iload_n 2, 1) := by decide +kernel
theorem dX5_onRavelling_15 : decode cX5_onRavelling 15 = .ok (.aload_n 1, 1) := by decide +kernel
theorem dX5_onRavelling_16 : decode cX5_onRavelling 16 = .ok (.getfield 107, 3) := by decide +kernel
theorem dX5_onRavelling_19 : decode cX5_onRavelling 19 = .ok (.if_icmp .le 13, 3) := by decide +kernel
theorem dX5_onRavelling_22 : decode cX5_onRavelling 22 = .ok (.aload_n 0, 1) := by decide +kernel
theorem dX5_onRavelling_23 : decode cX5_onRavelling 23 = .ok (.iconst 4, 1) := by decide +kernel
theorem dX5_onRavelling_24 : decode cX5_onRavelling 24 = .ok (.aload_n 1, 1) := by decide +kernel
theorem dX5_onRavelling_25 : decode cX5_onRavelling 25 = .ok (.getfield 107, 3) := by decide +kernel
theorem dX5_onRavelling_28 : decode cX5_onRavelling 28 = .ok (.invokevirtual 89, 3) := by decide +kernel
theorem dX5_onRavelling_31 : decode cX5_onRavelling 31 = .ok (.ireturn, 1) := by decide +kernel
theorem dX5_onRavelling_32 : decode cX5_onRavelling 32 = .ok (.aload_n 1, 1) := by decide +kernel
theorem dX5_onRavelling_33 : decode cX5_onRavelling 33 = .ok (.invokevirtual 110, 3) := by decide +kernel
theorem dX5_onRavelling_36 : decode cX5_onRavelling 36 = .ok (.istore_n 3, 1) := by decide +kernel
theorem dX5_onRavelling_37 : decode cX5_onRavelling 37 = .ok (.iload_n 3, 1) := by decide +kernel
theorem dX5_onRavelling_38 : decode cX5_onRavelling 38 = .ok (.aload_n 1, 1) := by decide +kernel
theorem dX5_onRavelling_39 : decode cX5_onRavelling 39 = .ok (.getfield 107, 3) := by decide +kernel
theorem dX5_onRavelling_42 : decode cX5_onRavelling 42 = .ok (.iload_n 2, 1) := by decide +kernel
theorem dX5_onRavelling_43 : decode cX5_onRavelling 43 = .ok (.isub, 1) := by decide +kernel
theorem dX5_onRavelling_44 : decode cX5_onRavelling 44 = .ok (.if_icmp .lt 12, 3) := by decide +kernel
theorem dX5_onRavelling_47 : decode cX5_onRavelling 47 = .ok (.aload_n 0, 1) := by decide +kernel
theorem dX5_onRavelling_48 : decode cX5_onRavelling 48 = .ok (.iconst 3, 1) := by decide +kernel
theorem dX5_onRavelling_49 : decode cX5_onRavelling 49 = .ok (.iload_n 3, 1) := by decide +kernel
theorem dX5_onRavelling_50 : decode cX5_onRavelling 50 = .ok (.invokevirtual 89, 3) := by decide +kernel
theorem dX5_onRavelling_53 : decode cX5_onRavelling 53 = .ok (.goto 4, 3) := by decide +kernel
theorem dX5_onRavelling_56 : decode cX5_onRavelling 56 = .ok (.iconst 0, 1) := by decide +kernel
theorem dX5_onRavelling_57 : decode cX5_onRavelling 57 = .ok (.ireturn, 1) := by decide +kernel
theorem dX5_onRepeating_0 : decode cX5_onRepeating 0 = .ok (.iload_n 2, 1) := by decide +kernel
theorem dX5_onRepeating_1 : decode cX5_onRepeating 1 = .ok (.iconst 1, 1) := by decide +kernel
theorem dX5_onRepeating_2 : decode cX5_onRepeating 2 = .ok (.if_icmp .lt 20, 3) := by decide +kernel
theorem dX5_onRepeating_5 : decode cX5_onRepeating 5 = .ok (.iload_n 2, 1) := by decide +kernel
theorem dX5_onRepeating_6 : decode cX5_onRepeating 6 = .ok (.bipush 20, 2) := by decide +kernel
theorem dX5_onRepeating_8 : decode cX5_onRepeating 8 = .ok (.if_icmp .gt 14, 3) := by decide +kernel
theorem dX5_onRepeating_11 : decode cX5_onRepeating 11 = .ok (.iload_n 3, 1) := by decide +kernel
theorem dX5_onRepeating_12 : decode cX5_onRepeating 12 = .ok (.iconst 1, 1) := by decide +kernel
theorem dX5_onRepeating_13 : decode cX5_onRepeating 13 = .ok (.if_icmp .lt 9, 3) := by decide +kernel
theorem dX5_onRepeating_16 : decode cX5_onRepeating 16 = .ok (.iload_n 3, 1) := by decide +kernel
theorem dX5_onRepeating_17 : decode cX5_onRepeating 17 = .ok (.bipush 9, 2) := by decide +kernel
theorem dX5_onRepeating_19 : decode cX5_onRepeating 19 = .ok (.if_icmp .le 6, 3) := by decide +kernel
theorem dX5_onRepeating_22 : decode cX5_onRepeating 22 = .ok (.bipush 9, 2) := by decide +kernel
theorem dX5_onRepeating_24 : decode cX5_onRepeating 24 = .ok (.ireturn, 1) := by decide +kernel
theorem dX5_onRepeating_25 : decode cX5_onRepeating 25 = .ok (.iload_n 2, 1) := by decide +kernel
theorem dX5_onRepeating_26 : decode cX5_onRepeating 26 = .ok (.aload_n 1, 1) := by decide +kernel
theorem dX5_onRepeating_27 : decode cX5_onRepeating 27 = .ok (.getfield 107, 3) := by decide +kernel
theorem dX5_onRepeating_30 : decode cX5_onRepeating 30 = .ok (.if_icmp .le 13, 3) := by decide +kernel
theorem dX5_onRepeating_33 : decode cX5_onRepeating 33 = .ok (.aload_n 0, 1) := by decide +kernel
theorem dX5_onRepeating_34 : decode cX5_onRepeating 34 = .ok (.iconst 4, 1) := by decide +kernel
theorem dX5_onRepeating_35 : decode cX5_onRepeating 35 = .ok (.aload_n 1, 1) := by decide +kernel
theorem dX5_onRepeating_36 : decode cX5_onRepeating 36 = .ok (.getfield 107, 3) := by decide +kernel
theorem dX5_onRepeating_39 : decode cX5_onRepeating 39 = .ok (.invokevirtual 89, 3) := by decide +kernel
theorem dX5_onRepeating_42 : decode cX5_onRepeating 42 = .ok (.ireturn, 1) := by decide +kernel
theorem dX5_onRepeating_43 : decode cX5_onRepeating 43 = .ok (.aload_n 1, 1) := by decide +kernel
theorem dX5_onRepeating_44 : decode cX5_onRepeating 44 = .ok (.getfield 107, 3) := by decide +kernel
theorem dX5_onRepeating_47 : decode cX5_onRepeating 47 = .ok (.iload_n 2, 1) := by decide +kernel
theorem dX5_onRepeating_48 : decode cX5_onRepeating 48 = .ok (.iload_n 3, 1) := by decide +kernel
theorem dX5_onRepeating_49 : decode cX5_onRepeating 49 = .ok (.imul, 1) := by decide +kernel
theorem dX5_onRepeating_50 : decode cX5_onRepeating 50 = .ok (.iadd, 1) := by decide +kernel
theorem dX5_onRepeating_51 : decode cX5_onRepeating 51 = .ok (.bipush 40, 2) := by decide +kernel
theorem dX5_onRepeating_53 : decode cX5_onRepeating 53 = .ok (.if_icmp .le 13, 3) := by decide +kernel
theorem dX5_onRepeating_56 : decode cX5_onRepeating 56 = .ok (.aload_n 0, 1) := by decide +kernel
theorem dX5_onRepeating_57 : decode cX5_onRepeating 57 = .ok (.iconst 1, 1) := by decide +kernel
theorem dX5_onRepeating_58 : decode cX5_onRepeating 58 = .ok (.bipush 40, 2) := by decide +kernel
theorem dX5_onRepeating_60 : decode cX5_onRepeating 60 = .ok (.invokevirtual 89, 3) := by decide +kernel
theorem dX5_onRepeating_63 : decode cX5_onRepeating 63 = .ok (.goto 4, 3) := by decide +kernel
theorem dX5_onRepeating_66 : decode cX5_onRepeating 66 = .ok (.iconst 0, 1) := by decide +kernel
theorem dX5_onRepeating_67 : decode cX5_onRepeating 67 = .ok (.ireturn, 1) := by decide +kernel
theorem dX5_onKnots_0 : decode cX5_onKnots 0 = .ok (.aload_n 1, 1) := by decide +kernel
theorem dX5_onKnots_1 : decode cX5_onKnots 1 = .ok (.iload_n 2, 1) := by decide +kernel
theorem dX5_onKnots_2 : decode cX5_onKnots 2 = .ok (.iload_n 3, 1) := by decide +kernel
theorem dX5_onKnots_3 : decode cX5_onKnots 3 = .ok (.invokevirtual 113, 3) := by decide +kernel
theorem dX5_onKnots_6 : decode cX5_onKnots 6 = .ok (.ifCond .ne 6, 3) := by decide +kernel
theorem dX5_onKnots_9 : decode cX5_onKnots 9 = .ok (.bipush 10, 2) := by decide +kernel
theorem dX5_onKnots_11 : decode cX5_onKnots 11 = .ok (.ireturn, 1) := by decide +kernel
theorem dX5_onKnots_12 : decode cX5_onKnots 12 = .ok (.aload_n 1, 1) := by decide +kernel
theorem dX5_onKnots_13 : decode cX5_onKnots 13 = .ok (.iload_n 2, 1) := by decide +kernel
theorem dX5_onKnots_14 : decode cX5_onKnots 14 = .ok (.iload_n 3, 1) := by decide +kernel
theorem dX5_onKnots_15 : decode cX5_onKnots 15 = .ok (.invokevirtual 117, 3) := by decide +kernel
theorem dX5_onKnots_18 : decode cX5_onKnots 18 = .ok (.iload 4, 2) := by decide +kernel
theorem dX5_onKnots_20 : decode cX5_onKnots 20 = .ok (.if_icmp .ne 21, 3) := by decide +kernel
theorem dX5_onKnots_23 : decode cX5_onKnots 23 = .ok (.aload_n 0, 1) := by decide +kernel
theorem dX5_onKnots_24 : decode cX5_onKnots 24 = .ok (.iconst 5, 1) := by decide +kernel
theorem dX5_onKnots_25 : decode cX5_onKnots 25 = .ok (.iload 4, 2) := by decide +kernel
theorem dX5_onKnots_27 : decode cX5_onKnots 27 = .ok (.ifCond .eq 7, 3) := by decide +kernel
theorem dX5_onKnots_30 : decode cX5_onKnots 30 = .ok (.iconst 1, 1) := by decide +kernel
theorem dX5_onKnots_31 : decode cX5_onKnots 31 = .ok (.goto 4, 3) := by decide +kernel
theorem dX5_onKnots_34 : decode cX5_onKnots 34 = .ok (.iconst 0, 1) := by decide +kernel
theorem dX5_onKnots_35 : decode cX5_onKnots 35 = .ok (.invokevirtual 89, 3) := by decide +kernel
theorem dX5_onKnots_38 : decode cX5_onKnots 38 = .ok (.goto 4, 3) := by decide +kernel
theorem dX5_onKnots_41 : decode cX5_onKnots 41 = .ok (.iconst 0, 1) := by decide +kernel
theorem dX5_onKnots_42 : decode cX5_onKnots 42 = .ok (.ireturn, 1) := by decide +kernel
theorem dX5_onMending_0 : decode cX5_onMending 0 = .ok (.iload_n 2, 1) := by decide +kernel
theorem dX5_onMending_1 : decode cX5_onMending 1 = .ok (.invokestatic 120, 3) := by decide +kernel
theorem dX5_onMending_4 : decode cX5_onMending 4 = .ok (.ifCond .ne 6, 3) := by decide +kernel
theorem dX5_onMending_7 : decode cX5_onMending 7 = .ok (.bipush 9, 2) := by decide +kernel
theorem dX5_onMending_9 : decode cX5_onMending 9 = .ok (.ireturn, 1) := by decide +kernel
theorem dX5_onMending_10 : decode cX5_onMending 10 = .ok (.aload_n 1, 1) := by decide +kernel
theorem dX5_onMending_11 : decode cX5_onMending 11 = .ok (.iload_n 2, 1) := by decide +kernel
theorem dX5_onMending_12 : decode cX5_onMending 12 = .ok (.invokevirtual 123, 3) := by decide +kernel
theorem dX5_onMending_15 : decode cX5_onMending 15 = .ok (.getfield 127, 3) := by decide +kernel
theorem dX5_onMending_18 : decode cX5_onMending 18 = .ok (.ifCond .ne 12, 3) := by decide +kernel
theorem dX5_onMending_21 : decode cX5_onMending 21 = .ok (.aload_n 0, 1) := by decide +kernel
theorem dX5_onMending_22 : decode cX5_onMending 22 = .ok (.iconst 5, 1) := by decide +kernel
theorem dX5_onMending_23 : decode cX5_onMending 23 = .ok (.iconst 0, 1) := by decide +kernel
theorem dX5_onMending_24 : decode cX5_onMending 24 = .ok (.invokevirtual 89, 3) := by decide +kernel
theorem dX5_onMending_27 : decode cX5_onMending 27 = .ok (.goto 4, 3) := by decide +kernel
theorem dX5_onMending_30 : decode cX5_onMending 30 = .ok (.iconst 0, 1) := by decide +kernel
theorem dX5_onMending_31 : decode cX5_onMending 31 = .ok (.ireturn, 1) := by decide +kernel
theorem dX5_deny_0 : decode cX5_deny 0 = .ok (.aload_n 0, 1) := by decide +kernel
theorem dX5_deny_1 : decode cX5_deny 1 = .ok (.iload_n 2, 1) := by decide +kernel
theorem dX5_deny_2 : decode cX5_deny 2 = .ok (.putfield 132, 3) := by decide +kernel
theorem dX5_deny_5 : decode cX5_deny 5 = .ok (.iload_n 1, 1) := by decide +kernel
theorem dX5_deny_6 : decode cX5_deny 6 = .ok (.ireturn, 1) := by decide +kernel
theorem dX7_init_0 : decode cX7_init 0 = .ok (.aload_n 0, 1) := by decide +kernel
theorem dX7_init_1 : decode cX7_init 1 = .ok (.invokespecial 3, 3) := by decide +kernel
theorem dX7_init_4 : decode cX7_init 4 = .ok (.aload_n 0, 1) := by decide +kernel
theorem dX7_init_5 : decode cX7_init 5 = .ok (.bipush 48, 2) := by decide +kernel
theorem dX7_init_7 : decode cX7_init 7 = .ok (.newarray .char, 2) := by decide +kernel
theorem dX7_init_9 : decode cX7_init 9 = .ok (.putfield 9, 3) := by decide +kernel
theorem dX7_init_12 : decode cX7_init 12 = .ok (.return_, 1) := by decide +kernel
theorem dX7_showRow_0 : decode cX7_showRow 0 = .ok (.aload_n 0, 1) := by decide +kernel
theorem dX7_showRow_1 : decode cX7_showRow 1 = .ok (.iconst 0, 1) := by decide +kernel
theorem dX7_showRow_2 : decode cX7_showRow 2 = .ok (.putfield 15, 3) := by decide +kernel
theorem dX7_showRow_5 : decode cX7_showRow 5 = .ok (.aload_n 0, 1) := by decide +kernel
theorem dX7_showRow_6 : decode cX7_showRow 6 = .ok (.aload_n 1, 1) := by decide +kernel
theorem dX7_showRow_7 : decode cX7_showRow 7 = .ok (.getfield 19, 3) := by decide +kernel
theorem dX7_showRow_10 : decode cX7_showRow 10 = .ok (.iload_n 2, 1) := by decide +kernel
theorem dX7_showRow_11 : decode cX7_showRow 11 = .ok (.iaload, 1) := by decide +kernel
theorem dX7_showRow_12 : decode cX7_showRow 12 = .ok (.invokevirtual 25, 3) := by decide +kernel
theorem dX7_showRow_15 : decode cX7_showRow 15 = .ok (.aload_n 0, 1) := by decide +kernel
theorem dX7_showRow_16 : decode cX7_showRow 16 = .ok (.bipush 58, 2) := by decide +kernel
theorem dX7_showRow_18 : decode cX7_showRow 18 = .ok (.invokevirtual 29, 3) := by decide +kernel
theorem dX7_showRow_21 : decode cX7_showRow 21 = .ok (.iconst 0, 1) := by decide +kernel
theorem dX7_showRow_22 : decode cX7_showRow 22 = .ok (.istore_n 3, 1) := by decide +kernel
theorem dX7_showRow_23 : decode cX7_showRow 23 = .ok (.iload_n 3, 1) := by decide +kernel
theorem dX7_showRow_24 : decode cX7_showRow 24 = .ok (.bipush 16, 2) := by decide +kernel
theorem dX7_showRow_26 : decode cX7_showRow 26 = .ok (.if_icmp .ge 28, 3) := by decide +kernel
theorem dX7_showRow_29 : decode cX7_showRow 29 = .ok (.aload_n 0, 1) := by decide +kernel
theorem dX7_showRow_30 : decode cX7_showRow 30 = .ok (.aload_n 1, 1) := by decide +kernel
theorem dX7_showRow_31 : decode cX7_showRow 31 = .ok (.iload_n 2, 1) := by decide +kernel
theorem dX7_showRow_32 : decode cX7_showRow 32 = .ok (.iload_n 3, 1) := by decide +kernel
theorem dX7_showRow_33 : decode cX7_showRow 33 = .ok (.invokevirtual 33, 3) := by decide +kernel
theorem dX7_showRow_36 : decode cX7_showRow 36 = .ok (.aload_n 1, 1) := by decide +kernel
theorem dX7_showRow_37 : decode cX7_showRow 37 = .ok (.iload_n 2, 1) := by decide +kernel
theorem dX7_showRow_38 : decode cX7_showRow 38 = .ok (.iload_n 3, 1) := by decide +kernel
theorem dX7_showRow_39 : decode cX7_showRow 39 = .ok (.invokevirtual 37, 3) := by decide +kernel
theorem dX7_showRow_42 : decode cX7_showRow 42 = .ok (.invokestatic 40, 3) := by decide +kernel
theorem dX7_showRow_45 : decode cX7_showRow 45 = .ok (.invokevirtual 29, 3) := by decide +kernel
theorem dX7_showRow_48 : decode cX7_showRow 48 = .ok (.iinc 3 1, 3) := by decide +kernel
theorem dX7_showRow_51 : decode cX7_showRow 51 = .ok (.goto (-28), 3) := by decide +kernel
theorem dX7_showRow_54 : decode cX7_showRow 54 = .ok (.return_, 1) := by decide +kernel
theorem dX7_cellSign_0 : decode cX7_cellSign 0 = .ok (.iload_n 0, 1) := by decide +kernel
theorem dX7_cellSign_1 : decode cX7_cellSign 1 = .ok (.ifCond .eq 15, 3) := by decide +kernel
theorem dX7_cellSign_4 : decode cX7_cellSign 4 = .ok (.iload_n 1, 1) := by decide +kernel
theorem dX7_cellSign_5 : decode cX7_cellSign 5 = .ok (.ifCond .eq 8, 3) := by decide +kernel
theorem dX7_cellSign_8 : decode cX7_cellSign 8 = .ok (.bipush 88, 2) := by decide +kernel
theorem dX7_cellSign_10 : decode cX7_cellSign 10 = .ok (.goto 5, 3) := by decide +kernel
theorem dX7_cellSign_13 : decode cX7_cellSign 13 = .ok (.bipush 120, 2) := by decide +kernel
theorem dX7_cellSign_15 : decode cX7_cellSign 15 = .ok (.ireturn, 1) := by decide +kernel
theorem dX7_cellSign_16 : decode cX7_cellSign 16 = .ok (.iload_n 1, 1) := by decide +kernel
theorem dX7_cellSign_17 : decode cX7_cellSign 17 = .ok (.ifCond .eq 8, 3) := by decide +kernel
theorem dX7_cellSign_20 : decode cX7_cellSign 20 = .ok (.bipush 111, 2) := by decide +kernel
theorem dX7_cellSign_22 : decode cX7_cellSign 22 = .ok (.goto 5, 3) := by decide +kernel
theorem dX7_cellSign_25 : decode cX7_cellSign 25 = .ok (.bipush 46, 2) := by decide +kernel
theorem dX7_cellSign_27 : decode cX7_cellSign 27 = .ok (.ireturn, 1) := by decide +kernel
theorem dX7_addDigit_0 : decode cX7_addDigit 0 = .ok (.aload_n 0, 1) := by decide +kernel
theorem dX7_addDigit_1 : decode cX7_addDigit 1 = .ok (.bipush 48, 2) := by decide +kernel
theorem dX7_addDigit_3 : decode cX7_addDigit 3 = .ok (.iload_n 1, 1) := by decide +kernel
theorem dX7_addDigit_4 : decode cX7_addDigit 4 = .ok (.iadd, 1) := by decide +kernel
theorem dX7_addDigit_5 : decode cX7_addDigit 5 = .ok (.i2c, 1) := by decide +kernel
theorem dX7_addDigit_6 : decode cX7_addDigit 6 = .ok (.invokevirtual 29, 3) := by decide +kernel
theorem dX7_addDigit_9 : decode cX7_addDigit 9 = .ok (.return_, 1) := by decide +kernel
theorem dX7_add_0 : decode cX7_add 0 = .ok (.aload_n 0, 1) := by decide +kernel
theorem dX7_add_1 : decode cX7_add 1 = .ok (.getfield 15, 3) := by decide +kernel
theorem dX7_add_4 : decode cX7_add 4 = .ok (.bipush 48, 2) := by decide +kernel
theorem dX7_add_6 : decode cX7_add 6 = .ok (.if_icmp .ge 23, 3) := by decide +kernel
theorem dX7_add_9 : decode cX7_add 9 = .ok (.aload_n 0, 1) := by decide +kernel
theorem dX7_add_10 : decode cX7_add 10 = .ok (.getfield 9, 3) := by decide +kernel
theorem dX7_add_13 : decode cX7_add 13 = .ok (.aload_n 0, 1) := by decide +kernel
theorem dX7_add_14 : decode cX7_add 14 = .ok (.getfield 15, 3) := by decide +kernel
theorem dX7_add_17 : decode cX7_add 17 = .ok (.iload_n 1, 1) := by decide +kernel
theorem dX7_add_18 : decode cX7_add 18 = .ok (.castore, 1) := by decide +kernel
theorem dX7_add_19 : decode cX7_add 19 = .ok (.aload_n 0, 1) := by decide +kernel
theorem dX7_add_20 : decode cX7_add 20 = .ok (.dup, 1) := by decide +kernel
theorem dX7_add_21 : decode cX7_add 21 = .ok (.getfield 15, 3) := by decide +kernel
theorem dX7_add_24 : decode cX7_add 24 = .ok (.iconst 1, 1) := by decide +kernel
theorem dX7_add_25 : decode cX7_add 25 = .ok (.iadd, 1) := by decide +kernel
theorem dX7_add_26 : decode cX7_add 26 = .ok (.putfield 15, 3) := by decide +kernel
theorem dX7_add_29 : decode cX7_add 29 = .ok (.return_, 1) := by decide +kernel
theorem dX8_init_0 : decode cX8_init 0 = .ok (.aload_n 0, 1) := by decide +kernel
theorem dX8_init_1 : decode cX8_init 1 = .ok (.invokespecial 3, 3) := by decide +kernel
theorem dX8_init_4 : decode cX8_init 4 = .ok (.aload_n 0, 1) := by decide +kernel
theorem dX8_init_5 : decode cX8_init 5 = .ok (.new 9, 3) := by decide +kernel
theorem dX8_init_8 : decode cX8_init 8 = .ok (.dup, 1) := by decide +kernel
theorem dX8_init_9 : decode cX8_init 9 = .ok (.invokespecial 11, 3) := by decide +kernel
theorem dX8_init_12 : decode cX8_init 12 = .ok (.putfield 12, 3) := by decide +kernel
theorem dX8_init_15 : decode cX8_init 15 = .ok (.aload_n 0, 1) := by decide +kernel
theorem dX8_init_16 : decode cX8_init 16 = .ok (.new 18, 3) := by decide +kernel
theorem dX8_init_19 : decode cX8_init 19 = .ok (.dup, 1) := by decide +kernel
theorem dX8_init_20 : decode cX8_init 20 = .ok (.invokespecial 20, 3) := by decide +kernel
theorem dX8_init_23 : decode cX8_init 23 = .ok (.putfield 21, 3) := by decide +kernel
theorem dX8_init_26 : decode cX8_init 26 = .ok (.aload_n 0, 1) := by decide +kernel
theorem dX8_init_27 : decode cX8_init 27 = .ok (.new 25, 3) := by decide +kernel
theorem dX8_init_30 : decode cX8_init 30 = .ok (.dup, 1) := by decide +kernel
theorem dX8_init_31 : decode cX8_init 31 = .ok (.invokespecial 27, 3) := by decide +kernel
theorem dX8_init_34 : decode cX8_init 34 = .ok (.putfield 28, 3) := by decide +kernel
theorem dX8_init_37 : decode cX8_init 37 = .ok (.aload_n 0, 1) := by decide +kernel
theorem dX8_init_38 : decode cX8_init 38 = .ok (.new 25, 3) := by decide +kernel
theorem dX8_init_41 : decode cX8_init 41 = .ok (.dup, 1) := by decide +kernel
theorem dX8_init_42 : decode cX8_init 42 = .ok (.invokespecial 27, 3) := by decide +kernel
theorem dX8_init_45 : decode cX8_init 45 = .ok (.putfield 32, 3) := by decide +kernel
theorem dX8_init_48 : decode cX8_init 48 = .ok (.return_, 1) := by decide +kernel
theorem dX8_isSide_0 : decode cX8_isSide 0 = .ok (.iload_n 0, 1) := by decide +kernel
theorem dX8_isSide_1 : decode cX8_isSide 1 = .ok (.bipush 108, 2) := by decide +kernel
theorem dX8_isSide_3 : decode cX8_isSide 3 = .ok (.if_icmp .eq 9, 3) := by decide +kernel
theorem dX8_isSide_6 : decode cX8_isSide 6 = .ok (.iload_n 0, 1) := by decide +kernel
theorem dX8_isSide_7 : decode cX8_isSide 7 = .ok (.bipush 114, 2) := by decide +kernel
theorem dX8_isSide_9 : decode cX8_isSide 9 = .ok (.if_icmp .ne 7, 3) := by decide +kernel
theorem dX8_isSide_12 : decode cX8_isSide 12 = .ok (.iconst 1, 1) := by decide +kernel
theorem dX8_isSide_13 : decode cX8_isSide 13 = .ok (.goto 4, 3) := by decide +kernel
theorem dX8_isSide_16 : decode cX8_isSide 16 = .ok (.iconst 0, 1) := by decide +kernel
theorem dX8_isSide_17 : decode cX8_isSide 17 = .ok (.ireturn, 1) := by decide +kernel
theorem dX8_edgeAt_0 : decode cX8_edgeAt 0 = .ok (.iload_n 1, 1) := by decide +kernel
theorem dX8_edgeAt_1 : decode cX8_edgeAt 1 = .ok (.bipush 108, 2) := by decide +kernel
theorem dX8_edgeAt_3 : decode cX8_edgeAt 3 = .ok (.if_icmp .ne 10, 3) := by decide +kernel
theorem dX8_edgeAt_6 : decode cX8_edgeAt 6 = .ok (.aload_n 0, 1) := by decide +kernel
theorem dX8_edgeAt_7 : decode cX8_edgeAt 7 = .ok (.getfield 28, 3) := by decide +kernel
theorem dX8_edgeAt_10 : decode cX8_edgeAt 10 = .ok (.goto 7, 3) := by decide +kernel
theorem dX8_edgeAt_13 : decode cX8_edgeAt 13 = .ok (.aload_n 0, 1) := by decide +kernel
theorem dX8_edgeAt_14 : decode cX8_edgeAt 14 = .ok (.getfield 32, 3) := by decide +kernel
theorem dX8_edgeAt_17 : decode cX8_edgeAt 17 = .ok (.areturn, 1) := by decide +kernel
theorem dX8_copyFrom_0 : decode cX8_copyFrom 0 = .ok (.aload_n 0, 1) := by decide +kernel
theorem dX8_copyFrom_1 : decode cX8_copyFrom 1 = .ok (.getfield 12, 3) := by decide +kernel
theorem dX8_copyFrom_4 : decode cX8_copyFrom 4 = .ok (.aload_n 1, 1) := by decide +kernel
theorem dX8_copyFrom_5 : decode cX8_copyFrom 5 = .ok (.getfield 12, 3) := by decide +kernel
theorem dX8_copyFrom_8 : decode cX8_copyFrom 8 = .ok (.invokevirtual 35, 3) := by decide +kernel
theorem dX8_copyFrom_11 : decode cX8_copyFrom 11 = .ok (.aload_n 0, 1) := by decide +kernel
theorem dX8_copyFrom_12 : decode cX8_copyFrom 12 = .ok (.getfield 21, 3) := by decide +kernel
theorem dX8_copyFrom_15 : decode cX8_copyFrom 15 = .ok (.aload_n 1, 1) := by decide +kernel
theorem dX8_copyFrom_16 : decode cX8_copyFrom 16 = .ok (.getfield 21, 3) := by decide +kernel
theorem dX8_copyFrom_19 : decode cX8_copyFrom 19 = .ok (.invokevirtual 39, 3) := by decide +kernel
theorem dX8_copyFrom_22 : decode cX8_copyFrom 22 = .ok (.aload_n 0, 1) := by decide +kernel
theorem dX8_copyFrom_23 : decode cX8_copyFrom 23 = .ok (.getfield 28, 3) := by decide +kernel
theorem dX8_copyFrom_26 : decode cX8_copyFrom 26 = .ok (.aload_n 1, 1) := by decide +kernel
theorem dX8_copyFrom_27 : decode cX8_copyFrom 27 = .ok (.getfield 28, 3) := by decide +kernel
theorem dX8_copyFrom_30 : decode cX8_copyFrom 30 = .ok (.invokevirtual 42, 3) := by decide +kernel
theorem dX8_copyFrom_33 : decode cX8_copyFrom 33 = .ok (.aload_n 0, 1) := by decide +kernel
theorem dX8_copyFrom_34 : decode cX8_copyFrom 34 = .ok (.getfield 32, 3) := by decide +kernel
theorem dX8_copyFrom_37 : decode cX8_copyFrom 37 = .ok (.aload_n 1, 1) := by decide +kernel
theorem dX8_copyFrom_38 : decode cX8_copyFrom 38 = .ok (.getfield 32, 3) := by decide +kernel
theorem dX8_copyFrom_41 : decode cX8_copyFrom 41 = .ok (.invokevirtual 42, 3) := by decide +kernel
theorem dX8_copyFrom_44 : decode cX8_copyFrom 44 = .ok (.aload_n 0, 1) := by decide +kernel
theorem dX8_copyFrom_45 : decode cX8_copyFrom 45 = .ok (.aload_n 1, 1) := by decide +kernel
theorem dX8_copyFrom_46 : decode cX8_copyFrom 46 = .ok (.getfield 45, 3) := by decide +kernel
theorem dX8_copyFrom_49 : decode cX8_copyFrom 49 = .ok (.putfield 45, 3) := by decide +kernel
theorem dX8_copyFrom_52 : decode cX8_copyFrom 52 = .ok (.aload_n 0, 1) := by decide +kernel
theorem dX8_copyFrom_53 : decode cX8_copyFrom 53 = .ok (.aload_n 1, 1) := by decide +kernel
theorem dX8_copyFrom_54 : decode cX8_copyFrom 54 = .ok (.getfield 49, 3) := by decide +kernel
theorem dX8_copyFrom_57 : decode cX8_copyFrom 57 = .ok (.putfield 49, 3) := by decide +kernel
theorem dX8_copyFrom_60 : decode cX8_copyFrom 60 = .ok (.return_, 1) := by decide +kernel
theorem dX8_perform_0 : decode cX8_perform 0 = .ok (.aload_n 1, 1) := by decide +kernel
theorem dX8_perform_1 : decode cX8_perform 1 = .ok (.getfield 52, 3) := by decide +kernel
theorem dX8_perform_4 : decode cX8_perform 4 = .ok (.istore_n 2, 1) := by decide +kernel
theorem dX8_perform_5 : decode cX8_perform 5 = .ok (.aload_n 1, 1) := by decide +kernel
theorem dX8_perform_6 : decode cX8_perform 6 = .ok (.getfield 57, 3) := by decide +kernel
theorem dX8_perform_9 : decode cX8_perform 9 = .ok (.istore_n 3, 1) := by decide +kernel
theorem dX8_perform_10 : decode cX8_perform 10 = .ok (.getstatic 60, 3) := by decide +kernel
theorem dX8_perform_13 : decode cX8_perform 13 = .ok (.aload_n 1, 1) := by decide +kernel
theorem dX8_perform_14 : decode cX8_perform 14 = .ok (.getfield 66, 3) := by decide +kernel
theorem dX8_perform_17 : decode cX8_perform 17 = .ok (.invokevirtual 70, 3) := by decide +kernel
theorem dX8_perform_20 : decode cX8_perform 20 = .ok (.iaload, 1) := by decide +kernel
theorem dX8_perform_21 : decode cX8_perform 21 = .ok (.tableswitch 130 1 9 #[51, 65, 75, 85, 95, 101, 110, 120, 120], 51) := by decide +kernel
theorem dX8_perform_72 : decode cX8_perform 72 = .ok (.aload_n 0, 1) := by decide +kernel
theorem dX8_perform_73 : decode cX8_perform 73 = .ok (.getfield 12, 3) := by decide +kernel
theorem dX8_perform_76 : decode cX8_perform 76 = .ok (.iload_n 2, 1) := by decide +kernel
theorem dX8_perform_77 : decode cX8_perform 77 = .ok (.iload_n 3, 1) := by decide +kernel
theorem dX8_perform_78 : decode cX8_perform 78 = .ok (.aload_n 1, 1) := by decide +kernel
theorem dX8_perform_79 : decode cX8_perform 79 = .ok (.getfield 76, 3) := by decide +kernel
theorem dX8_perform_82 : decode cX8_perform 82 = .ok (.invokevirtual 79, 3) := by decide +kernel
theorem dX8_perform_85 : decode cX8_perform 85 = .ok (.ireturn, 1) := by decide +kernel
theorem dX8_perform_86 : decode cX8_perform 86 = .ok (.aload_n 0, 1) := by decide +kernel
theorem dX8_perform_87 : decode cX8_perform 87 = .ok (.getfield 12, 3) := by decide +kernel
theorem dX8_perform_90 : decode cX8_perform 90 = .ok (.iload_n 2, 1) := by decide +kernel
theorem dX8_perform_91 : decode cX8_perform 91 = .ok (.iconst 1, 1) := by decide +kernel
theorem dX8_perform_92 : decode cX8_perform 92 = .ok (.invokevirtual 83, 3) := by decide +kernel
theorem dX8_perform_95 : decode cX8_perform 95 = .ok (.ireturn, 1) := by decide +kernel
theorem dX8_perform_96 : decode cX8_perform 96 = .ok (.aload_n 0, 1) := by decide +kernel
theorem dX8_perform_97 : decode cX8_perform 97 = .ok (.getfield 12, 3) := by decide +kernel
theorem dX8_perform_100 : decode cX8_perform 100 = .ok (.iload_n 2, 1) := by decide +kernel
theorem dX8_perform_101 : decode cX8_perform 101 = .ok (.iconst 0, 1) := by decide +kernel
theorem dX8_perform_102 : decode cX8_perform 102 = .ok (.invokevirtual 83, 3) := by decide +kernel
theorem dX8_perform_105 : decode cX8_perform 105 = .ok (.ireturn, 1) := by decide +kernel
theorem dX8_perform_106 : decode cX8_perform 106 = .ok (.aload_n 0, 1) := by decide +kernel
theorem dX8_perform_107 : decode cX8_perform 107 = .ok (.getfield 12, 3) := by decide +kernel
theorem dX8_perform_110 : decode cX8_perform 110 = .ok (.iload_n 2, 1) := by decide +kernel
theorem dX8_perform_111 : decode cX8_perform 111 = .ok (.iload_n 3, 1) := by decide +kernel
theorem dX8_perform_112 : decode cX8_perform 112 = .ok (.invokevirtual 87, 3) := by decide +kernel
theorem dX8_perform_115 : decode cX8_perform 115 = .ok (.ireturn, 1) := by decide +kernel
theorem dX8_perform_116 : decode cX8_perform 116 = .ok (.aload_n 0, 1) := by decide +kernel
theorem dX8_perform_117 : decode cX8_perform 117 = .ok (.iload_n 2, 1) := by decide +kernel
theorem dX8_perform_118 : decode cX8_perform 118 = .ok (.invokevirtual 91, 3) := by decide +kernel
theorem dX8_perform_121 : decode cX8_perform 121 = .ok (.ireturn, 1) := by decide +kernel
theorem dX8_perform_122 : decode cX8_perform 122 = .ok (.aload_n 0, 1) := by decide +kernel
theorem dX8_perform_123 : decode cX8_perform 123 = .ok (.getfield 21, 3) := by decide +kernel
theorem dX8_perform_126 : decode cX8_perform 126 = .ok (.iload_n 2, 1) := by decide +kernel
theorem dX8_perform_127 : decode cX8_perform 127 = .ok (.invokevirtual 95, 3) := by decide +kernel
theorem dX8_perform_130 : decode cX8_perform 130 = .ok (.ireturn, 1) := by decide +kernel
theorem dX8_perform_131 : decode cX8_perform 131 = .ok (.aload_n 0, 1) := by decide +kernel
theorem dX8_perform_132 : decode cX8_perform 132 = .ok (.getfield 21, 3) := by decide +kernel
theorem dX8_perform_135 : decode cX8_perform 135 = .ok (.iload_n 2, 1) := by decide +kernel
theorem dX8_perform_136 : decode cX8_perform 136 = .ok (.iload_n 3, 1) := by decide +kernel
theorem dX8_perform_137 : decode cX8_perform 137 = .ok (.invokevirtual 98, 3) := by decide +kernel
theorem dX8_perform_140 : decode cX8_perform 140 = .ok (.ireturn, 1) := by decide +kernel
theorem dX8_perform_141 : decode cX8_perform 141 = .ok (.aload_n 0, 1) := by decide +kernel
theorem dX8_perform_142 : decode cX8_perform 142 = .ok (.getfield 21, 3) := by decide +kernel
theorem dX8_perform_145 : decode cX8_perform 145 = .ok (.iload_n 2, 1) := by decide +kernel
theorem dX8_perform_146 : decode cX8_perform 146 = .ok (.iload_n 3, 1) := by decide +kernel
theorem dX8_perform_147 : decode cX8_perform 147 = .ok (.invokevirtual 101, 3) := by decide +kernel
theorem dX8_perform_150 : decode cX8_perform 150 = .ok (.ireturn, 1) := by decide +kernel
theorem dX8_perform_151 : decode cX8_perform 151 = .ok (.aload_n 0, 1) := by decide +kernel
theorem dX8_perform_152 : decode cX8_perform 152 = .ok (.iload_n 2, 1) := by decide +kernel
theorem dX8_perform_153 : decode cX8_perform 153 = .ok (.invokevirtual 104, 3) := by decide +kernel
theorem dX8_perform_156 : decode cX8_perform 156 = .ok (.invokevirtual 108, 3) := by decide +kernel
theorem dX8_perform_159 : decode cX8_perform 159 = .ok (.ireturn, 1) := by decide +kernel
theorem dX8_unburnt_0 : decode cX8_unburnt 0 = .ok (.iconst 1, 1) := by decide +kernel
theorem dX8_unburnt_1 : decode cX8_unburnt 1 = .ok (.aload_n 0, 1) := by decide +kernel
theorem dX8_unburnt_2 : decode cX8_unburnt 2 = .ok (.getfield 28, 3) := by decide +kernel
theorem dX8_unburnt_5 : decode cX8_unburnt 5 = .ok (.getfield 111, 3) := by decide +kernel
theorem dX8_unburnt_8 : decode cX8_unburnt 8 = .ok (.ishl, 1) := by decide +kernel
theorem dX8_unburnt_9 : decode cX8_unburnt 9 = .ok (.iconst 1, 1) := by decide +kernel
theorem dX8_unburnt_10 : decode cX8_unburnt 10 = .ok (.isub, 1) := by decide +kernel
theorem dX8_unburnt_11 : decode cX8_unburnt 11 = .ok (.istore_n 2, 1) := by decide +kernel
theorem dX8_unburnt_12 : decode cX8_unburnt 12 = .ok (.iconst 1, 1) := by decide +kernel
theorem dX8_unburnt_13 : decode cX8_unburnt 13 = .ok (.bipush 16, 2) := by decide +kernel
theorem dX8_unburnt_15 : decode cX8_unburnt 15 = .ok (.aload_n 0, 1) := by decide +kernel
theorem dX8_unburnt_16 : decode cX8_unburnt 16 = .ok (.getfield 32, 3) := by decide +kernel
theorem dX8_unburnt_19 : decode cX8_unburnt 19 = .ok (.getfield 111, 3) := by decide +kernel
theorem dX8_unburnt_22 : decode cX8_unburnt 22 = .ok (.isub, 1) := by decide +kernel
theorem dX8_unburnt_23 : decode cX8_unburnt 23 = .ok (.ishl, 1) := by decide +kernel
theorem dX8_unburnt_24 : decode cX8_unburnt 24 = .ok (.iconst 1, 1) := by decide +kernel
theorem dX8_unburnt_25 : decode cX8_unburnt 25 = .ok (.isub, 1) := by decide +kernel
theorem dX8_unburnt_26 : decode cX8_unburnt 26 = .ok (.istore_n 3, 1) := by decide +kernel
theorem dX8_unburnt_27 : decode cX8_unburnt 27 = .ok (.iload_n 1, 1) := by decide +kernel
theorem dX8_unburnt_28 : decode cX8_unburnt 28 = .ok (.iload_n 2, 1) := by decide +kernel
theorem dX8_unburnt_29 : decode cX8_unburnt 29 = .ok (.iconst (-1), 1) := by decide +kernel
theorem dX8_unburnt_30 : decode cX8_unburnt 30 = .ok (.ixor, 1) := by decide +kernel
theorem dX8_unburnt_31 : decode cX8_unburnt 31 = .ok (.iand, 1) := by decide +kernel
theorem dX8_unburnt_32 : decode cX8_unburnt 32 = .ok (.iload_n 3, 1) := by decide +kernel
theorem dX8_unburnt_33 : decode cX8_unburnt 33 = .ok (.iand, 1) := by decide +kernel
theorem dX8_unburnt_34 : decode cX8_unburnt 34 = .ok (.ireturn, 1) := by decide +kernel
theorem dX8_weaveRows_0 : decode cX8_weaveRows 0 = .ok (.iconst 0, 1) := by decide +kernel
theorem dX8_weaveRows_1 : decode cX8_weaveRows 1 = .ok (.istore_n 2, 1) := by decide +kernel
theorem dX8_weaveRows_2 : decode cX8_weaveRows 2 = .ok (.iload_n 2, 1) := by decide +kernel
theorem dX8_weaveRows_3 : decode cX8_weaveRows 3 = .ok (.iload_n 1, 1) := by decide +kernel
theorem dX8_weaveRows_4 : decode cX8_weaveRows 4 = .ok (.if_icmp .ge 23, 3) := by decide +kernel
theorem dX8_weaveRows_7 : decode cX8_weaveRows 7 = .ok (.aload_n 0, 1) := by decide +kernel
theorem dX8_weaveRows_8 : decode cX8_weaveRows 8 = .ok (.getfield 12, 3) := by decide +kernel
theorem dX8_weaveRows_11 : decode cX8_weaveRows 11 = .ok (.invokevirtual 114, 3) := by decide +kernel
theorem dX8_weaveRows_14 : decode cX8_weaveRows 14 = .ok (.ifCond .le 13, 3) := by decide +kernel
theorem dX8_weaveRows_17 : decode cX8_weaveRows 17 = .ok (.aload_n 0, 1) := by decide +kernel
theorem dX8_weaveRows_18 : decode cX8_weaveRows 18 = .ok (.invokevirtual 117, 3) := by decide +kernel
theorem dX8_weaveRows_21 : decode cX8_weaveRows 21 = .ok (.iinc 2 1, 3) := by decide +kernel
theorem dX8_weaveRows_24 : decode cX8_weaveRows 24 = .ok (.goto (-22), 3) := by decide +kernel
theorem dX8_weaveRows_27 : decode cX8_weaveRows 27 = .ok (.iload_n 2, 1) := by decide +kernel
theorem dX8_weaveRows_28 : decode cX8_weaveRows 28 = .ok (.ireturn, 1) := by decide +kernel
theorem dX8_weaveRow_0 : decode cX8_weaveRow 0 = .ok (.aload_n 0, 1) := by decide +kernel
theorem dX8_weaveRow_1 : decode cX8_weaveRow 1 = .ok (.getfield 12, 3) := by decide +kernel
theorem dX8_weaveRow_4 : decode cX8_weaveRow 4 = .ok (.invokevirtual 120, 3) := by decide +kernel
theorem dX8_weaveRow_7 : decode cX8_weaveRow 7 = .ok (.istore_n 1, 1) := by decide +kernel
theorem dX8_weaveRow_8 : decode cX8_weaveRow 8 = .ok (.aload_n 0, 1) := by decide +kernel
theorem dX8_weaveRow_9 : decode cX8_weaveRow 9 = .ok (.getfield 21, 3) := by decide +kernel
theorem dX8_weaveRow_12 : decode cX8_weaveRow 12 = .ok (.aload_n 0, 1) := by decide +kernel
theorem dX8_weaveRow_13 : decode cX8_weaveRow 13 = .ok (.iload_n 1, 1) := by decide +kernel
theorem dX8_weaveRow_14 : decode cX8_weaveRow 14 = .ok (.invokevirtual 123, 3) := by decide +kernel
theorem dX8_weaveRow_17 : decode cX8_weaveRow 17 = .ok (.aload_n 0, 1) := by decide +kernel
theorem dX8_weaveRow_18 : decode cX8_weaveRow 18 = .ok (.getfield 12, 3) := by decide +kernel
theorem dX8_weaveRow_21 : decode cX8_weaveRow 21 = .ok (.invokevirtual 126, 3) := by decide +kernel
theorem dX8_weaveRow_24 : decode cX8_weaveRow 24 = .ok (.invokevirtual 129, 3) := by decide +kernel
theorem dX8_weaveRow_27 : decode cX8_weaveRow 27 = .ok (.aload_n 0, 1) := by decide +kernel
theorem dX8_weaveRow_28 : decode cX8_weaveRow 28 = .ok (.dup, 1) := by decide +kernel
theorem dX8_weaveRow_29 : decode cX8_weaveRow 29 = .ok (.getfield 45, 3) := by decide +kernel
theorem dX8_weaveRow_32 : decode cX8_weaveRow 32 = .ok (.iconst 1, 1) := by decide +kernel
theorem dX8_weaveRow_33 : decode cX8_weaveRow 33 = .ok (.iadd, 1) := by decide +kernel
theorem dX8_weaveRow_34 : decode cX8_weaveRow 34 = .ok (.putfield 45, 3) := by decide +kernel
theorem dX8_weaveRow_37 : decode cX8_weaveRow 37 = .ok (.aload_n 0, 1) := by decide +kernel
theorem dX8_weaveRow_38 : decode cX8_weaveRow 38 = .ok (.dup, 1) := by decide +kernel
theorem dX8_weaveRow_39 : decode cX8_weaveRow 39 = .ok (.getfield 49, 3) := by decide +kernel
theorem dX8_weaveRow_42 : decode cX8_weaveRow 42 = .ok (.aload_n 0, 1) := by decide +kernel
theorem dX8_weaveRow_43 : decode cX8_weaveRow 43 = .ok (.getfield 12, 3) := by decide +kernel
theorem dX8_weaveRow_46 : decode cX8_weaveRow 46 = .ok (.invokevirtual 133, 3) := by decide +kernel
theorem dX8_weaveRow_49 : decode cX8_weaveRow 49 = .ok (.iadd, 1) := by decide +kernel
theorem dX8_weaveRow_50 : decode cX8_weaveRow 50 = .ok (.putfield 49, 3) := by decide +kernel
theorem dX8_weaveRow_53 : decode cX8_weaveRow 53 = .ok (.aload_n 0, 1) := by decide +kernel
theorem dX8_weaveRow_54 : decode cX8_weaveRow 54 = .ok (.getfield 28, 3) := by decide +kernel
theorem dX8_weaveRow_57 : decode cX8_weaveRow 57 = .ok (.iload_n 1, 1) := by decide +kernel
theorem dX8_weaveRow_58 : decode cX8_weaveRow 58 = .ok (.iconst 1, 1) := by decide +kernel
theorem dX8_weaveRow_59 : decode cX8_weaveRow 59 = .ok (.iand, 1) := by decide +kernel
theorem dX8_weaveRow_60 : decode cX8_weaveRow 60 = .ok (.ifCond .eq 7, 3) := by decide +kernel
theorem dX8_weaveRow_63 : decode cX8_weaveRow 63 = .ok (.iconst 1, 1) := by decide +kernel
theorem dX8_weaveRow_64 : decode cX8_weaveRow 64 = .ok (.goto 4, 3) := by decide +kernel
theorem dX8_weaveRow_67 : decode cX8_weaveRow 67 = .ok (.iconst 0, 1) := by decide +kernel
theorem dX8_weaveRow_68 : decode cX8_weaveRow 68 = .ok (.invokevirtual 136, 3) := by decide +kernel
theorem dX8_weaveRow_71 : decode cX8_weaveRow 71 = .ok (.aload_n 0, 1) := by decide +kernel
theorem dX8_weaveRow_72 : decode cX8_weaveRow 72 = .ok (.getfield 32, 3) := by decide +kernel
theorem dX8_weaveRow_75 : decode cX8_weaveRow 75 = .ok (.iload_n 1, 1) := by decide +kernel
theorem dX8_weaveRow_76 : decode cX8_weaveRow 76 = .ok (.bipush 15, 2) := by decide +kernel
theorem dX8_weaveRow_78 : decode cX8_weaveRow 78 = .ok (.ishr, 1) := by decide +kernel
theorem dX8_weaveRow_79 : decode cX8_weaveRow 79 = .ok (.iconst 1, 1) := by decide +kernel
theorem dX8_weaveRow_80 : decode cX8_weaveRow 80 = .ok (.iand, 1) := by decide +kernel
theorem dX8_weaveRow_81 : decode cX8_weaveRow 81 = .ok (.ifCond .eq 7, 3) := by decide +kernel
theorem dX8_weaveRow_84 : decode cX8_weaveRow 84 = .ok (.iconst 1, 1) := by decide +kernel
theorem dX8_weaveRow_85 : decode cX8_weaveRow 85 = .ok (.goto 4, 3) := by decide +kernel
theorem dX8_weaveRow_88 : decode cX8_weaveRow 88 = .ok (.iconst 0, 1) := by decide +kernel
theorem dX8_weaveRow_89 : decode cX8_weaveRow 89 = .ok (.invokevirtual 136, 3) := by decide +kernel
theorem dX8_weaveRow_92 : decode cX8_weaveRow 92 = .ok (.return_, 1) := by decide +kernel
theorem dX9_init_0 : decode cX9_init 0 = .ok (.aload_n 0, 1) := by decide +kernel
theorem dX9_init_1 : decode cX9_init 1 = .ok (.invokespecial 3, 3) := by decide +kernel
theorem dX9_init_4 : decode cX9_init 4 = .ok (.aload_n 0, 1) := by decide +kernel
theorem dX9_init_5 : decode cX9_init 5 = .ok (.bipush 60, 2) := by decide +kernel
theorem dX9_init_7 : decode cX9_init 7 = .ok (.newarray .char, 2) := by decide +kernel
theorem dX9_init_9 : decode cX9_init 9 = .ok (.putfield 9, 3) := by decide +kernel
theorem dX9_init_12 : decode cX9_init 12 = .ok (.aload_n 0, 1) := by decide +kernel
theorem dX9_init_13 : decode cX9_init 13 = .ok (.bipush 10, 2) := by decide +kernel
theorem dX9_init_15 : decode cX9_init 15 = .ok (.anewarray 15, 3) := by decide +kernel
theorem dX9_init_18 : decode cX9_init 18 = .ok (.putfield 17, 3) := by decide +kernel
theorem dX9_init_21 : decode cX9_init 21 = .ok (.iconst 0, 1) := by decide +kernel
theorem dX9_init_22 : decode cX9_init 22 = .ok (.istore_n 1, 1) := by decide +kernel
theorem dX9_init_23 : decode cX9_init 23 = .ok (.iload_n 1, 1) := by decide +kernel
theorem dX9_init_24 : decode cX9_init 24 = .ok (.bipush 10, 2) := by decide +kernel
theorem dX9_init_26 : decode cX9_init 26 = .ok (.if_icmp .ge 22, 3) := by decide +kernel
theorem dX9_init_29 : decode cX9_init 29 = .ok (.aload_n 0, 1) := by decide +kernel
theorem dX9_init_30 : decode cX9_init 30 = .ok (.getfield 17, 3) := by decide +kernel
theorem dX9_init_33 : decode cX9_init 33 = .ok (.iload_n 1, 1) := by decide +kernel
theorem dX9_init_34 : decode cX9_init 34 = .ok (.new 15, 3) := by decide +kernel
theorem dX9_init_37 : decode cX9_init 37 = .ok (.dup, 1) := by decide +kernel
theorem dX9_init_38 : decode cX9_init 38 = .ok (.invokespecial 21, 3) := by decide +kernel
theorem dX9_init_41 : decode cX9_init 41 = .ok (.aastore, 1) := by decide +kernel
theorem dX9_init_42 : decode cX9_init 42 = .ok (.iinc 1 1, 3) := by decide +kernel
theorem dX9_init_45 : decode cX9_init 45 = .ok (.goto (-22), 3) := by decide +kernel
theorem dX9_init_48 : decode cX9_init 48 = .ok (.return_, 1) := by decide +kernel
theorem dX9_isFull_0 : decode cX9_isFull 0 = .ok (.aload_n 0, 1) := by decide +kernel
theorem dX9_isFull_1 : decode cX9_isFull 1 = .ok (.getfield 22, 3) := by decide +kernel
theorem dX9_isFull_4 : decode cX9_isFull 4 = .ok (.bipush 60, 2) := by decide +kernel
theorem dX9_isFull_6 : decode cX9_isFull 6 = .ok (.if_icmp .lt 7, 3) := by decide +kernel
theorem dX9_isFull_9 : decode cX9_isFull 9 = .ok (.iconst 1, 1) := by decide +kernel
theorem dX9_isFull_10 : decode cX9_isFull 10 = .ok (.goto 4, 3) := by decide +kernel
theorem dX9_isFull_13 : decode cX9_isFull 13 = .ok (.iconst 0, 1) := by decide +kernel
theorem dX9_isFull_14 : decode cX9_isFull 14 = .ok (.ireturn, 1) := by decide +kernel
theorem dX9_append_0 : decode cX9_append 0 = .ok (.aload_n 0, 1) := by decide +kernel
theorem dX9_append_1 : decode cX9_append 1 = .ok (.getfield 9, 3) := by decide +kernel
theorem dX9_append_4 : decode cX9_append 4 = .ok (.aload_n 0, 1) := by decide +kernel
theorem dX9_append_5 : decode cX9_append 5 = .ok (.getfield 22, 3) := by decide +kernel
theorem dX9_append_8 : decode cX9_append 8 = .ok (.iload_n 1, 1) := by decide +kernel
theorem dX9_append_9 : decode cX9_append 9 = .ok (.castore, 1) := by decide +kernel
theorem dX9_append_10 : decode cX9_append 10 = .ok (.aload_n 0, 1) := by decide +kernel
theorem dX9_append_11 : decode cX9_append 11 = .ok (.dup, 1) := by decide +kernel
theorem dX9_append_12 : decode cX9_append 12 = .ok (.getfield 22, 3) := by decide +kernel
theorem dX9_append_15 : decode cX9_append 15 = .ok (.iconst 1, 1) := by decide +kernel
theorem dX9_append_16 : decode cX9_append 16 = .ok (.iadd, 1) := by decide +kernel
theorem dX9_append_17 : decode cX9_append 17 = .ok (.putfield 22, 3) := by decide +kernel
theorem dX9_append_20 : decode cX9_append 20 = .ok (.aload_n 0, 1) := by decide +kernel
theorem dX9_append_21 : decode cX9_append 21 = .ok (.getfield 22, 3) := by decide +kernel
theorem dX9_append_24 : decode cX9_append 24 = .ok (.ireturn, 1) := by decide +kernel
theorem dX9_clear_0 : decode cX9_clear 0 = .ok (.aload_n 0, 1) := by decide +kernel
theorem dX9_clear_1 : decode cX9_clear 1 = .ok (.iconst 0, 1) := by decide +kernel
theorem dX9_clear_2 : decode cX9_clear 2 = .ok (.putfield 22, 3) := by decide +kernel
theorem dX9_clear_5 : decode cX9_clear 5 = .ok (.return_, 1) := by decide +kernel
theorem dX9_parse_0 : decode cX9_parse 0 = .ok (.aload_n 0, 1) := by decide +kernel
theorem dX9_parse_1 : decode cX9_parse 1 = .ok (.iconst 0, 1) := by decide +kernel
theorem dX9_parse_2 : decode cX9_parse 2 = .ok (.putfield 26, 3) := by decide +kernel
theorem dX9_parse_5 : decode cX9_parse 5 = .ok (.aload_n 0, 1) := by decide +kernel
theorem dX9_parse_6 : decode cX9_parse 6 = .ok (.iconst 0, 1) := by decide +kernel
theorem dX9_parse_7 : decode cX9_parse 7 = .ok (.putfield 29, 3) := by decide +kernel
theorem dX9_parse_10 : decode cX9_parse 10 = .ok (.iconst 1, 1) := by decide +kernel
theorem dX9_parse_11 : decode cX9_parse 11 = .ok (.istore_n 1, 1) := by decide +kernel
theorem dX9_parse_12 : decode cX9_parse 12 = .ok (.iload_n 1, 1) := by decide +kernel
theorem dX9_parse_13 : decode cX9_parse 13 = .ok (.ifCond .eq 50, 3) := by decide +kernel
theorem dX9_parse_16 : decode cX9_parse 16 = .ok (.aload_n 0, 1) := by decide +kernel
theorem dX9_parse_17 : decode cX9_parse 17 = .ok (.getfield 29, 3) := by decide +kernel
theorem dX9_parse_20 : decode cX9_parse 20 = .ok (.bipush 10, 2) := by decide +kernel
theorem dX9_parse_22 : decode cX9_parse 22 = .ok (.if_icmp .ge 41, 3) := by decide +kernel
theorem dX9_parse_25 : decode cX9_parse 25 = .ok (.aload_n 0, 1) := by decide +kernel
theorem dX9_parse_26 : decode cX9_parse 26 = .ok (.aload_n 0, 1) := by decide +kernel
theorem dX9_parse_27 : decode cX9_parse 27 = .ok (.getfield 17, 3) := by decide +kernel
theorem dX9_parse_30 : decode cX9_parse 30 = .ok (.aload_n 0, 1) := by decide +kernel
theorem dX9_parse_31 : decode cX9_parse 31 = .ok (.getfield 29, 3) := by decide +kernel
theorem dX9_parse_34 : decode cX9_parse 34 = .ok (.aaload, 1) := by decide +kernel
theorem dX9_parse_35 : decode cX9_parse 35 = .ok (.invokevirtual 32, 3) := by decide +kernel
theorem dX9_parse_38 : decode cX9_parse 38 = .ok (.ifCond .ne 5, 3) := by decide +kernel
theorem dX9_parse_41 : decode cX9_parse 41 = .ok (.iconst 0, 1) := by decide +kernel
theorem dX9_parse_42 : decode cX9_parse 42 = .ok (.ireturn, 1) := by decide +kernel
theorem dX9_parse_43 : decode cX9_parse 43 = .ok (.aload_n 0, 1) := by decide +kernel
theorem dX9_parse_44 : decode cX9_parse 44 = .ok (.dup, 1) := by decide +kernel
theorem dX9_parse_45 : decode cX9_parse 45 = .ok (.getfield 29, 3) := by decide +kernel
theorem dX9_parse_48 : decode cX9_parse 48 = .ok (.iconst 1, 1) := by decide +kernel
theorem dX9_parse_49 : decode cX9_parse 49 = .ok (.iadd, 1) := by decide +kernel
theorem dX9_parse_50 : decode cX9_parse 50 = .ok (.putfield 29, 3) := by decide +kernel
theorem dX9_parse_53 : decode cX9_parse 53 = .ok (.aload_n 0, 1) := by decide +kernel
theorem dX9_parse_54 : decode cX9_parse 54 = .ok (.bipush 59, 2) := by decide +kernel
theorem dX9_parse_56 : decode cX9_parse 56 = .ok (.invokevirtual 36, 3) := by decide +kernel
theorem dX9_parse_59 : decode cX9_parse 59 = .ok (.istore_n 1, 1) := by decide +kernel
theorem dX9_parse_60 : decode cX9_parse 60 = .ok (.goto (-48), 3) := by decide +kernel
theorem dX9_parse_63 : decode cX9_parse 63 = .ok (.iload_n 1, 1) := by decide +kernel
theorem dX9_parse_64 : decode cX9_parse 64 = .ok (.ifCond .ne 18, 3) := by decide +kernel
theorem dX9_parse_67 : decode cX9_parse 67 = .ok (.aload_n 0, 1) := by decide +kernel
theorem dX9_parse_68 : decode cX9_parse 68 = .ok (.getfield 26, 3) := by decide +kernel
theorem dX9_parse_71 : decode cX9_parse 71 = .ok (.aload_n 0, 1) := by decide +kernel
theorem dX9_parse_72 : decode cX9_parse 72 = .ok (.getfield 22, 3) := by decide +kernel
theorem dX9_parse_75 : decode cX9_parse 75 = .ok (.if_icmp .ne 7, 3) := by decide +kernel
theorem dX9_parse_78 : decode cX9_parse 78 = .ok (.iconst 1, 1) := by decide +kernel
theorem dX9_parse_79 : decode cX9_parse 79 = .ok (.goto 4, 3) := by decide +kernel
theorem dX9_parse_82 : decode cX9_parse 82 = .ok (.iconst 0, 1) := by decide +kernel
theorem dX9_parse_83 : decode cX9_parse 83 = .ok (.ireturn, 1) := by decide +kernel
theorem dX9_readCommand_0 : decode cX9_readCommand 0 = .ok (.aload_n 0, 1) := by decide +kernel
theorem dX9_readCommand_1 : decode cX9_readCommand 1 = .ok (.invokevirtual 40, 3) := by decide +kernel
theorem dX9_readCommand_4 : decode cX9_readCommand 4 = .ok (.astore_n 2, 1) := by decide +kernel
theorem dX9_readCommand_5 : decode cX9_readCommand 5 = .ok (.aload_n 2, 1) := by decide +kernel
theorem dX9_readCommand_6 : decode cX9_readCommand 6 = .ok (.ifnonnull 5, 3) := by decide +kernel
theorem dX9_readCommand_9 : decode cX9_readCommand 9 = .ok (.iconst 0, 1) := by decide +kernel
theorem dX9_readCommand_10 : decode cX9_readCommand 10 = .ok (.ireturn, 1) := by decide +kernel
theorem dX9_readCommand_11 : decode cX9_readCommand 11 = .ok (.aload_n 1, 1) := by decide +kernel
theorem dX9_readCommand_12 : decode cX9_readCommand 12 = .ok (.aload_n 2, 1) := by decide +kernel
theorem dX9_readCommand_13 : decode cX9_readCommand 13 = .ok (.iconst 0, 1) := by decide +kernel
theorem dX9_readCommand_14 : decode cX9_readCommand 14 = .ok (.iconst 0, 1) := by decide +kernel
theorem dX9_readCommand_15 : decode cX9_readCommand 15 = .ok (.iconst 0, 1) := by decide +kernel
theorem dX9_readCommand_16 : decode cX9_readCommand 16 = .ok (.invokevirtual 44, 3) := by decide +kernel
theorem dX9_readCommand_19 : decode cX9_readCommand 19 = .ok (.pop, 1) := by decide +kernel
theorem dX9_readCommand_20 : decode cX9_readCommand 20 = .ok (.iconst 0, 1) := by decide +kernel
theorem dX9_readCommand_21 : decode cX9_readCommand 21 = .ok (.istore_n 3, 1) := by decide +kernel
theorem dX9_readCommand_22 : decode cX9_readCommand 22 = .ok (.iconst 0, 1) := by decide +kernel
theorem dX9_readCommand_23 : decode cX9_readCommand 23 = .ok (.istore 4, 2) := by decide +kernel
theorem dX9_readCommand_25 : decode cX9_readCommand 25 = .ok (.iload 4, 2) := by decide +kernel
theorem dX9_readCommand_27 : decode cX9_readCommand 27 = .ok (.aload_n 2, 1) := by decide +kernel
theorem dX9_readCommand_28 : decode cX9_readCommand 28 = .ok (.getfield 48, 3) := by decide +kernel
theorem dX9_readCommand_31 : decode cX9_readCommand 31 = .ok (.invokevirtual 54, 3) := by decide +kernel
theorem dX9_readCommand_34 : decode cX9_readCommand 34 = .ok (.if_icmp .ge 80, 3) := by decide +kernel
theorem dX9_readCommand_37 : decode cX9_readCommand 37 = .ok (.aload_n 2, 1) := by decide +kernel
theorem dX9_readCommand_38 : decode cX9_readCommand 38 = .ok (.getfield 48, 3) := by decide +kernel
theorem dX9_readCommand_41 : decode cX9_readCommand 41 = .ok (.iload 4, 2) := by decide +kernel
theorem dX9_readCommand_43 : decode cX9_readCommand 43 = .ok (.invokevirtual 59, 3) := by decide +kernel
theorem dX9_readCommand_46 : decode cX9_readCommand 46 = .ok (.istore 5, 2) := by decide +kernel
theorem dX9_readCommand_48 : decode cX9_readCommand 48 = .ok (.iload 5, 2) := by decide +kernel
theorem dX9_readCommand_50 : decode cX9_readCommand 50 = .ok (.bipush 32, 2) := by decide +kernel
theorem dX9_readCommand_52 : decode cX9_readCommand 52 = .ok (.if_icmp .ne 14, 3) := by decide +kernel
theorem dX9_readCommand_55 : decode cX9_readCommand 55 = .ok (.aload_n 0, 1) := by decide +kernel
theorem dX9_readCommand_56 : decode cX9_readCommand 56 = .ok (.bipush 32, 2) := by decide +kernel
theorem dX9_readCommand_58 : decode cX9_readCommand 58 = .ok (.invokevirtual 36, 3) := by decide +kernel
theorem dX9_readCommand_61 : decode cX9_readCommand 61 = .ok (.ifCond .ne 47, 3) := by decide +kernel
theorem dX9_readCommand_64 : decode cX9_readCommand 64 = .ok (.iconst 0, 1) := by decide +kernel
theorem dX9_readCommand_65 : decode cX9_readCommand 65 = .ok (.ireturn, 1) := by decide +kernel
theorem dX9_readCommand_66 : decode cX9_readCommand 66 = .ok (.iload 5, 2) := by decide +kernel
theorem dX9_readCommand_68 : decode cX9_readCommand 68 = .ok (.bipush 115, 2) := by decide +kernel
theorem dX9_readCommand_70 : decode cX9_readCommand 70 = .ok (.if_icmp .ne 10, 3) := by decide +kernel
theorem dX9_readCommand_73 : decode cX9_readCommand 73 = .ok (.aload_n 0, 1) := by decide +kernel
theorem dX9_readCommand_74 : decode cX9_readCommand 74 = .ok (.invokevirtual 63, 3) := by decide +kernel
theorem dX9_readCommand_77 : decode cX9_readCommand 77 = .ok (.goto 12, 3) := by decide +kernel
theorem dX9_readCommand_80 : decode cX9_readCommand 80 = .ok (.aload_n 0, 1) := by decide +kernel
theorem dX9_readCommand_81 : decode cX9_readCommand 81 = .ok (.iload 5, 2) := by decide +kernel
theorem dX9_readCommand_83 : decode cX9_readCommand 83 = .ok (.bipush 48, 2) := by decide +kernel
theorem dX9_readCommand_85 : decode cX9_readCommand 85 = .ok (.isub, 1) := by decide +kernel
theorem dX9_readCommand_86 : decode cX9_readCommand 86 = .ok (.invokevirtual 66, 3) := by decide +kernel
theorem dX9_readCommand_89 : decode cX9_readCommand 89 = .ok (.istore 6, 2) := by decide +kernel
theorem dX9_readCommand_91 : decode cX9_readCommand 91 = .ok (.iload 6, 2) := by decide +kernel
theorem dX9_readCommand_93 : decode cX9_readCommand 93 = .ok (.ifCond .ge 5, 3) := by decide +kernel
theorem dX9_readCommand_96 : decode cX9_readCommand 96 = .ok (.iconst 0, 1) := by decide +kernel
theorem dX9_readCommand_97 : decode cX9_readCommand 97 = .ok (.ireturn, 1) := by decide +kernel
theorem dX9_readCommand_98 : decode cX9_readCommand 98 = .ok (.aload_n 1, 1) := by decide +kernel
theorem dX9_readCommand_99 : decode cX9_readCommand 99 = .ok (.iload_n 3, 1) := by decide +kernel
theorem dX9_readCommand_100 : decode cX9_readCommand 100 = .ok (.iload 6, 2) := by decide +kernel
theorem dX9_readCommand_102 : decode cX9_readCommand 102 = .ok (.invokevirtual 70, 3) := by decide +kernel
theorem dX9_readCommand_105 : decode cX9_readCommand 105 = .ok (.iinc 3 1, 3) := by decide +kernel
theorem dX9_readCommand_108 : decode cX9_readCommand 108 = .ok (.iinc 4 1, 3) := by decide +kernel
theorem dX9_readCommand_111 : decode cX9_readCommand 111 = .ok (.goto (-86), 3) := by decide +kernel
theorem dX9_readCommand_114 : decode cX9_readCommand 114 = .ok (.iconst 1, 1) := by decide +kernel
theorem dX9_readCommand_115 : decode cX9_readCommand 115 = .ok (.ireturn, 1) := by decide +kernel
theorem dX9_readWord_0 : decode cX9_readWord 0 = .ok (.iconst 0, 1) := by decide +kernel
theorem dX9_readWord_1 : decode cX9_readWord 1 = .ok (.istore_n 1, 1) := by decide +kernel
theorem dX9_readWord_2 : decode cX9_readWord 2 = .ok (.iconst 0, 1) := by decide +kernel
theorem dX9_readWord_3 : decode cX9_readWord 3 = .ok (.istore_n 2, 1) := by decide +kernel
theorem dX9_readWord_4 : decode cX9_readWord 4 = .ok (.iload_n 2, 1) := by decide +kernel
theorem dX9_readWord_5 : decode cX9_readWord 5 = .ok (.getstatic 74, 3) := by decide +kernel
theorem dX9_readWord_8 : decode cX9_readWord 8 = .ok (.arraylength, 1) := by decide +kernel
theorem dX9_readWord_9 : decode cX9_readWord 9 = .ok (.if_icmp .ge 59, 3) := by decide +kernel
theorem dX9_readWord_12 : decode cX9_readWord 12 = .ok (.aload_n 0, 1) := by decide +kernel
theorem dX9_readWord_13 : decode cX9_readWord 13 = .ok (.getstatic 74, 3) := by decide +kernel
theorem dX9_readWord_16 : decode cX9_readWord 16 = .ok (.iload_n 2, 1) := by decide +kernel
theorem dX9_readWord_17 : decode cX9_readWord 17 = .ok (.aaload, 1) := by decide +kernel
theorem dX9_readWord_18 : decode cX9_readWord 18 = .ok (.getfield 78, 3) := by decide +kernel
theorem dX9_readWord_21 : decode cX9_readWord 21 = .ok (.invokevirtual 81, 3) := by decide +kernel
theorem dX9_readWord_24 : decode cX9_readWord 24 = .ok (.istore_n 3, 1) := by decide +kernel
theorem dX9_readWord_25 : decode cX9_readWord 25 = .ok (.iload_n 3, 1) := by decide +kernel
theorem dX9_readWord_26 : decode cX9_readWord 26 = .ok (.getstatic 74, 3) := by decide +kernel
theorem dX9_readWord_29 : decode cX9_readWord 29 = .ok (.iload_n 2, 1) := by decide +kernel
theorem dX9_readWord_30 : decode cX9_readWord 30 = .ok (.aaload, 1) := by decide +kernel
theorem dX9_readWord_31 : decode cX9_readWord 31 = .ok (.getfield 78, 3) := by decide +kernel
theorem dX9_readWord_34 : decode cX9_readWord 34 = .ok (.invokevirtual 54, 3) := by decide +kernel
theorem dX9_readWord_37 : decode cX9_readWord 37 = .ok (.if_icmp .ne 19, 3) := by decide +kernel
theorem dX9_readWord_40 : decode cX9_readWord 40 = .ok (.aload_n 0, 1) := by decide +kernel
theorem dX9_readWord_41 : decode cX9_readWord 41 = .ok (.dup, 1) := by decide +kernel
theorem dX9_readWord_42 : decode cX9_readWord 42 = .ok (.getfield 26, 3) := by decide +kernel
theorem dX9_readWord_45 : decode cX9_readWord 45 = .ok (.iload_n 3, 1) := by decide +kernel
theorem dX9_readWord_46 : decode cX9_readWord 46 = .ok (.iadd, 1) := by decide +kernel
theorem dX9_readWord_47 : decode cX9_readWord 47 = .ok (.putfield 26, 3) := by decide +kernel
theorem dX9_readWord_50 : decode cX9_readWord 50 = .ok (.getstatic 74, 3) := by decide +kernel
theorem dX9_readWord_53 : decode cX9_readWord 53 = .ok (.iload_n 2, 1) := by decide +kernel
theorem dX9_readWord_54 : decode cX9_readWord 54 = .ok (.aaload, 1) := by decide +kernel
theorem dX9_readWord_55 : decode cX9_readWord 55 = .ok (.areturn, 1) := by decide +kernel
theorem dX9_readWord_56 : decode cX9_readWord 56 = .ok (.iload_n 1, 1) := by decide +kernel
theorem dX9_readWord_57 : decode cX9_readWord 57 = .ok (.iload_n 3, 1) := by decide +kernel
theorem dX9_readWord_58 : decode cX9_readWord 58 = .ok (.invokestatic 85, 3) := by decide +kernel
theorem dX9_readWord_61 : decode cX9_readWord 61 = .ok (.istore_n 1, 1) := by decide +kernel
theorem dX9_readWord_62 : decode cX9_readWord 62 = .ok (.iinc 2 1, 3) := by decide +kernel
theorem dX9_readWord_65 : decode cX9_readWord 65 = .ok (.goto (-61), 3) := by decide +kernel
theorem dX9_readWord_68 : decode cX9_readWord 68 = .ok (.aload_n 0, 1) := by decide +kernel
theorem dX9_readWord_69 : decode cX9_readWord 69 = .ok (.dup, 1) := by decide +kernel
theorem dX9_readWord_70 : decode cX9_readWord 70 = .ok (.getfield 26, 3) := by decide +kernel
theorem dX9_readWord_73 : decode cX9_readWord 73 = .ok (.iload_n 1, 1) := by decide +kernel
theorem dX9_readWord_74 : decode cX9_readWord 74 = .ok (.iadd, 1) := by decide +kernel
theorem dX9_readWord_75 : decode cX9_readWord 75 = .ok (.putfield 26, 3) := by decide +kernel
theorem dX9_readWord_78 : decode cX9_readWord 78 = .ok (.aconst_null, 1) := by decide +kernel
theorem dX9_readWord_79 : decode cX9_readWord 79 = .ok (.areturn, 1) := by decide +kernel
theorem dX9_countSame_0 : decode cX9_countSame 0 = .ok (.iconst 0, 1) := by decide +kernel
theorem dX9_countSame_1 : decode cX9_countSame 1 = .ok (.istore_n 2, 1) := by decide +kernel
theorem dX9_countSame_2 : decode cX9_countSame 2 = .ok (.iload_n 2, 1) := by decide +kernel
theorem dX9_countSame_3 : decode cX9_countSame 3 = .ok (.aload_n 1, 1) := by decide +kernel
theorem dX9_countSame_4 : decode cX9_countSame 4 = .ok (.invokevirtual 54, 3) := by decide +kernel
theorem dX9_countSame_7 : decode cX9_countSame 7 = .ok (.if_icmp .ge 41, 3) := by decide +kernel
theorem dX9_countSame_10 : decode cX9_countSame 10 = .ok (.aload_n 0, 1) := by decide +kernel
theorem dX9_countSame_11 : decode cX9_countSame 11 = .ok (.getfield 26, 3) := by decide +kernel
theorem dX9_countSame_14 : decode cX9_countSame 14 = .ok (.iload_n 2, 1) := by decide +kernel
theorem dX9_countSame_15 : decode cX9_countSame 15 = .ok (.iadd, 1) := by decide +kernel
theorem dX9_countSame_16 : decode cX9_countSame 16 = .ok (.aload_n 0, 1) := by decide +kernel
theorem dX9_countSame_17 : decode cX9_countSame 17 = .ok (.getfield 22, 3) := by decide +kernel
theorem dX9_countSame_20 : decode cX9_countSame 20 = .ok (.if_icmp .ge 28, 3) := by decide +kernel
theorem dX9_countSame_23 : decode cX9_countSame 23 = .ok (.aload_n 1, 1) := by decide +kernel
theorem dX9_countSame_24 : decode cX9_countSame 24 = .ok (.iload_n 2, 1) := by decide +kernel
theorem dX9_countSame_25 : decode cX9_countSame 25 = .ok (.invokevirtual 59, 3) := by decide +kernel
theorem dX9_countSame_28 : decode cX9_countSame 28 = .ok (.aload_n 0, 1) := by decide +kernel
theorem dX9_countSame_29 : decode cX9_countSame 29 = .ok (.getfield 9, 3) := by decide +kernel
theorem dX9_countSame_32 : decode cX9_countSame 32 = .ok (.aload_n 0, 1) := by decide +kernel
theorem dX9_countSame_33 : decode cX9_countSame 33 = .ok (.getfield 26, 3) := by decide +kernel
theorem dX9_countSame_36 : decode cX9_countSame 36 = .ok (.iload_n 2, 1) := by decide +kernel
theorem dX9_countSame_37 : decode cX9_countSame 37 = .ok (.iadd, 1) := by decide +kernel
theorem dX9_countSame_38 : decode cX9_countSame 38 = .ok (.caload, 1) := by decide +kernel
theorem dX9_countSame_39 : decode cX9_countSame 39 = .ok (.if_icmp .ne 9, 3) := by decide +kernel
theorem dX9_countSame_42 : decode cX9_countSame 42 = .ok (.iinc 2 1, 3) := by decide +kernel
theorem dX9_countSame_45 : decode cX9_countSame 45 = .ok (.goto (-43), 3) := by decide +kernel
theorem dX9_countSame_48 : decode cX9_countSame 48 = .ok (.iload_n 2, 1) := by decide +kernel
theorem dX9_countSame_49 : decode cX9_countSame 49 = .ok (.ireturn, 1) := by decide +kernel
theorem dX9_readDigits_0 : decode cX9_readDigits 0 = .ok (.iconst 0, 1) := by decide +kernel
theorem dX9_readDigits_1 : decode cX9_readDigits 1 = .ok (.istore_n 2, 1) := by decide +kernel
theorem dX9_readDigits_2 : decode cX9_readDigits 2 = .ok (.iconst 0, 1) := by decide +kernel
theorem dX9_readDigits_3 : decode cX9_readDigits 3 = .ok (.istore_n 3, 1) := by decide +kernel
theorem dX9_readDigits_4 : decode cX9_readDigits 4 = .ok (.iload_n 3, 1) := by decide +kernel
theorem dX9_readDigits_5 : decode cX9_readDigits 5 = .ok (.iload_n 1, 1) := by decide +kernel
theorem dX9_readDigits_6 : decode cX9_readDigits 6 = .ok (.if_icmp .ge 44, 3) := by decide +kernel
theorem dX9_readDigits_9 : decode cX9_readDigits 9 = .ok (.aload_n 0, 1) := by decide +kernel
theorem dX9_readDigits_10 : decode cX9_readDigits 10 = .ok (.invokevirtual 91, 3) := by decide +kernel
theorem dX9_readDigits_13 : decode cX9_readDigits 13 = .ok (.ifCond .eq 37, 3) := by decide +kernel
theorem dX9_readDigits_16 : decode cX9_readDigits 16 = .ok (.iload_n 2, 1) := by decide +kernel
theorem dX9_readDigits_17 : decode cX9_readDigits 17 = .ok (.bipush 10, 2) := by decide +kernel
theorem dX9_readDigits_19 : decode cX9_readDigits 19 = .ok (.imul, 1) := by decide +kernel
theorem dX9_readDigits_20 : decode cX9_readDigits 20 = .ok (.aload_n 0, 1) := by decide +kernel
theorem dX9_readDigits_21 : decode cX9_readDigits 21 = .ok (.getfield 9, 3) := by decide +kernel
theorem dX9_readDigits_24 : decode cX9_readDigits 24 = .ok (.aload_n 0, 1) := by decide +kernel
theorem dX9_readDigits_25 : decode cX9_readDigits 25 = .ok (.getfield 26, 3) := by decide +kernel
theorem dX9_readDigits_28 : decode cX9_readDigits 28 = .ok (.caload, 1) := by decide +kernel
theorem dX9_readDigits_29 : decode cX9_readDigits 29 = .ok (.bipush 48, 2) := by decide +kernel
theorem dX9_readDigits_31 : decode cX9_readDigits 31 = .ok (.isub, 1) := by decide +kernel
theorem dX9_readDigits_32 : decode cX9_readDigits 32 = .ok (.iadd, 1) := by decide +kernel
theorem dX9_readDigits_33 : decode cX9_readDigits 33 = .ok (.istore_n 2, 1) := by decide +kernel
theorem dX9_readDigits_34 : decode cX9_readDigits 34 = .ok (.aload_n 0, 1) := by decide +kernel
theorem dX9_readDigits_35 : decode cX9_readDigits 35 = .ok (.dup, 1) := by decide +kernel
theorem dX9_readDigits_36 : decode cX9_readDigits 36 = .ok (.getfield 26, 3) := by decide +kernel
theorem dX9_readDigits_39 : decode cX9_readDigits 39 = .ok (.iconst 1, 1) := by decide +kernel
theorem dX9_readDigits_40 : decode cX9_readDigits 40 = .ok (.iadd, 1) := by decide +kernel
theorem dX9_readDigits_41 : decode cX9_readDigits 41 = .ok (.putfield 26, 3) := by decide +kernel
theorem dX9_readDigits_44 : decode cX9_readDigits 44 = .ok (.iinc 3 1, 3) := by decide +kernel
theorem dX9_readDigits_47 : decode cX9_readDigits 47 = .ok (.goto (-43), 3) := by decide +kernel
theorem dX9_readDigits_50 : decode cX9_readDigits 50 = .ok (.iload_n 3, 1) := by decide +kernel
theorem dX9_readDigits_51 : decode cX9_readDigits 51 = .ok (.ifCond .ne 7, 3) := by decide +kernel
theorem dX9_readDigits_54 : decode cX9_readDigits 54 = .ok (.iconst (-1), 1) := by decide +kernel
theorem dX9_readDigits_55 : decode cX9_readDigits 55 = .ok (.goto 4, 3) := by decide +kernel
theorem dX9_readDigits_58 : decode cX9_readDigits 58 = .ok (.iload_n 2, 1) := by decide +kernel
theorem dX9_readDigits_59 : decode cX9_readDigits 59 = .ok (.ireturn, 1) := by decide +kernel
theorem dX9_digitIsNext_0 : decode cX9_digitIsNext 0 = .ok (.aload_n 0, 1) := by decide +kernel
theorem dX9_digitIsNext_1 : decode cX9_digitIsNext 1 = .ok (.getfield 26, 3) := by decide +kernel
theorem dX9_digitIsNext_4 : decode cX9_digitIsNext 4 = .ok (.aload_n 0, 1) := by decide +kernel
theorem dX9_digitIsNext_5 : decode cX9_digitIsNext 5 = .ok (.getfield 22, 3) := by decide +kernel
theorem dX9_digitIsNext_8 : decode cX9_digitIsNext 8 = .ok (.if_icmp .ge 35, 3) := by decide +kernel
theorem dX9_digitIsNext_11 : decode cX9_digitIsNext 11 = .ok (.aload_n 0, 1) := by decide +kernel
theorem dX9_digitIsNext_12 : decode cX9_digitIsNext 12 = .ok (.getfield 9, 3) := by decide +kernel
theorem dX9_digitIsNext_15 : decode cX9_digitIsNext 15 = .ok (.aload_n 0, 1) := by decide +kernel
theorem dX9_digitIsNext_16 : decode cX9_digitIsNext 16 = .ok (.getfield 26, 3) := by decide +kernel
theorem dX9_digitIsNext_19 : decode cX9_digitIsNext 19 = .ok (.caload, 1) := by decide +kernel
theorem dX9_digitIsNext_20 : decode cX9_digitIsNext 20 = .ok (.bipush 48, 2) := by decide +kernel
theorem dX9_digitIsNext_22 : decode cX9_digitIsNext 22 = .ok (.if_icmp .lt 21, 3) := by decide +kernel
theorem dX9_digitIsNext_25 : decode cX9_digitIsNext 25 = .ok (.aload_n 0, 1) := by decide +kernel
theorem dX9_digitIsNext_26 : decode cX9_digitIsNext 26 = .ok (.getfield 9, 3) := by decide +kernel
theorem dX9_digitIsNext_29 : decode cX9_digitIsNext 29 = .ok (.aload_n 0, 1) := by decide +kernel
theorem dX9_digitIsNext_30 : decode cX9_digitIsNext 30 = .ok (.getfield 26, 3) := by decide +kernel
theorem dX9_digitIsNext_33 : decode cX9_digitIsNext 33 = .ok (.caload, 1) := by decide +kernel
theorem dX9_digitIsNext_34 : decode cX9_digitIsNext 34 = .ok (.bipush 57, 2) := by decide +kernel
theorem dX9_digitIsNext_36 : decode cX9_digitIsNext 36 = .ok (.if_icmp .gt 7, 3) := by decide +kernel
theorem dX9_digitIsNext_39 : decode cX9_digitIsNext 39 = .ok (.iconst 1, 1) := by decide +kernel
theorem dX9_digitIsNext_40 : decode cX9_digitIsNext 40 = .ok (.goto 4, 3) := by decide +kernel
theorem dX9_digitIsNext_43 : decode cX9_digitIsNext 43 = .ok (.iconst 0, 1) := by decide +kernel
theorem dX9_digitIsNext_44 : decode cX9_digitIsNext 44 = .ok (.ireturn, 1) := by decide +kernel
theorem dX9_readSide_0 : decode cX9_readSide 0 = .ok (.aload_n 0, 1) := by decide +kernel
theorem dX9_readSide_1 : decode cX9_readSide 1 = .ok (.bipush 108, 2) := by decide +kernel
theorem dX9_readSide_3 : decode cX9_readSide 3 = .ok (.invokevirtual 36, 3) := by decide +kernel
theorem dX9_readSide_6 : decode cX9_readSide 6 = .ok (.ifCond .eq 6, 3) := by decide +kernel
theorem dX9_readSide_9 : decode cX9_readSide 9 = .ok (.bipush 108, 2) := by decide +kernel
theorem dX9_readSide_11 : decode cX9_readSide 11 = .ok (.ireturn, 1) := by decide +kernel
theorem dX9_readSide_12 : decode cX9_readSide 12 = .ok (.aload_n 0, 1) := by decide +kernel
theorem dX9_readSide_13 : decode cX9_readSide 13 = .ok (.bipush 114, 2) := by decide +kernel
theorem dX9_readSide_15 : decode cX9_readSide 15 = .ok (.invokevirtual 36, 3) := by decide +kernel
theorem dX9_readSide_18 : decode cX9_readSide 18 = .ok (.ifCond .eq 8, 3) := by decide +kernel
theorem dX9_readSide_21 : decode cX9_readSide 21 = .ok (.bipush 114, 2) := by decide +kernel
theorem dX9_readSide_23 : decode cX9_readSide 23 = .ok (.goto 4, 3) := by decide +kernel
theorem dX9_readSide_26 : decode cX9_readSide 26 = .ok (.iconst (-1), 1) := by decide +kernel
theorem dX9_readSide_27 : decode cX9_readSide 27 = .ok (.ireturn, 1) := by decide +kernel
theorem dX9_readSign_0 : decode cX9_readSign 0 = .ok (.aload_n 0, 1) := by decide +kernel
theorem dX9_readSign_1 : decode cX9_readSign 1 = .ok (.getfield 26, 3) := by decide +kernel
theorem dX9_readSign_4 : decode cX9_readSign 4 = .ok (.aload_n 0, 1) := by decide +kernel
theorem dX9_readSign_5 : decode cX9_readSign 5 = .ok (.getfield 22, 3) := by decide +kernel
theorem dX9_readSign_8 : decode cX9_readSign 8 = .ok (.if_icmp .ge 28, 3) := by decide +kernel
theorem dX9_readSign_11 : decode cX9_readSign 11 = .ok (.aload_n 0, 1) := by decide +kernel
theorem dX9_readSign_12 : decode cX9_readSign 12 = .ok (.getfield 9, 3) := by decide +kernel
theorem dX9_readSign_15 : decode cX9_readSign 15 = .ok (.aload_n 0, 1) := by decide +kernel
theorem dX9_readSign_16 : decode cX9_readSign 16 = .ok (.getfield 26, 3) := by decide +kernel
theorem dX9_readSign_19 : decode cX9_readSign 19 = .ok (.caload, 1) := by decide +kernel
theorem dX9_readSign_20 : decode cX9_readSign 20 = .ok (.iload_n 1, 1) := by decide +kernel
theorem dX9_readSign_21 : decode cX9_readSign 21 = .ok (.if_icmp .ne 15, 3) := by decide +kernel
theorem dX9_readSign_24 : decode cX9_readSign 24 = .ok (.aload_n 0, 1) := by decide +kernel
theorem dX9_readSign_25 : decode cX9_readSign 25 = .ok (.dup, 1) := by decide +kernel
theorem dX9_readSign_26 : decode cX9_readSign 26 = .ok (.getfield 26, 3) := by decide +kernel
theorem dX9_readSign_29 : decode cX9_readSign 29 = .ok (.iconst 1, 1) := by decide +kernel
theorem dX9_readSign_30 : decode cX9_readSign 30 = .ok (.iadd, 1) := by decide +kernel
theorem dX9_readSign_31 : decode cX9_readSign 31 = .ok (.putfield 26, 3) := by decide +kernel
theorem dX9_readSign_34 : decode cX9_readSign 34 = .ok (.iconst 1, 1) := by decide +kernel
theorem dX9_readSign_35 : decode cX9_readSign 35 = .ok (.ireturn, 1) := by decide +kernel
theorem dX9_readSign_36 : decode cX9_readSign 36 = .ok (.iconst 0, 1) := by decide +kernel
theorem dX9_readSign_37 : decode cX9_readSign 37 = .ok (.ireturn, 1) := by decide +kernel
theorem dX10_init_0 : decode cX10_init 0 = .ok (.aload_n 0, 1) := by decide +kernel
theorem dX10_init_1 : decode cX10_init 1 = .ok (.invokespecial 3, 3) := by decide +kernel
theorem dX10_init_4 : decode cX10_init 4 = .ok (.aload_n 0, 1) := by decide +kernel
theorem dX10_init_5 : decode cX10_init 5 = .ok (.bipush 8, 2) := by decide +kernel
theorem dX10_init_7 : decode cX10_init 7 = .ok (.newarray .int, 2) := by decide +kernel
theorem dX10_init_9 : decode cX10_init 9 = .ok (.putfield 9, 3) := by decide +kernel
theorem dX10_init_12 : decode cX10_init 12 = .ok (.aload_n 0, 1) := by decide +kernel
theorem dX10_init_13 : decode cX10_init 13 = .ok (.bipush 8, 2) := by decide +kernel
theorem dX10_init_15 : decode cX10_init 15 = .ok (.newarray .int, 2) := by decide +kernel
theorem dX10_init_17 : decode cX10_init 17 = .ok (.putfield 15, 3) := by decide +kernel
theorem dX10_init_20 : decode cX10_init 20 = .ok (.aload_n 0, 1) := by decide +kernel
theorem dX10_init_21 : decode cX10_init 21 = .ok (.bipush 8, 2) := by decide +kernel
theorem dX10_init_23 : decode cX10_init 23 = .ok (.newarray .int, 2) := by decide +kernel
theorem dX10_init_25 : decode cX10_init 25 = .ok (.putfield 18, 3) := by decide +kernel
theorem dX10_init_28 : decode cX10_init 28 = .ok (.aload_n 0, 1) := by decide +kernel
theorem dX10_init_29 : decode cX10_init 29 = .ok (.bipush 8, 2) := by decide +kernel
theorem dX10_init_31 : decode cX10_init 31 = .ok (.newarray .boolean, 2) := by decide +kernel
theorem dX10_init_33 : decode cX10_init 33 = .ok (.putfield 21, 3) := by decide +kernel
theorem dX10_init_36 : decode cX10_init 36 = .ok (.return_, 1) := by decide +kernel
theorem dX10_copyFrom_0 : decode cX10_copyFrom 0 = .ok (.iconst 0, 1) := by decide +kernel
theorem dX10_copyFrom_1 : decode cX10_copyFrom 1 = .ok (.istore_n 2, 1) := by decide +kernel
theorem dX10_copyFrom_2 : decode cX10_copyFrom 2 = .ok (.iload_n 2, 1) := by decide +kernel
theorem dX10_copyFrom_3 : decode cX10_copyFrom 3 = .ok (.bipush 8, 2) := by decide +kernel
theorem dX10_copyFrom_5 : decode cX10_copyFrom 5 = .ok (.if_icmp .ge 57, 3) := by decide +kernel
theorem dX10_copyFrom_8 : decode cX10_copyFrom 8 = .ok (.aload_n 0, 1) := by decide +kernel
theorem dX10_copyFrom_9 : decode cX10_copyFrom 9 = .ok (.getfield 9, 3) := by decide +kernel
theorem dX10_copyFrom_12 : decode cX10_copyFrom 12 = .ok (.iload_n 2, 1) := by decide +kernel
theorem dX10_copyFrom_13 : decode cX10_copyFrom 13 = .ok (.aload_n 1, 1) := by decide +kernel
theorem dX10_copyFrom_14 : decode cX10_copyFrom 14 = .ok (.getfield 9, 3) := by decide +kernel
theorem dX10_copyFrom_17 : decode cX10_copyFrom 17 = .ok (.iload_n 2, 1) := by decide +kernel
theorem dX10_copyFrom_18 : decode cX10_copyFrom 18 = .ok (.iaload, 1) := by decide +kernel
theorem dX10_copyFrom_19 : decode cX10_copyFrom 19 = .ok (.iastore, 1) := by decide +kernel
theorem dX10_copyFrom_20 : decode cX10_copyFrom 20 = .ok (.aload_n 0, 1) := by decide +kernel
theorem dX10_copyFrom_21 : decode cX10_copyFrom 21 = .ok (.getfield 15, 3) := by decide +kernel
theorem dX10_copyFrom_24 : decode cX10_copyFrom 24 = .ok (.iload_n 2, 1) := by decide +kernel
theorem dX10_copyFrom_25 : decode cX10_copyFrom 25 = .ok (.aload_n 1, 1) := by decide +kernel
theorem dX10_copyFrom_26 : decode cX10_copyFrom 26 = .ok (.getfield 15, 3) := by decide +kernel
theorem dX10_copyFrom_29 : decode cX10_copyFrom 29 = .ok (.iload_n 2, 1) := by decide +kernel
theorem dX10_copyFrom_30 : decode cX10_copyFrom 30 = .ok (.iaload, 1) := by decide +kernel
theorem dX10_copyFrom_31 : decode cX10_copyFrom 31 = .ok (.iastore, 1) := by decide +kernel
theorem dX10_copyFrom_32 : decode cX10_copyFrom 32 = .ok (.aload_n 0, 1) := by decide +kernel
theorem dX10_copyFrom_33 : decode cX10_copyFrom 33 = .ok (.getfield 18, 3) := by decide +kernel
theorem dX10_copyFrom_36 : decode cX10_copyFrom 36 = .ok (.iload_n 2, 1) := by decide +kernel
theorem dX10_copyFrom_37 : decode cX10_copyFrom 37 = .ok (.aload_n 1, 1) := by decide +kernel
theorem dX10_copyFrom_38 : decode cX10_copyFrom 38 = .ok (.getfield 18, 3) := by decide +kernel
theorem dX10_copyFrom_41 : decode cX10_copyFrom 41 = .ok (.iload_n 2, 1) := by decide +kernel
theorem dX10_copyFrom_42 : decode cX10_copyFrom 42 = .ok (.iaload, 1) := by decide +kernel
theorem dX10_copyFrom_43 : decode cX10_copyFrom 43 = .ok (.iastore, 1) := by decide +kernel
theorem dX10_copyFrom_44 : decode cX10_copyFrom 44 = .ok (.aload_n 0, 1) := by decide +kernel
theorem dX10_copyFrom_45 : decode cX10_copyFrom 45 = .ok (.getfield 21, 3) := by decide +kernel
theorem dX10_copyFrom_48 : decode cX10_copyFrom 48 = .ok (.iload_n 2, 1) := by decide +kernel
theorem dX10_copyFrom_49 : decode cX10_copyFrom 49 = .ok (.aload_n 1, 1) := by decide +kernel
theorem dX10_copyFrom_50 : decode cX10_copyFrom 50 = .ok (.getfield 21, 3) := by decide +kernel
theorem dX10_copyFrom_53 : decode cX10_copyFrom 53 = .ok (.iload_n 2, 1) := by decide +kernel
theorem dX10_copyFrom_54 : decode cX10_copyFrom 54 = .ok (.baload, 1) := by decide +kernel
theorem dX10_copyFrom_55 : decode cX10_copyFrom 55 = .ok (.bastore, 1) := by decide +kernel
theorem dX10_copyFrom_56 : decode cX10_copyFrom 56 = .ok (.iinc 2 1, 3) := by decide +kernel
theorem dX10_copyFrom_59 : decode cX10_copyFrom 59 = .ok (.goto (-57), 3) := by decide +kernel
theorem dX10_copyFrom_62 : decode cX10_copyFrom 62 = .ok (.aload_n 0, 1) := by decide +kernel
theorem dX10_copyFrom_63 : decode cX10_copyFrom 63 = .ok (.aload_n 1, 1) := by decide +kernel
theorem dX10_copyFrom_64 : decode cX10_copyFrom 64 = .ok (.getfield 25, 3) := by decide +kernel
theorem dX10_copyFrom_67 : decode cX10_copyFrom 67 = .ok (.putfield 25, 3) := by decide +kernel
theorem dX10_copyFrom_70 : decode cX10_copyFrom 70 = .ok (.return_, 1) := by decide +kernel
theorem dX10_has_0 : decode cX10_has 0 = .ok (.iload_n 1, 1) := by decide +kernel
theorem dX10_has_1 : decode cX10_has 1 = .ok (.ifCond .lt 15, 3) := by decide +kernel
theorem dX10_has_4 : decode cX10_has 4 = .ok (.iload_n 1, 1) := by decide +kernel
theorem dX10_has_5 : decode cX10_has 5 = .ok (.aload_n 0, 1) := by decide +kernel
theorem dX10_has_6 : decode cX10_has 6 = .ok (.getfield 25, 3) := by decide +kernel
theorem dX10_has_9 : decode cX10_has 9 = .ok (.if_icmp .ge 7, 3) := by decide +kernel
theorem dX10_has_12 : decode cX10_has 12 = .ok (.iconst 1, 1) := by decide +kernel
theorem dX10_has_13 : decode cX10_has 13 = .ok (.goto 4, 3) := by decide +kernel
theorem dX10_has_16 : decode cX10_has 16 = .ok (.iconst 0, 1) := by decide +kernel
theorem dX10_has_17 : decode cX10_has 17 = .ok (.ireturn, 1) := by decide +kernel
theorem dX10_place_0 : decode cX10_place 0 = .ok (.aload_n 0, 1) := by decide +kernel
theorem dX10_place_1 : decode cX10_place 1 = .ok (.getfield 9, 3) := by decide +kernel
theorem dX10_place_4 : decode cX10_place 4 = .ok (.aload_n 0, 1) := by decide +kernel
theorem dX10_place_5 : decode cX10_place 5 = .ok (.getfield 25, 3) := by decide +kernel
theorem dX10_place_8 : decode cX10_place 8 = .ok (.iload_n 1, 1) := by decide +kernel
theorem dX10_place_9 : decode cX10_place 9 = .ok (.iastore, 1) := by decide +kernel
theorem dX10_place_10 : decode cX10_place 10 = .ok (.aload_n 0, 1) := by decide +kernel
theorem dX10_place_11 : decode cX10_place 11 = .ok (.getfield 15, 3) := by decide +kernel
theorem dX10_place_14 : decode cX10_place 14 = .ok (.aload_n 0, 1) := by decide +kernel
theorem dX10_place_15 : decode cX10_place 15 = .ok (.getfield 25, 3) := by decide +kernel
theorem dX10_place_18 : decode cX10_place 18 = .ok (.iload_n 2, 1) := by decide +kernel
theorem dX10_place_19 : decode cX10_place 19 = .ok (.iastore, 1) := by decide +kernel
theorem dX10_place_20 : decode cX10_place 20 = .ok (.aload_n 0, 1) := by decide +kernel
theorem dX10_place_21 : decode cX10_place 21 = .ok (.getfield 18, 3) := by decide +kernel
theorem dX10_place_24 : decode cX10_place 24 = .ok (.aload_n 0, 1) := by decide +kernel
theorem dX10_place_25 : decode cX10_place 25 = .ok (.getfield 25, 3) := by decide +kernel
theorem dX10_place_28 : decode cX10_place 28 = .ok (.iload_n 3, 1) := by decide +kernel
theorem dX10_place_29 : decode cX10_place 29 = .ok (.iastore, 1) := by decide +kernel
theorem dX10_place_30 : decode cX10_place 30 = .ok (.aload_n 0, 1) := by decide +kernel
theorem dX10_place_31 : decode cX10_place 31 = .ok (.getfield 21, 3) := by decide +kernel
theorem dX10_place_34 : decode cX10_place 34 = .ok (.aload_n 0, 1) := by decide +kernel
theorem dX10_place_35 : decode cX10_place 35 = .ok (.getfield 25, 3) := by decide +kernel
theorem dX10_place_38 : decode cX10_place 38 = .ok (.iconst 0, 1) := by decide +kernel
theorem dX10_place_39 : decode cX10_place 39 = .ok (.bastore, 1) := by decide +kernel
theorem dX10_place_40 : decode cX10_place 40 = .ok (.aload_n 0, 1) := by decide +kernel
theorem dX10_place_41 : decode cX10_place 41 = .ok (.dup, 1) := by decide +kernel
theorem dX10_place_42 : decode cX10_place 42 = .ok (.getfield 25, 3) := by decide +kernel
theorem dX10_place_45 : decode cX10_place 45 = .ok (.iconst 1, 1) := by decide +kernel
theorem dX10_place_46 : decode cX10_place 46 = .ok (.iadd, 1) := by decide +kernel
theorem dX10_place_47 : decode cX10_place 47 = .ok (.putfield 25, 3) := by decide +kernel
theorem dX10_place_50 : decode cX10_place 50 = .ok (.aload_n 0, 1) := by decide +kernel
theorem dX10_place_51 : decode cX10_place 51 = .ok (.getfield 25, 3) := by decide +kernel
theorem dX10_place_54 : decode cX10_place 54 = .ok (.iconst 1, 1) := by decide +kernel
theorem dX10_place_55 : decode cX10_place 55 = .ok (.isub, 1) := by decide +kernel
theorem dX10_place_56 : decode cX10_place 56 = .ok (.ireturn, 1) := by decide +kernel
theorem dX10_setLit_0 : decode cX10_setLit 0 = .ok (.aload_n 0, 1) := by decide +kernel
theorem dX10_setLit_1 : decode cX10_setLit 1 = .ok (.getfield 21, 3) := by decide +kernel
theorem dX10_setLit_4 : decode cX10_setLit 4 = .ok (.iload_n 1, 1) := by decide +kernel
theorem dX10_setLit_5 : decode cX10_setLit 5 = .ok (.iload_n 2, 1) := by decide +kernel
theorem dX10_setLit_6 : decode cX10_setLit 6 = .ok (.bastore, 1) := by decide +kernel
theorem dX10_setLit_7 : decode cX10_setLit 7 = .ok (.aload_n 0, 1) := by decide +kernel
theorem dX10_setLit_8 : decode cX10_setLit 8 = .ok (.invokevirtual 29, 3) := by decide +kernel
theorem dX10_setLit_11 : decode cX10_setLit 11 = .ok (.ireturn, 1) := by decide +kernel
theorem dX10_pour_0 : decode cX10_pour 0 = .ok (.aload_n 0, 1) := by decide +kernel
theorem dX10_pour_1 : decode cX10_pour 1 = .ok (.getfield 18, 3) := by decide +kernel
theorem dX10_pour_4 : decode cX10_pour 4 = .ok (.iload_n 1, 1) := by decide +kernel
theorem dX10_pour_5 : decode cX10_pour 5 = .ok (.dup2, 1) := by decide +kernel
theorem dX10_pour_6 : decode cX10_pour 6 = .ok (.iaload, 1) := by decide +kernel
theorem dX10_pour_7 : decode cX10_pour 7 = .ok (.iload_n 2, 1) := by decide +kernel
theorem dX10_pour_8 : decode cX10_pour 8 = .ok (.iadd, 1) := by decide +kernel
theorem dX10_pour_9 : decode cX10_pour 9 = .ok (.iastore, 1) := by decide +kernel
theorem dX10_pour_10 : decode cX10_pour 10 = .ok (.aload_n 0, 1) := by decide +kernel
theorem dX10_pour_11 : decode cX10_pour 11 = .ok (.getfield 18, 3) := by decide +kernel
theorem dX10_pour_14 : decode cX10_pour 14 = .ok (.iload_n 1, 1) := by decide +kernel
theorem dX10_pour_15 : decode cX10_pour 15 = .ok (.iaload, 1) := by decide +kernel
theorem dX10_pour_16 : decode cX10_pour 16 = .ok (.ireturn, 1) := by decide +kernel
theorem dX10_countLit_0 : decode cX10_countLit 0 = .ok (.iconst 0, 1) := by decide +kernel
theorem dX10_countLit_1 : decode cX10_countLit 1 = .ok (.istore_n 1, 1) := by decide +kernel
theorem dX10_countLit_2 : decode cX10_countLit 2 = .ok (.iconst 0, 1) := by decide +kernel
theorem dX10_countLit_3 : decode cX10_countLit 3 = .ok (.istore_n 2, 1) := by decide +kernel
theorem dX10_countLit_4 : decode cX10_countLit 4 = .ok (.iload_n 2, 1) := by decide +kernel
theorem dX10_countLit_5 : decode cX10_countLit 5 = .ok (.aload_n 0, 1) := by decide +kernel
theorem dX10_countLit_6 : decode cX10_countLit 6 = .ok (.getfield 25, 3) := by decide +kernel
theorem dX10_countLit_9 : decode cX10_countLit 9 = .ok (.if_icmp .ge 21, 3) := by decide +kernel
theorem dX10_countLit_12 : decode cX10_countLit 12 = .ok (.aload_n 0, 1) := by decide +kernel
theorem dX10_countLit_13 : decode cX10_countLit 13 = .ok (.getfield 21, 3) := by decide +kernel
theorem dX10_countLit_16 : decode cX10_countLit 16 = .ok (.iload_n 2, 1) := by decide +kernel
theorem dX10_countLit_17 : decode cX10_countLit 17 = .ok (.baload, 1) := by decide +kernel
theorem dX10_countLit_18 : decode cX10_countLit 18 = .ok (.ifCond .eq 6, 3) := by decide +kernel
theorem dX10_countLit_21 : decode cX10_countLit 21 = .ok (.iinc 1 1, 3) := by decide +kernel
theorem dX10_countLit_24 : decode cX10_countLit 24 = .ok (.iinc 2 1, 3) := by decide +kernel
theorem dX10_countLit_27 : decode cX10_countLit 27 = .ok (.goto (-23), 3) := by decide +kernel
theorem dX10_countLit_30 : decode cX10_countLit 30 = .ok (.iload_n 1, 1) := by decide +kernel
theorem dX10_countLit_31 : decode cX10_countLit 31 = .ok (.ireturn, 1) := by decide +kernel
theorem dX10_pattern_0 : decode cX10_pattern 0 = .ok (.iconst 0, 1) := by decide +kernel
theorem dX10_pattern_1 : decode cX10_pattern 1 = .ok (.istore_n 1, 1) := by decide +kernel
theorem dX10_pattern_2 : decode cX10_pattern 2 = .ok (.iconst 0, 1) := by decide +kernel
theorem dX10_pattern_3 : decode cX10_pattern 3 = .ok (.istore_n 2, 1) := by decide +kernel
theorem dX10_pattern_4 : decode cX10_pattern 4 = .ok (.iload_n 2, 1) := by decide +kernel
theorem dX10_pattern_5 : decode cX10_pattern 5 = .ok (.aload_n 0, 1) := by decide +kernel
theorem dX10_pattern_6 : decode cX10_pattern 6 = .ok (.getfield 25, 3) := by decide +kernel
theorem dX10_pattern_9 : decode cX10_pattern 9 = .ok (.if_icmp .ge 27, 3) := by decide +kernel
theorem dX10_pattern_12 : decode cX10_pattern 12 = .ok (.aload_n 0, 1) := by decide +kernel
theorem dX10_pattern_13 : decode cX10_pattern 13 = .ok (.getfield 21, 3) := by decide +kernel
theorem dX10_pattern_16 : decode cX10_pattern 16 = .ok (.iload_n 2, 1) := by decide +kernel
theorem dX10_pattern_17 : decode cX10_pattern 17 = .ok (.baload, 1) := by decide +kernel
theorem dX10_pattern_18 : decode cX10_pattern 18 = .ok (.ifCond .eq 12, 3) := by decide +kernel
theorem dX10_pattern_21 : decode cX10_pattern 21 = .ok (.iload_n 1, 1) := by decide +kernel
theorem dX10_pattern_22 : decode cX10_pattern 22 = .ok (.aload_n 0, 1) := by decide +kernel
theorem dX10_pattern_23 : decode cX10_pattern 23 = .ok (.getfield 15, 3) := by decide +kernel
theorem dX10_pattern_26 : decode cX10_pattern 26 = .ok (.iload_n 2, 1) := by decide +kernel
theorem dX10_pattern_27 : decode cX10_pattern 27 = .ok (.iaload, 1) := by decide +kernel
theorem dX10_pattern_28 : decode cX10_pattern 28 = .ok (.ixor, 1) := by decide +kernel
theorem dX10_pattern_29 : decode cX10_pattern 29 = .ok (.istore_n 1, 1) := by decide +kernel
theorem dX10_pattern_30 : decode cX10_pattern 30 = .ok (.iinc 2 1, 3) := by decide +kernel
theorem dX10_pattern_33 : decode cX10_pattern 33 = .ok (.goto (-29), 3) := by decide +kernel
theorem dX10_pattern_36 : decode cX10_pattern 36 = .ok (.iload_n 1, 1) := by decide +kernel
theorem dX10_pattern_37 : decode cX10_pattern 37 = .ok (.ireturn, 1) := by decide +kernel
theorem dX10_atRank_0 : decode cX10_atRank 0 = .ok (.iconst 0, 1) := by decide +kernel
theorem dX10_atRank_1 : decode cX10_atRank 1 = .ok (.istore_n 2, 1) := by decide +kernel
theorem dX10_atRank_2 : decode cX10_atRank 2 = .ok (.iload_n 2, 1) := by decide +kernel
theorem dX10_atRank_3 : decode cX10_atRank 3 = .ok (.aload_n 0, 1) := by decide +kernel
theorem dX10_atRank_4 : decode cX10_atRank 4 = .ok (.getfield 25, 3) := by decide +kernel
theorem dX10_atRank_7 : decode cX10_atRank 7 = .ok (.if_icmp .ge 20, 3) := by decide +kernel
theorem dX10_atRank_10 : decode cX10_atRank 10 = .ok (.aload_n 0, 1) := by decide +kernel
theorem dX10_atRank_11 : decode cX10_atRank 11 = .ok (.iload_n 2, 1) := by decide +kernel
theorem dX10_atRank_12 : decode cX10_atRank 12 = .ok (.invokevirtual 33, 3) := by decide +kernel
theorem dX10_atRank_15 : decode cX10_atRank 15 = .ok (.iload_n 1, 1) := by decide +kernel
theorem dX10_atRank_16 : decode cX10_atRank 16 = .ok (.if_icmp .ne 5, 3) := by decide +kernel
theorem dX10_atRank_19 : decode cX10_atRank 19 = .ok (.iload_n 2, 1) := by decide +kernel
theorem dX10_atRank_20 : decode cX10_atRank 20 = .ok (.ireturn, 1) := by decide +kernel
theorem dX10_atRank_21 : decode cX10_atRank 21 = .ok (.iinc 2 1, 3) := by decide +kernel
theorem dX10_atRank_24 : decode cX10_atRank 24 = .ok (.goto (-22), 3) := by decide +kernel
theorem dX10_atRank_27 : decode cX10_atRank 27 = .ok (.iconst 0, 1) := by decide +kernel
theorem dX10_atRank_28 : decode cX10_atRank 28 = .ok (.ireturn, 1) := by decide +kernel
theorem dX10_rankOf_0 : decode cX10_rankOf 0 = .ok (.iconst 0, 1) := by decide +kernel
theorem dX10_rankOf_1 : decode cX10_rankOf 1 = .ok (.istore_n 2, 1) := by decide +kernel
theorem dX10_rankOf_2 : decode cX10_rankOf 2 = .ok (.iconst 0, 1) := by decide +kernel
theorem dX10_rankOf_3 : decode cX10_rankOf 3 = .ok (.istore_n 3, 1) := by decide +kernel
theorem dX10_rankOf_4 : decode cX10_rankOf 4 = .ok (.iload_n 3, 1) := by decide +kernel
theorem dX10_rankOf_5 : decode cX10_rankOf 5 = .ok (.aload_n 0, 1) := by decide +kernel
theorem dX10_rankOf_6 : decode cX10_rankOf 6 = .ok (.getfield 25, 3) := by decide +kernel
theorem dX10_rankOf_9 : decode cX10_rankOf 9 = .ok (.if_icmp .ge 21, 3) := by decide +kernel
theorem dX10_rankOf_12 : decode cX10_rankOf 12 = .ok (.aload_n 0, 1) := by decide +kernel
theorem dX10_rankOf_13 : decode cX10_rankOf 13 = .ok (.iload_n 3, 1) := by decide +kernel
theorem dX10_rankOf_14 : decode cX10_rankOf 14 = .ok (.iload_n 1, 1) := by decide +kernel
theorem dX10_rankOf_15 : decode cX10_rankOf 15 = .ok (.invokevirtual 37, 3) := by decide +kernel
theorem dX10_rankOf_18 : decode cX10_rankOf 18 = .ok (.ifCond .eq 6, 3) := by decide +kernel
theorem dX10_rankOf_21 : decode cX10_rankOf 21 = .ok (.iinc 2 1, 3) := by decide +kernel
theorem dX10_rankOf_24 : decode cX10_rankOf 24 = .ok (.iinc 3 1, 3) := by decide +kernel
theorem dX10_rankOf_27 : decode cX10_rankOf 27 = .ok (.goto (-23), 3) := by decide +kernel
theorem dX10_rankOf_30 : decode cX10_rankOf 30 = .ok (.iload_n 2, 1) := by decide +kernel
theorem dX10_rankOf_31 : decode cX10_rankOf 31 = .ok (.ireturn, 1) := by decide +kernel
theorem dX10_precedes_0 : decode cX10_precedes 0 = .ok (.aload_n 0, 1) := by decide +kernel
theorem dX10_precedes_1 : decode cX10_precedes 1 = .ok (.getfield 21, 3) := by decide +kernel
theorem dX10_precedes_4 : decode cX10_precedes 4 = .ok (.iload_n 1, 1) := by decide +kernel
theorem dX10_precedes_5 : decode cX10_precedes 5 = .ok (.baload, 1) := by decide +kernel
theorem dX10_precedes_6 : decode cX10_precedes 6 = .ok (.aload_n 0, 1) := by decide +kernel
theorem dX10_precedes_7 : decode cX10_precedes 7 = .ok (.getfield 21, 3) := by decide +kernel
theorem dX10_precedes_10 : decode cX10_precedes 10 = .ok (.iload_n 2, 1) := by decide +kernel
theorem dX10_precedes_11 : decode cX10_precedes 11 = .ok (.baload, 1) := by decide +kernel
theorem dX10_precedes_12 : decode cX10_precedes 12 = .ok (.if_icmp .eq 10, 3) := by decide +kernel
theorem dX10_precedes_15 : decode cX10_precedes 15 = .ok (.aload_n 0, 1) := by decide +kernel
theorem dX10_precedes_16 : decode cX10_precedes 16 = .ok (.getfield 21, 3) := by decide +kernel
theorem dX10_precedes_19 : decode cX10_precedes 19 = .ok (.iload_n 1, 1) := by decide +kernel
theorem dX10_precedes_20 : decode cX10_precedes 20 = .ok (.baload, 1) := by decide +kernel
theorem dX10_precedes_21 : decode cX10_precedes 21 = .ok (.ireturn, 1) := by decide +kernel
theorem dX10_precedes_22 : decode cX10_precedes 22 = .ok (.aload_n 0, 1) := by decide +kernel
theorem dX10_precedes_23 : decode cX10_precedes 23 = .ok (.getfield 18, 3) := by decide +kernel
theorem dX10_precedes_26 : decode cX10_precedes 26 = .ok (.iload_n 1, 1) := by decide +kernel
theorem dX10_precedes_27 : decode cX10_precedes 27 = .ok (.iaload, 1) := by decide +kernel
theorem dX10_precedes_28 : decode cX10_precedes 28 = .ok (.aload_n 0, 1) := by decide +kernel
theorem dX10_precedes_29 : decode cX10_precedes 29 = .ok (.getfield 18, 3) := by decide +kernel
theorem dX10_precedes_32 : decode cX10_precedes 32 = .ok (.iload_n 2, 1) := by decide +kernel
theorem dX10_precedes_33 : decode cX10_precedes 33 = .ok (.iaload, 1) := by decide +kernel
theorem dX10_precedes_34 : decode cX10_precedes 34 = .ok (.if_icmp .eq 24, 3) := by decide +kernel
theorem dX10_precedes_37 : decode cX10_precedes 37 = .ok (.aload_n 0, 1) := by decide +kernel
theorem dX10_precedes_38 : decode cX10_precedes 38 = .ok (.getfield 18, 3) := by decide +kernel
theorem dX10_precedes_41 : decode cX10_precedes 41 = .ok (.iload_n 1, 1) := by decide +kernel
theorem dX10_precedes_42 : decode cX10_precedes 42 = .ok (.iaload, 1) := by decide +kernel
theorem dX10_precedes_43 : decode cX10_precedes 43 = .ok (.aload_n 0, 1) := by decide +kernel
theorem dX10_precedes_44 : decode cX10_precedes 44 = .ok (.getfield 18, 3) := by decide +kernel
theorem dX10_precedes_47 : decode cX10_precedes 47 = .ok (.iload_n 2, 1) := by decide +kernel
theorem dX10_precedes_48 : decode cX10_precedes 48 = .ok (.iaload, 1) := by decide +kernel
theorem dX10_precedes_49 : decode cX10_precedes 49 = .ok (.if_icmp .le 7, 3) := by decide +kernel
theorem dX10_precedes_52 : decode cX10_precedes 52 = .ok (.iconst 1, 1) := by decide +kernel
theorem dX10_precedes_53 : decode cX10_precedes 53 = .ok (.goto 4, 3) := by decide +kernel
theorem dX10_precedes_56 : decode cX10_precedes 56 = .ok (.iconst 0, 1) := by decide +kernel
theorem dX10_precedes_57 : decode cX10_precedes 57 = .ok (.ireturn, 1) := by decide +kernel
theorem dX10_precedes_58 : decode cX10_precedes 58 = .ok (.iload_n 1, 1) := by decide +kernel
theorem dX10_precedes_59 : decode cX10_precedes 59 = .ok (.iload_n 2, 1) := by decide +kernel
theorem dX10_precedes_60 : decode cX10_precedes 60 = .ok (.if_icmp .ge 7, 3) := by decide +kernel
theorem dX10_precedes_63 : decode cX10_precedes 63 = .ok (.iconst 1, 1) := by decide +kernel
theorem dX10_precedes_64 : decode cX10_precedes 64 = .ok (.goto 4, 3) := by decide +kernel
theorem dX10_precedes_67 : decode cX10_precedes 67 = .ok (.iconst 0, 1) := by decide +kernel
theorem dX10_precedes_68 : decode cX10_precedes 68 = .ok (.ireturn, 1) := by decide +kernel
theorem dX10_leadingColour_0 : decode cX10_leadingColour 0 = .ok (.iconst 0, 1) := by decide +kernel
theorem dX10_leadingColour_1 : decode cX10_leadingColour 1 = .ok (.istore_n 1, 1) := by decide +kernel
theorem dX10_leadingColour_2 : decode cX10_leadingColour 2 = .ok (.iconst 0, 1) := by decide +kernel
theorem dX10_leadingColour_3 : decode cX10_leadingColour 3 = .ok (.istore_n 2, 1) := by decide +kernel
theorem dX10_leadingColour_4 : decode cX10_leadingColour 4 = .ok (.iconst 0, 1) := by decide +kernel
theorem dX10_leadingColour_5 : decode cX10_leadingColour 5 = .ok (.istore_n 3, 1) := by decide +kernel
theorem dX10_leadingColour_6 : decode cX10_leadingColour 6 = .ok (.iload_n 3, 1) := by decide +kernel
theorem dX10_leadingColour_7 : decode cX10_leadingColour 7 = .ok (.aload_n 0, 1) := by decide +kernel
theorem dX10_leadingColour_8 : decode cX10_leadingColour 8 = .ok (.getfield 25, 3) := by decide +kernel
theorem dX10_leadingColour_11 : decode cX10_leadingColour 11 = .ok (.if_icmp .ge 42, 3) := by decide +kernel
theorem dX10_leadingColour_14 : decode cX10_leadingColour 14 = .ok (.aload_n 0, 1) := by decide +kernel
theorem dX10_leadingColour_15 : decode cX10_leadingColour 15 = .ok (.getfield 21, 3) := by decide +kernel
theorem dX10_leadingColour_18 : decode cX10_leadingColour 18 = .ok (.iload_n 3, 1) := by decide +kernel
theorem dX10_leadingColour_19 : decode cX10_leadingColour 19 = .ok (.baload, 1) := by decide +kernel
theorem dX10_leadingColour_20 : decode cX10_leadingColour 20 = .ok (.ifCond .eq 27, 3) := by decide +kernel
theorem dX10_leadingColour_23 : decode cX10_leadingColour 23 = .ok (.aload_n 0, 1) := by decide +kernel
theorem dX10_leadingColour_24 : decode cX10_leadingColour 24 = .ok (.getfield 18, 3) := by decide +kernel
theorem dX10_leadingColour_27 : decode cX10_leadingColour 27 = .ok (.iload_n 3, 1) := by decide +kernel
theorem dX10_leadingColour_28 : decode cX10_leadingColour 28 = .ok (.iaload, 1) := by decide +kernel
theorem dX10_leadingColour_29 : decode cX10_leadingColour 29 = .ok (.iload_n 2, 1) := by decide +kernel
theorem dX10_leadingColour_30 : decode cX10_leadingColour 30 = .ok (.if_icmp .le 17, 3) := by decide +kernel
theorem dX10_leadingColour_33 : decode cX10_leadingColour 33 = .ok (.aload_n 0, 1) := by decide +kernel
theorem dX10_leadingColour_34 : decode cX10_leadingColour 34 = .ok (.getfield 18, 3) := by decide +kernel
theorem dX10_leadingColour_37 : decode cX10_leadingColour 37 = .ok (.iload_n 3, 1) := by decide +kernel
theorem dX10_leadingColour_38 : decode cX10_leadingColour 38 = .ok (.iaload, 1) := by decide +kernel
theorem dX10_leadingColour_39 : decode cX10_leadingColour 39 = .ok (.istore_n 2, 1) := by decide +kernel
theorem dX10_leadingColour_40 : decode cX10_leadingColour 40 = .ok (.aload_n 0, 1) := by decide +kernel
theorem dX10_leadingColour_41 : decode cX10_leadingColour 41 = .ok (.getfield 9, 3) := by decide +kernel
theorem dX10_leadingColour_44 : decode cX10_leadingColour 44 = .ok (.iload_n 3, 1) := by decide +kernel
theorem dX10_leadingColour_45 : decode cX10_leadingColour 45 = .ok (.iaload, 1) := by decide +kernel
theorem dX10_leadingColour_46 : decode cX10_leadingColour 46 = .ok (.istore_n 1, 1) := by decide +kernel
theorem dX10_leadingColour_47 : decode cX10_leadingColour 47 = .ok (.iinc 3 1, 3) := by decide +kernel
theorem dX10_leadingColour_50 : decode cX10_leadingColour 50 = .ok (.goto (-44), 3) := by decide +kernel
theorem dX10_leadingColour_53 : decode cX10_leadingColour 53 = .ok (.iload_n 1, 1) := by decide +kernel
theorem dX10_leadingColour_54 : decode cX10_leadingColour 54 = .ok (.ireturn, 1) := by decide +kernel
theorem dX10_burnDown_0 : decode cX10_burnDown 0 = .ok (.iconst 0, 1) := by decide +kernel
theorem dX10_burnDown_1 : decode cX10_burnDown 1 = .ok (.istore_n 1, 1) := by decide +kernel
theorem dX10_burnDown_2 : decode cX10_burnDown 2 = .ok (.iconst 0, 1) := by decide +kernel
theorem dX10_burnDown_3 : decode cX10_burnDown 3 = .ok (.istore_n 2, 1) := by decide +kernel
theorem dX10_burnDown_4 : decode cX10_burnDown 4 = .ok (.iload_n 2, 1) := by decide +kernel
theorem dX10_burnDown_5 : decode cX10_burnDown 5 = .ok (.aload_n 0, 1) := by decide +kernel
theorem dX10_burnDown_6 : decode cX10_burnDown 6 = .ok (.getfield 25, 3) := by decide +kernel
theorem dX10_burnDown_9 : decode cX10_burnDown 9 = .ok (.if_icmp .ge 51, 3) := by decide +kernel
theorem dX10_burnDown_12 : decode cX10_burnDown 12 = .ok (.aload_n 0, 1) := by decide +kernel
theorem dX10_burnDown_13 : decode cX10_burnDown 13 = .ok (.getfield 21, 3) := by decide +kernel
theorem dX10_burnDown_16 : decode cX10_burnDown 16 = .ok (.iload_n 2, 1) := by decide +kernel
theorem dX10_burnDown_17 : decode cX10_burnDown 17 = .ok (.baload, 1) := by decide +kernel
theorem dX10_burnDown_18 : decode cX10_burnDown 18 = .ok (.ifCond .eq 36, 3) := by decide +kernel
theorem dX10_burnDown_21 : decode cX10_burnDown 21 = .ok (.aload_n 0, 1) := by decide +kernel
theorem dX10_burnDown_22 : decode cX10_burnDown 22 = .ok (.getfield 18, 3) := by decide +kernel
theorem dX10_burnDown_25 : decode cX10_burnDown 25 = .ok (.iload_n 2, 1) := by decide +kernel
theorem dX10_burnDown_26 : decode cX10_burnDown 26 = .ok (.dup2, 1) := by decide +kernel
theorem dX10_burnDown_27 : decode cX10_burnDown 27 = .ok (.iaload, 1) := by decide +kernel
theorem dX10_burnDown_28 : decode cX10_burnDown 28 = .ok (.iconst 1, 1) := by decide +kernel
theorem dX10_burnDown_29 : decode cX10_burnDown 29 = .ok (.isub, 1) := by decide +kernel
theorem dX10_burnDown_30 : decode cX10_burnDown 30 = .ok (.iastore, 1) := by decide +kernel
theorem dX10_burnDown_31 : decode cX10_burnDown 31 = .ok (.aload_n 0, 1) := by decide +kernel
theorem dX10_burnDown_32 : decode cX10_burnDown 32 = .ok (.getfield 21, 3) := by decide +kernel
theorem dX10_burnDown_35 : decode cX10_burnDown 35 = .ok (.iload_n 2, 1) := by decide +kernel
theorem dX10_burnDown_36 : decode cX10_burnDown 36 = .ok (.aload_n 0, 1) := by decide +kernel
theorem dX10_burnDown_37 : decode cX10_burnDown 37 = .ok (.getfield 18, 3) := by decide +kernel
theorem dX10_burnDown_40 : decode cX10_burnDown 40 = .ok (.iload_n 2, 1) := by decide +kernel
theorem dX10_burnDown_41 : decode cX10_burnDown 41 = .ok (.iaload, 1) := by decide +kernel
theorem dX10_burnDown_42 : decode cX10_burnDown 42 = .ok (.ifCond .le 7, 3) := by decide +kernel
theorem dX10_burnDown_45 : decode cX10_burnDown 45 = .ok (.iconst 1, 1) := by decide +kernel
theorem dX10_burnDown_46 : decode cX10_burnDown 46 = .ok (.goto 4, 3) := by decide +kernel
theorem dX10_burnDown_49 : decode cX10_burnDown 49 = .ok (.iconst 0, 1) := by decide +kernel
theorem dX10_burnDown_50 : decode cX10_burnDown 50 = .ok (.bastore, 1) := by decide +kernel
theorem dX10_burnDown_51 : decode cX10_burnDown 51 = .ok (.iinc 1 1, 3) := by decide +kernel
theorem dX10_burnDown_54 : decode cX10_burnDown 54 = .ok (.iinc 2 1, 3) := by decide +kernel
theorem dX10_burnDown_57 : decode cX10_burnDown 57 = .ok (.goto (-53), 3) := by decide +kernel
theorem dX10_burnDown_60 : decode cX10_burnDown 60 = .ok (.iload_n 1, 1) := by decide +kernel
theorem dX10_burnDown_61 : decode cX10_burnDown 61 = .ok (.ireturn, 1) := by decide +kernel
theorem dX10_anyLitAfter_0 : decode cX10_anyLitAfter 0 = .ok (.iconst 0, 1) := by decide +kernel
theorem dX10_anyLitAfter_1 : decode cX10_anyLitAfter 1 = .ok (.istore_n 2, 1) := by decide +kernel
theorem dX10_anyLitAfter_2 : decode cX10_anyLitAfter 2 = .ok (.iload_n 2, 1) := by decide +kernel
theorem dX10_anyLitAfter_3 : decode cX10_anyLitAfter 3 = .ok (.aload_n 0, 1) := by decide +kernel
theorem dX10_anyLitAfter_4 : decode cX10_anyLitAfter 4 = .ok (.getfield 25, 3) := by decide +kernel
theorem dX10_anyLitAfter_7 : decode cX10_anyLitAfter 7 = .ok (.if_icmp .ge 30, 3) := by decide +kernel
theorem dX10_anyLitAfter_10 : decode cX10_anyLitAfter 10 = .ok (.aload_n 0, 1) := by decide +kernel
theorem dX10_anyLitAfter_11 : decode cX10_anyLitAfter 11 = .ok (.getfield 21, 3) := by decide +kernel
theorem dX10_anyLitAfter_14 : decode cX10_anyLitAfter 14 = .ok (.iload_n 2, 1) := by decide +kernel
theorem dX10_anyLitAfter_15 : decode cX10_anyLitAfter 15 = .ok (.baload, 1) := by decide +kernel
theorem dX10_anyLitAfter_16 : decode cX10_anyLitAfter 16 = .ok (.ifCond .eq 15, 3) := by decide +kernel
theorem dX10_anyLitAfter_19 : decode cX10_anyLitAfter 19 = .ok (.aload_n 0, 1) := by decide +kernel
theorem dX10_anyLitAfter_20 : decode cX10_anyLitAfter 20 = .ok (.getfield 18, 3) := by decide +kernel
theorem dX10_anyLitAfter_23 : decode cX10_anyLitAfter 23 = .ok (.iload_n 2, 1) := by decide +kernel
theorem dX10_anyLitAfter_24 : decode cX10_anyLitAfter 24 = .ok (.iaload, 1) := by decide +kernel
theorem dX10_anyLitAfter_25 : decode cX10_anyLitAfter 25 = .ok (.iload_n 1, 1) := by decide +kernel
theorem dX10_anyLitAfter_26 : decode cX10_anyLitAfter 26 = .ok (.if_icmp .le 5, 3) := by decide +kernel
theorem dX10_anyLitAfter_29 : decode cX10_anyLitAfter 29 = .ok (.iconst 1, 1) := by decide +kernel
theorem dX10_anyLitAfter_30 : decode cX10_anyLitAfter 30 = .ok (.ireturn, 1) := by decide +kernel
theorem dX10_anyLitAfter_31 : decode cX10_anyLitAfter 31 = .ok (.iinc 2 1, 3) := by decide +kernel
theorem dX10_anyLitAfter_34 : decode cX10_anyLitAfter 34 = .ok (.goto (-32), 3) := by decide +kernel
theorem dX10_anyLitAfter_37 : decode cX10_anyLitAfter 37 = .ok (.iconst 0, 1) := by decide +kernel
theorem dX10_anyLitAfter_38 : decode cX10_anyLitAfter 38 = .ok (.ireturn, 1) := by decide +kernel
theorem dX10_mostLitWax_0 : decode cX10_mostLitWax 0 = .ok (.iconst 0, 1) := by decide +kernel
theorem dX10_mostLitWax_1 : decode cX10_mostLitWax 1 = .ok (.istore_n 1, 1) := by decide +kernel
theorem dX10_mostLitWax_2 : decode cX10_mostLitWax 2 = .ok (.iconst 0, 1) := by decide +kernel
theorem dX10_mostLitWax_3 : decode cX10_mostLitWax 3 = .ok (.istore_n 2, 1) := by decide +kernel
theorem dX10_mostLitWax_4 : decode cX10_mostLitWax 4 = .ok (.iload_n 2, 1) := by decide +kernel
theorem dX10_mostLitWax_5 : decode cX10_mostLitWax 5 = .ok (.aload_n 0, 1) := by decide +kernel
theorem dX10_mostLitWax_6 : decode cX10_mostLitWax 6 = .ok (.getfield 25, 3) := by decide +kernel
theorem dX10_mostLitWax_9 : decode cX10_mostLitWax 9 = .ok (.if_icmp .ge 29, 3) := by decide +kernel
theorem dX10_mostLitWax_12 : decode cX10_mostLitWax 12 = .ok (.aload_n 0, 1) := by decide +kernel
theorem dX10_mostLitWax_13 : decode cX10_mostLitWax 13 = .ok (.getfield 21, 3) := by decide +kernel
theorem dX10_mostLitWax_16 : decode cX10_mostLitWax 16 = .ok (.iload_n 2, 1) := by decide +kernel
theorem dX10_mostLitWax_17 : decode cX10_mostLitWax 17 = .ok (.baload, 1) := by decide +kernel
theorem dX10_mostLitWax_18 : decode cX10_mostLitWax 18 = .ok (.ifCond .eq 14, 3) := by decide +kernel
theorem dX10_mostLitWax_21 : decode cX10_mostLitWax 21 = .ok (.iload_n 1, 1) := by decide +kernel
theorem dX10_mostLitWax_22 : decode cX10_mostLitWax 22 = .ok (.aload_n 0, 1) := by decide +kernel
theorem dX10_mostLitWax_23 : decode cX10_mostLitWax 23 = .ok (.getfield 18, 3) := by decide +kernel
theorem dX10_mostLitWax_26 : decode cX10_mostLitWax 26 = .ok (.iload_n 2, 1) := by decide +kernel
theorem dX10_mostLitWax_27 : decode cX10_mostLitWax 27 = .ok (.iaload, 1) := by decide +kernel
theorem dX10_mostLitWax_28 : decode cX10_mostLitWax 28 = .ok (.invokestatic 41, 3) := by decide +kernel
theorem dX10_mostLitWax_31 : decode cX10_mostLitWax 31 = .ok (.istore_n 1, 1) := by decide +kernel
theorem dX10_mostLitWax_32 : decode cX10_mostLitWax 32 = .ok (.iinc 2 1, 3) := by decide +kernel
theorem dX10_mostLitWax_35 : decode cX10_mostLitWax 35 = .ok (.goto (-31), 3) := by decide +kernel
theorem dX10_mostLitWax_38 : decode cX10_mostLitWax 38 = .ok (.iload_n 1, 1) := by decide +kernel
theorem dX10_mostLitWax_39 : decode cX10_mostLitWax 39 = .ok (.ireturn, 1) := by decide +kernel
theorem dX11_init_0 : decode cX11_init 0 = .ok (.aload_n 0, 1) := by decide +kernel
theorem dX11_init_1 : decode cX11_init 1 = .ok (.invokespecial 3, 3) := by decide +kernel
theorem dX11_init_4 : decode cX11_init 4 = .ok (.aload_n 0, 1) := by decide +kernel
theorem dX11_init_5 : decode cX11_init 5 = .ok (.new 9, 3) := by decide +kernel
theorem dX11_init_8 : decode cX11_init 8 = .ok (.dup, 1) := by decide +kernel
theorem dX11_init_9 : decode cX11_init 9 = .ok (.invokespecial 11, 3) := by decide +kernel
theorem dX11_init_12 : decode cX11_init 12 = .ok (.putfield 12, 3) := by decide +kernel
theorem dX11_init_15 : decode cX11_init 15 = .ok (.aload_n 0, 1) := by decide +kernel
theorem dX11_init_16 : decode cX11_init 16 = .ok (.new 9, 3) := by decide +kernel
theorem dX11_init_19 : decode cX11_init 19 = .ok (.dup, 1) := by decide +kernel
theorem dX11_init_20 : decode cX11_init 20 = .ok (.invokespecial 11, 3) := by decide +kernel
theorem dX11_init_23 : decode cX11_init 23 = .ok (.putfield 16, 3) := by decide +kernel
theorem dX11_init_26 : decode cX11_init 26 = .ok (.aload_n 0, 1) := by decide +kernel
theorem dX11_init_27 : decode cX11_init 27 = .ok (.new 9, 3) := by decide +kernel
theorem dX11_init_30 : decode cX11_init 30 = .ok (.dup, 1) := by decide +kernel
theorem dX11_init_31 : decode cX11_init 31 = .ok (.invokespecial 11, 3) := by decide +kernel
theorem dX11_init_34 : decode cX11_init 34 = .ok (.putfield 19, 3) := by decide +kernel
theorem dX11_init_37 : decode cX11_init 37 = .ok (.aload_n 0, 1) := by decide +kernel
theorem dX11_init_38 : decode cX11_init 38 = .ok (.new 22, 3) := by decide +kernel
theorem dX11_init_41 : decode cX11_init 41 = .ok (.dup, 1) := by decide +kernel
theorem dX11_init_42 : decode cX11_init 42 = .ok (.invokespecial 24, 3) := by decide +kernel
theorem dX11_init_45 : decode cX11_init 45 = .ok (.putfield 25, 3) := by decide +kernel
theorem dX11_init_48 : decode cX11_init 48 = .ok (.aload_n 0, 1) := by decide +kernel
theorem dX11_init_49 : decode cX11_init 49 = .ok (.new 29, 3) := by decide +kernel
theorem dX11_init_52 : decode cX11_init 52 = .ok (.dup, 1) := by decide +kernel
theorem dX11_init_53 : decode cX11_init 53 = .ok (.invokespecial 31, 3) := by decide +kernel
theorem dX11_init_56 : decode cX11_init 56 = .ok (.putfield 32, 3) := by decide +kernel
theorem dX11_init_59 : decode cX11_init 59 = .ok (.aload_n 0, 1) := by decide +kernel
theorem dX11_init_60 : decode cX11_init 60 = .ok (.new 36, 3) := by decide +kernel
theorem dX11_init_63 : decode cX11_init 63 = .ok (.dup, 1) := by decide +kernel
theorem dX11_init_64 : decode cX11_init 64 = .ok (.invokespecial 38, 3) := by decide +kernel
theorem dX11_init_67 : decode cX11_init 67 = .ok (.putfield 39, 3) := by decide +kernel
theorem dX11_init_70 : decode cX11_init 70 = .ok (.aload_n 0, 1) := by decide +kernel
theorem dX11_init_71 : decode cX11_init 71 = .ok (.new 43, 3) := by decide +kernel
theorem dX11_init_74 : decode cX11_init 74 = .ok (.dup, 1) := by decide +kernel
theorem dX11_init_75 : decode cX11_init 75 = .ok (.invokespecial 45, 3) := by decide +kernel
theorem dX11_init_78 : decode cX11_init 78 = .ok (.putfield 46, 3) := by decide +kernel
theorem dX11_init_81 : decode cX11_init 81 = .ok (.aload_n 0, 1) := by decide +kernel
theorem dX11_init_82 : decode cX11_init 82 = .ok (.new 50, 3) := by decide +kernel
theorem dX11_init_85 : decode cX11_init 85 = .ok (.dup, 1) := by decide +kernel
theorem dX11_init_86 : decode cX11_init 86 = .ok (.invokespecial 52, 3) := by decide +kernel
theorem dX11_init_89 : decode cX11_init 89 = .ok (.putfield 53, 3) := by decide +kernel
theorem dX11_init_92 : decode cX11_init 92 = .ok (.return_, 1) := by decide +kernel
theorem dX11_addWick_0 : decode cX11_addWick 0 = .ok (.aload_n 0, 1) := by decide +kernel
theorem dX11_addWick_1 : decode cX11_addWick 1 = .ok (.aload_n 0, 1) := by decide +kernel
theorem dX11_addWick_2 : decode cX11_addWick 2 = .ok (.getfield 39, 3) := by decide +kernel
theorem dX11_addWick_5 : decode cX11_addWick 5 = .ok (.getstatic 57, 3) := by decide +kernel
theorem dX11_addWick_8 : decode cX11_addWick 8 = .ok (.iload_n 1, 1) := by decide +kernel
theorem dX11_addWick_9 : decode cX11_addWick 9 = .ok (.iload_n 2, 1) := by decide +kernel
theorem dX11_addWick_10 : decode cX11_addWick 10 = .ok (.iload_n 3, 1) := by decide +kernel
theorem dX11_addWick_11 : decode cX11_addWick 11 = .ok (.invokevirtual 63, 3) := by decide +kernel
theorem dX11_addWick_14 : decode cX11_addWick 14 = .ok (.invokevirtual 67, 3) := by decide +kernel
theorem dX11_addWick_17 : decode cX11_addWick 17 = .ok (.ireturn, 1) := by decide +kernel
theorem dX11_light_0 : decode cX11_light 0 = .ok (.aload_n 0, 1) := by decide +kernel
theorem dX11_light_1 : decode cX11_light 1 = .ok (.aload_n 0, 1) := by decide +kernel
theorem dX11_light_2 : decode cX11_light 2 = .ok (.getfield 39, 3) := by decide +kernel
theorem dX11_light_5 : decode cX11_light 5 = .ok (.getstatic 71, 3) := by decide +kernel
theorem dX11_light_8 : decode cX11_light 8 = .ok (.iload_n 1, 1) := by decide +kernel
theorem dX11_light_9 : decode cX11_light 9 = .ok (.iconst 0, 1) := by decide +kernel
theorem dX11_light_10 : decode cX11_light 10 = .ok (.iconst 0, 1) := by decide +kernel
theorem dX11_light_11 : decode cX11_light 11 = .ok (.invokevirtual 63, 3) := by decide +kernel
theorem dX11_light_14 : decode cX11_light 14 = .ok (.invokevirtual 67, 3) := by decide +kernel
theorem dX11_light_17 : decode cX11_light 17 = .ok (.ireturn, 1) := by decide +kernel
theorem dX11_snuff_0 : decode cX11_snuff 0 = .ok (.aload_n 0, 1) := by decide +kernel
theorem dX11_snuff_1 : decode cX11_snuff 1 = .ok (.aload_n 0, 1) := by decide +kernel
theorem dX11_snuff_2 : decode cX11_snuff 2 = .ok (.getfield 39, 3) := by decide +kernel
theorem dX11_snuff_5 : decode cX11_snuff 5 = .ok (.getstatic 74, 3) := by decide +kernel
theorem dX11_snuff_8 : decode cX11_snuff 8 = .ok (.iload_n 1, 1) := by decide +kernel
theorem dX11_snuff_9 : decode cX11_snuff 9 = .ok (.iconst 0, 1) := by decide +kernel
theorem dX11_snuff_10 : decode cX11_snuff 10 = .ok (.iconst 0, 1) := by decide +kernel
theorem dX11_snuff_11 : decode cX11_snuff 11 = .ok (.invokevirtual 63, 3) := by decide +kernel
theorem dX11_snuff_14 : decode cX11_snuff 14 = .ok (.invokevirtual 67, 3) := by decide +kernel
theorem dX11_snuff_17 : decode cX11_snuff 17 = .ok (.ireturn, 1) := by decide +kernel
theorem dX11_addWax_0 : decode cX11_addWax 0 = .ok (.aload_n 0, 1) := by decide +kernel
theorem dX11_addWax_1 : decode cX11_addWax 1 = .ok (.aload_n 0, 1) := by decide +kernel
theorem dX11_addWax_2 : decode cX11_addWax 2 = .ok (.getfield 39, 3) := by decide +kernel
theorem dX11_addWax_5 : decode cX11_addWax 5 = .ok (.getstatic 77, 3) := by decide +kernel
theorem dX11_addWax_8 : decode cX11_addWax 8 = .ok (.iload_n 1, 1) := by decide +kernel
theorem dX11_addWax_9 : decode cX11_addWax 9 = .ok (.iload_n 2, 1) := by decide +kernel
theorem dX11_addWax_10 : decode cX11_addWax 10 = .ok (.iconst 0, 1) := by decide +kernel
theorem dX11_addWax_11 : decode cX11_addWax 11 = .ok (.invokevirtual 63, 3) := by decide +kernel
theorem dX11_addWax_14 : decode cX11_addWax 14 = .ok (.invokevirtual 67, 3) := by decide +kernel
theorem dX11_addWax_17 : decode cX11_addWax 17 = .ok (.ireturn, 1) := by decide +kernel
theorem dX11_wickCount_0 : decode cX11_wickCount 0 = .ok (.aload_n 0, 1) := by decide +kernel
theorem dX11_wickCount_1 : decode cX11_wickCount 1 = .ok (.getfield 12, 3) := by decide +kernel
theorem dX11_wickCount_4 : decode cX11_wickCount 4 = .ok (.getfield 80, 3) := by decide +kernel
theorem dX11_wickCount_7 : decode cX11_wickCount 7 = .ok (.getfield 84, 3) := by decide +kernel
theorem dX11_wickCount_10 : decode cX11_wickCount 10 = .ok (.ireturn, 1) := by decide +kernel
theorem dX11_litCount_0 : decode cX11_litCount 0 = .ok (.aload_n 0, 1) := by decide +kernel
theorem dX11_litCount_1 : decode cX11_litCount 1 = .ok (.getfield 12, 3) := by decide +kernel
theorem dX11_litCount_4 : decode cX11_litCount 4 = .ok (.getfield 80, 3) := by decide +kernel
theorem dX11_litCount_7 : decode cX11_litCount 7 = .ok (.invokevirtual 90, 3) := by decide +kernel
theorem dX11_litCount_10 : decode cX11_litCount 10 = .ok (.ireturn, 1) := by decide +kernel
theorem dX11_isLit_0 : decode cX11_isLit 0 = .ok (.aload_n 0, 1) := by decide +kernel
theorem dX11_isLit_1 : decode cX11_isLit 1 = .ok (.getfield 12, 3) := by decide +kernel
theorem dX11_isLit_4 : decode cX11_isLit 4 = .ok (.getfield 80, 3) := by decide +kernel
theorem dX11_isLit_7 : decode cX11_isLit 7 = .ok (.iload_n 1, 1) := by decide +kernel
theorem dX11_isLit_8 : decode cX11_isLit 8 = .ok (.invokevirtual 94, 3) := by decide +kernel
theorem dX11_isLit_11 : decode cX11_isLit 11 = .ok (.invokestatic 98, 3) := by decide +kernel
theorem dX11_isLit_14 : decode cX11_isLit 14 = .ok (.aload_n 0, 1) := by decide +kernel
theorem dX11_isLit_15 : decode cX11_isLit 15 = .ok (.getfield 12, 3) := by decide +kernel
theorem dX11_isLit_18 : decode cX11_isLit 18 = .ok (.getfield 80, 3) := by decide +kernel
theorem dX11_isLit_21 : decode cX11_isLit 21 = .ok (.getfield 102, 3) := by decide +kernel
theorem dX11_isLit_24 : decode cX11_isLit 24 = .ok (.iload_n 1, 1) := by decide +kernel
theorem dX11_isLit_25 : decode cX11_isLit 25 = .ok (.baload, 1) := by decide +kernel
theorem dX11_isLit_26 : decode cX11_isLit 26 = .ok (.ireturn, 1) := by decide +kernel
theorem dX11_wax_0 : decode cX11_wax 0 = .ok (.aload_n 0, 1) := by decide +kernel
theorem dX11_wax_1 : decode cX11_wax 1 = .ok (.getfield 12, 3) := by decide +kernel
theorem dX11_wax_4 : decode cX11_wax 4 = .ok (.getfield 80, 3) := by decide +kernel
theorem dX11_wax_7 : decode cX11_wax 7 = .ok (.iload_n 1, 1) := by decide +kernel
theorem dX11_wax_8 : decode cX11_wax 8 = .ok (.invokevirtual 94, 3) := by decide +kernel
theorem dX11_wax_11 : decode cX11_wax 11 = .ok (.invokestatic 98, 3) := by decide +kernel
theorem dX11_wax_14 : decode cX11_wax 14 = .ok (.aload_n 0, 1) := by decide +kernel
theorem dX11_wax_15 : decode cX11_wax 15 = .ok (.getfield 12, 3) := by decide +kernel
theorem dX11_wax_18 : decode cX11_wax 18 = .ok (.getfield 80, 3) := by decide +kernel
theorem dX11_wax_21 : decode cX11_wax 21 = .ok (.getfield 106, 3) := by decide +kernel
theorem dX11_wax_24 : decode cX11_wax 24 = .ok (.iload_n 1, 1) := by decide +kernel
theorem dX11_wax_25 : decode cX11_wax 25 = .ok (.iaload, 1) := by decide +kernel
theorem dX11_wax_26 : decode cX11_wax 26 = .ok (.ireturn, 1) := by decide +kernel
theorem dX11_wickByWax_0 : decode cX11_wickByWax 0 = .ok (.aload_n 0, 1) := by decide +kernel
theorem dX11_wickByWax_1 : decode cX11_wickByWax 1 = .ok (.getfield 12, 3) := by decide +kernel
theorem dX11_wickByWax_4 : decode cX11_wickByWax 4 = .ok (.getfield 80, 3) := by decide +kernel
theorem dX11_wickByWax_7 : decode cX11_wickByWax 7 = .ok (.iload_n 1, 1) := by decide +kernel
theorem dX11_wickByWax_8 : decode cX11_wickByWax 8 = .ok (.invokevirtual 94, 3) := by decide +kernel
theorem dX11_wickByWax_11 : decode cX11_wickByWax 11 = .ok (.invokestatic 110, 3) := by decide +kernel
theorem dX11_wickByWax_14 : decode cX11_wickByWax 14 = .ok (.aload_n 0, 1) := by decide +kernel
theorem dX11_wickByWax_15 : decode cX11_wickByWax 15 = .ok (.getfield 12, 3) := by decide +kernel
theorem dX11_wickByWax_18 : decode cX11_wickByWax 18 = .ok (.getfield 80, 3) := by decide +kernel
theorem dX11_wickByWax_21 : decode cX11_wickByWax 21 = .ok (.iload_n 1, 1) := by decide +kernel
theorem dX11_wickByWax_22 : decode cX11_wickByWax 22 = .ok (.invokevirtual 113, 3) := by decide +kernel
theorem dX11_wickByWax_25 : decode cX11_wickByWax 25 = .ok (.ireturn, 1) := by decide +kernel
theorem dX11_nextMask_0 : decode cX11_nextMask 0 = .ok (.aload_n 0, 1) := by decide +kernel
theorem dX11_nextMask_1 : decode cX11_nextMask 1 = .ok (.getfield 12, 3) := by decide +kernel
theorem dX11_nextMask_4 : decode cX11_nextMask 4 = .ok (.aload_n 0, 1) := by decide +kernel
theorem dX11_nextMask_5 : decode cX11_nextMask 5 = .ok (.getfield 12, 3) := by decide +kernel
theorem dX11_nextMask_8 : decode cX11_nextMask 8 = .ok (.getfield 80, 3) := by decide +kernel
theorem dX11_nextMask_11 : decode cX11_nextMask 11 = .ok (.invokevirtual 117, 3) := by decide +kernel
theorem dX11_nextMask_14 : decode cX11_nextMask 14 = .ok (.invokevirtual 120, 3) := by decide +kernel
theorem dX11_nextMask_17 : decode cX11_nextMask 17 = .ok (.ireturn, 1) := by decide +kernel
theorem dX11_rowsUntilDark_0 : decode cX11_rowsUntilDark 0 = .ok (.iconst 0, 1) := by decide +kernel
theorem dX11_rowsUntilDark_1 : decode cX11_rowsUntilDark 1 = .ok (.istore_n 1, 1) := by decide +kernel
theorem dX11_rowsUntilDark_2 : decode cX11_rowsUntilDark 2 = .ok (.iload_n 1, 1) := by decide +kernel
theorem dX11_rowsUntilDark_3 : decode cX11_rowsUntilDark 3 = .ok (.bipush 99, 2) := by decide +kernel
theorem dX11_rowsUntilDark_5 : decode cX11_rowsUntilDark 5 = .ok (.if_icmp .ge 23, 3) := by decide +kernel
theorem dX11_rowsUntilDark_8 : decode cX11_rowsUntilDark 8 = .ok (.aload_n 0, 1) := by decide +kernel
theorem dX11_rowsUntilDark_9 : decode cX11_rowsUntilDark 9 = .ok (.getfield 12, 3) := by decide +kernel
theorem dX11_rowsUntilDark_12 : decode cX11_rowsUntilDark 12 = .ok (.getfield 80, 3) := by decide +kernel
theorem dX11_rowsUntilDark_15 : decode cX11_rowsUntilDark 15 = .ok (.iload_n 1, 1) := by decide +kernel
theorem dX11_rowsUntilDark_16 : decode cX11_rowsUntilDark 16 = .ok (.invokevirtual 123, 3) := by decide +kernel
theorem dX11_rowsUntilDark_19 : decode cX11_rowsUntilDark 19 = .ok (.ifCond .eq 9, 3) := by decide +kernel
theorem dX11_rowsUntilDark_22 : decode cX11_rowsUntilDark 22 = .ok (.iinc 1 1, 3) := by decide +kernel
theorem dX11_rowsUntilDark_25 : decode cX11_rowsUntilDark 25 = .ok (.goto (-23), 3) := by decide +kernel
theorem dX11_rowsUntilDark_28 : decode cX11_rowsUntilDark 28 = .ok (.iload_n 1, 1) := by decide +kernel
theorem dX11_rowsUntilDark_29 : decode cX11_rowsUntilDark 29 = .ok (.ireturn, 1) := by decide +kernel
theorem dX11_rowsUntilDarkByWax_0 : decode cX11_rowsUntilDarkByWax 0 = .ok (.aload_n 0, 1) := by decide +kernel
theorem dX11_rowsUntilDarkByWax_1 : decode cX11_rowsUntilDarkByWax 1 = .ok (.getfield 12, 3) := by decide +kernel
theorem dX11_rowsUntilDarkByWax_4 : decode cX11_rowsUntilDarkByWax 4 = .ok (.getfield 80, 3) := by decide +kernel
theorem dX11_rowsUntilDarkByWax_7 : decode cX11_rowsUntilDarkByWax 7 = .ok (.invokevirtual 126, 3) := by decide +kernel
theorem dX11_rowsUntilDarkByWax_10 : decode cX11_rowsUntilDarkByWax 10 = .ok (.ireturn, 1) := by decide +kernel
theorem dX11_weave_0 : decode cX11_weave 0 = .ok (.aload_n 0, 1) := by decide +kernel
theorem dX11_weave_1 : decode cX11_weave 1 = .ok (.aload_n 0, 1) := by decide +kernel
theorem dX11_weave_2 : decode cX11_weave 2 = .ok (.getfield 39, 3) := by decide +kernel
theorem dX11_weave_5 : decode cX11_weave 5 = .ok (.getstatic 129, 3) := by decide +kernel
theorem dX11_weave_8 : decode cX11_weave 8 = .ok (.iload_n 1, 1) := by decide +kernel
theorem dX11_weave_9 : decode cX11_weave 9 = .ok (.iconst 0, 1) := by decide +kernel
theorem dX11_weave_10 : decode cX11_weave 10 = .ok (.iconst 0, 1) := by decide +kernel
theorem dX11_weave_11 : decode cX11_weave 11 = .ok (.invokevirtual 63, 3) := by decide +kernel
theorem dX11_weave_14 : decode cX11_weave 14 = .ok (.invokevirtual 67, 3) := by decide +kernel
theorem dX11_weave_17 : decode cX11_weave 17 = .ok (.ireturn, 1) := by decide +kernel
theorem dX11_ravel_0 : decode cX11_ravel 0 = .ok (.aload_n 0, 1) := by decide +kernel
theorem dX11_ravel_1 : decode cX11_ravel 1 = .ok (.aload_n 0, 1) := by decide +kernel
theorem dX11_ravel_2 : decode cX11_ravel 2 = .ok (.getfield 39, 3) := by decide +kernel
theorem dX11_ravel_5 : decode cX11_ravel 5 = .ok (.getstatic 132, 3) := by decide +kernel
theorem dX11_ravel_8 : decode cX11_ravel 8 = .ok (.iload_n 1, 1) := by decide +kernel
theorem dX11_ravel_9 : decode cX11_ravel 9 = .ok (.iconst 0, 1) := by decide +kernel
theorem dX11_ravel_10 : decode cX11_ravel 10 = .ok (.iconst 0, 1) := by decide +kernel
theorem dX11_ravel_11 : decode cX11_ravel 11 = .ok (.invokevirtual 63, 3) := by decide +kernel
theorem dX11_ravel_14 : decode cX11_ravel 14 = .ok (.invokevirtual 67, 3) := by decide +kernel
theorem dX11_ravel_17 : decode cX11_ravel 17 = .ok (.ireturn, 1) := by decide +kernel
theorem dX11_repeatLast_0 : decode cX11_repeatLast 0 = .ok (.aload_n 0, 1) := by decide +kernel
theorem dX11_repeatLast_1 : decode cX11_repeatLast 1 = .ok (.aload_n 0, 1) := by decide +kernel
theorem dX11_repeatLast_2 : decode cX11_repeatLast 2 = .ok (.getfield 39, 3) := by decide +kernel
theorem dX11_repeatLast_5 : decode cX11_repeatLast 5 = .ok (.getstatic 135, 3) := by decide +kernel
theorem dX11_repeatLast_8 : decode cX11_repeatLast 8 = .ok (.iload_n 1, 1) := by decide +kernel
theorem dX11_repeatLast_9 : decode cX11_repeatLast 9 = .ok (.iload_n 2, 1) := by decide +kernel
theorem dX11_repeatLast_10 : decode cX11_repeatLast 10 = .ok (.iconst 0, 1) := by decide +kernel
theorem dX11_repeatLast_11 : decode cX11_repeatLast 11 = .ok (.invokevirtual 63, 3) := by decide +kernel
theorem dX11_repeatLast_14 : decode cX11_repeatLast 14 = .ok (.invokevirtual 67, 3) := by decide +kernel
theorem dX11_repeatLast_17 : decode cX11_repeatLast 17 = .ok (.ireturn, 1) := by decide +kernel
theorem dX11_knot_0 : decode cX11_knot 0 = .ok (.aload_n 0, 1) := by decide +kernel
theorem dX11_knot_1 : decode cX11_knot 1 = .ok (.aload_n 0, 1) := by decide +kernel
theorem dX11_knot_2 : decode cX11_knot 2 = .ok (.getfield 39, 3) := by decide +kernel
theorem dX11_knot_5 : decode cX11_knot 5 = .ok (.getstatic 138, 3) := by decide +kernel
theorem dX11_knot_8 : decode cX11_knot 8 = .ok (.iload_n 1, 1) := by decide +kernel
theorem dX11_knot_9 : decode cX11_knot 9 = .ok (.iload_n 2, 1) := by decide +kernel
theorem dX11_knot_10 : decode cX11_knot 10 = .ok (.iconst 0, 1) := by decide +kernel
theorem dX11_knot_11 : decode cX11_knot 11 = .ok (.invokevirtual 63, 3) := by decide +kernel
theorem dX11_knot_14 : decode cX11_knot 14 = .ok (.invokevirtual 67, 3) := by decide +kernel
theorem dX11_knot_17 : decode cX11_knot 17 = .ok (.ireturn, 1) := by decide +kernel
theorem dX11_untie_0 : decode cX11_untie 0 = .ok (.aload_n 0, 1) := by decide +kernel
theorem dX11_untie_1 : decode cX11_untie 1 = .ok (.aload_n 0, 1) := by decide +kernel
theorem dX11_untie_2 : decode cX11_untie 2 = .ok (.getfield 39, 3) := by decide +kernel
theorem dX11_untie_5 : decode cX11_untie 5 = .ok (.getstatic 141, 3) := by decide +kernel
theorem dX11_untie_8 : decode cX11_untie 8 = .ok (.iload_n 1, 1) := by decide +kernel
theorem dX11_untie_9 : decode cX11_untie 9 = .ok (.iload_n 2, 1) := by decide +kernel
theorem dX11_untie_10 : decode cX11_untie 10 = .ok (.iconst 0, 1) := by decide +kernel
theorem dX11_untie_11 : decode cX11_untie 11 = .ok (.invokevirtual 63, 3) := by decide +kernel
theorem dX11_untie_14 : decode cX11_untie 14 = .ok (.invokevirtual 67, 3) := by decide +kernel
theorem dX11_untie_17 : decode cX11_untie 17 = .ok (.ireturn, 1) := by decide +kernel
theorem dX11_mend_0 : decode cX11_mend 0 = .ok (.aload_n 0, 1) := by decide +kernel
theorem dX11_mend_1 : decode cX11_mend 1 = .ok (.aload_n 0, 1) := by decide +kernel
theorem dX11_mend_2 : decode cX11_mend 2 = .ok (.getfield 39, 3) := by decide +kernel
theorem dX11_mend_5 : decode cX11_mend 5 = .ok (.getstatic 144, 3) := by decide +kernel
theorem dX11_mend_8 : decode cX11_mend 8 = .ok (.iload_n 1, 1) := by decide +kernel
theorem dX11_mend_9 : decode cX11_mend 9 = .ok (.iconst 0, 1) := by decide +kernel
theorem dX11_mend_10 : decode cX11_mend 10 = .ok (.iconst 0, 1) := by decide +kernel
theorem dX11_mend_11 : decode cX11_mend 11 = .ok (.invokevirtual 63, 3) := by decide +kernel
theorem dX11_mend_14 : decode cX11_mend 14 = .ok (.invokevirtual 67, 3) := by decide +kernel
theorem dX11_mend_17 : decode cX11_mend 17 = .ok (.ireturn, 1) := by decide +kernel
theorem dX11_rowCount_0 : decode cX11_rowCount 0 = .ok (.aload_n 0, 1) := by decide +kernel
theorem dX11_rowCount_1 : decode cX11_rowCount 1 = .ok (.getfield 12, 3) := by decide +kernel
theorem dX11_rowCount_4 : decode cX11_rowCount 4 = .ok (.getfield 147, 3) := by decide +kernel
theorem dX11_rowCount_7 : decode cX11_rowCount 7 = .ok (.getfield 151, 3) := by decide +kernel
theorem dX11_rowCount_10 : decode cX11_rowCount 10 = .ok (.ireturn, 1) := by decide +kernel
theorem dX11_rowMask_0 : decode cX11_rowMask 0 = .ok (.aload_n 0, 1) := by decide +kernel
theorem dX11_rowMask_1 : decode cX11_rowMask 1 = .ok (.getfield 12, 3) := by decide +kernel
theorem dX11_rowMask_4 : decode cX11_rowMask 4 = .ok (.getfield 147, 3) := by decide +kernel
theorem dX11_rowMask_7 : decode cX11_rowMask 7 = .ok (.iload_n 1, 1) := by decide +kernel
theorem dX11_rowMask_8 : decode cX11_rowMask 8 = .ok (.invokevirtual 154, 3) := by decide +kernel
theorem dX11_rowMask_11 : decode cX11_rowMask 11 = .ok (.invokestatic 98, 3) := by decide +kernel
theorem dX11_rowMask_14 : decode cX11_rowMask 14 = .ok (.aload_n 0, 1) := by decide +kernel
theorem dX11_rowMask_15 : decode cX11_rowMask 15 = .ok (.getfield 12, 3) := by decide +kernel
theorem dX11_rowMask_18 : decode cX11_rowMask 18 = .ok (.getfield 147, 3) := by decide +kernel
theorem dX11_rowMask_21 : decode cX11_rowMask 21 = .ok (.getfield 155, 3) := by decide +kernel
theorem dX11_rowMask_24 : decode cX11_rowMask 24 = .ok (.iload_n 1, 1) := by decide +kernel
theorem dX11_rowMask_25 : decode cX11_rowMask 25 = .ok (.iaload, 1) := by decide +kernel
theorem dX11_rowMask_26 : decode cX11_rowMask 26 = .ok (.ireturn, 1) := by decide +kernel
theorem dX11_rowColour_0 : decode cX11_rowColour 0 = .ok (.aload_n 0, 1) := by decide +kernel
theorem dX11_rowColour_1 : decode cX11_rowColour 1 = .ok (.getfield 12, 3) := by decide +kernel
theorem dX11_rowColour_4 : decode cX11_rowColour 4 = .ok (.getfield 147, 3) := by decide +kernel
theorem dX11_rowColour_7 : decode cX11_rowColour 7 = .ok (.iload_n 1, 1) := by decide +kernel
theorem dX11_rowColour_8 : decode cX11_rowColour 8 = .ok (.invokevirtual 154, 3) := by decide +kernel
theorem dX11_rowColour_11 : decode cX11_rowColour 11 = .ok (.invokestatic 98, 3) := by decide +kernel
theorem dX11_rowColour_14 : decode cX11_rowColour 14 = .ok (.aload_n 0, 1) := by decide +kernel
theorem dX11_rowColour_15 : decode cX11_rowColour 15 = .ok (.getfield 12, 3) := by decide +kernel
theorem dX11_rowColour_18 : decode cX11_rowColour 18 = .ok (.getfield 147, 3) := by decide +kernel
theorem dX11_rowColour_21 : decode cX11_rowColour 21 = .ok (.getfield 158, 3) := by decide +kernel
theorem dX11_rowColour_24 : decode cX11_rowColour 24 = .ok (.iload_n 1, 1) := by decide +kernel
theorem dX11_rowColour_25 : decode cX11_rowColour 25 = .ok (.iaload, 1) := by decide +kernel
theorem dX11_rowColour_26 : decode cX11_rowColour 26 = .ok (.ireturn, 1) := by decide +kernel
theorem dX11_isRaised_0 : decode cX11_isRaised 0 = .ok (.aload_n 0, 1) := by decide +kernel
theorem dX11_isRaised_1 : decode cX11_isRaised 1 = .ok (.getfield 12, 3) := by decide +kernel
theorem dX11_isRaised_4 : decode cX11_isRaised 4 = .ok (.getfield 147, 3) := by decide +kernel
theorem dX11_isRaised_7 : decode cX11_isRaised 7 = .ok (.iload_n 1, 1) := by decide +kernel
theorem dX11_isRaised_8 : decode cX11_isRaised 8 = .ok (.iload_n 2, 1) := by decide +kernel
theorem dX11_isRaised_9 : decode cX11_isRaised 9 = .ok (.invokevirtual 161, 3) := by decide +kernel
theorem dX11_isRaised_12 : decode cX11_isRaised 12 = .ok (.invokestatic 98, 3) := by decide +kernel
theorem dX11_isRaised_15 : decode cX11_isRaised 15 = .ok (.aload_n 0, 1) := by decide +kernel
theorem dX11_isRaised_16 : decode cX11_isRaised 16 = .ok (.getfield 12, 3) := by decide +kernel
theorem dX11_isRaised_19 : decode cX11_isRaised 19 = .ok (.getfield 147, 3) := by decide +kernel
theorem dX11_isRaised_22 : decode cX11_isRaised 22 = .ok (.iload_n 1, 1) := by decide +kernel
theorem dX11_isRaised_23 : decode cX11_isRaised 23 = .ok (.iload_n 2, 1) := by decide +kernel
theorem dX11_isRaised_24 : decode cX11_isRaised 24 = .ok (.invokevirtual 165, 3) := by decide +kernel
theorem dX11_isRaised_27 : decode cX11_isRaised 27 = .ok (.ireturn, 1) := by decide +kernel
theorem dX11_isKnotted_0 : decode cX11_isKnotted 0 = .ok (.aload_n 0, 1) := by decide +kernel
theorem dX11_isKnotted_1 : decode cX11_isKnotted 1 = .ok (.getfield 12, 3) := by decide +kernel
theorem dX11_isKnotted_4 : decode cX11_isKnotted 4 = .ok (.getfield 147, 3) := by decide +kernel
theorem dX11_isKnotted_7 : decode cX11_isKnotted 7 = .ok (.iload_n 1, 1) := by decide +kernel
theorem dX11_isKnotted_8 : decode cX11_isKnotted 8 = .ok (.iload_n 2, 1) := by decide +kernel
theorem dX11_isKnotted_9 : decode cX11_isKnotted 9 = .ok (.invokevirtual 161, 3) := by decide +kernel
theorem dX11_isKnotted_12 : decode cX11_isKnotted 12 = .ok (.invokestatic 98, 3) := by decide +kernel
theorem dX11_isKnotted_15 : decode cX11_isKnotted 15 = .ok (.aload_n 0, 1) := by decide +kernel
theorem dX11_isKnotted_16 : decode cX11_isKnotted 16 = .ok (.getfield 12, 3) := by decide +kernel
theorem dX11_isKnotted_19 : decode cX11_isKnotted 19 = .ok (.getfield 147, 3) := by decide +kernel
theorem dX11_isKnotted_22 : decode cX11_isKnotted 22 = .ok (.iload_n 1, 1) := by decide +kernel
theorem dX11_isKnotted_23 : decode cX11_isKnotted 23 = .ok (.iload_n 2, 1) := by decide +kernel
theorem dX11_isKnotted_24 : decode cX11_isKnotted 24 = .ok (.invokevirtual 168, 3) := by decide +kernel
theorem dX11_isKnotted_27 : decode cX11_isKnotted 27 = .ok (.ireturn, 1) := by decide +kernel
theorem dX11_knotCount_0 : decode cX11_knotCount 0 = .ok (.aload_n 0, 1) := by decide +kernel
theorem dX11_knotCount_1 : decode cX11_knotCount 1 = .ok (.getfield 12, 3) := by decide +kernel
theorem dX11_knotCount_4 : decode cX11_knotCount 4 = .ok (.getfield 147, 3) := by decide +kernel
theorem dX11_knotCount_7 : decode cX11_knotCount 7 = .ok (.invokevirtual 171, 3) := by decide +kernel
theorem dX11_knotCount_10 : decode cX11_knotCount 10 = .ok (.ireturn, 1) := by decide +kernel
theorem dX11_nextKnotRow_0 : decode cX11_nextKnotRow 0 = .ok (.aload_n 0, 1) := by decide +kernel
theorem dX11_nextKnotRow_1 : decode cX11_nextKnotRow 1 = .ok (.iload_n 1, 1) := by decide +kernel
theorem dX11_nextKnotRow_2 : decode cX11_nextKnotRow 2 = .ok (.invokevirtual 174, 3) := by decide +kernel
theorem dX11_nextKnotRow_5 : decode cX11_nextKnotRow 5 = .ok (.ireturn, 1) := by decide +kernel
theorem dX11_nextKnotColumn_0 : decode cX11_nextKnotColumn 0 = .ok (.aload_n 0, 1) := by decide +kernel
theorem dX11_nextKnotColumn_1 : decode cX11_nextKnotColumn 1 = .ok (.getfield 12, 3) := by decide +kernel
theorem dX11_nextKnotColumn_4 : decode cX11_nextKnotColumn 4 = .ok (.getfield 147, 3) := by decide +kernel
theorem dX11_nextKnotColumn_7 : decode cX11_nextKnotColumn 7 = .ok (.aload_n 0, 1) := by decide +kernel
theorem dX11_nextKnotColumn_8 : decode cX11_nextKnotColumn 8 = .ok (.iload_n 1, 1) := by decide +kernel
theorem dX11_nextKnotColumn_9 : decode cX11_nextKnotColumn 9 = .ok (.invokevirtual 174, 3) := by decide +kernel
theorem dX11_nextKnotColumn_12 : decode cX11_nextKnotColumn 12 = .ok (.invokevirtual 177, 3) := by decide +kernel
theorem dX11_nextKnotColumn_15 : decode cX11_nextKnotColumn 15 = .ok (.ireturn, 1) := by decide +kernel
theorem dX11_burn_0 : decode cX11_burn 0 = .ok (.iload_n 1, 1) := by decide +kernel
theorem dX11_burn_1 : decode cX11_burn 1 = .ok (.invokestatic 180, 3) := by decide +kernel
theorem dX11_burn_4 : decode cX11_burn 4 = .ok (.invokestatic 183, 3) := by decide +kernel
theorem dX11_burn_7 : decode cX11_burn 7 = .ok (.aload_n 0, 1) := by decide +kernel
theorem dX11_burn_8 : decode cX11_burn 8 = .ok (.getfield 12, 3) := by decide +kernel
theorem dX11_burn_11 : decode cX11_burn 11 = .ok (.iload_n 1, 1) := by decide +kernel
theorem dX11_burn_12 : decode cX11_burn 12 = .ok (.invokevirtual 186, 3) := by decide +kernel
theorem dX11_burn_15 : decode cX11_burn 15 = .ok (.getfield 190, 3) := by decide +kernel
theorem dX11_burn_18 : decode cX11_burn 18 = .ok (.ireturn, 1) := by decide +kernel
theorem dX11_heat_0 : decode cX11_heat 0 = .ok (.iload_n 1, 1) := by decide +kernel
theorem dX11_heat_1 : decode cX11_heat 1 = .ok (.invokestatic 180, 3) := by decide +kernel
theorem dX11_heat_4 : decode cX11_heat 4 = .ok (.invokestatic 183, 3) := by decide +kernel
theorem dX11_heat_7 : decode cX11_heat 7 = .ok (.aload_n 0, 1) := by decide +kernel
theorem dX11_heat_8 : decode cX11_heat 8 = .ok (.getfield 12, 3) := by decide +kernel
theorem dX11_heat_11 : decode cX11_heat 11 = .ok (.iload_n 1, 1) := by decide +kernel
theorem dX11_heat_12 : decode cX11_heat 12 = .ok (.invokevirtual 186, 3) := by decide +kernel
theorem dX11_heat_15 : decode cX11_heat 15 = .ok (.getfield 195, 3) := by decide +kernel
theorem dX11_heat_18 : decode cX11_heat 18 = .ok (.ireturn, 1) := by decide +kernel
theorem dX11_period_0 : decode cX11_period 0 = .ok (.aload_n 0, 1) := by decide +kernel
theorem dX11_period_1 : decode cX11_period 1 = .ok (.getfield 12, 3) := by decide +kernel
theorem dX11_period_4 : decode cX11_period 4 = .ok (.getfield 147, 3) := by decide +kernel
theorem dX11_period_7 : decode cX11_period 7 = .ok (.getfield 151, 3) := by decide +kernel
theorem dX11_period_10 : decode cX11_period 10 = .ok (.ifCond .le 7, 3) := by decide +kernel
theorem dX11_period_13 : decode cX11_period 13 = .ok (.iconst 1, 1) := by decide +kernel
theorem dX11_period_14 : decode cX11_period 14 = .ok (.goto 4, 3) := by decide +kernel
theorem dX11_period_17 : decode cX11_period 17 = .ok (.iconst 0, 1) := by decide +kernel
theorem dX11_period_18 : decode cX11_period 18 = .ok (.invokestatic 110, 3) := by decide +kernel
theorem dX11_period_21 : decode cX11_period 21 = .ok (.iconst 1, 1) := by decide +kernel
theorem dX11_period_22 : decode cX11_period 22 = .ok (.istore_n 1, 1) := by decide +kernel
theorem dX11_period_23 : decode cX11_period 23 = .ok (.iload_n 1, 1) := by decide +kernel
theorem dX11_period_24 : decode cX11_period 24 = .ok (.aload_n 0, 1) := by decide +kernel
theorem dX11_period_25 : decode cX11_period 25 = .ok (.getfield 12, 3) := by decide +kernel
theorem dX11_period_28 : decode cX11_period 28 = .ok (.getfield 147, 3) := by decide +kernel
theorem dX11_period_31 : decode cX11_period 31 = .ok (.getfield 151, 3) := by decide +kernel
theorem dX11_period_34 : decode cX11_period 34 = .ok (.if_icmp .ge 23, 3) := by decide +kernel
theorem dX11_period_37 : decode cX11_period 37 = .ok (.aload_n 0, 1) := by decide +kernel
theorem dX11_period_38 : decode cX11_period 38 = .ok (.getfield 12, 3) := by decide +kernel
theorem dX11_period_41 : decode cX11_period 41 = .ok (.getfield 147, 3) := by decide +kernel
theorem dX11_period_44 : decode cX11_period 44 = .ok (.iload_n 1, 1) := by decide +kernel
theorem dX11_period_45 : decode cX11_period 45 = .ok (.invokevirtual 198, 3) := by decide +kernel
theorem dX11_period_48 : decode cX11_period 48 = .ok (.ifCond .ne 9, 3) := by decide +kernel
theorem dX11_period_51 : decode cX11_period 51 = .ok (.iinc 1 1, 3) := by decide +kernel
theorem dX11_period_54 : decode cX11_period 54 = .ok (.goto (-31), 3) := by decide +kernel
theorem dX11_period_57 : decode cX11_period 57 = .ok (.iload_n 1, 1) := by decide +kernel
theorem dX11_period_58 : decode cX11_period 58 = .ok (.ireturn, 1) := by decide +kernel
theorem dX11_periodByBorders_0 : decode cX11_periodByBorders 0 = .ok (.aload_n 0, 1) := by decide +kernel
theorem dX11_periodByBorders_1 : decode cX11_periodByBorders 1 = .ok (.getfield 12, 3) := by decide +kernel
theorem dX11_periodByBorders_4 : decode cX11_periodByBorders 4 = .ok (.getfield 147, 3) := by decide +kernel
theorem dX11_periodByBorders_7 : decode cX11_periodByBorders 7 = .ok (.getfield 151, 3) := by decide +kernel
theorem dX11_periodByBorders_10 : decode cX11_periodByBorders 10 = .ok (.ifCond .le 7, 3) := by decide +kernel
theorem dX11_periodByBorders_13 : decode cX11_periodByBorders 13 = .ok (.iconst 1, 1) := by decide +kernel
theorem dX11_periodByBorders_14 : decode cX11_periodByBorders 14 = .ok (.goto 4, 3) := by decide +kernel
theorem dX11_periodByBorders_17 : decode cX11_periodByBorders 17 = .ok (.iconst 0, 1) := by decide +kernel
theorem dX11_periodByBorders_18 : decode cX11_periodByBorders 18 = .ok (.invokestatic 110, 3) := by decide +kernel
theorem dX11_periodByBorders_21 : decode cX11_periodByBorders 21 = .ok (.aload_n 0, 1) := by decide +kernel
theorem dX11_periodByBorders_22 : decode cX11_periodByBorders 22 = .ok (.getfield 12, 3) := by decide +kernel
theorem dX11_periodByBorders_25 : decode cX11_periodByBorders 25 = .ok (.getfield 147, 3) := by decide +kernel
theorem dX11_periodByBorders_28 : decode cX11_periodByBorders 28 = .ok (.getfield 151, 3) := by decide +kernel
theorem dX11_periodByBorders_31 : decode cX11_periodByBorders 31 = .ok (.aload_n 0, 1) := by decide +kernel
theorem dX11_periodByBorders_32 : decode cX11_periodByBorders 32 = .ok (.getfield 12, 3) := by decide +kernel
theorem dX11_periodByBorders_35 : decode cX11_periodByBorders 35 = .ok (.getfield 147, 3) := by decide +kernel
theorem dX11_periodByBorders_38 : decode cX11_periodByBorders 38 = .ok (.invokevirtual 201, 3) := by decide +kernel
theorem dX11_periodByBorders_41 : decode cX11_periodByBorders 41 = .ok (.isub, 1) := by decide +kernel
theorem dX11_periodByBorders_42 : decode cX11_periodByBorders 42 = .ok (.ireturn, 1) := by decide +kernel
theorem dX11_occurrences_0 : decode cX11_occurrences 0 = .ok (.iload_n 1, 1) := by decide +kernel
theorem dX11_occurrences_1 : decode cX11_occurrences 1 = .ok (.iconst 1, 1) := by decide +kernel
theorem dX11_occurrences_2 : decode cX11_occurrences 2 = .ok (.if_icmp .lt 21, 3) := by decide +kernel
theorem dX11_occurrences_5 : decode cX11_occurrences 5 = .ok (.iload_n 1, 1) := by decide +kernel
theorem dX11_occurrences_6 : decode cX11_occurrences 6 = .ok (.aload_n 0, 1) := by decide +kernel
theorem dX11_occurrences_7 : decode cX11_occurrences 7 = .ok (.getfield 12, 3) := by decide +kernel
theorem dX11_occurrences_10 : decode cX11_occurrences 10 = .ok (.getfield 147, 3) := by decide +kernel
theorem dX11_occurrences_13 : decode cX11_occurrences 13 = .ok (.getfield 151, 3) := by decide +kernel
theorem dX11_occurrences_16 : decode cX11_occurrences 16 = .ok (.if_icmp .gt 7, 3) := by decide +kernel
theorem dX11_occurrences_19 : decode cX11_occurrences 19 = .ok (.iconst 1, 1) := by decide +kernel
theorem dX11_occurrences_20 : decode cX11_occurrences 20 = .ok (.goto 4, 3) := by decide +kernel
theorem dX11_occurrences_23 : decode cX11_occurrences 23 = .ok (.iconst 0, 1) := by decide +kernel
theorem dX11_occurrences_24 : decode cX11_occurrences 24 = .ok (.invokestatic 183, 3) := by decide +kernel
theorem dX11_occurrences_27 : decode cX11_occurrences 27 = .ok (.aload_n 0, 1) := by decide +kernel
theorem dX11_occurrences_28 : decode cX11_occurrences 28 = .ok (.getfield 12, 3) := by decide +kernel
theorem dX11_occurrences_31 : decode cX11_occurrences 31 = .ok (.getfield 147, 3) := by decide +kernel
theorem dX11_occurrences_34 : decode cX11_occurrences 34 = .ok (.iload_n 1, 1) := by decide +kernel
theorem dX11_occurrences_35 : decode cX11_occurrences 35 = .ok (.invokevirtual 204, 3) := by decide +kernel
theorem dX11_occurrences_38 : decode cX11_occurrences 38 = .ok (.ireturn, 1) := by decide +kernel
theorem dX11_distinctRows_0 : decode cX11_distinctRows 0 = .ok (.aload_n 0, 1) := by decide +kernel
theorem dX11_distinctRows_1 : decode cX11_distinctRows 1 = .ok (.getfield 12, 3) := by decide +kernel
theorem dX11_distinctRows_4 : decode cX11_distinctRows 4 = .ok (.getfield 147, 3) := by decide +kernel
theorem dX11_distinctRows_7 : decode cX11_distinctRows 7 = .ok (.invokevirtual 207, 3) := by decide +kernel
theorem dX11_distinctRows_10 : decode cX11_distinctRows 10 = .ok (.ireturn, 1) := by decide +kernel
theorem dX11_distance_0 : decode cX11_distance 0 = .ok (.aload_n 0, 1) := by decide +kernel
theorem dX11_distance_1 : decode cX11_distance 1 = .ok (.getfield 12, 3) := by decide +kernel
theorem dX11_distance_4 : decode cX11_distance 4 = .ok (.getfield 147, 3) := by decide +kernel
theorem dX11_distance_7 : decode cX11_distance 7 = .ok (.iload_n 1, 1) := by decide +kernel
theorem dX11_distance_8 : decode cX11_distance 8 = .ok (.invokevirtual 154, 3) := by decide +kernel
theorem dX11_distance_11 : decode cX11_distance 11 = .ok (.ifCond .eq 21, 3) := by decide +kernel
theorem dX11_distance_14 : decode cX11_distance 14 = .ok (.aload_n 0, 1) := by decide +kernel
theorem dX11_distance_15 : decode cX11_distance 15 = .ok (.getfield 12, 3) := by decide +kernel
theorem dX11_distance_18 : decode cX11_distance 18 = .ok (.getfield 147, 3) := by decide +kernel
theorem dX11_distance_21 : decode cX11_distance 21 = .ok (.iload_n 2, 1) := by decide +kernel
theorem dX11_distance_22 : decode cX11_distance 22 = .ok (.invokevirtual 154, 3) := by decide +kernel
theorem dX11_distance_25 : decode cX11_distance 25 = .ok (.ifCond .eq 7, 3) := by decide +kernel
theorem dX11_distance_28 : decode cX11_distance 28 = .ok (.iconst 1, 1) := by decide +kernel
theorem dX11_distance_29 : decode cX11_distance 29 = .ok (.goto 4, 3) := by decide +kernel
theorem dX11_distance_32 : decode cX11_distance 32 = .ok (.iconst 0, 1) := by decide +kernel
theorem dX11_distance_33 : decode cX11_distance 33 = .ok (.invokestatic 98, 3) := by decide +kernel
theorem dX11_distance_36 : decode cX11_distance 36 = .ok (.aload_n 0, 1) := by decide +kernel
theorem dX11_distance_37 : decode cX11_distance 37 = .ok (.getfield 12, 3) := by decide +kernel
theorem dX11_distance_40 : decode cX11_distance 40 = .ok (.getfield 147, 3) := by decide +kernel
theorem dX11_distance_43 : decode cX11_distance 43 = .ok (.getfield 155, 3) := by decide +kernel
theorem dX11_distance_46 : decode cX11_distance 46 = .ok (.iload_n 1, 1) := by decide +kernel
theorem dX11_distance_47 : decode cX11_distance 47 = .ok (.iaload, 1) := by decide +kernel
theorem dX11_distance_48 : decode cX11_distance 48 = .ok (.aload_n 0, 1) := by decide +kernel
theorem dX11_distance_49 : decode cX11_distance 49 = .ok (.getfield 12, 3) := by decide +kernel
theorem dX11_distance_52 : decode cX11_distance 52 = .ok (.getfield 147, 3) := by decide +kernel
theorem dX11_distance_55 : decode cX11_distance 55 = .ok (.getfield 155, 3) := by decide +kernel
theorem dX11_distance_58 : decode cX11_distance 58 = .ok (.iload_n 2, 1) := by decide +kernel
theorem dX11_distance_59 : decode cX11_distance 59 = .ok (.iaload, 1) := by decide +kernel
theorem dX11_distance_60 : decode cX11_distance 60 = .ok (.ixor, 1) := by decide +kernel
theorem dX11_distance_61 : decode cX11_distance 61 = .ok (.invokestatic 210, 3) := by decide +kernel
theorem dX11_distance_64 : decode cX11_distance 64 = .ok (.ireturn, 1) := by decide +kernel
theorem dX11_longestFloat_0 : decode cX11_longestFloat 0 = .ok (.iload_n 1, 1) := by decide +kernel
theorem dX11_longestFloat_1 : decode cX11_longestFloat 1 = .ok (.invokestatic 215, 3) := by decide +kernel
theorem dX11_longestFloat_4 : decode cX11_longestFloat 4 = .ok (.invokestatic 98, 3) := by decide +kernel
theorem dX11_longestFloat_7 : decode cX11_longestFloat 7 = .ok (.aload_n 0, 1) := by decide +kernel
theorem dX11_longestFloat_8 : decode cX11_longestFloat 8 = .ok (.getfield 12, 3) := by decide +kernel
theorem dX11_longestFloat_11 : decode cX11_longestFloat 11 = .ok (.getfield 147, 3) := by decide +kernel
theorem dX11_longestFloat_14 : decode cX11_longestFloat 14 = .ok (.iload_n 1, 1) := by decide +kernel
theorem dX11_longestFloat_15 : decode cX11_longestFloat 15 = .ok (.invokevirtual 218, 3) := by decide +kernel
theorem dX11_longestFloat_18 : decode cX11_longestFloat 18 = .ok (.ireturn, 1) := by decide +kernel
theorem dX11_isSymmetric_0 : decode cX11_isSymmetric 0 = .ok (.aload_n 0, 1) := by decide +kernel
theorem dX11_isSymmetric_1 : decode cX11_isSymmetric 1 = .ok (.getfield 12, 3) := by decide +kernel
theorem dX11_isSymmetric_4 : decode cX11_isSymmetric 4 = .ok (.getfield 147, 3) := by decide +kernel
theorem dX11_isSymmetric_7 : decode cX11_isSymmetric 7 = .ok (.invokevirtual 221, 3) := by decide +kernel
theorem dX11_isSymmetric_10 : decode cX11_isSymmetric 10 = .ok (.ireturn, 1) := by decide +kernel
theorem dX11_wovenTotal_0 : decode cX11_wovenTotal 0 = .ok (.aload_n 0, 1) := by decide +kernel
theorem dX11_wovenTotal_1 : decode cX11_wovenTotal 1 = .ok (.getfield 12, 3) := by decide +kernel
theorem dX11_wovenTotal_4 : decode cX11_wovenTotal 4 = .ok (.getfield 225, 3) := by decide +kernel
theorem dX11_wovenTotal_7 : decode cX11_wovenTotal 7 = .ok (.ireturn, 1) := by decide +kernel
theorem dX11_waxUsed_0 : decode cX11_waxUsed 0 = .ok (.aload_n 0, 1) := by decide +kernel
theorem dX11_waxUsed_1 : decode cX11_waxUsed 1 = .ok (.getfield 12, 3) := by decide +kernel
theorem dX11_waxUsed_4 : decode cX11_waxUsed 4 = .ok (.getfield 228, 3) := by decide +kernel
theorem dX11_waxUsed_7 : decode cX11_waxUsed 7 = .ok (.ireturn, 1) := by decide +kernel
theorem dX11_meanRaised_0 : decode cX11_meanRaised 0 = .ok (.aload_n 0, 1) := by decide +kernel
theorem dX11_meanRaised_1 : decode cX11_meanRaised 1 = .ok (.getfield 12, 3) := by decide +kernel
theorem dX11_meanRaised_4 : decode cX11_meanRaised 4 = .ok (.getfield 147, 3) := by decide +kernel
theorem dX11_meanRaised_7 : decode cX11_meanRaised 7 = .ok (.getfield 151, 3) := by decide +kernel
theorem dX11_meanRaised_10 : decode cX11_meanRaised 10 = .ok (.invokestatic 231, 3) := by decide +kernel
theorem dX11_meanRaised_13 : decode cX11_meanRaised 13 = .ok (.aload_n 0, 1) := by decide +kernel
theorem dX11_meanRaised_14 : decode cX11_meanRaised 14 = .ok (.getfield 12, 3) := by decide +kernel
theorem dX11_meanRaised_17 : decode cX11_meanRaised 17 = .ok (.getfield 147, 3) := by decide +kernel
theorem dX11_meanRaised_20 : decode cX11_meanRaised 20 = .ok (.invokevirtual 235, 3) := by decide +kernel
theorem dX11_meanRaised_23 : decode cX11_meanRaised 23 = .ok (.i2d, 1) := by decide +kernel
theorem dX11_meanRaised_24 : decode cX11_meanRaised 24 = .ok (.aload_n 0, 1) := by decide +kernel
theorem dX11_meanRaised_25 : decode cX11_meanRaised 25 = .ok (.getfield 12, 3) := by decide +kernel
theorem dX11_meanRaised_28 : decode cX11_meanRaised 28 = .ok (.getfield 147, 3) := by decide +kernel
theorem dX11_meanRaised_31 : decode cX11_meanRaised 31 = .ok (.getfield 151, 3) := by decide +kernel
theorem dX11_meanRaised_34 : decode cX11_meanRaised 34 = .ok (.i2d, 1) := by decide +kernel
theorem dX11_meanRaised_35 : decode cX11_meanRaised 35 = .ok (.ddiv, 1) := by decide +kernel
theorem dX11_meanRaised_36 : decode cX11_meanRaised 36 = .ok (.dreturn, 1) := by decide +kernel
theorem dX11_knotShare_0 : decode cX11_knotShare 0 = .ok (.aload_n 0, 1) := by decide +kernel
theorem dX11_knotShare_1 : decode cX11_knotShare 1 = .ok (.getfield 12, 3) := by decide +kernel
theorem dX11_knotShare_4 : decode cX11_knotShare 4 = .ok (.getfield 147, 3) := by decide +kernel
theorem dX11_knotShare_7 : decode cX11_knotShare 7 = .ok (.getfield 151, 3) := by decide +kernel
theorem dX11_knotShare_10 : decode cX11_knotShare 10 = .ok (.invokestatic 231, 3) := by decide +kernel
theorem dX11_knotShare_13 : decode cX11_knotShare 13 = .ok (.aload_n 0, 1) := by decide +kernel
theorem dX11_knotShare_14 : decode cX11_knotShare 14 = .ok (.getfield 12, 3) := by decide +kernel
theorem dX11_knotShare_17 : decode cX11_knotShare 17 = .ok (.getfield 147, 3) := by decide +kernel
theorem dX11_knotShare_20 : decode cX11_knotShare 20 = .ok (.invokevirtual 171, 3) := by decide +kernel
theorem dX11_knotShare_23 : decode cX11_knotShare 23 = .ok (.i2f, 1) := by decide +kernel
theorem dX11_knotShare_24 : decode cX11_knotShare 24 = .ok (.aload_n 0, 1) := by decide +kernel
theorem dX11_knotShare_25 : decode cX11_knotShare 25 = .ok (.getfield 12, 3) := by decide +kernel
theorem dX11_knotShare_28 : decode cX11_knotShare 28 = .ok (.getfield 147, 3) := by decide +kernel
theorem dX11_knotShare_31 : decode cX11_knotShare 31 = .ok (.getfield 151, 3) := by decide +kernel
theorem dX11_knotShare_34 : decode cX11_knotShare 34 = .ok (.bipush 16, 2) := by decide +kernel
theorem dX11_knotShare_36 : decode cX11_knotShare 36 = .ok (.imul, 1) := by decide +kernel
theorem dX11_knotShare_37 : decode cX11_knotShare 37 = .ok (.i2f, 1) := by decide +kernel
theorem dX11_knotShare_38 : decode cX11_knotShare 38 = .ok (.fdiv, 1) := by decide +kernel
theorem dX11_knotShare_39 : decode cX11_knotShare 39 = .ok (.freturn, 1) := by decide +kernel
theorem dX11_feed_0 : decode cX11_feed 0 = .ok (.aload_n 0, 1) := by decide +kernel
theorem dX11_feed_1 : decode cX11_feed 1 = .ok (.getfield 46, 3) := by decide +kernel
theorem dX11_feed_4 : decode cX11_feed 4 = .ok (.invokevirtual 238, 3) := by decide +kernel
theorem dX11_feed_7 : decode cX11_feed 7 = .ok (.ifCond .ne 7, 3) := by decide +kernel
theorem dX11_feed_10 : decode cX11_feed 10 = .ok (.iconst 1, 1) := by decide +kernel
theorem dX11_feed_11 : decode cX11_feed 11 = .ok (.goto 4, 3) := by decide +kernel
theorem dX11_feed_14 : decode cX11_feed 14 = .ok (.iconst 0, 1) := by decide +kernel
theorem dX11_feed_15 : decode cX11_feed 15 = .ok (.invokestatic 241, 3) := by decide +kernel
theorem dX11_feed_18 : decode cX11_feed 18 = .ok (.aload_n 0, 1) := by decide +kernel
theorem dX11_feed_19 : decode cX11_feed 19 = .ok (.getfield 46, 3) := by decide +kernel
theorem dX11_feed_22 : decode cX11_feed 22 = .ok (.iload_n 1, 1) := by decide +kernel
theorem dX11_feed_23 : decode cX11_feed 23 = .ok (.invokevirtual 244, 3) := by decide +kernel
theorem dX11_feed_26 : decode cX11_feed 26 = .ok (.ireturn, 1) := by decide +kernel
theorem dX11_execute_0 : decode cX11_execute 0 = .ok (.aload_n 0, 1) := by decide +kernel
theorem dX11_execute_1 : decode cX11_execute 1 = .ok (.getfield 46, 3) := by decide +kernel
theorem dX11_execute_4 : decode cX11_execute 4 = .ok (.invokevirtual 248, 3) := by decide +kernel
theorem dX11_execute_7 : decode cX11_execute 7 = .ok (.istore_n 1, 1) := by decide +kernel
theorem dX11_execute_8 : decode cX11_execute 8 = .ok (.aload_n 0, 1) := by decide +kernel
theorem dX11_execute_9 : decode cX11_execute 9 = .ok (.getfield 46, 3) := by decide +kernel
theorem dX11_execute_12 : decode cX11_execute 12 = .ok (.invokevirtual 251, 3) := by decide +kernel
theorem dX11_execute_15 : decode cX11_execute 15 = .ok (.iload_n 1, 1) := by decide +kernel
theorem dX11_execute_16 : decode cX11_execute 16 = .ok (.ifCond .ne 19, 3) := by decide +kernel
theorem dX11_execute_19 : decode cX11_execute 19 = .ok (.aload_n 0, 1) := by decide +kernel
theorem dX11_execute_20 : decode cX11_execute 20 = .ok (.iconst 1, 1) := by decide +kernel
theorem dX11_execute_21 : decode cX11_execute 21 = .ok (.putfield 254, 3) := by decide +kernel
theorem dX11_execute_24 : decode cX11_execute 24 = .ok (.aload_n 0, 1) := by decide +kernel
theorem dX11_execute_25 : decode cX11_execute 25 = .ok (.aload_n 0, 1) := by decide +kernel
theorem dX11_execute_26 : decode cX11_execute 26 = .ok (.getfield 46, 3) := by decide +kernel
theorem dX11_execute_29 : decode cX11_execute 29 = .ok (.getfield 258, 3) := by decide +kernel
theorem dX11_execute_32 : decode cX11_execute 32 = .ok (.putfield 261, 3) := by decide +kernel
theorem dX11_execute_35 : decode cX11_execute 35 = .ok (.iload_n 1, 1) := by decide +kernel
theorem dX11_execute_36 : decode cX11_execute 36 = .ok (.invokestatic 183, 3) := by decide +kernel
theorem dX11_execute_39 : decode cX11_execute 39 = .ok (.aload_n 0, 1) := by decide +kernel
theorem dX11_execute_40 : decode cX11_execute 40 = .ok (.getfield 16, 3) := by decide +kernel
theorem dX11_execute_43 : decode cX11_execute 43 = .ok (.aload_n 0, 1) := by decide +kernel
theorem dX11_execute_44 : decode cX11_execute 44 = .ok (.getfield 12, 3) := by decide +kernel
theorem dX11_execute_47 : decode cX11_execute 47 = .ok (.invokevirtual 264, 3) := by decide +kernel
theorem dX11_execute_50 : decode cX11_execute 50 = .ok (.aload_n 0, 1) := by decide +kernel
theorem dX11_execute_51 : decode cX11_execute 51 = .ok (.invokevirtual 268, 3) := by decide +kernel
theorem dX11_execute_54 : decode cX11_execute 54 = .ok (.istore_n 2, 1) := by decide +kernel
theorem dX11_execute_55 : decode cX11_execute 55 = .ok (.iload_n 2, 1) := by decide +kernel
theorem dX11_execute_56 : decode cX11_execute 56 = .ok (.ifCond .lt 21, 3) := by decide +kernel
theorem dX11_execute_59 : decode cX11_execute 59 = .ok (.aload_n 0, 1) := by decide +kernel
theorem dX11_execute_60 : decode cX11_execute 60 = .ok (.getfield 12, 3) := by decide +kernel
theorem dX11_execute_63 : decode cX11_execute 63 = .ok (.aload_n 0, 1) := by decide +kernel
theorem dX11_execute_64 : decode cX11_execute 64 = .ok (.getfield 16, 3) := by decide +kernel
theorem dX11_execute_67 : decode cX11_execute 67 = .ok (.invokevirtual 264, 3) := by decide +kernel
theorem dX11_execute_70 : decode cX11_execute 70 = .ok (.aload_n 0, 1) := by decide +kernel
theorem dX11_execute_71 : decode cX11_execute 71 = .ok (.bipush 7, 2) := by decide +kernel
theorem dX11_execute_73 : decode cX11_execute 73 = .ok (.iload_n 2, 1) := by decide +kernel
theorem dX11_execute_74 : decode cX11_execute 74 = .ok (.invokevirtual 271, 3) := by decide +kernel
theorem dX11_execute_77 : decode cX11_execute 77 = .ok (.aload_n 0, 1) := by decide +kernel
theorem dX11_execute_78 : decode cX11_execute 78 = .ok (.getfield 25, 3) := by decide +kernel
theorem dX11_execute_81 : decode cX11_execute 81 = .ok (.aload_n 0, 1) := by decide +kernel
theorem dX11_execute_82 : decode cX11_execute 82 = .ok (.getfield 16, 3) := by decide +kernel
theorem dX11_execute_85 : decode cX11_execute 85 = .ok (.invokevirtual 275, 3) := by decide +kernel
theorem dX11_execute_88 : decode cX11_execute 88 = .ok (.aload_n 0, 1) := by decide +kernel
theorem dX11_execute_89 : decode cX11_execute 89 = .ok (.getfield 46, 3) := by decide +kernel
theorem dX11_execute_92 : decode cX11_execute 92 = .ok (.getfield 278, 3) := by decide +kernel
theorem dX11_execute_95 : decode cX11_execute 95 = .ok (.ireturn, 1) := by decide +kernel
theorem dX11_writeRow_0 : decode cX11_writeRow 0 = .ok (.aload_n 0, 1) := by decide +kernel
theorem dX11_writeRow_1 : decode cX11_writeRow 1 = .ok (.getfield 12, 3) := by decide +kernel
theorem dX11_writeRow_4 : decode cX11_writeRow 4 = .ok (.getfield 147, 3) := by decide +kernel
theorem dX11_writeRow_7 : decode cX11_writeRow 7 = .ok (.iload_n 1, 1) := by decide +kernel
theorem dX11_writeRow_8 : decode cX11_writeRow 8 = .ok (.invokevirtual 154, 3) := by decide +kernel
theorem dX11_writeRow_11 : decode cX11_writeRow 11 = .ok (.invokestatic 98, 3) := by decide +kernel
theorem dX11_writeRow_14 : decode cX11_writeRow 14 = .ok (.aload_n 0, 1) := by decide +kernel
theorem dX11_writeRow_15 : decode cX11_writeRow 15 = .ok (.getfield 53, 3) := by decide +kernel
theorem dX11_writeRow_18 : decode cX11_writeRow 18 = .ok (.aload_n 0, 1) := by decide +kernel
theorem dX11_writeRow_19 : decode cX11_writeRow 19 = .ok (.getfield 12, 3) := by decide +kernel
theorem dX11_writeRow_22 : decode cX11_writeRow 22 = .ok (.getfield 147, 3) := by decide +kernel
theorem dX11_writeRow_25 : decode cX11_writeRow 25 = .ok (.iload_n 1, 1) := by decide +kernel
theorem dX11_writeRow_26 : decode cX11_writeRow 26 = .ok (.invokevirtual 281, 3) := by decide +kernel
theorem dX11_writeRow_29 : decode cX11_writeRow 29 = .ok (.aload_n 0, 1) := by decide +kernel
theorem dX11_writeRow_30 : decode cX11_writeRow 30 = .ok (.getfield 53, 3) := by decide +kernel
theorem dX11_writeRow_33 : decode cX11_writeRow 33 = .ok (.getfield 285, 3) := by decide +kernel
theorem dX11_writeRow_36 : decode cX11_writeRow 36 = .ok (.ireturn, 1) := by decide +kernel
theorem dX11_lineCharacter_0 : decode cX11_lineCharacter 0 = .ok (.iload_n 1, 1) := by decide +kernel
theorem dX11_lineCharacter_1 : decode cX11_lineCharacter 1 = .ok (.ifCond .lt 18, 3) := by decide +kernel
theorem dX11_lineCharacter_4 : decode cX11_lineCharacter 4 = .ok (.iload_n 1, 1) := by decide +kernel
theorem dX11_lineCharacter_5 : decode cX11_lineCharacter 5 = .ok (.aload_n 0, 1) := by decide +kernel
theorem dX11_lineCharacter_6 : decode cX11_lineCharacter 6 = .ok (.getfield 53, 3) := by decide +kernel
theorem dX11_lineCharacter_9 : decode cX11_lineCharacter 9 = .ok (.getfield 285, 3) := by decide +kernel
theorem dX11_lineCharacter_12 : decode cX11_lineCharacter 12 = .ok (.if_icmp .ge 7, 3) := by decide +kernel
theorem dX11_lineCharacter_15 : decode cX11_lineCharacter 15 = .ok (.iconst 1, 1) := by decide +kernel
theorem dX11_lineCharacter_16 : decode cX11_lineCharacter 16 = .ok (.goto 4, 3) := by decide +kernel
theorem dX11_lineCharacter_19 : decode cX11_lineCharacter 19 = .ok (.iconst 0, 1) := by decide +kernel
theorem dX11_lineCharacter_20 : decode cX11_lineCharacter 20 = .ok (.invokestatic 98, 3) := by decide +kernel
theorem dX11_lineCharacter_23 : decode cX11_lineCharacter 23 = .ok (.aload_n 0, 1) := by decide +kernel
theorem dX11_lineCharacter_24 : decode cX11_lineCharacter 24 = .ok (.getfield 53, 3) := by decide +kernel
theorem dX11_lineCharacter_27 : decode cX11_lineCharacter 27 = .ok (.getfield 292, 3) := by decide +kernel
theorem dX11_lineCharacter_30 : decode cX11_lineCharacter 30 = .ok (.iload_n 1, 1) := by decide +kernel
theorem dX11_lineCharacter_31 : decode cX11_lineCharacter 31 = .ok (.caload, 1) := by decide +kernel
theorem dX11_lineCharacter_32 : decode cX11_lineCharacter 32 = .ok (.ireturn, 1) := by decide +kernel
theorem dX11_denial_0 : decode cX11_denial 0 = .ok (.aload_n 0, 1) := by decide +kernel
theorem dX11_denial_1 : decode cX11_denial 1 = .ok (.getfield 296, 3) := by decide +kernel
theorem dX11_denial_4 : decode cX11_denial 4 = .ok (.ifCond .eq 7, 3) := by decide +kernel
theorem dX11_denial_7 : decode cX11_denial 7 = .ok (.iconst 1, 1) := by decide +kernel
theorem dX11_denial_8 : decode cX11_denial 8 = .ok (.goto 4, 3) := by decide +kernel
theorem dX11_denial_11 : decode cX11_denial 11 = .ok (.iconst 0, 1) := by decide +kernel
theorem dX11_denial_12 : decode cX11_denial 12 = .ok (.invokestatic 110, 3) := by decide +kernel
theorem dX11_denial_15 : decode cX11_denial 15 = .ok (.aload_n 0, 1) := by decide +kernel
theorem dX11_denial_16 : decode cX11_denial 16 = .ok (.getfield 296, 3) := by decide +kernel
theorem dX11_denial_19 : decode cX11_denial 19 = .ok (.ireturn, 1) := by decide +kernel
theorem dX11_denialCause_0 : decode cX11_denialCause 0 = .ok (.aload_n 0, 1) := by decide +kernel
theorem dX11_denialCause_1 : decode cX11_denialCause 1 = .ok (.getfield 296, 3) := by decide +kernel
theorem dX11_denialCause_4 : decode cX11_denialCause 4 = .ok (.bipush 7, 2) := by decide +kernel
theorem dX11_denialCause_6 : decode cX11_denialCause 6 = .ok (.if_icmp .ne 7, 3) := by decide +kernel
theorem dX11_denialCause_9 : decode cX11_denialCause 9 = .ok (.iconst 1, 1) := by decide +kernel
theorem dX11_denialCause_10 : decode cX11_denialCause 10 = .ok (.goto 4, 3) := by decide +kernel
theorem dX11_denialCause_13 : decode cX11_denialCause 13 = .ok (.iconst 0, 1) := by decide +kernel
theorem dX11_denialCause_14 : decode cX11_denialCause 14 = .ok (.invokestatic 110, 3) := by decide +kernel
theorem dX11_denialCause_17 : decode cX11_denialCause 17 = .ok (.aload_n 0, 1) := by decide +kernel
theorem dX11_denialCause_18 : decode cX11_denialCause 18 = .ok (.getfield 302, 3) := by decide +kernel
theorem dX11_denialCause_21 : decode cX11_denialCause 21 = .ok (.ireturn, 1) := by decide +kernel
theorem dX11_undo_0 : decode cX11_undo 0 = .ok (.aload_n 0, 1) := by decide +kernel
theorem dX11_undo_1 : decode cX11_undo 1 = .ok (.getfield 25, 3) := by decide +kernel
theorem dX11_undo_4 : decode cX11_undo 4 = .ok (.getfield 305, 3) := by decide +kernel
theorem dX11_undo_7 : decode cX11_undo 7 = .ok (.ifCond .le 7, 3) := by decide +kernel
theorem dX11_undo_10 : decode cX11_undo 10 = .ok (.iconst 1, 1) := by decide +kernel
theorem dX11_undo_11 : decode cX11_undo 11 = .ok (.goto 4, 3) := by decide +kernel
theorem dX11_undo_14 : decode cX11_undo 14 = .ok (.iconst 0, 1) := by decide +kernel
theorem dX11_undo_15 : decode cX11_undo 15 = .ok (.invokestatic 241, 3) := by decide +kernel
theorem dX11_undo_18 : decode cX11_undo 18 = .ok (.aload_n 0, 1) := by decide +kernel
theorem dX11_undo_19 : decode cX11_undo 19 = .ok (.getfield 25, 3) := by decide +kernel
theorem dX11_undo_22 : decode cX11_undo 22 = .ok (.aload_n 0, 1) := by decide +kernel
theorem dX11_undo_23 : decode cX11_undo 23 = .ok (.getfield 12, 3) := by decide +kernel
theorem dX11_undo_26 : decode cX11_undo 26 = .ok (.invokevirtual 306, 3) := by decide +kernel
theorem dX11_undo_29 : decode cX11_undo 29 = .ok (.aload_n 0, 1) := by decide +kernel
theorem dX11_undo_30 : decode cX11_undo 30 = .ok (.getfield 25, 3) := by decide +kernel
theorem dX11_undo_33 : decode cX11_undo 33 = .ok (.getfield 305, 3) := by decide +kernel
theorem dX11_undo_36 : decode cX11_undo 36 = .ok (.ireturn, 1) := by decide +kernel
theorem dX11_undoCount_0 : decode cX11_undoCount 0 = .ok (.aload_n 0, 1) := by decide +kernel
theorem dX11_undoCount_1 : decode cX11_undoCount 1 = .ok (.getfield 25, 3) := by decide +kernel
theorem dX11_undoCount_4 : decode cX11_undoCount 4 = .ok (.getfield 305, 3) := by decide +kernel
theorem dX11_undoCount_7 : decode cX11_undoCount 7 = .ok (.ireturn, 1) := by decide +kernel
theorem dX11_saveSnapshot_0 : decode cX11_saveSnapshot 0 = .ok (.aload_n 0, 1) := by decide +kernel
theorem dX11_saveSnapshot_1 : decode cX11_saveSnapshot 1 = .ok (.getfield 19, 3) := by decide +kernel
theorem dX11_saveSnapshot_4 : decode cX11_saveSnapshot 4 = .ok (.aload_n 0, 1) := by decide +kernel
theorem dX11_saveSnapshot_5 : decode cX11_saveSnapshot 5 = .ok (.getfield 12, 3) := by decide +kernel
theorem dX11_saveSnapshot_8 : decode cX11_saveSnapshot 8 = .ok (.invokevirtual 264, 3) := by decide +kernel
theorem dX11_saveSnapshot_11 : decode cX11_saveSnapshot 11 = .ok (.aload_n 0, 1) := by decide +kernel
theorem dX11_saveSnapshot_12 : decode cX11_saveSnapshot 12 = .ok (.iconst 1, 1) := by decide +kernel
theorem dX11_saveSnapshot_13 : decode cX11_saveSnapshot 13 = .ok (.putfield 309, 3) := by decide +kernel
theorem dX11_saveSnapshot_16 : decode cX11_saveSnapshot 16 = .ok (.aload_n 0, 1) := by decide +kernel
theorem dX11_saveSnapshot_17 : decode cX11_saveSnapshot 17 = .ok (.getfield 12, 3) := by decide +kernel
theorem dX11_saveSnapshot_20 : decode cX11_saveSnapshot 20 = .ok (.getfield 147, 3) := by decide +kernel
theorem dX11_saveSnapshot_23 : decode cX11_saveSnapshot 23 = .ok (.getfield 151, 3) := by decide +kernel
theorem dX11_saveSnapshot_26 : decode cX11_saveSnapshot 26 = .ok (.ireturn, 1) := by decide +kernel
theorem dX11_restoreSnapshot_0 : decode cX11_restoreSnapshot 0 = .ok (.aload_n 0, 1) := by decide +kernel
theorem dX11_restoreSnapshot_1 : decode cX11_restoreSnapshot 1 = .ok (.getfield 309, 3) := by decide +kernel
theorem dX11_restoreSnapshot_4 : decode cX11_restoreSnapshot 4 = .ok (.invokestatic 241, 3) := by decide +kernel
theorem dX11_restoreSnapshot_7 : decode cX11_restoreSnapshot 7 = .ok (.aload_n 0, 1) := by decide +kernel
theorem dX11_restoreSnapshot_8 : decode cX11_restoreSnapshot 8 = .ok (.getfield 12, 3) := by decide +kernel
theorem dX11_restoreSnapshot_11 : decode cX11_restoreSnapshot 11 = .ok (.aload_n 0, 1) := by decide +kernel
theorem dX11_restoreSnapshot_12 : decode cX11_restoreSnapshot 12 = .ok (.getfield 19, 3) := by decide +kernel
theorem dX11_restoreSnapshot_15 : decode cX11_restoreSnapshot 15 = .ok (.invokevirtual 264, 3) := by decide +kernel
theorem dX11_restoreSnapshot_18 : decode cX11_restoreSnapshot 18 = .ok (.aload_n 0, 1) := by decide +kernel
theorem dX11_restoreSnapshot_19 : decode cX11_restoreSnapshot 19 = .ok (.getfield 25, 3) := by decide +kernel
theorem dX11_restoreSnapshot_22 : decode cX11_restoreSnapshot 22 = .ok (.invokevirtual 312, 3) := by decide +kernel
theorem dX11_restoreSnapshot_25 : decode cX11_restoreSnapshot 25 = .ok (.aload_n 0, 1) := by decide +kernel
theorem dX11_restoreSnapshot_26 : decode cX11_restoreSnapshot 26 = .ok (.getfield 12, 3) := by decide +kernel
theorem dX11_restoreSnapshot_29 : decode cX11_restoreSnapshot 29 = .ok (.getfield 147, 3) := by decide +kernel
theorem dX11_restoreSnapshot_32 : decode cX11_restoreSnapshot 32 = .ok (.getfield 151, 3) := by decide +kernel
theorem dX11_restoreSnapshot_35 : decode cX11_restoreSnapshot 35 = .ok (.ireturn, 1) := by decide +kernel
theorem dX11_change_0 : decode cX11_change 0 = .ok (.aload_n 0, 1) := by decide +kernel
theorem dX11_change_1 : decode cX11_change 1 = .ok (.getfield 32, 3) := by decide +kernel
theorem dX11_change_4 : decode cX11_change 4 = .ok (.aload_n 1, 1) := by decide +kernel
theorem dX11_change_5 : decode cX11_change 5 = .ok (.aload_n 0, 1) := by decide +kernel
theorem dX11_change_6 : decode cX11_change 6 = .ok (.getfield 12, 3) := by decide +kernel
theorem dX11_change_9 : decode cX11_change 9 = .ok (.invokevirtual 315, 3) := by decide +kernel
theorem dX11_change_12 : decode cX11_change 12 = .ok (.istore_n 2, 1) := by decide +kernel
theorem dX11_change_13 : decode cX11_change 13 = .ok (.iload_n 2, 1) := by decide +kernel
theorem dX11_change_14 : decode cX11_change 14 = .ok (.bipush 9, 2) := by decide +kernel
theorem dX11_change_16 : decode cX11_change 16 = .ok (.if_icmp .eq 7, 3) := by decide +kernel
theorem dX11_change_19 : decode cX11_change 19 = .ok (.iconst 1, 1) := by decide +kernel
theorem dX11_change_20 : decode cX11_change 20 = .ok (.goto 4, 3) := by decide +kernel
theorem dX11_change_23 : decode cX11_change 23 = .ok (.iconst 0, 1) := by decide +kernel
theorem dX11_change_24 : decode cX11_change 24 = .ok (.invokestatic 183, 3) := by decide +kernel
theorem dX11_change_27 : decode cX11_change 27 = .ok (.iload_n 2, 1) := by decide +kernel
theorem dX11_change_28 : decode cX11_change 28 = .ok (.bipush 10, 2) := by decide +kernel
theorem dX11_change_30 : decode cX11_change 30 = .ok (.if_icmp .eq 7, 3) := by decide +kernel
theorem dX11_change_33 : decode cX11_change 33 = .ok (.iconst 1, 1) := by decide +kernel
theorem dX11_change_34 : decode cX11_change 34 = .ok (.goto 4, 3) := by decide +kernel
theorem dX11_change_37 : decode cX11_change 37 = .ok (.iconst 0, 1) := by decide +kernel
theorem dX11_change_38 : decode cX11_change 38 = .ok (.invokestatic 98, 3) := by decide +kernel
theorem dX11_change_41 : decode cX11_change 41 = .ok (.iload_n 2, 1) := by decide +kernel
theorem dX11_change_42 : decode cX11_change 42 = .ok (.ifCond .eq 15, 3) := by decide +kernel
theorem dX11_change_45 : decode cX11_change 45 = .ok (.aload_n 0, 1) := by decide +kernel
theorem dX11_change_46 : decode cX11_change 46 = .ok (.iload_n 2, 1) := by decide +kernel
theorem dX11_change_47 : decode cX11_change 47 = .ok (.aload_n 0, 1) := by decide +kernel
theorem dX11_change_48 : decode cX11_change 48 = .ok (.getfield 32, 3) := by decide +kernel
theorem dX11_change_51 : decode cX11_change 51 = .ok (.getfield 319, 3) := by decide +kernel
theorem dX11_change_54 : decode cX11_change 54 = .ok (.invokevirtual 271, 3) := by decide +kernel
theorem dX11_change_57 : decode cX11_change 57 = .ok (.aload_n 0, 1) := by decide +kernel
theorem dX11_change_58 : decode cX11_change 58 = .ok (.getfield 25, 3) := by decide +kernel
theorem dX11_change_61 : decode cX11_change 61 = .ok (.aload_n 0, 1) := by decide +kernel
theorem dX11_change_62 : decode cX11_change 62 = .ok (.getfield 12, 3) := by decide +kernel
theorem dX11_change_65 : decode cX11_change 65 = .ok (.invokevirtual 275, 3) := by decide +kernel
theorem dX11_change_68 : decode cX11_change 68 = .ok (.aload_n 0, 1) := by decide +kernel
theorem dX11_change_69 : decode cX11_change 69 = .ok (.getfield 12, 3) := by decide +kernel
theorem dX11_change_72 : decode cX11_change 72 = .ok (.aload_n 1, 1) := by decide +kernel
theorem dX11_change_73 : decode cX11_change 73 = .ok (.invokevirtual 322, 3) := by decide +kernel
theorem dX11_change_76 : decode cX11_change 76 = .ok (.ireturn, 1) := by decide +kernel
theorem dX11_firstFailingCommand_0 : decode cX11_firstFailingCommand 0 = .ok (.iconst 0, 1) := by decide +kernel
theorem dX11_firstFailingCommand_1 : decode cX11_firstFailingCommand 1 = .ok (.istore_n 1, 1) := by decide +kernel
theorem dX11_firstFailingCommand_2 : decode cX11_firstFailingCommand 2 = .ok (.iload_n 1, 1) := by decide +kernel
theorem dX11_firstFailingCommand_3 : decode cX11_firstFailingCommand 3 = .ok (.aload_n 0, 1) := by decide +kernel
theorem dX11_firstFailingCommand_4 : decode cX11_firstFailingCommand 4 = .ok (.getfield 46, 3) := by decide +kernel
theorem dX11_firstFailingCommand_7 : decode cX11_firstFailingCommand 7 = .ok (.getfield 278, 3) := by decide +kernel
theorem dX11_firstFailingCommand_10 : decode cX11_firstFailingCommand 10 = .ok (.if_icmp .ge 63, 3) := by decide +kernel
theorem dX11_firstFailingCommand_13 : decode cX11_firstFailingCommand 13 = .ok (.aload_n 0, 1) := by decide +kernel
theorem dX11_firstFailingCommand_14 : decode cX11_firstFailingCommand 14 = .ok (.getfield 46, 3) := by decide +kernel
theorem dX11_firstFailingCommand_17 : decode cX11_firstFailingCommand 17 = .ok (.getfield 325, 3) := by decide +kernel
theorem dX11_firstFailingCommand_20 : decode cX11_firstFailingCommand 20 = .ok (.iload_n 1, 1) := by decide +kernel
theorem dX11_firstFailingCommand_21 : decode cX11_firstFailingCommand 21 = .ok (.aaload, 1) := by decide +kernel
theorem dX11_firstFailingCommand_22 : decode cX11_firstFailingCommand 22 = .ok (.astore_n 2, 1) := by decide +kernel
theorem dX11_firstFailingCommand_23 : decode cX11_firstFailingCommand 23 = .ok (.aload_n 0, 1) := by decide +kernel
theorem dX11_firstFailingCommand_24 : decode cX11_firstFailingCommand 24 = .ok (.getfield 32, 3) := by decide +kernel
theorem dX11_firstFailingCommand_27 : decode cX11_firstFailingCommand 27 = .ok (.aload_n 2, 1) := by decide +kernel
theorem dX11_firstFailingCommand_28 : decode cX11_firstFailingCommand 28 = .ok (.aload_n 0, 1) := by decide +kernel
theorem dX11_firstFailingCommand_29 : decode cX11_firstFailingCommand 29 = .ok (.getfield 12, 3) := by decide +kernel
theorem dX11_firstFailingCommand_32 : decode cX11_firstFailingCommand 32 = .ok (.invokevirtual 315, 3) := by decide +kernel
theorem dX11_firstFailingCommand_35 : decode cX11_firstFailingCommand 35 = .ok (.istore_n 3, 1) := by decide +kernel
theorem dX11_firstFailingCommand_36 : decode cX11_firstFailingCommand 36 = .ok (.iload_n 3, 1) := by decide +kernel
theorem dX11_firstFailingCommand_37 : decode cX11_firstFailingCommand 37 = .ok (.ifCond .eq 21, 3) := by decide +kernel
theorem dX11_firstFailingCommand_40 : decode cX11_firstFailingCommand 40 = .ok (.aload_n 0, 1) := by decide +kernel
theorem dX11_firstFailingCommand_41 : decode cX11_firstFailingCommand 41 = .ok (.iload_n 3, 1) := by decide +kernel
theorem dX11_firstFailingCommand_42 : decode cX11_firstFailingCommand 42 = .ok (.bipush 6, 2) := by decide +kernel
theorem dX11_firstFailingCommand_44 : decode cX11_firstFailingCommand 44 = .ok (.if_icmp .gt 7, 3) := by decide +kernel
theorem dX11_firstFailingCommand_47 : decode cX11_firstFailingCommand 47 = .ok (.iload_n 3, 1) := by decide +kernel
theorem dX11_firstFailingCommand_48 : decode cX11_firstFailingCommand 48 = .ok (.goto 5, 3) := by decide +kernel
theorem dX11_firstFailingCommand_51 : decode cX11_firstFailingCommand 51 = .ok (.bipush 8, 2) := by decide +kernel
theorem dX11_firstFailingCommand_53 : decode cX11_firstFailingCommand 53 = .ok (.putfield 302, 3) := by decide +kernel
theorem dX11_firstFailingCommand_56 : decode cX11_firstFailingCommand 56 = .ok (.iload_n 1, 1) := by decide +kernel
theorem dX11_firstFailingCommand_57 : decode cX11_firstFailingCommand 57 = .ok (.ireturn, 1) := by decide +kernel
theorem dX11_firstFailingCommand_58 : decode cX11_firstFailingCommand 58 = .ok (.aload_n 0, 1) := by decide +kernel
theorem dX11_firstFailingCommand_59 : decode cX11_firstFailingCommand 59 = .ok (.getfield 12, 3) := by decide +kernel
theorem dX11_firstFailingCommand_62 : decode cX11_firstFailingCommand 62 = .ok (.aload_n 2, 1) := by decide +kernel
theorem dX11_firstFailingCommand_63 : decode cX11_firstFailingCommand 63 = .ok (.invokevirtual 322, 3) := by decide +kernel
theorem dX11_firstFailingCommand_66 : decode cX11_firstFailingCommand 66 = .ok (.pop, 1) := by decide +kernel
theorem dX11_firstFailingCommand_67 : decode cX11_firstFailingCommand 67 = .ok (.iinc 1 1, 3) := by decide +kernel
theorem dX11_firstFailingCommand_70 : decode cX11_firstFailingCommand 70 = .ok (.goto (-68), 3) := by decide +kernel
theorem dX11_firstFailingCommand_73 : decode cX11_firstFailingCommand 73 = .ok (.iconst (-1), 1) := by decide +kernel
theorem dX11_firstFailingCommand_74 : decode cX11_firstFailingCommand 74 = .ok (.ireturn, 1) := by decide +kernel
theorem dX11_knottedRowFrom_0 : decode cX11_knottedRowFrom 0 = .ok (.aload_n 0, 1) := by decide +kernel
theorem dX11_knottedRowFrom_1 : decode cX11_knottedRowFrom 1 = .ok (.getfield 12, 3) := by decide +kernel
theorem dX11_knottedRowFrom_4 : decode cX11_knottedRowFrom 4 = .ok (.getfield 147, 3) := by decide +kernel
theorem dX11_knottedRowFrom_7 : decode cX11_knottedRowFrom 7 = .ok (.iload_n 1, 1) := by decide +kernel
theorem dX11_knottedRowFrom_8 : decode cX11_knottedRowFrom 8 = .ok (.invokevirtual 154, 3) := by decide +kernel
theorem dX11_knottedRowFrom_11 : decode cX11_knottedRowFrom 11 = .ok (.invokestatic 98, 3) := by decide +kernel
theorem dX11_knottedRowFrom_14 : decode cX11_knottedRowFrom 14 = .ok (.aload_n 0, 1) := by decide +kernel
theorem dX11_knottedRowFrom_15 : decode cX11_knottedRowFrom 15 = .ok (.getfield 12, 3) := by decide +kernel
theorem dX11_knottedRowFrom_18 : decode cX11_knottedRowFrom 18 = .ok (.getfield 147, 3) := by decide +kernel
theorem dX11_knottedRowFrom_21 : decode cX11_knottedRowFrom 21 = .ok (.iload_n 1, 1) := by decide +kernel
theorem dX11_knottedRowFrom_22 : decode cX11_knottedRowFrom 22 = .ok (.invokevirtual 329, 3) := by decide +kernel
theorem dX11_knottedRowFrom_25 : decode cX11_knottedRowFrom 25 = .ok (.istore_n 2, 1) := by decide +kernel
theorem dX11_knottedRowFrom_26 : decode cX11_knottedRowFrom 26 = .ok (.iload_n 2, 1) := by decide +kernel
theorem dX11_knottedRowFrom_27 : decode cX11_knottedRowFrom 27 = .ok (.ifCond .lt 7, 3) := by decide +kernel
theorem dX11_knottedRowFrom_30 : decode cX11_knottedRowFrom 30 = .ok (.iconst 1, 1) := by decide +kernel
theorem dX11_knottedRowFrom_31 : decode cX11_knottedRowFrom 31 = .ok (.goto 4, 3) := by decide +kernel
theorem dX11_knottedRowFrom_34 : decode cX11_knottedRowFrom 34 = .ok (.iconst 0, 1) := by decide +kernel
theorem dX11_knottedRowFrom_35 : decode cX11_knottedRowFrom 35 = .ok (.invokestatic 110, 3) := by decide +kernel
theorem dX11_knottedRowFrom_38 : decode cX11_knottedRowFrom 38 = .ok (.iload_n 2, 1) := by decide +kernel
theorem dX11_knottedRowFrom_39 : decode cX11_knottedRowFrom 39 = .ok (.ireturn, 1) := by decide +kernel
theorem dX11_throwDenial_0 : decode cX11_throwDenial 0 = .ok (.aload_n 0, 1) := by decide +kernel
theorem dX11_throwDenial_1 : decode cX11_throwDenial 1 = .ok (.iload_n 1, 1) := by decide +kernel
theorem dX11_throwDenial_2 : decode cX11_throwDenial 2 = .ok (.putfield 296, 3) := by decide +kernel
theorem dX11_throwDenial_5 : decode cX11_throwDenial 5 = .ok (.aload_n 0, 1) := by decide +kernel
theorem dX11_throwDenial_6 : decode cX11_throwDenial 6 = .ok (.iload_n 2, 1) := by decide +kernel
theorem dX11_throwDenial_7 : decode cX11_throwDenial 7 = .ok (.putfield 299, 3) := by decide +kernel
theorem dX11_throwDenial_10 : decode cX11_throwDenial 10 = .ok (.new 332, 3) := by decide +kernel
theorem dX11_throwDenial_13 : decode cX11_throwDenial 13 = .ok (.dup, 1) := by decide +kernel
theorem dX11_throwDenial_14 : decode cX11_throwDenial 14 = .ok (.ldc_w 334, 3) := by decide +kernel
theorem dX11_throwDenial_17 : decode cX11_throwDenial 17 = .ok (.invokespecial 336, 3) := by decide +kernel
theorem dX11_throwDenial_20 : decode cX11_throwDenial 20 = .ok (.athrow, 1) := by decide +kernel
theorem dX11_requireRange_0 : decode cX11_requireRange 0 = .ok (.iload_n 0, 1) := by decide +kernel
theorem dX11_requireRange_1 : decode cX11_requireRange 1 = .ok (.ifCond .ne 14, 3) := by decide +kernel
theorem dX11_requireRange_4 : decode cX11_requireRange 4 = .ok (.new 339, 3) := by decide +kernel
theorem dX11_requireRange_7 : decode cX11_requireRange 7 = .ok (.dup, 1) := by decide +kernel
theorem dX11_requireRange_8 : decode cX11_requireRange 8 = .ok (.ldc_w 341, 3) := by decide +kernel
theorem dX11_requireRange_11 : decode cX11_requireRange 11 = .ok (.invokespecial 343, 3) := by decide +kernel
theorem dX11_requireRange_14 : decode cX11_requireRange 14 = .ok (.athrow, 1) := by decide +kernel
theorem dX11_requireRange_15 : decode cX11_requireRange 15 = .ok (.return_, 1) := by decide +kernel
theorem dX11_requireIndex_0 : decode cX11_requireIndex 0 = .ok (.iload_n 0, 1) := by decide +kernel
theorem dX11_requireIndex_1 : decode cX11_requireIndex 1 = .ok (.ifCond .ne 14, 3) := by decide +kernel
theorem dX11_requireIndex_4 : decode cX11_requireIndex 4 = .ok (.new 344, 3) := by decide +kernel
theorem dX11_requireIndex_7 : decode cX11_requireIndex 7 = .ok (.dup, 1) := by decide +kernel
theorem dX11_requireIndex_8 : decode cX11_requireIndex 8 = .ok (.ldc_w 346, 3) := by decide +kernel
theorem dX11_requireIndex_11 : decode cX11_requireIndex 11 = .ok (.invokespecial 348, 3) := by decide +kernel
theorem dX11_requireIndex_14 : decode cX11_requireIndex 14 = .ok (.athrow, 1) := by decide +kernel
theorem dX11_requireIndex_15 : decode cX11_requireIndex 15 = .ok (.return_, 1) := by decide +kernel
theorem dX11_requireElement_0 : decode cX11_requireElement 0 = .ok (.iload_n 0, 1) := by decide +kernel
theorem dX11_requireElement_1 : decode cX11_requireElement 1 = .ok (.ifCond .ne 14, 3) := by decide +kernel
theorem dX11_requireElement_4 : decode cX11_requireElement 4 = .ok (.new 349, 3) := by decide +kernel
theorem dX11_requireElement_7 : decode cX11_requireElement 7 = .ok (.dup, 1) := by decide +kernel
theorem dX11_requireElement_8 : decode cX11_requireElement 8 = .ok (.ldc_w 351, 3) := by decide +kernel
theorem dX11_requireElement_11 : decode cX11_requireElement 11 = .ok (.invokespecial 353, 3) := by decide +kernel
theorem dX11_requireElement_14 : decode cX11_requireElement 14 = .ok (.athrow, 1) := by decide +kernel
theorem dX11_requireElement_15 : decode cX11_requireElement 15 = .ok (.return_, 1) := by decide +kernel
theorem dX11_requireState_0 : decode cX11_requireState 0 = .ok (.iload_n 0, 1) := by decide +kernel
theorem dX11_requireState_1 : decode cX11_requireState 1 = .ok (.ifCond .ne 14, 3) := by decide +kernel
theorem dX11_requireState_4 : decode cX11_requireState 4 = .ok (.new 354, 3) := by decide +kernel
theorem dX11_requireState_7 : decode cX11_requireState 7 = .ok (.dup, 1) := by decide +kernel
theorem dX11_requireState_8 : decode cX11_requireState 8 = .ok (.ldc_w 356, 3) := by decide +kernel
theorem dX11_requireState_11 : decode cX11_requireState 11 = .ok (.invokespecial 358, 3) := by decide +kernel
theorem dX11_requireState_14 : decode cX11_requireState 14 = .ok (.athrow, 1) := by decide +kernel
theorem dX11_requireState_15 : decode cX11_requireState 15 = .ok (.return_, 1) := by decide +kernel
theorem dX11_requireDivisor_0 : decode cX11_requireDivisor 0 = .ok (.iload_n 0, 1) := by decide +kernel
theorem dX11_requireDivisor_1 : decode cX11_requireDivisor 1 = .ok (.ifCond .ne 14, 3) := by decide +kernel
theorem dX11_requireDivisor_4 : decode cX11_requireDivisor 4 = .ok (.new 359, 3) := by decide +kernel
theorem dX11_requireDivisor_7 : decode cX11_requireDivisor 7 = .ok (.dup, 1) := by decide +kernel
theorem dX11_requireDivisor_8 : decode cX11_requireDivisor 8 = .ok (.ldc_w 361, 3) := by decide +kernel
theorem dX11_requireDivisor_11 : decode cX11_requireDivisor 11 = .ok (.invokespecial 363, 3) := by decide +kernel
theorem dX11_requireDivisor_14 : decode cX11_requireDivisor 14 = .ok (.athrow, 1) := by decide +kernel
theorem dX11_requireDivisor_15 : decode cX11_requireDivisor 15 = .ok (.return_, 1) := by decide +kernel

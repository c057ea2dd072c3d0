theorem dL_cell_0 : decode cL_cell 0 = .ok (.aload_n 0, 1) := by decide +kernel
theorem dL_cell_1 : decode cL_cell 1 = .ok (.arraylength, 1) := by decide +kernel
theorem dL_cell_2 : decode cL_cell 2 = .ok (.ifCond .ne 11, 3) := by decide +kernel
theorem dL_cell_5 : decode cL_cell 5 = .ok (.sipush 577, 3) := by decide +kernel
theorem dL_cell_8 : decode cL_cell 8 = .ok (.iload_n 1, 1) := by decide +kernel
theorem dL_cell_9 : decode cL_cell 9 = .ok (.imul, 1) := by decide +kernel
theorem dL_cell_10 : decode cL_cell 10 = .ok (.goto 12, 3) := by decide +kernel
theorem dL_cell_13 : decode cL_cell 13 = .ok (.aload_n 0, 1) := by decide +kernel
theorem dL_cell_14 : decode cL_cell 14 = .ok (.iload_n 1, 1) := by decide +kernel
theorem dL_cell_15 : decode cL_cell 15 = .ok (.ldc 7, 2) := by decide +kernel
theorem dL_cell_17 : decode cL_cell 17 = .ok (.iand, 1) := by decide +kernel
theorem dL_cell_18 : decode cL_cell 18 = .ok (.aload_n 0, 1) := by decide +kernel
theorem dL_cell_19 : decode cL_cell 19 = .ok (.arraylength, 1) := by decide +kernel
theorem dL_cell_20 : decode cL_cell 20 = .ok (.irem, 1) := by decide +kernel
theorem dL_cell_21 : decode cL_cell 21 = .ok (.iaload, 1) := by decide +kernel
theorem dL_cell_22 : decode cL_cell 22 = .ok (.ireturn, 1) := by decide +kernel
theorem dL_addWick_0 : decode cL_addWick 0 = .ok (.ldc 10, 2) := by decide +kernel
theorem dL_addWick_2 : decode cL_addWick 2 = .ok (.istore 4, 2) := by decide +kernel
theorem dL_addWick_4 : decode cL_addWick 4 = .ok (.aload_n 0, 1) := by decide +kernel
theorem dL_addWick_5 : decode cL_addWick 5 = .ok (.iload_n 1, 1) := by decide +kernel
theorem dL_addWick_6 : decode cL_addWick 6 = .ok (.iload_n 2, 1) := by decide +kernel
theorem dL_addWick_7 : decode cL_addWick 7 = .ok (.iload_n 3, 1) := by decide +kernel
theorem dL_addWick_8 : decode cL_addWick 8 = .ok (.invokevirtual 11, 3) := by decide +kernel
theorem dL_addWick_11 : decode cL_addWick 11 = .ok (.istore 4, 2) := by decide +kernel
theorem dL_addWick_13 : decode cL_addWick 13 = .ok (.goto 13, 3) := by decide +kernel
theorem dL_addWick_16 : decode cL_addWick 16 = .ok (.astore 5, 2) := by decide +kernel
theorem dL_addWick_18 : decode cL_addWick 18 = .ok (.ldc 10, 2) := by decide +kernel
theorem dL_addWick_20 : decode cL_addWick 20 = .ok (.ireturn, 1) := by decide +kernel
theorem dL_addWick_21 : decode cL_addWick 21 = .ok (.astore 5, 2) := by decide +kernel
theorem dL_addWick_23 : decode cL_addWick 23 = .ok (.ldc 10, 2) := by decide +kernel
theorem dL_addWick_25 : decode cL_addWick 25 = .ok (.ireturn, 1) := by decide +kernel
theorem dL_addWick_26 : decode cL_addWick 26 = .ok (.iload 4, 2) := by decide +kernel
theorem dL_addWick_28 : decode cL_addWick 28 = .ok (.ireturn, 1) := by decide +kernel
theorem dL_light_0 : decode cL_light 0 = .ok (.ldc 10, 2) := by decide +kernel
theorem dL_light_2 : decode cL_light 2 = .ok (.istore_n 2, 1) := by decide +kernel
theorem dL_light_3 : decode cL_light 3 = .ok (.aload_n 0, 1) := by decide +kernel
theorem dL_light_4 : decode cL_light 4 = .ok (.iload_n 1, 1) := by decide +kernel
theorem dL_light_5 : decode cL_light 5 = .ok (.invokevirtual 21, 3) := by decide +kernel
theorem dL_light_8 : decode cL_light 8 = .ok (.istore_n 2, 1) := by decide +kernel
theorem dL_light_9 : decode cL_light 9 = .ok (.goto 11, 3) := by decide +kernel
theorem dL_light_12 : decode cL_light 12 = .ok (.astore_n 3, 1) := by decide +kernel
theorem dL_light_13 : decode cL_light 13 = .ok (.ldc 10, 2) := by decide +kernel
theorem dL_light_15 : decode cL_light 15 = .ok (.ireturn, 1) := by decide +kernel
theorem dL_light_16 : decode cL_light 16 = .ok (.astore_n 3, 1) := by decide +kernel
theorem dL_light_17 : decode cL_light 17 = .ok (.ldc 10, 2) := by decide +kernel
theorem dL_light_19 : decode cL_light 19 = .ok (.ireturn, 1) := by decide +kernel
theorem dL_light_20 : decode cL_light 20 = .ok (.iload_n 2, 1) := by decide +kernel
theorem dL_light_21 : decode cL_light 21 = .ok (.ireturn, 1) := by decide +kernel
theorem dL_snuff_0 : decode cL_snuff 0 = .ok (.ldc 10, 2) := by decide +kernel
theorem dL_snuff_2 : decode cL_snuff 2 = .ok (.istore_n 2, 1) := by decide +kernel
theorem dL_snuff_3 : decode cL_snuff 3 = .ok (.aload_n 0, 1) := by decide +kernel
theorem dL_snuff_4 : decode cL_snuff 4 = .ok (.iload_n 1, 1) := by decide +kernel
theorem dL_snuff_5 : decode cL_snuff 5 = .ok (.invokevirtual 27, 3) := by decide +kernel
theorem dL_snuff_8 : decode cL_snuff 8 = .ok (.istore_n 2, 1) := by decide +kernel
theorem dL_snuff_9 : decode cL_snuff 9 = .ok (.goto 11, 3) := by decide +kernel
theorem dL_snuff_12 : decode cL_snuff 12 = .ok (.astore_n 3, 1) := by decide +kernel
theorem dL_snuff_13 : decode cL_snuff 13 = .ok (.ldc 10, 2) := by decide +kernel
theorem dL_snuff_15 : decode cL_snuff 15 = .ok (.ireturn, 1) := by decide +kernel
theorem dL_snuff_16 : decode cL_snuff 16 = .ok (.astore_n 3, 1) := by decide +kernel
theorem dL_snuff_17 : decode cL_snuff 17 = .ok (.ldc 10, 2) := by decide +kernel
theorem dL_snuff_19 : decode cL_snuff 19 = .ok (.ireturn, 1) := by decide +kernel
theorem dL_snuff_20 : decode cL_snuff 20 = .ok (.iload_n 2, 1) := by decide +kernel
theorem dL_snuff_21 : decode cL_snuff 21 = .ok (.ireturn, 1) := by decide +kernel
theorem dL_addWax_0 : decode cL_addWax 0 = .ok (.ldc 10, 2) := by decide +kernel
theorem dL_addWax_2 : decode cL_addWax 2 = .ok (.istore_n 3, 1) := by decide +kernel
theorem dL_addWax_3 : decode cL_addWax 3 = .ok (.aload_n 0, 1) := by decide +kernel
theorem dL_addWax_4 : decode cL_addWax 4 = .ok (.iload_n 1, 1) := by decide +kernel
theorem dL_addWax_5 : decode cL_addWax 5 = .ok (.iload_n 2, 1) := by decide +kernel
theorem dL_addWax_6 : decode cL_addWax 6 = .ok (.invokevirtual 30, 3) := by decide +kernel
theorem dL_addWax_9 : decode cL_addWax 9 = .ok (.istore_n 3, 1) := by decide +kernel
theorem dL_addWax_10 : decode cL_addWax 10 = .ok (.goto 18, 3) := by decide +kernel
theorem dL_addWax_13 : decode cL_addWax 13 = .ok (.astore 4, 2) := by decide +kernel
theorem dL_addWax_15 : decode cL_addWax 15 = .ok (.ldc 10, 2) := by decide +kernel
theorem dL_addWax_17 : decode cL_addWax 17 = .ok (.ireturn, 1) := by decide +kernel
theorem dL_addWax_18 : decode cL_addWax 18 = .ok (.astore 4, 2) := by decide +kernel
theorem dL_addWax_20 : decode cL_addWax 20 = .ok (.ldc 10, 2) := by decide +kernel
theorem dL_addWax_22 : decode cL_addWax 22 = .ok (.ireturn, 1) := by decide +kernel
theorem dL_addWax_23 : decode cL_addWax 23 = .ok (.astore 4, 2) := by decide +kernel
theorem dL_addWax_25 : decode cL_addWax 25 = .ok (.ldc 10, 2) := by decide +kernel
theorem dL_addWax_27 : decode cL_addWax 27 = .ok (.ireturn, 1) := by decide +kernel
theorem dL_addWax_28 : decode cL_addWax 28 = .ok (.iload_n 3, 1) := by decide +kernel
theorem dL_addWax_29 : decode cL_addWax 29 = .ok (.ireturn, 1) := by decide +kernel
theorem dL_weave_0 : decode cL_weave 0 = .ok (.ldc 10, 2) := by decide +kernel
theorem dL_weave_2 : decode cL_weave 2 = .ok (.istore_n 2, 1) := by decide +kernel
theorem dL_weave_3 : decode cL_weave 3 = .ok (.aload_n 0, 1) := by decide +kernel
theorem dL_weave_4 : decode cL_weave 4 = .ok (.iload_n 1, 1) := by decide +kernel
theorem dL_weave_5 : decode cL_weave 5 = .ok (.invokevirtual 34, 3) := by decide +kernel
theorem dL_weave_8 : decode cL_weave 8 = .ok (.istore_n 2, 1) := by decide +kernel
theorem dL_weave_9 : decode cL_weave 9 = .ok (.goto 11, 3) := by decide +kernel
theorem dL_weave_12 : decode cL_weave 12 = .ok (.astore_n 3, 1) := by decide +kernel
theorem dL_weave_13 : decode cL_weave 13 = .ok (.ldc 10, 2) := by decide +kernel
theorem dL_weave_15 : decode cL_weave 15 = .ok (.ireturn, 1) := by decide +kernel
theorem dL_weave_16 : decode cL_weave 16 = .ok (.astore_n 3, 1) := by decide +kernel
theorem dL_weave_17 : decode cL_weave 17 = .ok (.ldc 10, 2) := by decide +kernel
theorem dL_weave_19 : decode cL_weave 19 = .ok (.ireturn, 1) := by decide +kernel
theorem dL_weave_20 : decode cL_weave 20 = .ok (.iload_n 2, 1) := by decide +kernel
theorem dL_weave_21 : decode cL_weave 21 = .ok (.ireturn, 1) := by decide +kernel
theorem dL_ravel_0 : decode cL_ravel 0 = .ok (.ldc 10, 2) := by decide +kernel
theorem dL_ravel_2 : decode cL_ravel 2 = .ok (.istore_n 2, 1) := by decide +kernel
theorem dL_ravel_3 : decode cL_ravel 3 = .ok (.aload_n 0, 1) := by decide +kernel
theorem dL_ravel_4 : decode cL_ravel 4 = .ok (.iload_n 1, 1) := by decide +kernel
theorem dL_ravel_5 : decode cL_ravel 5 = .ok (.invokevirtual 37, 3) := by decide +kernel
theorem dL_ravel_8 : decode cL_ravel 8 = .ok (.istore_n 2, 1) := by decide +kernel
theorem dL_ravel_9 : decode cL_ravel 9 = .ok (.goto 11, 3) := by decide +kernel
theorem dL_ravel_12 : decode cL_ravel 12 = .ok (.astore_n 3, 1) := by decide +kernel
theorem dL_ravel_13 : decode cL_ravel 13 = .ok (.ldc 10, 2) := by decide +kernel
theorem dL_ravel_15 : decode cL_ravel 15 = .ok (.ireturn, 1) := by decide +kernel
theorem dL_ravel_16 : decode cL_ravel 16 = .ok (.astore_n 3, 1) := by decide +kernel
theorem dL_ravel_17 : decode cL_ravel 17 = .ok (.ldc 10, 2) := by decide +kernel
theorem dL_ravel_19 : decode cL_ravel 19 = .ok (.ireturn, 1) := by decide +kernel
theorem dL_ravel_20 : decode cL_ravel 20 = .ok (.iload_n 2, 1) := by decide +kernel
theorem dL_ravel_21 : decode cL_ravel 21 = .ok (.ireturn, 1) := by decide +kernel
theorem dL_repeatLast_0 : decode cL_repeatLast 0 = .ok (.ldc 10, 2) := by decide +kernel
theorem dL_repeatLast_2 : decode cL_repeatLast 2 = .ok (.istore_n 3, 1) := by decide +kernel
theorem dL_repeatLast_3 : decode cL_repeatLast 3 = .ok (.aload_n 0, 1) := by decide +kernel
theorem dL_repeatLast_4 : decode cL_repeatLast 4 = .ok (.iload_n 1, 1) := by decide +kernel
theorem dL_repeatLast_5 : decode cL_repeatLast 5 = .ok (.iload_n 2, 1) := by decide +kernel
theorem dL_repeatLast_6 : decode cL_repeatLast 6 = .ok (.invokevirtual 40, 3) := by decide +kernel
theorem dL_repeatLast_9 : decode cL_repeatLast 9 = .ok (.istore_n 3, 1) := by decide +kernel
theorem dL_repeatLast_10 : decode cL_repeatLast 10 = .ok (.goto 13, 3) := by decide +kernel
theorem dL_repeatLast_13 : decode cL_repeatLast 13 = .ok (.astore 4, 2) := by decide +kernel
theorem dL_repeatLast_15 : decode cL_repeatLast 15 = .ok (.ldc 10, 2) := by decide +kernel
theorem dL_repeatLast_17 : decode cL_repeatLast 17 = .ok (.ireturn, 1) := by decide +kernel
theorem dL_repeatLast_18 : decode cL_repeatLast 18 = .ok (.astore 4, 2) := by decide +kernel
theorem dL_repeatLast_20 : decode cL_repeatLast 20 = .ok (.ldc 10, 2) := by decide +kernel
theorem dL_repeatLast_22 : decode cL_repeatLast 22 = .ok (.ireturn, 1) := by decide +kernel
theorem dL_repeatLast_23 : decode cL_repeatLast 23 = .ok (.iload_n 3, 1) := by decide +kernel
theorem dL_repeatLast_24 : decode cL_repeatLast 24 = .ok (.ireturn, 1) := by decide +kernel
theorem dL_knot_0 : decode cL_knot 0 = .ok (.ldc 10, 2) := by decide +kernel
theorem dL_knot_2 : decode cL_knot 2 = .ok (.istore_n 3, 1) := by decide +kernel
theorem dL_knot_3 : decode cL_knot 3 = .ok (.aload_n 0, 1) := by decide +kernel
theorem dL_knot_4 : decode cL_knot 4 = .ok (.iload_n 1, 1) := by decide +kernel
theorem dL_knot_5 : decode cL_knot 5 = .ok (.iload_n 2, 1) := by decide +kernel
theorem dL_knot_6 : decode cL_knot 6 = .ok (.invokevirtual 43, 3) := by decide +kernel
theorem dL_knot_9 : decode cL_knot 9 = .ok (.istore_n 3, 1) := by decide +kernel
theorem dL_knot_10 : decode cL_knot 10 = .ok (.goto 13, 3) := by decide +kernel
theorem dL_knot_13 : decode cL_knot 13 = .ok (.astore 4, 2) := by decide +kernel
theorem dL_knot_15 : decode cL_knot 15 = .ok (.ldc 10, 2) := by decide +kernel
theorem dL_knot_17 : decode cL_knot 17 = .ok (.ireturn, 1) := by decide +kernel
theorem dL_knot_18 : decode cL_knot 18 = .ok (.astore 4, 2) := by decide +kernel
theorem dL_knot_20 : decode cL_knot 20 = .ok (.ldc 10, 2) := by decide +kernel
theorem dL_knot_22 : decode cL_knot 22 = .ok (.ireturn, 1) := by decide +kernel
theorem dL_knot_23 : decode cL_knot 23 = .ok (.iload_n 3, 1) := by decide +kernel
theorem dL_knot_24 : decode cL_knot 24 = .ok (.ireturn, 1) := by decide +kernel
theorem dL_untie_0 : decode cL_untie 0 = .ok (.ldc 10, 2) := by decide +kernel
theorem dL_untie_2 : decode cL_untie 2 = .ok (.istore_n 3, 1) := by decide +kernel
theorem dL_untie_3 : decode cL_untie 3 = .ok (.aload_n 0, 1) := by decide +kernel
theorem dL_untie_4 : decode cL_untie 4 = .ok (.iload_n 1, 1) := by decide +kernel
theorem dL_untie_5 : decode cL_untie 5 = .ok (.iload_n 2, 1) := by decide +kernel
theorem dL_untie_6 : decode cL_untie 6 = .ok (.invokevirtual 46, 3) := by decide +kernel
theorem dL_untie_9 : decode cL_untie 9 = .ok (.istore_n 3, 1) := by decide +kernel
theorem dL_untie_10 : decode cL_untie 10 = .ok (.goto 13, 3) := by decide +kernel
theorem dL_untie_13 : decode cL_untie 13 = .ok (.astore 4, 2) := by decide +kernel
theorem dL_untie_15 : decode cL_untie 15 = .ok (.ldc 10, 2) := by decide +kernel
theorem dL_untie_17 : decode cL_untie 17 = .ok (.ireturn, 1) := by decide +kernel
theorem dL_untie_18 : decode cL_untie 18 = .ok (.astore 4, 2) := by decide +kernel
theorem dL_untie_20 : decode cL_untie 20 = .ok (.ldc 10, 2) := by decide +kernel
theorem dL_untie_22 : decode cL_untie 22 = .ok (.ireturn, 1) := by decide +kernel
theorem dL_untie_23 : decode cL_untie 23 = .ok (.iload_n 3, 1) := by decide +kernel
theorem dL_untie_24 : decode cL_untie 24 = .ok (.ireturn, 1) := by decide +kernel
theorem dL_mend_0 : decode cL_mend 0 = .ok (.ldc 10, 2) := by decide +kernel
theorem dL_mend_2 : decode cL_mend 2 = .ok (.istore_n 2, 1) := by decide +kernel
theorem dL_mend_3 : decode cL_mend 3 = .ok (.aload_n 0, 1) := by decide +kernel
theorem dL_mend_4 : decode cL_mend 4 = .ok (.iload_n 1, 1) := by decide +kernel
theorem dL_mend_5 : decode cL_mend 5 = .ok (.invokevirtual 49, 3) := by decide +kernel
theorem dL_mend_8 : decode cL_mend 8 = .ok (.istore_n 2, 1) := by decide +kernel
theorem dL_mend_9 : decode cL_mend 9 = .ok (.goto 11, 3) := by decide +kernel
theorem dL_mend_12 : decode cL_mend 12 = .ok (.astore_n 3, 1) := by decide +kernel
theorem dL_mend_13 : decode cL_mend 13 = .ok (.ldc 10, 2) := by decide +kernel
theorem dL_mend_15 : decode cL_mend 15 = .ok (.ireturn, 1) := by decide +kernel
theorem dL_mend_16 : decode cL_mend 16 = .ok (.astore_n 3, 1) := by decide +kernel
theorem dL_mend_17 : decode cL_mend 17 = .ok (.ldc 10, 2) := by decide +kernel
theorem dL_mend_19 : decode cL_mend 19 = .ok (.ireturn, 1) := by decide +kernel
theorem dL_mend_20 : decode cL_mend 20 = .ok (.iload_n 2, 1) := by decide +kernel
theorem dL_mend_21 : decode cL_mend 21 = .ok (.ireturn, 1) := by decide +kernel
theorem dL_wickByWax_0 : decode cL_wickByWax 0 = .ok (.sipush (-1000), 3) := by decide +kernel
theorem dL_wickByWax_3 : decode cL_wickByWax 3 = .ok (.istore_n 2, 1) := by decide +kernel
theorem dL_wickByWax_4 : decode cL_wickByWax 4 = .ok (.aload_n 0, 1) := by decide +kernel
theorem dL_wickByWax_5 : decode cL_wickByWax 5 = .ok (.iload_n 1, 1) := by decide +kernel
theorem dL_wickByWax_6 : decode cL_wickByWax 6 = .ok (.invokevirtual 53, 3) := by decide +kernel
theorem dL_wickByWax_9 : decode cL_wickByWax 9 = .ok (.istore_n 2, 1) := by decide +kernel
theorem dL_wickByWax_10 : decode cL_wickByWax 10 = .ok (.goto 8, 3) := by decide +kernel
theorem dL_wickByWax_13 : decode cL_wickByWax 13 = .ok (.astore_n 3, 1) := by decide +kernel
theorem dL_wickByWax_14 : decode cL_wickByWax 14 = .ok (.sipush (-1000), 3) := by decide +kernel
theorem dL_wickByWax_17 : decode cL_wickByWax 17 = .ok (.ireturn, 1) := by decide +kernel
theorem dL_wickByWax_18 : decode cL_wickByWax 18 = .ok (.iload_n 2, 1) := by decide +kernel
theorem dL_wickByWax_19 : decode cL_wickByWax 19 = .ok (.ireturn, 1) := by decide +kernel
theorem dL_nextKnotRow_0 : decode cL_nextKnotRow 0 = .ok (.sipush (-1000), 3) := by decide +kernel
theorem dL_nextKnotRow_3 : decode cL_nextKnotRow 3 = .ok (.istore_n 2, 1) := by decide +kernel
theorem dL_nextKnotRow_4 : decode cL_nextKnotRow 4 = .ok (.aload_n 0, 1) := by decide +kernel
theorem dL_nextKnotRow_5 : decode cL_nextKnotRow 5 = .ok (.iload_n 1, 1) := by decide +kernel
theorem dL_nextKnotRow_6 : decode cL_nextKnotRow 6 = .ok (.invokevirtual 58, 3) := by decide +kernel
theorem dL_nextKnotRow_9 : decode cL_nextKnotRow 9 = .ok (.istore_n 2, 1) := by decide +kernel
theorem dL_nextKnotRow_10 : decode cL_nextKnotRow 10 = .ok (.goto 13, 3) := by decide +kernel
theorem dL_nextKnotRow_13 : decode cL_nextKnotRow 13 = .ok (.astore_n 3, 1) := by decide +kernel
theorem dL_nextKnotRow_14 : decode cL_nextKnotRow 14 = .ok (.sipush (-1000), 3) := by decide +kernel
theorem dL_nextKnotRow_17 : decode cL_nextKnotRow 17 = .ok (.ireturn, 1) := by decide +kernel
theorem dL_nextKnotRow_18 : decode cL_nextKnotRow 18 = .ok (.astore_n 3, 1) := by decide +kernel
theorem dL_nextKnotRow_19 : decode cL_nextKnotRow 19 = .ok (.sipush (-1000), 3) := by decide +kernel
theorem dL_nextKnotRow_22 : decode cL_nextKnotRow 22 = .ok (.ireturn, 1) := by decide +kernel
theorem dL_nextKnotRow_23 : decode cL_nextKnotRow 23 = .ok (.iload_n 2, 1) := by decide +kernel
theorem dL_nextKnotRow_24 : decode cL_nextKnotRow 24 = .ok (.ireturn, 1) := by decide +kernel
theorem dL_nextKnotColumn_0 : decode cL_nextKnotColumn 0 = .ok (.sipush (-1000), 3) := by decide +kernel
theorem dL_nextKnotColumn_3 : decode cL_nextKnotColumn 3 = .ok (.istore_n 2, 1) := by decide +kernel
theorem dL_nextKnotColumn_4 : decode cL_nextKnotColumn 4 = .ok (.aload_n 0, 1) := by decide +kernel
theorem dL_nextKnotColumn_5 : decode cL_nextKnotColumn 5 = .ok (.iload_n 1, 1) := by decide +kernel
theorem dL_nextKnotColumn_6 : decode cL_nextKnotColumn 6 = .ok (.invokevirtual 61, 3) := by decide +kernel
theorem dL_nextKnotColumn_9 : decode cL_nextKnotColumn 9 = .ok (.istore_n 2, 1) := by decide +kernel
theorem dL_nextKnotColumn_10 : decode cL_nextKnotColumn 10 = .ok (.goto 13, 3) := by decide +kernel
theorem dL_nextKnotColumn_13 : decode cL_nextKnotColumn 13 = .ok (.astore_n 3, 1) := by decide +kernel
theorem dL_nextKnotColumn_14 : decode cL_nextKnotColumn 14 = .ok (.sipush (-1000), 3) := by decide +kernel
theorem dL_nextKnotColumn_17 : decode cL_nextKnotColumn 17 = .ok (.ireturn, 1) := by decide +kernel
theorem dL_nextKnotColumn_18 : decode cL_nextKnotColumn 18 = .ok (.astore_n 3, 1) := by decide +kernel
theorem dL_nextKnotColumn_19 : decode cL_nextKnotColumn 19 = .ok (.sipush (-1000), 3) := by decide +kernel
theorem dL_nextKnotColumn_22 : decode cL_nextKnotColumn 22 = .ok (.ireturn, 1) := by decide +kernel
theorem dL_nextKnotColumn_23 : decode cL_nextKnotColumn 23 = .ok (.iload_n 2, 1) := by decide +kernel
theorem dL_nextKnotColumn_24 : decode cL_nextKnotColumn 24 = .ok (.ireturn, 1) := by decide +kernel
theorem dL_period_0 : decode cL_period 0 = .ok (.sipush (-1000), 3) := by decide +kernel
theorem dL_period_3 : decode cL_period 3 = .ok (.istore_n 1, 1) := by decide +kernel
theorem dL_period_4 : decode cL_period 4 = .ok (.aload_n 0, 1) := by decide +kernel
theorem dL_period_5 : decode cL_period 5 = .ok (.invokevirtual 64, 3) := by decide +kernel
theorem dL_period_8 : decode cL_period 8 = .ok (.istore_n 1, 1) := by decide +kernel
theorem dL_period_9 : decode cL_period 9 = .ok (.goto 8, 3) := by decide +kernel
theorem dL_period_12 : decode cL_period 12 = .ok (.astore_n 2, 1) := by decide +kernel
theorem dL_period_13 : decode cL_period 13 = .ok (.sipush (-1000), 3) := by decide +kernel
theorem dL_period_16 : decode cL_period 16 = .ok (.ireturn, 1) := by decide +kernel
theorem dL_period_17 : decode cL_period 17 = .ok (.iload_n 1, 1) := by decide +kernel
theorem dL_period_18 : decode cL_period 18 = .ok (.ireturn, 1) := by decide +kernel
theorem dL_periodByBorders_0 : decode cL_periodByBorders 0 = .ok (.sipush (-1000), 3) := by decide +kernel
theorem dL_periodByBorders_3 : decode cL_periodByBorders 3 = .ok (.istore_n 1, 1) := by decide +kernel
theorem dL_periodByBorders_4 : decode cL_periodByBorders 4 = .ok (.aload_n 0, 1) := by decide +kernel
theorem dL_periodByBorders_5 : decode cL_periodByBorders 5 = .ok (.invokevirtual 68, 3) := by decide +kernel
theorem dL_periodByBorders_8 : decode cL_periodByBorders 8 = .ok (.istore_n 1, 1) := by decide +kernel
theorem dL_periodByBorders_9 : decode cL_periodByBorders 9 = .ok (.goto 8, 3) := by decide +kernel
theorem dL_periodByBorders_12 : decode cL_periodByBorders 12 = .ok (.astore_n 2, 1) := by decide +kernel
theorem dL_periodByBorders_13 : decode cL_periodByBorders 13 = .ok (.sipush (-1000), 3) := by decide +kernel
theorem dL_periodByBorders_16 : decode cL_periodByBorders 16 = .ok (.ireturn, 1) := by decide +kernel
theorem dL_periodByBorders_17 : decode cL_periodByBorders 17 = .ok (.iload_n 1, 1) := by decide +kernel
theorem dL_periodByBorders_18 : decode cL_periodByBorders 18 = .ok (.ireturn, 1) := by decide +kernel
theorem dL_occurrences_0 : decode cL_occurrences 0 = .ok (.sipush (-1000), 3) := by decide +kernel
theorem dL_occurrences_3 : decode cL_occurrences 3 = .ok (.istore_n 2, 1) := by decide +kernel
theorem dL_occurrences_4 : decode cL_occurrences 4 = .ok (.aload_n 0, 1) := by decide +kernel
theorem dL_occurrences_5 : decode cL_occurrences 5 = .ok (.iload_n 1, 1) := by decide +kernel
theorem dL_occurrences_6 : decode cL_occurrences 6 = .ok (.invokevirtual 71, 3) := by decide +kernel
theorem dL_occurrences_9 : decode cL_occurrences 9 = .ok (.istore_n 2, 1) := by decide +kernel
theorem dL_occurrences_10 : decode cL_occurrences 10 = .ok (.goto 8, 3) := by decide +kernel
theorem dL_occurrences_13 : decode cL_occurrences 13 = .ok (.astore_n 3, 1) := by decide +kernel
theorem dL_occurrences_14 : decode cL_occurrences 14 = .ok (.sipush (-1000), 3) := by decide +kernel
theorem dL_occurrences_17 : decode cL_occurrences 17 = .ok (.ireturn, 1) := by decide +kernel
theorem dL_occurrences_18 : decode cL_occurrences 18 = .ok (.iload_n 2, 1) := by decide +kernel
theorem dL_occurrences_19 : decode cL_occurrences 19 = .ok (.ireturn, 1) := by decide +kernel
theorem dL_meanRaised_0 : decode cL_meanRaised 0 = .ok (.ldc2_w 74, 3) := by decide +kernel
theorem dL_meanRaised_3 : decode cL_meanRaised 3 = .ok (.dstore_n 1, 1) := by decide +kernel
theorem dL_meanRaised_4 : decode cL_meanRaised 4 = .ok (.aload_n 0, 1) := by decide +kernel
theorem dL_meanRaised_5 : decode cL_meanRaised 5 = .ok (.invokevirtual 76, 3) := by decide +kernel
theorem dL_meanRaised_8 : decode cL_meanRaised 8 = .ok (.dstore_n 1, 1) := by decide +kernel
theorem dL_meanRaised_9 : decode cL_meanRaised 9 = .ok (.goto 8, 3) := by decide +kernel
theorem dL_meanRaised_12 : decode cL_meanRaised 12 = .ok (.astore_n 3, 1) := by decide +kernel
theorem dL_meanRaised_13 : decode cL_meanRaised 13 = .ok (.ldc2_w 74, 3) := by decide +kernel
theorem dL_meanRaised_16 : decode cL_meanRaised 16 = .ok (.dreturn, 1) := by decide +kernel
theorem dL_meanRaised_17 : decode cL_meanRaised 17 = .ok (.dload_n 1, 1) := by decide +kernel
theorem dL_meanRaised_18 : decode cL_meanRaised 18 = .ok (.dreturn, 1) := by decide +kernel
theorem dL_knotShare_0 : decode cL_knotShare 0 = .ok (.ldc 82, 2) := by decide +kernel
theorem dL_knotShare_2 : decode cL_knotShare 2 = .ok (.fstore_n 1, 1) := by decide +kernel
theorem dL_knotShare_3 : decode cL_knotShare 3 = .ok (.aload_n 0, 1) := by decide +kernel
theorem dL_knotShare_4 : decode cL_knotShare 4 = .ok (.invokevirtual 83, 3) := by decide +kernel
theorem dL_knotShare_7 : decode cL_knotShare 7 = .ok (.fstore_n 1, 1) := by decide +kernel
theorem dL_knotShare_8 : decode cL_knotShare 8 = .ok (.goto 7, 3) := by decide +kernel
theorem dL_knotShare_11 : decode cL_knotShare 11 = .ok (.astore_n 2, 1) := by decide +kernel
theorem dL_knotShare_12 : decode cL_knotShare 12 = .ok (.ldc 82, 2) := by decide +kernel
theorem dL_knotShare_14 : decode cL_knotShare 14 = .ok (.freturn, 1) := by decide +kernel
theorem dL_knotShare_15 : decode cL_knotShare 15 = .ok (.fload_n 1, 1) := by decide +kernel
theorem dL_knotShare_16 : decode cL_knotShare 16 = .ok (.freturn, 1) := by decide +kernel
theorem dL_execute_0 : decode cL_execute 0 = .ok (.ldc 10, 2) := by decide +kernel
theorem dL_execute_2 : decode cL_execute 2 = .ok (.istore_n 1, 1) := by decide +kernel
theorem dL_execute_3 : decode cL_execute 3 = .ok (.aload_n 0, 1) := by decide +kernel
theorem dL_execute_4 : decode cL_execute 4 = .ok (.invokevirtual 87, 3) := by decide +kernel
theorem dL_execute_7 : decode cL_execute 7 = .ok (.istore_n 1, 1) := by decide +kernel
theorem dL_execute_8 : decode cL_execute 8 = .ok (.goto 11, 3) := by decide +kernel
theorem dL_execute_11 : decode cL_execute 11 = .ok (.astore_n 2, 1) := by decide +kernel
theorem dL_execute_12 : decode cL_execute 12 = .ok (.ldc 10, 2) := by decide +kernel
theorem dL_execute_14 : decode cL_execute 14 = .ok (.ireturn, 1) := by decide +kernel
theorem dL_execute_15 : decode cL_execute 15 = .ok (.astore_n 2, 1) := by decide +kernel
theorem dL_execute_16 : decode cL_execute 16 = .ok (.ldc 10, 2) := by decide +kernel
theorem dL_execute_18 : decode cL_execute 18 = .ok (.ireturn, 1) := by decide +kernel
theorem dL_execute_19 : decode cL_execute 19 = .ok (.iload_n 1, 1) := by decide +kernel
theorem dL_execute_20 : decode cL_execute 20 = .ok (.ireturn, 1) := by decide +kernel
theorem dL_denial_0 : decode cL_denial 0 = .ok (.sipush (-1000), 3) := by decide +kernel
theorem dL_denial_3 : decode cL_denial 3 = .ok (.istore_n 1, 1) := by decide +kernel
theorem dL_denial_4 : decode cL_denial 4 = .ok (.aload_n 0, 1) := by decide +kernel
theorem dL_denial_5 : decode cL_denial 5 = .ok (.invokevirtual 90, 3) := by decide +kernel
theorem dL_denial_8 : decode cL_denial 8 = .ok (.istore_n 1, 1) := by decide +kernel
theorem dL_denial_9 : decode cL_denial 9 = .ok (.goto 8, 3) := by decide +kernel
theorem dL_denial_12 : decode cL_denial 12 = .ok (.astore_n 2, 1) := by decide +kernel
theorem dL_denial_13 : decode cL_denial 13 = .ok (.sipush (-1000), 3) := by decide +kernel
theorem dL_denial_16 : decode cL_denial 16 = .ok (.ireturn, 1) := by decide +kernel
theorem dL_denial_17 : decode cL_denial 17 = .ok (.iload_n 1, 1) := by decide +kernel
theorem dL_denial_18 : decode cL_denial 18 = .ok (.ireturn, 1) := by decide +kernel
theorem dL_denialCause_0 : decode cL_denialCause 0 = .ok (.sipush (-1000), 3) := by decide +kernel
theorem dL_denialCause_3 : decode cL_denialCause 3 = .ok (.istore_n 1, 1) := by decide +kernel
theorem dL_denialCause_4 : decode cL_denialCause 4 = .ok (.aload_n 0, 1) := by decide +kernel
theorem dL_denialCause_5 : decode cL_denialCause 5 = .ok (.invokevirtual 93, 3) := by decide +kernel
theorem dL_denialCause_8 : decode cL_denialCause 8 = .ok (.istore_n 1, 1) := by decide +kernel
theorem dL_denialCause_9 : decode cL_denialCause 9 = .ok (.goto 8, 3) := by decide +kernel
theorem dL_denialCause_12 : decode cL_denialCause 12 = .ok (.astore_n 2, 1) := by decide +kernel
theorem dL_denialCause_13 : decode cL_denialCause 13 = .ok (.sipush (-1000), 3) := by decide +kernel
theorem dL_denialCause_16 : decode cL_denialCause 16 = .ok (.ireturn, 1) := by decide +kernel
theorem dL_denialCause_17 : decode cL_denialCause 17 = .ok (.iload_n 1, 1) := by decide +kernel
theorem dL_denialCause_18 : decode cL_denialCause 18 = .ok (.ireturn, 1) := by decide +kernel
theorem dL_undo_0 : decode cL_undo 0 = .ok (.ldc 10, 2) := by decide +kernel
theorem dL_undo_2 : decode cL_undo 2 = .ok (.istore_n 1, 1) := by decide +kernel
theorem dL_undo_3 : decode cL_undo 3 = .ok (.aload_n 0, 1) := by decide +kernel
theorem dL_undo_4 : decode cL_undo 4 = .ok (.invokevirtual 96, 3) := by decide +kernel
theorem dL_undo_7 : decode cL_undo 7 = .ok (.istore_n 1, 1) := by decide +kernel
theorem dL_undo_8 : decode cL_undo 8 = .ok (.goto 7, 3) := by decide +kernel
theorem dL_undo_11 : decode cL_undo 11 = .ok (.astore_n 2, 1) := by decide +kernel
theorem dL_undo_12 : decode cL_undo 12 = .ok (.ldc 10, 2) := by decide +kernel
theorem dL_undo_14 : decode cL_undo 14 = .ok (.ireturn, 1) := by decide +kernel
theorem dL_undo_15 : decode cL_undo 15 = .ok (.iload_n 1, 1) := by decide +kernel
theorem dL_undo_16 : decode cL_undo 16 = .ok (.ireturn, 1) := by decide +kernel
theorem dL_restore_0 : decode cL_restore 0 = .ok (.ldc 10, 2) := by decide +kernel
theorem dL_restore_2 : decode cL_restore 2 = .ok (.istore_n 1, 1) := by decide +kernel
theorem dL_restore_3 : decode cL_restore 3 = .ok (.aload_n 0, 1) := by decide +kernel
theorem dL_restore_4 : decode cL_restore 4 = .ok (.invokevirtual 101, 3) := by decide +kernel
theorem dL_restore_7 : decode cL_restore 7 = .ok (.istore_n 1, 1) := by decide +kernel
theorem dL_restore_8 : decode cL_restore 8 = .ok (.goto 7, 3) := by decide +kernel
theorem dL_restore_11 : decode cL_restore 11 = .ok (.astore_n 2, 1) := by decide +kernel
theorem dL_restore_12 : decode cL_restore 12 = .ok (.ldc 10, 2) := by decide +kernel
theorem dL_restore_14 : decode cL_restore 14 = .ok (.ireturn, 1) := by decide +kernel
theorem dL_restore_15 : decode cL_restore 15 = .ok (.iload_n 1, 1) := by decide +kernel
theorem dL_restore_16 : decode cL_restore 16 = .ok (.ireturn, 1) := by decide +kernel
theorem dL_put_0 : decode cL_put 0 = .ok (.aload_n 0, 1) := by decide +kernel
theorem dL_put_1 : decode cL_put 1 = .ok (.iload_n 1, 1) := by decide +kernel
theorem dL_put_2 : decode cL_put 2 = .ok (.invokevirtual 104, 3) := by decide +kernel
theorem dL_put_5 : decode cL_put 5 = .ok (.pop, 1) := by decide +kernel
theorem dL_put_6 : decode cL_put 6 = .ok (.goto 6, 3) := by decide +kernel
theorem dL_put_9 : decode cL_put 9 = .ok (.astore_n 2, 1) := by decide +kernel
theorem dL_put_10 : decode cL_put 10 = .ok (.iconst 0, 1) := by decide +kernel
theorem dL_put_11 : decode cL_put 11 = .ok (.ireturn, 1) := by decide +kernel
theorem dL_put_12 : decode cL_put 12 = .ok (.iconst 1, 1) := by decide +kernel
theorem dL_put_13 : decode cL_put 13 = .ok (.ireturn, 1) := by decide +kernel
theorem dL_write_0 : decode cL_write 0 = .ok (.iconst 0, 1) := by decide +kernel
theorem dL_write_1 : decode cL_write 1 = .ok (.istore_n 2, 1) := by decide +kernel
theorem dL_write_2 : decode cL_write 2 = .ok (.iload_n 2, 1) := by decide +kernel
theorem dL_write_3 : decode cL_write 3 = .ok (.aload_n 1, 1) := by decide +kernel
theorem dL_write_4 : decode cL_write 4 = .ok (.invokevirtual 107, 3) := by decide +kernel
theorem dL_write_7 : decode cL_write 7 = .ok (.if_icmp .ge 19, 3) := by decide +kernel
theorem dL_write_10 : decode cL_write 10 = .ok (.aload_n 0, 1) := by decide +kernel
theorem dL_write_11 : decode cL_write 11 = .ok (.aload_n 1, 1) := by decide +kernel
theorem dL_write_12 : decode cL_write 12 = .ok (.iload_n 2, 1) := by decide +kernel
theorem dL_write_13 : decode cL_write 13 = .ok (.invokevirtual 112, 3) := by decide +kernel
theorem dL_write_16 : decode cL_write 16 = .ok (.invokestatic 116, 3) := by decide +kernel
theorem dL_write_19 : decode cL_write 19 = .ok (.pop, 1) := by decide +kernel
theorem dL_write_20 : decode cL_write 20 = .ok (.iinc 2 1, 3) := by decide +kernel
theorem dL_write_23 : decode cL_write 23 = .ok (.goto (-21), 3) := by decide +kernel
theorem dL_write_26 : decode cL_write 26 = .ok (.aload_n 0, 1) := by decide +kernel
theorem dL_write_27 : decode cL_write 27 = .ok (.areturn, 1) := by decide +kernel
theorem dL_act_0 : decode cL_act 0 = .ok (.iload_n 1, 1) := by decide +kernel
theorem dL_act_1 : decode cL_act 1 = .ok (.iconst 4, 1) := by decide +kernel
theorem dL_act_2 : decode cL_act 2 = .ok (.ishr, 1) := by decide +kernel
theorem dL_act_3 : decode cL_act 3 = .ok (.ldc 7, 2) := by decide +kernel
theorem dL_act_5 : decode cL_act 5 = .ok (.iand, 1) := by decide +kernel
theorem dL_act_6 : decode cL_act 6 = .ok (.istore_n 2, 1) := by decide +kernel
theorem dL_act_7 : decode cL_act 7 = .ok (.iload_n 2, 1) := by decide +kernel
theorem dL_act_8 : decode cL_act 8 = .ok (.iconst 4, 1) := by decide +kernel
theorem dL_act_9 : decode cL_act 9 = .ok (.irem, 1) := by decide +kernel
theorem dL_act_10 : decode cL_act 10 = .ok (.istore_n 3, 1) := by decide +kernel
theorem dL_act_11 : decode cL_act 11 = .ok (.iload_n 1, 1) := by decide +kernel
theorem dL_act_12 : decode cL_act 12 = .ok (.bipush 15, 2) := by decide +kernel
theorem dL_act_14 : decode cL_act 14 = .ok (.iand, 1) := by decide +kernel
theorem dL_act_15 : decode cL_act 15 = .ok (.tableswitch 232 0 14 #[73, 89, 89, 89, 95, 122, 122, 122, 133, 143, 158, 175, 214, 214, 214], 73) := by decide +kernel
theorem dL_act_88 : decode cL_act 88 = .ok (.aload_n 0, 1) := by decide +kernel
theorem dL_act_89 : decode cL_act 89 = .ok (.iload_n 2, 1) := by decide +kernel
theorem dL_act_90 : decode cL_act 90 = .ok (.bipush 9, 2) := by decide +kernel
theorem dL_act_92 : decode cL_act 92 = .ok (.irem, 1) := by decide +kernel
theorem dL_act_93 : decode cL_act 93 = .ok (.iload_n 2, 1) := by decide +kernel
theorem dL_act_94 : decode cL_act 94 = .ok (.iload_n 2, 1) := by decide +kernel
theorem dL_act_95 : decode cL_act 95 = .ok (.iconst 3, 1) := by decide +kernel
theorem dL_act_96 : decode cL_act 96 = .ok (.ishr, 1) := by decide +kernel
theorem dL_act_97 : decode cL_act 97 = .ok (.bipush 30, 2) := by decide +kernel
theorem dL_act_99 : decode cL_act 99 = .ok (.irem, 1) := by decide +kernel
theorem dL_act_100 : decode cL_act 100 = .ok (.invokestatic 120, 3) := by decide +kernel
theorem dL_act_103 : decode cL_act 103 = .ok (.ireturn, 1) := by decide +kernel
theorem dL_act_104 : decode cL_act 104 = .ok (.aload_n 0, 1) := by decide +kernel
theorem dL_act_105 : decode cL_act 105 = .ok (.iload_n 3, 1) := by decide +kernel
theorem dL_act_106 : decode cL_act 106 = .ok (.invokestatic 123, 3) := by decide +kernel
theorem dL_act_109 : decode cL_act 109 = .ok (.ireturn, 1) := by decide +kernel
theorem dL_act_110 : decode cL_act 110 = .ok (.iload_n 2, 1) := by decide +kernel
theorem dL_act_111 : decode cL_act 111 = .ok (.bipush 64, 2) := by decide +kernel
theorem dL_act_113 : decode cL_act 113 = .ok (.iand, 1) := by decide +kernel
theorem dL_act_114 : decode cL_act 114 = .ok (.ifCond .ne 11, 3) := by decide +kernel
theorem dL_act_117 : decode cL_act 117 = .ok (.aload_n 0, 1) := by decide +kernel
theorem dL_act_118 : decode cL_act 118 = .ok (.iload_n 3, 1) := by decide +kernel
theorem dL_act_119 : decode cL_act 119 = .ok (.invokestatic 126, 3) := by decide +kernel
theorem dL_act_122 : decode cL_act 122 = .ok (.goto 14, 3) := by decide +kernel
theorem dL_act_125 : decode cL_act 125 = .ok (.aload_n 0, 1) := by decide +kernel
theorem dL_act_126 : decode cL_act 126 = .ok (.iload_n 3, 1) := by decide +kernel
theorem dL_act_127 : decode cL_act 127 = .ok (.iload_n 2, 1) := by decide +kernel
theorem dL_act_128 : decode cL_act 128 = .ok (.iconst 3, 1) := by decide +kernel
theorem dL_act_129 : decode cL_act 129 = .ok (.ishr, 1) := by decide +kernel
theorem dL_act_130 : decode cL_act 130 = .ok (.bipush 40, 2) := by decide +kernel
theorem dL_act_132 : decode cL_act 132 = .ok (.irem, 1) := by decide +kernel
theorem dL_act_133 : decode cL_act 133 = .ok (.invokestatic 128, 3) := by decide +kernel
theorem dL_act_136 : decode cL_act 136 = .ok (.ireturn, 1) := by decide +kernel
theorem dL_act_137 : decode cL_act 137 = .ok (.aload_n 0, 1) := by decide +kernel
theorem dL_act_138 : decode cL_act 138 = .ok (.iload_n 2, 1) := by decide +kernel
theorem dL_act_139 : decode cL_act 139 = .ok (.iconst 2, 1) := by decide +kernel
theorem dL_act_140 : decode cL_act 140 = .ok (.ishr, 1) := by decide +kernel
theorem dL_act_141 : decode cL_act 141 = .ok (.bipush 8, 2) := by decide +kernel
theorem dL_act_143 : decode cL_act 143 = .ok (.irem, 1) := by decide +kernel
theorem dL_act_144 : decode cL_act 144 = .ok (.invokestatic 131, 3) := by decide +kernel
theorem dL_act_147 : decode cL_act 147 = .ok (.ireturn, 1) := by decide +kernel
theorem dL_act_148 : decode cL_act 148 = .ok (.aload_n 0, 1) := by decide +kernel
theorem dL_act_149 : decode cL_act 149 = .ok (.iload_n 2, 1) := by decide +kernel
theorem dL_act_150 : decode cL_act 150 = .ok (.iconst 2, 1) := by decide +kernel
theorem dL_act_151 : decode cL_act 151 = .ok (.ishr, 1) := by decide +kernel
theorem dL_act_152 : decode cL_act 152 = .ok (.iconst 5, 1) := by decide +kernel
theorem dL_act_153 : decode cL_act 153 = .ok (.irem, 1) := by decide +kernel
theorem dL_act_154 : decode cL_act 154 = .ok (.invokestatic 133, 3) := by decide +kernel
theorem dL_act_157 : decode cL_act 157 = .ok (.ireturn, 1) := by decide +kernel
theorem dL_act_158 : decode cL_act 158 = .ok (.aload_n 0, 1) := by decide +kernel
theorem dL_act_159 : decode cL_act 159 = .ok (.iload_n 2, 1) := by decide +kernel
theorem dL_act_160 : decode cL_act 160 = .ok (.iconst 2, 1) := by decide +kernel
theorem dL_act_161 : decode cL_act 161 = .ok (.ishr, 1) := by decide +kernel
theorem dL_act_162 : decode cL_act 162 = .ok (.iconst 5, 1) := by decide +kernel
theorem dL_act_163 : decode cL_act 163 = .ok (.irem, 1) := by decide +kernel
theorem dL_act_164 : decode cL_act 164 = .ok (.iload_n 2, 1) := by decide +kernel
theorem dL_act_165 : decode cL_act 165 = .ok (.iconst 4, 1) := by decide +kernel
theorem dL_act_166 : decode cL_act 166 = .ok (.ishr, 1) := by decide +kernel
theorem dL_act_167 : decode cL_act 167 = .ok (.iconst 4, 1) := by decide +kernel
theorem dL_act_168 : decode cL_act 168 = .ok (.irem, 1) := by decide +kernel
theorem dL_act_169 : decode cL_act 169 = .ok (.invokestatic 135, 3) := by decide +kernel
theorem dL_act_172 : decode cL_act 172 = .ok (.ireturn, 1) := by decide +kernel
theorem dL_act_173 : decode cL_act 173 = .ok (.aload_n 0, 1) := by decide +kernel
theorem dL_act_174 : decode cL_act 174 = .ok (.iload_n 2, 1) := by decide +kernel
theorem dL_act_175 : decode cL_act 175 = .ok (.iconst 2, 1) := by decide +kernel
theorem dL_act_176 : decode cL_act 176 = .ok (.ishr, 1) := by decide +kernel
theorem dL_act_177 : decode cL_act 177 = .ok (.bipush 12, 2) := by decide +kernel
theorem dL_act_179 : decode cL_act 179 = .ok (.irem, 1) := by decide +kernel
theorem dL_act_180 : decode cL_act 180 = .ok (.iload_n 2, 1) := by decide +kernel
theorem dL_act_181 : decode cL_act 181 = .ok (.iconst 5, 1) := by decide +kernel
theorem dL_act_182 : decode cL_act 182 = .ok (.ishr, 1) := by decide +kernel
theorem dL_act_183 : decode cL_act 183 = .ok (.bipush 17, 2) := by decide +kernel
theorem dL_act_185 : decode cL_act 185 = .ok (.irem, 1) := by decide +kernel
theorem dL_act_186 : decode cL_act 186 = .ok (.invokestatic 137, 3) := by decide +kernel
theorem dL_act_189 : decode cL_act 189 = .ok (.ireturn, 1) := by decide +kernel
theorem dL_act_190 : decode cL_act 190 = .ok (.iload_n 2, 1) := by decide +kernel
theorem dL_act_191 : decode cL_act 191 = .ok (.bipush 64, 2) := by decide +kernel
theorem dL_act_193 : decode cL_act 193 = .ok (.iand, 1) := by decide +kernel
theorem dL_act_194 : decode cL_act 194 = .ok (.ifCond .ne 22, 3) := by decide +kernel
theorem dL_act_197 : decode cL_act 197 = .ok (.aload_n 0, 1) := by decide +kernel
theorem dL_act_198 : decode cL_act 198 = .ok (.iload_n 2, 1) := by decide +kernel
theorem dL_act_199 : decode cL_act 199 = .ok (.iconst 2, 1) := by decide +kernel
theorem dL_act_200 : decode cL_act 200 = .ok (.ishr, 1) := by decide +kernel
theorem dL_act_201 : decode cL_act 201 = .ok (.bipush 12, 2) := by decide +kernel
theorem dL_act_203 : decode cL_act 203 = .ok (.irem, 1) := by decide +kernel
theorem dL_act_204 : decode cL_act 204 = .ok (.iload_n 2, 1) := by decide +kernel
theorem dL_act_205 : decode cL_act 205 = .ok (.iconst 5, 1) := by decide +kernel
theorem dL_act_206 : decode cL_act 206 = .ok (.ishr, 1) := by decide +kernel
theorem dL_act_207 : decode cL_act 207 = .ok (.bipush 16, 2) := by decide +kernel
theorem dL_act_209 : decode cL_act 209 = .ok (.irem, 1) := by decide +kernel
theorem dL_act_210 : decode cL_act 210 = .ok (.invokestatic 139, 3) := by decide +kernel
theorem dL_act_213 : decode cL_act 213 = .ok (.goto 15, 3) := by decide +kernel
theorem dL_act_216 : decode cL_act 216 = .ok (.aload_n 0, 1) := by decide +kernel
theorem dL_act_217 : decode cL_act 217 = .ok (.ldc 141, 2) := by decide +kernel
theorem dL_act_219 : decode cL_act 219 = .ok (.iload_n 2, 1) := by decide +kernel
theorem dL_act_220 : decode cL_act 220 = .ok (.iconst 3, 1) := by decide +kernel
theorem dL_act_221 : decode cL_act 221 = .ok (.irem, 1) := by decide +kernel
theorem dL_act_222 : decode cL_act 222 = .ok (.invokevirtual 112, 3) := by decide +kernel
theorem dL_act_225 : decode cL_act 225 = .ok (.invokestatic 143, 3) := by decide +kernel
theorem dL_act_228 : decode cL_act 228 = .ok (.ireturn, 1) := by decide +kernel
theorem dL_act_229 : decode cL_act 229 = .ok (.aload_n 0, 1) := by decide +kernel
theorem dL_act_230 : decode cL_act 230 = .ok (.getstatic 146, 3) := by decide +kernel
theorem dL_act_233 : decode cL_act 233 = .ok (.iload_n 2, 1) := by decide +kernel
theorem dL_act_234 : decode cL_act 234 = .ok (.getstatic 146, 3) := by decide +kernel
theorem dL_act_237 : decode cL_act 237 = .ok (.arraylength, 1) := by decide +kernel
theorem dL_act_238 : decode cL_act 238 = .ok (.irem, 1) := by decide +kernel
theorem dL_act_239 : decode cL_act 239 = .ok (.aaload, 1) := by decide +kernel
theorem dL_act_240 : decode cL_act 240 = .ok (.invokestatic 150, 3) := by decide +kernel
theorem dL_act_243 : decode cL_act 243 = .ok (.invokestatic 154, 3) := by decide +kernel
theorem dL_act_246 : decode cL_act 246 = .ok (.ireturn, 1) := by decide +kernel
theorem dL_act_247 : decode cL_act 247 = .ok (.iload_n 2, 1) := by decide +kernel
theorem dL_act_248 : decode cL_act 248 = .ok (.iconst 3, 1) := by decide +kernel
theorem dL_act_249 : decode cL_act 249 = .ok (.iand, 1) := by decide +kernel
theorem dL_act_250 : decode cL_act 250 = .ok (.ifCond .ne 10, 3) := by decide +kernel
theorem dL_act_253 : decode cL_act 253 = .ok (.aload_n 0, 1) := by decide +kernel
theorem dL_act_254 : decode cL_act 254 = .ok (.invokevirtual 157, 3) := by decide +kernel
theorem dL_act_257 : decode cL_act 257 = .ok (.goto 21, 3) := by decide +kernel
theorem dL_act_260 : decode cL_act 260 = .ok (.iload_n 2, 1) := by decide +kernel
theorem dL_act_261 : decode cL_act 261 = .ok (.iconst 3, 1) := by decide +kernel
theorem dL_act_262 : decode cL_act 262 = .ok (.iand, 1) := by decide +kernel
theorem dL_act_263 : decode cL_act 263 = .ok (.iconst 1, 1) := by decide +kernel
theorem dL_act_264 : decode cL_act 264 = .ok (.if_icmp .ne 10, 3) := by decide +kernel
theorem dL_act_267 : decode cL_act 267 = .ok (.aload_n 0, 1) := by decide +kernel
theorem dL_act_268 : decode cL_act 268 = .ok (.invokestatic 160, 3) := by decide +kernel
theorem dL_act_271 : decode cL_act 271 = .ok (.goto 7, 3) := by decide +kernel
theorem dL_act_274 : decode cL_act 274 = .ok (.aload_n 0, 1) := by decide +kernel
theorem dL_act_275 : decode cL_act 275 = .ok (.invokestatic 163, 3) := by decide +kernel
theorem dL_act_278 : decode cL_act 278 = .ok (.ireturn, 1) := by decide +kernel
theorem dL_digest_0 : decode cL_digest 0 = .ok (.ldc2_w 165, 3) := by decide +kernel
theorem dL_digest_3 : decode cL_digest 3 = .ok (.aload_n 0, 1) := by decide +kernel
theorem dL_digest_4 : decode cL_digest 4 = .ok (.invokevirtual 167, 3) := by decide +kernel
theorem dL_digest_7 : decode cL_digest 7 = .ok (.i2l, 1) := by decide +kernel
theorem dL_digest_8 : decode cL_digest 8 = .ok (.lmul, 1) := by decide +kernel
theorem dL_digest_9 : decode cL_digest 9 = .ok (.ldc2_w 170, 3) := by decide +kernel
theorem dL_digest_12 : decode cL_digest 12 = .ok (.aload_n 0, 1) := by decide +kernel
theorem dL_digest_13 : decode cL_digest 13 = .ok (.invokevirtual 172, 3) := by decide +kernel
theorem dL_digest_16 : decode cL_digest 16 = .ok (.i2l, 1) := by decide +kernel
theorem dL_digest_17 : decode cL_digest 17 = .ok (.lmul, 1) := by decide +kernel
theorem dL_digest_18 : decode cL_digest 18 = .ok (.ladd, 1) := by decide +kernel
theorem dL_digest_19 : decode cL_digest 19 = .ok (.ldc2_w 175, 3) := by decide +kernel
theorem dL_digest_22 : decode cL_digest 22 = .ok (.aload_n 0, 1) := by decide +kernel
theorem dL_digest_23 : decode cL_digest 23 = .ok (.bipush 108, 2) := by decide +kernel
theorem dL_digest_25 : decode cL_digest 25 = .ok (.invokevirtual 177, 3) := by decide +kernel
theorem dL_digest_28 : decode cL_digest 28 = .ok (.i2l, 1) := by decide +kernel
theorem dL_digest_29 : decode cL_digest 29 = .ok (.lmul, 1) := by decide +kernel
theorem dL_digest_30 : decode cL_digest 30 = .ok (.ladd, 1) := by decide +kernel
theorem dL_digest_31 : decode cL_digest 31 = .ok (.ldc2_w 180, 3) := by decide +kernel
theorem dL_digest_34 : decode cL_digest 34 = .ok (.aload_n 0, 1) := by decide +kernel
theorem dL_digest_35 : decode cL_digest 35 = .ok (.bipush 114, 2) := by decide +kernel
theorem dL_digest_37 : decode cL_digest 37 = .ok (.invokevirtual 177, 3) := by decide +kernel
theorem dL_digest_40 : decode cL_digest 40 = .ok (.i2l, 1) := by decide +kernel
theorem dL_digest_41 : decode cL_digest 41 = .ok (.lmul, 1) := by decide +kernel
theorem dL_digest_42 : decode cL_digest 42 = .ok (.ladd, 1) := by decide +kernel
theorem dL_digest_43 : decode cL_digest 43 = .ok (.ldc2_w 182, 3) := by decide +kernel
theorem dL_digest_46 : decode cL_digest 46 = .ok (.aload_n 0, 1) := by decide +kernel
theorem dL_digest_47 : decode cL_digest 47 = .ok (.bipush 108, 2) := by decide +kernel
theorem dL_digest_49 : decode cL_digest 49 = .ok (.invokevirtual 184, 3) := by decide +kernel
theorem dL_digest_52 : decode cL_digest 52 = .ok (.i2l, 1) := by decide +kernel
theorem dL_digest_53 : decode cL_digest 53 = .ok (.lmul, 1) := by decide +kernel
theorem dL_digest_54 : decode cL_digest 54 = .ok (.ladd, 1) := by decide +kernel
theorem dL_digest_55 : decode cL_digest 55 = .ok (.ldc2_w 187, 3) := by decide +kernel
theorem dL_digest_58 : decode cL_digest 58 = .ok (.aload_n 0, 1) := by decide +kernel
theorem dL_digest_59 : decode cL_digest 59 = .ok (.bipush 114, 2) := by decide +kernel
theorem dL_digest_61 : decode cL_digest 61 = .ok (.invokevirtual 184, 3) := by decide +kernel
theorem dL_digest_64 : decode cL_digest 64 = .ok (.i2l, 1) := by decide +kernel
theorem dL_digest_65 : decode cL_digest 65 = .ok (.lmul, 1) := by decide +kernel
theorem dL_digest_66 : decode cL_digest 66 = .ok (.ladd, 1) := by decide +kernel
theorem dL_digest_67 : decode cL_digest 67 = .ok (.aload_n 0, 1) := by decide +kernel
theorem dL_digest_68 : decode cL_digest 68 = .ok (.invokevirtual 189, 3) := by decide +kernel
theorem dL_digest_71 : decode cL_digest 71 = .ok (.i2l, 1) := by decide +kernel
theorem dL_digest_72 : decode cL_digest 72 = .ok (.ladd, 1) := by decide +kernel
theorem dL_digest_73 : decode cL_digest 73 = .ok (.lstore_n 1, 1) := by decide +kernel
theorem dL_digest_74 : decode cL_digest 74 = .ok (.iconst 0, 1) := by decide +kernel
theorem dL_digest_75 : decode cL_digest 75 = .ok (.istore_n 3, 1) := by decide +kernel
theorem dL_digest_76 : decode cL_digest 76 = .ok (.iload_n 3, 1) := by decide +kernel
theorem dL_digest_77 : decode cL_digest 77 = .ok (.aload_n 0, 1) := by decide +kernel
theorem dL_digest_78 : decode cL_digest 78 = .ok (.invokevirtual 189, 3) := by decide +kernel
theorem dL_digest_81 : decode cL_digest 81 = .ok (.if_icmp .ge 41, 3) := by decide +kernel
theorem dL_digest_84 : decode cL_digest 84 = .ok (.ldc2_w 192, 3) := by decide +kernel
theorem dL_digest_87 : decode cL_digest 87 = .ok (.ldc2_w 192, 3) := by decide +kernel
theorem dL_digest_90 : decode cL_digest 90 = .ok (.lload_n 1, 1) := by decide +kernel
theorem dL_digest_91 : decode cL_digest 91 = .ok (.lmul, 1) := by decide +kernel
theorem dL_digest_92 : decode cL_digest 92 = .ok (.aload_n 0, 1) := by decide +kernel
theorem dL_digest_93 : decode cL_digest 93 = .ok (.iload_n 3, 1) := by decide +kernel
theorem dL_digest_94 : decode cL_digest 94 = .ok (.invokevirtual 194, 3) := by decide +kernel
theorem dL_digest_97 : decode cL_digest 97 = .ok (.i2l, 1) := by decide +kernel
theorem dL_digest_98 : decode cL_digest 98 = .ok (.ladd, 1) := by decide +kernel
theorem dL_digest_99 : decode cL_digest 99 = .ok (.lmul, 1) := by decide +kernel
theorem dL_digest_100 : decode cL_digest 100 = .ok (.aload_n 0, 1) := by decide +kernel
theorem dL_digest_101 : decode cL_digest 101 = .ok (.iload_n 3, 1) := by decide +kernel
theorem dL_digest_102 : decode cL_digest 102 = .ok (.invokevirtual 197, 3) := by decide +kernel
theorem dL_digest_105 : decode cL_digest 105 = .ok (.ifCond .eq 7, 3) := by decide +kernel
theorem dL_digest_108 : decode cL_digest 108 = .ok (.iconst 1, 1) := by decide +kernel
theorem dL_digest_109 : decode cL_digest 109 = .ok (.goto 4, 3) := by decide +kernel
theorem dL_digest_112 : decode cL_digest 112 = .ok (.iconst 0, 1) := by decide +kernel
theorem dL_digest_113 : decode cL_digest 113 = .ok (.i2l, 1) := by decide +kernel
theorem dL_digest_114 : decode cL_digest 114 = .ok (.ladd, 1) := by decide +kernel
theorem dL_digest_115 : decode cL_digest 115 = .ok (.lstore_n 1, 1) := by decide +kernel
theorem dL_digest_116 : decode cL_digest 116 = .ok (.iinc 3 1, 3) := by decide +kernel
theorem dL_digest_119 : decode cL_digest 119 = .ok (.goto (-43), 3) := by decide +kernel
theorem dL_digest_122 : decode cL_digest 122 = .ok (.ldc2_w 192, 3) := by decide +kernel
theorem dL_digest_125 : decode cL_digest 125 = .ok (.ldc2_w 192, 3) := by decide +kernel
theorem dL_digest_128 : decode cL_digest 128 = .ok (.lload_n 1, 1) := by decide +kernel
theorem dL_digest_129 : decode cL_digest 129 = .ok (.lmul, 1) := by decide +kernel
theorem dL_digest_130 : decode cL_digest 130 = .ok (.aload_n 0, 1) := by decide +kernel
theorem dL_digest_131 : decode cL_digest 131 = .ok (.invokevirtual 201, 3) := by decide +kernel
theorem dL_digest_134 : decode cL_digest 134 = .ok (.i2l, 1) := by decide +kernel
theorem dL_digest_135 : decode cL_digest 135 = .ok (.ladd, 1) := by decide +kernel
theorem dL_digest_136 : decode cL_digest 136 = .ok (.lmul, 1) := by decide +kernel
theorem dL_digest_137 : decode cL_digest 137 = .ok (.aload_n 0, 1) := by decide +kernel
theorem dL_digest_138 : decode cL_digest 138 = .ok (.invokevirtual 204, 3) := by decide +kernel
theorem dL_digest_141 : decode cL_digest 141 = .ok (.i2l, 1) := by decide +kernel
theorem dL_digest_142 : decode cL_digest 142 = .ok (.ladd, 1) := by decide +kernel
theorem dL_digest_143 : decode cL_digest 143 = .ok (.lstore_n 1, 1) := by decide +kernel
theorem dL_digest_144 : decode cL_digest 144 = .ok (.iconst 0, 1) := by decide +kernel
theorem dL_digest_145 : decode cL_digest 145 = .ok (.istore_n 3, 1) := by decide +kernel
theorem dL_digest_146 : decode cL_digest 146 = .ok (.iload_n 3, 1) := by decide +kernel
theorem dL_digest_147 : decode cL_digest 147 = .ok (.aload_n 0, 1) := by decide +kernel
theorem dL_digest_148 : decode cL_digest 148 = .ok (.invokevirtual 201, 3) := by decide +kernel
theorem dL_digest_151 : decode cL_digest 151 = .ok (.if_icmp .ge 72, 3) := by decide +kernel
theorem dL_digest_154 : decode cL_digest 154 = .ok (.ldc2_w 192, 3) := by decide +kernel
theorem dL_digest_157 : decode cL_digest 157 = .ok (.ldc2_w 192, 3) := by decide +kernel
theorem dL_digest_160 : decode cL_digest 160 = .ok (.lload_n 1, 1) := by decide +kernel
theorem dL_digest_161 : decode cL_digest 161 = .ok (.lmul, 1) := by decide +kernel
theorem dL_digest_162 : decode cL_digest 162 = .ok (.aload_n 0, 1) := by decide +kernel
theorem dL_digest_163 : decode cL_digest 163 = .ok (.iload_n 3, 1) := by decide +kernel
theorem dL_digest_164 : decode cL_digest 164 = .ok (.invokevirtual 207, 3) := by decide +kernel
theorem dL_digest_167 : decode cL_digest 167 = .ok (.i2l, 1) := by decide +kernel
theorem dL_digest_168 : decode cL_digest 168 = .ok (.ladd, 1) := by decide +kernel
theorem dL_digest_169 : decode cL_digest 169 = .ok (.lmul, 1) := by decide +kernel
theorem dL_digest_170 : decode cL_digest 170 = .ok (.aload_n 0, 1) := by decide +kernel
theorem dL_digest_171 : decode cL_digest 171 = .ok (.iload_n 3, 1) := by decide +kernel
theorem dL_digest_172 : decode cL_digest 172 = .ok (.invokevirtual 210, 3) := by decide +kernel
theorem dL_digest_175 : decode cL_digest 175 = .ok (.i2l, 1) := by decide +kernel
theorem dL_digest_176 : decode cL_digest 176 = .ok (.ladd, 1) := by decide +kernel
theorem dL_digest_177 : decode cL_digest 177 = .ok (.lstore_n 1, 1) := by decide +kernel
theorem dL_digest_178 : decode cL_digest 178 = .ok (.iconst 0, 1) := by decide +kernel
theorem dL_digest_179 : decode cL_digest 179 = .ok (.istore 4, 2) := by decide +kernel
theorem dL_digest_181 : decode cL_digest 181 = .ok (.iload 4, 2) := by decide +kernel
theorem dL_digest_183 : decode cL_digest 183 = .ok (.bipush 16, 2) := by decide +kernel
theorem dL_digest_185 : decode cL_digest 185 = .ok (.if_icmp .ge 32, 3) := by decide +kernel
theorem dL_digest_188 : decode cL_digest 188 = .ok (.ldc2_w 192, 3) := by decide +kernel
theorem dL_digest_191 : decode cL_digest 191 = .ok (.lload_n 1, 1) := by decide +kernel
theorem dL_digest_192 : decode cL_digest 192 = .ok (.lmul, 1) := by decide +kernel
theorem dL_digest_193 : decode cL_digest 193 = .ok (.aload_n 0, 1) := by decide +kernel
theorem dL_digest_194 : decode cL_digest 194 = .ok (.iload_n 3, 1) := by decide +kernel
theorem dL_digest_195 : decode cL_digest 195 = .ok (.iload 4, 2) := by decide +kernel
theorem dL_digest_197 : decode cL_digest 197 = .ok (.invokevirtual 213, 3) := by decide +kernel
theorem dL_digest_200 : decode cL_digest 200 = .ok (.ifCond .eq 7, 3) := by decide +kernel
theorem dL_digest_203 : decode cL_digest 203 = .ok (.iconst 1, 1) := by decide +kernel
theorem dL_digest_204 : decode cL_digest 204 = .ok (.goto 4, 3) := by decide +kernel
theorem dL_digest_207 : decode cL_digest 207 = .ok (.iconst 0, 1) := by decide +kernel
theorem dL_digest_208 : decode cL_digest 208 = .ok (.i2l, 1) := by decide +kernel
theorem dL_digest_209 : decode cL_digest 209 = .ok (.ladd, 1) := by decide +kernel
theorem dL_digest_210 : decode cL_digest 210 = .ok (.lstore_n 1, 1) := by decide +kernel
theorem dL_digest_211 : decode cL_digest 211 = .ok (.iinc 4 1, 3) := by decide +kernel
theorem dL_digest_214 : decode cL_digest 214 = .ok (.goto (-33), 3) := by decide +kernel
theorem dL_digest_217 : decode cL_digest 217 = .ok (.iinc 3 1, 3) := by decide +kernel
theorem dL_digest_220 : decode cL_digest 220 = .ok (.goto (-74), 3) := by decide +kernel
theorem dL_digest_223 : decode cL_digest 223 = .ok (.lload_n 1, 1) := by decide +kernel
theorem dL_digest_224 : decode cL_digest 224 = .ok (.lreturn, 1) := by decide +kernel
theorem dL_areEqual_0 : decode cL_areEqual 0 = .ok (.aload_n 0, 1) := by decide +kernel
theorem dL_areEqual_1 : decode cL_areEqual 1 = .ok (.iload_n 1, 1) := by decide +kernel
theorem dL_areEqual_2 : decode cL_areEqual 2 = .ok (.invokevirtual 207, 3) := by decide +kernel
theorem dL_areEqual_5 : decode cL_areEqual 5 = .ok (.aload_n 0, 1) := by decide +kernel
theorem dL_areEqual_6 : decode cL_areEqual 6 = .ok (.iload_n 2, 1) := by decide +kernel
theorem dL_areEqual_7 : decode cL_areEqual 7 = .ok (.invokevirtual 207, 3) := by decide +kernel
theorem dL_areEqual_10 : decode cL_areEqual 10 = .ok (.if_icmp .ne 20, 3) := by decide +kernel
theorem dL_areEqual_13 : decode cL_areEqual 13 = .ok (.aload_n 0, 1) := by decide +kernel
theorem dL_areEqual_14 : decode cL_areEqual 14 = .ok (.iload_n 1, 1) := by decide +kernel
theorem dL_areEqual_15 : decode cL_areEqual 15 = .ok (.invokevirtual 210, 3) := by decide +kernel
theorem dL_areEqual_18 : decode cL_areEqual 18 = .ok (.aload_n 0, 1) := by decide +kernel
theorem dL_areEqual_19 : decode cL_areEqual 19 = .ok (.iload_n 2, 1) := by decide +kernel
theorem dL_areEqual_20 : decode cL_areEqual 20 = .ok (.invokevirtual 210, 3) := by decide +kernel
theorem dL_areEqual_23 : decode cL_areEqual 23 = .ok (.if_icmp .ne 7, 3) := by decide +kernel
theorem dL_areEqual_26 : decode cL_areEqual 26 = .ok (.iconst 1, 1) := by decide +kernel
theorem dL_areEqual_27 : decode cL_areEqual 27 = .ok (.goto 4, 3) := by decide +kernel
theorem dL_areEqual_30 : decode cL_areEqual 30 = .ok (.iconst 0, 1) := by decide +kernel
theorem dL_areEqual_31 : decode cL_areEqual 31 = .ok (.ireturn, 1) := by decide +kernel
theorem dL_areRows_0 : decode cL_areRows 0 = .ok (.aload_n 0, 1) := by decide +kernel
theorem dL_areRows_1 : decode cL_areRows 1 = .ok (.invokevirtual 201, 3) := by decide +kernel
theorem dL_areRows_4 : decode cL_areRows 4 = .ok (.istore_n 1, 1) := by decide +kernel
theorem dL_areRows_5 : decode cL_areRows 5 = .ok (.iconst 0, 1) := by decide +kernel
theorem dL_areRows_6 : decode cL_areRows 6 = .ok (.istore_n 2, 1) := by decide +kernel
theorem dL_areRows_7 : decode cL_areRows 7 = .ok (.iconst 0, 1) := by decide +kernel
theorem dL_areRows_8 : decode cL_areRows 8 = .ok (.istore_n 3, 1) := by decide +kernel
theorem dL_areRows_9 : decode cL_areRows 9 = .ok (.iconst 0, 1) := by decide +kernel
theorem dL_areRows_10 : decode cL_areRows 10 = .ok (.istore 4, 2) := by decide +kernel
theorem dL_areRows_12 : decode cL_areRows 12 = .ok (.iconst 1, 1) := by decide +kernel
theorem dL_areRows_13 : decode cL_areRows 13 = .ok (.istore 5, 2) := by decide +kernel
theorem dL_areRows_15 : decode cL_areRows 15 = .ok (.iload_n 1, 1) := by decide +kernel
theorem dL_areRows_16 : decode cL_areRows 16 = .ok (.bipush 40, 2) := by decide +kernel
theorem dL_areRows_18 : decode cL_areRows 18 = .ok (.if_icmp .gt 7, 3) := by decide +kernel
theorem dL_areRows_21 : decode cL_areRows 21 = .ok (.iconst 1, 1) := by decide +kernel
theorem dL_areRows_22 : decode cL_areRows 22 = .ok (.goto 4, 3) := by decide +kernel
theorem dL_areRows_25 : decode cL_areRows 25 = .ok (.iconst 0, 1) := by decide +kernel
theorem dL_areRows_26 : decode cL_areRows 26 = .ok (.istore 6, 2) := by decide +kernel
theorem dL_areRows_28 : decode cL_areRows 28 = .ok (.iconst 0, 1) := by decide +kernel
theorem dL_areRows_29 : decode cL_areRows 29 = .ok (.istore 7, 2) := by decide +kernel
theorem dL_areRows_31 : decode cL_areRows 31 = .ok (.iload 6, 2) := by decide +kernel
theorem dL_areRows_33 : decode cL_areRows 33 = .ok (.ifCond .eq 264, 3) := by decide +kernel
theorem dL_areRows_36 : decode cL_areRows 36 = .ok (.iload 7, 2) := by decide +kernel
theorem dL_areRows_38 : decode cL_areRows 38 = .ok (.iload_n 1, 1) := by decide +kernel
theorem dL_areRows_39 : decode cL_areRows 39 = .ok (.if_icmp .ge 258, 3) := by decide +kernel
theorem dL_areRows_42 : decode cL_areRows 42 = .ok (.iconst 1, 1) := by decide +kernel
theorem dL_areRows_43 : decode cL_areRows 43 = .ok (.istore 8, 2) := by decide +kernel
theorem dL_areRows_45 : decode cL_areRows 45 = .ok (.aload_n 0, 1) := by decide +kernel
theorem dL_areRows_46 : decode cL_areRows 46 = .ok (.iload 7, 2) := by decide +kernel
theorem dL_areRows_48 : decode cL_areRows 48 = .ok (.invokevirtual 217, 3) := by decide +kernel
theorem dL_areRows_51 : decode cL_areRows 51 = .ok (.bipush 18, 2) := by decide +kernel
theorem dL_areRows_53 : decode cL_areRows 53 = .ok (.if_icmp .ne 24, 3) := by decide +kernel
theorem dL_areRows_56 : decode cL_areRows 56 = .ok (.aload_n 0, 1) := by decide +kernel
theorem dL_areRows_57 : decode cL_areRows 57 = .ok (.iconst 0, 1) := by decide +kernel
theorem dL_areRows_58 : decode cL_areRows 58 = .ok (.invokevirtual 220, 3) := by decide +kernel
theorem dL_areRows_61 : decode cL_areRows 61 = .ok (.bipush 48, 2) := by decide +kernel
theorem dL_areRows_63 : decode cL_areRows 63 = .ok (.aload_n 0, 1) := by decide +kernel
theorem dL_areRows_64 : decode cL_areRows 64 = .ok (.iload 7, 2) := by decide +kernel
theorem dL_areRows_66 : decode cL_areRows 66 = .ok (.invokevirtual 210, 3) := by decide +kernel
theorem dL_areRows_69 : decode cL_areRows 69 = .ok (.iadd, 1) := by decide +kernel
theorem dL_areRows_70 : decode cL_areRows 70 = .ok (.if_icmp .ne 7, 3) := by decide +kernel
theorem dL_areRows_73 : decode cL_areRows 73 = .ok (.iconst 1, 1) := by decide +kernel
theorem dL_areRows_74 : decode cL_areRows 74 = .ok (.goto 4, 3) := by decide +kernel
theorem dL_areRows_77 : decode cL_areRows 77 = .ok (.iconst 0, 1) := by decide +kernel
theorem dL_areRows_78 : decode cL_areRows 78 = .ok (.istore 6, 2) := by decide +kernel
theorem dL_areRows_80 : decode cL_areRows 80 = .ok (.iconst 0, 1) := by decide +kernel
theorem dL_areRows_81 : decode cL_areRows 81 = .ok (.istore 9, 2) := by decide +kernel
theorem dL_areRows_83 : decode cL_areRows 83 = .ok (.iload 6, 2) := by decide +kernel
theorem dL_areRows_85 : decode cL_areRows 85 = .ok (.ifCond .eq 137, 3) := by decide +kernel
theorem dL_areRows_88 : decode cL_areRows 88 = .ok (.iload 9, 2) := by decide +kernel
theorem dL_areRows_90 : decode cL_areRows 90 = .ok (.bipush 16, 2) := by decide +kernel
theorem dL_areRows_92 : decode cL_areRows 92 = .ok (.if_icmp .ge 130, 3) := by decide +kernel
theorem dL_areRows_95 : decode cL_areRows 95 = .ok (.aload_n 0, 1) := by decide +kernel
theorem dL_areRows_96 : decode cL_areRows 96 = .ok (.iload 7, 2) := by decide +kernel
theorem dL_areRows_98 : decode cL_areRows 98 = .ok (.invokevirtual 207, 3) := by decide +kernel
theorem dL_areRows_101 : decode cL_areRows 101 = .ok (.iload 9, 2) := by decide +kernel
theorem dL_areRows_103 : decode cL_areRows 103 = .ok (.ishr, 1) := by decide +kernel
theorem dL_areRows_104 : decode cL_areRows 104 = .ok (.iconst 1, 1) := by decide +kernel
theorem dL_areRows_105 : decode cL_areRows 105 = .ok (.iand, 1) := by decide +kernel
theorem dL_areRows_106 : decode cL_areRows 106 = .ok (.iconst 1, 1) := by decide +kernel
theorem dL_areRows_107 : decode cL_areRows 107 = .ok (.if_icmp .ne 7, 3) := by decide +kernel
theorem dL_areRows_110 : decode cL_areRows 110 = .ok (.iconst 1, 1) := by decide +kernel
theorem dL_areRows_111 : decode cL_areRows 111 = .ok (.goto 4, 3) := by decide +kernel
theorem dL_areRows_114 : decode cL_areRows 114 = .ok (.iconst 0, 1) := by decide +kernel
theorem dL_areRows_115 : decode cL_areRows 115 = .ok (.istore 10, 2) := by decide +kernel
theorem dL_areRows_117 : decode cL_areRows 117 = .ok (.aload_n 0, 1) := by decide +kernel
theorem dL_areRows_118 : decode cL_areRows 118 = .ok (.iload 7, 2) := by decide +kernel
theorem dL_areRows_120 : decode cL_areRows 120 = .ok (.iload 9, 2) := by decide +kernel
theorem dL_areRows_122 : decode cL_areRows 122 = .ok (.invokevirtual 213, 3) := by decide +kernel
theorem dL_areRows_125 : decode cL_areRows 125 = .ok (.istore 11, 2) := by decide +kernel
theorem dL_areRows_127 : decode cL_areRows 127 = .ok (.iload_n 2, 1) := by decide +kernel
theorem dL_areRows_128 : decode cL_areRows 128 = .ok (.iload 10, 2) := by decide +kernel
theorem dL_areRows_130 : decode cL_areRows 130 = .ok (.ifCond .eq 7, 3) := by decide +kernel
theorem dL_areRows_133 : decode cL_areRows 133 = .ok (.iconst 1, 1) := by decide +kernel
theorem dL_areRows_134 : decode cL_areRows 134 = .ok (.goto 4, 3) := by decide +kernel
theorem dL_areRows_137 : decode cL_areRows 137 = .ok (.iconst 0, 1) := by decide +kernel
theorem dL_areRows_138 : decode cL_areRows 138 = .ok (.iadd, 1) := by decide +kernel
theorem dL_areRows_139 : decode cL_areRows 139 = .ok (.istore_n 2, 1) := by decide +kernel
theorem dL_areRows_140 : decode cL_areRows 140 = .ok (.iload_n 3, 1) := by decide +kernel
theorem dL_areRows_141 : decode cL_areRows 141 = .ok (.iload 11, 2) := by decide +kernel
theorem dL_areRows_143 : decode cL_areRows 143 = .ok (.ifCond .eq 7, 3) := by decide +kernel
theorem dL_areRows_146 : decode cL_areRows 146 = .ok (.iconst 1, 1) := by decide +kernel
theorem dL_areRows_147 : decode cL_areRows 147 = .ok (.goto 4, 3) := by decide +kernel
theorem dL_areRows_150 : decode cL_areRows 150 = .ok (.iconst 0, 1) := by decide +kernel
theorem dL_areRows_151 : decode cL_areRows 151 = .ok (.iadd, 1) := by decide +kernel
theorem dL_areRows_152 : decode cL_areRows 152 = .ok (.istore_n 3, 1) := by decide +kernel
theorem dL_areRows_153 : decode cL_areRows 153 = .ok (.aload_n 0, 1) := by decide +kernel
theorem dL_areRows_154 : decode cL_areRows 154 = .ok (.iload 7, 2) := by decide +kernel
theorem dL_areRows_156 : decode cL_areRows 156 = .ok (.iload 9, 2) := by decide +kernel
theorem dL_areRows_158 : decode cL_areRows 158 = .ok (.invokevirtual 223, 3) := by decide +kernel
theorem dL_areRows_161 : decode cL_areRows 161 = .ok (.iload 10, 2) := by decide +kernel
theorem dL_areRows_163 : decode cL_areRows 163 = .ok (.if_icmp .ne 50, 3) := by decide +kernel
theorem dL_areRows_166 : decode cL_areRows 166 = .ok (.aload_n 0, 1) := by decide +kernel
theorem dL_areRows_167 : decode cL_areRows 167 = .ok (.iconst 2, 1) := by decide +kernel
theorem dL_areRows_168 : decode cL_areRows 168 = .ok (.iload 9, 2) := by decide +kernel
theorem dL_areRows_170 : decode cL_areRows 170 = .ok (.iadd, 1) := by decide +kernel
theorem dL_areRows_171 : decode cL_areRows 171 = .ok (.invokevirtual 220, 3) := by decide +kernel
theorem dL_areRows_174 : decode cL_areRows 174 = .ok (.iload 10, 2) := by decide +kernel
theorem dL_areRows_176 : decode cL_areRows 176 = .ok (.ifCond .eq 18, 3) := by decide +kernel
theorem dL_areRows_179 : decode cL_areRows 179 = .ok (.iload 11, 2) := by decide +kernel
theorem dL_areRows_181 : decode cL_areRows 181 = .ok (.ifCond .eq 8, 3) := by decide +kernel
theorem dL_areRows_184 : decode cL_areRows 184 = .ok (.bipush 88, 2) := by decide +kernel
theorem dL_areRows_186 : decode cL_areRows 186 = .ok (.goto 20, 3) := by decide +kernel
theorem dL_areRows_189 : decode cL_areRows 189 = .ok (.bipush 120, 2) := by decide +kernel
theorem dL_areRows_191 : decode cL_areRows 191 = .ok (.goto 15, 3) := by decide +kernel
theorem dL_areRows_194 : decode cL_areRows 194 = .ok (.iload 11, 2) := by decide +kernel
theorem dL_areRows_196 : decode cL_areRows 196 = .ok (.ifCond .eq 8, 3) := by decide +kernel
theorem dL_areRows_199 : decode cL_areRows 199 = .ok (.bipush 111, 2) := by decide +kernel
theorem dL_areRows_201 : decode cL_areRows 201 = .ok (.goto 5, 3) := by decide +kernel
theorem dL_areRows_204 : decode cL_areRows 204 = .ok (.bipush 46, 2) := by decide +kernel
theorem dL_areRows_206 : decode cL_areRows 206 = .ok (.if_icmp .ne 7, 3) := by decide +kernel
theorem dL_areRows_209 : decode cL_areRows 209 = .ok (.iconst 1, 1) := by decide +kernel
theorem dL_areRows_210 : decode cL_areRows 210 = .ok (.goto 4, 3) := by decide +kernel
theorem dL_areRows_213 : decode cL_areRows 213 = .ok (.iconst 0, 1) := by decide +kernel
theorem dL_areRows_214 : decode cL_areRows 214 = .ok (.istore 6, 2) := by decide +kernel
theorem dL_areRows_216 : decode cL_areRows 216 = .ok (.iinc 9 1, 3) := by decide +kernel
theorem dL_areRows_219 : decode cL_areRows 219 = .ok (.goto (-136), 3) := by decide +kernel
theorem dL_areRows_222 : decode cL_areRows 222 = .ok (.iconst 0, 1) := by decide +kernel
theorem dL_areRows_223 : decode cL_areRows 223 = .ok (.istore 9, 2) := by decide +kernel
theorem dL_areRows_225 : decode cL_areRows 225 = .ok (.iload 9, 2) := by decide +kernel
theorem dL_areRows_227 : decode cL_areRows 227 = .ok (.iload 7, 2) := by decide +kernel
theorem dL_areRows_229 : decode cL_areRows 229 = .ok (.if_icmp .ge 30, 3) := by decide +kernel
theorem dL_areRows_232 : decode cL_areRows 232 = .ok (.iload 8, 2) := by decide +kernel
theorem dL_areRows_234 : decode cL_areRows 234 = .ok (.aload_n 0, 1) := by decide +kernel
theorem dL_areRows_235 : decode cL_areRows 235 = .ok (.iload 7, 2) := by decide +kernel
theorem dL_areRows_237 : decode cL_areRows 237 = .ok (.iload 9, 2) := by decide +kernel
theorem dL_areRows_239 : decode cL_areRows 239 = .ok (.invokestatic 226, 3) := by decide +kernel
theorem dL_areRows_242 : decode cL_areRows 242 = .ok (.ifCond .ne 7, 3) := by decide +kernel
theorem dL_areRows_245 : decode cL_areRows 245 = .ok (.iconst 1, 1) := by decide +kernel
theorem dL_areRows_246 : decode cL_areRows 246 = .ok (.goto 4, 3) := by decide +kernel
theorem dL_areRows_249 : decode cL_areRows 249 = .ok (.iconst 0, 1) := by decide +kernel
theorem dL_areRows_250 : decode cL_areRows 250 = .ok (.iand, 1) := by decide +kernel
theorem dL_areRows_251 : decode cL_areRows 251 = .ok (.istore 8, 2) := by decide +kernel
theorem dL_areRows_253 : decode cL_areRows 253 = .ok (.iinc 9 1, 3) := by decide +kernel
theorem dL_areRows_256 : decode cL_areRows 256 = .ok (.goto (-31), 3) := by decide +kernel
theorem dL_areRows_259 : decode cL_areRows 259 = .ok (.iload 4, 2) := by decide +kernel
theorem dL_areRows_261 : decode cL_areRows 261 = .ok (.iload 8, 2) := by decide +kernel
theorem dL_areRows_263 : decode cL_areRows 263 = .ok (.ifCond .eq 7, 3) := by decide +kernel
theorem dL_areRows_266 : decode cL_areRows 266 = .ok (.iconst 1, 1) := by decide +kernel
theorem dL_areRows_267 : decode cL_areRows 267 = .ok (.goto 4, 3) := by decide +kernel
theorem dL_areRows_270 : decode cL_areRows 270 = .ok (.iconst 0, 1) := by decide +kernel
theorem dL_areRows_271 : decode cL_areRows 271 = .ok (.iadd, 1) := by decide +kernel
theorem dL_areRows_272 : decode cL_areRows 272 = .ok (.istore 4, 2) := by decide +kernel
theorem dL_areRows_274 : decode cL_areRows 274 = .ok (.iload 5, 2) := by decide +kernel
theorem dL_areRows_276 : decode cL_areRows 276 = .ok (.aload_n 0, 1) := by decide +kernel
theorem dL_areRows_277 : decode cL_areRows 277 = .ok (.iload 7, 2) := by decide +kernel
theorem dL_areRows_279 : decode cL_areRows 279 = .ok (.iload_n 1, 1) := by decide +kernel
theorem dL_areRows_280 : decode cL_areRows 280 = .ok (.iconst 1, 1) := by decide +kernel
theorem dL_areRows_281 : decode cL_areRows 281 = .ok (.isub, 1) := by decide +kernel
theorem dL_areRows_282 : decode cL_areRows 282 = .ok (.iload 7, 2) := by decide +kernel
theorem dL_areRows_284 : decode cL_areRows 284 = .ok (.isub, 1) := by decide +kernel
theorem dL_areRows_285 : decode cL_areRows 285 = .ok (.invokestatic 226, 3) := by decide +kernel
theorem dL_areRows_288 : decode cL_areRows 288 = .ok (.iand, 1) := by decide +kernel
theorem dL_areRows_289 : decode cL_areRows 289 = .ok (.istore 5, 2) := by decide +kernel
theorem dL_areRows_291 : decode cL_areRows 291 = .ok (.iinc 7 1, 3) := by decide +kernel
theorem dL_areRows_294 : decode cL_areRows 294 = .ok (.goto (-263), 3) := by decide +kernel
theorem dL_areRows_297 : decode cL_areRows 297 = .ok (.iload 6, 2) := by decide +kernel
theorem dL_areRows_299 : decode cL_areRows 299 = .ok (.ifCond .eq 81, 3) := by decide +kernel
theorem dL_areRows_302 : decode cL_areRows 302 = .ok (.aload_n 0, 1) := by decide +kernel
theorem dL_areRows_303 : decode cL_areRows 303 = .ok (.invokevirtual 230, 3) := by decide +kernel
theorem dL_areRows_306 : decode cL_areRows 306 = .ok (.iload_n 3, 1) := by decide +kernel
theorem dL_areRows_307 : decode cL_areRows 307 = .ok (.if_icmp .ne 73, 3) := by decide +kernel
theorem dL_areRows_310 : decode cL_areRows 310 = .ok (.aload_n 0, 1) := by decide +kernel
theorem dL_areRows_311 : decode cL_areRows 311 = .ok (.invokevirtual 233, 3) := by decide +kernel
theorem dL_areRows_314 : decode cL_areRows 314 = .ok (.iload 4, 2) := by decide +kernel
theorem dL_areRows_316 : decode cL_areRows 316 = .ok (.if_icmp .ne 64, 3) := by decide +kernel
theorem dL_areRows_319 : decode cL_areRows 319 = .ok (.aload_n 0, 1) := by decide +kernel
theorem dL_areRows_320 : decode cL_areRows 320 = .ok (.invokevirtual 236, 3) := by decide +kernel
theorem dL_areRows_323 : decode cL_areRows 323 = .ok (.iload 5, 2) := by decide +kernel
theorem dL_areRows_325 : decode cL_areRows 325 = .ok (.if_icmp .ne 55, 3) := by decide +kernel
theorem dL_areRows_328 : decode cL_areRows 328 = .ok (.aload_n 0, 1) := by decide +kernel
theorem dL_areRows_329 : decode cL_areRows 329 = .ok (.invokestatic 240, 3) := by decide +kernel
theorem dL_areRows_332 : decode cL_areRows 332 = .ok (.iload_n 1, 1) := by decide +kernel
theorem dL_areRows_333 : decode cL_areRows 333 = .ok (.ifCond .ne 9, 3) := by decide +kernel
theorem dL_areRows_336 : decode cL_areRows 336 = .ok (.ldc2_w 74, 3) := by decide +kernel
theorem dL_areRows_339 : decode cL_areRows 339 = .ok (.goto 8, 3) := by decide +kernel
theorem dL_areRows_342 : decode cL_areRows 342 = .ok (.iload_n 2, 1) := by decide +kernel
theorem dL_areRows_343 : decode cL_areRows 343 = .ok (.i2d, 1) := by decide +kernel
theorem dL_areRows_344 : decode cL_areRows 344 = .ok (.iload_n 1, 1) := by decide +kernel
theorem dL_areRows_345 : decode cL_areRows 345 = .ok (.i2d, 1) := by decide +kernel
theorem dL_areRows_346 : decode cL_areRows 346 = .ok (.ddiv, 1) := by decide +kernel
theorem dL_areRows_347 : decode cL_areRows 347 = .ok (.dcmp .l, 1) := by decide +kernel
theorem dL_areRows_348 : decode cL_areRows 348 = .ok (.ifCond .ne 32, 3) := by decide +kernel
theorem dL_areRows_351 : decode cL_areRows 351 = .ok (.aload_n 0, 1) := by decide +kernel
theorem dL_areRows_352 : decode cL_areRows 352 = .ok (.invokestatic 243, 3) := by decide +kernel
theorem dL_areRows_355 : decode cL_areRows 355 = .ok (.iload_n 1, 1) := by decide +kernel
theorem dL_areRows_356 : decode cL_areRows 356 = .ok (.ifCond .ne 8, 3) := by decide +kernel
theorem dL_areRows_359 : decode cL_areRows 359 = .ok (.ldc 82, 2) := by decide +kernel
theorem dL_areRows_361 : decode cL_areRows 361 = .ok (.goto 11, 3) := by decide +kernel
theorem dL_areRows_364 : decode cL_areRows 364 = .ok (.iload_n 3, 1) := by decide +kernel
theorem dL_areRows_365 : decode cL_areRows 365 = .ok (.i2f, 1) := by decide +kernel
theorem dL_areRows_366 : decode cL_areRows 366 = .ok (.bipush 16, 2) := by decide +kernel
theorem dL_areRows_368 : decode cL_areRows 368 = .ok (.iload_n 1, 1) := by decide +kernel
theorem dL_areRows_369 : decode cL_areRows 369 = .ok (.imul, 1) := by decide +kernel
theorem dL_areRows_370 : decode cL_areRows 370 = .ok (.i2f, 1) := by decide +kernel
theorem dL_areRows_371 : decode cL_areRows 371 = .ok (.fdiv, 1) := by decide +kernel
theorem dL_areRows_372 : decode cL_areRows 372 = .ok (.fcmp .l, 1) := by decide +kernel
theorem dL_areRows_373 : decode cL_areRows 373 = .ok (.ifCond .ne 7, 3) := by decide +kernel
theorem dL_areRows_376 : decode cL_areRows 376 = .ok (.iconst 1, 1) := by decide +kernel
theorem dL_areRows_377 : decode cL_areRows 377 = .ok (.goto 4, 3) := by decide +kernel
theorem dL_areRows_380 : decode cL_areRows 380 = .ok (.iconst 0, 1) := by decide +kernel
theorem dL_areRows_381 : decode cL_areRows 381 = .ok (.ireturn, 1) := by decide +kernel
theorem dL_isPeriod_0 : decode cL_isPeriod 0 = .ok (.iconst 1, 1) := by decide +kernel
theorem dL_isPeriod_1 : decode cL_isPeriod 1 = .ok (.istore_n 2, 1) := by decide +kernel
theorem dL_isPeriod_2 : decode cL_isPeriod 2 = .ok (.iload_n 1, 1) := by decide +kernel
theorem dL_isPeriod_3 : decode cL_isPeriod 3 = .ok (.istore_n 3, 1) := by decide +kernel
theorem dL_isPeriod_4 : decode cL_isPeriod 4 = .ok (.iload_n 2, 1) := by decide +kernel
theorem dL_isPeriod_5 : decode cL_isPeriod 5 = .ok (.ifCond .eq 26, 3) := by decide +kernel
theorem dL_isPeriod_8 : decode cL_isPeriod 8 = .ok (.iload_n 3, 1) := by decide +kernel
theorem dL_isPeriod_9 : decode cL_isPeriod 9 = .ok (.aload_n 0, 1) := by decide +kernel
theorem dL_isPeriod_10 : decode cL_isPeriod 10 = .ok (.invokevirtual 201, 3) := by decide +kernel
theorem dL_isPeriod_13 : decode cL_isPeriod 13 = .ok (.if_icmp .ge 18, 3) := by decide +kernel
theorem dL_isPeriod_16 : decode cL_isPeriod 16 = .ok (.aload_n 0, 1) := by decide +kernel
theorem dL_isPeriod_17 : decode cL_isPeriod 17 = .ok (.iload_n 3, 1) := by decide +kernel
theorem dL_isPeriod_18 : decode cL_isPeriod 18 = .ok (.iload_n 3, 1) := by decide +kernel
theorem dL_isPeriod_19 : decode cL_isPeriod 19 = .ok (.iload_n 1, 1) := by decide +kernel
theorem dL_isPeriod_20 : decode cL_isPeriod 20 = .ok (.isub, 1) := by decide +kernel
theorem dL_isPeriod_21 : decode cL_isPeriod 21 = .ok (.invokestatic 226, 3) := by decide +kernel
theorem dL_isPeriod_24 : decode cL_isPeriod 24 = .ok (.istore_n 2, 1) := by decide +kernel
theorem dL_isPeriod_25 : decode cL_isPeriod 25 = .ok (.iinc 3 1, 3) := by decide +kernel
theorem dL_isPeriod_28 : decode cL_isPeriod 28 = .ok (.goto (-24), 3) := by decide +kernel
theorem dL_isPeriod_31 : decode cL_isPeriod 31 = .ok (.iload_n 2, 1) := by decide +kernel
theorem dL_isPeriod_32 : decode cL_isPeriod 32 = .ok (.ireturn, 1) := by decide +kernel
theorem dL_arePeriods_0 : decode cL_arePeriods 0 = .ok (.aload_n 0, 1) := by decide +kernel
theorem dL_arePeriods_1 : decode cL_arePeriods 1 = .ok (.invokevirtual 201, 3) := by decide +kernel
theorem dL_arePeriods_4 : decode cL_arePeriods 4 = .ok (.istore_n 1, 1) := by decide +kernel
theorem dL_arePeriods_5 : decode cL_arePeriods 5 = .ok (.aload_n 0, 1) := by decide +kernel
theorem dL_arePeriods_6 : decode cL_arePeriods 6 = .ok (.invokestatic 246, 3) := by decide +kernel
theorem dL_arePeriods_9 : decode cL_arePeriods 9 = .ok (.istore_n 2, 1) := by decide +kernel
theorem dL_arePeriods_10 : decode cL_arePeriods 10 = .ok (.aload_n 0, 1) := by decide +kernel
theorem dL_arePeriods_11 : decode cL_arePeriods 11 = .ok (.invokestatic 248, 3) := by decide +kernel
theorem dL_arePeriods_14 : decode cL_arePeriods 14 = .ok (.iload_n 2, 1) := by decide +kernel
theorem dL_arePeriods_15 : decode cL_arePeriods 15 = .ok (.if_icmp .ne 55, 3) := by decide +kernel
theorem dL_arePeriods_18 : decode cL_arePeriods 18 = .ok (.iload_n 2, 1) := by decide +kernel
theorem dL_arePeriods_19 : decode cL_arePeriods 19 = .ok (.sipush (-1000), 3) := by decide +kernel
theorem dL_arePeriods_22 : decode cL_arePeriods 22 = .ok (.if_icmp .ne 7, 3) := by decide +kernel
theorem dL_arePeriods_25 : decode cL_arePeriods 25 = .ok (.iconst 1, 1) := by decide +kernel
theorem dL_arePeriods_26 : decode cL_arePeriods 26 = .ok (.goto 4, 3) := by decide +kernel
theorem dL_arePeriods_29 : decode cL_arePeriods 29 = .ok (.iconst 0, 1) := by decide +kernel
theorem dL_arePeriods_30 : decode cL_arePeriods 30 = .ok (.iload_n 1, 1) := by decide +kernel
theorem dL_arePeriods_31 : decode cL_arePeriods 31 = .ok (.ifCond .ne 7, 3) := by decide +kernel
theorem dL_arePeriods_34 : decode cL_arePeriods 34 = .ok (.iconst 1, 1) := by decide +kernel
theorem dL_arePeriods_35 : decode cL_arePeriods 35 = .ok (.goto 4, 3) := by decide +kernel
theorem dL_arePeriods_38 : decode cL_arePeriods 38 = .ok (.iconst 0, 1) := by decide +kernel
theorem dL_arePeriods_39 : decode cL_arePeriods 39 = .ok (.if_icmp .ne 31, 3) := by decide +kernel
theorem dL_arePeriods_42 : decode cL_arePeriods 42 = .ok (.aload_n 0, 1) := by decide +kernel
theorem dL_arePeriods_43 : decode cL_arePeriods 43 = .ok (.iconst 0, 1) := by decide +kernel
theorem dL_arePeriods_44 : decode cL_arePeriods 44 = .ok (.invokestatic 250, 3) := by decide +kernel
theorem dL_arePeriods_47 : decode cL_arePeriods 47 = .ok (.sipush (-1000), 3) := by decide +kernel
theorem dL_arePeriods_50 : decode cL_arePeriods 50 = .ok (.if_icmp .ne 20, 3) := by decide +kernel
theorem dL_arePeriods_53 : decode cL_arePeriods 53 = .ok (.aload_n 0, 1) := by decide +kernel
theorem dL_arePeriods_54 : decode cL_arePeriods 54 = .ok (.iload_n 1, 1) := by decide +kernel
theorem dL_arePeriods_55 : decode cL_arePeriods 55 = .ok (.iconst 1, 1) := by decide +kernel
theorem dL_arePeriods_56 : decode cL_arePeriods 56 = .ok (.iadd, 1) := by decide +kernel
theorem dL_arePeriods_57 : decode cL_arePeriods 57 = .ok (.invokestatic 250, 3) := by decide +kernel
theorem dL_arePeriods_60 : decode cL_arePeriods 60 = .ok (.sipush (-1000), 3) := by decide +kernel
theorem dL_arePeriods_63 : decode cL_arePeriods 63 = .ok (.if_icmp .ne 7, 3) := by decide +kernel
theorem dL_arePeriods_66 : decode cL_arePeriods 66 = .ok (.iconst 1, 1) := by decide +kernel
theorem dL_arePeriods_67 : decode cL_arePeriods 67 = .ok (.goto 4, 3) := by decide +kernel
theorem dL_arePeriods_70 : decode cL_arePeriods 70 = .ok (.iconst 0, 1) := by decide +kernel
theorem dL_arePeriods_71 : decode cL_arePeriods 71 = .ok (.istore_n 3, 1) := by decide +kernel
theorem dL_arePeriods_72 : decode cL_arePeriods 72 = .ok (.iload_n 1, 1) := by decide +kernel
theorem dL_arePeriods_73 : decode cL_arePeriods 73 = .ok (.ifCond .ne 5, 3) := by decide +kernel
theorem dL_arePeriods_76 : decode cL_arePeriods 76 = .ok (.iload_n 3, 1) := by decide +kernel
theorem dL_arePeriods_77 : decode cL_arePeriods 77 = .ok (.ireturn, 1) := by decide +kernel
theorem dL_arePeriods_78 : decode cL_arePeriods 78 = .ok (.iload_n 3, 1) := by decide +kernel
theorem dL_arePeriods_79 : decode cL_arePeriods 79 = .ok (.ifCond .eq 37, 3) := by decide +kernel
theorem dL_arePeriods_82 : decode cL_arePeriods 82 = .ok (.aload_n 0, 1) := by decide +kernel
theorem dL_arePeriods_83 : decode cL_arePeriods 83 = .ok (.iload_n 2, 1) := by decide +kernel
theorem dL_arePeriods_84 : decode cL_arePeriods 84 = .ok (.invokestatic 252, 3) := by decide +kernel
theorem dL_arePeriods_87 : decode cL_arePeriods 87 = .ok (.ifCond .eq 29, 3) := by decide +kernel
theorem dL_arePeriods_90 : decode cL_arePeriods 90 = .ok (.iload_n 2, 1) := by decide +kernel
theorem dL_arePeriods_91 : decode cL_arePeriods 91 = .ok (.iload_n 1, 1) := by decide +kernel
theorem dL_arePeriods_92 : decode cL_arePeriods 92 = .ok (.if_icmp .gt 24, 3) := by decide +kernel
theorem dL_arePeriods_95 : decode cL_arePeriods 95 = .ok (.aload_n 0, 1) := by decide +kernel
theorem dL_arePeriods_96 : decode cL_arePeriods 96 = .ok (.iload_n 1, 1) := by decide +kernel
theorem dL_arePeriods_97 : decode cL_arePeriods 97 = .ok (.invokevirtual 71, 3) := by decide +kernel
theorem dL_arePeriods_100 : decode cL_arePeriods 100 = .ok (.iconst 1, 1) := by decide +kernel
theorem dL_arePeriods_101 : decode cL_arePeriods 101 = .ok (.if_icmp .ne 15, 3) := by decide +kernel
theorem dL_arePeriods_104 : decode cL_arePeriods 104 = .ok (.aload_n 0, 1) := by decide +kernel
theorem dL_arePeriods_105 : decode cL_arePeriods 105 = .ok (.invokevirtual 233, 3) := by decide +kernel
theorem dL_arePeriods_108 : decode cL_arePeriods 108 = .ok (.iload_n 2, 1) := by decide +kernel
theorem dL_arePeriods_109 : decode cL_arePeriods 109 = .ok (.if_icmp .gt 7, 3) := by decide +kernel
theorem dL_arePeriods_112 : decode cL_arePeriods 112 = .ok (.iconst 1, 1) := by decide +kernel
theorem dL_arePeriods_113 : decode cL_arePeriods 113 = .ok (.goto 4, 3) := by decide +kernel
theorem dL_arePeriods_116 : decode cL_arePeriods 116 = .ok (.iconst 0, 1) := by decide +kernel
theorem dL_arePeriods_117 : decode cL_arePeriods 117 = .ok (.istore_n 3, 1) := by decide +kernel
theorem dL_arePeriods_118 : decode cL_arePeriods 118 = .ok (.iconst 1, 1) := by decide +kernel
theorem dL_arePeriods_119 : decode cL_arePeriods 119 = .ok (.istore 4, 2) := by decide +kernel
theorem dL_arePeriods_121 : decode cL_arePeriods 121 = .ok (.iload_n 3, 1) := by decide +kernel
theorem dL_arePeriods_122 : decode cL_arePeriods 122 = .ok (.ifCond .eq 30, 3) := by decide +kernel
theorem dL_arePeriods_125 : decode cL_arePeriods 125 = .ok (.iload 4, 2) := by decide +kernel
theorem dL_arePeriods_127 : decode cL_arePeriods 127 = .ok (.iload_n 2, 1) := by decide +kernel
theorem dL_arePeriods_128 : decode cL_arePeriods 128 = .ok (.if_icmp .ge 24, 3) := by decide +kernel
theorem dL_arePeriods_131 : decode cL_arePeriods 131 = .ok (.aload_n 0, 1) := by decide +kernel
theorem dL_arePeriods_132 : decode cL_arePeriods 132 = .ok (.iload 4, 2) := by decide +kernel
theorem dL_arePeriods_134 : decode cL_arePeriods 134 = .ok (.invokestatic 252, 3) := by decide +kernel
theorem dL_arePeriods_137 : decode cL_arePeriods 137 = .ok (.ifCond .ne 7, 3) := by decide +kernel
theorem dL_arePeriods_140 : decode cL_arePeriods 140 = .ok (.iconst 1, 1) := by decide +kernel
theorem dL_arePeriods_141 : decode cL_arePeriods 141 = .ok (.goto 4, 3) := by decide +kernel
theorem dL_arePeriods_144 : decode cL_arePeriods 144 = .ok (.iconst 0, 1) := by decide +kernel
theorem dL_arePeriods_145 : decode cL_arePeriods 145 = .ok (.istore_n 3, 1) := by decide +kernel
theorem dL_arePeriods_146 : decode cL_arePeriods 146 = .ok (.iinc 4 1, 3) := by decide +kernel
theorem dL_arePeriods_149 : decode cL_arePeriods 149 = .ok (.goto (-28), 3) := by decide +kernel
theorem dL_arePeriods_152 : decode cL_arePeriods 152 = .ok (.iconst 2, 1) := by decide +kernel
theorem dL_arePeriods_153 : decode cL_arePeriods 153 = .ok (.istore 4, 2) := by decide +kernel
theorem dL_arePeriods_155 : decode cL_arePeriods 155 = .ok (.iload_n 3, 1) := by decide +kernel
theorem dL_arePeriods_156 : decode cL_arePeriods 156 = .ok (.ifCond .eq 38, 3) := by decide +kernel
theorem dL_arePeriods_159 : decode cL_arePeriods 159 = .ok (.iload 4, 2) := by decide +kernel
theorem dL_arePeriods_161 : decode cL_arePeriods 161 = .ok (.iload_n 1, 1) := by decide +kernel
theorem dL_arePeriods_162 : decode cL_arePeriods 162 = .ok (.if_icmp .gt 32, 3) := by decide +kernel
theorem dL_arePeriods_165 : decode cL_arePeriods 165 = .ok (.aload_n 0, 1) := by decide +kernel
theorem dL_arePeriods_166 : decode cL_arePeriods 166 = .ok (.iload 4, 2) := by decide +kernel
theorem dL_arePeriods_168 : decode cL_arePeriods 168 = .ok (.invokevirtual 71, 3) := by decide +kernel
theorem dL_arePeriods_171 : decode cL_arePeriods 171 = .ok (.aload_n 0, 1) := by decide +kernel
theorem dL_arePeriods_172 : decode cL_arePeriods 172 = .ok (.iload 4, 2) := by decide +kernel
theorem dL_arePeriods_174 : decode cL_arePeriods 174 = .ok (.iconst 1, 1) := by decide +kernel
theorem dL_arePeriods_175 : decode cL_arePeriods 175 = .ok (.isub, 1) := by decide +kernel
theorem dL_arePeriods_176 : decode cL_arePeriods 176 = .ok (.invokevirtual 71, 3) := by decide +kernel
theorem dL_arePeriods_179 : decode cL_arePeriods 179 = .ok (.if_icmp .gt 7, 3) := by decide +kernel
theorem dL_arePeriods_182 : decode cL_arePeriods 182 = .ok (.iconst 1, 1) := by decide +kernel
theorem dL_arePeriods_183 : decode cL_arePeriods 183 = .ok (.goto 4, 3) := by decide +kernel
theorem dL_arePeriods_186 : decode cL_arePeriods 186 = .ok (.iconst 0, 1) := by decide +kernel
theorem dL_arePeriods_187 : decode cL_arePeriods 187 = .ok (.istore_n 3, 1) := by decide +kernel
theorem dL_arePeriods_188 : decode cL_arePeriods 188 = .ok (.iinc 4 1, 3) := by decide +kernel
theorem dL_arePeriods_191 : decode cL_arePeriods 191 = .ok (.goto (-36), 3) := by decide +kernel
theorem dL_arePeriods_194 : decode cL_arePeriods 194 = .ok (.iconst 0, 1) := by decide +kernel
theorem dL_arePeriods_195 : decode cL_arePeriods 195 = .ok (.istore 4, 2) := by decide +kernel
theorem dL_arePeriods_197 : decode cL_arePeriods 197 = .ok (.iload_n 3, 1) := by decide +kernel
theorem dL_arePeriods_198 : decode cL_arePeriods 198 = .ok (.ifCond .eq 84, 3) := by decide +kernel
theorem dL_arePeriods_201 : decode cL_arePeriods 201 = .ok (.iload 4, 2) := by decide +kernel
theorem dL_arePeriods_203 : decode cL_arePeriods 203 = .ok (.bipush 16, 2) := by decide +kernel
theorem dL_arePeriods_205 : decode cL_arePeriods 205 = .ok (.if_icmp .ge 77, 3) := by decide +kernel
theorem dL_arePeriods_208 : decode cL_arePeriods 208 = .ok (.iconst 0, 1) := by decide +kernel
theorem dL_arePeriods_209 : decode cL_arePeriods 209 = .ok (.istore 5, 2) := by decide +kernel
theorem dL_arePeriods_211 : decode cL_arePeriods 211 = .ok (.iconst 0, 1) := by decide +kernel
theorem dL_arePeriods_212 : decode cL_arePeriods 212 = .ok (.istore 6, 2) := by decide +kernel
theorem dL_arePeriods_214 : decode cL_arePeriods 214 = .ok (.iconst 0, 1) := by decide +kernel
theorem dL_arePeriods_215 : decode cL_arePeriods 215 = .ok (.istore 7, 2) := by decide +kernel
theorem dL_arePeriods_217 : decode cL_arePeriods 217 = .ok (.iload 7, 2) := by decide +kernel
theorem dL_arePeriods_219 : decode cL_arePeriods 219 = .ok (.iload_n 1, 1) := by decide +kernel
theorem dL_arePeriods_220 : decode cL_arePeriods 220 = .ok (.if_icmp .ge 39, 3) := by decide +kernel
theorem dL_arePeriods_223 : decode cL_arePeriods 223 = .ok (.aload_n 0, 1) := by decide +kernel
theorem dL_arePeriods_224 : decode cL_arePeriods 224 = .ok (.iload 7, 2) := by decide +kernel
theorem dL_arePeriods_226 : decode cL_arePeriods 226 = .ok (.iload 4, 2) := by decide +kernel
theorem dL_arePeriods_228 : decode cL_arePeriods 228 = .ok (.invokevirtual 223, 3) := by decide +kernel
theorem dL_arePeriods_231 : decode cL_arePeriods 231 = .ok (.ifCond .eq 10, 3) := by decide +kernel
theorem dL_arePeriods_234 : decode cL_arePeriods 234 = .ok (.iload 5, 2) := by decide +kernel
theorem dL_arePeriods_236 : decode cL_arePeriods 236 = .ok (.iconst 1, 1) := by decide +kernel
theorem dL_arePeriods_237 : decode cL_arePeriods 237 = .ok (.iadd, 1) := by decide +kernel
theorem dL_arePeriods_238 : decode cL_arePeriods 238 = .ok (.goto 4, 3) := by decide +kernel
theorem dL_arePeriods_241 : decode cL_arePeriods 241 = .ok (.iconst 0, 1) := by decide +kernel
theorem dL_arePeriods_242 : decode cL_arePeriods 242 = .ok (.istore 5, 2) := by decide +kernel
theorem dL_arePeriods_244 : decode cL_arePeriods 244 = .ok (.iload 6, 2) := by decide +kernel
theorem dL_arePeriods_246 : decode cL_arePeriods 246 = .ok (.iload 5, 2) := by decide +kernel
theorem dL_arePeriods_248 : decode cL_arePeriods 248 = .ok (.invokestatic 256, 3) := by decide +kernel
theorem dL_arePeriods_251 : decode cL_arePeriods 251 = .ok (.istore 6, 2) := by decide +kernel
theorem dL_arePeriods_253 : decode cL_arePeriods 253 = .ok (.iinc 7 1, 3) := by decide +kernel
theorem dL_arePeriods_256 : decode cL_arePeriods 256 = .ok (.goto (-39), 3) := by decide +kernel
theorem dL_arePeriods_259 : decode cL_arePeriods 259 = .ok (.aload_n 0, 1) := by decide +kernel
theorem dL_arePeriods_260 : decode cL_arePeriods 260 = .ok (.iload 4, 2) := by decide +kernel
theorem dL_arePeriods_262 : decode cL_arePeriods 262 = .ok (.invokevirtual 261, 3) := by decide +kernel
theorem dL_arePeriods_265 : decode cL_arePeriods 265 = .ok (.iload 6, 2) := by decide +kernel
theorem dL_arePeriods_267 : decode cL_arePeriods 267 = .ok (.if_icmp .ne 7, 3) := by decide +kernel
theorem dL_arePeriods_270 : decode cL_arePeriods 270 = .ok (.iconst 1, 1) := by decide +kernel
theorem dL_arePeriods_271 : decode cL_arePeriods 271 = .ok (.goto 4, 3) := by decide +kernel
theorem dL_arePeriods_274 : decode cL_arePeriods 274 = .ok (.iconst 0, 1) := by decide +kernel
theorem dL_arePeriods_275 : decode cL_arePeriods 275 = .ok (.istore_n 3, 1) := by decide +kernel
theorem dL_arePeriods_276 : decode cL_arePeriods 276 = .ok (.iinc 4 5, 3) := by decide +kernel
theorem dL_arePeriods_279 : decode cL_arePeriods 279 = .ok (.goto (-82), 3) := by decide +kernel
theorem dL_arePeriods_282 : decode cL_arePeriods 282 = .ok (.iload_n 3, 1) := by decide +kernel
theorem dL_arePeriods_283 : decode cL_arePeriods 283 = .ok (.ifCond .eq 34, 3) := by decide +kernel
theorem dL_arePeriods_286 : decode cL_arePeriods 286 = .ok (.aload_n 0, 1) := by decide +kernel
theorem dL_arePeriods_287 : decode cL_arePeriods 287 = .ok (.iconst 0, 1) := by decide +kernel
theorem dL_arePeriods_288 : decode cL_arePeriods 288 = .ok (.iload_n 1, 1) := by decide +kernel
theorem dL_arePeriods_289 : decode cL_arePeriods 289 = .ok (.iconst 1, 1) := by decide +kernel
theorem dL_arePeriods_290 : decode cL_arePeriods 290 = .ok (.isub, 1) := by decide +kernel
theorem dL_arePeriods_291 : decode cL_arePeriods 291 = .ok (.invokevirtual 264, 3) := by decide +kernel
theorem dL_arePeriods_294 : decode cL_arePeriods 294 = .ok (.aload_n 0, 1) := by decide +kernel
theorem dL_arePeriods_295 : decode cL_arePeriods 295 = .ok (.iconst 0, 1) := by decide +kernel
theorem dL_arePeriods_296 : decode cL_arePeriods 296 = .ok (.invokevirtual 207, 3) := by decide +kernel
theorem dL_arePeriods_299 : decode cL_arePeriods 299 = .ok (.aload_n 0, 1) := by decide +kernel
theorem dL_arePeriods_300 : decode cL_arePeriods 300 = .ok (.iload_n 1, 1) := by decide +kernel
theorem dL_arePeriods_301 : decode cL_arePeriods 301 = .ok (.iconst 1, 1) := by decide +kernel
theorem dL_arePeriods_302 : decode cL_arePeriods 302 = .ok (.isub, 1) := by decide +kernel
theorem dL_arePeriods_303 : decode cL_arePeriods 303 = .ok (.invokevirtual 207, 3) := by decide +kernel
theorem dL_arePeriods_306 : decode cL_arePeriods 306 = .ok (.ixor, 1) := by decide +kernel
theorem dL_arePeriods_307 : decode cL_arePeriods 307 = .ok (.invokestatic 267, 3) := by decide +kernel
theorem dL_arePeriods_310 : decode cL_arePeriods 310 = .ok (.if_icmp .ne 7, 3) := by decide +kernel
theorem dL_arePeriods_313 : decode cL_arePeriods 313 = .ok (.iconst 1, 1) := by decide +kernel
theorem dL_arePeriods_314 : decode cL_arePeriods 314 = .ok (.goto 4, 3) := by decide +kernel
theorem dL_arePeriods_317 : decode cL_arePeriods 317 = .ok (.iconst 0, 1) := by decide +kernel
theorem dL_arePeriods_318 : decode cL_arePeriods 318 = .ok (.ireturn, 1) := by decide +kernel
theorem dL_areWicks_0 : decode cL_areWicks 0 = .ok (.iconst 0, 1) := by decide +kernel
theorem dL_areWicks_1 : decode cL_areWicks 1 = .ok (.istore_n 1, 1) := by decide +kernel
theorem dL_areWicks_2 : decode cL_areWicks 2 = .ok (.iconst 0, 1) := by decide +kernel
theorem dL_areWicks_3 : decode cL_areWicks 3 = .ok (.istore_n 2, 1) := by decide +kernel
theorem dL_areWicks_4 : decode cL_areWicks 4 = .ok (.aload_n 0, 1) := by decide +kernel
theorem dL_areWicks_5 : decode cL_areWicks 5 = .ok (.invokevirtual 189, 3) := by decide +kernel
theorem dL_areWicks_8 : decode cL_areWicks 8 = .ok (.istore_n 3, 1) := by decide +kernel
theorem dL_areWicks_9 : decode cL_areWicks 9 = .ok (.aload_n 0, 1) := by decide +kernel
theorem dL_areWicks_10 : decode cL_areWicks 10 = .ok (.iload_n 3, 1) := by decide +kernel
theorem dL_areWicks_11 : decode cL_areWicks 11 = .ok (.invokestatic 272, 3) := by decide +kernel
theorem dL_areWicks_14 : decode cL_areWicks 14 = .ok (.sipush (-1000), 3) := by decide +kernel
theorem dL_areWicks_17 : decode cL_areWicks 17 = .ok (.if_icmp .ne 18, 3) := by decide +kernel
theorem dL_areWicks_20 : decode cL_areWicks 20 = .ok (.aload_n 0, 1) := by decide +kernel
theorem dL_areWicks_21 : decode cL_areWicks 21 = .ok (.iconst (-1), 1) := by decide +kernel
theorem dL_areWicks_22 : decode cL_areWicks 22 = .ok (.invokestatic 272, 3) := by decide +kernel
theorem dL_areWicks_25 : decode cL_areWicks 25 = .ok (.sipush (-1000), 3) := by decide +kernel
theorem dL_areWicks_28 : decode cL_areWicks 28 = .ok (.if_icmp .ne 7, 3) := by decide +kernel
theorem dL_areWicks_31 : decode cL_areWicks 31 = .ok (.iconst 1, 1) := by decide +kernel
theorem dL_areWicks_32 : decode cL_areWicks 32 = .ok (.goto 4, 3) := by decide +kernel
theorem dL_areWicks_35 : decode cL_areWicks 35 = .ok (.iconst 0, 1) := by decide +kernel
theorem dL_areWicks_36 : decode cL_areWicks 36 = .ok (.istore 4, 2) := by decide +kernel
theorem dL_areWicks_38 : decode cL_areWicks 38 = .ok (.iconst 0, 1) := by decide +kernel
theorem dL_areWicks_39 : decode cL_areWicks 39 = .ok (.istore 5, 2) := by decide +kernel
theorem dL_areWicks_41 : decode cL_areWicks 41 = .ok (.iload 4, 2) := by decide +kernel
theorem dL_areWicks_43 : decode cL_areWicks 43 = .ok (.ifCond .eq 81, 3) := by decide +kernel
theorem dL_areWicks_46 : decode cL_areWicks 46 = .ok (.iload 5, 2) := by decide +kernel
theorem dL_areWicks_48 : decode cL_areWicks 48 = .ok (.iload_n 3, 1) := by decide +kernel
theorem dL_areWicks_49 : decode cL_areWicks 49 = .ok (.if_icmp .ge 75, 3) := by decide +kernel
theorem dL_areWicks_52 : decode cL_areWicks 52 = .ok (.iload_n 1, 1) := by decide +kernel
theorem dL_areWicks_53 : decode cL_areWicks 53 = .ok (.aload_n 0, 1) := by decide +kernel
theorem dL_areWicks_54 : decode cL_areWicks 54 = .ok (.iload 5, 2) := by decide +kernel
theorem dL_areWicks_56 : decode cL_areWicks 56 = .ok (.invokevirtual 197, 3) := by decide +kernel
theorem dL_areWicks_59 : decode cL_areWicks 59 = .ok (.ifCond .eq 7, 3) := by decide +kernel
theorem dL_areWicks_62 : decode cL_areWicks 62 = .ok (.iconst 1, 1) := by decide +kernel
theorem dL_areWicks_63 : decode cL_areWicks 63 = .ok (.goto 4, 3) := by decide +kernel
theorem dL_areWicks_66 : decode cL_areWicks 66 = .ok (.iconst 0, 1) := by decide +kernel
theorem dL_areWicks_67 : decode cL_areWicks 67 = .ok (.iadd, 1) := by decide +kernel
theorem dL_areWicks_68 : decode cL_areWicks 68 = .ok (.istore_n 1, 1) := by decide +kernel
theorem dL_areWicks_69 : decode cL_areWicks 69 = .ok (.aload_n 0, 1) := by decide +kernel
theorem dL_areWicks_70 : decode cL_areWicks 70 = .ok (.iload 5, 2) := by decide +kernel
theorem dL_areWicks_72 : decode cL_areWicks 72 = .ok (.invokevirtual 197, 3) := by decide +kernel
theorem dL_areWicks_75 : decode cL_areWicks 75 = .ok (.ifCond .eq 16, 3) := by decide +kernel
theorem dL_areWicks_78 : decode cL_areWicks 78 = .ok (.iload_n 2, 1) := by decide +kernel
theorem dL_areWicks_79 : decode cL_areWicks 79 = .ok (.aload_n 0, 1) := by decide +kernel
theorem dL_areWicks_80 : decode cL_areWicks 80 = .ok (.iload 5, 2) := by decide +kernel
theorem dL_areWicks_82 : decode cL_areWicks 82 = .ok (.invokevirtual 194, 3) := by decide +kernel
theorem dL_areWicks_85 : decode cL_areWicks 85 = .ok (.invokestatic 256, 3) := by decide +kernel
theorem dL_areWicks_88 : decode cL_areWicks 88 = .ok (.goto 4, 3) := by decide +kernel
theorem dL_areWicks_91 : decode cL_areWicks 91 = .ok (.iload_n 2, 1) := by decide +kernel
theorem dL_areWicks_92 : decode cL_areWicks 92 = .ok (.istore_n 2, 1) := by decide +kernel
theorem dL_areWicks_93 : decode cL_areWicks 93 = .ok (.aload_n 0, 1) := by decide +kernel
theorem dL_areWicks_94 : decode cL_areWicks 94 = .ok (.iload 5, 2) := by decide +kernel
theorem dL_areWicks_96 : decode cL_areWicks 96 = .ok (.invokevirtual 197, 3) := by decide +kernel
theorem dL_areWicks_99 : decode cL_areWicks 99 = .ok (.ifCond .eq 12, 3) := by decide +kernel
theorem dL_areWicks_102 : decode cL_areWicks 102 = .ok (.aload_n 0, 1) := by decide +kernel
theorem dL_areWicks_103 : decode cL_areWicks 103 = .ok (.iload 5, 2) := by decide +kernel
theorem dL_areWicks_105 : decode cL_areWicks 105 = .ok (.invokevirtual 194, 3) := by decide +kernel
theorem dL_areWicks_108 : decode cL_areWicks 108 = .ok (.ifCond .le 7, 3) := by decide +kernel
theorem dL_areWicks_111 : decode cL_areWicks 111 = .ok (.iconst 1, 1) := by decide +kernel
theorem dL_areWicks_112 : decode cL_areWicks 112 = .ok (.goto 4, 3) := by decide +kernel
theorem dL_areWicks_115 : decode cL_areWicks 115 = .ok (.iconst 0, 1) := by decide +kernel
theorem dL_areWicks_116 : decode cL_areWicks 116 = .ok (.istore 4, 2) := by decide +kernel
theorem dL_areWicks_118 : decode cL_areWicks 118 = .ok (.iinc 5 1, 3) := by decide +kernel
theorem dL_areWicks_121 : decode cL_areWicks 121 = .ok (.goto (-80), 3) := by decide +kernel
theorem dL_areWicks_124 : decode cL_areWicks 124 = .ok (.iconst 1, 1) := by decide +kernel
theorem dL_areWicks_125 : decode cL_areWicks 125 = .ok (.istore 5, 2) := by decide +kernel
theorem dL_areWicks_127 : decode cL_areWicks 127 = .ok (.iload 4, 2) := by decide +kernel
theorem dL_areWicks_129 : decode cL_areWicks 129 = .ok (.ifCond .eq 113, 3) := by decide +kernel
theorem dL_areWicks_132 : decode cL_areWicks 132 = .ok (.iload 5, 2) := by decide +kernel
theorem dL_areWicks_134 : decode cL_areWicks 134 = .ok (.iload_n 3, 1) := by decide +kernel
theorem dL_areWicks_135 : decode cL_areWicks 135 = .ok (.if_icmp .ge 107, 3) := by decide +kernel
theorem dL_areWicks_138 : decode cL_areWicks 138 = .ok (.aload_n 0, 1) := by decide +kernel
theorem dL_areWicks_139 : decode cL_areWicks 139 = .ok (.iload 5, 2) := by decide +kernel
theorem dL_areWicks_141 : decode cL_areWicks 141 = .ok (.iconst 1, 1) := by decide +kernel
theorem dL_areWicks_142 : decode cL_areWicks 142 = .ok (.isub, 1) := by decide +kernel
theorem dL_areWicks_143 : decode cL_areWicks 143 = .ok (.invokestatic 272, 3) := by decide +kernel
theorem dL_areWicks_146 : decode cL_areWicks 146 = .ok (.istore 6, 2) := by decide +kernel
theorem dL_areWicks_148 : decode cL_areWicks 148 = .ok (.aload_n 0, 1) := by decide +kernel
theorem dL_areWicks_149 : decode cL_areWicks 149 = .ok (.iload 5, 2) := by decide +kernel
theorem dL_areWicks_151 : decode cL_areWicks 151 = .ok (.invokestatic 272, 3) := by decide +kernel
theorem dL_areWicks_154 : decode cL_areWicks 154 = .ok (.istore 7, 2) := by decide +kernel
theorem dL_areWicks_156 : decode cL_areWicks 156 = .ok (.aload_n 0, 1) := by decide +kernel
theorem dL_areWicks_157 : decode cL_areWicks 157 = .ok (.iload 6, 2) := by decide +kernel
theorem dL_areWicks_159 : decode cL_areWicks 159 = .ok (.invokevirtual 197, 3) := by decide +kernel
theorem dL_areWicks_162 : decode cL_areWicks 162 = .ok (.ifCond .eq 7, 3) := by decide +kernel
theorem dL_areWicks_165 : decode cL_areWicks 165 = .ok (.iconst 1, 1) := by decide +kernel
theorem dL_areWicks_166 : decode cL_areWicks 166 = .ok (.goto 4, 3) := by decide +kernel
theorem dL_areWicks_169 : decode cL_areWicks 169 = .ok (.iconst 0, 1) := by decide +kernel
theorem dL_areWicks_170 : decode cL_areWicks 170 = .ok (.aload_n 0, 1) := by decide +kernel
theorem dL_areWicks_171 : decode cL_areWicks 171 = .ok (.iload 7, 2) := by decide +kernel
theorem dL_areWicks_173 : decode cL_areWicks 173 = .ok (.invokevirtual 197, 3) := by decide +kernel
theorem dL_areWicks_176 : decode cL_areWicks 176 = .ok (.ifCond .eq 7, 3) := by decide +kernel
theorem dL_areWicks_179 : decode cL_areWicks 179 = .ok (.iconst 1, 1) := by decide +kernel
theorem dL_areWicks_180 : decode cL_areWicks 180 = .ok (.goto 4, 3) := by decide +kernel
theorem dL_areWicks_183 : decode cL_areWicks 183 = .ok (.iconst 0, 1) := by decide +kernel
theorem dL_areWicks_184 : decode cL_areWicks 184 = .ok (.isub, 1) := by decide +kernel
theorem dL_areWicks_185 : decode cL_areWicks 185 = .ok (.istore 8, 2) := by decide +kernel
theorem dL_areWicks_187 : decode cL_areWicks 187 = .ok (.aload_n 0, 1) := by decide +kernel
theorem dL_areWicks_188 : decode cL_areWicks 188 = .ok (.iload 6, 2) := by decide +kernel
theorem dL_areWicks_190 : decode cL_areWicks 190 = .ok (.invokevirtual 194, 3) := by decide +kernel
theorem dL_areWicks_193 : decode cL_areWicks 193 = .ok (.aload_n 0, 1) := by decide +kernel
theorem dL_areWicks_194 : decode cL_areWicks 194 = .ok (.iload 7, 2) := by decide +kernel
theorem dL_areWicks_196 : decode cL_areWicks 196 = .ok (.invokevirtual 194, 3) := by decide +kernel
theorem dL_areWicks_199 : decode cL_areWicks 199 = .ok (.isub, 1) := by decide +kernel
theorem dL_areWicks_200 : decode cL_areWicks 200 = .ok (.istore 9, 2) := by decide +kernel
theorem dL_areWicks_202 : decode cL_areWicks 202 = .ok (.iload 8, 2) := by decide +kernel
theorem dL_areWicks_204 : decode cL_areWicks 204 = .ok (.ifCond .gt 25, 3) := by decide +kernel
theorem dL_areWicks_207 : decode cL_areWicks 207 = .ok (.iload 8, 2) := by decide +kernel
theorem dL_areWicks_209 : decode cL_areWicks 209 = .ok (.ifCond .ne 24, 3) := by decide +kernel
theorem dL_areWicks_212 : decode cL_areWicks 212 = .ok (.iload 9, 2) := by decide +kernel
theorem dL_areWicks_214 : decode cL_areWicks 214 = .ok (.ifCond .gt 15, 3) := by decide +kernel
theorem dL_areWicks_217 : decode cL_areWicks 217 = .ok (.iload 9, 2) := by decide +kernel
theorem dL_areWicks_219 : decode cL_areWicks 219 = .ok (.ifCond .ne 14, 3) := by decide +kernel
theorem dL_areWicks_222 : decode cL_areWicks 222 = .ok (.iload 6, 2) := by decide +kernel
theorem dL_areWicks_224 : decode cL_areWicks 224 = .ok (.iload 7, 2) := by decide +kernel
theorem dL_areWicks_226 : decode cL_areWicks 226 = .ok (.if_icmp .ge 7, 3) := by decide +kernel
theorem dL_areWicks_229 : decode cL_areWicks 229 = .ok (.iconst 1, 1) := by decide +kernel
theorem dL_areWicks_230 : decode cL_areWicks 230 = .ok (.goto 4, 3) := by decide +kernel
theorem dL_areWicks_233 : decode cL_areWicks 233 = .ok (.iconst 0, 1) := by decide +kernel
theorem dL_areWicks_234 : decode cL_areWicks 234 = .ok (.istore 4, 2) := by decide +kernel
theorem dL_areWicks_236 : decode cL_areWicks 236 = .ok (.iinc 5 1, 3) := by decide +kernel
theorem dL_areWicks_239 : decode cL_areWicks 239 = .ok (.goto (-112), 3) := by decide +kernel
theorem dL_areWicks_242 : decode cL_areWicks 242 = .ok (.iload 4, 2) := by decide +kernel
theorem dL_areWicks_244 : decode cL_areWicks 244 = .ok (.ifCond .eq 62, 3) := by decide +kernel
theorem dL_areWicks_247 : decode cL_areWicks 247 = .ok (.aload_n 0, 1) := by decide +kernel
theorem dL_areWicks_248 : decode cL_areWicks 248 = .ok (.invokevirtual 274, 3) := by decide +kernel
theorem dL_areWicks_251 : decode cL_areWicks 251 = .ok (.iload_n 1, 1) := by decide +kernel
theorem dL_areWicks_252 : decode cL_areWicks 252 = .ok (.if_icmp .ne 54, 3) := by decide +kernel
theorem dL_areWicks_255 : decode cL_areWicks 255 = .ok (.aload_n 0, 1) := by decide +kernel
theorem dL_areWicks_256 : decode cL_areWicks 256 = .ok (.invokevirtual 277, 3) := by decide +kernel
theorem dL_areWicks_259 : decode cL_areWicks 259 = .ok (.iload_n 2, 1) := by decide +kernel
theorem dL_areWicks_260 : decode cL_areWicks 260 = .ok (.if_icmp .ne 46, 3) := by decide +kernel
theorem dL_areWicks_263 : decode cL_areWicks 263 = .ok (.aload_n 0, 1) := by decide +kernel
theorem dL_areWicks_264 : decode cL_areWicks 264 = .ok (.invokevirtual 280, 3) := by decide +kernel
theorem dL_areWicks_267 : decode cL_areWicks 267 = .ok (.iload_n 2, 1) := by decide +kernel
theorem dL_areWicks_268 : decode cL_areWicks 268 = .ok (.if_icmp .ne 38, 3) := by decide +kernel
theorem dL_areWicks_271 : decode cL_areWicks 271 = .ok (.iload_n 1, 1) := by decide +kernel
theorem dL_areWicks_272 : decode cL_areWicks 272 = .ok (.ifCond .gt 10, 3) := by decide +kernel
theorem dL_areWicks_275 : decode cL_areWicks 275 = .ok (.aload_n 0, 1) := by decide +kernel
theorem dL_areWicks_276 : decode cL_areWicks 276 = .ok (.invokevirtual 204, 3) := by decide +kernel
theorem dL_areWicks_279 : decode cL_areWicks 279 = .ok (.ifCond .ne 27, 3) := by decide +kernel
theorem dL_areWicks_282 : decode cL_areWicks 282 = .ok (.aload_n 0, 1) := by decide +kernel
theorem dL_areWicks_283 : decode cL_areWicks 283 = .ok (.bipush 108, 2) := by decide +kernel
theorem dL_areWicks_285 : decode cL_areWicks 285 = .ok (.invokevirtual 177, 3) := by decide +kernel
theorem dL_areWicks_288 : decode cL_areWicks 288 = .ok (.iconst 4, 1) := by decide +kernel
theorem dL_areWicks_289 : decode cL_areWicks 289 = .ok (.if_icmp .gt 17, 3) := by decide +kernel
theorem dL_areWicks_292 : decode cL_areWicks 292 = .ok (.aload_n 0, 1) := by decide +kernel
theorem dL_areWicks_293 : decode cL_areWicks 293 = .ok (.bipush 114, 2) := by decide +kernel
theorem dL_areWicks_295 : decode cL_areWicks 295 = .ok (.invokevirtual 184, 3) := by decide +kernel
theorem dL_areWicks_298 : decode cL_areWicks 298 = .ok (.iconst 5, 1) := by decide +kernel
theorem dL_areWicks_299 : decode cL_areWicks 299 = .ok (.if_icmp .ge 7, 3) := by decide +kernel
theorem dL_areWicks_302 : decode cL_areWicks 302 = .ok (.iconst 1, 1) := by decide +kernel
theorem dL_areWicks_303 : decode cL_areWicks 303 = .ok (.goto 4, 3) := by decide +kernel
theorem dL_areWicks_306 : decode cL_areWicks 306 = .ok (.iconst 0, 1) := by decide +kernel
theorem dL_areWicks_307 : decode cL_areWicks 307 = .ok (.ireturn, 1) := by decide +kernel
theorem dL_isWoven_0 : decode cL_isWoven 0 = .ok (.aload_n 0, 1) := by decide +kernel
theorem dL_isWoven_1 : decode cL_isWoven 1 = .ok (.invokestatic 283, 3) := by decide +kernel
theorem dL_isWoven_4 : decode cL_isWoven 4 = .ok (.lstore_n 1, 1) := by decide +kernel
theorem dL_isWoven_5 : decode cL_isWoven 5 = .ok (.aload_n 0, 1) := by decide +kernel
theorem dL_isWoven_6 : decode cL_isWoven 6 = .ok (.invokevirtual 204, 3) := by decide +kernel
theorem dL_isWoven_9 : decode cL_isWoven 9 = .ok (.istore_n 3, 1) := by decide +kernel
theorem dL_isWoven_10 : decode cL_isWoven 10 = .ok (.aload_n 0, 1) := by decide +kernel
theorem dL_isWoven_11 : decode cL_isWoven 11 = .ok (.invokevirtual 274, 3) := by decide +kernel
theorem dL_isWoven_14 : decode cL_isWoven 14 = .ok (.istore 4, 2) := by decide +kernel
theorem dL_isWoven_16 : decode cL_isWoven 16 = .ok (.aload_n 0, 1) := by decide +kernel
theorem dL_isWoven_17 : decode cL_isWoven 17 = .ok (.invokevirtual 172, 3) := by decide +kernel
theorem dL_isWoven_20 : decode cL_isWoven 20 = .ok (.istore 5, 2) := by decide +kernel
theorem dL_isWoven_22 : decode cL_isWoven 22 = .ok (.aload_n 0, 1) := by decide +kernel
theorem dL_isWoven_23 : decode cL_isWoven 23 = .ok (.invokevirtual 201, 3) := by decide +kernel
theorem dL_isWoven_26 : decode cL_isWoven 26 = .ok (.istore 6, 2) := by decide +kernel
theorem dL_isWoven_28 : decode cL_isWoven 28 = .ok (.aload_n 0, 1) := by decide +kernel
theorem dL_isWoven_29 : decode cL_isWoven 29 = .ok (.invokevirtual 277, 3) := by decide +kernel
theorem dL_isWoven_32 : decode cL_isWoven 32 = .ok (.istore 7, 2) := by decide +kernel
theorem dL_isWoven_34 : decode cL_isWoven 34 = .ok (.aload_n 0, 1) := by decide +kernel
theorem dL_isWoven_35 : decode cL_isWoven 35 = .ok (.iconst 1, 1) := by decide +kernel
theorem dL_isWoven_36 : decode cL_isWoven 36 = .ok (.invokestatic 131, 3) := by decide +kernel
theorem dL_isWoven_39 : decode cL_isWoven 39 = .ok (.istore 8, 2) := by decide +kernel
theorem dL_isWoven_41 : decode cL_isWoven 41 = .ok (.iload 8, 2) := by decide +kernel
theorem dL_isWoven_43 : decode cL_isWoven 43 = .ok (.ldc 10, 2) := by decide +kernel
theorem dL_isWoven_45 : decode cL_isWoven 45 = .ok (.if_icmp .ne 30, 3) := by decide +kernel
theorem dL_isWoven_48 : decode cL_isWoven 48 = .ok (.iload 4, 2) := by decide +kernel
theorem dL_isWoven_50 : decode cL_isWoven 50 = .ok (.ifCond .eq 10, 3) := by decide +kernel
theorem dL_isWoven_53 : decode cL_isWoven 53 = .ok (.iload 6, 2) := by decide +kernel
theorem dL_isWoven_55 : decode cL_isWoven 55 = .ok (.bipush 40, 2) := by decide +kernel
theorem dL_isWoven_57 : decode cL_isWoven 57 = .ok (.if_icmp .ne 16, 3) := by decide +kernel
theorem dL_isWoven_60 : decode cL_isWoven 60 = .ok (.aload_n 0, 1) := by decide +kernel
theorem dL_isWoven_61 : decode cL_isWoven 61 = .ok (.invokestatic 283, 3) := by decide +kernel
theorem dL_isWoven_64 : decode cL_isWoven 64 = .ok (.lload_n 1, 1) := by decide +kernel
theorem dL_isWoven_65 : decode cL_isWoven 65 = .ok (.lcmp, 1) := by decide +kernel
theorem dL_isWoven_66 : decode cL_isWoven 66 = .ok (.ifCond .ne 7, 3) := by decide +kernel
theorem dL_isWoven_69 : decode cL_isWoven 69 = .ok (.iconst 1, 1) := by decide +kernel
theorem dL_isWoven_70 : decode cL_isWoven 70 = .ok (.goto 4, 3) := by decide +kernel
theorem dL_isWoven_73 : decode cL_isWoven 73 = .ok (.iconst 0, 1) := by decide +kernel
theorem dL_isWoven_74 : decode cL_isWoven 74 = .ok (.ireturn, 1) := by decide +kernel
theorem dL_isWoven_75 : decode cL_isWoven 75 = .ok (.iload 4, 2) := by decide +kernel
theorem dL_isWoven_77 : decode cL_isWoven 77 = .ok (.ifCond .le 57, 3) := by decide +kernel
theorem dL_isWoven_80 : decode cL_isWoven 80 = .ok (.iload 8, 2) := by decide +kernel
theorem dL_isWoven_82 : decode cL_isWoven 82 = .ok (.iconst 1, 1) := by decide +kernel
theorem dL_isWoven_83 : decode cL_isWoven 83 = .ok (.if_icmp .ne 51, 3) := by decide +kernel
theorem dL_isWoven_86 : decode cL_isWoven 86 = .ok (.aload_n 0, 1) := by decide +kernel
theorem dL_isWoven_87 : decode cL_isWoven 87 = .ok (.invokevirtual 201, 3) := by decide +kernel
theorem dL_isWoven_90 : decode cL_isWoven 90 = .ok (.iload 6, 2) := by decide +kernel
theorem dL_isWoven_92 : decode cL_isWoven 92 = .ok (.iconst 1, 1) := by decide +kernel
theorem dL_isWoven_93 : decode cL_isWoven 93 = .ok (.iadd, 1) := by decide +kernel
theorem dL_isWoven_94 : decode cL_isWoven 94 = .ok (.if_icmp .ne 40, 3) := by decide +kernel
theorem dL_isWoven_97 : decode cL_isWoven 97 = .ok (.aload_n 0, 1) := by decide +kernel
theorem dL_isWoven_98 : decode cL_isWoven 98 = .ok (.iload 6, 2) := by decide +kernel
theorem dL_isWoven_100 : decode cL_isWoven 100 = .ok (.invokevirtual 207, 3) := by decide +kernel
theorem dL_isWoven_103 : decode cL_isWoven 103 = .ok (.iload_n 3, 1) := by decide +kernel
theorem dL_isWoven_104 : decode cL_isWoven 104 = .ok (.if_icmp .ne 30, 3) := by decide +kernel
theorem dL_isWoven_107 : decode cL_isWoven 107 = .ok (.aload_n 0, 1) := by decide +kernel
theorem dL_isWoven_108 : decode cL_isWoven 108 = .ok (.invokevirtual 172, 3) := by decide +kernel
theorem dL_isWoven_111 : decode cL_isWoven 111 = .ok (.iload 5, 2) := by decide +kernel
theorem dL_isWoven_113 : decode cL_isWoven 113 = .ok (.iload 4, 2) := by decide +kernel
theorem dL_isWoven_115 : decode cL_isWoven 115 = .ok (.iadd, 1) := by decide +kernel
theorem dL_isWoven_116 : decode cL_isWoven 116 = .ok (.if_icmp .ne 18, 3) := by decide +kernel
theorem dL_isWoven_119 : decode cL_isWoven 119 = .ok (.aload_n 0, 1) := by decide +kernel
theorem dL_isWoven_120 : decode cL_isWoven 120 = .ok (.invokevirtual 277, 3) := by decide +kernel
theorem dL_isWoven_123 : decode cL_isWoven 123 = .ok (.iload 7, 2) := by decide +kernel
theorem dL_isWoven_125 : decode cL_isWoven 125 = .ok (.iconst 1, 1) := by decide +kernel
theorem dL_isWoven_126 : decode cL_isWoven 126 = .ok (.isub, 1) := by decide +kernel
theorem dL_isWoven_127 : decode cL_isWoven 127 = .ok (.if_icmp .ne 7, 3) := by decide +kernel
theorem dL_isWoven_130 : decode cL_isWoven 130 = .ok (.iconst 1, 1) := by decide +kernel
theorem dL_isWoven_131 : decode cL_isWoven 131 = .ok (.goto 4, 3) := by decide +kernel
theorem dL_isWoven_134 : decode cL_isWoven 134 = .ok (.iconst 0, 1) := by decide +kernel
theorem dL_isWoven_135 : decode cL_isWoven 135 = .ok (.istore 9, 2) := by decide +kernel
theorem dL_isWoven_137 : decode cL_isWoven 137 = .ok (.iload 9, 2) := by decide +kernel
theorem dL_isWoven_139 : decode cL_isWoven 139 = .ok (.ifCond .eq 23, 3) := by decide +kernel
theorem dL_isWoven_142 : decode cL_isWoven 142 = .ok (.aload_n 0, 1) := by decide +kernel
theorem dL_isWoven_143 : decode cL_isWoven 143 = .ok (.invokestatic 163, 3) := by decide +kernel
theorem dL_isWoven_146 : decode cL_isWoven 146 = .ok (.ifCond .lt 16, 3) := by decide +kernel
theorem dL_isWoven_149 : decode cL_isWoven 149 = .ok (.aload_n 0, 1) := by decide +kernel
theorem dL_isWoven_150 : decode cL_isWoven 150 = .ok (.invokestatic 283, 3) := by decide +kernel
theorem dL_isWoven_153 : decode cL_isWoven 153 = .ok (.lload_n 1, 1) := by decide +kernel
theorem dL_isWoven_154 : decode cL_isWoven 154 = .ok (.lcmp, 1) := by decide +kernel
theorem dL_isWoven_155 : decode cL_isWoven 155 = .ok (.ifCond .ne 7, 3) := by decide +kernel
theorem dL_isWoven_158 : decode cL_isWoven 158 = .ok (.iconst 1, 1) := by decide +kernel
theorem dL_isWoven_159 : decode cL_isWoven 159 = .ok (.goto 4, 3) := by decide +kernel
theorem dL_isWoven_162 : decode cL_isWoven 162 = .ok (.iconst 0, 1) := by decide +kernel
theorem dL_isWoven_163 : decode cL_isWoven 163 = .ok (.istore 9, 2) := by decide +kernel
theorem dL_isWoven_165 : decode cL_isWoven 165 = .ok (.aload_n 0, 1) := by decide +kernel
theorem dL_isWoven_166 : decode cL_isWoven 166 = .ok (.bipush 10, 2) := by decide +kernel
theorem dL_isWoven_168 : decode cL_isWoven 168 = .ok (.invokestatic 131, 3) := by decide +kernel
theorem dL_isWoven_171 : decode cL_isWoven 171 = .ok (.istore 10, 2) := by decide +kernel
theorem dL_isWoven_173 : decode cL_isWoven 173 = .ok (.iload 9, 2) := by decide +kernel
theorem dL_isWoven_175 : decode cL_isWoven 175 = .ok (.ifCond .eq 62, 3) := by decide +kernel
theorem dL_isWoven_178 : decode cL_isWoven 178 = .ok (.iload 10, 2) := by decide +kernel
theorem dL_isWoven_180 : decode cL_isWoven 180 = .ok (.ldc 10, 2) := by decide +kernel
theorem dL_isWoven_182 : decode cL_isWoven 182 = .ok (.if_icmp .ne 13, 3) := by decide +kernel
theorem dL_isWoven_185 : decode cL_isWoven 185 = .ok (.iload 6, 2) := by decide +kernel
theorem dL_isWoven_187 : decode cL_isWoven 187 = .ok (.bipush 30, 2) := by decide +kernel
theorem dL_isWoven_189 : decode cL_isWoven 189 = .ok (.if_icmp .le 48, 3) := by decide +kernel
theorem dL_isWoven_192 : decode cL_isWoven 192 = .ok (.goto 41, 3) := by decide +kernel
theorem dL_isWoven_195 : decode cL_isWoven 195 = .ok (.iload 10, 2) := by decide +kernel
theorem dL_isWoven_197 : decode cL_isWoven 197 = .ok (.bipush 10, 2) := by decide +kernel
theorem dL_isWoven_199 : decode cL_isWoven 199 = .ok (.iload 7, 2) := by decide +kernel
theorem dL_isWoven_201 : decode cL_isWoven 201 = .ok (.invokestatic 287, 3) := by decide +kernel
theorem dL_isWoven_204 : decode cL_isWoven 204 = .ok (.if_icmp .ne 33, 3) := by decide +kernel
theorem dL_isWoven_207 : decode cL_isWoven 207 = .ok (.aload_n 0, 1) := by decide +kernel
theorem dL_isWoven_208 : decode cL_isWoven 208 = .ok (.invokevirtual 201, 3) := by decide +kernel
theorem dL_isWoven_211 : decode cL_isWoven 211 = .ok (.iload 6, 2) := by decide +kernel
theorem dL_isWoven_213 : decode cL_isWoven 213 = .ok (.iload 10, 2) := by decide +kernel
theorem dL_isWoven_215 : decode cL_isWoven 215 = .ok (.iadd, 1) := by decide +kernel
theorem dL_isWoven_216 : decode cL_isWoven 216 = .ok (.if_icmp .ne 21, 3) := by decide +kernel
theorem dL_isWoven_219 : decode cL_isWoven 219 = .ok (.aload_n 0, 1) := by decide +kernel
theorem dL_isWoven_220 : decode cL_isWoven 220 = .ok (.invokestatic 290, 3) := by decide +kernel
theorem dL_isWoven_223 : decode cL_isWoven 223 = .ok (.ifCond .eq 14, 3) := by decide +kernel
theorem dL_isWoven_226 : decode cL_isWoven 226 = .ok (.aload_n 0, 1) := by decide +kernel
theorem dL_isWoven_227 : decode cL_isWoven 227 = .ok (.invokestatic 163, 3) := by decide +kernel
theorem dL_isWoven_230 : decode cL_isWoven 230 = .ok (.ifCond .lt 7, 3) := by decide +kernel
theorem dL_isWoven_233 : decode cL_isWoven 233 = .ok (.iconst 1, 1) := by decide +kernel
theorem dL_isWoven_234 : decode cL_isWoven 234 = .ok (.goto 4, 3) := by decide +kernel
theorem dL_isWoven_237 : decode cL_isWoven 237 = .ok (.iconst 0, 1) := by decide +kernel
theorem dL_isWoven_238 : decode cL_isWoven 238 = .ok (.istore 9, 2) := by decide +kernel
theorem dL_isWoven_240 : decode cL_isWoven 240 = .ok (.iload 9, 2) := by decide +kernel
theorem dL_isWoven_242 : decode cL_isWoven 242 = .ok (.ifCond .eq 16, 3) := by decide +kernel
theorem dL_isWoven_245 : decode cL_isWoven 245 = .ok (.aload_n 0, 1) := by decide +kernel
theorem dL_isWoven_246 : decode cL_isWoven 246 = .ok (.invokestatic 283, 3) := by decide +kernel
theorem dL_isWoven_249 : decode cL_isWoven 249 = .ok (.lload_n 1, 1) := by decide +kernel
theorem dL_isWoven_250 : decode cL_isWoven 250 = .ok (.lcmp, 1) := by decide +kernel
theorem dL_isWoven_251 : decode cL_isWoven 251 = .ok (.ifCond .ne 7, 3) := by decide +kernel
theorem dL_isWoven_254 : decode cL_isWoven 254 = .ok (.iconst 1, 1) := by decide +kernel
theorem dL_isWoven_255 : decode cL_isWoven 255 = .ok (.goto 4, 3) := by decide +kernel
theorem dL_isWoven_258 : decode cL_isWoven 258 = .ok (.iconst 0, 1) := by decide +kernel
theorem dL_isWoven_259 : decode cL_isWoven 259 = .ok (.ireturn, 1) := by decide +kernel
theorem dL_isRepeated_0 : decode cL_isRepeated 0 = .ok (.aload_n 0, 1) := by decide +kernel
theorem dL_isRepeated_1 : decode cL_isRepeated 1 = .ok (.invokestatic 283, 3) := by decide +kernel
theorem dL_isRepeated_4 : decode cL_isRepeated 4 = .ok (.lstore_n 3, 1) := by decide +kernel
theorem dL_isRepeated_5 : decode cL_isRepeated 5 = .ok (.aload_n 0, 1) := by decide +kernel
theorem dL_isRepeated_6 : decode cL_isRepeated 6 = .ok (.invokevirtual 201, 3) := by decide +kernel
theorem dL_isRepeated_9 : decode cL_isRepeated 9 = .ok (.istore 5, 2) := by decide +kernel
theorem dL_isRepeated_11 : decode cL_isRepeated 11 = .ok (.aload_n 0, 1) := by decide +kernel
theorem dL_isRepeated_12 : decode cL_isRepeated 12 = .ok (.iload_n 1, 1) := by decide +kernel
theorem dL_isRepeated_13 : decode cL_isRepeated 13 = .ok (.iload_n 2, 1) := by decide +kernel
theorem dL_isRepeated_14 : decode cL_isRepeated 14 = .ok (.invokestatic 135, 3) := by decide +kernel
theorem dL_isRepeated_17 : decode cL_isRepeated 17 = .ok (.istore 6, 2) := by decide +kernel
theorem dL_isRepeated_19 : decode cL_isRepeated 19 = .ok (.iload 6, 2) := by decide +kernel
theorem dL_isRepeated_21 : decode cL_isRepeated 21 = .ok (.ldc 10, 2) := by decide +kernel
theorem dL_isRepeated_23 : decode cL_isRepeated 23 = .ok (.if_icmp .ne 35, 3) := by decide +kernel
theorem dL_isRepeated_26 : decode cL_isRepeated 26 = .ok (.iload 5, 2) := by decide +kernel
theorem dL_isRepeated_28 : decode cL_isRepeated 28 = .ok (.iload_n 1, 1) := by decide +kernel
theorem dL_isRepeated_29 : decode cL_isRepeated 29 = .ok (.if_icmp .lt 14, 3) := by decide +kernel
theorem dL_isRepeated_32 : decode cL_isRepeated 32 = .ok (.iload 5, 2) := by decide +kernel
theorem dL_isRepeated_34 : decode cL_isRepeated 34 = .ok (.iload_n 1, 1) := by decide +kernel
theorem dL_isRepeated_35 : decode cL_isRepeated 35 = .ok (.iload_n 2, 1) := by decide +kernel
theorem dL_isRepeated_36 : decode cL_isRepeated 36 = .ok (.imul, 1) := by decide +kernel
theorem dL_isRepeated_37 : decode cL_isRepeated 37 = .ok (.iadd, 1) := by decide +kernel
theorem dL_isRepeated_38 : decode cL_isRepeated 38 = .ok (.bipush 40, 2) := by decide +kernel
theorem dL_isRepeated_40 : decode cL_isRepeated 40 = .ok (.if_icmp .le 16, 3) := by decide +kernel
theorem dL_isRepeated_43 : decode cL_isRepeated 43 = .ok (.aload_n 0, 1) := by decide +kernel
theorem dL_isRepeated_44 : decode cL_isRepeated 44 = .ok (.invokestatic 283, 3) := by decide +kernel
theorem dL_isRepeated_47 : decode cL_isRepeated 47 = .ok (.lload_n 3, 1) := by decide +kernel
theorem dL_isRepeated_48 : decode cL_isRepeated 48 = .ok (.lcmp, 1) := by decide +kernel
theorem dL_isRepeated_49 : decode cL_isRepeated 49 = .ok (.ifCond .ne 7, 3) := by decide +kernel
theorem dL_isRepeated_52 : decode cL_isRepeated 52 = .ok (.iconst 1, 1) := by decide +kernel
theorem dL_isRepeated_53 : decode cL_isRepeated 53 = .ok (.goto 4, 3) := by decide +kernel
theorem dL_isRepeated_56 : decode cL_isRepeated 56 = .ok (.iconst 0, 1) := by decide +kernel
theorem dL_isRepeated_57 : decode cL_isRepeated 57 = .ok (.ireturn, 1) := by decide +kernel
theorem dL_isRepeated_58 : decode cL_isRepeated 58 = .ok (.iload 6, 2) := by decide +kernel
theorem dL_isRepeated_60 : decode cL_isRepeated 60 = .ok (.iload 5, 2) := by decide +kernel
theorem dL_isRepeated_62 : decode cL_isRepeated 62 = .ok (.iload_n 1, 1) := by decide +kernel
theorem dL_isRepeated_63 : decode cL_isRepeated 63 = .ok (.iload_n 2, 1) := by decide +kernel
theorem dL_isRepeated_64 : decode cL_isRepeated 64 = .ok (.imul, 1) := by decide +kernel
theorem dL_isRepeated_65 : decode cL_isRepeated 65 = .ok (.iadd, 1) := by decide +kernel
theorem dL_isRepeated_66 : decode cL_isRepeated 66 = .ok (.if_icmp .ne 16, 3) := by decide +kernel
theorem dL_isRepeated_69 : decode cL_isRepeated 69 = .ok (.aload_n 0, 1) := by decide +kernel
theorem dL_isRepeated_70 : decode cL_isRepeated 70 = .ok (.invokevirtual 201, 3) := by decide +kernel
theorem dL_isRepeated_73 : decode cL_isRepeated 73 = .ok (.iload 6, 2) := by decide +kernel
theorem dL_isRepeated_75 : decode cL_isRepeated 75 = .ok (.if_icmp .ne 7, 3) := by decide +kernel
theorem dL_isRepeated_78 : decode cL_isRepeated 78 = .ok (.iconst 1, 1) := by decide +kernel
theorem dL_isRepeated_79 : decode cL_isRepeated 79 = .ok (.goto 4, 3) := by decide +kernel
theorem dL_isRepeated_82 : decode cL_isRepeated 82 = .ok (.iconst 0, 1) := by decide +kernel
theorem dL_isRepeated_83 : decode cL_isRepeated 83 = .ok (.istore 7, 2) := by decide +kernel
theorem dL_isRepeated_85 : decode cL_isRepeated 85 = .ok (.iload 5, 2) := by decide +kernel
theorem dL_isRepeated_87 : decode cL_isRepeated 87 = .ok (.istore 8, 2) := by decide +kernel
theorem dL_isRepeated_89 : decode cL_isRepeated 89 = .ok (.iload 7, 2) := by decide +kernel
theorem dL_isRepeated_91 : decode cL_isRepeated 91 = .ok (.ifCond .eq 45, 3) := by decide +kernel
theorem dL_isRepeated_94 : decode cL_isRepeated 94 = .ok (.iload 8, 2) := by decide +kernel
theorem dL_isRepeated_96 : decode cL_isRepeated 96 = .ok (.iload 6, 2) := by decide +kernel
theorem dL_isRepeated_98 : decode cL_isRepeated 98 = .ok (.if_icmp .ge 38, 3) := by decide +kernel
theorem dL_isRepeated_101 : decode cL_isRepeated 101 = .ok (.aload_n 0, 1) := by decide +kernel
theorem dL_isRepeated_102 : decode cL_isRepeated 102 = .ok (.iload 8, 2) := by decide +kernel
theorem dL_isRepeated_104 : decode cL_isRepeated 104 = .ok (.iload 8, 2) := by decide +kernel
theorem dL_isRepeated_106 : decode cL_isRepeated 106 = .ok (.iload_n 1, 1) := by decide +kernel
theorem dL_isRepeated_107 : decode cL_isRepeated 107 = .ok (.isub, 1) := by decide +kernel
theorem dL_isRepeated_108 : decode cL_isRepeated 108 = .ok (.invokestatic 226, 3) := by decide +kernel
theorem dL_isRepeated_111 : decode cL_isRepeated 111 = .ok (.ifCond .eq 16, 3) := by decide +kernel
theorem dL_isRepeated_114 : decode cL_isRepeated 114 = .ok (.aload_n 0, 1) := by decide +kernel
theorem dL_isRepeated_115 : decode cL_isRepeated 115 = .ok (.iload_n 1, 1) := by decide +kernel
theorem dL_isRepeated_116 : decode cL_isRepeated 116 = .ok (.invokevirtual 71, 3) := by decide +kernel
theorem dL_isRepeated_119 : decode cL_isRepeated 119 = .ok (.iload_n 2, 1) := by decide +kernel
theorem dL_isRepeated_120 : decode cL_isRepeated 120 = .ok (.if_icmp .le 7, 3) := by decide +kernel
theorem dL_isRepeated_123 : decode cL_isRepeated 123 = .ok (.iconst 1, 1) := by decide +kernel
theorem dL_isRepeated_124 : decode cL_isRepeated 124 = .ok (.goto 4, 3) := by decide +kernel
theorem dL_isRepeated_127 : decode cL_isRepeated 127 = .ok (.iconst 0, 1) := by decide +kernel
theorem dL_isRepeated_128 : decode cL_isRepeated 128 = .ok (.istore 7, 2) := by decide +kernel
theorem dL_isRepeated_130 : decode cL_isRepeated 130 = .ok (.iinc 8 1, 3) := by decide +kernel
theorem dL_isRepeated_133 : decode cL_isRepeated 133 = .ok (.goto (-44), 3) := by decide +kernel
theorem dL_isRepeated_136 : decode cL_isRepeated 136 = .ok (.iload 7, 2) := by decide +kernel
theorem dL_isRepeated_138 : decode cL_isRepeated 138 = .ok (.ifCond .eq 40, 3) := by decide +kernel
theorem dL_isRepeated_141 : decode cL_isRepeated 141 = .ok (.aload_n 0, 1) := by decide +kernel
theorem dL_isRepeated_142 : decode cL_isRepeated 142 = .ok (.bipush 10, 2) := by decide +kernel
theorem dL_isRepeated_144 : decode cL_isRepeated 144 = .ok (.iload_n 1, 1) := by decide +kernel
theorem dL_isRepeated_145 : decode cL_isRepeated 145 = .ok (.iload_n 2, 1) := by decide +kernel
theorem dL_isRepeated_146 : decode cL_isRepeated 146 = .ok (.imul, 1) := by decide +kernel
theorem dL_isRepeated_147 : decode cL_isRepeated 147 = .ok (.invokestatic 287, 3) := by decide +kernel
theorem dL_isRepeated_150 : decode cL_isRepeated 150 = .ok (.invokestatic 133, 3) := by decide +kernel
theorem dL_isRepeated_153 : decode cL_isRepeated 153 = .ok (.iload 6, 2) := by decide +kernel
theorem dL_isRepeated_155 : decode cL_isRepeated 155 = .ok (.bipush 10, 2) := by decide +kernel
theorem dL_isRepeated_157 : decode cL_isRepeated 157 = .ok (.iload_n 1, 1) := by decide +kernel
theorem dL_isRepeated_158 : decode cL_isRepeated 158 = .ok (.iload_n 2, 1) := by decide +kernel
theorem dL_isRepeated_159 : decode cL_isRepeated 159 = .ok (.imul, 1) := by decide +kernel
theorem dL_isRepeated_160 : decode cL_isRepeated 160 = .ok (.invokestatic 287, 3) := by decide +kernel
theorem dL_isRepeated_163 : decode cL_isRepeated 163 = .ok (.isub, 1) := by decide +kernel
theorem dL_isRepeated_164 : decode cL_isRepeated 164 = .ok (.if_icmp .ne 14, 3) := by decide +kernel
theorem dL_isRepeated_167 : decode cL_isRepeated 167 = .ok (.aload_n 0, 1) := by decide +kernel
theorem dL_isRepeated_168 : decode cL_isRepeated 168 = .ok (.invokestatic 163, 3) := by decide +kernel
theorem dL_isRepeated_171 : decode cL_isRepeated 171 = .ok (.ifCond .lt 7, 3) := by decide +kernel
theorem dL_isRepeated_174 : decode cL_isRepeated 174 = .ok (.iconst 1, 1) := by decide +kernel
theorem dL_isRepeated_175 : decode cL_isRepeated 175 = .ok (.goto 4, 3) := by decide +kernel
theorem dL_isRepeated_178 : decode cL_isRepeated 178 = .ok (.iconst 0, 1) := by decide +kernel
theorem dL_isRepeated_179 : decode cL_isRepeated 179 = .ok (.istore 7, 2) := by decide +kernel
theorem dL_isRepeated_181 : decode cL_isRepeated 181 = .ok (.iload 7, 2) := by decide +kernel
theorem dL_isRepeated_183 : decode cL_isRepeated 183 = .ok (.ifCond .eq 23, 3) := by decide +kernel
theorem dL_isRepeated_186 : decode cL_isRepeated 186 = .ok (.aload_n 0, 1) := by decide +kernel
theorem dL_isRepeated_187 : decode cL_isRepeated 187 = .ok (.invokestatic 163, 3) := by decide +kernel
theorem dL_isRepeated_190 : decode cL_isRepeated 190 = .ok (.ifCond .lt 16, 3) := by decide +kernel
theorem dL_isRepeated_193 : decode cL_isRepeated 193 = .ok (.aload_n 0, 1) := by decide +kernel
theorem dL_isRepeated_194 : decode cL_isRepeated 194 = .ok (.invokestatic 283, 3) := by decide +kernel
theorem dL_isRepeated_197 : decode cL_isRepeated 197 = .ok (.lload_n 3, 1) := by decide +kernel
theorem dL_isRepeated_198 : decode cL_isRepeated 198 = .ok (.lcmp, 1) := by decide +kernel
theorem dL_isRepeated_199 : decode cL_isRepeated 199 = .ok (.ifCond .ne 7, 3) := by decide +kernel
theorem dL_isRepeated_202 : decode cL_isRepeated 202 = .ok (.iconst 1, 1) := by decide +kernel
theorem dL_isRepeated_203 : decode cL_isRepeated 203 = .ok (.goto 4, 3) := by decide +kernel
theorem dL_isRepeated_206 : decode cL_isRepeated 206 = .ok (.iconst 0, 1) := by decide +kernel
theorem dL_isRepeated_207 : decode cL_isRepeated 207 = .ok (.ireturn, 1) := by decide +kernel
theorem dL_areKnots_0 : decode cL_areKnots 0 = .ok (.sipush (-1000), 3) := by decide +kernel
theorem dL_areKnots_3 : decode cL_areKnots 3 = .ok (.istore_n 1, 1) := by decide +kernel
theorem dL_areKnots_4 : decode cL_areKnots 4 = .ok (.sipush (-1000), 3) := by decide +kernel
theorem dL_areKnots_7 : decode cL_areKnots 7 = .ok (.istore_n 2, 1) := by decide +kernel
theorem dL_areKnots_8 : decode cL_areKnots 8 = .ok (.aload_n 0, 1) := by decide +kernel
theorem dL_areKnots_9 : decode cL_areKnots 9 = .ok (.aload_n 0, 1) := by decide +kernel
theorem dL_areKnots_10 : decode cL_areKnots 10 = .ok (.invokevirtual 201, 3) := by decide +kernel
theorem dL_areKnots_13 : decode cL_areKnots 13 = .ok (.invokestatic 294, 3) := by decide +kernel
theorem dL_areKnots_16 : decode cL_areKnots 16 = .ok (.sipush (-1000), 3) := by decide +kernel
theorem dL_areKnots_19 : decode cL_areKnots 19 = .ok (.if_icmp .ne 18, 3) := by decide +kernel
theorem dL_areKnots_22 : decode cL_areKnots 22 = .ok (.aload_n 0, 1) := by decide +kernel
theorem dL_areKnots_23 : decode cL_areKnots 23 = .ok (.iconst (-1), 1) := by decide +kernel
theorem dL_areKnots_24 : decode cL_areKnots 24 = .ok (.invokestatic 296, 3) := by decide +kernel
theorem dL_areKnots_27 : decode cL_areKnots 27 = .ok (.sipush (-1000), 3) := by decide +kernel
theorem dL_areKnots_30 : decode cL_areKnots 30 = .ok (.if_icmp .ne 7, 3) := by decide +kernel
theorem dL_areKnots_33 : decode cL_areKnots 33 = .ok (.iconst 1, 1) := by decide +kernel
theorem dL_areKnots_34 : decode cL_areKnots 34 = .ok (.goto 4, 3) := by decide +kernel
theorem dL_areKnots_37 : decode cL_areKnots 37 = .ok (.iconst 0, 1) := by decide +kernel
theorem dL_areKnots_38 : decode cL_areKnots 38 = .ok (.istore_n 3, 1) := by decide +kernel
theorem dL_areKnots_39 : decode cL_areKnots 39 = .ok (.aload_n 0, 1) := by decide +kernel
theorem dL_areKnots_40 : decode cL_areKnots 40 = .ok (.invokevirtual 201, 3) := by decide +kernel
theorem dL_areKnots_43 : decode cL_areKnots 43 = .ok (.iconst 1, 1) := by decide +kernel
theorem dL_areKnots_44 : decode cL_areKnots 44 = .ok (.isub, 1) := by decide +kernel
theorem dL_areKnots_45 : decode cL_areKnots 45 = .ok (.istore 4, 2) := by decide +kernel
theorem dL_areKnots_47 : decode cL_areKnots 47 = .ok (.iload_n 3, 1) := by decide +kernel
theorem dL_areKnots_48 : decode cL_areKnots 48 = .ok (.ifCond .eq 89, 3) := by decide +kernel
theorem dL_areKnots_51 : decode cL_areKnots 51 = .ok (.iload 4, 2) := by decide +kernel
theorem dL_areKnots_53 : decode cL_areKnots 53 = .ok (.ifCond .lt 84, 3) := by decide +kernel
theorem dL_areKnots_56 : decode cL_areKnots 56 = .ok (.bipush 15, 2) := by decide +kernel
theorem dL_areKnots_58 : decode cL_areKnots 58 = .ok (.istore 5, 2) := by decide +kernel
theorem dL_areKnots_60 : decode cL_areKnots 60 = .ok (.iload 5, 2) := by decide +kernel
theorem dL_areKnots_62 : decode cL_areKnots 62 = .ok (.ifCond .lt 43, 3) := by decide +kernel
theorem dL_areKnots_65 : decode cL_areKnots 65 = .ok (.aload_n 0, 1) := by decide +kernel
theorem dL_areKnots_66 : decode cL_areKnots 66 = .ok (.iload 4, 2) := by decide +kernel
theorem dL_areKnots_68 : decode cL_areKnots 68 = .ok (.iload 5, 2) := by decide +kernel
theorem dL_areKnots_70 : decode cL_areKnots 70 = .ok (.invokevirtual 213, 3) := by decide +kernel
theorem dL_areKnots_73 : decode cL_areKnots 73 = .ok (.istore 6, 2) := by decide +kernel
theorem dL_areKnots_75 : decode cL_areKnots 75 = .ok (.iload 6, 2) := by decide +kernel
theorem dL_areKnots_77 : decode cL_areKnots 77 = .ok (.ifCond .eq 8, 3) := by decide +kernel
theorem dL_areKnots_80 : decode cL_areKnots 80 = .ok (.iload 4, 2) := by decide +kernel
theorem dL_areKnots_82 : decode cL_areKnots 82 = .ok (.goto 4, 3) := by decide +kernel
theorem dL_areKnots_85 : decode cL_areKnots 85 = .ok (.iload_n 1, 1) := by decide +kernel
theorem dL_areKnots_86 : decode cL_areKnots 86 = .ok (.istore_n 1, 1) := by decide +kernel
theorem dL_areKnots_87 : decode cL_areKnots 87 = .ok (.iload 6, 2) := by decide +kernel
theorem dL_areKnots_89 : decode cL_areKnots 89 = .ok (.ifCond .eq 8, 3) := by decide +kernel
theorem dL_areKnots_92 : decode cL_areKnots 92 = .ok (.iload 5, 2) := by decide +kernel
theorem dL_areKnots_94 : decode cL_areKnots 94 = .ok (.goto 4, 3) := by decide +kernel
theorem dL_areKnots_97 : decode cL_areKnots 97 = .ok (.iload_n 2, 1) := by decide +kernel
theorem dL_areKnots_98 : decode cL_areKnots 98 = .ok (.istore_n 2, 1) := by decide +kernel
theorem dL_areKnots_99 : decode cL_areKnots 99 = .ok (.iinc 5 (-1), 3) := by decide +kernel
theorem dL_areKnots_102 : decode cL_areKnots 102 = .ok (.goto (-42), 3) := by decide +kernel
theorem dL_areKnots_105 : decode cL_areKnots 105 = .ok (.aload_n 0, 1) := by decide +kernel
theorem dL_areKnots_106 : decode cL_areKnots 106 = .ok (.iload 4, 2) := by decide +kernel
theorem dL_areKnots_108 : decode cL_areKnots 108 = .ok (.invokestatic 294, 3) := by decide +kernel
theorem dL_areKnots_111 : decode cL_areKnots 111 = .ok (.iload_n 1, 1) := by decide +kernel
theorem dL_areKnots_112 : decode cL_areKnots 112 = .ok (.if_icmp .ne 17, 3) := by decide +kernel
theorem dL_areKnots_115 : decode cL_areKnots 115 = .ok (.aload_n 0, 1) := by decide +kernel
theorem dL_areKnots_116 : decode cL_areKnots 116 = .ok (.iload 4, 2) := by decide +kernel
theorem dL_areKnots_118 : decode cL_areKnots 118 = .ok (.invokestatic 296, 3) := by decide +kernel
theorem dL_areKnots_121 : decode cL_areKnots 121 = .ok (.iload_n 2, 1) := by decide +kernel
theorem dL_areKnots_122 : decode cL_areKnots 122 = .ok (.if_icmp .ne 7, 3) := by decide +kernel
theorem dL_areKnots_125 : decode cL_areKnots 125 = .ok (.iconst 1, 1) := by decide +kernel
theorem dL_areKnots_126 : decode cL_areKnots 126 = .ok (.goto 4, 3) := by decide +kernel
theorem dL_areKnots_129 : decode cL_areKnots 129 = .ok (.iconst 0, 1) := by decide +kernel
theorem dL_areKnots_130 : decode cL_areKnots 130 = .ok (.istore_n 3, 1) := by decide +kernel
theorem dL_areKnots_131 : decode cL_areKnots 131 = .ok (.iinc 4 (-1), 3) := by decide +kernel
theorem dL_areKnots_134 : decode cL_areKnots 134 = .ok (.goto (-87), 3) := by decide +kernel
theorem dL_areKnots_137 : decode cL_areKnots 137 = .ok (.iload_n 3, 1) := by decide +kernel
theorem dL_areKnots_138 : decode cL_areKnots 138 = .ok (.ireturn, 1) := by decide +kernel
theorem dL_isFit_0 : decode cL_isFit 0 = .ok (.aload_n 0, 1) := by decide +kernel
theorem dL_isFit_1 : decode cL_isFit 1 = .ok (.invokestatic 298, 3) := by decide +kernel
theorem dL_isFit_4 : decode cL_isFit 4 = .ok (.ifCond .eq 53, 3) := by decide +kernel
theorem dL_isFit_7 : decode cL_isFit 7 = .ok (.aload_n 0, 1) := by decide +kernel
theorem dL_isFit_8 : decode cL_isFit 8 = .ok (.invokestatic 301, 3) := by decide +kernel
theorem dL_isFit_11 : decode cL_isFit 11 = .ok (.ifCond .eq 46, 3) := by decide +kernel
theorem dL_isFit_14 : decode cL_isFit 14 = .ok (.aload_n 0, 1) := by decide +kernel
theorem dL_isFit_15 : decode cL_isFit 15 = .ok (.invokestatic 290, 3) := by decide +kernel
theorem dL_isFit_18 : decode cL_isFit 18 = .ok (.ifCond .eq 39, 3) := by decide +kernel
theorem dL_isFit_21 : decode cL_isFit 21 = .ok (.aload_n 0, 1) := by decide +kernel
theorem dL_isFit_22 : decode cL_isFit 22 = .ok (.invokestatic 304, 3) := by decide +kernel
theorem dL_isFit_25 : decode cL_isFit 25 = .ok (.ifCond .eq 32, 3) := by decide +kernel
theorem dL_isFit_28 : decode cL_isFit 28 = .ok (.aload_n 0, 1) := by decide +kernel
theorem dL_isFit_29 : decode cL_isFit 29 = .ok (.invokestatic 307, 3) := by decide +kernel
theorem dL_isFit_32 : decode cL_isFit 32 = .ok (.ifCond .eq 25, 3) := by decide +kernel
theorem dL_isFit_35 : decode cL_isFit 35 = .ok (.aload_n 0, 1) := by decide +kernel
theorem dL_isFit_36 : decode cL_isFit 36 = .ok (.iconst 1, 1) := by decide +kernel
theorem dL_isFit_37 : decode cL_isFit 37 = .ok (.iconst 2, 1) := by decide +kernel
theorem dL_isFit_38 : decode cL_isFit 38 = .ok (.invokestatic 310, 3) := by decide +kernel
theorem dL_isFit_41 : decode cL_isFit 41 = .ok (.ifCond .eq 16, 3) := by decide +kernel
theorem dL_isFit_44 : decode cL_isFit 44 = .ok (.aload_n 0, 1) := by decide +kernel
theorem dL_isFit_45 : decode cL_isFit 45 = .ok (.iconst 3, 1) := by decide +kernel
theorem dL_isFit_46 : decode cL_isFit 46 = .ok (.iconst 4, 1) := by decide +kernel
theorem dL_isFit_47 : decode cL_isFit 47 = .ok (.invokestatic 310, 3) := by decide +kernel
theorem dL_isFit_50 : decode cL_isFit 50 = .ok (.ifCond .eq 7, 3) := by decide +kernel
theorem dL_isFit_53 : decode cL_isFit 53 = .ok (.iconst 1, 1) := by decide +kernel
theorem dL_isFit_54 : decode cL_isFit 54 = .ok (.goto 4, 3) := by decide +kernel
theorem dL_isFit_57 : decode cL_isFit 57 = .ok (.iconst 0, 1) := by decide +kernel
theorem dL_isFit_58 : decode cL_isFit 58 = .ok (.ireturn, 1) := by decide +kernel
theorem dL_law_0 : decode cL_law 0 = .ok (.new 12, 3) := by decide +kernel
theorem dL_law_3 : decode cL_law 3 = .ok (.dup, 1) := by decide +kernel
theorem dL_law_4 : decode cL_law 4 = .ok (.invokespecial 313, 3) := by decide +kernel
theorem dL_law_7 : decode cL_law 7 = .ok (.astore_n 1, 1) := by decide +kernel
theorem dL_law_8 : decode cL_law 8 = .ok (.iconst 0, 1) := by decide +kernel
theorem dL_law_9 : decode cL_law 9 = .ok (.istore_n 2, 1) := by decide +kernel
theorem dL_law_10 : decode cL_law 10 = .ok (.iload_n 2, 1) := by decide +kernel
theorem dL_law_11 : decode cL_law 11 = .ok (.iconst 3, 1) := by decide +kernel
theorem dL_law_12 : decode cL_law 12 = .ok (.if_icmp .ge 56, 3) := by decide +kernel
theorem dL_law_15 : decode cL_law 15 = .ok (.aload_n 1, 1) := by decide +kernel
theorem dL_law_16 : decode cL_law 16 = .ok (.aload_n 0, 1) := by decide +kernel
theorem dL_law_17 : decode cL_law 17 = .ok (.iload_n 2, 1) := by decide +kernel
theorem dL_law_18 : decode cL_law 18 = .ok (.invokestatic 314, 3) := by decide +kernel
theorem dL_law_21 : decode cL_law 21 = .ok (.iconst 4, 1) := by decide +kernel
theorem dL_law_22 : decode cL_law 22 = .ok (.ishr, 1) := by decide +kernel
theorem dL_law_23 : decode cL_law 23 = .ok (.bipush 7, 2) := by decide +kernel
theorem dL_law_25 : decode cL_law 25 = .ok (.iand, 1) := by decide +kernel
theorem dL_law_26 : decode cL_law 26 = .ok (.iconst 1, 1) := by decide +kernel
theorem dL_law_27 : decode cL_law 27 = .ok (.aload_n 0, 1) := by decide +kernel
theorem dL_law_28 : decode cL_law 28 = .ok (.iload_n 2, 1) := by decide +kernel
theorem dL_law_29 : decode cL_law 29 = .ok (.invokestatic 314, 3) := by decide +kernel
theorem dL_law_32 : decode cL_law 32 = .ok (.iconst 3, 1) := by decide +kernel
theorem dL_law_33 : decode cL_law 33 = .ok (.ishr, 1) := by decide +kernel
theorem dL_law_34 : decode cL_law 34 = .ok (.sipush 32767, 3) := by decide +kernel
theorem dL_law_37 : decode cL_law 37 = .ok (.iand, 1) := by decide +kernel
theorem dL_law_38 : decode cL_law 38 = .ok (.iadd, 1) := by decide +kernel
theorem dL_law_39 : decode cL_law 39 = .ok (.iconst 3, 1) := by decide +kernel
theorem dL_law_40 : decode cL_law 40 = .ok (.aload_n 0, 1) := by decide +kernel
theorem dL_law_41 : decode cL_law 41 = .ok (.iload_n 2, 1) := by decide +kernel
theorem dL_law_42 : decode cL_law 42 = .ok (.invokestatic 314, 3) := by decide +kernel
theorem dL_law_45 : decode cL_law 45 = .ok (.bipush 6, 2) := by decide +kernel
theorem dL_law_47 : decode cL_law 47 = .ok (.ishr, 1) := by decide +kernel
theorem dL_law_48 : decode cL_law 48 = .ok (.bipush 15, 2) := by decide +kernel
theorem dL_law_50 : decode cL_law 50 = .ok (.iand, 1) := by decide +kernel
theorem dL_law_51 : decode cL_law 51 = .ok (.iadd, 1) := by decide +kernel
theorem dL_law_52 : decode cL_law 52 = .ok (.invokestatic 120, 3) := by decide +kernel
theorem dL_law_55 : decode cL_law 55 = .ok (.pop, 1) := by decide +kernel
theorem dL_law_56 : decode cL_law 56 = .ok (.aload_n 1, 1) := by decide +kernel
theorem dL_law_57 : decode cL_law 57 = .ok (.iload_n 2, 1) := by decide +kernel
theorem dL_law_58 : decode cL_law 58 = .ok (.invokestatic 123, 3) := by decide +kernel
theorem dL_law_61 : decode cL_law 61 = .ok (.pop, 1) := by decide +kernel
theorem dL_law_62 : decode cL_law 62 = .ok (.iinc 2 1, 3) := by decide +kernel
theorem dL_law_65 : decode cL_law 65 = .ok (.goto (-55), 3) := by decide +kernel
theorem dL_law_68 : decode cL_law 68 = .ok (.aload_n 1, 1) := by decide +kernel
theorem dL_law_69 : decode cL_law 69 = .ok (.iconst 1, 1) := by decide +kernel
theorem dL_law_70 : decode cL_law 70 = .ok (.aload_n 0, 1) := by decide +kernel
theorem dL_law_71 : decode cL_law 71 = .ok (.iconst 1, 1) := by decide +kernel
theorem dL_law_72 : decode cL_law 72 = .ok (.invokestatic 314, 3) := by decide +kernel
theorem dL_law_75 : decode cL_law 75 = .ok (.iconst 5, 1) := by decide +kernel
theorem dL_law_76 : decode cL_law 76 = .ok (.ishr, 1) := by decide +kernel
theorem dL_law_77 : decode cL_law 77 = .ok (.bipush 7, 2) := by decide +kernel
theorem dL_law_79 : decode cL_law 79 = .ok (.iand, 1) := by decide +kernel
theorem dL_law_80 : decode cL_law 80 = .ok (.iadd, 1) := by decide +kernel
theorem dL_law_81 : decode cL_law 81 = .ok (.invokestatic 131, 3) := by decide +kernel
theorem dL_law_84 : decode cL_law 84 = .ok (.pop, 1) := by decide +kernel
theorem dL_law_85 : decode cL_law 85 = .ok (.aload_n 0, 1) := by decide +kernel
theorem dL_law_86 : decode cL_law 86 = .ok (.arraylength, 1) := by decide +kernel
theorem dL_law_87 : decode cL_law 87 = .ok (.bipush 36, 2) := by decide +kernel
theorem dL_law_89 : decode cL_law 89 = .ok (.if_icmp .ge 8, 3) := by decide +kernel
theorem dL_law_92 : decode cL_law 92 = .ok (.aload_n 0, 1) := by decide +kernel
theorem dL_law_93 : decode cL_law 93 = .ok (.arraylength, 1) := by decide +kernel
theorem dL_law_94 : decode cL_law 94 = .ok (.goto 5, 3) := by decide +kernel
theorem dL_law_97 : decode cL_law 97 = .ok (.bipush 36, 2) := by decide +kernel
theorem dL_law_99 : decode cL_law 99 = .ok (.istore_n 2, 1) := by decide +kernel
theorem dL_law_100 : decode cL_law 100 = .ok (.iconst 0, 1) := by decide +kernel
theorem dL_law_101 : decode cL_law 101 = .ok (.istore_n 3, 1) := by decide +kernel
theorem dL_law_102 : decode cL_law 102 = .ok (.iload_n 3, 1) := by decide +kernel
theorem dL_law_103 : decode cL_law 103 = .ok (.iload_n 2, 1) := by decide +kernel
theorem dL_law_104 : decode cL_law 104 = .ok (.if_icmp .ge 41, 3) := by decide +kernel
theorem dL_law_107 : decode cL_law 107 = .ok (.aload_n 1, 1) := by decide +kernel
theorem dL_law_108 : decode cL_law 108 = .ok (.invokestatic 283, 3) := by decide +kernel
theorem dL_law_111 : decode cL_law 111 = .ok (.lstore 4, 2) := by decide +kernel
theorem dL_law_113 : decode cL_law 113 = .ok (.aload_n 1, 1) := by decide +kernel
theorem dL_law_114 : decode cL_law 114 = .ok (.aload_n 0, 1) := by decide +kernel
theorem dL_law_115 : decode cL_law 115 = .ok (.iload_n 3, 1) := by decide +kernel
theorem dL_law_116 : decode cL_law 116 = .ok (.invokestatic 314, 3) := by decide +kernel
theorem dL_law_119 : decode cL_law 119 = .ok (.invokestatic 318, 3) := by decide +kernel
theorem dL_law_122 : decode cL_law 122 = .ok (.ldc 10, 2) := by decide +kernel
theorem dL_law_124 : decode cL_law 124 = .ok (.if_icmp .ne 15, 3) := by decide +kernel
theorem dL_law_127 : decode cL_law 127 = .ok (.aload_n 1, 1) := by decide +kernel
theorem dL_law_128 : decode cL_law 128 = .ok (.invokestatic 283, 3) := by decide +kernel
theorem dL_law_131 : decode cL_law 131 = .ok (.lload 4, 2) := by decide +kernel
theorem dL_law_133 : decode cL_law 133 = .ok (.lcmp, 1) := by decide +kernel
theorem dL_law_134 : decode cL_law 134 = .ok (.ifCond .eq 5, 3) := by decide +kernel
theorem dL_law_137 : decode cL_law 137 = .ok (.iconst 0, 1) := by decide +kernel
theorem dL_law_138 : decode cL_law 138 = .ok (.ireturn, 1) := by decide +kernel
theorem dL_law_139 : decode cL_law 139 = .ok (.iinc 3 1, 3) := by decide +kernel
theorem dL_law_142 : decode cL_law 142 = .ok (.goto (-40), 3) := by decide +kernel
theorem dL_law_145 : decode cL_law 145 = .ok (.aload_n 1, 1) := by decide +kernel
theorem dL_law_146 : decode cL_law 146 = .ok (.invokestatic 321, 3) := by decide +kernel
theorem dL_law_149 : decode cL_law 149 = .ok (.istore_n 3, 1) := by decide +kernel
theorem dL_law_150 : decode cL_law 150 = .ok (.aload_n 1, 1) := by decide +kernel
theorem dL_law_151 : decode cL_law 151 = .ok (.invokestatic 154, 3) := by decide +kernel
theorem dL_law_154 : decode cL_law 154 = .ok (.pop, 1) := by decide +kernel
theorem dL_law_155 : decode cL_law 155 = .ok (.aload_n 1, 1) := by decide +kernel
theorem dL_law_156 : decode cL_law 156 = .ok (.invokestatic 283, 3) := by decide +kernel
theorem dL_law_159 : decode cL_law 159 = .ok (.lstore 4, 2) := by decide +kernel
theorem dL_law_161 : decode cL_law 161 = .ok (.aload_n 1, 1) := by decide +kernel
theorem dL_law_162 : decode cL_law 162 = .ok (.invokevirtual 157, 3) := by decide +kernel
theorem dL_law_165 : decode cL_law 165 = .ok (.istore 6, 2) := by decide +kernel
theorem dL_law_167 : decode cL_law 167 = .ok (.iconst 0, 1) := by decide +kernel
theorem dL_law_168 : decode cL_law 168 = .ok (.istore 7, 2) := by decide +kernel
theorem dL_law_170 : decode cL_law 170 = .ok (.iload_n 3, 1) := by decide +kernel
theorem dL_law_171 : decode cL_law 171 = .ok (.ifCond .eq 89, 3) := by decide +kernel
theorem dL_law_174 : decode cL_law 174 = .ok (.iload 7, 2) := by decide +kernel
theorem dL_law_176 : decode cL_law 176 = .ok (.getstatic 146, 3) := by decide +kernel
theorem dL_law_179 : decode cL_law 179 = .ok (.arraylength, 1) := by decide +kernel
theorem dL_law_180 : decode cL_law 180 = .ok (.if_icmp .ge 80, 3) := by decide +kernel
theorem dL_law_183 : decode cL_law 183 = .ok (.aload_n 1, 1) := by decide +kernel
theorem dL_law_184 : decode cL_law 184 = .ok (.getstatic 146, 3) := by decide +kernel
theorem dL_law_187 : decode cL_law 187 = .ok (.iload 7, 2) := by decide +kernel
theorem dL_law_189 : decode cL_law 189 = .ok (.aaload, 1) := by decide +kernel
theorem dL_law_190 : decode cL_law 190 = .ok (.invokestatic 150, 3) := by decide +kernel
theorem dL_law_193 : decode cL_law 193 = .ok (.invokestatic 154, 3) := by decide +kernel
theorem dL_law_196 : decode cL_law 196 = .ok (.istore 8, 2) := by decide +kernel
theorem dL_law_198 : decode cL_law 198 = .ok (.iload 8, 2) := by decide +kernel
theorem dL_law_200 : decode cL_law 200 = .ok (.ldc 10, 2) := by decide +kernel
theorem dL_law_202 : decode cL_law 202 = .ok (.if_icmp .ne 22, 3) := by decide +kernel
theorem dL_law_205 : decode cL_law 205 = .ok (.aload_n 1, 1) := by decide +kernel
theorem dL_law_206 : decode cL_law 206 = .ok (.invokestatic 324, 3) := by decide +kernel
theorem dL_law_209 : decode cL_law 209 = .ok (.bipush 7, 2) := by decide +kernel
theorem dL_law_211 : decode cL_law 211 = .ok (.if_icmp .ne 41, 3) := by decide +kernel
theorem dL_law_214 : decode cL_law 214 = .ok (.aload_n 1, 1) := by decide +kernel
theorem dL_law_215 : decode cL_law 215 = .ok (.invokestatic 326, 3) := by decide +kernel
theorem dL_law_218 : decode cL_law 218 = .ok (.ifCond .le 34, 3) := by decide +kernel
theorem dL_law_221 : decode cL_law 221 = .ok (.goto 17, 3) := by decide +kernel
theorem dL_law_224 : decode cL_law 224 = .ok (.aload_n 1, 1) := by decide +kernel
theorem dL_law_225 : decode cL_law 225 = .ok (.invokestatic 290, 3) := by decide +kernel
theorem dL_law_228 : decode cL_law 228 = .ok (.ifCond .eq 24, 3) := by decide +kernel
theorem dL_law_231 : decode cL_law 231 = .ok (.aload_n 1, 1) := by decide +kernel
theorem dL_law_232 : decode cL_law 232 = .ok (.invokestatic 163, 3) := by decide +kernel
theorem dL_law_235 : decode cL_law 235 = .ok (.ifCond .lt 17, 3) := by decide +kernel
theorem dL_law_238 : decode cL_law 238 = .ok (.aload_n 1, 1) := by decide +kernel
theorem dL_law_239 : decode cL_law 239 = .ok (.invokestatic 283, 3) := by decide +kernel
theorem dL_law_242 : decode cL_law 242 = .ok (.lload 4, 2) := by decide +kernel
theorem dL_law_244 : decode cL_law 244 = .ok (.lcmp, 1) := by decide +kernel
theorem dL_law_245 : decode cL_law 245 = .ok (.ifCond .ne 7, 3) := by decide +kernel
theorem dL_law_248 : decode cL_law 248 = .ok (.iconst 1, 1) := by decide +kernel
theorem dL_law_249 : decode cL_law 249 = .ok (.goto 4, 3) := by decide +kernel
theorem dL_law_252 : decode cL_law 252 = .ok (.iconst 0, 1) := by decide +kernel
theorem dL_law_253 : decode cL_law 253 = .ok (.istore_n 3, 1) := by decide +kernel
theorem dL_law_254 : decode cL_law 254 = .ok (.iinc 7 1, 3) := by decide +kernel
theorem dL_law_257 : decode cL_law 257 = .ok (.goto (-87), 3) := by decide +kernel
theorem dL_law_260 : decode cL_law 260 = .ok (.iconst 0, 1) := by decide +kernel
theorem dL_law_261 : decode cL_law 261 = .ok (.istore 7, 2) := by decide +kernel
theorem dL_law_263 : decode cL_law 263 = .ok (.iload_n 3, 1) := by decide +kernel
theorem dL_law_264 : decode cL_law 264 = .ok (.ifCond .eq 63, 3) := by decide +kernel
theorem dL_law_267 : decode cL_law 267 = .ok (.iload 7, 2) := by decide +kernel
theorem dL_law_269 : decode cL_law 269 = .ok (.iconst 2, 1) := by decide +kernel
theorem dL_law_270 : decode cL_law 270 = .ok (.if_icmp .ge 57, 3) := by decide +kernel
theorem dL_law_273 : decode cL_law 273 = .ok (.aload_n 1, 1) := by decide +kernel
theorem dL_law_274 : decode cL_law 274 = .ok (.iload 7, 2) := by decide +kernel
theorem dL_law_276 : decode cL_law 276 = .ok (.bipush 20, 2) := by decide +kernel
theorem dL_law_278 : decode cL_law 278 = .ok (.invokestatic 128, 3) := by decide +kernel
theorem dL_law_281 : decode cL_law 281 = .ok (.pop, 1) := by decide +kernel
theorem dL_law_282 : decode cL_law 282 = .ok (.aload_n 1, 1) := by decide +kernel
theorem dL_law_283 : decode cL_law 283 = .ok (.iload 7, 2) := by decide +kernel
theorem dL_law_285 : decode cL_law 285 = .ok (.invokestatic 123, 3) := by decide +kernel
theorem dL_law_288 : decode cL_law 288 = .ok (.pop, 1) := by decide +kernel
theorem dL_law_289 : decode cL_law 289 = .ok (.aload_n 1, 1) := by decide +kernel
theorem dL_law_290 : decode cL_law 290 = .ok (.bipush 6, 2) := by decide +kernel
theorem dL_law_292 : decode cL_law 292 = .ok (.iload 7, 2) := by decide +kernel
theorem dL_law_294 : decode cL_law 294 = .ok (.isub, 1) := by decide +kernel
theorem dL_law_295 : decode cL_law 295 = .ok (.invokestatic 131, 3) := by decide +kernel
theorem dL_law_298 : decode cL_law 298 = .ok (.pop, 1) := by decide +kernel
theorem dL_law_299 : decode cL_law 299 = .ok (.aload_n 1, 1) := by decide +kernel
theorem dL_law_300 : decode cL_law 300 = .ok (.iconst 2, 1) := by decide +kernel
theorem dL_law_301 : decode cL_law 301 = .ok (.iload 7, 2) := by decide +kernel
theorem dL_law_303 : decode cL_law 303 = .ok (.imul, 1) := by decide +kernel
theorem dL_law_304 : decode cL_law 304 = .ok (.iconst 3, 1) := by decide +kernel
theorem dL_law_305 : decode cL_law 305 = .ok (.invokestatic 137, 3) := by decide +kernel
theorem dL_law_308 : decode cL_law 308 = .ok (.pop, 1) := by decide +kernel
theorem dL_law_309 : decode cL_law 309 = .ok (.aload_n 1, 1) := by decide +kernel
theorem dL_law_310 : decode cL_law 310 = .ok (.iconst 2, 1) := by decide +kernel
theorem dL_law_311 : decode cL_law 311 = .ok (.iconst 1, 1) := by decide +kernel
theorem dL_law_312 : decode cL_law 312 = .ok (.invokestatic 135, 3) := by decide +kernel
theorem dL_law_315 : decode cL_law 315 = .ok (.pop, 1) := by decide +kernel
theorem dL_law_316 : decode cL_law 316 = .ok (.aload_n 1, 1) := by decide +kernel
theorem dL_law_317 : decode cL_law 317 = .ok (.invokestatic 321, 3) := by decide +kernel
theorem dL_law_320 : decode cL_law 320 = .ok (.istore_n 3, 1) := by decide +kernel
theorem dL_law_321 : decode cL_law 321 = .ok (.iinc 7 1, 3) := by decide +kernel
theorem dL_law_324 : decode cL_law 324 = .ok (.goto (-61), 3) := by decide +kernel
theorem dL_law_327 : decode cL_law 327 = .ok (.iload_n 3, 1) := by decide +kernel
theorem dL_law_328 : decode cL_law 328 = .ok (.ifCond .eq 42, 3) := by decide +kernel
theorem dL_law_331 : decode cL_law 331 = .ok (.aload_n 1, 1) := by decide +kernel
theorem dL_law_332 : decode cL_law 332 = .ok (.invokestatic 160, 3) := by decide +kernel
theorem dL_law_335 : decode cL_law 335 = .ok (.iload 6, 2) := by decide +kernel
theorem dL_law_337 : decode cL_law 337 = .ok (.if_icmp .ne 33, 3) := by decide +kernel
theorem dL_law_340 : decode cL_law 340 = .ok (.aload_n 1, 1) := by decide +kernel
theorem dL_law_341 : decode cL_law 341 = .ok (.invokestatic 283, 3) := by decide +kernel
theorem dL_law_344 : decode cL_law 344 = .ok (.lload 4, 2) := by decide +kernel
theorem dL_law_346 : decode cL_law 346 = .ok (.lcmp, 1) := by decide +kernel
theorem dL_law_347 : decode cL_law 347 = .ok (.ifCond .ne 23, 3) := by decide +kernel
theorem dL_law_350 : decode cL_law 350 = .ok (.aload_n 1, 1) := by decide +kernel
theorem dL_law_351 : decode cL_law 351 = .ok (.invokestatic 163, 3) := by decide +kernel
theorem dL_law_354 : decode cL_law 354 = .ok (.ldc 10, 2) := by decide +kernel
theorem dL_law_356 : decode cL_law 356 = .ok (.if_icmp .ne 14, 3) := by decide +kernel
theorem dL_law_359 : decode cL_law 359 = .ok (.aload_n 1, 1) := by decide +kernel
theorem dL_law_360 : decode cL_law 360 = .ok (.invokevirtual 328, 3) := by decide +kernel
theorem dL_law_363 : decode cL_law 363 = .ok (.ifCond .ne 7, 3) := by decide +kernel
theorem dL_law_366 : decode cL_law 366 = .ok (.iconst 1, 1) := by decide +kernel
theorem dL_law_367 : decode cL_law 367 = .ok (.goto 4, 3) := by decide +kernel
theorem dL_law_370 : decode cL_law 370 = .ok (.iconst 0, 1) := by decide +kernel
theorem dL_law_371 : decode cL_law 371 = .ok (.ireturn, 1) := by decide +kernel
theorem dJx00060_init_a7421_0 : decode cJx00060_init_a7421 0 = .ok (.aload_n 0, 1) := by decide +kernel
theorem dJx00060_init_a7421_1 : decode cJx00060_init_a7421 1 = .ok (.aload_n 1, 1) := by decide +kernel
theorem dJx00060_init_a7421_2 : decode cJx00060_init_a7421 2 = .ok (.invokespecial 7, 3) := by decide +kernel
theorem dJx00060_init_a7421_5 : decode cJx00060_init_a7421 5 = .ok (.return_, 1) := by decide +kernel
theorem dJx29ce0_ordinal_8abf5_0 : decode cJx29ce0_ordinal_8abf5 0 = .ok (.aload_n 0, 1) := by decide +kernel
theorem dJx29ce0_ordinal_8abf5_1 : decode cJx29ce0_ordinal_8abf5 1 = .ok (.getfield 7, 3) := by decide +kernel
theorem dJx29ce0_ordinal_8abf5_4 : decode cJx29ce0_ordinal_8abf5 4 = .ok (.ireturn, 1) := by decide +kernel
theorem dJ6_bitCount_0f7a4_0 : decode cJ6_bitCount_0f7a4 0 = .ok (.iload_n 0, 1) := by decide +kernel
theorem dJ6_bitCount_0f7a4_1 : decode cJ6_bitCount_0f7a4 1 = .ok (.iload_n 0, 1) := by decide +kernel
theorem dJ6_bitCount_0f7a4_2 : decode cJ6_bitCount_0f7a4 2 = .ok (.iconst 1, 1) := by decide +kernel
theorem dJ6_bitCount_0f7a4_3 : decode cJ6_bitCount_0f7a4 3 = .ok (.iushr, 1) := by decide +kernel
theorem dJ6_bitCount_0f7a4_4 : decode cJ6_bitCount_0f7a4 4 = .ok (.ldc_w 265, 3) := by decide +kernel
theorem dJ6_bitCount_0f7a4_7 : decode cJ6_bitCount_0f7a4 7 = .ok (.iand, 1) := by decide +kernel
theorem dJ6_bitCount_0f7a4_8 : decode cJ6_bitCount_0f7a4 8 = .ok (.isub, 1) := by decide +kernel
theorem dJ6_bitCount_0f7a4_9 : decode cJ6_bitCount_0f7a4 9 = .ok (.istore_n 0, 1) := by decide +kernel
theorem dJ6_bitCount_0f7a4_10 : decode cJ6_bitCount_0f7a4 10 = .ok (.iload_n 0, 1) := by decide +kernel
theorem dJ6_bitCount_0f7a4_11 : decode cJ6_bitCount_0f7a4 11 = .ok (.ldc_w 266, 3) := by decide +kernel
theorem dJ6_bitCount_0f7a4_14 : decode cJ6_bitCount_0f7a4 14 = .ok (.iand, 1) := by decide +kernel
theorem dJ6_bitCount_0f7a4_15 : decode cJ6_bitCount_0f7a4 15 = .ok (.iload_n 0, 1) := by decide +kernel
theorem dJ6_bitCount_0f7a4_16 : decode cJ6_bitCount_0f7a4 16 = .ok (.iconst 2, 1) := by decide +kernel
theorem dJ6_bitCount_0f7a4_17 : decode cJ6_bitCount_0f7a4 17 = .ok (.iushr, 1) := by decide +kernel
theorem dJ6_bitCount_0f7a4_18 : decode cJ6_bitCount_0f7a4 18 = .ok (.ldc_w 266, 3) := by decide +kernel
theorem dJ6_bitCount_0f7a4_21 : decode cJ6_bitCount_0f7a4 21 = .ok (.iand, 1) := by decide +kernel
theorem dJ6_bitCount_0f7a4_22 : decode cJ6_bitCount_0f7a4 22 = .ok (.iadd, 1) := by decide +kernel
theorem dJ6_bitCount_0f7a4_23 : decode cJ6_bitCount_0f7a4 23 = .ok (.istore_n 0, 1) := by decide +kernel
theorem dJ6_bitCount_0f7a4_24 : decode cJ6_bitCount_0f7a4 24 = .ok (.iload_n 0, 1) := by decide +kernel
theorem dJ6_bitCount_0f7a4_25 : decode cJ6_bitCount_0f7a4 25 = .ok (.iload_n 0, 1) := by decide +kernel
theorem dJ6_bitCount_0f7a4_26 : decode cJ6_bitCount_0f7a4 26 = .ok (.iconst 4, 1) := by decide +kernel
theorem dJ6_bitCount_0f7a4_27 : decode cJ6_bitCount_0f7a4 27 = .ok (.iushr, 1) := by decide +kernel
theorem dJ6_bitCount_0f7a4_28 : decode cJ6_bitCount_0f7a4 28 = .ok (.iadd, 1) := by decide +kernel
theorem dJ6_bitCount_0f7a4_29 : decode cJ6_bitCount_0f7a4 29 = .ok (.ldc_w 267, 3) := by decide +kernel
theorem dJ6_bitCount_0f7a4_32 : decode cJ6_bitCount_0f7a4 32 = .ok (.iand, 1) := by decide +kernel
theorem dJ6_bitCount_0f7a4_33 : decode cJ6_bitCount_0f7a4 33 = .ok (.istore_n 0, 1) := by decide +kernel
theorem dJ6_bitCount_0f7a4_34 : decode cJ6_bitCount_0f7a4 34 = .ok (.iload_n 0, 1) := by decide +kernel
theorem dJ6_bitCount_0f7a4_35 : decode cJ6_bitCount_0f7a4 35 = .ok (.iload_n 0, 1) := by decide +kernel
theorem dJ6_bitCount_0f7a4_36 : decode cJ6_bitCount_0f7a4 36 = .ok (.bipush 8, 2) := by decide +kernel
theorem dJ6_bitCount_0f7a4_38 : decode cJ6_bitCount_0f7a4 38 = .ok (.iushr, 1) := by decide +kernel
theorem dJ6_bitCount_0f7a4_39 : decode cJ6_bitCount_0f7a4 39 = .ok (.iadd, 1) := by decide +kernel
theorem dJ6_bitCount_0f7a4_40 : decode cJ6_bitCount_0f7a4 40 = .ok (.istore_n 0, 1) := by decide +kernel
theorem dJ6_bitCount_0f7a4_41 : decode cJ6_bitCount_0f7a4 41 = .ok (.iload_n 0, 1) := by decide +kernel
theorem dJ6_bitCount_0f7a4_42 : decode cJ6_bitCount_0f7a4 42 = .ok (.iload_n 0, 1) := by decide +kernel
theorem dJ6_bitCount_0f7a4_43 : decode cJ6_bitCount_0f7a4 43 = .ok (.bipush 16, 2) := by decide +kernel
theorem dJ6_bitCount_0f7a4_45 : decode cJ6_bitCount_0f7a4 45 = .ok (.iushr, 1) := by decide +kernel
theorem dJ6_bitCount_0f7a4_46 : decode cJ6_bitCount_0f7a4 46 = .ok (.iadd, 1) := by decide +kernel
theorem dJ6_bitCount_0f7a4_47 : decode cJ6_bitCount_0f7a4 47 = .ok (.istore_n 0, 1) := by decide +kernel
theorem dJ6_bitCount_0f7a4_48 : decode cJ6_bitCount_0f7a4 48 = .ok (.iload_n 0, 1) := by decide +kernel
theorem dJ6_bitCount_0f7a4_49 : decode cJ6_bitCount_0f7a4 49 = .ok (.bipush 63, 2) := by decide +kernel
theorem dJ6_bitCount_0f7a4_51 : decode cJ6_bitCount_0f7a4 51 = .ok (.iand, 1) := by decide +kernel
theorem dJ6_bitCount_0f7a4_52 : decode cJ6_bitCount_0f7a4 52 = .ok (.ireturn, 1) := by decide +kernel
theorem dJ9_max_7cf53_0 : decode cJ9_max_7cf53 0 = .ok (.iload_n 0, 1) := by decide +kernel
theorem dJ9_max_7cf53_1 : decode cJ9_max_7cf53 1 = .ok (.iload_n 1, 1) := by decide +kernel
theorem dJ9_max_7cf53_2 : decode cJ9_max_7cf53 2 = .ok (.if_icmp .lt 7, 3) := by decide +kernel
theorem dJ9_max_7cf53_5 : decode cJ9_max_7cf53 5 = .ok (.iload_n 0, 1) := by decide +kernel
theorem dJ9_max_7cf53_6 : decode cJ9_max_7cf53 6 = .ok (.goto 4, 3) := by decide +kernel
theorem dJ9_max_7cf53_9 : decode cJ9_max_7cf53 9 = .ok (.iload_n 1, 1) := by decide +kernel
theorem dJ9_max_7cf53_10 : decode cJ9_max_7cf53 10 = .ok (.ireturn, 1) := by decide +kernel
theorem dJ9_min_7cf53_0 : decode cJ9_min_7cf53 0 = .ok (.iload_n 0, 1) := by decide +kernel
theorem dJ9_min_7cf53_1 : decode cJ9_min_7cf53 1 = .ok (.iload_n 1, 1) := by decide +kernel
theorem dJ9_min_7cf53_2 : decode cJ9_min_7cf53 2 = .ok (.if_icmp .gt 7, 3) := by decide +kernel
theorem dJ9_min_7cf53_5 : decode cJ9_min_7cf53 5 = .ok (.iload_n 0, 1) := by decide +kernel
theorem dJ9_min_7cf53_6 : decode cJ9_min_7cf53 6 = .ok (.goto 4, 3) := by decide +kernel
theorem dJ9_min_7cf53_9 : decode cJ9_min_7cf53 9 = .ok (.iload_n 1, 1) := by decide +kernel
theorem dJ9_min_7cf53_10 : decode cJ9_min_7cf53 10 = .ok (.ireturn, 1) := by decide +kernel
theorem dJ0_length_8abf5_0 : decode cJ0_length_8abf5 0 = .ok (.aload_n 0, 1) := by decide +kernel
theorem dJ0_length_8abf5_1 : decode cJ0_length_8abf5 1 = .ok (.getfield 9, 3) := by decide +kernel
theorem dJ0_length_8abf5_4 : decode cJ0_length_8abf5 4 = .ok (.arraylength, 1) := by decide +kernel
theorem dJ0_length_8abf5_5 : decode cJ0_length_8abf5 5 = .ok (.aload_n 0, 1) := by decide +kernel
theorem dJ0_length_8abf5_6 : decode cJ0_length_8abf5 6 = .ok (.invokevirtual 335, 3) := by decide +kernel
theorem dJ0_length_8abf5_9 : decode cJ0_length_8abf5 9 = .ok (.ishr, 1) := by decide +kernel
theorem dJ0_length_8abf5_10 : decode cJ0_length_8abf5 10 = .ok (.ireturn, 1) := by decide +kernel
theorem dJ0_charAt_5068e_0 : decode cJ0_charAt_5068e 0 = .ok (.aload_n 0, 1) := by decide +kernel
theorem dJ0_charAt_5068e_1 : decode cJ0_charAt_5068e 1 = .ok (.invokevirtual 492, 3) := by decide +kernel
theorem dJ0_charAt_5068e_4 : decode cJ0_charAt_5068e 4 = .ok (.ifCond .eq 12, 3) := by decide +kernel
theorem dJ0_charAt_5068e_7 : decode cJ0_charAt_5068e 7 = .ok (.aload_n 0, 1) := by decide +kernel
theorem dJ0_charAt_5068e_8 : decode cJ0_charAt_5068e 8 = .ok (.getfield 9, 3) := by decide +kernel
theorem dJ0_charAt_5068e_11 : decode cJ0_charAt_5068e 11 = .ok (.iload_n 1, 1) := by decide +kernel
theorem dJ0_charAt_5068e_12 : decode cJ0_charAt_5068e 12 = .ok (.invokestatic 495, 3) := by decide +kernel
theorem dJ0_charAt_5068e_15 : decode cJ0_charAt_5068e 15 = .ok (.ireturn, 1) := by decide +kernel
theorem dJ0_charAt_5068e_16 : decode cJ0_charAt_5068e 16 = .ok (.aload_n 0, 1) := by decide +kernel
theorem dJ0_charAt_5068e_17 : decode cJ0_charAt_5068e 17 = .ok (.getfield 9, 3) := by decide +kernel
theorem dJ0_charAt_5068e_20 : decode cJ0_charAt_5068e 20 = .ok (.iload_n 1, 1) := by decide +kernel
theorem dJ0_charAt_5068e_21 : decode cJ0_charAt_5068e 21 = .ok (.invokestatic 498, 3) := by decide +kernel
theorem dJ0_charAt_5068e_24 : decode cJ0_charAt_5068e 24 = .ok (.ireturn, 1) := by decide +kernel
theorem dJ0_coder_7d493_0 : decode cJ0_coder_7d493 0 = .ok (.getstatic 38, 3) := by decide +kernel
theorem dJ0_coder_7d493_3 : decode cJ0_coder_7d493 3 = .ok (.ifCond .eq 10, 3) := by decide +kernel
theorem dJ0_coder_7d493_6 : decode cJ0_coder_7d493 6 = .ok (.aload_n 0, 1) := by decide +kernel
theorem dJ0_coder_7d493_7 : decode cJ0_coder_7d493 7 = .ok (.getfield 15, 3) := by decide +kernel
theorem dJ0_coder_7d493_10 : decode cJ0_coder_7d493 10 = .ok (.goto 4, 3) := by decide +kernel
theorem dJ0_coder_7d493_13 : decode cJ0_coder_7d493 13 = .ok (.iconst 1, 1) := by decide +kernel
theorem dJ0_coder_7d493_14 : decode cJ0_coder_7d493 14 = .ok (.ireturn, 1) := by decide +kernel
theorem dJ0_isLatin1_aae02_0 : decode cJ0_isLatin1_aae02 0 = .ok (.getstatic 38, 3) := by decide +kernel
theorem dJ0_isLatin1_aae02_3 : decode cJ0_isLatin1_aae02 3 = .ok (.ifCond .eq 14, 3) := by decide +kernel
theorem dJ0_isLatin1_aae02_6 : decode cJ0_isLatin1_aae02 6 = .ok (.aload_n 0, 1) := by decide +kernel
theorem dJ0_isLatin1_aae02_7 : decode cJ0_isLatin1_aae02 7 = .ok (.getfield 15, 3) := by decide +kernel
theorem dJ0_isLatin1_aae02_10 : decode cJ0_isLatin1_aae02 10 = .ok (.ifCond .ne 7, 3) := by decide +kernel
theorem dJ0_isLatin1_aae02_13 : decode cJ0_isLatin1_aae02 13 = .ok (.iconst 1, 1) := by decide +kernel
theorem dJ0_isLatin1_aae02_14 : decode cJ0_isLatin1_aae02 14 = .ok (.goto 4, 3) := by decide +kernel
theorem dJ0_isLatin1_aae02_17 : decode cJ0_isLatin1_aae02 17 = .ok (.iconst 0, 1) := by decide +kernel
theorem dJ0_isLatin1_aae02_18 : decode cJ0_isLatin1_aae02 18 = .ok (.ireturn, 1) := by decide +kernel
theorem dJ0_checkIndex_df160_0 : decode cJ0_checkIndex_df160 0 = .ok (.iload_n 0, 1) := by decide +kernel
theorem dJ0_checkIndex_df160_1 : decode cJ0_checkIndex_df160 1 = .ok (.iload_n 1, 1) := by decide +kernel
theorem dJ0_checkIndex_df160_2 : decode cJ0_checkIndex_df160 2 = .ok (.getstatic 1053, 3) := by decide +kernel
theorem dJ0_checkIndex_df160_5 : decode cJ0_checkIndex_df160 5 = .ok (.invokestatic 1059, 3) := by decide +kernel
theorem dJ0_checkIndex_df160_8 : decode cJ0_checkIndex_df160 8 = .ok (.pop, 1) := by decide +kernel
theorem dJ0_checkIndex_df160_9 : decode cJ0_checkIndex_df160 9 = .ok (.return_, 1) := by decide +kernel
theorem dJ1_charAt_3b067_0 : decode cJ1_charAt_3b067 0 = .ok (.iload_n 1, 1) := by decide +kernel
theorem dJ1_charAt_3b067_1 : decode cJ1_charAt_3b067 1 = .ok (.aload_n 0, 1) := by decide +kernel
theorem dJ1_charAt_3b067_2 : decode cJ1_charAt_3b067 2 = .ok (.arraylength, 1) := by decide +kernel
theorem dJ1_charAt_3b067_3 : decode cJ1_charAt_3b067 3 = .ok (.invokestatic 9, 3) := by decide +kernel
theorem dJ1_charAt_3b067_6 : decode cJ1_charAt_3b067 6 = .ok (.aload_n 0, 1) := by decide +kernel
theorem dJ1_charAt_3b067_7 : decode cJ1_charAt_3b067 7 = .ok (.iload_n 1, 1) := by decide +kernel
theorem dJ1_charAt_3b067_8 : decode cJ1_charAt_3b067 8 = .ok (.baload, 1) := by decide +kernel
theorem dJ1_charAt_3b067_9 : decode cJ1_charAt_3b067 9 = .ok (.sipush 255, 3) := by decide +kernel
theorem dJ1_charAt_3b067_12 : decode cJ1_charAt_3b067 12 = .ok (.iand, 1) := by decide +kernel
theorem dJ1_charAt_3b067_13 : decode cJ1_charAt_3b067 13 = .ok (.i2c, 1) := by decide +kernel
theorem dJ1_charAt_3b067_14 : decode cJ1_charAt_3b067 14 = .ok (.ireturn, 1) := by decide +kernel
theorem dJ2_getChar_3b067_0 : decode cJ2_getChar_3b067 0 = .ok (.getstatic 44, 3) := by decide +kernel
theorem dJ2_getChar_3b067_3 : decode cJ2_getChar_3b067 3 = .ok (.ifCond .ne 25, 3) := by decide +kernel
theorem dJ2_getChar_3b067_6 : decode cJ2_getChar_3b067 6 = .ok (.iload_n 1, 1) := by decide +kernel
theorem dJ2_getChar_3b067_7 : decode cJ2_getChar_3b067 7 = .ok (.ifCond .lt 11, 3) := by decide +kernel
theorem dJ2_getChar_3b067_10 : decode cJ2_getChar_3b067 10 = .ok (.iload_n 1, 1) := by decide +kernel
theorem dJ2_getChar_3b067_11 : decode cJ2_getChar_3b067 11 = .ok (.aload_n 0, 1) := by decide +kernel
theorem dJ2_getChar_3b067_12 : decode cJ2_getChar_3b067 12 = .ok (.invokestatic 48, 3) := by decide +kernel
theorem dJ2_getChar_3b067_15 : decode cJ2_getChar_3b067 15 = .ok (.if_icmp .lt 13, 3) := by decide +kernel
theorem dJ2_getChar_3b067_18 : decode cJ2_getChar_3b067 18 = .ok (.new 52, 3) := by decide +kernel
theorem dJ2_getChar_3b067_21 : decode cJ2_getChar_3b067 21 = .ok (.dup, 1) := by decide +kernel
theorem dJ2_getChar_3b067_22 : decode cJ2_getChar_3b067 22 = .ok (.ldc 54, 2) := by decide +kernel
theorem dJ2_getChar_3b067_24 : decode cJ2_getChar_3b067 24 = .ok (.invokespecial 56, 3) := by decide +kernel
theorem dJ2_getChar_3b067_27 : decode cJ2_getChar_3b067 27 = .ok (.athrow, 1) := by decide +kernel
theorem dJ2_getChar_3b067_28 : decode cJ2_getChar_3b067 28 = .ok (.iload_n 1, 1) := by decide +kernel
theorem dJ2_getChar_3b067_29 : decode cJ2_getChar_3b067 29 = .ok (.iconst 1, 1) := by decide +kernel
theorem dJ2_getChar_3b067_30 : decode cJ2_getChar_3b067 30 = .ok (.ishl, 1) := by decide +kernel
theorem dJ2_getChar_3b067_31 : decode cJ2_getChar_3b067 31 = .ok (.istore_n 1, 1) := by decide +kernel
theorem dJ2_getChar_3b067_32 : decode cJ2_getChar_3b067 32 = .ok (.aload_n 0, 1) := by decide +kernel
theorem dJ2_getChar_3b067_33 : decode cJ2_getChar_3b067 33 = .ok (.iload_n 1, 1) := by decide +kernel
theorem dJ2_getChar_3b067_34 : decode cJ2_getChar_3b067 34 = .ok (.iinc 1 1, 3) := by decide +kernel
theorem dJ2_getChar_3b067_37 : decode cJ2_getChar_3b067 37 = .ok (.baload, 1) := by decide +kernel
theorem dJ2_getChar_3b067_38 : decode cJ2_getChar_3b067 38 = .ok (.sipush 255, 3) := by decide +kernel
theorem dJ2_getChar_3b067_41 : decode cJ2_getChar_3b067 41 = .ok (.iand, 1) := by decide +kernel
theorem dJ2_getChar_3b067_42 : decode cJ2_getChar_3b067 42 = .ok (.getstatic 59, 3) := by decide +kernel
theorem dJ2_getChar_3b067_45 : decode cJ2_getChar_3b067 45 = .ok (.ishl, 1) := by decide +kernel
theorem dJ2_getChar_3b067_46 : decode cJ2_getChar_3b067 46 = .ok (.aload_n 0, 1) := by decide +kernel
theorem dJ2_getChar_3b067_47 : decode cJ2_getChar_3b067 47 = .ok (.iload_n 1, 1) := by decide +kernel
theorem dJ2_getChar_3b067_48 : decode cJ2_getChar_3b067 48 = .ok (.baload, 1) := by decide +kernel
theorem dJ2_getChar_3b067_49 : decode cJ2_getChar_3b067 49 = .ok (.sipush 255, 3) := by decide +kernel
theorem dJ2_getChar_3b067_52 : decode cJ2_getChar_3b067 52 = .ok (.iand, 1) := by decide +kernel
theorem dJ2_getChar_3b067_53 : decode cJ2_getChar_3b067 53 = .ok (.getstatic 63, 3) := by decide +kernel
theorem dJ2_getChar_3b067_56 : decode cJ2_getChar_3b067 56 = .ok (.ishl, 1) := by decide +kernel
theorem dJ2_getChar_3b067_57 : decode cJ2_getChar_3b067 57 = .ok (.ior, 1) := by decide +kernel
theorem dJ2_getChar_3b067_58 : decode cJ2_getChar_3b067 58 = .ok (.i2c, 1) := by decide +kernel
theorem dJ2_getChar_3b067_59 : decode cJ2_getChar_3b067 59 = .ok (.ireturn, 1) := by decide +kernel
theorem dJ2_length_9d52b_0 : decode cJ2_length_9d52b 0 = .ok (.aload_n 0, 1) := by decide +kernel
theorem dJ2_length_9d52b_1 : decode cJ2_length_9d52b 1 = .ok (.arraylength, 1) := by decide +kernel
theorem dJ2_length_9d52b_2 : decode cJ2_length_9d52b 2 = .ok (.iconst 1, 1) := by decide +kernel
theorem dJ2_length_9d52b_3 : decode cJ2_length_9d52b 3 = .ok (.ishr, 1) := by decide +kernel
theorem dJ2_length_9d52b_4 : decode cJ2_length_9d52b 4 = .ok (.ireturn, 1) := by decide +kernel
theorem dJ2_charAt_3b067_0 : decode cJ2_charAt_3b067 0 = .ok (.iload_n 1, 1) := by decide +kernel
theorem dJ2_charAt_3b067_1 : decode cJ2_charAt_3b067 1 = .ok (.aload_n 0, 1) := by decide +kernel
theorem dJ2_charAt_3b067_2 : decode cJ2_charAt_3b067 2 = .ok (.invokestatic 67, 3) := by decide +kernel
theorem dJ2_charAt_3b067_5 : decode cJ2_charAt_3b067 5 = .ok (.aload_n 0, 1) := by decide +kernel
theorem dJ2_charAt_3b067_6 : decode cJ2_charAt_3b067 6 = .ok (.iload_n 1, 1) := by decide +kernel
theorem dJ2_charAt_3b067_7 : decode cJ2_charAt_3b067 7 = .ok (.invokestatic 71, 3) := by decide +kernel
theorem dJ2_charAt_3b067_10 : decode cJ2_charAt_3b067 10 = .ok (.ireturn, 1) := by decide +kernel
theorem dJ2_checkIndex_2214a_0 : decode cJ2_checkIndex_2214a 0 = .ok (.iload_n 0, 1) := by decide +kernel
theorem dJ2_checkIndex_2214a_1 : decode cJ2_checkIndex_2214a 1 = .ok (.aload_n 1, 1) := by decide +kernel
theorem dJ2_checkIndex_2214a_2 : decode cJ2_checkIndex_2214a 2 = .ok (.invokestatic 48, 3) := by decide +kernel
theorem dJ2_checkIndex_2214a_5 : decode cJ2_checkIndex_2214a 5 = .ok (.invokestatic 414, 3) := by decide +kernel
theorem dJ2_checkIndex_2214a_8 : decode cJ2_checkIndex_2214a 8 = .ok (.return_, 1) := by decide +kernel
theorem dJ3_checkIndex_8e157_0 : decode cJ3_checkIndex_8e157 0 = .ok (.iload_n 0, 1) := by decide +kernel
theorem dJ3_checkIndex_8e157_1 : decode cJ3_checkIndex_8e157 1 = .ok (.ifCond .lt 8, 3) := by decide +kernel
theorem dJ3_checkIndex_8e157_4 : decode cJ3_checkIndex_8e157 4 = .ok (.iload_n 0, 1) := by decide +kernel
theorem dJ3_checkIndex_8e157_5 : decode cJ3_checkIndex_8e157 5 = .ok (.iload_n 1, 1) := by decide +kernel
theorem dJ3_checkIndex_8e157_6 : decode cJ3_checkIndex_8e157 6 = .ok (.if_icmp .lt 10, 3) := by decide +kernel
theorem dJ3_checkIndex_8e157_9 : decode cJ3_checkIndex_8e157 9 = .ok (.aload_n 2, 1) := by decide +kernel
theorem dJ3_checkIndex_8e157_10 : decode cJ3_checkIndex_8e157 10 = .ok (.iload_n 0, 1) := by decide +kernel
theorem dJ3_checkIndex_8e157_11 : decode cJ3_checkIndex_8e157 11 = .ok (.iload_n 1, 1) := by decide +kernel
theorem dJ3_checkIndex_8e157_12 : decode cJ3_checkIndex_8e157 12 = .ok (.invokestatic 95, 3) := by decide +kernel
theorem dJ3_checkIndex_8e157_15 : decode cJ3_checkIndex_8e157 15 = .ok (.athrow, 1) := by decide +kernel
theorem dJ3_checkIndex_8e157_16 : decode cJ3_checkIndex_8e157 16 = .ok (.iload_n 0, 1) := by decide +kernel
theorem dJ3_checkIndex_8e157_17 : decode cJ3_checkIndex_8e157 17 = .ok (.ireturn, 1) := by decide +kernel

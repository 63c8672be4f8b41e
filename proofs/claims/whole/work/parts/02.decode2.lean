theorem dX9_toss_43 : decode cX9_toss 43 = .ok (.aload_n 0, 1) := by decide +kernel
theorem dX9_toss_44 : decode cX9_toss 44 = .ok (.getfield 19, 3) := by decide +kernel
theorem dX9_toss_47 : decode cX9_toss 47 = .ok (.dup, 1) := by decide +kernel
theorem dX9_toss_48 : decode cX9_toss 48 = .ok (.getfield 111, 3) := by decide +kernel
theorem dX9_toss_51 : decode cX9_toss 51 = .ok (.iconst 1, 1) := by decide +kernel
theorem dX9_toss_52 : decode cX9_toss 52 = .ok (.isub, 1) := by decide +kernel
theorem dX9_toss_53 : decode cX9_toss 53 = .ok (.putfield 111, 3) := by decide +kernel
theorem dX9_toss_56 : decode cX9_toss 56 = .ok (.aload_n 0, 1) := by decide +kernel
theorem dX9_toss_57 : decode cX9_toss 57 = .ok (.getfield 19, 3) := by decide +kernel
theorem dX9_toss_60 : decode cX9_toss 60 = .ok (.aload_n 0, 1) := by decide +kernel
theorem dX9_toss_61 : decode cX9_toss 61 = .ok (.getfield 68, 3) := by decide +kernel
theorem dX9_toss_64 : decode cX9_toss 64 = .ok (.iload_n 1, 1) := by decide +kernel
theorem dX9_toss_65 : decode cX9_toss 65 = .ok (.iload_n 2, 1) := by decide +kernel
theorem dX9_toss_66 : decode cX9_toss 66 = .ok (.iload_n 3, 1) := by decide +kernel
theorem dX9_toss_67 : decode cX9_toss 67 = .ok (.invokevirtual 182, 3) := by decide +kernel
theorem dX9_toss_70 : decode cX9_toss 70 = .ok (.ireturn, 1) := by decide +kernel
theorem dX9_set_0 : decode cX9_set 0 = .ok (.aload_n 0, 1) := by decide +kernel
theorem dX9_set_1 : decode cX9_set 1 = .ok (.getfield 68, 3) := by decide +kernel
theorem dX9_set_4 : decode cX9_set 4 = .ok (.iload_n 1, 1) := by decide +kernel
theorem dX9_set_5 : decode cX9_set 5 = .ok (.invokevirtual 121, 3) := by decide +kernel
theorem dX9_set_8 : decode cX9_set 8 = .ok (.ifCond .ne 5, 3) := by decide +kernel
theorem dX9_set_11 : decode cX9_set 11 = .ok (.iconst (-1), 1) := by decide +kernel
theorem dX9_set_12 : decode cX9_set 12 = .ok (.ireturn, 1) := by decide +kernel
theorem dX9_set_13 : decode cX9_set 13 = .ok (.aload_n 0, 1) := by decide +kernel
theorem dX9_set_14 : decode cX9_set 14 = .ok (.getfield 19, 3) := by decide +kernel
theorem dX9_set_17 : decode cX9_set 17 = .ok (.iload_n 1, 1) := by decide +kernel
theorem dX9_set_18 : decode cX9_set 18 = .ok (.invokevirtual 186, 3) := by decide +kernel
theorem dX9_set_21 : decode cX9_set 21 = .ok (.ifCond .eq 6, 3) := by decide +kernel
theorem dX9_set_24 : decode cX9_set 24 = .ok (.bipush (-3), 2) := by decide +kernel
theorem dX9_set_26 : decode cX9_set 26 = .ok (.ireturn, 1) := by decide +kernel
theorem dX9_set_27 : decode cX9_set 27 = .ok (.aload_n 0, 1) := by decide +kernel
theorem dX9_set_28 : decode cX9_set 28 = .ok (.getfield 26, 3) := by decide +kernel
theorem dX9_set_31 : decode cX9_set 31 = .ok (.aload_n 0, 1) := by decide +kernel
theorem dX9_set_32 : decode cX9_set 32 = .ok (.getfield 19, 3) := by decide +kernel
theorem dX9_set_35 : decode cX9_set 35 = .ok (.invokevirtual 178, 3) := by decide +kernel
theorem dX9_set_38 : decode cX9_set 38 = .ok (.aload_n 0, 1) := by decide +kernel
theorem dX9_set_39 : decode cX9_set 39 = .ok (.getfield 19, 3) := by decide +kernel
theorem dX9_set_42 : decode cX9_set 42 = .ok (.iload_n 1, 1) := by decide +kernel
theorem dX9_set_43 : decode cX9_set 43 = .ok (.invokevirtual 189, 3) := by decide +kernel
theorem dX9_set_46 : decode cX9_set 46 = .ok (.pop, 1) := by decide +kernel
theorem dX9_set_47 : decode cX9_set 47 = .ok (.aload_n 0, 1) := by decide +kernel
theorem dX9_set_48 : decode cX9_set 48 = .ok (.getfield 19, 3) := by decide +kernel
theorem dX9_set_51 : decode cX9_set 51 = .ok (.aload_n 0, 1) := by decide +kernel
theorem dX9_set_52 : decode cX9_set 52 = .ok (.getfield 68, 3) := by decide +kernel
theorem dX9_set_55 : decode cX9_set 55 = .ok (.iload_n 1, 1) := by decide +kernel
theorem dX9_set_56 : decode cX9_set 56 = .ok (.invokevirtual 134, 3) := by decide +kernel
theorem dX9_set_59 : decode cX9_set 59 = .ok (.ireturn, 1) := by decide +kernel
theorem dX9_nail_0 : decode cX9_nail 0 = .ok (.aload_n 0, 1) := by decide +kernel
theorem dX9_nail_1 : decode cX9_nail 1 = .ok (.getfield 68, 3) := by decide +kernel
theorem dX9_nail_4 : decode cX9_nail 4 = .ok (.iload_n 1, 1) := by decide +kernel
theorem dX9_nail_5 : decode cX9_nail 5 = .ok (.invokevirtual 121, 3) := by decide +kernel
theorem dX9_nail_8 : decode cX9_nail 8 = .ok (.ifCond .ne 5, 3) := by decide +kernel
theorem dX9_nail_11 : decode cX9_nail 11 = .ok (.iconst (-1), 1) := by decide +kernel
theorem dX9_nail_12 : decode cX9_nail 12 = .ok (.ireturn, 1) := by decide +kernel
theorem dX9_nail_13 : decode cX9_nail 13 = .ok (.aload_n 0, 1) := by decide +kernel
theorem dX9_nail_14 : decode cX9_nail 14 = .ok (.getfield 19, 3) := by decide +kernel
theorem dX9_nail_17 : decode cX9_nail 17 = .ok (.iload_n 1, 1) := by decide +kernel
theorem dX9_nail_18 : decode cX9_nail 18 = .ok (.invokevirtual 186, 3) := by decide +kernel
theorem dX9_nail_21 : decode cX9_nail 21 = .ok (.ifCond .ne 6, 3) := by decide +kernel
theorem dX9_nail_24 : decode cX9_nail 24 = .ok (.bipush (-3), 2) := by decide +kernel
theorem dX9_nail_26 : decode cX9_nail 26 = .ok (.ireturn, 1) := by decide +kernel
theorem dX9_nail_27 : decode cX9_nail 27 = .ok (.aload_n 0, 1) := by decide +kernel
theorem dX9_nail_28 : decode cX9_nail 28 = .ok (.getfield 26, 3) := by decide +kernel
theorem dX9_nail_31 : decode cX9_nail 31 = .ok (.aload_n 0, 1) := by decide +kernel
theorem dX9_nail_32 : decode cX9_nail 32 = .ok (.getfield 19, 3) := by decide +kernel
theorem dX9_nail_35 : decode cX9_nail 35 = .ok (.invokevirtual 178, 3) := by decide +kernel
theorem dX9_nail_38 : decode cX9_nail 38 = .ok (.aload_n 0, 1) := by decide +kernel
theorem dX9_nail_39 : decode cX9_nail 39 = .ok (.getfield 19, 3) := by decide +kernel
theorem dX9_nail_42 : decode cX9_nail 42 = .ok (.iload_n 1, 1) := by decide +kernel
theorem dX9_nail_43 : decode cX9_nail 43 = .ok (.invokevirtual 192, 3) := by decide +kernel
theorem dX9_nail_46 : decode cX9_nail 46 = .ok (.pop, 1) := by decide +kernel
theorem dX9_nail_47 : decode cX9_nail 47 = .ok (.aload_n 0, 1) := by decide +kernel
theorem dX9_nail_48 : decode cX9_nail 48 = .ok (.getfield 19, 3) := by decide +kernel
theorem dX9_nail_51 : decode cX9_nail 51 = .ok (.aload_n 0, 1) := by decide +kernel
theorem dX9_nail_52 : decode cX9_nail 52 = .ok (.getfield 68, 3) := by decide +kernel
theorem dX9_nail_55 : decode cX9_nail 55 = .ok (.iload_n 1, 1) := by decide +kernel
theorem dX9_nail_56 : decode cX9_nail 56 = .ok (.invokevirtual 134, 3) := by decide +kernel
theorem dX9_nail_59 : decode cX9_nail 59 = .ok (.ireturn, 1) := by decide +kernel
theorem dX9_pay_0 : decode cX9_pay 0 = .ok (.aload_n 0, 1) := by decide +kernel
theorem dX9_pay_1 : decode cX9_pay 1 = .ok (.getfield 19, 3) := by decide +kernel
theorem dX9_pay_4 : decode cX9_pay 4 = .ok (.getfield 111, 3) := by decide +kernel
theorem dX9_pay_7 : decode cX9_pay 7 = .ok (.bipush 9, 2) := by decide +kernel
theorem dX9_pay_9 : decode cX9_pay 9 = .ok (.if_icmp .lt 6, 3) := by decide +kernel
theorem dX9_pay_12 : decode cX9_pay 12 = .ok (.bipush (-3), 2) := by decide +kernel
theorem dX9_pay_14 : decode cX9_pay 14 = .ok (.ireturn, 1) := by decide +kernel
theorem dX9_pay_15 : decode cX9_pay 15 = .ok (.aload_n 0, 1) := by decide +kernel
theorem dX9_pay_16 : decode cX9_pay 16 = .ok (.getfield 26, 3) := by decide +kernel
theorem dX9_pay_19 : decode cX9_pay 19 = .ok (.aload_n 0, 1) := by decide +kernel
theorem dX9_pay_20 : decode cX9_pay 20 = .ok (.getfield 19, 3) := by decide +kernel
theorem dX9_pay_23 : decode cX9_pay 23 = .ok (.invokevirtual 178, 3) := by decide +kernel
theorem dX9_pay_26 : decode cX9_pay 26 = .ok (.aload_n 0, 1) := by decide +kernel
theorem dX9_pay_27 : decode cX9_pay 27 = .ok (.getfield 19, 3) := by decide +kernel
theorem dX9_pay_30 : decode cX9_pay 30 = .ok (.invokevirtual 195, 3) := by decide +kernel
theorem dX9_pay_33 : decode cX9_pay 33 = .ok (.pop, 1) := by decide +kernel
theorem dX9_pay_34 : decode cX9_pay 34 = .ok (.aload_n 0, 1) := by decide +kernel
theorem dX9_pay_35 : decode cX9_pay 35 = .ok (.getfield 19, 3) := by decide +kernel
theorem dX9_pay_38 : decode cX9_pay 38 = .ok (.getfield 111, 3) := by decide +kernel
theorem dX9_pay_41 : decode cX9_pay 41 = .ok (.ireturn, 1) := by decide +kernel
theorem dX9_blow_0 : decode cX9_blow 0 = .ok (.iload_n 1, 1) := by decide +kernel
theorem dX9_blow_1 : decode cX9_blow 1 = .ok (.ifCond .lt 8, 3) := by decide +kernel
theorem dX9_blow_4 : decode cX9_blow 4 = .ok (.iload_n 1, 1) := by decide +kernel
theorem dX9_blow_5 : decode cX9_blow 5 = .ok (.iconst 2, 1) := by decide +kernel
theorem dX9_blow_6 : decode cX9_blow 6 = .ok (.if_icmp .le 6, 3) := by decide +kernel
theorem dX9_blow_9 : decode cX9_blow 9 = .ok (.bipush (-2), 2) := by decide +kernel
theorem dX9_blow_11 : decode cX9_blow 11 = .ok (.ireturn, 1) := by decide +kernel
theorem dX9_blow_12 : decode cX9_blow 12 = .ok (.iload_n 1, 1) := by decide +kernel
theorem dX9_blow_13 : decode cX9_blow 13 = .ok (.aload_n 0, 1) := by decide +kernel
theorem dX9_blow_14 : decode cX9_blow 14 = .ok (.getfield 19, 3) := by decide +kernel
theorem dX9_blow_17 : decode cX9_blow 17 = .ok (.getfield 108, 3) := by decide +kernel
theorem dX9_blow_20 : decode cX9_blow 20 = .ok (.if_icmp .ne 6, 3) := by decide +kernel
theorem dX9_blow_23 : decode cX9_blow 23 = .ok (.bipush (-3), 2) := by decide +kernel
theorem dX9_blow_25 : decode cX9_blow 25 = .ok (.ireturn, 1) := by decide +kernel
theorem dX9_blow_26 : decode cX9_blow 26 = .ok (.aload_n 0, 1) := by decide +kernel
theorem dX9_blow_27 : decode cX9_blow 27 = .ok (.getfield 26, 3) := by decide +kernel
theorem dX9_blow_30 : decode cX9_blow 30 = .ok (.aload_n 0, 1) := by decide +kernel
theorem dX9_blow_31 : decode cX9_blow 31 = .ok (.getfield 19, 3) := by decide +kernel
theorem dX9_blow_34 : decode cX9_blow 34 = .ok (.invokevirtual 178, 3) := by decide +kernel
theorem dX9_blow_37 : decode cX9_blow 37 = .ok (.aload_n 0, 1) := by decide +kernel
theorem dX9_blow_38 : decode cX9_blow 38 = .ok (.getfield 19, 3) := by decide +kernel
theorem dX9_blow_41 : decode cX9_blow 41 = .ok (.getfield 108, 3) := by decide +kernel
theorem dX9_blow_44 : decode cX9_blow 44 = .ok (.istore_n 2, 1) := by decide +kernel
theorem dX9_blow_45 : decode cX9_blow 45 = .ok (.aload_n 0, 1) := by decide +kernel
theorem dX9_blow_46 : decode cX9_blow 46 = .ok (.getfield 19, 3) := by decide +kernel
theorem dX9_blow_49 : decode cX9_blow 49 = .ok (.iload_n 1, 1) := by decide +kernel
theorem dX9_blow_50 : decode cX9_blow 50 = .ok (.putfield 108, 3) := by decide +kernel
theorem dX9_blow_53 : decode cX9_blow 53 = .ok (.iload_n 2, 1) := by decide +kernel
theorem dX9_blow_54 : decode cX9_blow 54 = .ok (.ireturn, 1) := by decide +kernel
theorem dX9_undo_0 : decode cX9_undo 0 = .ok (.aload_n 0, 1) := by decide +kernel
theorem dX9_undo_1 : decode cX9_undo 1 = .ok (.getfield 26, 3) := by decide +kernel
theorem dX9_undo_4 : decode cX9_undo 4 = .ok (.aload_n 0, 1) := by decide +kernel
theorem dX9_undo_5 : decode cX9_undo 5 = .ok (.getfield 19, 3) := by decide +kernel
theorem dX9_undo_8 : decode cX9_undo 8 = .ok (.invokevirtual 199, 3) := by decide +kernel
theorem dX9_undo_11 : decode cX9_undo 11 = .ok (.ifCond .eq 13, 3) := by decide +kernel
theorem dX9_undo_14 : decode cX9_undo 14 = .ok (.aload_n 0, 1) := by decide +kernel
theorem dX9_undo_15 : decode cX9_undo 15 = .ok (.getfield 26, 3) := by decide +kernel
theorem dX9_undo_18 : decode cX9_undo 18 = .ok (.getfield 117, 3) := by decide +kernel
theorem dX9_undo_21 : decode cX9_undo 21 = .ok (.goto 5, 3) := by decide +kernel
theorem dX9_undo_24 : decode cX9_undo 24 = .ok (.bipush (-3), 2) := by decide +kernel
theorem dX9_undo_26 : decode cX9_undo 26 = .ok (.ireturn, 1) := by decide +kernel
theorem dX9_felled_0 : decode cX9_felled 0 = .ok (.aload_n 0, 1) := by decide +kernel
theorem dX9_felled_1 : decode cX9_felled 1 = .ok (.iload_n 1, 1) := by decide +kernel
theorem dX9_felled_2 : decode cX9_felled 2 = .ok (.iload_n 2, 1) := by decide +kernel
theorem dX9_felled_3 : decode cX9_felled 3 = .ok (.iload_n 3, 1) := by decide +kernel
theorem dX9_felled_4 : decode cX9_felled 4 = .ok (.invokevirtual 170, 3) := by decide +kernel
theorem dX9_felled_7 : decode cX9_felled 7 = .ok (.istore 4, 2) := by decide +kernel
theorem dX9_felled_9 : decode cX9_felled 9 = .ok (.iload 4, 2) := by decide +kernel
theorem dX9_felled_11 : decode cX9_felled 11 = .ok (.bipush (-9), 2) := by decide +kernel
theorem dX9_felled_13 : decode cX9_felled 13 = .ok (.if_icmp .eq 8, 3) := by decide +kernel
theorem dX9_felled_16 : decode cX9_felled 16 = .ok (.iload 4, 2) := by decide +kernel
theorem dX9_felled_18 : decode cX9_felled 18 = .ok (.goto 21, 3) := by decide +kernel
theorem dX9_felled_21 : decode cX9_felled 21 = .ok (.aload_n 0, 1) := by decide +kernel
theorem dX9_felled_22 : decode cX9_felled 22 = .ok (.getfield 47, 3) := by decide +kernel
theorem dX9_felled_25 : decode cX9_felled 25 = .ok (.aload_n 0, 1) := by decide +kernel
theorem dX9_felled_26 : decode cX9_felled 26 = .ok (.getfield 68, 3) := by decide +kernel
theorem dX9_felled_29 : decode cX9_felled 29 = .ok (.aload_n 0, 1) := by decide +kernel
theorem dX9_felled_30 : decode cX9_felled 30 = .ok (.getfield 19, 3) := by decide +kernel
theorem dX9_felled_33 : decode cX9_felled 33 = .ok (.iload_n 1, 1) := by decide +kernel
theorem dX9_felled_34 : decode cX9_felled 34 = .ok (.iload_n 2, 1) := by decide +kernel
theorem dX9_felled_35 : decode cX9_felled 35 = .ok (.iload_n 3, 1) := by decide +kernel
theorem dX9_felled_36 : decode cX9_felled 36 = .ok (.invokevirtual 203, 3) := by decide +kernel
theorem dX9_felled_39 : decode cX9_felled 39 = .ok (.ireturn, 1) := by decide +kernel
theorem dX9_fewest_0 : decode cX9_fewest 0 = .ok (.aload_n 0, 1) := by decide +kernel
theorem dX9_fewest_1 : decode cX9_fewest 1 = .ok (.getfield 68, 3) := by decide +kernel
theorem dX9_fewest_4 : decode cX9_fewest 4 = .ok (.iload_n 1, 1) := by decide +kernel
theorem dX9_fewest_5 : decode cX9_fewest 5 = .ok (.invokevirtual 121, 3) := by decide +kernel
theorem dX9_fewest_8 : decode cX9_fewest 8 = .ok (.ifCond .ne 5, 3) := by decide +kernel
theorem dX9_fewest_11 : decode cX9_fewest 11 = .ok (.iconst (-1), 1) := by decide +kernel
theorem dX9_fewest_12 : decode cX9_fewest 12 = .ok (.ireturn, 1) := by decide +kernel
theorem dX9_fewest_13 : decode cX9_fewest 13 = .ok (.iconst 0, 1) := by decide +kernel
theorem dX9_fewest_14 : decode cX9_fewest 14 = .ok (.istore_n 3, 1) := by decide +kernel
theorem dX9_fewest_15 : decode cX9_fewest 15 = .ok (.iload_n 3, 1) := by decide +kernel
theorem dX9_fewest_16 : decode cX9_fewest 16 = .ok (.iconst 3, 1) := by decide +kernel
theorem dX9_fewest_17 : decode cX9_fewest 17 = .ok (.if_icmp .gt 46, 3) := by decide +kernel
theorem dX9_fewest_20 : decode cX9_fewest 20 = .ok (.aload_n 0, 1) := by decide +kernel
theorem dX9_fewest_21 : decode cX9_fewest 21 = .ok (.getfield 47, 3) := by decide +kernel
theorem dX9_fewest_24 : decode cX9_fewest 24 = .ok (.aload_n 0, 1) := by decide +kernel
theorem dX9_fewest_25 : decode cX9_fewest 25 = .ok (.getfield 68, 3) := by decide +kernel
theorem dX9_fewest_28 : decode cX9_fewest 28 = .ok (.aload_n 0, 1) := by decide +kernel
theorem dX9_fewest_29 : decode cX9_fewest 29 = .ok (.getfield 19, 3) := by decide +kernel
theorem dX9_fewest_32 : decode cX9_fewest 32 = .ok (.iload_n 1, 1) := by decide +kernel
theorem dX9_fewest_33 : decode cX9_fewest 33 = .ok (.iload_n 3, 1) := by decide +kernel
theorem dX9_fewest_34 : decode cX9_fewest 34 = .ok (.invokevirtual 207, 3) := by decide +kernel
theorem dX9_fewest_37 : decode cX9_fewest 37 = .ok (.istore 4, 2) := by decide +kernel
theorem dX9_fewest_39 : decode cX9_fewest 39 = .ok (.iload 4, 2) := by decide +kernel
theorem dX9_fewest_41 : decode cX9_fewest 41 = .ok (.bipush (-9), 2) := by decide +kernel
theorem dX9_fewest_43 : decode cX9_fewest 43 = .ok (.if_icmp .eq 14, 3) := by decide +kernel
theorem dX9_fewest_46 : decode cX9_fewest 46 = .ok (.iload_n 2, 1) := by decide +kernel
theorem dX9_fewest_47 : decode cX9_fewest 47 = .ok (.ifCond .eq 8, 3) := by decide +kernel
theorem dX9_fewest_50 : decode cX9_fewest 50 = .ok (.iload 4, 2) := by decide +kernel
theorem dX9_fewest_52 : decode cX9_fewest 52 = .ok (.goto 4, 3) := by decide +kernel
theorem dX9_fewest_55 : decode cX9_fewest 55 = .ok (.iload_n 3, 1) := by decide +kernel
theorem dX9_fewest_56 : decode cX9_fewest 56 = .ok (.ireturn, 1) := by decide +kernel
theorem dX9_fewest_57 : decode cX9_fewest 57 = .ok (.iinc 3 1, 3) := by decide +kernel
theorem dX9_fewest_60 : decode cX9_fewest 60 = .ok (.goto (-45), 3) := by decide +kernel
theorem dX9_fewest_63 : decode cX9_fewest 63 = .ok (.bipush (-9), 2) := by decide +kernel
theorem dX9_fewest_65 : decode cX9_fewest 65 = .ok (.ireturn, 1) := by decide +kernel
theorem dX9_winds_0 : decode cX9_winds 0 = .ok (.aload_n 0, 1) := by decide +kernel
theorem dX9_winds_1 : decode cX9_winds 1 = .ok (.getfield 68, 3) := by decide +kernel
theorem dX9_winds_4 : decode cX9_winds 4 = .ok (.iload_n 1, 1) := by decide +kernel
theorem dX9_winds_5 : decode cX9_winds 5 = .ok (.invokevirtual 154, 3) := by decide +kernel
theorem dX9_winds_8 : decode cX9_winds 8 = .ok (.ifCond .eq 14, 3) := by decide +kernel
theorem dX9_winds_11 : decode cX9_winds 11 = .ok (.aload_n 0, 1) := by decide +kernel
theorem dX9_winds_12 : decode cX9_winds 12 = .ok (.getfield 68, 3) := by decide +kernel
theorem dX9_winds_15 : decode cX9_winds 15 = .ok (.iload_n 2, 1) := by decide +kernel
theorem dX9_winds_16 : decode cX9_winds 16 = .ok (.invokevirtual 121, 3) := by decide +kernel
theorem dX9_winds_19 : decode cX9_winds 19 = .ok (.ifCond .ne 5, 3) := by decide +kernel
theorem dX9_winds_22 : decode cX9_winds 22 = .ok (.iconst (-1), 1) := by decide +kernel
theorem dX9_winds_23 : decode cX9_winds 23 = .ok (.ireturn, 1) := by decide +kernel
theorem dX9_winds_24 : decode cX9_winds 24 = .ok (.aload_n 0, 1) := by decide +kernel
theorem dX9_winds_25 : decode cX9_winds 25 = .ok (.getfield 19, 3) := by decide +kernel
theorem dX9_winds_28 : decode cX9_winds 28 = .ok (.iload_n 2, 1) := by decide +kernel
theorem dX9_winds_29 : decode cX9_winds 29 = .ok (.invokevirtual 186, 3) := by decide +kernel
theorem dX9_winds_32 : decode cX9_winds 32 = .ok (.ifCond .ne 5, 3) := by decide +kernel
theorem dX9_winds_35 : decode cX9_winds 35 = .ok (.iconst 0, 1) := by decide +kernel
theorem dX9_winds_36 : decode cX9_winds 36 = .ok (.ireturn, 1) := by decide +kernel
theorem dX9_winds_37 : decode cX9_winds 37 = .ok (.iconst 0, 1) := by decide +kernel
theorem dX9_winds_38 : decode cX9_winds 38 = .ok (.istore_n 3, 1) := by decide +kernel
theorem dX9_winds_39 : decode cX9_winds 39 = .ok (.iconst 0, 1) := by decide +kernel
theorem dX9_winds_40 : decode cX9_winds 40 = .ok (.istore 4, 2) := by decide +kernel
theorem dX9_winds_42 : decode cX9_winds 42 = .ok (.iload 4, 2) := by decide +kernel
theorem dX9_winds_44 : decode cX9_winds 44 = .ok (.iconst 2, 1) := by decide +kernel
theorem dX9_winds_45 : decode cX9_winds 45 = .ok (.if_icmp .gt 30, 3) := by decide +kernel
theorem dX9_winds_48 : decode cX9_winds 48 = .ok (.aload_n 0, 1) := by decide +kernel
theorem dX9_winds_49 : decode cX9_winds 49 = .ok (.getfield 68, 3) := by decide +kernel
theorem dX9_winds_52 : decode cX9_winds 52 = .ok (.iload_n 1, 1) := by decide +kernel
theorem dX9_winds_53 : decode cX9_winds 53 = .ok (.iload_n 2, 1) := by decide +kernel
theorem dX9_winds_54 : decode cX9_winds 54 = .ok (.iload 4, 2) := by decide +kernel
theorem dX9_winds_56 : decode cX9_winds 56 = .ok (.invokevirtual 211, 3) := by decide +kernel
theorem dX9_winds_59 : decode cX9_winds 59 = .ok (.ifCond .eq 10, 3) := by decide +kernel
theorem dX9_winds_62 : decode cX9_winds 62 = .ok (.iload_n 3, 1) := by decide +kernel
theorem dX9_winds_63 : decode cX9_winds 63 = .ok (.iconst 1, 1) := by decide +kernel
theorem dX9_winds_64 : decode cX9_winds 64 = .ok (.iload 4, 2) := by decide +kernel
theorem dX9_winds_66 : decode cX9_winds 66 = .ok (.ishl, 1) := by decide +kernel
theorem dX9_winds_67 : decode cX9_winds 67 = .ok (.ior, 1) := by decide +kernel
theorem dX9_winds_68 : decode cX9_winds 68 = .ok (.istore_n 3, 1) := by decide +kernel
theorem dX9_winds_69 : decode cX9_winds 69 = .ok (.iinc 4 1, 3) := by decide +kernel
theorem dX9_winds_72 : decode cX9_winds 72 = .ok (.goto (-30), 3) := by decide +kernel
theorem dX9_winds_75 : decode cX9_winds 75 = .ok (.iload_n 3, 1) := by decide +kernel
theorem dX9_winds_76 : decode cX9_winds 76 = .ok (.ireturn, 1) := by decide +kernel
theorem dX9_match_0 : decode cX9_match 0 = .ok (.aload_n 0, 1) := by decide +kernel
theorem dX9_match_1 : decode cX9_match 1 = .ok (.getfield 47, 3) := by decide +kernel
theorem dX9_match_4 : decode cX9_match 4 = .ok (.aload_n 0, 1) := by decide +kernel
theorem dX9_match_5 : decode cX9_match 5 = .ok (.getfield 68, 3) := by decide +kernel
theorem dX9_match_8 : decode cX9_match 8 = .ok (.aload_n 0, 1) := by decide +kernel
theorem dX9_match_9 : decode cX9_match 9 = .ok (.getfield 19, 3) := by decide +kernel
theorem dX9_match_12 : decode cX9_match 12 = .ok (.iconst 1, 1) := by decide +kernel
theorem dX9_match_13 : decode cX9_match 13 = .ok (.aload_n 0, 1) := by decide +kernel
theorem dX9_match_14 : decode cX9_match 14 = .ok (.getfield 68, 3) := by decide +kernel
theorem dX9_match_17 : decode cX9_match 17 = .ok (.getfield 102, 3) := by decide +kernel
theorem dX9_match_20 : decode cX9_match 20 = .ok (.ishl, 1) := by decide +kernel
theorem dX9_match_21 : decode cX9_match 21 = .ok (.iconst 1, 1) := by decide +kernel
theorem dX9_match_22 : decode cX9_match 22 = .ok (.isub, 1) := by decide +kernel
theorem dX9_match_23 : decode cX9_match 23 = .ok (.invokevirtual 215, 3) := by decide +kernel
theorem dX9_match_26 : decode cX9_match 26 = .ok (.pop, 1) := by decide +kernel
theorem dX9_match_27 : decode cX9_match 27 = .ok (.iload_n 1, 1) := by decide +kernel
theorem dX9_match_28 : decode cX9_match 28 = .ok (.ifCond .eq 13, 3) := by decide +kernel
theorem dX9_match_31 : decode cX9_match 31 = .ok (.aload_n 0, 1) := by decide +kernel
theorem dX9_match_32 : decode cX9_match 32 = .ok (.getfield 47, 3) := by decide +kernel
theorem dX9_match_35 : decode cX9_match 35 = .ok (.getfield 219, 3) := by decide +kernel
theorem dX9_match_38 : decode cX9_match 38 = .ok (.goto 10, 3) := by decide +kernel
theorem dX9_match_41 : decode cX9_match 41 = .ok (.aload_n 0, 1) := by decide +kernel
theorem dX9_match_42 : decode cX9_match 42 = .ok (.getfield 47, 3) := by decide +kernel
theorem dX9_match_45 : decode cX9_match 45 = .ok (.getfield 222, 3) := by decide +kernel
theorem dX9_match_48 : decode cX9_match 48 = .ok (.ireturn, 1) := by decide +kernel
theorem dX9_nails_0 : decode cX9_nails 0 = .ok (.aload_n 0, 1) := by decide +kernel
theorem dX9_nails_1 : decode cX9_nails 1 = .ok (.getfield 68, 3) := by decide +kernel
theorem dX9_nails_4 : decode cX9_nails 4 = .ok (.iload_n 1, 1) := by decide +kernel
theorem dX9_nails_5 : decode cX9_nails 5 = .ok (.invokevirtual 121, 3) := by decide +kernel
theorem dX9_nails_8 : decode cX9_nails 8 = .ok (.ifCond .ne 5, 3) := by decide +kernel
theorem dX9_nails_11 : decode cX9_nails 11 = .ok (.iconst (-1), 1) := by decide +kernel
theorem dX9_nails_12 : decode cX9_nails 12 = .ok (.ireturn, 1) := by decide +kernel
theorem dX9_nails_13 : decode cX9_nails 13 = .ok (.aload_n 0, 1) := by decide +kernel
theorem dX9_nails_14 : decode cX9_nails 14 = .ok (.getfield 19, 3) := by decide +kernel
theorem dX9_nails_17 : decode cX9_nails 17 = .ok (.iload_n 1, 1) := by decide +kernel
theorem dX9_nails_18 : decode cX9_nails 18 = .ok (.invokevirtual 186, 3) := by decide +kernel
theorem dX9_nails_21 : decode cX9_nails 21 = .ok (.ifCond .eq 22, 3) := by decide +kernel
theorem dX9_nails_24 : decode cX9_nails 24 = .ok (.aload_n 0, 1) := by decide +kernel
theorem dX9_nails_25 : decode cX9_nails 25 = .ok (.getfield 47, 3) := by decide +kernel
theorem dX9_nails_28 : decode cX9_nails 28 = .ok (.aload_n 0, 1) := by decide +kernel
theorem dX9_nails_29 : decode cX9_nails 29 = .ok (.getfield 68, 3) := by decide +kernel
theorem dX9_nails_32 : decode cX9_nails 32 = .ok (.aload_n 0, 1) := by decide +kernel
theorem dX9_nails_33 : decode cX9_nails 33 = .ok (.getfield 19, 3) := by decide +kernel
theorem dX9_nails_36 : decode cX9_nails 36 = .ok (.iload_n 1, 1) := by decide +kernel
theorem dX9_nails_37 : decode cX9_nails 37 = .ok (.invokevirtual 225, 3) := by decide +kernel
theorem dX9_nails_40 : decode cX9_nails 40 = .ok (.goto 5, 3) := by decide +kernel
theorem dX9_nails_43 : decode cX9_nails 43 = .ok (.bipush (-9), 2) := by decide +kernel
theorem dX9_nails_45 : decode cX9_nails 45 = .ok (.ireturn, 1) := by decide +kernel
theorem dX9_judge_0 : decode cX9_judge 0 = .ok (.iload_n 1, 1) := by decide +kernel
theorem dX9_judge_1 : decode cX9_judge 1 = .ok (.iconst 1, 1) := by decide +kernel
theorem dX9_judge_2 : decode cX9_judge 2 = .ok (.if_icmp .lt 20, 3) := by decide +kernel
theorem dX9_judge_5 : decode cX9_judge 5 = .ok (.iload_n 1, 1) := by decide +kernel
theorem dX9_judge_6 : decode cX9_judge 6 = .ok (.iconst 4, 1) := by decide +kernel
theorem dX9_judge_7 : decode cX9_judge 7 = .ok (.if_icmp .gt 15, 3) := by decide +kernel
theorem dX9_judge_10 : decode cX9_judge 10 = .ok (.iload_n 2, 1) := by decide +kernel
theorem dX9_judge_11 : decode cX9_judge 11 = .ok (.ifCond .lt 11, 3) := by decide +kernel
theorem dX9_judge_14 : decode cX9_judge 14 = .ok (.iload_n 2, 1) := by decide +kernel
theorem dX9_judge_15 : decode cX9_judge 15 = .ok (.iload_n 1, 1) := by decide +kernel
theorem dX9_judge_16 : decode cX9_judge 16 = .ok (.invokestatic 228, 3) := by decide +kernel
theorem dX9_judge_19 : decode cX9_judge 19 = .ok (.if_icmp .lt 6, 3) := by decide +kernel
theorem dX9_judge_22 : decode cX9_judge 22 = .ok (.bipush (-2), 2) := by decide +kernel
theorem dX9_judge_24 : decode cX9_judge 24 = .ok (.ireturn, 1) := by decide +kernel
theorem dX9_judge_25 : decode cX9_judge 25 = .ok (.aload_n 0, 1) := by decide +kernel
theorem dX9_judge_26 : decode cX9_judge 26 = .ok (.getfield 47, 3) := by decide +kernel
theorem dX9_judge_29 : decode cX9_judge 29 = .ok (.aload_n 0, 1) := by decide +kernel
theorem dX9_judge_30 : decode cX9_judge 30 = .ok (.getfield 68, 3) := by decide +kernel
theorem dX9_judge_33 : decode cX9_judge 33 = .ok (.aload_n 0, 1) := by decide +kernel
theorem dX9_judge_34 : decode cX9_judge 34 = .ok (.getfield 19, 3) := by decide +kernel
theorem dX9_judge_37 : decode cX9_judge 37 = .ok (.iload_n 1, 1) := by decide +kernel
theorem dX9_judge_38 : decode cX9_judge 38 = .ok (.iload_n 2, 1) := by decide +kernel
theorem dX9_judge_39 : decode cX9_judge 39 = .ok (.invokevirtual 231, 3) := by decide +kernel
theorem dX9_judge_42 : decode cX9_judge 42 = .ok (.ireturn, 1) := by decide +kernel
theorem dX9_share_0 : decode cX9_share 0 = .ok (.aload_n 0, 1) := by decide +kernel
theorem dX9_share_1 : decode cX9_share 1 = .ok (.getfield 68, 3) := by decide +kernel
theorem dX9_share_4 : decode cX9_share 4 = .ok (.iload_n 1, 1) := by decide +kernel
theorem dX9_share_5 : decode cX9_share 5 = .ok (.invokevirtual 154, 3) := by decide +kernel
theorem dX9_share_8 : decode cX9_share 8 = .ok (.ifCond .ne 5, 3) := by decide +kernel
theorem dX9_share_11 : decode cX9_share 11 = .ok (.iconst (-1), 1) := by decide +kernel
theorem dX9_share_12 : decode cX9_share 12 = .ok (.ireturn, 1) := by decide +kernel
theorem dX9_share_13 : decode cX9_share 13 = .ok (.iconst 0, 1) := by decide +kernel
theorem dX9_share_14 : decode cX9_share 14 = .ok (.istore_n 3, 1) := by decide +kernel
theorem dX9_share_15 : decode cX9_share 15 = .ok (.iconst 0, 1) := by decide +kernel
theorem dX9_share_16 : decode cX9_share 16 = .ok (.istore 4, 2) := by decide +kernel
theorem dX9_share_18 : decode cX9_share 18 = .ok (.iload 4, 2) := by decide +kernel
theorem dX9_share_20 : decode cX9_share 20 = .ok (.iconst 1, 1) := by decide +kernel
theorem dX9_share_21 : decode cX9_share 21 = .ok (.aload_n 0, 1) := by decide +kernel
theorem dX9_share_22 : decode cX9_share 22 = .ok (.getfield 68, 3) := by decide +kernel
theorem dX9_share_25 : decode cX9_share 25 = .ok (.getfield 102, 3) := by decide +kernel
theorem dX9_share_28 : decode cX9_share 28 = .ok (.ishl, 1) := by decide +kernel
theorem dX9_share_29 : decode cX9_share 29 = .ok (.if_icmp .ge 93, 3) := by decide +kernel
theorem dX9_share_32 : decode cX9_share 32 = .ok (.iload 4, 2) := by decide +kernel
theorem dX9_share_34 : decode cX9_share 34 = .ok (.iload_n 1, 1) := by decide +kernel
theorem dX9_share_35 : decode cX9_share 35 = .ok (.invokestatic 147, 3) := by decide +kernel
theorem dX9_share_38 : decode cX9_share 38 = .ok (.ifCond .ne 78, 3) := by decide +kernel
theorem dX9_share_41 : decode cX9_share 41 = .ok (.aload_n 0, 1) := by decide +kernel
theorem dX9_share_42 : decode cX9_share 42 = .ok (.getfield 47, 3) := by decide +kernel
theorem dX9_share_45 : decode cX9_share 45 = .ok (.aload_n 0, 1) := by decide +kernel
theorem dX9_share_46 : decode cX9_share 46 = .ok (.getfield 68, 3) := by decide +kernel
theorem dX9_share_49 : decode cX9_share 49 = .ok (.aload_n 0, 1) := by decide +kernel
theorem dX9_share_50 : decode cX9_share 50 = .ok (.getfield 19, 3) := by decide +kernel
theorem dX9_share_53 : decode cX9_share 53 = .ok (.iload 4, 2) := by decide +kernel
theorem dX9_share_55 : decode cX9_share 55 = .ok (.iconst 1, 1) := by decide +kernel
theorem dX9_share_56 : decode cX9_share 56 = .ok (.iload_n 1, 1) := by decide +kernel
theorem dX9_share_57 : decode cX9_share 57 = .ok (.ishl, 1) := by decide +kernel
theorem dX9_share_58 : decode cX9_share 58 = .ok (.ior, 1) := by decide +kernel
theorem dX9_share_59 : decode cX9_share 59 = .ok (.invokevirtual 215, 3) := by decide +kernel
theorem dX9_share_62 : decode cX9_share 62 = .ok (.aload_n 0, 1) := by decide +kernel
theorem dX9_share_63 : decode cX9_share 63 = .ok (.getfield 47, 3) := by decide +kernel
theorem dX9_share_66 : decode cX9_share 66 = .ok (.aload_n 0, 1) := by decide +kernel
theorem dX9_share_67 : decode cX9_share 67 = .ok (.getfield 68, 3) := by decide +kernel
theorem dX9_share_70 : decode cX9_share 70 = .ok (.aload_n 0, 1) := by decide +kernel
theorem dX9_share_71 : decode cX9_share 71 = .ok (.getfield 19, 3) := by decide +kernel
theorem dX9_share_74 : decode cX9_share 74 = .ok (.iload 4, 2) := by decide +kernel
theorem dX9_share_76 : decode cX9_share 76 = .ok (.invokevirtual 215, 3) := by decide +kernel
theorem dX9_share_79 : decode cX9_share 79 = .ok (.isub, 1) := by decide +kernel
theorem dX9_share_80 : decode cX9_share 80 = .ok (.istore 5, 2) := by decide +kernel
theorem dX9_share_82 : decode cX9_share 82 = .ok (.iload 4, 2) := by decide +kernel
theorem dX9_share_84 : decode cX9_share 84 = .ok (.invokestatic 234, 3) := by decide +kernel
theorem dX9_share_87 : decode cX9_share 87 = .ok (.istore 6, 2) := by decide +kernel
theorem dX9_share_89 : decode cX9_share 89 = .ok (.iload_n 3, 1) := by decide +kernel
theorem dX9_share_90 : decode cX9_share 90 = .ok (.iload 5, 2) := by decide +kernel
theorem dX9_share_92 : decode cX9_share 92 = .ok (.iload 6, 2) := by decide +kernel
theorem dX9_share_94 : decode cX9_share 94 = .ok (.invokestatic 239, 3) := by decide +kernel
theorem dX9_share_97 : decode cX9_share 97 = .ok (.imul, 1) := by decide +kernel
theorem dX9_share_98 : decode cX9_share 98 = .ok (.aload_n 0, 1) := by decide +kernel
theorem dX9_share_99 : decode cX9_share 99 = .ok (.getfield 68, 3) := by decide +kernel
theorem dX9_share_102 : decode cX9_share 102 = .ok (.getfield 102, 3) := by decide +kernel
theorem dX9_share_105 : decode cX9_share 105 = .ok (.iload 6, 2) := by decide +kernel
theorem dX9_share_107 : decode cX9_share 107 = .ok (.isub, 1) := by decide +kernel
theorem dX9_share_108 : decode cX9_share 108 = .ok (.iconst 1, 1) := by decide +kernel
theorem dX9_share_109 : decode cX9_share 109 = .ok (.isub, 1) := by decide +kernel
theorem dX9_share_110 : decode cX9_share 110 = .ok (.invokestatic 239, 3) := by decide +kernel
theorem dX9_share_113 : decode cX9_share 113 = .ok (.imul, 1) := by decide +kernel
theorem dX9_share_114 : decode cX9_share 114 = .ok (.iadd, 1) := by decide +kernel
theorem dX9_share_115 : decode cX9_share 115 = .ok (.istore_n 3, 1) := by decide +kernel
theorem dX9_share_116 : decode cX9_share 116 = .ok (.iinc 4 1, 3) := by decide +kernel
theorem dX9_share_119 : decode cX9_share 119 = .ok (.goto (-101), 3) := by decide +kernel
theorem dX9_share_122 : decode cX9_share 122 = .ok (.iload_n 3, 1) := by decide +kernel
theorem dX9_share_123 : decode cX9_share 123 = .ok (.aload_n 0, 1) := by decide +kernel
theorem dX9_share_124 : decode cX9_share 124 = .ok (.getfield 68, 3) := by decide +kernel
theorem dX9_share_127 : decode cX9_share 127 = .ok (.getfield 102, 3) := by decide +kernel
theorem dX9_share_130 : decode cX9_share 130 = .ok (.invokestatic 239, 3) := by decide +kernel
theorem dX9_share_133 : decode cX9_share 133 = .ok (.iload_n 2, 1) := by decide +kernel
theorem dX9_share_134 : decode cX9_share 134 = .ok (.invokestatic 242, 3) := by decide +kernel
theorem dX9_share_137 : decode cX9_share 137 = .ok (.ireturn, 1) := by decide +kernel
theorem dX9_see_0 : decode cX9_see 0 = .ok (.aload_n 0, 1) := by decide +kernel
theorem dX9_see_1 : decode cX9_see 1 = .ok (.getfield 68, 3) := by decide +kernel
theorem dX9_see_4 : decode cX9_see 4 = .ok (.iload_n 1, 1) := by decide +kernel
theorem dX9_see_5 : decode cX9_see 5 = .ok (.invokevirtual 121, 3) := by decide +kernel
theorem dX9_see_8 : decode cX9_see 8 = .ok (.ifCond .ne 5, 3) := by decide +kernel
theorem dX9_see_11 : decode cX9_see 11 = .ok (.iconst (-1), 1) := by decide +kernel
theorem dX9_see_12 : decode cX9_see 12 = .ok (.ireturn, 1) := by decide +kernel
theorem dX9_see_13 : decode cX9_see 13 = .ok (.iload_n 2, 1) := by decide +kernel
theorem dX9_see_14 : decode cX9_see 14 = .ok (.iconst 1, 1) := by decide +kernel
theorem dX9_see_15 : decode cX9_see 15 = .ok (.if_icmp .lt 18, 3) := by decide +kernel
theorem dX9_see_18 : decode cX9_see 18 = .ok (.iload_n 2, 1) := by decide +kernel
theorem dX9_see_19 : decode cX9_see 19 = .ok (.bipush 11, 2) := by decide +kernel
theorem dX9_see_21 : decode cX9_see 21 = .ok (.if_icmp .gt 12, 3) := by decide +kernel
theorem dX9_see_24 : decode cX9_see 24 = .ok (.iload_n 3, 1) := by decide +kernel
theorem dX9_see_25 : decode cX9_see 25 = .ok (.ifCond .lt 8, 3) := by decide +kernel
theorem dX9_see_28 : decode cX9_see 28 = .ok (.iload_n 3, 1) := by decide +kernel
theorem dX9_see_29 : decode cX9_see 29 = .ok (.iconst 1, 1) := by decide +kernel
theorem dX9_see_30 : decode cX9_see 30 = .ok (.if_icmp .le 6, 3) := by decide +kernel
theorem dX9_see_33 : decode cX9_see 33 = .ok (.bipush (-2), 2) := by decide +kernel
theorem dX9_see_35 : decode cX9_see 35 = .ok (.ireturn, 1) := by decide +kernel
theorem dX9_see_36 : decode cX9_see 36 = .ok (.aload_n 0, 1) := by decide +kernel
theorem dX9_see_37 : decode cX9_see 37 = .ok (.getfield 33, 3) := by decide +kernel
theorem dX9_see_40 : decode cX9_see 40 = .ok (.iload_n 1, 1) := by decide +kernel
theorem dX9_see_41 : decode cX9_see 41 = .ok (.iload_n 2, 1) := by decide +kernel
theorem dX9_see_42 : decode cX9_see 42 = .ok (.iload_n 3, 1) := by decide +kernel
theorem dX9_see_43 : decode cX9_see 43 = .ok (.invokevirtual 246, 3) := by decide +kernel
theorem dX9_see_46 : decode cX9_see 46 = .ok (.ifCond .eq 13, 3) := by decide +kernel
theorem dX9_see_49 : decode cX9_see 49 = .ok (.aload_n 0, 1) := by decide +kernel
theorem dX9_see_50 : decode cX9_see 50 = .ok (.getfield 33, 3) := by decide +kernel
theorem dX9_see_53 : decode cX9_see 53 = .ok (.getfield 120, 3) := by decide +kernel
theorem dX9_see_56 : decode cX9_see 56 = .ok (.goto 5, 3) := by decide +kernel
theorem dX9_see_59 : decode cX9_see 59 = .ok (.bipush (-4), 2) := by decide +kernel
theorem dX9_see_61 : decode cX9_see 61 = .ok (.ireturn, 1) := by decide +kernel
theorem dX9_unsee_0 : decode cX9_unsee 0 = .ok (.aload_n 0, 1) := by decide +kernel
theorem dX9_unsee_1 : decode cX9_unsee 1 = .ok (.getfield 33, 3) := by decide +kernel
theorem dX9_unsee_4 : decode cX9_unsee 4 = .ok (.getfield 120, 3) := by decide +kernel
theorem dX9_unsee_7 : decode cX9_unsee 7 = .ok (.istore_n 1, 1) := by decide +kernel
theorem dX9_unsee_8 : decode cX9_unsee 8 = .ok (.aload_n 0, 1) := by decide +kernel
theorem dX9_unsee_9 : decode cX9_unsee 9 = .ok (.getfield 33, 3) := by decide +kernel
theorem dX9_unsee_12 : decode cX9_unsee 12 = .ok (.iconst 0, 1) := by decide +kernel
theorem dX9_unsee_13 : decode cX9_unsee 13 = .ok (.putfield 120, 3) := by decide +kernel
theorem dX9_unsee_16 : decode cX9_unsee 16 = .ok (.iload_n 1, 1) := by decide +kernel
theorem dX9_unsee_17 : decode cX9_unsee 17 = .ok (.ireturn, 1) := by decide +kernel
theorem dX9_holds_0 : decode cX9_holds 0 = .ok (.aload_n 0, 1) := by decide +kernel
theorem dX9_holds_1 : decode cX9_holds 1 = .ok (.getfield 68, 3) := by decide +kernel
theorem dX9_holds_4 : decode cX9_holds 4 = .ok (.iload_n 1, 1) := by decide +kernel
theorem dX9_holds_5 : decode cX9_holds 5 = .ok (.invokevirtual 121, 3) := by decide +kernel
theorem dX9_holds_8 : decode cX9_holds 8 = .ok (.ifCond .ne 5, 3) := by decide +kernel
theorem dX9_holds_11 : decode cX9_holds 11 = .ok (.iconst (-1), 1) := by decide +kernel
theorem dX9_holds_12 : decode cX9_holds 12 = .ok (.ireturn, 1) := by decide +kernel
theorem dX9_holds_13 : decode cX9_holds 13 = .ok (.aload_n 0, 1) := by decide +kernel
theorem dX9_holds_14 : decode cX9_holds 14 = .ok (.getfield 33, 3) := by decide +kernel
theorem dX9_holds_17 : decode cX9_holds 17 = .ok (.iload_n 1, 1) := by decide +kernel
theorem dX9_holds_18 : decode cX9_holds 18 = .ok (.iconst 4, 1) := by decide +kernel
theorem dX9_holds_19 : decode cX9_holds 19 = .ok (.aload_n 0, 1) := by decide +kernel
theorem dX9_holds_20 : decode cX9_holds 20 = .ok (.getfield 19, 3) := by decide +kernel
theorem dX9_holds_23 : decode cX9_holds 23 = .ok (.getfield 151, 3) := by decide +kernel
theorem dX9_holds_26 : decode cX9_holds 26 = .ok (.iload_n 1, 1) := by decide +kernel
theorem dX9_holds_27 : decode cX9_holds 27 = .ok (.invokestatic 147, 3) := by decide +kernel
theorem dX9_holds_30 : decode cX9_holds 30 = .ok (.imul, 1) := by decide +kernel
theorem dX9_holds_31 : decode cX9_holds 31 = .ok (.invokevirtual 248, 3) := by decide +kernel
theorem dX9_holds_34 : decode cX9_holds 34 = .ok (.ireturn, 1) := by decide +kernel
theorem dX9_rests_0 : decode cX9_rests 0 = .ok (.aload_n 0, 1) := by decide +kernel
theorem dX9_rests_1 : decode cX9_rests 1 = .ok (.getfield 68, 3) := by decide +kernel
theorem dX9_rests_4 : decode cX9_rests 4 = .ok (.getfield 102, 3) := by decide +kernel
theorem dX9_rests_7 : decode cX9_rests 7 = .ok (.iconst 2, 1) := by decide +kernel
theorem dX9_rests_8 : decode cX9_rests 8 = .ok (.if_icmp .ge 5, 3) := by decide +kernel
theorem dX9_rests_11 : decode cX9_rests 11 = .ok (.iconst (-1), 1) := by decide +kernel
theorem dX9_rests_12 : decode cX9_rests 12 = .ok (.ireturn, 1) := by decide +kernel
theorem dX9_rests_13 : decode cX9_rests 13 = .ok (.iload_n 1, 1) := by decide +kernel
theorem dX9_rests_14 : decode cX9_rests 14 = .ok (.ifCond .lt 8, 3) := by decide +kernel
theorem dX9_rests_17 : decode cX9_rests 17 = .ok (.iload_n 1, 1) := by decide +kernel
theorem dX9_rests_18 : decode cX9_rests 18 = .ok (.iconst 1, 1) := by decide +kernel
theorem dX9_rests_19 : decode cX9_rests 19 = .ok (.if_icmp .le 6, 3) := by decide +kernel
theorem dX9_rests_22 : decode cX9_rests 22 = .ok (.bipush (-2), 2) := by decide +kernel
theorem dX9_rests_24 : decode cX9_rests 24 = .ok (.ireturn, 1) := by decide +kernel
theorem dX9_rests_25 : decode cX9_rests 25 = .ok (.aload_n 0, 1) := by decide +kernel
theorem dX9_rests_26 : decode cX9_rests 26 = .ok (.getfield 54, 3) := by decide +kernel
theorem dX9_rests_29 : decode cX9_rests 29 = .ok (.aload_n 0, 1) := by decide +kernel
theorem dX9_rests_30 : decode cX9_rests 30 = .ok (.getfield 68, 3) := by decide +kernel
theorem dX9_rests_33 : decode cX9_rests 33 = .ok (.aload_n 0, 1) := by decide +kernel
theorem dX9_rests_34 : decode cX9_rests 34 = .ok (.getfield 19, 3) := by decide +kernel
theorem dX9_rests_37 : decode cX9_rests 37 = .ok (.invokevirtual 251, 3) := by decide +kernel
theorem dX9_rests_40 : decode cX9_rests 40 = .ok (.iload_n 1, 1) := by decide +kernel
theorem dX9_rests_41 : decode cX9_rests 41 = .ok (.ifCond .ne 13, 3) := by decide +kernel
theorem dX9_rests_44 : decode cX9_rests 44 = .ok (.aload_n 0, 1) := by decide +kernel
theorem dX9_rests_45 : decode cX9_rests 45 = .ok (.getfield 54, 3) := by decide +kernel
theorem dX9_rests_48 : decode cX9_rests 48 = .ok (.getfield 255, 3) := by decide +kernel
theorem dX9_rests_51 : decode cX9_rests 51 = .ok (.goto 10, 3) := by decide +kernel
theorem dX9_rests_54 : decode cX9_rests 54 = .ok (.aload_n 0, 1) := by decide +kernel
theorem dX9_rests_55 : decode cX9_rests 55 = .ok (.getfield 54, 3) := by decide +kernel
theorem dX9_rests_58 : decode cX9_rests 58 = .ok (.getfield 256, 3) := by decide +kernel
theorem dX9_rests_61 : decode cX9_rests 61 = .ok (.ireturn, 1) := by decide +kernel
theorem dX9_odds_0 : decode cX9_odds 0 = .ok (.aload_n 0, 1) := by decide +kernel
theorem dX9_odds_1 : decode cX9_odds 1 = .ok (.getfield 68, 3) := by decide +kernel
theorem dX9_odds_4 : decode cX9_odds 4 = .ok (.iload_n 1, 1) := by decide +kernel
theorem dX9_odds_5 : decode cX9_odds 5 = .ok (.invokevirtual 154, 3) := by decide +kernel
theorem dX9_odds_8 : decode cX9_odds 8 = .ok (.ifCond .eq 15, 3) := by decide +kernel
theorem dX9_odds_11 : decode cX9_odds 11 = .ok (.aload_n 0, 1) := by decide +kernel
theorem dX9_odds_12 : decode cX9_odds 12 = .ok (.getfield 68, 3) := by decide +kernel
theorem dX9_odds_15 : decode cX9_odds 15 = .ok (.iload 4, 2) := by decide +kernel
theorem dX9_odds_17 : decode cX9_odds 17 = .ok (.invokevirtual 121, 3) := by decide +kernel
theorem dX9_odds_20 : decode cX9_odds 20 = .ok (.ifCond .ne 5, 3) := by decide +kernel
theorem dX9_odds_23 : decode cX9_odds 23 = .ok (.iconst (-1), 1) := by decide +kernel
theorem dX9_odds_24 : decode cX9_odds 24 = .ok (.ireturn, 1) := by decide +kernel
theorem dX9_odds_25 : decode cX9_odds 25 = .ok (.iload_n 2, 1) := by decide +kernel
theorem dX9_odds_26 : decode cX9_odds 26 = .ok (.invokestatic 259, 3) := by decide +kernel
theorem dX9_odds_29 : decode cX9_odds 29 = .ok (.ifCond .eq 25, 3) := by decide +kernel
theorem dX9_odds_32 : decode cX9_odds 32 = .ok (.iload_n 3, 1) := by decide +kernel
theorem dX9_odds_33 : decode cX9_odds 33 = .ok (.iconst 1, 1) := by decide +kernel
theorem dX9_odds_34 : decode cX9_odds 34 = .ok (.if_icmp .lt 20, 3) := by decide +kernel
theorem dX9_odds_37 : decode cX9_odds 37 = .ok (.iload_n 3, 1) := by decide +kernel
theorem dX9_odds_38 : decode cX9_odds 38 = .ok (.iconst 4, 1) := by decide +kernel
theorem dX9_odds_39 : decode cX9_odds 39 = .ok (.if_icmp .gt 15, 3) := by decide +kernel
theorem dX9_odds_42 : decode cX9_odds 42 = .ok (.iload 5, 2) := by decide +kernel
theorem dX9_odds_44 : decode cX9_odds 44 = .ok (.ifCond .lt 10, 3) := by decide +kernel
theorem dX9_odds_47 : decode cX9_odds 47 = .ok (.iload 5, 2) := by decide +kernel
theorem dX9_odds_49 : decode cX9_odds 49 = .ok (.bipush 10, 2) := by decide +kernel
theorem dX9_odds_51 : decode cX9_odds 51 = .ok (.if_icmp .le 6, 3) := by decide +kernel
theorem dX9_odds_54 : decode cX9_odds 54 = .ok (.bipush (-2), 2) := by decide +kernel
theorem dX9_odds_56 : decode cX9_odds 56 = .ok (.ireturn, 1) := by decide +kernel
theorem dX9_odds_57 : decode cX9_odds 57 = .ok (.aload_n 0, 1) := by decide +kernel
theorem dX9_odds_58 : decode cX9_odds 58 = .ok (.getfield 61, 3) := by decide +kernel
theorem dX9_odds_61 : decode cX9_odds 61 = .ok (.iload_n 1, 1) := by decide +kernel
theorem dX9_odds_62 : decode cX9_odds 62 = .ok (.putfield 262, 3) := by decide +kernel
theorem dX9_odds_65 : decode cX9_odds 65 = .ok (.aload_n 0, 1) := by decide +kernel
theorem dX9_odds_66 : decode cX9_odds 66 = .ok (.getfield 61, 3) := by decide +kernel
theorem dX9_odds_69 : decode cX9_odds 69 = .ok (.iload_n 2, 1) := by decide +kernel
theorem dX9_odds_70 : decode cX9_odds 70 = .ok (.putfield 265, 3) := by decide +kernel
theorem dX9_odds_73 : decode cX9_odds 73 = .ok (.aload_n 0, 1) := by decide +kernel
theorem dX9_odds_74 : decode cX9_odds 74 = .ok (.getfield 61, 3) := by decide +kernel
theorem dX9_odds_77 : decode cX9_odds 77 = .ok (.iload 5, 2) := by decide +kernel
theorem dX9_odds_79 : decode cX9_odds 79 = .ok (.putfield 267, 3) := by decide +kernel
theorem dX9_odds_82 : decode cX9_odds 82 = .ok (.aload_n 0, 1) := by decide +kernel
theorem dX9_odds_83 : decode cX9_odds 83 = .ok (.getfield 61, 3) := by decide +kernel
theorem dX9_odds_86 : decode cX9_odds 86 = .ok (.aload_n 0, 1) := by decide +kernel
theorem dX9_odds_87 : decode cX9_odds 87 = .ok (.getfield 68, 3) := by decide +kernel
theorem dX9_odds_90 : decode cX9_odds 90 = .ok (.aload_n 0, 1) := by decide +kernel
theorem dX9_odds_91 : decode cX9_odds 91 = .ok (.getfield 19, 3) := by decide +kernel
theorem dX9_odds_94 : decode cX9_odds 94 = .ok (.iload 4, 2) := by decide +kernel
theorem dX9_odds_96 : decode cX9_odds 96 = .ok (.iload_n 3, 1) := by decide +kernel
theorem dX9_odds_97 : decode cX9_odds 97 = .ok (.invokevirtual 270, 3) := by decide +kernel
theorem dX9_odds_100 : decode cX9_odds 100 = .ok (.iload_n 3, 1) := by decide +kernel
theorem dX9_odds_101 : decode cX9_odds 101 = .ok (.invokestatic 273, 3) := by decide +kernel
theorem dX9_odds_104 : decode cX9_odds 104 = .ok (.iload 6, 2) := by decide +kernel
theorem dX9_odds_106 : decode cX9_odds 106 = .ok (.invokestatic 242, 3) := by decide +kernel
theorem dX9_odds_109 : decode cX9_odds 109 = .ok (.ireturn, 1) := by decide +kernel
theorem dX9_seed_0 : decode cX9_seed 0 = .ok (.aload_n 0, 1) := by decide +kernel
theorem dX9_seed_1 : decode cX9_seed 1 = .ok (.getfield 75, 3) := by decide +kernel
theorem dX9_seed_4 : decode cX9_seed 4 = .ok (.lstore_n 3, 1) := by decide +kernel
theorem dX9_seed_5 : decode cX9_seed 5 = .ok (.aload_n 0, 1) := by decide +kernel
theorem dX9_seed_6 : decode cX9_seed 6 = .ok (.lload_n 1, 1) := by decide +kernel
theorem dX9_seed_7 : decode cX9_seed 7 = .ok (.putfield 75, 3) := by decide +kernel
theorem dX9_seed_10 : decode cX9_seed 10 = .ok (.lload_n 3, 1) := by decide +kernel
theorem dX9_seed_11 : decode cX9_seed 11 = .ok (.lreturn, 1) := by decide +kernel
theorem dX9_fairs_0 : decode cX9_fairs 0 = .ok (.iload_n 1, 1) := by decide +kernel
theorem dX9_fairs_1 : decode cX9_fairs 1 = .ok (.iconst 1, 1) := by decide +kernel
theorem dX9_fairs_2 : decode cX9_fairs 2 = .ok (.if_icmp .lt 9, 3) := by decide +kernel
theorem dX9_fairs_5 : decode cX9_fairs 5 = .ok (.iload_n 1, 1) := by decide +kernel
theorem dX9_fairs_6 : decode cX9_fairs 6 = .ok (.bipush 30, 2) := by decide +kernel
theorem dX9_fairs_8 : decode cX9_fairs 8 = .ok (.if_icmp .le 6, 3) := by decide +kernel
theorem dX9_fairs_11 : decode cX9_fairs 11 = .ok (.bipush (-2), 2) := by decide +kernel
theorem dX9_fairs_13 : decode cX9_fairs 13 = .ok (.ireturn, 1) := by decide +kernel
theorem dX9_fairs_14 : decode cX9_fairs 14 = .ok (.iconst 0, 1) := by decide +kernel
theorem dX9_fairs_15 : decode cX9_fairs 15 = .ok (.istore_n 2, 1) := by decide +kernel
theorem dX9_fairs_16 : decode cX9_fairs 16 = .ok (.aload_n 0, 1) := by decide +kernel
theorem dX9_fairs_17 : decode cX9_fairs 17 = .ok (.getfield 61, 3) := by decide +kernel
theorem dX9_fairs_20 : decode cX9_fairs 20 = .ok (.aload_n 0, 1) := by decide +kernel
theorem dX9_fairs_21 : decode cX9_fairs 21 = .ok (.getfield 19, 3) := by decide +kernel
theorem dX9_fairs_24 : decode cX9_fairs 24 = .ok (.invokevirtual 276, 3) := by decide +kernel
theorem dX9_fairs_27 : decode cX9_fairs 27 = .ok (.iconst 0, 1) := by decide +kernel
theorem dX9_fairs_28 : decode cX9_fairs 28 = .ok (.istore_n 3, 1) := by decide +kernel
theorem dX9_fairs_29 : decode cX9_fairs 29 = .ok (.iload_n 3, 1) := by decide +kernel
theorem dX9_fairs_30 : decode cX9_fairs 30 = .ok (.iload_n 1, 1) := by decide +kernel
theorem dX9_fairs_31 : decode cX9_fairs 31 = .ok (.if_icmp .ge 51, 3) := by decide +kernel
theorem dX9_fairs_34 : decode cX9_fairs 34 = .ok (.aload_n 0, 1) := by decide +kernel
theorem dX9_fairs_35 : decode cX9_fairs 35 = .ok (.aload_n 0, 1) := by decide +kernel
theorem dX9_fairs_36 : decode cX9_fairs 36 = .ok (.getfield 75, 3) := by decide +kernel
theorem dX9_fairs_39 : decode cX9_fairs 39 = .ok (.ldc2_w 279, 3) := by decide +kernel
theorem dX9_fairs_42 : decode cX9_fairs 42 = .ok (.lmul, 1) := by decide +kernel
theorem dX9_fairs_43 : decode cX9_fairs 43 = .ok (.ldc2_w 281, 3) := by decide +kernel
theorem dX9_fairs_46 : decode cX9_fairs 46 = .ok (.ladd, 1) := by decide +kernel
theorem dX9_fairs_47 : decode cX9_fairs 47 = .ok (.putfield 75, 3) := by decide +kernel
theorem dX9_fairs_50 : decode cX9_fairs 50 = .ok (.iload_n 2, 1) := by decide +kernel
theorem dX9_fairs_51 : decode cX9_fairs 51 = .ok (.aload_n 0, 1) := by decide +kernel
theorem dX9_fairs_52 : decode cX9_fairs 52 = .ok (.getfield 61, 3) := by decide +kernel
theorem dX9_fairs_55 : decode cX9_fairs 55 = .ok (.aload_n 0, 1) := by decide +kernel
theorem dX9_fairs_56 : decode cX9_fairs 56 = .ok (.getfield 68, 3) := by decide +kernel
theorem dX9_fairs_59 : decode cX9_fairs 59 = .ok (.aload_n 0, 1) := by decide +kernel
theorem dX9_fairs_60 : decode cX9_fairs 60 = .ok (.getfield 75, 3) := by decide +kernel
theorem dX9_fairs_63 : decode cX9_fairs 63 = .ok (.bipush 33, 2) := by decide +kernel
theorem dX9_fairs_65 : decode cX9_fairs 65 = .ok (.lushr, 1) := by decide +kernel
theorem dX9_fairs_66 : decode cX9_fairs 66 = .ok (.ldc2_w 283, 3) := by decide +kernel
theorem dX9_fairs_69 : decode cX9_fairs 69 = .ok (.lrem, 1) := by decide +kernel
theorem dX9_fairs_70 : decode cX9_fairs 70 = .ok (.l2i, 1) := by decide +kernel
theorem dX9_fairs_71 : decode cX9_fairs 71 = .ok (.invokevirtual 285, 3) := by decide +kernel
theorem dX9_fairs_74 : decode cX9_fairs 74 = .ok (.iadd, 1) := by decide +kernel
theorem dX9_fairs_75 : decode cX9_fairs 75 = .ok (.istore_n 2, 1) := by decide +kernel
theorem dX9_fairs_76 : decode cX9_fairs 76 = .ok (.iinc 3 1, 3) := by decide +kernel
theorem dX9_fairs_79 : decode cX9_fairs 79 = .ok (.goto (-50), 3) := by decide +kernel
theorem dX9_fairs_82 : decode cX9_fairs 82 = .ok (.iload_n 2, 1) := by decide +kernel
theorem dX9_fairs_83 : decode cX9_fairs 83 = .ok (.ireturn, 1) := by decide +kernel
theorem dX9_keep_0 : decode cX9_keep 0 = .ok (.aload_n 0, 1) := by decide +kernel
theorem dX9_keep_1 : decode cX9_keep 1 = .ok (.getfield 40, 3) := by decide +kernel
theorem dX9_keep_4 : decode cX9_keep 4 = .ok (.iload_n 1, 1) := by decide +kernel
theorem dX9_keep_5 : decode cX9_keep 5 = .ok (.aload_n 0, 1) := by decide +kernel
theorem dX9_keep_6 : decode cX9_keep 6 = .ok (.getfield 19, 3) := by decide +kernel
theorem dX9_keep_9 : decode cX9_keep 9 = .ok (.invokevirtual 288, 3) := by decide +kernel
theorem dX9_keep_12 : decode cX9_keep 12 = .ok (.ifCond .eq 13, 3) := by decide +kernel
theorem dX9_keep_15 : decode cX9_keep 15 = .ok (.aload_n 0, 1) := by decide +kernel
theorem dX9_keep_16 : decode cX9_keep 16 = .ok (.getfield 19, 3) := by decide +kernel
theorem dX9_keep_19 : decode cX9_keep 19 = .ok (.invokevirtual 292, 3) := by decide +kernel
theorem dX9_keep_22 : decode cX9_keep 22 = .ok (.goto 4, 3) := by decide +kernel
theorem dX9_keep_25 : decode cX9_keep 25 = .ok (.iconst (-1), 1) := by decide +kernel
theorem dX9_keep_26 : decode cX9_keep 26 = .ok (.ireturn, 1) := by decide +kernel
theorem dX9_again_0 : decode cX9_again 0 = .ok (.iload_n 1, 1) := by decide +kernel
theorem dX9_again_1 : decode cX9_again 1 = .ok (.ifCond .lt 8, 3) := by decide +kernel
theorem dX9_again_4 : decode cX9_again 4 = .ok (.iload_n 1, 1) := by decide +kernel
theorem dX9_again_5 : decode cX9_again 5 = .ok (.iconst 2, 1) := by decide +kernel
theorem dX9_again_6 : decode cX9_again 6 = .ok (.if_icmp .lt 5, 3) := by decide +kernel
theorem dX9_again_9 : decode cX9_again 9 = .ok (.iconst (-1), 1) := by decide +kernel
theorem dX9_again_10 : decode cX9_again 10 = .ok (.ireturn, 1) := by decide +kernel
theorem dX9_again_11 : decode cX9_again 11 = .ok (.aload_n 0, 1) := by decide +kernel
theorem dX9_again_12 : decode cX9_again 12 = .ok (.getfield 40, 3) := by decide +kernel
theorem dX9_again_15 : decode cX9_again 15 = .ok (.iload_n 1, 1) := by decide +kernel
theorem dX9_again_16 : decode cX9_again 16 = .ok (.aload_n 0, 1) := by decide +kernel
theorem dX9_again_17 : decode cX9_again 17 = .ok (.getfield 19, 3) := by decide +kernel
theorem dX9_again_20 : decode cX9_again 20 = .ok (.invokevirtual 296, 3) := by decide +kernel
theorem dX9_again_23 : decode cX9_again 23 = .ok (.ifCond .ne 6, 3) := by decide +kernel
theorem dX9_again_26 : decode cX9_again 26 = .ok (.bipush (-3), 2) := by decide +kernel
theorem dX9_again_28 : decode cX9_again 28 = .ok (.ireturn, 1) := by decide +kernel
theorem dX9_again_29 : decode cX9_again 29 = .ok (.aload_n 0, 1) := by decide +kernel
theorem dX9_again_30 : decode cX9_again 30 = .ok (.getfield 26, 3) := by decide +kernel
theorem dX9_again_33 : decode cX9_again 33 = .ok (.invokevirtual 95, 3) := by decide +kernel
theorem dX9_again_36 : decode cX9_again 36 = .ok (.aload_n 0, 1) := by decide +kernel
theorem dX9_again_37 : decode cX9_again 37 = .ok (.getfield 19, 3) := by decide +kernel
theorem dX9_again_40 : decode cX9_again 40 = .ok (.invokevirtual 292, 3) := by decide +kernel
theorem dX9_again_43 : decode cX9_again 43 = .ok (.ireturn, 1) := by decide +kernel
theorem dX9_refusalOfThrow_0 : decode cX9_refusalOfThrow 0 = .ok (.aload_n 0, 1) := by decide +kernel
theorem dX9_refusalOfThrow_1 : decode cX9_refusalOfThrow 1 = .ok (.getfield 68, 3) := by decide +kernel
theorem dX9_refusalOfThrow_4 : decode cX9_refusalOfThrow 4 = .ok (.iload_n 1, 1) := by decide +kernel
theorem dX9_refusalOfThrow_5 : decode cX9_refusalOfThrow 5 = .ok (.invokevirtual 154, 3) := by decide +kernel
theorem dX9_refusalOfThrow_8 : decode cX9_refusalOfThrow 8 = .ok (.ifCond .ne 5, 3) := by decide +kernel
theorem dX9_refusalOfThrow_11 : decode cX9_refusalOfThrow 11 = .ok (.iconst (-1), 1) := by decide +kernel
theorem dX9_refusalOfThrow_12 : decode cX9_refusalOfThrow 12 = .ok (.ireturn, 1) := by decide +kernel
theorem dX9_refusalOfThrow_13 : decode cX9_refusalOfThrow 13 = .ok (.iload_n 2, 1) := by decide +kernel
theorem dX9_refusalOfThrow_14 : decode cX9_refusalOfThrow 14 = .ok (.invokestatic 259, 3) := by decide +kernel
theorem dX9_refusalOfThrow_17 : decode cX9_refusalOfThrow 17 = .ok (.ifCond .eq 17, 3) := by decide +kernel
theorem dX9_refusalOfThrow_20 : decode cX9_refusalOfThrow 20 = .ok (.iload_n 3, 1) := by decide +kernel
theorem dX9_refusalOfThrow_21 : decode cX9_refusalOfThrow 21 = .ok (.ifCond .lt 13, 3) := by decide +kernel
theorem dX9_refusalOfThrow_24 : decode cX9_refusalOfThrow 24 = .ok (.iload_n 3, 1) := by decide +kernel
theorem dX9_refusalOfThrow_25 : decode cX9_refusalOfThrow 25 = .ok (.iconst 2, 1) := by decide +kernel
theorem dX9_refusalOfThrow_26 : decode cX9_refusalOfThrow 26 = .ok (.if_icmp .gt 8, 3) := by decide +kernel
theorem dX9_refusalOfThrow_29 : decode cX9_refusalOfThrow 29 = .ok (.bipush (-9), 2) := by decide +kernel
theorem dX9_refusalOfThrow_31 : decode cX9_refusalOfThrow 31 = .ok (.goto 5, 3) := by decide +kernel
theorem dX9_refusalOfThrow_34 : decode cX9_refusalOfThrow 34 = .ok (.bipush (-2), 2) := by decide +kernel
theorem dX9_refusalOfThrow_36 : decode cX9_refusalOfThrow 36 = .ok (.ireturn, 1) := by decide +kernel
theorem dX9_isPlace_0 : decode cX9_isPlace 0 = .ok (.iload_n 0, 1) := by decide +kernel
theorem dX9_isPlace_1 : decode cX9_isPlace 1 = .ok (.ifCond .lt 13, 3) := by decide +kernel
theorem dX9_isPlace_4 : decode cX9_isPlace 4 = .ok (.iload_n 0, 1) := by decide +kernel
theorem dX9_isPlace_5 : decode cX9_isPlace 5 = .ok (.bipush 8, 2) := by decide +kernel
theorem dX9_isPlace_7 : decode cX9_isPlace 7 = .ok (.if_icmp .ge 7, 3) := by decide +kernel
theorem dX9_isPlace_10 : decode cX9_isPlace 10 = .ok (.iconst 1, 1) := by decide +kernel
theorem dX9_isPlace_11 : decode cX9_isPlace 11 = .ok (.goto 4, 3) := by decide +kernel
theorem dX9_isPlace_14 : decode cX9_isPlace 14 = .ok (.iconst 0, 1) := by decide +kernel
theorem dX9_isPlace_15 : decode cX9_isPlace 15 = .ok (.ireturn, 1) := by decide +kernel
theorem dX9_bit_0 : decode cX9_bit 0 = .ok (.iload_n 0, 1) := by decide +kernel
theorem dX9_bit_1 : decode cX9_bit 1 = .ok (.iload_n 1, 1) := by decide +kernel
theorem dX9_bit_2 : decode cX9_bit 2 = .ok (.ishr, 1) := by decide +kernel
theorem dX9_bit_3 : decode cX9_bit 3 = .ok (.iconst 1, 1) := by decide +kernel
theorem dX9_bit_4 : decode cX9_bit 4 = .ok (.iand, 1) := by decide +kernel
theorem dX9_bit_5 : decode cX9_bit 5 = .ok (.ireturn, 1) := by decide +kernel
theorem dX9_newStands_0 : decode cX9_newStands 0 = .ok (.iconst 0, 1) := by decide +kernel
theorem dX9_newStands_1 : decode cX9_newStands 1 = .ok (.iload_n 0, 1) := by decide +kernel
theorem dX9_newStands_2 : decode cX9_newStands 2 = .ok (.invokestatic 299, 3) := by decide +kernel
theorem dX9_newStands_5 : decode cX9_newStands 5 = .ok (.anewarray 16, 3) := by decide +kernel
theorem dX9_newStands_8 : decode cX9_newStands 8 = .ok (.astore_n 1, 1) := by decide +kernel
theorem dX9_newStands_9 : decode cX9_newStands 9 = .ok (.iconst 0, 1) := by decide +kernel
theorem dX9_newStands_10 : decode cX9_newStands 10 = .ok (.istore_n 2, 1) := by decide +kernel
theorem dX9_newStands_11 : decode cX9_newStands 11 = .ok (.iload_n 2, 1) := by decide +kernel
theorem dX9_newStands_12 : decode cX9_newStands 12 = .ok (.aload_n 1, 1) := by decide +kernel
theorem dX9_newStands_13 : decode cX9_newStands 13 = .ok (.arraylength, 1) := by decide +kernel
theorem dX9_newStands_14 : decode cX9_newStands 14 = .ok (.if_icmp .ge 19, 3) := by decide +kernel
theorem dX9_newStands_17 : decode cX9_newStands 17 = .ok (.aload_n 1, 1) := by decide +kernel
theorem dX9_newStands_18 : decode cX9_newStands 18 = .ok (.iload_n 2, 1) := by decide +kernel
theorem dX9_newStands_19 : decode cX9_newStands 19 = .ok (.new 16, 3) := by decide +kernel
theorem dX9_newStands_22 : decode cX9_newStands 22 = .ok (.dup, 1) := by decide +kernel
theorem dX9_newStands_23 : decode cX9_newStands 23 = .ok (.invokespecial 18, 3) := by decide +kernel
theorem dX9_newStands_26 : decode cX9_newStands 26 = .ok (.aastore, 1) := by decide +kernel
theorem dX9_newStands_27 : decode cX9_newStands 27 = .ok (.iinc 2 1, 3) := by decide +kernel
theorem dX9_newStands_30 : decode cX9_newStands 30 = .ok (.goto (-19), 3) := by decide +kernel
theorem dX9_newStands_33 : decode cX9_newStands 33 = .ok (.aload_n 1, 1) := by decide +kernel
theorem dX9_newStands_34 : decode cX9_newStands 34 = .ok (.areturn, 1) := by decide +kernel
theorem dX9_ordersOf_0 : decode cX9_ordersOf 0 = .ok (.iload_n 0, 1) := by decide +kernel
theorem dX9_ordersOf_1 : decode cX9_ordersOf 1 = .ok (.ifCond .lt 19, 3) := by decide +kernel
theorem dX9_ordersOf_4 : decode cX9_ordersOf 4 = .ok (.iload_n 0, 1) := by decide +kernel
theorem dX9_ordersOf_5 : decode cX9_ordersOf 5 = .ok (.getstatic 304, 3) := by decide +kernel
theorem dX9_ordersOf_8 : decode cX9_ordersOf 8 = .ok (.arraylength, 1) := by decide +kernel
theorem dX9_ordersOf_9 : decode cX9_ordersOf 9 = .ok (.if_icmp .ge 11, 3) := by decide +kernel
theorem dX9_ordersOf_12 : decode cX9_ordersOf 12 = .ok (.getstatic 304, 3) := by decide +kernel
theorem dX9_ordersOf_15 : decode cX9_ordersOf 15 = .ok (.iload_n 0, 1) := by decide +kernel
theorem dX9_ordersOf_16 : decode cX9_ordersOf 16 = .ok (.iaload, 1) := by decide +kernel
theorem dX9_ordersOf_17 : decode cX9_ordersOf 17 = .ok (.goto 4, 3) := by decide +kernel
theorem dX9_ordersOf_20 : decode cX9_ordersOf 20 = .ok (.iconst 1, 1) := by decide +kernel
theorem dX9_ordersOf_21 : decode cX9_ordersOf 21 = .ok (.ireturn, 1) := by decide +kernel
theorem dX9_hundreds_0 : decode cX9_hundreds 0 = .ok (.iload_n 0, 1) := by decide +kernel
theorem dX9_hundreds_1 : decode cX9_hundreds 1 = .ok (.ifCond .lt 19, 3) := by decide +kernel
theorem dX9_hundreds_4 : decode cX9_hundreds 4 = .ok (.iload_n 0, 1) := by decide +kernel
theorem dX9_hundreds_5 : decode cX9_hundreds 5 = .ok (.getstatic 307, 3) := by decide +kernel
theorem dX9_hundreds_8 : decode cX9_hundreds 8 = .ok (.arraylength, 1) := by decide +kernel
theorem dX9_hundreds_9 : decode cX9_hundreds 9 = .ok (.if_icmp .ge 11, 3) := by decide +kernel
theorem dX9_hundreds_12 : decode cX9_hundreds 12 = .ok (.getstatic 307, 3) := by decide +kernel
theorem dX9_hundreds_15 : decode cX9_hundreds 15 = .ok (.iload_n 0, 1) := by decide +kernel
theorem dX9_hundreds_16 : decode cX9_hundreds 16 = .ok (.iaload, 1) := by decide +kernel
theorem dX9_hundreds_17 : decode cX9_hundreds 17 = .ok (.goto 4, 3) := by decide +kernel
theorem dX9_hundreds_20 : decode cX9_hundreds 20 = .ok (.iconst 1, 1) := by decide +kernel
theorem dX9_hundreds_21 : decode cX9_hundreds 21 = .ok (.ireturn, 1) := by decide +kernel
theorem dX9_inLeastTerms_0 : decode cX9_inLeastTerms 0 = .ok (.iload_n 0, 1) := by decide +kernel
theorem dX9_inLeastTerms_1 : decode cX9_inLeastTerms 1 = .ok (.iload_n 1, 1) := by decide +kernel
theorem dX9_inLeastTerms_2 : decode cX9_inLeastTerms 2 = .ok (.invokestatic 310, 3) := by decide +kernel
theorem dX9_inLeastTerms_5 : decode cX9_inLeastTerms 5 = .ok (.istore_n 3, 1) := by decide +kernel
theorem dX9_inLeastTerms_6 : decode cX9_inLeastTerms 6 = .ok (.iload_n 3, 1) := by decide +kernel
theorem dX9_inLeastTerms_7 : decode cX9_inLeastTerms 7 = .ok (.ifCond .ne 5, 3) := by decide +kernel
theorem dX9_inLeastTerms_10 : decode cX9_inLeastTerms 10 = .ok (.iconst 0, 1) := by decide +kernel
theorem dX9_inLeastTerms_11 : decode cX9_inLeastTerms 11 = .ok (.ireturn, 1) := by decide +kernel
theorem dX9_inLeastTerms_12 : decode cX9_inLeastTerms 12 = .ok (.iload_n 2, 1) := by decide +kernel
theorem dX9_inLeastTerms_13 : decode cX9_inLeastTerms 13 = .ok (.ifCond .eq 7, 3) := by decide +kernel
theorem dX9_inLeastTerms_16 : decode cX9_inLeastTerms 16 = .ok (.iload_n 0, 1) := by decide +kernel
theorem dX9_inLeastTerms_17 : decode cX9_inLeastTerms 17 = .ok (.goto 4, 3) := by decide +kernel
theorem dX9_inLeastTerms_20 : decode cX9_inLeastTerms 20 = .ok (.iload_n 1, 1) := by decide +kernel
theorem dX9_inLeastTerms_21 : decode cX9_inLeastTerms 21 = .ok (.iload_n 3, 1) := by decide +kernel
theorem dX9_inLeastTerms_22 : decode cX9_inLeastTerms 22 = .ok (.idiv, 1) := by decide +kernel
theorem dX9_inLeastTerms_23 : decode cX9_inLeastTerms 23 = .ok (.ireturn, 1) := by decide +kernel
theorem dX9_commonDivisor_0 : decode cX9_commonDivisor 0 = .ok (.iload_n 0, 1) := by decide +kernel
theorem dX9_commonDivisor_1 : decode cX9_commonDivisor 1 = .ok (.istore_n 2, 1) := by decide +kernel
theorem dX9_commonDivisor_2 : decode cX9_commonDivisor 2 = .ok (.iload_n 1, 1) := by decide +kernel
theorem dX9_commonDivisor_3 : decode cX9_commonDivisor 3 = .ok (.istore_n 3, 1) := by decide +kernel
theorem dX9_commonDivisor_4 : decode cX9_commonDivisor 4 = .ok (.iconst 0, 1) := by decide +kernel
theorem dX9_commonDivisor_5 : decode cX9_commonDivisor 5 = .ok (.istore 4, 2) := by decide +kernel
theorem dX9_commonDivisor_7 : decode cX9_commonDivisor 7 = .ok (.iload 4, 2) := by decide +kernel
theorem dX9_commonDivisor_9 : decode cX9_commonDivisor 9 = .ok (.bipush 64, 2) := by decide +kernel
theorem dX9_commonDivisor_11 : decode cX9_commonDivisor 11 = .ok (.if_icmp .ge 23, 3) := by decide +kernel
theorem dX9_commonDivisor_14 : decode cX9_commonDivisor 14 = .ok (.iload_n 3, 1) := by decide +kernel
theorem dX9_commonDivisor_15 : decode cX9_commonDivisor 15 = .ok (.ifCond .eq 19, 3) := by decide +kernel
theorem dX9_commonDivisor_18 : decode cX9_commonDivisor 18 = .ok (.iload_n 2, 1) := by decide +kernel
theorem dX9_commonDivisor_19 : decode cX9_commonDivisor 19 = .ok (.iload_n 3, 1) := by decide +kernel
theorem dX9_commonDivisor_20 : decode cX9_commonDivisor 20 = .ok (.irem, 1) := by decide +kernel
theorem dX9_commonDivisor_21 : decode cX9_commonDivisor 21 = .ok (.istore 5, 2) := by decide +kernel
theorem dX9_commonDivisor_23 : decode cX9_commonDivisor 23 = .ok (.iload_n 3, 1) := by decide +kernel
theorem dX9_commonDivisor_24 : decode cX9_commonDivisor 24 = .ok (.istore_n 2, 1) := by decide +kernel
theorem dX9_commonDivisor_25 : decode cX9_commonDivisor 25 = .ok (.iload 5, 2) := by decide +kernel
theorem dX9_commonDivisor_27 : decode cX9_commonDivisor 27 = .ok (.istore_n 3, 1) := by decide +kernel
theorem dX9_commonDivisor_28 : decode cX9_commonDivisor 28 = .ok (.iinc 4 1, 3) := by decide +kernel
theorem dX9_commonDivisor_31 : decode cX9_commonDivisor 31 = .ok (.goto (-24), 3) := by decide +kernel
theorem dX9_commonDivisor_34 : decode cX9_commonDivisor 34 = .ok (.iload_n 2, 1) := by decide +kernel
theorem dX9_commonDivisor_35 : decode cX9_commonDivisor 35 = .ok (.ireturn, 1) := by decide +kernel
theorem dX10_init_0 : decode cX10_init 0 = .ok (.aload_n 0, 1) := by decide +kernel
theorem dX10_init_1 : decode cX10_init 1 = .ok (.invokespecial 1, 3) := by decide +kernel
theorem dX10_init_4 : decode cX10_init 4 = .ok (.aload_n 0, 1) := by decide +kernel
theorem dX10_init_5 : decode cX10_init 5 = .ok (.bipush 60, 2) := by decide +kernel
theorem dX10_init_7 : decode cX10_init 7 = .ok (.newarray .int, 2) := by decide +kernel
theorem dX10_init_9 : decode cX10_init 9 = .ok (.putfield 7, 3) := by decide +kernel
theorem dX10_init_12 : decode cX10_init 12 = .ok (.aload_n 0, 1) := by decide +kernel
theorem dX10_init_13 : decode cX10_init 13 = .ok (.bipush 15, 2) := by decide +kernel
theorem dX10_init_15 : decode cX10_init 15 = .ok (.newarray .int, 2) := by decide +kernel
theorem dX10_init_17 : decode cX10_init 17 = .ok (.putfield 13, 3) := by decide +kernel
theorem dX10_init_20 : decode cX10_init 20 = .ok (.aload_n 0, 1) := by decide +kernel
theorem dX10_init_21 : decode cX10_init 21 = .ok (.bipush 12, 2) := by decide +kernel
theorem dX10_init_23 : decode cX10_init 23 = .ok (.newarray .int, 2) := by decide +kernel
theorem dX10_init_25 : decode cX10_init 25 = .ok (.putfield 16, 3) := by decide +kernel
theorem dX10_init_28 : decode cX10_init 28 = .ok (.aload_n 0, 1) := by decide +kernel
theorem dX10_init_29 : decode cX10_init 29 = .ok (.bipush 12, 2) := by decide +kernel
theorem dX10_init_31 : decode cX10_init 31 = .ok (.newarray .int, 2) := by decide +kernel
theorem dX10_init_33 : decode cX10_init 33 = .ok (.putfield 19, 3) := by decide +kernel
theorem dX10_init_36 : decode cX10_init 36 = .ok (.aload_n 0, 1) := by decide +kernel
theorem dX10_init_37 : decode cX10_init 37 = .ok (.bipush 15, 2) := by decide +kernel
theorem dX10_init_39 : decode cX10_init 39 = .ok (.newarray .int, 2) := by decide +kernel
theorem dX10_init_41 : decode cX10_init 41 = .ok (.putfield 22, 3) := by decide +kernel
theorem dX10_init_44 : decode cX10_init 44 = .ok (.aload_n 0, 1) := by decide +kernel
theorem dX10_init_45 : decode cX10_init 45 = .ok (.bipush 12, 2) := by decide +kernel
theorem dX10_init_47 : decode cX10_init 47 = .ok (.newarray .int, 2) := by decide +kernel
theorem dX10_init_49 : decode cX10_init 49 = .ok (.putfield 25, 3) := by decide +kernel
theorem dX10_init_52 : decode cX10_init 52 = .ok (.aload_n 0, 1) := by decide +kernel
theorem dX10_init_53 : decode cX10_init 53 = .ok (.bipush 12, 2) := by decide +kernel
theorem dX10_init_55 : decode cX10_init 55 = .ok (.newarray .int, 2) := by decide +kernel
theorem dX10_init_57 : decode cX10_init 57 = .ok (.putfield 28, 3) := by decide +kernel
theorem dX10_init_60 : decode cX10_init 60 = .ok (.aload_n 0, 1) := by decide +kernel
theorem dX10_init_61 : decode cX10_init 61 = .ok (.bipush 15, 2) := by decide +kernel
theorem dX10_init_63 : decode cX10_init 63 = .ok (.newarray .int, 2) := by decide +kernel
theorem dX10_init_65 : decode cX10_init 65 = .ok (.putfield 31, 3) := by decide +kernel
theorem dX10_init_68 : decode cX10_init 68 = .ok (.aload_n 0, 1) := by decide +kernel
theorem dX10_init_69 : decode cX10_init 69 = .ok (.bipush 15, 2) := by decide +kernel
theorem dX10_init_71 : decode cX10_init 71 = .ok (.newarray .int, 2) := by decide +kernel
theorem dX10_init_73 : decode cX10_init 73 = .ok (.putfield 34, 3) := by decide +kernel
theorem dX10_init_76 : decode cX10_init 76 = .ok (.aload_n 0, 1) := by decide +kernel
theorem dX10_init_77 : decode cX10_init 77 = .ok (.bipush 15, 2) := by decide +kernel
theorem dX10_init_79 : decode cX10_init 79 = .ok (.newarray .int, 2) := by decide +kernel
theorem dX10_init_81 : decode cX10_init 81 = .ok (.putfield 37, 3) := by decide +kernel
theorem dX10_init_84 : decode cX10_init 84 = .ok (.aload_n 0, 1) := by decide +kernel
theorem dX10_init_85 : decode cX10_init 85 = .ok (.sipush 210, 3) := by decide +kernel
theorem dX10_init_88 : decode cX10_init 88 = .ok (.newarray .int, 2) := by decide +kernel
theorem dX10_init_90 : decode cX10_init 90 = .ok (.putfield 40, 3) := by decide +kernel
theorem dX10_init_93 : decode cX10_init 93 = .ok (.aload_n 0, 1) := by decide +kernel
theorem dX10_init_94 : decode cX10_init 94 = .ok (.bipush 30, 2) := by decide +kernel
theorem dX10_init_96 : decode cX10_init 96 = .ok (.newarray .int, 2) := by decide +kernel
theorem dX10_init_98 : decode cX10_init 98 = .ok (.putfield 43, 3) := by decide +kernel
theorem dX10_init_101 : decode cX10_init 101 = .ok (.aload_n 0, 1) := by decide +kernel
theorem dX10_init_102 : decode cX10_init 102 = .ok (.iconst 2, 1) := by decide +kernel
theorem dX10_init_103 : decode cX10_init 103 = .ok (.newarray .boolean, 2) := by decide +kernel
theorem dX10_init_105 : decode cX10_init 105 = .ok (.putfield 46, 3) := by decide +kernel
theorem dX10_init_108 : decode cX10_init 108 = .ok (.aload_n 0, 1) := by decide +kernel
theorem dX10_init_109 : decode cX10_init 109 = .ok (.bipush 6, 2) := by decide +kernel
theorem dX10_init_111 : decode cX10_init 111 = .ok (.newarray .int, 2) := by decide +kernel
theorem dX10_init_113 : decode cX10_init 113 = .ok (.putfield 50, 3) := by decide +kernel
theorem dX10_init_116 : decode cX10_init 116 = .ok (.aload_n 0, 1) := by decide +kernel
theorem dX10_init_117 : decode cX10_init 117 = .ok (.bipush 6, 2) := by decide +kernel
theorem dX10_init_119 : decode cX10_init 119 = .ok (.newarray .int, 2) := by decide +kernel
theorem dX10_init_121 : decode cX10_init 121 = .ok (.putfield 53, 3) := by decide +kernel
theorem dX10_init_124 : decode cX10_init 124 = .ok (.aload_n 0, 1) := by decide +kernel
theorem dX10_init_125 : decode cX10_init 125 = .ok (.bipush 6, 2) := by decide +kernel
theorem dX10_init_127 : decode cX10_init 127 = .ok (.newarray .int, 2) := by decide +kernel
theorem dX10_init_129 : decode cX10_init 129 = .ok (.putfield 56, 3) := by decide +kernel
theorem dX10_init_132 : decode cX10_init 132 = .ok (.aload_n 0, 1) := by decide +kernel
theorem dX10_init_133 : decode cX10_init 133 = .ok (.bipush 6, 2) := by decide +kernel
theorem dX10_init_135 : decode cX10_init 135 = .ok (.newarray .int, 2) := by decide +kernel
theorem dX10_init_137 : decode cX10_init 137 = .ok (.putfield 59, 3) := by decide +kernel
theorem dX10_init_140 : decode cX10_init 140 = .ok (.aload_n 0, 1) := by decide +kernel
theorem dX10_init_141 : decode cX10_init 141 = .ok (.bipush 6, 2) := by decide +kernel
theorem dX10_init_143 : decode cX10_init 143 = .ok (.newarray .int, 2) := by decide +kernel
theorem dX10_init_145 : decode cX10_init 145 = .ok (.putfield 62, 3) := by decide +kernel
theorem dX10_init_148 : decode cX10_init 148 = .ok (.aload_n 0, 1) := by decide +kernel
theorem dX10_init_149 : decode cX10_init 149 = .ok (.bipush 72, 2) := by decide +kernel
theorem dX10_init_151 : decode cX10_init 151 = .ok (.newarray .int, 2) := by decide +kernel
theorem dX10_init_153 : decode cX10_init 153 = .ok (.putfield 65, 3) := by decide +kernel
theorem dX10_init_156 : decode cX10_init 156 = .ok (.aload_n 0, 1) := by decide +kernel
theorem dX10_init_157 : decode cX10_init 157 = .ok (.bipush 16, 2) := by decide +kernel
theorem dX10_init_159 : decode cX10_init 159 = .ok (.newarray .int, 2) := by decide +kernel
theorem dX10_init_161 : decode cX10_init 161 = .ok (.putfield 68, 3) := by decide +kernel
theorem dX10_init_164 : decode cX10_init 164 = .ok (.aload_n 0, 1) := by decide +kernel
theorem dX10_init_165 : decode cX10_init 165 = .ok (.getfield 31, 3) := by decide +kernel
theorem dX10_init_168 : decode cX10_init 168 = .ok (.bipush 13, 2) := by decide +kernel
theorem dX10_init_170 : decode cX10_init 170 = .ok (.iconst 1, 1) := by decide +kernel
theorem dX10_init_171 : decode cX10_init 171 = .ok (.iastore, 1) := by decide +kernel
theorem dX10_init_172 : decode cX10_init 172 = .ok (.return_, 1) := by decide +kernel
theorem dX10_in_0 : decode cX10_in 0 = .ok (.lload_n 0, 1) := by decide +kernel
theorem dX10_in_1 : decode cX10_in 1 = .ok (.lload_n 2, 1) := by decide +kernel
theorem dX10_in_2 : decode cX10_in 2 = .ok (.lcmp, 1) := by decide +kernel
theorem dX10_in_3 : decode cX10_in 3 = .ok (.ifCond .lt 14, 3) := by decide +kernel
theorem dX10_in_6 : decode cX10_in 6 = .ok (.lload_n 0, 1) := by decide +kernel
theorem dX10_in_7 : decode cX10_in 7 = .ok (.lload 4, 2) := by decide +kernel
theorem dX10_in_9 : decode cX10_in 9 = .ok (.lcmp, 1) := by decide +kernel
theorem dX10_in_10 : decode cX10_in 10 = .ok (.ifCond .gt 7, 3) := by decide +kernel
theorem dX10_in_13 : decode cX10_in 13 = .ok (.iconst 1, 1) := by decide +kernel
theorem dX10_in_14 : decode cX10_in 14 = .ok (.goto 4, 3) := by decide +kernel
theorem dX10_in_17 : decode cX10_in 17 = .ok (.iconst 0, 1) := by decide +kernel
theorem dX10_in_18 : decode cX10_in 18 = .ok (.ireturn, 1) := by decide +kernel
theorem dX10_has_0 : decode cX10_has 0 = .ok (.iload_n 0, 1) := by decide +kernel
theorem dX10_has_1 : decode cX10_has 1 = .ok (.iload_n 1, 1) := by decide +kernel
theorem dX10_has_2 : decode cX10_has 2 = .ok (.ishr, 1) := by decide +kernel
theorem dX10_has_3 : decode cX10_has 3 = .ok (.iconst 1, 1) := by decide +kernel
theorem dX10_has_4 : decode cX10_has 4 = .ok (.iand, 1) := by decide +kernel
theorem dX10_has_5 : decode cX10_has 5 = .ok (.iconst 1, 1) := by decide +kernel
theorem dX10_has_6 : decode cX10_has 6 = .ok (.if_icmp .ne 7, 3) := by decide +kernel
theorem dX10_has_9 : decode cX10_has 9 = .ok (.iconst 1, 1) := by decide +kernel
theorem dX10_has_10 : decode cX10_has 10 = .ok (.goto 4, 3) := by decide +kernel
theorem dX10_has_13 : decode cX10_has 13 = .ok (.iconst 0, 1) := by decide +kernel
theorem dX10_has_14 : decode cX10_has 14 = .ok (.ireturn, 1) := by decide +kernel
theorem dX10_many_0 : decode cX10_many 0 = .ok (.iconst 0, 1) := by decide +kernel
theorem dX10_many_1 : decode cX10_many 1 = .ok (.istore_n 1, 1) := by decide +kernel
theorem dX10_many_2 : decode cX10_many 2 = .ok (.iconst 0, 1) := by decide +kernel
theorem dX10_many_3 : decode cX10_many 3 = .ok (.istore_n 2, 1) := by decide +kernel
theorem dX10_many_4 : decode cX10_many 4 = .ok (.iload_n 2, 1) := by decide +kernel
theorem dX10_many_5 : decode cX10_many 5 = .ok (.iconst 5, 1) := by decide +kernel
theorem dX10_many_6 : decode cX10_many 6 = .ok (.if_icmp .ge 17, 3) := by decide +kernel
theorem dX10_many_9 : decode cX10_many 9 = .ok (.iload_n 1, 1) := by decide +kernel
theorem dX10_many_10 : decode cX10_many 10 = .ok (.iload_n 0, 1) := by decide +kernel
theorem dX10_many_11 : decode cX10_many 11 = .ok (.iload_n 2, 1) := by decide +kernel
theorem dX10_many_12 : decode cX10_many 12 = .ok (.ishr, 1) := by decide +kernel
theorem dX10_many_13 : decode cX10_many 13 = .ok (.iconst 1, 1) := by decide +kernel
theorem dX10_many_14 : decode cX10_many 14 = .ok (.iand, 1) := by decide +kernel
theorem dX10_many_15 : decode cX10_many 15 = .ok (.iadd, 1) := by decide +kernel
theorem dX10_many_16 : decode cX10_many 16 = .ok (.istore_n 1, 1) := by decide +kernel
theorem dX10_many_17 : decode cX10_many 17 = .ok (.iinc 2 1, 3) := by decide +kernel
theorem dX10_many_20 : decode cX10_many 20 = .ok (.goto (-16), 3) := by decide +kernel
theorem dX10_many_23 : decode cX10_many 23 = .ok (.iload_n 1, 1) := by decide +kernel
theorem dX10_many_24 : decode cX10_many 24 = .ok (.ireturn, 1) := by decide +kernel
theorem dX10_noHusk_0 : decode cX10_noHusk 0 = .ok (.iload_n 1, 1) := by decide +kernel
theorem dX10_noHusk_1 : decode cX10_noHusk 1 = .ok (.i2l, 1) := by decide +kernel
theorem dX10_noHusk_2 : decode cX10_noHusk 2 = .ok (.lconst 0, 1) := by decide +kernel
theorem dX10_noHusk_3 : decode cX10_noHusk 3 = .ok (.aload_n 0, 1) := by decide +kernel
theorem dX10_noHusk_4 : decode cX10_noHusk 4 = .ok (.getfield 75, 3) := by decide +kernel
theorem dX10_noHusk_7 : decode cX10_noHusk 7 = .ok (.iconst 1, 1) := by decide +kernel
theorem dX10_noHusk_8 : decode cX10_noHusk 8 = .ok (.isub, 1) := by decide +kernel
theorem dX10_noHusk_9 : decode cX10_noHusk 9 = .ok (.i2l, 1) := by decide +kernel
theorem dX10_noHusk_10 : decode cX10_noHusk 10 = .ok (.invokestatic 78, 3) := by decide +kernel
theorem dX10_noHusk_13 : decode cX10_noHusk 13 = .ok (.ifCond .ne 7, 3) := by decide +kernel
theorem dX10_noHusk_16 : decode cX10_noHusk 16 = .ok (.iconst 1, 1) := by decide +kernel
theorem dX10_noHusk_17 : decode cX10_noHusk 17 = .ok (.goto 4, 3) := by decide +kernel
theorem dX10_noHusk_20 : decode cX10_noHusk 20 = .ok (.iconst 0, 1) := by decide +kernel
theorem dX10_noHusk_21 : decode cX10_noHusk 21 = .ok (.ireturn, 1) := by decide +kernel
theorem dX10_noThrower_0 : decode cX10_noThrower 0 = .ok (.iload_n 1, 1) := by decide +kernel
theorem dX10_noThrower_1 : decode cX10_noThrower 1 = .ok (.i2l, 1) := by decide +kernel
theorem dX10_noThrower_2 : decode cX10_noThrower 2 = .ok (.lconst 0, 1) := by decide +kernel
theorem dX10_noThrower_3 : decode cX10_noThrower 3 = .ok (.aload_n 0, 1) := by decide +kernel
theorem dX10_noThrower_4 : decode cX10_noThrower 4 = .ok (.getfield 82, 3) := by decide +kernel
theorem dX10_noThrower_7 : decode cX10_noThrower 7 = .ok (.iconst 1, 1) := by decide +kernel
theorem dX10_noThrower_8 : decode cX10_noThrower 8 = .ok (.isub, 1) := by decide +kernel
theorem dX10_noThrower_9 : decode cX10_noThrower 9 = .ok (.i2l, 1) := by decide +kernel
theorem dX10_noThrower_10 : decode cX10_noThrower 10 = .ok (.invokestatic 78, 3) := by decide +kernel
theorem dX10_noThrower_13 : decode cX10_noThrower 13 = .ok (.ifCond .ne 7, 3) := by decide +kernel
theorem dX10_noThrower_16 : decode cX10_noThrower 16 = .ok (.iconst 1, 1) := by decide +kernel
theorem dX10_noThrower_17 : decode cX10_noThrower 17 = .ok (.goto 4, 3) := by decide +kernel
theorem dX10_noThrower_20 : decode cX10_noThrower 20 = .ok (.iconst 0, 1) := by decide +kernel
theorem dX10_noThrower_21 : decode cX10_noThrower 21 = .ok (.ireturn, 1) := by decide +kernel
theorem dX10_write_0 : decode cX10_write 0 = .ok (.aload_n 0, 1) := by decide +kernel
theorem dX10_write_1 : decode cX10_write 1 = .ok (.iconst 0, 1) := by decide +kernel
theorem dX10_write_2 : decode cX10_write 2 = .ok (.putfield 71, 3) := by decide +kernel
theorem dX10_write_5 : decode cX10_write 5 = .ok (.iload_n 1, 1) := by decide +kernel
theorem dX10_write_6 : decode cX10_write 6 = .ok (.i2l, 1) := by decide +kernel
theorem dX10_write_7 : decode cX10_write 7 = .ok (.lconst 0, 1) := by decide +kernel
theorem dX10_write_8 : decode cX10_write 8 = .ok (.ldc2_w 85, 3) := by decide +kernel
theorem dX10_write_11 : decode cX10_write 11 = .ok (.invokestatic 78, 3) := by decide +kernel
theorem dX10_write_14 : decode cX10_write 14 = .ok (.ifCond .ne 6, 3) := by decide +kernel
theorem dX10_write_17 : decode cX10_write 17 = .ok (.bipush (-2), 2) := by decide +kernel
theorem dX10_write_19 : decode cX10_write 19 = .ok (.ireturn, 1) := by decide +kernel
theorem dX10_write_20 : decode cX10_write 20 = .ok (.aload_n 0, 1) := by decide +kernel
theorem dX10_write_21 : decode cX10_write 21 = .ok (.getfield 87, 3) := by decide +kernel
theorem dX10_write_24 : decode cX10_write 24 = .ok (.bipush 60, 2) := by decide +kernel
theorem dX10_write_26 : decode cX10_write 26 = .ok (.if_icmp .ne 6, 3) := by decide +kernel
theorem dX10_write_29 : decode cX10_write 29 = .ok (.bipush (-4), 2) := by decide +kernel
theorem dX10_write_31 : decode cX10_write 31 = .ok (.ireturn, 1) := by decide +kernel
theorem dX10_write_32 : decode cX10_write 32 = .ok (.aload_n 0, 1) := by decide +kernel
theorem dX10_write_33 : decode cX10_write 33 = .ok (.getfield 7, 3) := by decide +kernel
theorem dX10_write_36 : decode cX10_write 36 = .ok (.aload_n 0, 1) := by decide +kernel
theorem dX10_write_37 : decode cX10_write 37 = .ok (.getfield 87, 3) := by decide +kernel
theorem dX10_write_40 : decode cX10_write 40 = .ok (.iload_n 1, 1) := by decide +kernel
theorem dX10_write_41 : decode cX10_write 41 = .ok (.iastore, 1) := by decide +kernel
theorem dX10_write_42 : decode cX10_write 42 = .ok (.aload_n 0, 1) := by decide +kernel
theorem dX10_write_43 : decode cX10_write 43 = .ok (.dup, 1) := by decide +kernel
theorem dX10_write_44 : decode cX10_write 44 = .ok (.getfield 87, 3) := by decide +kernel
theorem dX10_write_47 : decode cX10_write 47 = .ok (.iconst 1, 1) := by decide +kernel
theorem dX10_write_48 : decode cX10_write 48 = .ok (.iadd, 1) := by decide +kernel
theorem dX10_write_49 : decode cX10_write 49 = .ok (.putfield 87, 3) := by decide +kernel
theorem dX10_write_52 : decode cX10_write 52 = .ok (.aload_n 0, 1) := by decide +kernel
theorem dX10_write_53 : decode cX10_write 53 = .ok (.getfield 87, 3) := by decide +kernel
theorem dX10_write_56 : decode cX10_write 56 = .ok (.ireturn, 1) := by decide +kernel
theorem dX10_wipe_0 : decode cX10_wipe 0 = .ok (.aload_n 0, 1) := by decide +kernel
theorem dX10_wipe_1 : decode cX10_wipe 1 = .ok (.iconst 0, 1) := by decide +kernel
theorem dX10_wipe_2 : decode cX10_wipe 2 = .ok (.putfield 71, 3) := by decide +kernel
theorem dX10_wipe_5 : decode cX10_wipe 5 = .ok (.aload_n 0, 1) := by decide +kernel
theorem dX10_wipe_6 : decode cX10_wipe 6 = .ok (.getfield 87, 3) := by decide +kernel
theorem dX10_wipe_9 : decode cX10_wipe 9 = .ok (.istore_n 1, 1) := by decide +kernel
theorem dX10_wipe_10 : decode cX10_wipe 10 = .ok (.aload_n 0, 1) := by decide +kernel
theorem dX10_wipe_11 : decode cX10_wipe 11 = .ok (.iconst 0, 1) := by decide +kernel
theorem dX10_wipe_12 : decode cX10_wipe 12 = .ok (.putfield 87, 3) := by decide +kernel
theorem dX10_wipe_15 : decode cX10_wipe 15 = .ok (.iload_n 1, 1) := by decide +kernel
theorem dX10_wipe_16 : decode cX10_wipe 16 = .ok (.ireturn, 1) := by decide +kernel
theorem dX10_figure_0 : decode cX10_figure 0 = .ok (.aload_n 0, 1) := by decide +kernel
theorem dX10_figure_1 : decode cX10_figure 1 = .ok (.getfield 90, 3) := by decide +kernel
theorem dX10_figure_4 : decode cX10_figure 4 = .ok (.aload_n 0, 1) := by decide +kernel
theorem dX10_figure_5 : decode cX10_figure 5 = .ok (.getfield 87, 3) := by decide +kernel
theorem dX10_figure_8 : decode cX10_figure 8 = .ok (.if_icmp .eq 26, 3) := by decide +kernel
theorem dX10_figure_11 : decode cX10_figure 11 = .ok (.aload_n 0, 1) := by decide +kernel
theorem dX10_figure_12 : decode cX10_figure 12 = .ok (.getfield 7, 3) := by decide +kernel
theorem dX10_figure_15 : decode cX10_figure 15 = .ok (.aload_n 0, 1) := by decide +kernel
theorem dX10_figure_16 : decode cX10_figure 16 = .ok (.getfield 90, 3) := by decide +kernel
theorem dX10_figure_19 : decode cX10_figure 19 = .ok (.iaload, 1) := by decide +kernel
theorem dX10_figure_20 : decode cX10_figure 20 = .ok (.bipush 48, 2) := by decide +kernel
theorem dX10_figure_22 : decode cX10_figure 22 = .ok (.isub, 1) := by decide +kernel
theorem dX10_figure_23 : decode cX10_figure 23 = .ok (.i2l, 1) := by decide +kernel
theorem dX10_figure_24 : decode cX10_figure 24 = .ok (.iload_n 1, 1) := by decide +kernel
theorem dX10_figure_25 : decode cX10_figure 25 = .ok (.i2l, 1) := by decide +kernel
theorem dX10_figure_26 : decode cX10_figure 26 = .ok (.iload_n 2, 1) := by decide +kernel
theorem dX10_figure_27 : decode cX10_figure 27 = .ok (.i2l, 1) := by decide +kernel
theorem dX10_figure_28 : decode cX10_figure 28 = .ok (.invokestatic 78, 3) := by decide +kernel
theorem dX10_figure_31 : decode cX10_figure 31 = .ok (.ifCond .ne 6, 3) := by decide +kernel
theorem dX10_figure_34 : decode cX10_figure 34 = .ok (.bipush (-9), 2) := by decide +kernel
theorem dX10_figure_36 : decode cX10_figure 36 = .ok (.ireturn, 1) := by decide +kernel
theorem dX10_figure_37 : decode cX10_figure 37 = .ok (.aload_n 0, 1) := by decide +kernel
theorem dX10_figure_38 : decode cX10_figure 38 = .ok (.dup, 1) := by decide +kernel
theorem dX10_figure_39 : decode cX10_figure 39 = .ok (.getfield 90, 3) := by decide +kernel
theorem dX10_figure_42 : decode cX10_figure 42 = .ok (.iconst 1, 1) := by decide +kernel
theorem dX10_figure_43 : decode cX10_figure 43 = .ok (.iadd, 1) := by decide +kernel
theorem dX10_figure_44 : decode cX10_figure 44 = .ok (.putfield 90, 3) := by decide +kernel
theorem dX10_figure_47 : decode cX10_figure 47 = .ok (.aload_n 0, 1) := by decide +kernel
theorem dX10_figure_48 : decode cX10_figure 48 = .ok (.getfield 7, 3) := by decide +kernel
theorem dX10_figure_51 : decode cX10_figure 51 = .ok (.aload_n 0, 1) := by decide +kernel
theorem dX10_figure_52 : decode cX10_figure 52 = .ok (.getfield 90, 3) := by decide +kernel
theorem dX10_figure_55 : decode cX10_figure 55 = .ok (.iconst 1, 1) := by decide +kernel
theorem dX10_figure_56 : decode cX10_figure 56 = .ok (.isub, 1) := by decide +kernel
theorem dX10_figure_57 : decode cX10_figure 57 = .ok (.iaload, 1) := by decide +kernel
theorem dX10_figure_58 : decode cX10_figure 58 = .ok (.bipush 48, 2) := by decide +kernel
theorem dX10_figure_60 : decode cX10_figure 60 = .ok (.isub, 1) := by decide +kernel
theorem dX10_figure_61 : decode cX10_figure 61 = .ok (.ireturn, 1) := by decide +kernel
theorem dX10_readPlace_0 : decode cX10_readPlace 0 = .ok (.aload_n 0, 1) := by decide +kernel
theorem dX10_readPlace_1 : decode cX10_readPlace 1 = .ok (.getfield 90, 3) := by decide +kernel
theorem dX10_readPlace_4 : decode cX10_readPlace 4 = .ok (.aload_n 0, 1) := by decide +kernel
theorem dX10_readPlace_5 : decode cX10_readPlace 5 = .ok (.getfield 87, 3) := by decide +kernel
theorem dX10_readPlace_8 : decode cX10_readPlace 8 = .ok (.if_icmp .ne 8, 3) := by decide +kernel
theorem dX10_readPlace_11 : decode cX10_readPlace 11 = .ok (.bipush (-9), 2) := by decide +kernel
theorem dX10_readPlace_13 : decode cX10_readPlace 13 = .ok (.goto 15, 3) := by decide +kernel
theorem dX10_readPlace_16 : decode cX10_readPlace 16 = .ok (.aload_n 0, 1) := by decide +kernel
theorem dX10_readPlace_17 : decode cX10_readPlace 17 = .ok (.getfield 7, 3) := by decide +kernel
theorem dX10_readPlace_20 : decode cX10_readPlace 20 = .ok (.aload_n 0, 1) := by decide +kernel
theorem dX10_readPlace_21 : decode cX10_readPlace 21 = .ok (.getfield 90, 3) := by decide +kernel
theorem dX10_readPlace_24 : decode cX10_readPlace 24 = .ok (.iaload, 1) := by decide +kernel
theorem dX10_readPlace_25 : decode cX10_readPlace 25 = .ok (.bipush 48, 2) := by decide +kernel
theorem dX10_readPlace_27 : decode cX10_readPlace 27 = .ok (.isub, 1) := by decide +kernel
theorem dX10_readPlace_28 : decode cX10_readPlace 28 = .ok (.istore_n 1, 1) := by decide +kernel
theorem dX10_readPlace_29 : decode cX10_readPlace 29 = .ok (.iload_n 1, 1) := by decide +kernel
theorem dX10_readPlace_30 : decode cX10_readPlace 30 = .ok (.i2l, 1) := by decide +kernel
theorem dX10_readPlace_31 : decode cX10_readPlace 31 = .ok (.lconst 0, 1) := by decide +kernel
theorem dX10_readPlace_32 : decode cX10_readPlace 32 = .ok (.ldc2_w 93, 3) := by decide +kernel
theorem dX10_readPlace_35 : decode cX10_readPlace 35 = .ok (.invokestatic 78, 3) := by decide +kernel
theorem dX10_readPlace_38 : decode cX10_readPlace 38 = .ok (.istore_n 2, 1) := by decide +kernel
theorem dX10_readPlace_39 : decode cX10_readPlace 39 = .ok (.iconst 0, 1) := by decide +kernel
theorem dX10_readPlace_40 : decode cX10_readPlace 40 = .ok (.istore_n 3, 1) := by decide +kernel
theorem dX10_readPlace_41 : decode cX10_readPlace 41 = .ok (.iload_n 3, 1) := by decide +kernel
theorem dX10_readPlace_42 : decode cX10_readPlace 42 = .ok (.aload_n 0, 1) := by decide +kernel
theorem dX10_readPlace_43 : decode cX10_readPlace 43 = .ok (.getfield 95, 3) := by decide +kernel
theorem dX10_readPlace_46 : decode cX10_readPlace 46 = .ok (.if_icmp .ge 31, 3) := by decide +kernel
theorem dX10_readPlace_49 : decode cX10_readPlace 49 = .ok (.iload_n 2, 1) := by decide +kernel
theorem dX10_readPlace_50 : decode cX10_readPlace 50 = .ok (.ifCond .eq 19, 3) := by decide +kernel
theorem dX10_readPlace_53 : decode cX10_readPlace 53 = .ok (.aload_n 0, 1) := by decide +kernel
theorem dX10_readPlace_54 : decode cX10_readPlace 54 = .ok (.getfield 22, 3) := by decide +kernel
theorem dX10_readPlace_57 : decode cX10_readPlace 57 = .ok (.iconst 3, 1) := by decide +kernel
theorem dX10_readPlace_58 : decode cX10_readPlace 58 = .ok (.iload_n 3, 1) := by decide +kernel
theorem dX10_readPlace_59 : decode cX10_readPlace 59 = .ok (.imul, 1) := by decide +kernel
theorem dX10_readPlace_60 : decode cX10_readPlace 60 = .ok (.iaload, 1) := by decide +kernel
theorem dX10_readPlace_61 : decode cX10_readPlace 61 = .ok (.iload_n 1, 1) := by decide +kernel
theorem dX10_readPlace_62 : decode cX10_readPlace 62 = .ok (.if_icmp .eq 7, 3) := by decide +kernel
theorem dX10_readPlace_65 : decode cX10_readPlace 65 = .ok (.iconst 1, 1) := by decide +kernel
theorem dX10_readPlace_66 : decode cX10_readPlace 66 = .ok (.goto 4, 3) := by decide +kernel
theorem dX10_readPlace_69 : decode cX10_readPlace 69 = .ok (.iconst 0, 1) := by decide +kernel
theorem dX10_readPlace_70 : decode cX10_readPlace 70 = .ok (.istore_n 2, 1) := by decide +kernel
theorem dX10_readPlace_71 : decode cX10_readPlace 71 = .ok (.iinc 3 1, 3) := by decide +kernel
theorem dX10_readPlace_74 : decode cX10_readPlace 74 = .ok (.goto (-33), 3) := by decide +kernel
theorem dX10_readPlace_77 : decode cX10_readPlace 77 = .ok (.aload_n 0, 1) := by decide +kernel
theorem dX10_readPlace_78 : decode cX10_readPlace 78 = .ok (.dup, 1) := by decide +kernel
theorem dX10_readPlace_79 : decode cX10_readPlace 79 = .ok (.getfield 90, 3) := by decide +kernel
theorem dX10_readPlace_82 : decode cX10_readPlace 82 = .ok (.iload_n 2, 1) := by decide +kernel
theorem dX10_readPlace_83 : decode cX10_readPlace 83 = .ok (.ifCond .eq 7, 3) := by decide +kernel
theorem dX10_readPlace_86 : decode cX10_readPlace 86 = .ok (.iconst 1, 1) := by decide +kernel
theorem dX10_readPlace_87 : decode cX10_readPlace 87 = .ok (.goto 4, 3) := by decide +kernel
theorem dX10_readPlace_90 : decode cX10_readPlace 90 = .ok (.iconst 0, 1) := by decide +kernel
theorem dX10_readPlace_91 : decode cX10_readPlace 91 = .ok (.iadd, 1) := by decide +kernel
theorem dX10_readPlace_92 : decode cX10_readPlace 92 = .ok (.putfield 90, 3) := by decide +kernel
theorem dX10_readPlace_95 : decode cX10_readPlace 95 = .ok (.iload_n 2, 1) := by decide +kernel
theorem dX10_readPlace_96 : decode cX10_readPlace 96 = .ok (.ifCond .eq 7, 3) := by decide +kernel
theorem dX10_readPlace_99 : decode cX10_readPlace 99 = .ok (.iload_n 1, 1) := by decide +kernel
theorem dX10_readPlace_100 : decode cX10_readPlace 100 = .ok (.goto 5, 3) := by decide +kernel
theorem dX10_readPlace_103 : decode cX10_readPlace 103 = .ok (.bipush (-9), 2) := by decide +kernel
theorem dX10_readPlace_105 : decode cX10_readPlace 105 = .ok (.ireturn, 1) := by decide +kernel
theorem dX10_readOneHusk_0 : decode cX10_readOneHusk 0 = .ok (.aload_n 0, 1) := by decide +kernel
theorem dX10_readOneHusk_1 : decode cX10_readOneHusk 1 = .ok (.invokevirtual 98, 3) := by decide +kernel
theorem dX10_readOneHusk_4 : decode cX10_readOneHusk 4 = .ok (.istore_n 1, 1) := by decide +kernel
theorem dX10_readOneHusk_5 : decode cX10_readOneHusk 5 = .ok (.iload_n 1, 1) := by decide +kernel
theorem dX10_readOneHusk_6 : decode cX10_readOneHusk 6 = .ok (.bipush (-9), 2) := by decide +kernel
theorem dX10_readOneHusk_8 : decode cX10_readOneHusk 8 = .ok (.if_icmp .ne 8, 3) := by decide +kernel
theorem dX10_readOneHusk_11 : decode cX10_readOneHusk 11 = .ok (.bipush (-9), 2) := by decide +kernel
theorem dX10_readOneHusk_13 : decode cX10_readOneHusk 13 = .ok (.goto 10, 3) := by decide +kernel
theorem dX10_readOneHusk_16 : decode cX10_readOneHusk 16 = .ok (.aload_n 0, 1) := by decide +kernel
theorem dX10_readOneHusk_17 : decode cX10_readOneHusk 17 = .ok (.iconst 1, 1) := by decide +kernel
theorem dX10_readOneHusk_18 : decode cX10_readOneHusk 18 = .ok (.bipush 9, 2) := by decide +kernel
theorem dX10_readOneHusk_20 : decode cX10_readOneHusk 20 = .ok (.invokevirtual 102, 3) := by decide +kernel
theorem dX10_readOneHusk_23 : decode cX10_readOneHusk 23 = .ok (.istore_n 2, 1) := by decide +kernel
theorem dX10_readOneHusk_24 : decode cX10_readOneHusk 24 = .ok (.iload_n 2, 1) := by decide +kernel
theorem dX10_readOneHusk_25 : decode cX10_readOneHusk 25 = .ok (.bipush (-9), 2) := by decide +kernel
theorem dX10_readOneHusk_27 : decode cX10_readOneHusk 27 = .ok (.if_icmp .ne 8, 3) := by decide +kernel
theorem dX10_readOneHusk_30 : decode cX10_readOneHusk 30 = .ok (.bipush (-9), 2) := by decide +kernel
theorem dX10_readOneHusk_32 : decode cX10_readOneHusk 32 = .ok (.goto 9, 3) := by decide +kernel
theorem dX10_readOneHusk_35 : decode cX10_readOneHusk 35 = .ok (.aload_n 0, 1) := by decide +kernel
theorem dX10_readOneHusk_36 : decode cX10_readOneHusk 36 = .ok (.iconst 0, 1) := by decide +kernel
theorem dX10_readOneHusk_37 : decode cX10_readOneHusk 37 = .ok (.iconst 3, 1) := by decide +kernel
theorem dX10_readOneHusk_38 : decode cX10_readOneHusk 38 = .ok (.invokevirtual 102, 3) := by decide +kernel
theorem dX10_readOneHusk_41 : decode cX10_readOneHusk 41 = .ok (.istore_n 3, 1) := by decide +kernel
theorem dX10_readOneHusk_42 : decode cX10_readOneHusk 42 = .ok (.iload_n 3, 1) := by decide +kernel
theorem dX10_readOneHusk_43 : decode cX10_readOneHusk 43 = .ok (.bipush (-9), 2) := by decide +kernel
theorem dX10_readOneHusk_45 : decode cX10_readOneHusk 45 = .ok (.if_icmp .ne 5, 3) := by decide +kernel
theorem dX10_readOneHusk_48 : decode cX10_readOneHusk 48 = .ok (.iconst 0, 1) := by decide +kernel
theorem dX10_readOneHusk_49 : decode cX10_readOneHusk 49 = .ok (.ireturn, 1) := by decide +kernel
theorem dX10_readOneHusk_50 : decode cX10_readOneHusk 50 = .ok (.aload_n 0, 1) := by decide +kernel
theorem dX10_readOneHusk_51 : decode cX10_readOneHusk 51 = .ok (.getfield 22, 3) := by decide +kernel
theorem dX10_readOneHusk_54 : decode cX10_readOneHusk 54 = .ok (.iconst 3, 1) := by decide +kernel
theorem dX10_readOneHusk_55 : decode cX10_readOneHusk 55 = .ok (.aload_n 0, 1) := by decide +kernel
theorem dX10_readOneHusk_56 : decode cX10_readOneHusk 56 = .ok (.getfield 95, 3) := by decide +kernel
theorem dX10_readOneHusk_59 : decode cX10_readOneHusk 59 = .ok (.imul, 1) := by decide +kernel
theorem dX10_readOneHusk_60 : decode cX10_readOneHusk 60 = .ok (.iload_n 1, 1) := by decide +kernel
theorem dX10_readOneHusk_61 : decode cX10_readOneHusk 61 = .ok (.iastore, 1) := by decide +kernel
theorem dX10_readOneHusk_62 : decode cX10_readOneHusk 62 = .ok (.aload_n 0, 1) := by decide +kernel
theorem dX10_readOneHusk_63 : decode cX10_readOneHusk 63 = .ok (.getfield 22, 3) := by decide +kernel
theorem dX10_readOneHusk_66 : decode cX10_readOneHusk 66 = .ok (.iconst 3, 1) := by decide +kernel
theorem dX10_readOneHusk_67 : decode cX10_readOneHusk 67 = .ok (.aload_n 0, 1) := by decide +kernel
theorem dX10_readOneHusk_68 : decode cX10_readOneHusk 68 = .ok (.getfield 95, 3) := by decide +kernel
theorem dX10_readOneHusk_71 : decode cX10_readOneHusk 71 = .ok (.imul, 1) := by decide +kernel
theorem dX10_readOneHusk_72 : decode cX10_readOneHusk 72 = .ok (.iconst 1, 1) := by decide +kernel
theorem dX10_readOneHusk_73 : decode cX10_readOneHusk 73 = .ok (.iadd, 1) := by decide +kernel
theorem dX10_readOneHusk_74 : decode cX10_readOneHusk 74 = .ok (.iload_n 2, 1) := by decide +kernel
theorem dX10_readOneHusk_75 : decode cX10_readOneHusk 75 = .ok (.iastore, 1) := by decide +kernel
theorem dX10_readOneHusk_76 : decode cX10_readOneHusk 76 = .ok (.aload_n 0, 1) := by decide +kernel
theorem dX10_readOneHusk_77 : decode cX10_readOneHusk 77 = .ok (.getfield 22, 3) := by decide +kernel
theorem dX10_readOneHusk_80 : decode cX10_readOneHusk 80 = .ok (.iconst 3, 1) := by decide +kernel
theorem dX10_readOneHusk_81 : decode cX10_readOneHusk 81 = .ok (.aload_n 0, 1) := by decide +kernel
theorem dX10_readOneHusk_82 : decode cX10_readOneHusk 82 = .ok (.getfield 95, 3) := by decide +kernel
theorem dX10_readOneHusk_85 : decode cX10_readOneHusk 85 = .ok (.imul, 1) := by decide +kernel
theorem dX10_readOneHusk_86 : decode cX10_readOneHusk 86 = .ok (.iconst 2, 1) := by decide +kernel
theorem dX10_readOneHusk_87 : decode cX10_readOneHusk 87 = .ok (.iadd, 1) := by decide +kernel
theorem dX10_readOneHusk_88 : decode cX10_readOneHusk 88 = .ok (.iload_n 3, 1) := by decide +kernel
theorem dX10_readOneHusk_89 : decode cX10_readOneHusk 89 = .ok (.iastore, 1) := by decide +kernel
theorem dX10_readOneHusk_90 : decode cX10_readOneHusk 90 = .ok (.aload_n 0, 1) := by decide +kernel
theorem dX10_readOneHusk_91 : decode cX10_readOneHusk 91 = .ok (.dup, 1) := by decide +kernel
theorem dX10_readOneHusk_92 : decode cX10_readOneHusk 92 = .ok (.getfield 95, 3) := by decide +kernel
theorem dX10_readOneHusk_95 : decode cX10_readOneHusk 95 = .ok (.iconst 1, 1) := by decide +kernel
theorem dX10_readOneHusk_96 : decode cX10_readOneHusk 96 = .ok (.iadd, 1) := by decide +kernel
theorem dX10_readOneHusk_97 : decode cX10_readOneHusk 97 = .ok (.putfield 95, 3) := by decide +kernel
theorem dX10_readOneHusk_100 : decode cX10_readOneHusk 100 = .ok (.iconst 1, 1) := by decide +kernel
theorem dX10_readOneHusk_101 : decode cX10_readOneHusk 101 = .ok (.ireturn, 1) := by decide +kernel
theorem dX10_readOneThrower_0 : decode cX10_readOneThrower 0 = .ok (.aload_n 0, 1) := by decide +kernel
theorem dX10_readOneThrower_1 : decode cX10_readOneThrower 1 = .ok (.iconst 0, 1) := by decide +kernel
theorem dX10_readOneThrower_2 : decode cX10_readOneThrower 2 = .ok (.iconst 3, 1) := by decide +kernel
theorem dX10_readOneThrower_3 : decode cX10_readOneThrower 3 = .ok (.invokevirtual 102, 3) := by decide +kernel
theorem dX10_readOneThrower_6 : decode cX10_readOneThrower 6 = .ok (.istore_n 1, 1) := by decide +kernel
theorem dX10_readOneThrower_7 : decode cX10_readOneThrower 7 = .ok (.iload_n 1, 1) := by decide +kernel
theorem dX10_readOneThrower_8 : decode cX10_readOneThrower 8 = .ok (.bipush (-9), 2) := by decide +kernel
theorem dX10_readOneThrower_10 : decode cX10_readOneThrower 10 = .ok (.if_icmp .ne 8, 3) := by decide +kernel
theorem dX10_readOneThrower_13 : decode cX10_readOneThrower 13 = .ok (.bipush (-9), 2) := by decide +kernel
theorem dX10_readOneThrower_15 : decode cX10_readOneThrower 15 = .ok (.goto 10, 3) := by decide +kernel
theorem dX10_readOneThrower_18 : decode cX10_readOneThrower 18 = .ok (.aload_n 0, 1) := by decide +kernel
theorem dX10_readOneThrower_19 : decode cX10_readOneThrower 19 = .ok (.iconst 1, 1) := by decide +kernel
theorem dX10_readOneThrower_20 : decode cX10_readOneThrower 20 = .ok (.bipush 9, 2) := by decide +kernel
theorem dX10_readOneThrower_22 : decode cX10_readOneThrower 22 = .ok (.invokevirtual 102, 3) := by decide +kernel
theorem dX10_readOneThrower_25 : decode cX10_readOneThrower 25 = .ok (.istore_n 2, 1) := by decide +kernel
theorem dX10_readOneThrower_26 : decode cX10_readOneThrower 26 = .ok (.iload_n 2, 1) := by decide +kernel
theorem dX10_readOneThrower_27 : decode cX10_readOneThrower 27 = .ok (.bipush (-9), 2) := by decide +kernel
theorem dX10_readOneThrower_29 : decode cX10_readOneThrower 29 = .ok (.if_icmp .ne 8, 3) := by decide +kernel
theorem dX10_readOneThrower_32 : decode cX10_readOneThrower 32 = .ok (.bipush (-9), 2) := by decide +kernel
theorem dX10_readOneThrower_34 : decode cX10_readOneThrower 34 = .ok (.goto 9, 3) := by decide +kernel
theorem dX10_readOneThrower_37 : decode cX10_readOneThrower 37 = .ok (.aload_n 0, 1) := by decide +kernel
theorem dX10_readOneThrower_38 : decode cX10_readOneThrower 38 = .ok (.iconst 0, 1) := by decide +kernel
theorem dX10_readOneThrower_39 : decode cX10_readOneThrower 39 = .ok (.iconst 3, 1) := by decide +kernel
theorem dX10_readOneThrower_40 : decode cX10_readOneThrower 40 = .ok (.invokevirtual 102, 3) := by decide +kernel
theorem dX10_readOneThrower_43 : decode cX10_readOneThrower 43 = .ok (.istore_n 3, 1) := by decide +kernel
theorem dX10_readOneThrower_44 : decode cX10_readOneThrower 44 = .ok (.iload_n 3, 1) := by decide +kernel
theorem dX10_readOneThrower_45 : decode cX10_readOneThrower 45 = .ok (.bipush (-9), 2) := by decide +kernel
theorem dX10_readOneThrower_47 : decode cX10_readOneThrower 47 = .ok (.if_icmp .ne 5, 3) := by decide +kernel
theorem dX10_readOneThrower_50 : decode cX10_readOneThrower 50 = .ok (.iconst 0, 1) := by decide +kernel
theorem dX10_readOneThrower_51 : decode cX10_readOneThrower 51 = .ok (.ireturn, 1) := by decide +kernel
theorem dX10_readOneThrower_52 : decode cX10_readOneThrower 52 = .ok (.aload_n 0, 1) := by decide +kernel
theorem dX10_readOneThrower_53 : decode cX10_readOneThrower 53 = .ok (.getfield 25, 3) := by decide +kernel
theorem dX10_readOneThrower_56 : decode cX10_readOneThrower 56 = .ok (.iconst 3, 1) := by decide +kernel
theorem dX10_readOneThrower_57 : decode cX10_readOneThrower 57 = .ok (.aload_n 0, 1) := by decide +kernel
theorem dX10_readOneThrower_58 : decode cX10_readOneThrower 58 = .ok (.getfield 106, 3) := by decide +kernel
theorem dX10_readOneThrower_61 : decode cX10_readOneThrower 61 = .ok (.imul, 1) := by decide +kernel
theorem dX10_readOneThrower_62 : decode cX10_readOneThrower 62 = .ok (.iload_n 1, 1) := by decide +kernel
theorem dX10_readOneThrower_63 : decode cX10_readOneThrower 63 = .ok (.iastore, 1) := by decide +kernel
theorem dX10_readOneThrower_64 : decode cX10_readOneThrower 64 = .ok (.aload_n 0, 1) := by decide +kernel
theorem dX10_readOneThrower_65 : decode cX10_readOneThrower 65 = .ok (.getfield 25, 3) := by decide +kernel
theorem dX10_readOneThrower_68 : decode cX10_readOneThrower 68 = .ok (.iconst 3, 1) := by decide +kernel
theorem dX10_readOneThrower_69 : decode cX10_readOneThrower 69 = .ok (.aload_n 0, 1) := by decide +kernel
theorem dX10_readOneThrower_70 : decode cX10_readOneThrower 70 = .ok (.getfield 106, 3) := by decide +kernel
theorem dX10_readOneThrower_73 : decode cX10_readOneThrower 73 = .ok (.imul, 1) := by decide +kernel
theorem dX10_readOneThrower_74 : decode cX10_readOneThrower 74 = .ok (.iconst 1, 1) := by decide +kernel
theorem dX10_readOneThrower_75 : decode cX10_readOneThrower 75 = .ok (.iadd, 1) := by decide +kernel
theorem dX10_readOneThrower_76 : decode cX10_readOneThrower 76 = .ok (.iload_n 2, 1) := by decide +kernel
theorem dX10_readOneThrower_77 : decode cX10_readOneThrower 77 = .ok (.iastore, 1) := by decide +kernel
theorem dX10_readOneThrower_78 : decode cX10_readOneThrower 78 = .ok (.aload_n 0, 1) := by decide +kernel
theorem dX10_readOneThrower_79 : decode cX10_readOneThrower 79 = .ok (.getfield 25, 3) := by decide +kernel
theorem dX10_readOneThrower_82 : decode cX10_readOneThrower 82 = .ok (.iconst 3, 1) := by decide +kernel
theorem dX10_readOneThrower_83 : decode cX10_readOneThrower 83 = .ok (.aload_n 0, 1) := by decide +kernel
theorem dX10_readOneThrower_84 : decode cX10_readOneThrower 84 = .ok (.getfield 106, 3) := by decide +kernel
theorem dX10_readOneThrower_87 : decode cX10_readOneThrower 87 = .ok (.imul, 1) := by decide +kernel
theorem dX10_readOneThrower_88 : decode cX10_readOneThrower 88 = .ok (.iconst 2, 1) := by decide +kernel
theorem dX10_readOneThrower_89 : decode cX10_readOneThrower 89 = .ok (.iadd, 1) := by decide +kernel
theorem dX10_readOneThrower_90 : decode cX10_readOneThrower 90 = .ok (.iload_n 3, 1) := by decide +kernel
theorem dX10_readOneThrower_91 : decode cX10_readOneThrower 91 = .ok (.iastore, 1) := by decide +kernel
theorem dX10_readOneThrower_92 : decode cX10_readOneThrower 92 = .ok (.aload_n 0, 1) := by decide +kernel
theorem dX10_readOneThrower_93 : decode cX10_readOneThrower 93 = .ok (.dup, 1) := by decide +kernel
theorem dX10_readOneThrower_94 : decode cX10_readOneThrower 94 = .ok (.getfield 106, 3) := by decide +kernel
theorem dX10_readOneThrower_97 : decode cX10_readOneThrower 97 = .ok (.iconst 1, 1) := by decide +kernel
theorem dX10_readOneThrower_98 : decode cX10_readOneThrower 98 = .ok (.iadd, 1) := by decide +kernel
theorem dX10_readOneThrower_99 : decode cX10_readOneThrower 99 = .ok (.putfield 106, 3) := by decide +kernel
theorem dX10_readOneThrower_102 : decode cX10_readOneThrower 102 = .ok (.iconst 1, 1) := by decide +kernel
theorem dX10_readOneThrower_103 : decode cX10_readOneThrower 103 = .ok (.ireturn, 1) := by decide +kernel
theorem dX10_readOneLaw_0 : decode cX10_readOneLaw 0 = .ok (.aload_n 0, 1) := by decide +kernel
theorem dX10_readOneLaw_1 : decode cX10_readOneLaw 1 = .ok (.iconst 0, 1) := by decide +kernel
theorem dX10_readOneLaw_2 : decode cX10_readOneLaw 2 = .ok (.aload_n 0, 1) := by decide +kernel
theorem dX10_readOneLaw_3 : decode cX10_readOneLaw 3 = .ok (.getfield 95, 3) := by decide +kernel
theorem dX10_readOneLaw_6 : decode cX10_readOneLaw 6 = .ok (.iconst 1, 1) := by decide +kernel
theorem dX10_readOneLaw_7 : decode cX10_readOneLaw 7 = .ok (.isub, 1) := by decide +kernel
theorem dX10_readOneLaw_8 : decode cX10_readOneLaw 8 = .ok (.invokevirtual 102, 3) := by decide +kernel
theorem dX10_readOneLaw_11 : decode cX10_readOneLaw 11 = .ok (.istore_n 1, 1) := by decide +kernel
theorem dX10_readOneLaw_12 : decode cX10_readOneLaw 12 = .ok (.iload_n 1, 1) := by decide +kernel
theorem dX10_readOneLaw_13 : decode cX10_readOneLaw 13 = .ok (.bipush (-9), 2) := by decide +kernel
theorem dX10_readOneLaw_15 : decode cX10_readOneLaw 15 = .ok (.if_icmp .ne 5, 3) := by decide +kernel
theorem dX10_readOneLaw_18 : decode cX10_readOneLaw 18 = .ok (.iconst 0, 1) := by decide +kernel
theorem dX10_readOneLaw_19 : decode cX10_readOneLaw 19 = .ok (.ireturn, 1) := by decide +kernel
theorem dX10_readOneLaw_20 : decode cX10_readOneLaw 20 = .ok (.aload_n 0, 1) := by decide +kernel
theorem dX10_readOneLaw_21 : decode cX10_readOneLaw 21 = .ok (.iconst 0, 1) := by decide +kernel
theorem dX10_readOneLaw_22 : decode cX10_readOneLaw 22 = .ok (.aload_n 0, 1) := by decide +kernel
theorem dX10_readOneLaw_23 : decode cX10_readOneLaw 23 = .ok (.getfield 95, 3) := by decide +kernel
theorem dX10_readOneLaw_26 : decode cX10_readOneLaw 26 = .ok (.iconst 1, 1) := by decide +kernel
theorem dX10_readOneLaw_27 : decode cX10_readOneLaw 27 = .ok (.isub, 1) := by decide +kernel
theorem dX10_readOneLaw_28 : decode cX10_readOneLaw 28 = .ok (.invokevirtual 102, 3) := by decide +kernel
theorem dX10_readOneLaw_31 : decode cX10_readOneLaw 31 = .ok (.istore_n 2, 1) := by decide +kernel
theorem dX10_readOneLaw_32 : decode cX10_readOneLaw 32 = .ok (.iload_n 2, 1) := by decide +kernel
theorem dX10_readOneLaw_33 : decode cX10_readOneLaw 33 = .ok (.iload_n 1, 1) := by decide +kernel
theorem dX10_readOneLaw_34 : decode cX10_readOneLaw 34 = .ok (.if_icmp .ne 15, 3) := by decide +kernel
theorem dX10_readOneLaw_37 : decode cX10_readOneLaw 37 = .ok (.aload_n 0, 1) := by decide +kernel
theorem dX10_readOneLaw_38 : decode cX10_readOneLaw 38 = .ok (.dup, 1) := by decide +kernel
theorem dX10_readOneLaw_39 : decode cX10_readOneLaw 39 = .ok (.getfield 90, 3) := by decide +kernel
theorem dX10_readOneLaw_42 : decode cX10_readOneLaw 42 = .ok (.iconst 1, 1) := by decide +kernel
theorem dX10_readOneLaw_43 : decode cX10_readOneLaw 43 = .ok (.isub, 1) := by decide +kernel
theorem dX10_readOneLaw_44 : decode cX10_readOneLaw 44 = .ok (.putfield 90, 3) := by decide +kernel
theorem dX10_readOneLaw_47 : decode cX10_readOneLaw 47 = .ok (.iconst 0, 1) := by decide +kernel
theorem dX10_readOneLaw_48 : decode cX10_readOneLaw 48 = .ok (.ireturn, 1) := by decide +kernel
theorem dX10_readOneLaw_49 : decode cX10_readOneLaw 49 = .ok (.iload_n 2, 1) := by decide +kernel
theorem dX10_readOneLaw_50 : decode cX10_readOneLaw 50 = .ok (.bipush (-9), 2) := by decide +kernel
theorem dX10_readOneLaw_52 : decode cX10_readOneLaw 52 = .ok (.if_icmp .ne 8, 3) := by decide +kernel
theorem dX10_readOneLaw_55 : decode cX10_readOneLaw 55 = .ok (.bipush (-9), 2) := by decide +kernel
theorem dX10_readOneLaw_57 : decode cX10_readOneLaw 57 = .ok (.goto 9, 3) := by decide +kernel
theorem dX10_readOneLaw_60 : decode cX10_readOneLaw 60 = .ok (.aload_n 0, 1) := by decide +kernel
theorem dX10_readOneLaw_61 : decode cX10_readOneLaw 61 = .ok (.iconst 0, 1) := by decide +kernel
theorem dX10_readOneLaw_62 : decode cX10_readOneLaw 62 = .ok (.iconst 1, 1) := by decide +kernel
theorem dX10_readOneLaw_63 : decode cX10_readOneLaw 63 = .ok (.invokevirtual 102, 3) := by decide +kernel
theorem dX10_readOneLaw_66 : decode cX10_readOneLaw 66 = .ok (.istore_n 3, 1) := by decide +kernel
theorem dX10_readOneLaw_67 : decode cX10_readOneLaw 67 = .ok (.iload_n 3, 1) := by decide +kernel
theorem dX10_readOneLaw_68 : decode cX10_readOneLaw 68 = .ok (.bipush (-9), 2) := by decide +kernel
theorem dX10_readOneLaw_70 : decode cX10_readOneLaw 70 = .ok (.if_icmp .ne 5, 3) := by decide +kernel
theorem dX10_readOneLaw_73 : decode cX10_readOneLaw 73 = .ok (.iconst 0, 1) := by decide +kernel
theorem dX10_readOneLaw_74 : decode cX10_readOneLaw 74 = .ok (.ireturn, 1) := by decide +kernel
theorem dX10_readOneLaw_75 : decode cX10_readOneLaw 75 = .ok (.aload_n 0, 1) := by decide +kernel
theorem dX10_readOneLaw_76 : decode cX10_readOneLaw 76 = .ok (.getfield 28, 3) := by decide +kernel
theorem dX10_readOneLaw_79 : decode cX10_readOneLaw 79 = .ok (.iconst 3, 1) := by decide +kernel
theorem dX10_readOneLaw_80 : decode cX10_readOneLaw 80 = .ok (.aload_n 0, 1) := by decide +kernel
theorem dX10_readOneLaw_81 : decode cX10_readOneLaw 81 = .ok (.getfield 109, 3) := by decide +kernel
theorem dX10_readOneLaw_84 : decode cX10_readOneLaw 84 = .ok (.imul, 1) := by decide +kernel
theorem dX10_readOneLaw_85 : decode cX10_readOneLaw 85 = .ok (.iload_n 1, 1) := by decide +kernel
theorem dX10_readOneLaw_86 : decode cX10_readOneLaw 86 = .ok (.iastore, 1) := by decide +kernel
theorem dX10_readOneLaw_87 : decode cX10_readOneLaw 87 = .ok (.aload_n 0, 1) := by decide +kernel
theorem dX10_readOneLaw_88 : decode cX10_readOneLaw 88 = .ok (.getfield 28, 3) := by decide +kernel
theorem dX10_readOneLaw_91 : decode cX10_readOneLaw 91 = .ok (.iconst 3, 1) := by decide +kernel
theorem dX10_readOneLaw_92 : decode cX10_readOneLaw 92 = .ok (.aload_n 0, 1) := by decide +kernel
theorem dX10_readOneLaw_93 : decode cX10_readOneLaw 93 = .ok (.getfield 109, 3) := by decide +kernel
theorem dX10_readOneLaw_96 : decode cX10_readOneLaw 96 = .ok (.imul, 1) := by decide +kernel
theorem dX10_readOneLaw_97 : decode cX10_readOneLaw 97 = .ok (.iconst 1, 1) := by decide +kernel
theorem dX10_readOneLaw_98 : decode cX10_readOneLaw 98 = .ok (.iadd, 1) := by decide +kernel
theorem dX10_readOneLaw_99 : decode cX10_readOneLaw 99 = .ok (.iload_n 2, 1) := by decide +kernel
theorem dX10_readOneLaw_100 : decode cX10_readOneLaw 100 = .ok (.iastore, 1) := by decide +kernel
theorem dX10_readOneLaw_101 : decode cX10_readOneLaw 101 = .ok (.aload_n 0, 1) := by decide +kernel
theorem dX10_readOneLaw_102 : decode cX10_readOneLaw 102 = .ok (.getfield 28, 3) := by decide +kernel
theorem dX10_readOneLaw_105 : decode cX10_readOneLaw 105 = .ok (.iconst 3, 1) := by decide +kernel
theorem dX10_readOneLaw_106 : decode cX10_readOneLaw 106 = .ok (.aload_n 0, 1) := by decide +kernel
theorem dX10_readOneLaw_107 : decode cX10_readOneLaw 107 = .ok (.getfield 109, 3) := by decide +kernel
theorem dX10_readOneLaw_110 : decode cX10_readOneLaw 110 = .ok (.imul, 1) := by decide +kernel
theorem dX10_readOneLaw_111 : decode cX10_readOneLaw 111 = .ok (.iconst 2, 1) := by decide +kernel
theorem dX10_readOneLaw_112 : decode cX10_readOneLaw 112 = .ok (.iadd, 1) := by decide +kernel
theorem dX10_readOneLaw_113 : decode cX10_readOneLaw 113 = .ok (.iload_n 3, 1) := by decide +kernel
theorem dX10_readOneLaw_114 : decode cX10_readOneLaw 114 = .ok (.iastore, 1) := by decide +kernel
theorem dX10_readOneLaw_115 : decode cX10_readOneLaw 115 = .ok (.aload_n 0, 1) := by decide +kernel
theorem dX10_readOneLaw_116 : decode cX10_readOneLaw 116 = .ok (.dup, 1) := by decide +kernel
theorem dX10_readOneLaw_117 : decode cX10_readOneLaw 117 = .ok (.getfield 109, 3) := by decide +kernel
theorem dX10_readOneLaw_120 : decode cX10_readOneLaw 120 = .ok (.iconst 1, 1) := by decide +kernel
theorem dX10_readOneLaw_121 : decode cX10_readOneLaw 121 = .ok (.iadd, 1) := by decide +kernel
theorem dX10_readOneLaw_122 : decode cX10_readOneLaw 122 = .ok (.putfield 109, 3) := by decide +kernel
theorem dX10_readOneLaw_125 : decode cX10_readOneLaw 125 = .ok (.iconst 1, 1) := by decide +kernel
theorem dX10_readOneLaw_126 : decode cX10_readOneLaw 126 = .ok (.ireturn, 1) := by decide +kernel
theorem dX10_readPart_0 : decode cX10_readPart 0 = .ok (.aload_n 0, 1) := by decide +kernel
theorem dX10_readPart_1 : decode cX10_readPart 1 = .ok (.getfield 7, 3) := by decide +kernel
theorem dX10_readPart_4 : decode cX10_readPart 4 = .ok (.aload_n 0, 1) := by decide +kernel
theorem dX10_readPart_5 : decode cX10_readPart 5 = .ok (.getfield 90, 3) := by decide +kernel
theorem dX10_readPart_8 : decode cX10_readPart 8 = .ok (.iaload, 1) := by decide +kernel
theorem dX10_readPart_9 : decode cX10_readPart 9 = .ok (.istore_n 1, 1) := by decide +kernel
theorem dX10_readPart_10 : decode cX10_readPart 10 = .ok (.aload_n 0, 1) := by decide +kernel
theorem dX10_readPart_11 : decode cX10_readPart 11 = .ok (.dup, 1) := by decide +kernel
theorem dX10_readPart_12 : decode cX10_readPart 12 = .ok (.getfield 90, 3) := by decide +kernel
theorem dX10_readPart_15 : decode cX10_readPart 15 = .ok (.iconst 1, 1) := by decide +kernel
theorem dX10_readPart_16 : decode cX10_readPart 16 = .ok (.iadd, 1) := by decide +kernel
theorem dX10_readPart_17 : decode cX10_readPart 17 = .ok (.putfield 90, 3) := by decide +kernel
theorem dX10_readPart_20 : decode cX10_readPart 20 = .ok (.iload_n 1, 1) := by decide +kernel
theorem dX10_readPart_21 : decode cX10_readPart 21 = .ok (.bipush 72, 2) := by decide +kernel
theorem dX10_readPart_23 : decode cX10_readPart 23 = .ok (.if_icmp .ne 16, 3) := by decide +kernel
theorem dX10_readPart_26 : decode cX10_readPart 26 = .ok (.aload_n 0, 1) := by decide +kernel
theorem dX10_readPart_27 : decode cX10_readPart 27 = .ok (.getfield 95, 3) := by decide +kernel
theorem dX10_readPart_30 : decode cX10_readPart 30 = .ok (.iconst 5, 1) := by decide +kernel
theorem dX10_readPart_31 : decode cX10_readPart 31 = .ok (.if_icmp .ge 8, 3) := by decide +kernel
theorem dX10_readPart_34 : decode cX10_readPart 34 = .ok (.aload_n 0, 1) := by decide +kernel
theorem dX10_readPart_35 : decode cX10_readPart 35 = .ok (.invokevirtual 112, 3) := by decide +kernel
theorem dX10_readPart_38 : decode cX10_readPart 38 = .ok (.ireturn, 1) := by decide +kernel
theorem dX10_readPart_39 : decode cX10_readPart 39 = .ok (.iload_n 1, 1) := by decide +kernel
theorem dX10_readPart_40 : decode cX10_readPart 40 = .ok (.bipush 84, 2) := by decide +kernel
theorem dX10_readPart_42 : decode cX10_readPart 42 = .ok (.if_icmp .ne 16, 3) := by decide +kernel
theorem dX10_readPart_45 : decode cX10_readPart 45 = .ok (.aload_n 0, 1) := by decide +kernel
theorem dX10_readPart_46 : decode cX10_readPart 46 = .ok (.getfield 106, 3) := by decide +kernel
theorem dX10_readPart_49 : decode cX10_readPart 49 = .ok (.iconst 4, 1) := by decide +kernel
theorem dX10_readPart_50 : decode cX10_readPart 50 = .ok (.if_icmp .ge 8, 3) := by decide +kernel
theorem dX10_readPart_53 : decode cX10_readPart 53 = .ok (.aload_n 0, 1) := by decide +kernel
theorem dX10_readPart_54 : decode cX10_readPart 54 = .ok (.invokevirtual 116, 3) := by decide +kernel
theorem dX10_readPart_57 : decode cX10_readPart 57 = .ok (.ireturn, 1) := by decide +kernel
theorem dX10_readPart_58 : decode cX10_readPart 58 = .ok (.iload_n 1, 1) := by decide +kernel
theorem dX10_readPart_59 : decode cX10_readPart 59 = .ok (.bipush 76, 2) := by decide +kernel
theorem dX10_readPart_61 : decode cX10_readPart 61 = .ok (.if_icmp .ne 24, 3) := by decide +kernel
theorem dX10_readPart_64 : decode cX10_readPart 64 = .ok (.aload_n 0, 1) := by decide +kernel
theorem dX10_readPart_65 : decode cX10_readPart 65 = .ok (.getfield 109, 3) := by decide +kernel
theorem dX10_readPart_68 : decode cX10_readPart 68 = .ok (.iconst 4, 1) := by decide +kernel
theorem dX10_readPart_69 : decode cX10_readPart 69 = .ok (.if_icmp .ge 16, 3) := by decide +kernel
theorem dX10_readPart_72 : decode cX10_readPart 72 = .ok (.aload_n 0, 1) := by decide +kernel
theorem dX10_readPart_73 : decode cX10_readPart 73 = .ok (.getfield 95, 3) := by decide +kernel
theorem dX10_readPart_76 : decode cX10_readPart 76 = .ok (.iconst 1, 1) := by decide +kernel
theorem dX10_readPart_77 : decode cX10_readPart 77 = .ok (.if_icmp .le 8, 3) := by decide +kernel
theorem dX10_readPart_80 : decode cX10_readPart 80 = .ok (.aload_n 0, 1) := by decide +kernel
theorem dX10_readPart_81 : decode cX10_readPart 81 = .ok (.invokevirtual 119, 3) := by decide +kernel
theorem dX10_readPart_84 : decode cX10_readPart 84 = .ok (.ireturn, 1) := by decide +kernel
theorem dX10_readPart_85 : decode cX10_readPart 85 = .ok (.aload_n 0, 1) := by decide +kernel
theorem dX10_readPart_86 : decode cX10_readPart 86 = .ok (.dup, 1) := by decide +kernel
theorem dX10_readPart_87 : decode cX10_readPart 87 = .ok (.getfield 90, 3) := by decide +kernel
theorem dX10_readPart_90 : decode cX10_readPart 90 = .ok (.iconst 1, 1) := by decide +kernel
theorem dX10_readPart_91 : decode cX10_readPart 91 = .ok (.isub, 1) := by decide +kernel
theorem dX10_readPart_92 : decode cX10_readPart 92 = .ok (.putfield 90, 3) := by decide +kernel
theorem dX10_readPart_95 : decode cX10_readPart 95 = .ok (.iconst 0, 1) := by decide +kernel
theorem dX10_readPart_96 : decode cX10_readPart 96 = .ok (.ireturn, 1) := by decide +kernel
theorem dX10_readFair_0 : decode cX10_readFair 0 = .ok (.aload_n 0, 1) := by decide +kernel
theorem dX10_readFair_1 : decode cX10_readFair 1 = .ok (.iconst 0, 1) := by decide +kernel
theorem dX10_readFair_2 : decode cX10_readFair 2 = .ok (.putfield 90, 3) := by decide +kernel
theorem dX10_readFair_5 : decode cX10_readFair 5 = .ok (.aload_n 0, 1) := by decide +kernel
theorem dX10_readFair_6 : decode cX10_readFair 6 = .ok (.iconst 0, 1) := by decide +kernel
theorem dX10_readFair_7 : decode cX10_readFair 7 = .ok (.putfield 95, 3) := by decide +kernel
theorem dX10_readFair_10 : decode cX10_readFair 10 = .ok (.aload_n 0, 1) := by decide +kernel
theorem dX10_readFair_11 : decode cX10_readFair 11 = .ok (.iconst 0, 1) := by decide +kernel
theorem dX10_readFair_12 : decode cX10_readFair 12 = .ok (.putfield 106, 3) := by decide +kernel
theorem dX10_readFair_15 : decode cX10_readFair 15 = .ok (.aload_n 0, 1) := by decide +kernel
theorem dX10_readFair_16 : decode cX10_readFair 16 = .ok (.iconst 0, 1) := by decide +kernel
theorem dX10_readFair_17 : decode cX10_readFair 17 = .ok (.putfield 109, 3) := by decide +kernel
theorem dX10_readFair_20 : decode cX10_readFair 20 = .ok (.aload_n 0, 1) := by decide +kernel
theorem dX10_readFair_21 : decode cX10_readFair 21 = .ok (.getfield 87, 3) := by decide +kernel
theorem dX10_readFair_24 : decode cX10_readFair 24 = .ok (.ifCond .eq 14, 3) := by decide +kernel
theorem dX10_readFair_27 : decode cX10_readFair 27 = .ok (.aload_n 0, 1) := by decide +kernel
theorem dX10_readFair_28 : decode cX10_readFair 28 = .ok (.getfield 7, 3) := by decide +kernel
theorem dX10_readFair_31 : decode cX10_readFair 31 = .ok (.iconst 0, 1) := by decide +kernel
theorem dX10_readFair_32 : decode cX10_readFair 32 = .ok (.iaload, 1) := by decide +kernel
theorem dX10_readFair_33 : decode cX10_readFair 33 = .ok (.bipush 83, 2) := by decide +kernel
theorem dX10_readFair_35 : decode cX10_readFair 35 = .ok (.if_icmp .eq 5, 3) := by decide +kernel
theorem dX10_readFair_38 : decode cX10_readFair 38 = .ok (.iconst 0, 1) := by decide +kernel
theorem dX10_readFair_39 : decode cX10_readFair 39 = .ok (.ireturn, 1) := by decide +kernel
theorem dX10_readFair_40 : decode cX10_readFair 40 = .ok (.aload_n 0, 1) := by decide +kernel
theorem dX10_readFair_41 : decode cX10_readFair 41 = .ok (.iconst 1, 1) := by decide +kernel
theorem dX10_readFair_42 : decode cX10_readFair 42 = .ok (.putfield 90, 3) := by decide +kernel
theorem dX10_readFair_45 : decode cX10_readFair 45 = .ok (.aload_n 0, 1) := by decide +kernel
theorem dX10_readFair_46 : decode cX10_readFair 46 = .ok (.aload_n 0, 1) := by decide +kernel
theorem dX10_readFair_47 : decode cX10_readFair 47 = .ok (.iconst 0, 1) := by decide +kernel
theorem dX10_readFair_48 : decode cX10_readFair 48 = .ok (.iconst 2, 1) := by decide +kernel
theorem dX10_readFair_49 : decode cX10_readFair 49 = .ok (.invokevirtual 102, 3) := by decide +kernel
theorem dX10_readFair_52 : decode cX10_readFair 52 = .ok (.putfield 122, 3) := by decide +kernel
theorem dX10_readFair_55 : decode cX10_readFair 55 = .ok (.aload_n 0, 1) := by decide +kernel
theorem dX10_readFair_56 : decode cX10_readFair 56 = .ok (.aload_n 0, 1) := by decide +kernel
theorem dX10_readFair_57 : decode cX10_readFair 57 = .ok (.getfield 122, 3) := by decide +kernel
theorem dX10_readFair_60 : decode cX10_readFair 60 = .ok (.bipush (-9), 2) := by decide +kernel
theorem dX10_readFair_62 : decode cX10_readFair 62 = .ok (.if_icmp .ne 8, 3) := by decide +kernel
theorem dX10_readFair_65 : decode cX10_readFair 65 = .ok (.bipush (-9), 2) := by decide +kernel
theorem dX10_readFair_67 : decode cX10_readFair 67 = .ok (.goto 10, 3) := by decide +kernel
theorem dX10_readFair_70 : decode cX10_readFair 70 = .ok (.aload_n 0, 1) := by decide +kernel
theorem dX10_readFair_71 : decode cX10_readFair 71 = .ok (.iconst 0, 1) := by decide +kernel
theorem dX10_readFair_72 : decode cX10_readFair 72 = .ok (.bipush 9, 2) := by decide +kernel
theorem dX10_readFair_74 : decode cX10_readFair 74 = .ok (.invokevirtual 102, 3) := by decide +kernel
theorem dX10_readFair_77 : decode cX10_readFair 77 = .ok (.putfield 125, 3) := by decide +kernel
theorem dX10_readFair_80 : decode cX10_readFair 80 = .ok (.aload_n 0, 1) := by decide +kernel
theorem dX10_readFair_81 : decode cX10_readFair 81 = .ok (.getfield 125, 3) := by decide +kernel
theorem dX10_readFair_84 : decode cX10_readFair 84 = .ok (.bipush (-9), 2) := by decide +kernel
theorem dX10_readFair_86 : decode cX10_readFair 86 = .ok (.if_icmp .ne 8, 3) := by decide +kernel
theorem dX10_readFair_89 : decode cX10_readFair 89 = .ok (.aload_n 0, 1) := by decide +kernel
theorem dX10_readFair_90 : decode cX10_readFair 90 = .ok (.getfield 90, 3) := by decide +kernel
theorem dX10_readFair_93 : decode cX10_readFair 93 = .ok (.ireturn, 1) := by decide +kernel
theorem dX10_readFair_94 : decode cX10_readFair 94 = .ok (.aload_n 0, 1) := by decide +kernel
theorem dX10_readFair_95 : decode cX10_readFair 95 = .ok (.getfield 90, 3) := by decide +kernel
theorem dX10_readFair_98 : decode cX10_readFair 98 = .ok (.aload_n 0, 1) := by decide +kernel
theorem dX10_readFair_99 : decode cX10_readFair 99 = .ok (.getfield 87, 3) := by decide +kernel
theorem dX10_readFair_102 : decode cX10_readFair 102 = .ok (.if_icmp .ge 15, 3) := by decide +kernel
theorem dX10_readFair_105 : decode cX10_readFair 105 = .ok (.aload_n 0, 1) := by decide +kernel
theorem dX10_readFair_106 : decode cX10_readFair 106 = .ok (.invokevirtual 128, 3) := by decide +kernel
theorem dX10_readFair_109 : decode cX10_readFair 109 = .ok (.ifCond .ne (-15), 3) := by decide +kernel
theorem dX10_readFair_112 : decode cX10_readFair 112 = .ok (.aload_n 0, 1) := by decide +kernel
theorem dX10_readFair_113 : decode cX10_readFair 113 = .ok (.getfield 90, 3) := by decide +kernel
theorem dX10_readFair_116 : decode cX10_readFair 116 = .ok (.ireturn, 1) := by decide +kernel
theorem dX10_readFair_117 : decode cX10_readFair 117 = .ok (.bipush (-9), 2) := by decide +kernel
theorem dX10_readFair_119 : decode cX10_readFair 119 = .ok (.ireturn, 1) := by decide +kernel
theorem dX10_fault_0 : decode cX10_fault 0 = .ok (.aload_n 0, 1) := by decide +kernel
theorem dX10_fault_1 : decode cX10_fault 1 = .ok (.iconst 0, 1) := by decide +kernel
theorem dX10_fault_2 : decode cX10_fault 2 = .ok (.putfield 71, 3) := by decide +kernel
theorem dX10_fault_5 : decode cX10_fault 5 = .ok (.aload_n 0, 1) := by decide +kernel
theorem dX10_fault_6 : decode cX10_fault 6 = .ok (.invokevirtual 131, 3) := by decide +kernel
theorem dX10_fault_9 : decode cX10_fault 9 = .ok (.ireturn, 1) := by decide +kernel
theorem dX10_copyRow_0 : decode cX10_copyRow 0 = .ok (.iconst 0, 1) := by decide +kernel
theorem dX10_copyRow_1 : decode cX10_copyRow 1 = .ok (.istore_n 3, 1) := by decide +kernel
theorem dX10_copyRow_2 : decode cX10_copyRow 2 = .ok (.iload_n 3, 1) := by decide +kernel
theorem dX10_copyRow_3 : decode cX10_copyRow 3 = .ok (.iload_n 2, 1) := by decide +kernel
theorem dX10_copyRow_4 : decode cX10_copyRow 4 = .ok (.if_icmp .ge 15, 3) := by decide +kernel
theorem dX10_copyRow_7 : decode cX10_copyRow 7 = .ok (.aload_n 1, 1) := by decide +kernel
theorem dX10_copyRow_8 : decode cX10_copyRow 8 = .ok (.iload_n 3, 1) := by decide +kernel
theorem dX10_copyRow_9 : decode cX10_copyRow 9 = .ok (.aload_n 0, 1) := by decide +kernel
theorem dX10_copyRow_10 : decode cX10_copyRow 10 = .ok (.iload_n 3, 1) := by decide +kernel
theorem dX10_copyRow_11 : decode cX10_copyRow 11 = .ok (.iaload, 1) := by decide +kernel
theorem dX10_copyRow_12 : decode cX10_copyRow 12 = .ok (.iastore, 1) := by decide +kernel
theorem dX10_copyRow_13 : decode cX10_copyRow 13 = .ok (.iinc 3 1, 3) := by decide +kernel
theorem dX10_copyRow_16 : decode cX10_copyRow 16 = .ok (.goto (-14), 3) := by decide +kernel
theorem dX10_copyRow_19 : decode cX10_copyRow 19 = .ok (.return_, 1) := by decide +kernel
theorem dX10_fair_0 : decode cX10_fair 0 = .ok (.aload_n 0, 1) := by decide +kernel
theorem dX10_fair_1 : decode cX10_fair 1 = .ok (.iconst 0, 1) := by decide +kernel
theorem dX10_fair_2 : decode cX10_fair 2 = .ok (.putfield 71, 3) := by decide +kernel
theorem dX10_fair_5 : decode cX10_fair 5 = .ok (.aload_n 0, 1) := by decide +kernel
theorem dX10_fair_6 : decode cX10_fair 6 = .ok (.invokevirtual 131, 3) := by decide +kernel
theorem dX10_fair_9 : decode cX10_fair 9 = .ok (.bipush (-9), 2) := by decide +kernel
theorem dX10_fair_11 : decode cX10_fair 11 = .ok (.if_icmp .eq 6, 3) := by decide +kernel
theorem dX10_fair_14 : decode cX10_fair 14 = .ok (.bipush (-3), 2) := by decide +kernel
theorem dX10_fair_16 : decode cX10_fair 16 = .ok (.ireturn, 1) := by decide +kernel
theorem dX10_fair_17 : decode cX10_fair 17 = .ok (.aload_n 0, 1) := by decide +kernel
theorem dX10_fair_18 : decode cX10_fair 18 = .ok (.aload_n 0, 1) := by decide +kernel
theorem dX10_fair_19 : decode cX10_fair 19 = .ok (.getfield 95, 3) := by decide +kernel
theorem dX10_fair_22 : decode cX10_fair 22 = .ok (.putfield 75, 3) := by decide +kernel
theorem dX10_fair_25 : decode cX10_fair 25 = .ok (.aload_n 0, 1) := by decide +kernel
theorem dX10_fair_26 : decode cX10_fair 26 = .ok (.aload_n 0, 1) := by decide +kernel
theorem dX10_fair_27 : decode cX10_fair 27 = .ok (.getfield 106, 3) := by decide +kernel
theorem dX10_fair_30 : decode cX10_fair 30 = .ok (.putfield 82, 3) := by decide +kernel
theorem dX10_fair_33 : decode cX10_fair 33 = .ok (.aload_n 0, 1) := by decide +kernel
theorem dX10_fair_34 : decode cX10_fair 34 = .ok (.aload_n 0, 1) := by decide +kernel
theorem dX10_fair_35 : decode cX10_fair 35 = .ok (.getfield 109, 3) := by decide +kernel
theorem dX10_fair_38 : decode cX10_fair 38 = .ok (.putfield 134, 3) := by decide +kernel
theorem dX10_fair_41 : decode cX10_fair 41 = .ok (.aload_n 0, 1) := by decide +kernel
theorem dX10_fair_42 : decode cX10_fair 42 = .ok (.getfield 22, 3) := by decide +kernel
theorem dX10_fair_45 : decode cX10_fair 45 = .ok (.aload_n 0, 1) := by decide +kernel
theorem dX10_fair_46 : decode cX10_fair 46 = .ok (.getfield 13, 3) := by decide +kernel
theorem dX10_fair_49 : decode cX10_fair 49 = .ok (.bipush 15, 2) := by decide +kernel
theorem dX10_fair_51 : decode cX10_fair 51 = .ok (.invokestatic 137, 3) := by decide +kernel
theorem dX10_fair_54 : decode cX10_fair 54 = .ok (.aload_n 0, 1) := by decide +kernel
theorem dX10_fair_55 : decode cX10_fair 55 = .ok (.getfield 25, 3) := by decide +kernel
theorem dX10_fair_58 : decode cX10_fair 58 = .ok (.aload_n 0, 1) := by decide +kernel
theorem dX10_fair_59 : decode cX10_fair 59 = .ok (.getfield 16, 3) := by decide +kernel
theorem dX10_fair_62 : decode cX10_fair 62 = .ok (.bipush 12, 2) := by decide +kernel
theorem dX10_fair_64 : decode cX10_fair 64 = .ok (.invokestatic 137, 3) := by decide +kernel
theorem dX10_fair_67 : decode cX10_fair 67 = .ok (.aload_n 0, 1) := by decide +kernel
theorem dX10_fair_68 : decode cX10_fair 68 = .ok (.getfield 28, 3) := by decide +kernel
theorem dX10_fair_71 : decode cX10_fair 71 = .ok (.aload_n 0, 1) := by decide +kernel
theorem dX10_fair_72 : decode cX10_fair 72 = .ok (.getfield 19, 3) := by decide +kernel
theorem dX10_fair_75 : decode cX10_fair 75 = .ok (.bipush 12, 2) := by decide +kernel
theorem dX10_fair_77 : decode cX10_fair 77 = .ok (.invokestatic 137, 3) := by decide +kernel
theorem dX10_fair_80 : decode cX10_fair 80 = .ok (.iconst 0, 1) := by decide +kernel
theorem dX10_fair_81 : decode cX10_fair 81 = .ok (.istore_n 1, 1) := by decide +kernel
theorem dX10_fair_82 : decode cX10_fair 82 = .ok (.iload_n 1, 1) := by decide +kernel
theorem dX10_fair_83 : decode cX10_fair 83 = .ok (.bipush 15, 2) := by decide +kernel
theorem dX10_fair_85 : decode cX10_fair 85 = .ok (.if_icmp .ge 16, 3) := by decide +kernel
theorem dX10_fair_88 : decode cX10_fair 88 = .ok (.aload_n 0, 1) := by decide +kernel
theorem dX10_fair_89 : decode cX10_fair 89 = .ok (.getfield 31, 3) := by decide +kernel
theorem dX10_fair_92 : decode cX10_fair 92 = .ok (.iload_n 1, 1) := by decide +kernel
theorem dX10_fair_93 : decode cX10_fair 93 = .ok (.iconst 0, 1) := by decide +kernel
theorem dX10_fair_94 : decode cX10_fair 94 = .ok (.iastore, 1) := by decide +kernel
theorem dX10_fair_95 : decode cX10_fair 95 = .ok (.iinc 1 1, 3) := by decide +kernel
theorem dX10_fair_98 : decode cX10_fair 98 = .ok (.goto (-16), 3) := by decide +kernel
theorem dX10_fair_101 : decode cX10_fair 101 = .ok (.iconst 0, 1) := by decide +kernel
theorem dX10_fair_102 : decode cX10_fair 102 = .ok (.istore_n 1, 1) := by decide +kernel
theorem dX10_fair_103 : decode cX10_fair 103 = .ok (.iload_n 1, 1) := by decide +kernel
theorem dX10_fair_104 : decode cX10_fair 104 = .ok (.aload_n 0, 1) := by decide +kernel
theorem dX10_fair_105 : decode cX10_fair 105 = .ok (.getfield 75, 3) := by decide +kernel
theorem dX10_fair_108 : decode cX10_fair 108 = .ok (.if_icmp .ge 40, 3) := by decide +kernel
theorem dX10_fair_111 : decode cX10_fair 111 = .ok (.aload_n 0, 1) := by decide +kernel
theorem dX10_fair_112 : decode cX10_fair 112 = .ok (.getfield 31, 3) := by decide +kernel
theorem dX10_fair_115 : decode cX10_fair 115 = .ok (.bipush 11, 2) := by decide +kernel
theorem dX10_fair_117 : decode cX10_fair 117 = .ok (.dup2, 1) := by decide +kernel
theorem dX10_fair_118 : decode cX10_fair 118 = .ok (.iaload, 1) := by decide +kernel
theorem dX10_fair_119 : decode cX10_fair 119 = .ok (.aload_n 0, 1) := by decide +kernel
theorem dX10_fair_120 : decode cX10_fair 120 = .ok (.getfield 13, 3) := by decide +kernel
theorem dX10_fair_123 : decode cX10_fair 123 = .ok (.iconst 3, 1) := by decide +kernel
theorem dX10_fair_124 : decode cX10_fair 124 = .ok (.iload_n 1, 1) := by decide +kernel
theorem dX10_fair_125 : decode cX10_fair 125 = .ok (.imul, 1) := by decide +kernel
theorem dX10_fair_126 : decode cX10_fair 126 = .ok (.iconst 2, 1) := by decide +kernel
theorem dX10_fair_127 : decode cX10_fair 127 = .ok (.iadd, 1) := by decide +kernel
theorem dX10_fair_128 : decode cX10_fair 128 = .ok (.iaload, 1) := by decide +kernel
theorem dX10_fair_129 : decode cX10_fair 129 = .ok (.iconst 1, 1) := by decide +kernel
theorem dX10_fair_130 : decode cX10_fair 130 = .ok (.if_icmp .ne 9, 3) := by decide +kernel
theorem dX10_fair_133 : decode cX10_fair 133 = .ok (.iconst 1, 1) := by decide +kernel
theorem dX10_fair_134 : decode cX10_fair 134 = .ok (.iload_n 1, 1) := by decide +kernel
theorem dX10_fair_135 : decode cX10_fair 135 = .ok (.ishl, 1) := by decide +kernel
theorem dX10_fair_136 : decode cX10_fair 136 = .ok (.goto 4, 3) := by decide +kernel
theorem dX10_fair_139 : decode cX10_fair 139 = .ok (.iconst 0, 1) := by decide +kernel
theorem dX10_fair_140 : decode cX10_fair 140 = .ok (.ior, 1) := by decide +kernel
theorem dX10_fair_141 : decode cX10_fair 141 = .ok (.iastore, 1) := by decide +kernel
theorem dX10_fair_142 : decode cX10_fair 142 = .ok (.iinc 1 1, 3) := by decide +kernel
theorem dX10_fair_145 : decode cX10_fair 145 = .ok (.goto (-42), 3) := by decide +kernel
theorem dX10_fair_148 : decode cX10_fair 148 = .ok (.aload_n 0, 1) := by decide +kernel
theorem dX10_fair_149 : decode cX10_fair 149 = .ok (.getfield 31, 3) := by decide +kernel
theorem dX10_fair_152 : decode cX10_fair 152 = .ok (.bipush 13, 2) := by decide +kernel
theorem dX10_fair_154 : decode cX10_fair 154 = .ok (.aload_n 0, 1) := by decide +kernel
theorem dX10_fair_155 : decode cX10_fair 155 = .ok (.getfield 122, 3) := by decide +kernel
theorem dX10_fair_158 : decode cX10_fair 158 = .ok (.iastore, 1) := by decide +kernel
theorem dX10_fair_159 : decode cX10_fair 159 = .ok (.aload_n 0, 1) := by decide +kernel
theorem dX10_fair_160 : decode cX10_fair 160 = .ok (.getfield 31, 3) := by decide +kernel
theorem dX10_fair_163 : decode cX10_fair 163 = .ok (.bipush 14, 2) := by decide +kernel
theorem dX10_fair_165 : decode cX10_fair 165 = .ok (.aload_n 0, 1) := by decide +kernel
theorem dX10_fair_166 : decode cX10_fair 166 = .ok (.getfield 125, 3) := by decide +kernel
theorem dX10_fair_169 : decode cX10_fair 169 = .ok (.iastore, 1) := by decide +kernel
theorem dX10_fair_170 : decode cX10_fair 170 = .ok (.aload_n 0, 1) := by decide +kernel
theorem dX10_fair_171 : decode cX10_fair 171 = .ok (.iconst 0, 1) := by decide +kernel
theorem dX10_fair_172 : decode cX10_fair 172 = .ok (.putfield 141, 3) := by decide +kernel
theorem dX10_fair_175 : decode cX10_fair 175 = .ok (.aload_n 0, 1) := by decide +kernel
theorem dX10_fair_176 : decode cX10_fair 176 = .ok (.getfield 46, 3) := by decide +kernel
theorem dX10_fair_179 : decode cX10_fair 179 = .ok (.iconst 0, 1) := by decide +kernel
theorem dX10_fair_180 : decode cX10_fair 180 = .ok (.iconst 0, 1) := by decide +kernel
theorem dX10_fair_181 : decode cX10_fair 181 = .ok (.bastore, 1) := by decide +kernel
theorem dX10_fair_182 : decode cX10_fair 182 = .ok (.aload_n 0, 1) := by decide +kernel
theorem dX10_fair_183 : decode cX10_fair 183 = .ok (.getfield 46, 3) := by decide +kernel
theorem dX10_fair_186 : decode cX10_fair 186 = .ok (.iconst 1, 1) := by decide +kernel
theorem dX10_fair_187 : decode cX10_fair 187 = .ok (.iconst 0, 1) := by decide +kernel
theorem dX10_fair_188 : decode cX10_fair 188 = .ok (.bastore, 1) := by decide +kernel
theorem dX10_fair_189 : decode cX10_fair 189 = .ok (.bipush 100, 2) := by decide +kernel
theorem dX10_fair_191 : decode cX10_fair 191 = .ok (.aload_n 0, 1) := by decide +kernel
theorem dX10_fair_192 : decode cX10_fair 192 = .ok (.getfield 75, 3) := by decide +kernel
theorem dX10_fair_195 : decode cX10_fair 195 = .ok (.imul, 1) := by decide +kernel
theorem dX10_fair_196 : decode cX10_fair 196 = .ok (.bipush 10, 2) := by decide +kernel
theorem dX10_fair_198 : decode cX10_fair 198 = .ok (.aload_n 0, 1) := by decide +kernel
theorem dX10_fair_199 : decode cX10_fair 199 = .ok (.getfield 82, 3) := by decide +kernel
theorem dX10_fair_202 : decode cX10_fair 202 = .ok (.imul, 1) := by decide +kernel
theorem dX10_fair_203 : decode cX10_fair 203 = .ok (.iadd, 1) := by decide +kernel
theorem dX10_fair_204 : decode cX10_fair 204 = .ok (.aload_n 0, 1) := by decide +kernel
theorem dX10_fair_205 : decode cX10_fair 205 = .ok (.getfield 134, 3) := by decide +kernel
theorem dX10_fair_208 : decode cX10_fair 208 = .ok (.iadd, 1) := by decide +kernel
theorem dX10_fair_209 : decode cX10_fair 209 = .ok (.ireturn, 1) := by decide +kernel
theorem dX10_firm_0 : decode cX10_firm 0 = .ok (.aload_n 0, 1) := by decide +kernel
theorem dX10_firm_1 : decode cX10_firm 1 = .ok (.getfield 13, 3) := by decide +kernel
theorem dX10_firm_4 : decode cX10_firm 4 = .ok (.iconst 3, 1) := by decide +kernel
theorem dX10_firm_5 : decode cX10_firm 5 = .ok (.iload_n 2, 1) := by decide +kernel
theorem dX10_firm_6 : decode cX10_firm 6 = .ok (.imul, 1) := by decide +kernel
theorem dX10_firm_7 : decode cX10_firm 7 = .ok (.iconst 1, 1) := by decide +kernel
theorem dX10_firm_8 : decode cX10_firm 8 = .ok (.iadd, 1) := by decide +kernel
theorem dX10_firm_9 : decode cX10_firm 9 = .ok (.iaload, 1) := by decide +kernel
theorem dX10_firm_10 : decode cX10_firm 10 = .ok (.aload_n 1, 1) := by decide +kernel
theorem dX10_firm_11 : decode cX10_firm 11 = .ok (.bipush 11, 2) := by decide +kernel
theorem dX10_firm_13 : decode cX10_firm 13 = .ok (.iaload, 1) := by decide +kernel
theorem dX10_firm_14 : decode cX10_firm 14 = .ok (.iload_n 2, 1) := by decide +kernel
theorem dX10_firm_15 : decode cX10_firm 15 = .ok (.invokestatic 144, 3) := by decide +kernel
theorem dX10_firm_18 : decode cX10_firm 18 = .ok (.ifCond .eq 7, 3) := by decide +kernel
theorem dX10_firm_21 : decode cX10_firm 21 = .ok (.iconst 4, 1) := by decide +kernel
theorem dX10_firm_22 : decode cX10_firm 22 = .ok (.goto 4, 3) := by decide +kernel
theorem dX10_firm_25 : decode cX10_firm 25 = .ok (.iconst 0, 1) := by decide +kernel
theorem dX10_firm_26 : decode cX10_firm 26 = .ok (.iadd, 1) := by decide +kernel
theorem dX10_firm_27 : decode cX10_firm 27 = .ok (.istore_n 3, 1) := by decide +kernel
theorem dX10_firm_28 : decode cX10_firm 28 = .ok (.aload_n 1, 1) := by decide +kernel
theorem dX10_firm_29 : decode cX10_firm 29 = .ok (.bipush 10, 2) := by decide +kernel
theorem dX10_firm_31 : decode cX10_firm 31 = .ok (.iaload, 1) := by decide +kernel
theorem dX10_firm_32 : decode cX10_firm 32 = .ok (.iload_n 2, 1) := by decide +kernel
theorem dX10_firm_33 : decode cX10_firm 33 = .ok (.invokestatic 144, 3) := by decide +kernel
theorem dX10_firm_36 : decode cX10_firm 36 = .ok (.ifCond .eq 16, 3) := by decide +kernel
theorem dX10_firm_39 : decode cX10_firm 39 = .ok (.iload_n 3, 1) := by decide +kernel
theorem dX10_firm_40 : decode cX10_firm 40 = .ok (.iconst 2, 1) := by decide +kernel
theorem dX10_firm_41 : decode cX10_firm 41 = .ok (.if_icmp .ge 7, 3) := by decide +kernel
theorem dX10_firm_44 : decode cX10_firm 44 = .ok (.iconst 1, 1) := by decide +kernel
theorem dX10_firm_45 : decode cX10_firm 45 = .ok (.goto 6, 3) := by decide +kernel
theorem dX10_firm_48 : decode cX10_firm 48 = .ok (.iload_n 3, 1) := by decide +kernel
theorem dX10_firm_49 : decode cX10_firm 49 = .ok (.iconst 2, 1) := by decide +kernel
theorem dX10_firm_50 : decode cX10_firm 50 = .ok (.idiv, 1) := by decide +kernel
theorem dX10_firm_51 : decode cX10_firm 51 = .ok (.istore_n 3, 1) := by decide +kernel
theorem dX10_firm_52 : decode cX10_firm 52 = .ok (.aload_n 0, 1) := by decide +kernel
theorem dX10_firm_53 : decode cX10_firm 53 = .ok (.getfield 13, 3) := by decide +kernel
theorem dX10_firm_56 : decode cX10_firm 56 = .ok (.iconst 3, 1) := by decide +kernel
theorem dX10_firm_57 : decode cX10_firm 57 = .ok (.iload_n 2, 1) := by decide +kernel
theorem dX10_firm_58 : decode cX10_firm 58 = .ok (.imul, 1) := by decide +kernel
theorem dX10_firm_59 : decode cX10_firm 59 = .ok (.iconst 2, 1) := by decide +kernel
theorem dX10_firm_60 : decode cX10_firm 60 = .ok (.iadd, 1) := by decide +kernel
theorem dX10_firm_61 : decode cX10_firm 61 = .ok (.iaload, 1) := by decide +kernel
theorem dX10_firm_62 : decode cX10_firm 62 = .ok (.iconst 2, 1) := by decide +kernel
theorem dX10_firm_63 : decode cX10_firm 63 = .ok (.if_icmp .ne 26, 3) := by decide +kernel
theorem dX10_firm_66 : decode cX10_firm 66 = .ok (.iload_n 3, 1) := by decide +kernel
theorem dX10_firm_67 : decode cX10_firm 67 = .ok (.aload_n 1, 1) := by decide +kernel
theorem dX10_firm_68 : decode cX10_firm 68 = .ok (.iconst 5, 1) := by decide +kernel
theorem dX10_firm_69 : decode cX10_firm 69 = .ok (.iload_n 2, 1) := by decide +kernel
theorem dX10_firm_70 : decode cX10_firm 70 = .ok (.iadd, 1) := by decide +kernel
theorem dX10_firm_71 : decode cX10_firm 71 = .ok (.iaload, 1) := by decide +kernel
theorem dX10_firm_72 : decode cX10_firm 72 = .ok (.isub, 1) := by decide +kernel
theorem dX10_firm_73 : decode cX10_firm 73 = .ok (.iconst 1, 1) := by decide +kernel
theorem dX10_firm_74 : decode cX10_firm 74 = .ok (.if_icmp .ge 7, 3) := by decide +kernel
theorem dX10_firm_77 : decode cX10_firm 77 = .ok (.iconst 1, 1) := by decide +kernel
theorem dX10_firm_78 : decode cX10_firm 78 = .ok (.goto 10, 3) := by decide +kernel
theorem dX10_firm_81 : decode cX10_firm 81 = .ok (.iload_n 3, 1) := by decide +kernel
theorem dX10_firm_82 : decode cX10_firm 82 = .ok (.aload_n 1, 1) := by decide +kernel
theorem dX10_firm_83 : decode cX10_firm 83 = .ok (.iconst 5, 1) := by decide +kernel
theorem dX10_firm_84 : decode cX10_firm 84 = .ok (.iload_n 2, 1) := by decide +kernel
theorem dX10_firm_85 : decode cX10_firm 85 = .ok (.iadd, 1) := by decide +kernel
theorem dX10_firm_86 : decode cX10_firm 86 = .ok (.iaload, 1) := by decide +kernel
theorem dX10_firm_87 : decode cX10_firm 87 = .ok (.isub, 1) := by decide +kernel
theorem dX10_firm_88 : decode cX10_firm 88 = .ok (.istore_n 3, 1) := by decide +kernel
theorem dX10_firm_89 : decode cX10_firm 89 = .ok (.iload_n 3, 1) := by decide +kernel
theorem dX10_firm_90 : decode cX10_firm 90 = .ok (.ireturn, 1) := by decide +kernel
theorem dX10_blows_0 : decode cX10_blows 0 = .ok (.aload_n 0, 1) := by decide +kernel
theorem dX10_blows_1 : decode cX10_blows 1 = .ok (.getfield 16, 3) := by decide +kernel
theorem dX10_blows_4 : decode cX10_blows 4 = .ok (.iconst 3, 1) := by decide +kernel
theorem dX10_blows_5 : decode cX10_blows 5 = .ok (.iload_n 2, 1) := by decide +kernel
theorem dX10_blows_6 : decode cX10_blows 6 = .ok (.imul, 1) := by decide +kernel
theorem dX10_blows_7 : decode cX10_blows 7 = .ok (.iconst 2, 1) := by decide +kernel
theorem dX10_blows_8 : decode cX10_blows 8 = .ok (.iadd, 1) := by decide +kernel
theorem dX10_blows_9 : decode cX10_blows 9 = .ok (.iaload, 1) := by decide +kernel
theorem dX10_blows_10 : decode cX10_blows 10 = .ok (.iconst 1, 1) := by decide +kernel
theorem dX10_blows_11 : decode cX10_blows 11 = .ok (.if_icmp .ne 7, 3) := by decide +kernel
theorem dX10_blows_14 : decode cX10_blows 14 = .ok (.iconst 0, 1) := by decide +kernel
theorem dX10_blows_15 : decode cX10_blows 15 = .ok (.goto 9, 3) := by decide +kernel
theorem dX10_blows_18 : decode cX10_blows 18 = .ok (.aload_n 1, 1) := by decide +kernel
theorem dX10_blows_19 : decode cX10_blows 19 = .ok (.bipush 13, 2) := by decide +kernel
theorem dX10_blows_21 : decode cX10_blows 21 = .ok (.iaload, 1) := by decide +kernel
theorem dX10_blows_22 : decode cX10_blows 22 = .ok (.iconst 1, 1) := by decide +kernel
theorem dX10_blows_23 : decode cX10_blows 23 = .ok (.isub, 1) := by decide +kernel
theorem dX10_blows_24 : decode cX10_blows 24 = .ok (.ireturn, 1) := by decide +kernel
theorem dX10_force_0 : decode cX10_force 0 = .ok (.aload_n 0, 1) := by decide +kernel
theorem dX10_force_1 : decode cX10_force 1 = .ok (.getfield 16, 3) := by decide +kernel
theorem dX10_force_4 : decode cX10_force 4 = .ok (.iconst 3, 1) := by decide +kernel
theorem dX10_force_5 : decode cX10_force 5 = .ok (.iload_n 1, 1) := by decide +kernel
theorem dX10_force_6 : decode cX10_force 6 = .ok (.imul, 1) := by decide +kernel
theorem dX10_force_7 : decode cX10_force 7 = .ok (.iconst 1, 1) := by decide +kernel
theorem dX10_force_8 : decode cX10_force 8 = .ok (.iadd, 1) := by decide +kernel
theorem dX10_force_9 : decode cX10_force 9 = .ok (.iaload, 1) := by decide +kernel
theorem dX10_force_10 : decode cX10_force 10 = .ok (.aload_n 0, 1) := by decide +kernel
theorem dX10_force_11 : decode cX10_force 11 = .ok (.getfield 16, 3) := by decide +kernel
theorem dX10_force_14 : decode cX10_force 14 = .ok (.iconst 3, 1) := by decide +kernel
theorem dX10_force_15 : decode cX10_force 15 = .ok (.iload_n 1, 1) := by decide +kernel
theorem dX10_force_16 : decode cX10_force 16 = .ok (.imul, 1) := by decide +kernel
theorem dX10_force_17 : decode cX10_force 17 = .ok (.iconst 2, 1) := by decide +kernel
theorem dX10_force_18 : decode cX10_force 18 = .ok (.iadd, 1) := by decide +kernel
theorem dX10_force_19 : decode cX10_force 19 = .ok (.iaload, 1) := by decide +kernel
theorem dX10_force_20 : decode cX10_force 20 = .ok (.iconst 3, 1) := by decide +kernel
theorem dX10_force_21 : decode cX10_force 21 = .ok (.if_icmp .ne 7, 3) := by decide +kernel
theorem dX10_force_24 : decode cX10_force 24 = .ok (.iconst 2, 1) := by decide +kernel
theorem dX10_force_25 : decode cX10_force 25 = .ok (.goto 4, 3) := by decide +kernel
theorem dX10_force_28 : decode cX10_force 28 = .ok (.iconst 0, 1) := by decide +kernel
theorem dX10_force_29 : decode cX10_force 29 = .ok (.iadd, 1) := by decide +kernel
theorem dX10_force_30 : decode cX10_force 30 = .ok (.ireturn, 1) := by decide +kernel
theorem dX10_landing_0 : decode cX10_landing 0 = .ok (.aload_n 0, 1) := by decide +kernel
theorem dX10_landing_1 : decode cX10_landing 1 = .ok (.getfield 16, 3) := by decide +kernel
theorem dX10_landing_4 : decode cX10_landing 4 = .ok (.iconst 3, 1) := by decide +kernel
theorem dX10_landing_5 : decode cX10_landing 5 = .ok (.iload_n 2, 1) := by decide +kernel
theorem dX10_landing_6 : decode cX10_landing 6 = .ok (.imul, 1) := by decide +kernel
theorem dX10_landing_7 : decode cX10_landing 7 = .ok (.iaload, 1) := by decide +kernel
theorem dX10_landing_8 : decode cX10_landing 8 = .ok (.aload_n 0, 1) := by decide +kernel
theorem dX10_landing_9 : decode cX10_landing 9 = .ok (.getfield 16, 3) := by decide +kernel
theorem dX10_landing_12 : decode cX10_landing 12 = .ok (.iconst 3, 1) := by decide +kernel
theorem dX10_landing_13 : decode cX10_landing 13 = .ok (.iload_n 2, 1) := by decide +kernel
theorem dX10_landing_14 : decode cX10_landing 14 = .ok (.imul, 1) := by decide +kernel
theorem dX10_landing_15 : decode cX10_landing 15 = .ok (.iconst 2, 1) := by decide +kernel
theorem dX10_landing_16 : decode cX10_landing 16 = .ok (.iadd, 1) := by decide +kernel
theorem dX10_landing_17 : decode cX10_landing 17 = .ok (.iaload, 1) := by decide +kernel
theorem dX10_landing_18 : decode cX10_landing 18 = .ok (.iconst 3, 1) := by decide +kernel
theorem dX10_landing_19 : decode cX10_landing 19 = .ok (.if_icmp .ne 7, 3) := by decide +kernel
theorem dX10_landing_22 : decode cX10_landing 22 = .ok (.iconst 1, 1) := by decide +kernel
theorem dX10_landing_23 : decode cX10_landing 23 = .ok (.goto 4, 3) := by decide +kernel
theorem dX10_landing_26 : decode cX10_landing 26 = .ok (.iconst 0, 1) := by decide +kernel
theorem dX10_landing_27 : decode cX10_landing 27 = .ok (.iadd, 1) := by decide +kernel
theorem dX10_landing_28 : decode cX10_landing 28 = .ok (.istore 5, 2) := by decide +kernel
theorem dX10_landing_30 : decode cX10_landing 30 = .ok (.iload 4, 2) := by decide +kernel
theorem dX10_landing_32 : decode cX10_landing 32 = .ok (.ifCond .ne 7, 3) := by decide +kernel
theorem dX10_landing_35 : decode cX10_landing 35 = .ok (.iconst 0, 1) := by decide +kernel
theorem dX10_landing_36 : decode cX10_landing 36 = .ok (.goto 17, 3) := by decide +kernel
theorem dX10_landing_39 : decode cX10_landing 39 = .ok (.iload 4, 2) := by decide +kernel
theorem dX10_landing_41 : decode cX10_landing 41 = .ok (.iconst 1, 1) := by decide +kernel
theorem dX10_landing_42 : decode cX10_landing 42 = .ok (.if_icmp .ne 8, 3) := by decide +kernel
theorem dX10_landing_45 : decode cX10_landing 45 = .ok (.iload 5, 2) := by decide +kernel
theorem dX10_landing_47 : decode cX10_landing 47 = .ok (.goto 6, 3) := by decide +kernel
theorem dX10_landing_50 : decode cX10_landing 50 = .ok (.iload 5, 2) := by decide +kernel
theorem dX10_landing_52 : decode cX10_landing 52 = .ok (.ineg, 1) := by decide +kernel
theorem dX10_landing_53 : decode cX10_landing 53 = .ok (.istore 6, 2) := by decide +kernel
theorem dX10_landing_55 : decode cX10_landing 55 = .ok (.iload_n 3, 1) := by decide +kernel
theorem dX10_landing_56 : decode cX10_landing 56 = .ok (.aload_n 0, 1) := by decide +kernel
theorem dX10_landing_57 : decode cX10_landing 57 = .ok (.getfield 16, 3) := by decide +kernel
theorem dX10_landing_60 : decode cX10_landing 60 = .ok (.iconst 3, 1) := by decide +kernel
theorem dX10_landing_61 : decode cX10_landing 61 = .ok (.iload_n 2, 1) := by decide +kernel
theorem dX10_landing_62 : decode cX10_landing 62 = .ok (.imul, 1) := by decide +kernel
theorem dX10_landing_63 : decode cX10_landing 63 = .ok (.iconst 2, 1) := by decide +kernel
theorem dX10_landing_64 : decode cX10_landing 64 = .ok (.iadd, 1) := by decide +kernel
theorem dX10_landing_65 : decode cX10_landing 65 = .ok (.iaload, 1) := by decide +kernel
theorem dX10_landing_66 : decode cX10_landing 66 = .ok (.iconst 2, 1) := by decide +kernel
theorem dX10_landing_67 : decode cX10_landing 67 = .ok (.if_icmp .ne 9, 3) := by decide +kernel
theorem dX10_landing_70 : decode cX10_landing 70 = .ok (.iload 6, 2) := by decide +kernel
theorem dX10_landing_72 : decode cX10_landing 72 = .ok (.ineg, 1) := by decide +kernel
theorem dX10_landing_73 : decode cX10_landing 73 = .ok (.goto 5, 3) := by decide +kernel
theorem dX10_landing_76 : decode cX10_landing 76 = .ok (.iload 6, 2) := by decide +kernel
theorem dX10_landing_78 : decode cX10_landing 78 = .ok (.iadd, 1) := by decide +kernel
theorem dX10_landing_79 : decode cX10_landing 79 = .ok (.aload_n 0, 1) := by decide +kernel
theorem dX10_landing_80 : decode cX10_landing 80 = .ok (.aload_n 1, 1) := by decide +kernel
theorem dX10_landing_81 : decode cX10_landing 81 = .ok (.iload_n 2, 1) := by decide +kernel
theorem dX10_landing_82 : decode cX10_landing 82 = .ok (.invokevirtual 148, 3) := by decide +kernel
theorem dX10_landing_85 : decode cX10_landing 85 = .ok (.iadd, 1) := by decide +kernel
theorem dX10_landing_86 : decode cX10_landing 86 = .ok (.istore 7, 2) := by decide +kernel
theorem dX10_landing_88 : decode cX10_landing 88 = .ok (.iload 7, 2) := by decide +kernel
theorem dX10_landing_90 : decode cX10_landing 90 = .ok (.i2l, 1) := by decide +kernel
theorem dX10_landing_91 : decode cX10_landing 91 = .ok (.lconst 0, 1) := by decide +kernel
theorem dX10_landing_92 : decode cX10_landing 92 = .ok (.ldc2_w 93, 3) := by decide +kernel
theorem dX10_landing_95 : decode cX10_landing 95 = .ok (.invokestatic 78, 3) := by decide +kernel
theorem dX10_landing_98 : decode cX10_landing 98 = .ok (.ifCond .eq 8, 3) := by decide +kernel
theorem dX10_landing_101 : decode cX10_landing 101 = .ok (.iload 7, 2) := by decide +kernel
theorem dX10_landing_103 : decode cX10_landing 103 = .ok (.goto 5, 3) := by decide +kernel
theorem dX10_landing_106 : decode cX10_landing 106 = .ok (.bipush 8, 2) := by decide +kernel
theorem dX10_landing_108 : decode cX10_landing 108 = .ok (.ireturn, 1) := by decide +kernel
theorem dX10_huskAt_0 : decode cX10_huskAt 0 = .ok (.bipush (-9), 2) := by decide +kernel
theorem dX10_huskAt_2 : decode cX10_huskAt 2 = .ok (.istore_n 2, 1) := by decide +kernel
theorem dX10_huskAt_3 : decode cX10_huskAt 3 = .ok (.iconst 0, 1) := by decide +kernel
theorem dX10_huskAt_4 : decode cX10_huskAt 4 = .ok (.istore_n 3, 1) := by decide +kernel
theorem dX10_huskAt_5 : decode cX10_huskAt 5 = .ok (.iload_n 3, 1) := by decide +kernel
theorem dX10_huskAt_6 : decode cX10_huskAt 6 = .ok (.aload_n 0, 1) := by decide +kernel
theorem dX10_huskAt_7 : decode cX10_huskAt 7 = .ok (.getfield 75, 3) := by decide +kernel
theorem dX10_huskAt_10 : decode cX10_huskAt 10 = .ok (.if_icmp .ge 27, 3) := by decide +kernel
theorem dX10_huskAt_13 : decode cX10_huskAt 13 = .ok (.aload_n 0, 1) := by decide +kernel
theorem dX10_huskAt_14 : decode cX10_huskAt 14 = .ok (.getfield 13, 3) := by decide +kernel
theorem dX10_huskAt_17 : decode cX10_huskAt 17 = .ok (.iconst 3, 1) := by decide +kernel
theorem dX10_huskAt_18 : decode cX10_huskAt 18 = .ok (.iload_n 3, 1) := by decide +kernel
theorem dX10_huskAt_19 : decode cX10_huskAt 19 = .ok (.imul, 1) := by decide +kernel
theorem dX10_huskAt_20 : decode cX10_huskAt 20 = .ok (.iaload, 1) := by decide +kernel
theorem dX10_huskAt_21 : decode cX10_huskAt 21 = .ok (.iload_n 1, 1) := by decide +kernel
theorem dX10_huskAt_22 : decode cX10_huskAt 22 = .ok (.if_icmp .ne 7, 3) := by decide +kernel
theorem dX10_huskAt_25 : decode cX10_huskAt 25 = .ok (.iload_n 3, 1) := by decide +kernel
theorem dX10_huskAt_26 : decode cX10_huskAt 26 = .ok (.goto 4, 3) := by decide +kernel
theorem dX10_huskAt_29 : decode cX10_huskAt 29 = .ok (.iload_n 2, 1) := by decide +kernel
theorem dX10_huskAt_30 : decode cX10_huskAt 30 = .ok (.istore_n 2, 1) := by decide +kernel
theorem dX10_huskAt_31 : decode cX10_huskAt 31 = .ok (.iinc 3 1, 3) := by decide +kernel
theorem dX10_huskAt_34 : decode cX10_huskAt 34 = .ok (.goto (-29), 3) := by decide +kernel
theorem dX10_huskAt_37 : decode cX10_huskAt 37 = .ok (.iload_n 2, 1) := by decide +kernel
theorem dX10_huskAt_38 : decode cX10_huskAt 38 = .ok (.ireturn, 1) := by decide +kernel
theorem dX10_stand_0 : decode cX10_stand 0 = .ok (.aload_n 0, 1) := by decide +kernel
theorem dX10_stand_1 : decode cX10_stand 1 = .ok (.bipush 12, 2) := by decide +kernel
theorem dX10_stand_3 : decode cX10_stand 3 = .ok (.dup2, 1) := by decide +kernel
theorem dX10_stand_4 : decode cX10_stand 4 = .ok (.iaload, 1) := by decide +kernel
theorem dX10_stand_5 : decode cX10_stand 5 = .ok (.iconst 1, 1) := by decide +kernel
theorem dX10_stand_6 : decode cX10_stand 6 = .ok (.iload_n 1, 1) := by decide +kernel
theorem dX10_stand_7 : decode cX10_stand 7 = .ok (.ishl, 1) := by decide +kernel
theorem dX10_stand_8 : decode cX10_stand 8 = .ok (.iconst (-1), 1) := by decide +kernel
theorem dX10_stand_9 : decode cX10_stand 9 = .ok (.ixor, 1) := by decide +kernel
theorem dX10_stand_10 : decode cX10_stand 10 = .ok (.iand, 1) := by decide +kernel
theorem dX10_stand_11 : decode cX10_stand 11 = .ok (.iastore, 1) := by decide +kernel
theorem dX10_stand_12 : decode cX10_stand 12 = .ok (.aload_n 0, 1) := by decide +kernel
theorem dX10_stand_13 : decode cX10_stand 13 = .ok (.iconst 0, 1) := by decide +kernel
theorem dX10_stand_14 : decode cX10_stand 14 = .ok (.iload_n 1, 1) := by decide +kernel
theorem dX10_stand_15 : decode cX10_stand 15 = .ok (.iadd, 1) := by decide +kernel
theorem dX10_stand_16 : decode cX10_stand 16 = .ok (.iconst 0, 1) := by decide +kernel
theorem dX10_stand_17 : decode cX10_stand 17 = .ok (.iastore, 1) := by decide +kernel
theorem dX10_stand_18 : decode cX10_stand 18 = .ok (.return_, 1) := by decide +kernel
theorem dX10_fall_0 : decode cX10_fall 0 = .ok (.aload_n 1, 1) := by decide +kernel
theorem dX10_fall_1 : decode cX10_fall 1 = .ok (.bipush 12, 2) := by decide +kernel
theorem dX10_fall_3 : decode cX10_fall 3 = .ok (.dup2, 1) := by decide +kernel
theorem dX10_fall_4 : decode cX10_fall 4 = .ok (.iaload, 1) := by decide +kernel
theorem dX10_fall_5 : decode cX10_fall 5 = .ok (.iconst 1, 1) := by decide +kernel
theorem dX10_fall_6 : decode cX10_fall 6 = .ok (.iload_n 2, 1) := by decide +kernel
theorem dX10_fall_7 : decode cX10_fall 7 = .ok (.ishl, 1) := by decide +kernel
theorem dX10_fall_8 : decode cX10_fall 8 = .ok (.ior, 1) := by decide +kernel
theorem dX10_fall_9 : decode cX10_fall 9 = .ok (.iastore, 1) := by decide +kernel
theorem dX10_fall_10 : decode cX10_fall 10 = .ok (.aload_n 0, 1) := by decide +kernel
theorem dX10_fall_11 : decode cX10_fall 11 = .ok (.dup, 1) := by decide +kernel
theorem dX10_fall_12 : decode cX10_fall 12 = .ok (.getfield 152, 3) := by decide +kernel
theorem dX10_fall_15 : decode cX10_fall 15 = .ok (.iconst 1, 1) := by decide +kernel
theorem dX10_fall_16 : decode cX10_fall 16 = .ok (.iload_n 2, 1) := by decide +kernel
theorem dX10_fall_17 : decode cX10_fall 17 = .ok (.ishl, 1) := by decide +kernel
theorem dX10_fall_18 : decode cX10_fall 18 = .ok (.ior, 1) := by decide +kernel
theorem dX10_fall_19 : decode cX10_fall 19 = .ok (.putfield 152, 3) := by decide +kernel
theorem dX10_fall_22 : decode cX10_fall 22 = .ok (.aload_n 0, 1) := by decide +kernel
theorem dX10_fall_23 : decode cX10_fall 23 = .ok (.getfield 59, 3) := by decide +kernel
theorem dX10_fall_26 : decode cX10_fall 26 = .ok (.iconst 0, 1) := by decide +kernel
theorem dX10_fall_27 : decode cX10_fall 27 = .ok (.iload_n 2, 1) := by decide +kernel
theorem dX10_fall_28 : decode cX10_fall 28 = .ok (.iastore, 1) := by decide +kernel
theorem dX10_fall_29 : decode cX10_fall 29 = .ok (.aload_n 0, 1) := by decide +kernel
theorem dX10_fall_30 : decode cX10_fall 30 = .ok (.getfield 62, 3) := by decide +kernel
theorem dX10_fall_33 : decode cX10_fall 33 = .ok (.iconst 0, 1) := by decide +kernel
theorem dX10_fall_34 : decode cX10_fall 34 = .ok (.iconst 0, 1) := by decide +kernel
theorem dX10_fall_35 : decode cX10_fall 35 = .ok (.iastore, 1) := by decide +kernel
theorem dX10_fall_36 : decode cX10_fall 36 = .ok (.iconst 0, 1) := by decide +kernel
theorem dX10_fall_37 : decode cX10_fall 37 = .ok (.istore_n 3, 1) := by decide +kernel
theorem dX10_fall_38 : decode cX10_fall 38 = .ok (.iload_n 3, 1) := by decide +kernel
theorem dX10_fall_39 : decode cX10_fall 39 = .ok (.ifCond .lt 200, 3) := by decide +kernel
theorem dX10_fall_42 : decode cX10_fall 42 = .ok (.aload_n 0, 1) := by decide +kernel
theorem dX10_fall_43 : decode cX10_fall 43 = .ok (.getfield 62, 3) := by decide +kernel
theorem dX10_fall_46 : decode cX10_fall 46 = .ok (.iload_n 3, 1) := by decide +kernel
theorem dX10_fall_47 : decode cX10_fall 47 = .ok (.iaload, 1) := by decide +kernel
theorem dX10_fall_48 : decode cX10_fall 48 = .ok (.istore 4, 2) := by decide +kernel
theorem dX10_fall_50 : decode cX10_fall 50 = .ok (.iload 4, 2) := by decide +kernel
theorem dX10_fall_52 : decode cX10_fall 52 = .ok (.aload_n 0, 1) := by decide +kernel
theorem dX10_fall_53 : decode cX10_fall 53 = .ok (.getfield 134, 3) := by decide +kernel
theorem dX10_fall_56 : decode cX10_fall 56 = .ok (.if_icmp .ne 9, 3) := by decide +kernel
theorem dX10_fall_59 : decode cX10_fall 59 = .ok (.iinc 3 (-1), 3) := by decide +kernel
theorem dX10_fall_62 : decode cX10_fall 62 = .ok (.goto 174, 3) := by decide +kernel
theorem dX10_fall_65 : decode cX10_fall 65 = .ok (.aload_n 0, 1) := by decide +kernel
theorem dX10_fall_66 : decode cX10_fall 66 = .ok (.getfield 62, 3) := by decide +kernel
theorem dX10_fall_69 : decode cX10_fall 69 = .ok (.iload_n 3, 1) := by decide +kernel
theorem dX10_fall_70 : decode cX10_fall 70 = .ok (.dup2, 1) := by decide +kernel
theorem dX10_fall_71 : decode cX10_fall 71 = .ok (.iaload, 1) := by decide +kernel
theorem dX10_fall_72 : decode cX10_fall 72 = .ok (.iconst 1, 1) := by decide +kernel
theorem dX10_fall_73 : decode cX10_fall 73 = .ok (.iadd, 1) := by decide +kernel
theorem dX10_fall_74 : decode cX10_fall 74 = .ok (.iastore, 1) := by decide +kernel
theorem dX10_fall_75 : decode cX10_fall 75 = .ok (.aload_n 0, 1) := by decide +kernel
theorem dX10_fall_76 : decode cX10_fall 76 = .ok (.getfield 19, 3) := by decide +kernel
theorem dX10_fall_79 : decode cX10_fall 79 = .ok (.iconst 3, 1) := by decide +kernel
theorem dX10_fall_80 : decode cX10_fall 80 = .ok (.iload 4, 2) := by decide +kernel
theorem dX10_fall_82 : decode cX10_fall 82 = .ok (.imul, 1) := by decide +kernel
theorem dX10_fall_83 : decode cX10_fall 83 = .ok (.iconst 1, 1) := by decide +kernel
theorem dX10_fall_84 : decode cX10_fall 84 = .ok (.iadd, 1) := by decide +kernel
theorem dX10_fall_85 : decode cX10_fall 85 = .ok (.iaload, 1) := by decide +kernel
theorem dX10_fall_86 : decode cX10_fall 86 = .ok (.istore 5, 2) := by decide +kernel
theorem dX10_fall_88 : decode cX10_fall 88 = .ok (.aload_n 0, 1) := by decide +kernel
theorem dX10_fall_89 : decode cX10_fall 89 = .ok (.getfield 19, 3) := by decide +kernel
theorem dX10_fall_92 : decode cX10_fall 92 = .ok (.iconst 3, 1) := by decide +kernel
theorem dX10_fall_93 : decode cX10_fall 93 = .ok (.iload 4, 2) := by decide +kernel
theorem dX10_fall_95 : decode cX10_fall 95 = .ok (.imul, 1) := by decide +kernel
theorem dX10_fall_96 : decode cX10_fall 96 = .ok (.iaload, 1) := by decide +kernel
theorem dX10_fall_97 : decode cX10_fall 97 = .ok (.aload_n 0, 1) := by decide +kernel
theorem dX10_fall_98 : decode cX10_fall 98 = .ok (.getfield 59, 3) := by decide +kernel
theorem dX10_fall_101 : decode cX10_fall 101 = .ok (.iload_n 3, 1) := by decide +kernel
theorem dX10_fall_102 : decode cX10_fall 102 = .ok (.iaload, 1) := by decide +kernel
theorem dX10_fall_103 : decode cX10_fall 103 = .ok (.if_icmp .ne 7, 3) := by decide +kernel
theorem dX10_fall_106 : decode cX10_fall 106 = .ok (.iconst 1, 1) := by decide +kernel
theorem dX10_fall_107 : decode cX10_fall 107 = .ok (.goto 4, 3) := by decide +kernel
theorem dX10_fall_110 : decode cX10_fall 110 = .ok (.iconst 0, 1) := by decide +kernel
theorem dX10_fall_111 : decode cX10_fall 111 = .ok (.istore 6, 2) := by decide +kernel
theorem dX10_fall_113 : decode cX10_fall 113 = .ok (.iload 6, 2) := by decide +kernel
theorem dX10_fall_115 : decode cX10_fall 115 = .ok (.ifCond .eq 36, 3) := by decide +kernel
theorem dX10_fall_118 : decode cX10_fall 118 = .ok (.aload_n 0, 1) := by decide +kernel
theorem dX10_fall_119 : decode cX10_fall 119 = .ok (.getfield 19, 3) := by decide +kernel
theorem dX10_fall_122 : decode cX10_fall 122 = .ok (.iconst 3, 1) := by decide +kernel
theorem dX10_fall_123 : decode cX10_fall 123 = .ok (.iload 4, 2) := by decide +kernel
theorem dX10_fall_125 : decode cX10_fall 125 = .ok (.imul, 1) := by decide +kernel
theorem dX10_fall_126 : decode cX10_fall 126 = .ok (.iconst 2, 1) := by decide +kernel
theorem dX10_fall_127 : decode cX10_fall 127 = .ok (.iadd, 1) := by decide +kernel
theorem dX10_fall_128 : decode cX10_fall 128 = .ok (.iaload, 1) := by decide +kernel
theorem dX10_fall_129 : decode cX10_fall 129 = .ok (.iconst 1, 1) := by decide +kernel
theorem dX10_fall_130 : decode cX10_fall 130 = .ok (.if_icmp .ne 21, 3) := by decide +kernel
theorem dX10_fall_133 : decode cX10_fall 133 = .ok (.aload_n 1, 1) := by decide +kernel
theorem dX10_fall_134 : decode cX10_fall 134 = .ok (.bipush 12, 2) := by decide +kernel
theorem dX10_fall_136 : decode cX10_fall 136 = .ok (.iaload, 1) := by decide +kernel
theorem dX10_fall_137 : decode cX10_fall 137 = .ok (.iload 5, 2) := by decide +kernel
theorem dX10_fall_139 : decode cX10_fall 139 = .ok (.invokestatic 144, 3) := by decide +kernel
theorem dX10_fall_142 : decode cX10_fall 142 = .ok (.ifCond .eq 9, 3) := by decide +kernel
theorem dX10_fall_145 : decode cX10_fall 145 = .ok (.aload_n 1, 1) := by decide +kernel
theorem dX10_fall_146 : decode cX10_fall 146 = .ok (.iload 5, 2) := by decide +kernel
theorem dX10_fall_148 : decode cX10_fall 148 = .ok (.invokestatic 155, 3) := by decide +kernel
theorem dX10_fall_151 : decode cX10_fall 151 = .ok (.iload 6, 2) := by decide +kernel
theorem dX10_fall_153 : decode cX10_fall 153 = .ok (.ifCond .eq 83, 3) := by decide +kernel
theorem dX10_fall_156 : decode cX10_fall 156 = .ok (.aload_n 0, 1) := by decide +kernel
theorem dX10_fall_157 : decode cX10_fall 157 = .ok (.getfield 19, 3) := by decide +kernel
theorem dX10_fall_160 : decode cX10_fall 160 = .ok (.iconst 3, 1) := by decide +kernel
theorem dX10_fall_161 : decode cX10_fall 161 = .ok (.iload 4, 2) := by decide +kernel
theorem dX10_fall_163 : decode cX10_fall 163 = .ok (.imul, 1) := by decide +kernel
theorem dX10_fall_164 : decode cX10_fall 164 = .ok (.iconst 2, 1) := by decide +kernel
theorem dX10_fall_165 : decode cX10_fall 165 = .ok (.iadd, 1) := by decide +kernel
theorem dX10_fall_166 : decode cX10_fall 166 = .ok (.iaload, 1) := by decide +kernel
theorem dX10_fall_167 : decode cX10_fall 167 = .ok (.ifCond .ne 69, 3) := by decide +kernel
theorem dX10_fall_170 : decode cX10_fall 170 = .ok (.aload_n 1, 1) := by decide +kernel
theorem dX10_fall_171 : decode cX10_fall 171 = .ok (.bipush 12, 2) := by decide +kernel
theorem dX10_fall_173 : decode cX10_fall 173 = .ok (.iaload, 1) := by decide +kernel
theorem dX10_fall_174 : decode cX10_fall 174 = .ok (.iload 5, 2) := by decide +kernel
theorem dX10_fall_176 : decode cX10_fall 176 = .ok (.invokestatic 144, 3) := by decide +kernel
theorem dX10_fall_179 : decode cX10_fall 179 = .ok (.ifCond .ne 57, 3) := by decide +kernel
theorem dX10_fall_182 : decode cX10_fall 182 = .ok (.aload_n 0, 1) := by decide +kernel
theorem dX10_fall_183 : decode cX10_fall 183 = .ok (.getfield 152, 3) := by decide +kernel
theorem dX10_fall_186 : decode cX10_fall 186 = .ok (.iload 5, 2) := by decide +kernel
theorem dX10_fall_188 : decode cX10_fall 188 = .ok (.invokestatic 144, 3) := by decide +kernel
theorem dX10_fall_191 : decode cX10_fall 191 = .ok (.ifCond .ne 45, 3) := by decide +kernel
theorem dX10_fall_194 : decode cX10_fall 194 = .ok (.aload_n 1, 1) := by decide +kernel
theorem dX10_fall_195 : decode cX10_fall 195 = .ok (.bipush 12, 2) := by decide +kernel
theorem dX10_fall_197 : decode cX10_fall 197 = .ok (.dup2, 1) := by decide +kernel
theorem dX10_fall_198 : decode cX10_fall 198 = .ok (.iaload, 1) := by decide +kernel
theorem dX10_fall_199 : decode cX10_fall 199 = .ok (.iconst 1, 1) := by decide +kernel
theorem dX10_fall_200 : decode cX10_fall 200 = .ok (.iload 5, 2) := by decide +kernel
theorem dX10_fall_202 : decode cX10_fall 202 = .ok (.ishl, 1) := by decide +kernel
theorem dX10_fall_203 : decode cX10_fall 203 = .ok (.ior, 1) := by decide +kernel
theorem dX10_fall_204 : decode cX10_fall 204 = .ok (.iastore, 1) := by decide +kernel
theorem dX10_fall_205 : decode cX10_fall 205 = .ok (.aload_n 0, 1) := by decide +kernel
theorem dX10_fall_206 : decode cX10_fall 206 = .ok (.dup, 1) := by decide +kernel
theorem dX10_fall_207 : decode cX10_fall 207 = .ok (.getfield 152, 3) := by decide +kernel
theorem dX10_fall_210 : decode cX10_fall 210 = .ok (.iconst 1, 1) := by decide +kernel
theorem dX10_fall_211 : decode cX10_fall 211 = .ok (.iload 5, 2) := by decide +kernel
theorem dX10_fall_213 : decode cX10_fall 213 = .ok (.ishl, 1) := by decide +kernel
theorem dX10_fall_214 : decode cX10_fall 214 = .ok (.ior, 1) := by decide +kernel
theorem dX10_fall_215 : decode cX10_fall 215 = .ok (.putfield 152, 3) := by decide +kernel
theorem dX10_fall_218 : decode cX10_fall 218 = .ok (.iinc 3 1, 3) := by decide +kernel
theorem dX10_fall_221 : decode cX10_fall 221 = .ok (.aload_n 0, 1) := by decide +kernel
theorem dX10_fall_222 : decode cX10_fall 222 = .ok (.getfield 59, 3) := by decide +kernel
theorem dX10_fall_225 : decode cX10_fall 225 = .ok (.iload_n 3, 1) := by decide +kernel
theorem dX10_fall_226 : decode cX10_fall 226 = .ok (.iload 5, 2) := by decide +kernel
theorem dX10_fall_228 : decode cX10_fall 228 = .ok (.iastore, 1) := by decide +kernel
theorem dX10_fall_229 : decode cX10_fall 229 = .ok (.aload_n 0, 1) := by decide +kernel
theorem dX10_fall_230 : decode cX10_fall 230 = .ok (.getfield 62, 3) := by decide +kernel
theorem dX10_fall_233 : decode cX10_fall 233 = .ok (.iload_n 3, 1) := by decide +kernel
theorem dX10_fall_234 : decode cX10_fall 234 = .ok (.iconst 0, 1) := by decide +kernel
theorem dX10_fall_235 : decode cX10_fall 235 = .ok (.iastore, 1) := by decide +kernel
theorem dX10_fall_236 : decode cX10_fall 236 = .ok (.goto (-198), 3) := by decide +kernel
theorem dX10_fall_239 : decode cX10_fall 239 = .ok (.return_, 1) := by decide +kernel
theorem dX10_goThrow_0 : decode cX10_goThrow 0 = .ok (.aload_n 0, 1) := by decide +kernel
theorem dX10_goThrow_1 : decode cX10_goThrow 1 = .ok (.iconst 0, 1) := by decide +kernel
theorem dX10_goThrow_2 : decode cX10_goThrow 2 = .ok (.putfield 152, 3) := by decide +kernel
theorem dX10_goThrow_5 : decode cX10_goThrow 5 = .ok (.aload_n 0, 1) := by decide +kernel
theorem dX10_goThrow_6 : decode cX10_goThrow 6 = .ok (.aload_n 1, 1) := by decide +kernel
theorem dX10_goThrow_7 : decode cX10_goThrow 7 = .ok (.iload_n 2, 1) := by decide +kernel
theorem dX10_goThrow_8 : decode cX10_goThrow 8 = .ok (.iload_n 3, 1) := by decide +kernel
theorem dX10_goThrow_9 : decode cX10_goThrow 9 = .ok (.iload 4, 2) := by decide +kernel
theorem dX10_goThrow_11 : decode cX10_goThrow 11 = .ok (.invokevirtual 159, 3) := by decide +kernel
theorem dX10_goThrow_14 : decode cX10_goThrow 14 = .ok (.istore 5, 2) := by decide +kernel
theorem dX10_goThrow_16 : decode cX10_goThrow 16 = .ok (.iload 5, 2) := by decide +kernel
theorem dX10_goThrow_18 : decode cX10_goThrow 18 = .ok (.bipush 8, 2) := by decide +kernel
theorem dX10_goThrow_20 : decode cX10_goThrow 20 = .ok (.if_icmp .ne 8, 3) := by decide +kernel
theorem dX10_goThrow_23 : decode cX10_goThrow 23 = .ok (.bipush (-9), 2) := by decide +kernel
theorem dX10_goThrow_25 : decode cX10_goThrow 25 = .ok (.goto 9, 3) := by decide +kernel
theorem dX10_goThrow_28 : decode cX10_goThrow 28 = .ok (.aload_n 0, 1) := by decide +kernel
theorem dX10_goThrow_29 : decode cX10_goThrow 29 = .ok (.iload 5, 2) := by decide +kernel
theorem dX10_goThrow_31 : decode cX10_goThrow 31 = .ok (.invokevirtual 163, 3) := by decide +kernel
theorem dX10_goThrow_34 : decode cX10_goThrow 34 = .ok (.istore 6, 2) := by decide +kernel
theorem dX10_goThrow_36 : decode cX10_goThrow 36 = .ok (.iload 6, 2) := by decide +kernel
theorem dX10_goThrow_38 : decode cX10_goThrow 38 = .ok (.bipush (-9), 2) := by decide +kernel
theorem dX10_goThrow_40 : decode cX10_goThrow 40 = .ok (.if_icmp .eq 15, 3) := by decide +kernel
theorem dX10_goThrow_43 : decode cX10_goThrow 43 = .ok (.aload_n 1, 1) := by decide +kernel
theorem dX10_goThrow_44 : decode cX10_goThrow 44 = .ok (.bipush 12, 2) := by decide +kernel
theorem dX10_goThrow_46 : decode cX10_goThrow 46 = .ok (.iaload, 1) := by decide +kernel
theorem dX10_goThrow_47 : decode cX10_goThrow 47 = .ok (.iload 6, 2) := by decide +kernel
theorem dX10_goThrow_49 : decode cX10_goThrow 49 = .ok (.invokestatic 144, 3) := by decide +kernel
theorem dX10_goThrow_52 : decode cX10_goThrow 52 = .ok (.ifCond .eq 4, 3) := by decide +kernel
theorem dX10_goThrow_55 : decode cX10_goThrow 55 = .ok (.return_, 1) := by decide +kernel
theorem dX10_goThrow_56 : decode cX10_goThrow 56 = .ok (.aload_n 1, 1) := by decide +kernel
theorem dX10_goThrow_57 : decode cX10_goThrow 57 = .ok (.iconst 0, 1) := by decide +kernel
theorem dX10_goThrow_58 : decode cX10_goThrow 58 = .ok (.iload 6, 2) := by decide +kernel
theorem dX10_goThrow_60 : decode cX10_goThrow 60 = .ok (.iadd, 1) := by decide +kernel
theorem dX10_goThrow_61 : decode cX10_goThrow 61 = .ok (.dup2, 1) := by decide +kernel
theorem dX10_goThrow_62 : decode cX10_goThrow 62 = .ok (.iaload, 1) := by decide +kernel
theorem dX10_goThrow_63 : decode cX10_goThrow 63 = .ok (.aload_n 0, 1) := by decide +kernel
theorem dX10_goThrow_64 : decode cX10_goThrow 64 = .ok (.iload_n 2, 1) := by decide +kernel
theorem dX10_goThrow_65 : decode cX10_goThrow 65 = .ok (.invokevirtual 167, 3) := by decide +kernel
theorem dX10_goThrow_68 : decode cX10_goThrow 68 = .ok (.iadd, 1) := by decide +kernel
theorem dX10_goThrow_69 : decode cX10_goThrow 69 = .ok (.iastore, 1) := by decide +kernel
theorem dX10_goThrow_70 : decode cX10_goThrow 70 = .ok (.aload_n 1, 1) := by decide +kernel
theorem dX10_goThrow_71 : decode cX10_goThrow 71 = .ok (.iconst 5, 1) := by decide +kernel
theorem dX10_goThrow_72 : decode cX10_goThrow 72 = .ok (.iload 6, 2) := by decide +kernel
theorem dX10_goThrow_74 : decode cX10_goThrow 74 = .ok (.iadd, 1) := by decide +kernel
theorem dX10_goThrow_75 : decode cX10_goThrow 75 = .ok (.dup2, 1) := by decide +kernel
theorem dX10_goThrow_76 : decode cX10_goThrow 76 = .ok (.iaload, 1) := by decide +kernel
theorem dX10_goThrow_77 : decode cX10_goThrow 77 = .ok (.iconst 1, 1) := by decide +kernel
theorem dX10_goThrow_78 : decode cX10_goThrow 78 = .ok (.iadd, 1) := by decide +kernel
theorem dX10_goThrow_79 : decode cX10_goThrow 79 = .ok (.iastore, 1) := by decide +kernel
theorem dX10_goThrow_80 : decode cX10_goThrow 80 = .ok (.aload_n 1, 1) := by decide +kernel
theorem dX10_goThrow_81 : decode cX10_goThrow 81 = .ok (.iconst 0, 1) := by decide +kernel
theorem dX10_goThrow_82 : decode cX10_goThrow 82 = .ok (.iload 6, 2) := by decide +kernel
theorem dX10_goThrow_84 : decode cX10_goThrow 84 = .ok (.iadd, 1) := by decide +kernel
theorem dX10_goThrow_85 : decode cX10_goThrow 85 = .ok (.iaload, 1) := by decide +kernel
theorem dX10_goThrow_86 : decode cX10_goThrow 86 = .ok (.aload_n 0, 1) := by decide +kernel
theorem dX10_goThrow_87 : decode cX10_goThrow 87 = .ok (.aload_n 1, 1) := by decide +kernel
theorem dX10_goThrow_88 : decode cX10_goThrow 88 = .ok (.iload 6, 2) := by decide +kernel
theorem dX10_goThrow_90 : decode cX10_goThrow 90 = .ok (.invokevirtual 170, 3) := by decide +kernel
theorem dX10_goThrow_93 : decode cX10_goThrow 93 = .ok (.if_icmp .lt 58, 3) := by decide +kernel
theorem dX10_goThrow_96 : decode cX10_goThrow 96 = .ok (.aload_n 0, 1) := by decide +kernel
theorem dX10_goThrow_97 : decode cX10_goThrow 97 = .ok (.getfield 13, 3) := by decide +kernel
theorem dX10_goThrow_100 : decode cX10_goThrow 100 = .ok (.iconst 3, 1) := by decide +kernel
theorem dX10_goThrow_101 : decode cX10_goThrow 101 = .ok (.iload 6, 2) := by decide +kernel
theorem dX10_goThrow_103 : decode cX10_goThrow 103 = .ok (.imul, 1) := by decide +kernel
theorem dX10_goThrow_104 : decode cX10_goThrow 104 = .ok (.iconst 2, 1) := by decide +kernel
theorem dX10_goThrow_105 : decode cX10_goThrow 105 = .ok (.iadd, 1) := by decide +kernel
theorem dX10_goThrow_106 : decode cX10_goThrow 106 = .ok (.iaload, 1) := by decide +kernel
theorem dX10_goThrow_107 : decode cX10_goThrow 107 = .ok (.iconst 3, 1) := by decide +kernel
theorem dX10_goThrow_108 : decode cX10_goThrow 108 = .ok (.if_icmp .ne 36, 3) := by decide +kernel
theorem dX10_goThrow_111 : decode cX10_goThrow 111 = .ok (.aload_n 1, 1) := by decide +kernel
theorem dX10_goThrow_112 : decode cX10_goThrow 112 = .ok (.bipush 10, 2) := by decide +kernel
theorem dX10_goThrow_114 : decode cX10_goThrow 114 = .ok (.iaload, 1) := by decide +kernel
theorem dX10_goThrow_115 : decode cX10_goThrow 115 = .ok (.iload 6, 2) := by decide +kernel
theorem dX10_goThrow_117 : decode cX10_goThrow 117 = .ok (.invokestatic 144, 3) := by decide +kernel
theorem dX10_goThrow_120 : decode cX10_goThrow 120 = .ok (.ifCond .ne 24, 3) := by decide +kernel
theorem dX10_goThrow_123 : decode cX10_goThrow 123 = .ok (.aload_n 1, 1) := by decide +kernel
theorem dX10_goThrow_124 : decode cX10_goThrow 124 = .ok (.bipush 10, 2) := by decide +kernel
theorem dX10_goThrow_126 : decode cX10_goThrow 126 = .ok (.dup2, 1) := by decide +kernel
theorem dX10_goThrow_127 : decode cX10_goThrow 127 = .ok (.iaload, 1) := by decide +kernel
theorem dX10_goThrow_128 : decode cX10_goThrow 128 = .ok (.iconst 1, 1) := by decide +kernel
theorem dX10_goThrow_129 : decode cX10_goThrow 129 = .ok (.iload 6, 2) := by decide +kernel
theorem dX10_goThrow_131 : decode cX10_goThrow 131 = .ok (.ishl, 1) := by decide +kernel
theorem dX10_goThrow_132 : decode cX10_goThrow 132 = .ok (.ior, 1) := by decide +kernel
theorem dX10_goThrow_133 : decode cX10_goThrow 133 = .ok (.iastore, 1) := by decide +kernel
theorem dX10_goThrow_134 : decode cX10_goThrow 134 = .ok (.aload_n 1, 1) := by decide +kernel
theorem dX10_goThrow_135 : decode cX10_goThrow 135 = .ok (.iconst 0, 1) := by decide +kernel
theorem dX10_goThrow_136 : decode cX10_goThrow 136 = .ok (.iload 6, 2) := by decide +kernel
theorem dX10_goThrow_138 : decode cX10_goThrow 138 = .ok (.iadd, 1) := by decide +kernel
theorem dX10_goThrow_139 : decode cX10_goThrow 139 = .ok (.iconst 0, 1) := by decide +kernel
theorem dX10_goThrow_140 : decode cX10_goThrow 140 = .ok (.iastore, 1) := by decide +kernel
theorem dX10_goThrow_141 : decode cX10_goThrow 141 = .ok (.goto 10, 3) := by decide +kernel
theorem dX10_goThrow_144 : decode cX10_goThrow 144 = .ok (.aload_n 0, 1) := by decide +kernel
theorem dX10_goThrow_145 : decode cX10_goThrow 145 = .ok (.aload_n 1, 1) := by decide +kernel
theorem dX10_goThrow_146 : decode cX10_goThrow 146 = .ok (.iload 6, 2) := by decide +kernel
theorem dX10_goThrow_148 : decode cX10_goThrow 148 = .ok (.invokevirtual 173, 3) := by decide +kernel
theorem dX10_goThrow_151 : decode cX10_goThrow 151 = .ok (.return_, 1) := by decide +kernel
theorem dX10_placeAt_0 : decode cX10_placeAt 0 = .ok (.aload_n 0, 1) := by decide +kernel
theorem dX10_placeAt_1 : decode cX10_placeAt 1 = .ok (.getfield 13, 3) := by decide +kernel
theorem dX10_placeAt_4 : decode cX10_placeAt 4 = .ok (.iconst 3, 1) := by decide +kernel
theorem dX10_placeAt_5 : decode cX10_placeAt 5 = .ok (.iload_n 3, 1) := by decide +kernel
theorem dX10_placeAt_6 : decode cX10_placeAt 6 = .ok (.imul, 1) := by decide +kernel
theorem dX10_placeAt_7 : decode cX10_placeAt 7 = .ok (.iaload, 1) := by decide +kernel
theorem dX10_placeAt_8 : decode cX10_placeAt 8 = .ok (.aload_n 0, 1) := by decide +kernel
theorem dX10_placeAt_9 : decode cX10_placeAt 9 = .ok (.aload_n 1, 1) := by decide +kernel
theorem dX10_placeAt_10 : decode cX10_placeAt 10 = .ok (.iload_n 2, 1) := by decide +kernel
theorem dX10_placeAt_11 : decode cX10_placeAt 11 = .ok (.invokevirtual 148, 3) := by decide +kernel
theorem dX10_placeAt_14 : decode cX10_placeAt 14 = .ok (.isub, 1) := by decide +kernel
theorem dX10_placeAt_15 : decode cX10_placeAt 15 = .ok (.istore 4, 2) := by decide +kernel
theorem dX10_placeAt_17 : decode cX10_placeAt 17 = .ok (.aload_n 1, 1) := by decide +kernel
theorem dX10_placeAt_18 : decode cX10_placeAt 18 = .ok (.bipush 12, 2) := by decide +kernel
theorem dX10_placeAt_20 : decode cX10_placeAt 20 = .ok (.iaload, 1) := by decide +kernel
theorem dX10_placeAt_21 : decode cX10_placeAt 21 = .ok (.iload_n 3, 1) := by decide +kernel
theorem dX10_placeAt_22 : decode cX10_placeAt 22 = .ok (.invokestatic 144, 3) := by decide +kernel
theorem dX10_placeAt_25 : decode cX10_placeAt 25 = .ok (.ifCond .ne 21, 3) := by decide +kernel
theorem dX10_placeAt_28 : decode cX10_placeAt 28 = .ok (.iload 4, 2) := by decide +kernel
theorem dX10_placeAt_30 : decode cX10_placeAt 30 = .ok (.i2l, 1) := by decide +kernel
theorem dX10_placeAt_31 : decode cX10_placeAt 31 = .ok (.lconst 0, 1) := by decide +kernel
theorem dX10_placeAt_32 : decode cX10_placeAt 32 = .ok (.ldc2_w 93, 3) := by decide +kernel
theorem dX10_placeAt_35 : decode cX10_placeAt 35 = .ok (.invokestatic 78, 3) := by decide +kernel
theorem dX10_placeAt_38 : decode cX10_placeAt 38 = .ok (.ifCond .eq 8, 3) := by decide +kernel
theorem dX10_placeAt_41 : decode cX10_placeAt 41 = .ok (.iload 4, 2) := by decide +kernel
theorem dX10_placeAt_43 : decode cX10_placeAt 43 = .ok (.goto 5, 3) := by decide +kernel
theorem dX10_placeAt_46 : decode cX10_placeAt 46 = .ok (.bipush (-9), 2) := by decide +kernel
theorem dX10_placeAt_48 : decode cX10_placeAt 48 = .ok (.ireturn, 1) := by decide +kernel
theorem dX10_about_0 : decode cX10_about 0 = .ok (.aload_n 0, 1) := by decide +kernel
theorem dX10_about_1 : decode cX10_about 1 = .ok (.iconst 0, 1) := by decide +kernel
theorem dX10_about_2 : decode cX10_about 2 = .ok (.putfield 71, 3) := by decide +kernel
theorem dX10_about_5 : decode cX10_about 5 = .ok (.iload_n 1, 1) := by decide +kernel
theorem dX10_about_6 : decode cX10_about 6 = .ok (.tableswitch 104 0 8 #[50, 55, 60, 65, 73, 81, 89, 94, 99], 50) := by decide +kernel
theorem dX10_about_56 : decode cX10_about 56 = .ok (.aload_n 0, 1) := by decide +kernel
theorem dX10_about_57 : decode cX10_about 57 = .ok (.getfield 75, 3) := by decide +kernel
theorem dX10_about_60 : decode cX10_about 60 = .ok (.ireturn, 1) := by decide +kernel
theorem dX10_about_61 : decode cX10_about 61 = .ok (.aload_n 0, 1) := by decide +kernel
theorem dX10_about_62 : decode cX10_about 62 = .ok (.getfield 82, 3) := by decide +kernel
theorem dX10_about_65 : decode cX10_about 65 = .ok (.ireturn, 1) := by decide +kernel
theorem dX10_about_66 : decode cX10_about 66 = .ok (.aload_n 0, 1) := by decide +kernel
theorem dX10_about_67 : decode cX10_about 67 = .ok (.getfield 134, 3) := by decide +kernel
theorem dX10_about_70 : decode cX10_about 70 = .ok (.ireturn, 1) := by decide +kernel
theorem dX10_about_71 : decode cX10_about 71 = .ok (.aload_n 0, 1) := by decide +kernel
theorem dX10_about_72 : decode cX10_about 72 = .ok (.getfield 31, 3) := by decide +kernel
theorem dX10_about_75 : decode cX10_about 75 = .ok (.bipush 13, 2) := by decide +kernel
theorem dX10_about_77 : decode cX10_about 77 = .ok (.iaload, 1) := by decide +kernel
theorem dX10_about_78 : decode cX10_about 78 = .ok (.ireturn, 1) := by decide +kernel
theorem dX10_about_79 : decode cX10_about 79 = .ok (.aload_n 0, 1) := by decide +kernel
theorem dX10_about_80 : decode cX10_about 80 = .ok (.getfield 31, 3) := by decide +kernel
theorem dX10_about_83 : decode cX10_about 83 = .ok (.bipush 14, 2) := by decide +kernel
theorem dX10_about_85 : decode cX10_about 85 = .ok (.iaload, 1) := by decide +kernel
theorem dX10_about_86 : decode cX10_about 86 = .ok (.ireturn, 1) := by decide +kernel
theorem dX10_about_87 : decode cX10_about 87 = .ok (.aload_n 0, 1) := by decide +kernel
theorem dX10_about_88 : decode cX10_about 88 = .ok (.getfield 31, 3) := by decide +kernel
theorem dX10_about_91 : decode cX10_about 91 = .ok (.bipush 12, 2) := by decide +kernel
theorem dX10_about_93 : decode cX10_about 93 = .ok (.iaload, 1) := by decide +kernel
theorem dX10_about_94 : decode cX10_about 94 = .ok (.ireturn, 1) := by decide +kernel
theorem dX10_about_95 : decode cX10_about 95 = .ok (.aload_n 0, 1) := by decide +kernel
theorem dX10_about_96 : decode cX10_about 96 = .ok (.getfield 141, 3) := by decide +kernel
theorem dX10_about_99 : decode cX10_about 99 = .ok (.ireturn, 1) := by decide +kernel
theorem dX10_about_100 : decode cX10_about 100 = .ok (.aload_n 0, 1) := by decide +kernel
theorem dX10_about_101 : decode cX10_about 101 = .ok (.getfield 176, 3) := by decide +kernel
theorem dX10_about_104 : decode cX10_about 104 = .ok (.ireturn, 1) := by decide +kernel
theorem dX10_about_105 : decode cX10_about 105 = .ok (.aload_n 0, 1) := by decide +kernel
theorem dX10_about_106 : decode cX10_about 106 = .ok (.getfield 87, 3) := by decide +kernel
theorem dX10_about_109 : decode cX10_about 109 = .ok (.ireturn, 1) := by decide +kernel
theorem dX10_about_110 : decode cX10_about 110 = .ok (.bipush (-2), 2) := by decide +kernel
theorem dX10_about_112 : decode cX10_about 112 = .ok (.ireturn, 1) := by decide +kernel
theorem dX10_husk_0 : decode cX10_husk 0 = .ok (.aload_n 0, 1) := by decide +kernel
theorem dX10_husk_1 : decode cX10_husk 1 = .ok (.iconst 0, 1) := by decide +kernel
theorem dX10_husk_2 : decode cX10_husk 2 = .ok (.putfield 71, 3) := by decide +kernel
theorem dX10_husk_5 : decode cX10_husk 5 = .ok (.aload_n 0, 1) := by decide +kernel
theorem dX10_husk_6 : decode cX10_husk 6 = .ok (.iload_n 1, 1) := by decide +kernel
theorem dX10_husk_7 : decode cX10_husk 7 = .ok (.invokevirtual 179, 3) := by decide +kernel
theorem dX10_husk_10 : decode cX10_husk 10 = .ok (.ifCond .eq 5, 3) := by decide +kernel
theorem dX10_husk_13 : decode cX10_husk 13 = .ok (.iconst (-1), 1) := by decide +kernel
theorem dX10_husk_14 : decode cX10_husk 14 = .ok (.ireturn, 1) := by decide +kernel
theorem dX10_husk_15 : decode cX10_husk 15 = .ok (.iload_n 2, 1) := by decide +kernel
theorem dX10_husk_16 : decode cX10_husk 16 = .ok (.tableswitch 127 0 8 #[52, 52, 52, 63, 73, 82, 91, 103, 115], 52) := by decide +kernel
theorem dX10_husk_68 : decode cX10_husk 68 = .ok (.aload_n 0, 1) := by decide +kernel
theorem dX10_husk_69 : decode cX10_husk 69 = .ok (.getfield 13, 3) := by decide +kernel
theorem dX10_husk_72 : decode cX10_husk 72 = .ok (.iconst 3, 1) := by decide +kernel
theorem dX10_husk_73 : decode cX10_husk 73 = .ok (.iload_n 1, 1) := by decide +kernel
theorem dX10_husk_74 : decode cX10_husk 74 = .ok (.imul, 1) := by decide +kernel
theorem dX10_husk_75 : decode cX10_husk 75 = .ok (.iload_n 2, 1) := by decide +kernel
theorem dX10_husk_76 : decode cX10_husk 76 = .ok (.iadd, 1) := by decide +kernel
theorem dX10_husk_77 : decode cX10_husk 77 = .ok (.iaload, 1) := by decide +kernel
theorem dX10_husk_78 : decode cX10_husk 78 = .ok (.ireturn, 1) := by decide +kernel
theorem dX10_husk_79 : decode cX10_husk 79 = .ok (.aload_n 0, 1) := by decide +kernel
theorem dX10_husk_80 : decode cX10_husk 80 = .ok (.aload_n 0, 1) := by decide +kernel
theorem dX10_husk_81 : decode cX10_husk 81 = .ok (.getfield 31, 3) := by decide +kernel
theorem dX10_husk_84 : decode cX10_husk 84 = .ok (.iload_n 1, 1) := by decide +kernel
theorem dX10_husk_85 : decode cX10_husk 85 = .ok (.invokevirtual 170, 3) := by decide +kernel
theorem dX10_husk_88 : decode cX10_husk 88 = .ok (.ireturn, 1) := by decide +kernel
theorem dX10_husk_89 : decode cX10_husk 89 = .ok (.aload_n 0, 1) := by decide +kernel
theorem dX10_husk_90 : decode cX10_husk 90 = .ok (.getfield 31, 3) := by decide +kernel
theorem dX10_husk_93 : decode cX10_husk 93 = .ok (.iconst 0, 1) := by decide +kernel
theorem dX10_husk_94 : decode cX10_husk 94 = .ok (.iload_n 1, 1) := by decide +kernel
theorem dX10_husk_95 : decode cX10_husk 95 = .ok (.iadd, 1) := by decide +kernel
theorem dX10_husk_96 : decode cX10_husk 96 = .ok (.iaload, 1) := by decide +kernel
theorem dX10_husk_97 : decode cX10_husk 97 = .ok (.ireturn, 1) := by decide +kernel
theorem dX10_husk_98 : decode cX10_husk 98 = .ok (.aload_n 0, 1) := by decide +kernel
theorem dX10_husk_99 : decode cX10_husk 99 = .ok (.getfield 31, 3) := by decide +kernel
theorem dX10_husk_102 : decode cX10_husk 102 = .ok (.iconst 5, 1) := by decide +kernel
theorem dX10_husk_103 : decode cX10_husk 103 = .ok (.iload_n 1, 1) := by decide +kernel
theorem dX10_husk_104 : decode cX10_husk 104 = .ok (.iadd, 1) := by decide +kernel
theorem dX10_husk_105 : decode cX10_husk 105 = .ok (.iaload, 1) := by decide +kernel
theorem dX10_husk_106 : decode cX10_husk 106 = .ok (.ireturn, 1) := by decide +kernel
theorem dX10_husk_107 : decode cX10_husk 107 = .ok (.aload_n 0, 1) := by decide +kernel
theorem dX10_husk_108 : decode cX10_husk 108 = .ok (.getfield 31, 3) := by decide +kernel
theorem dX10_husk_111 : decode cX10_husk 111 = .ok (.bipush 10, 2) := by decide +kernel
theorem dX10_husk_113 : decode cX10_husk 113 = .ok (.iaload, 1) := by decide +kernel
theorem dX10_husk_114 : decode cX10_husk 114 = .ok (.iload_n 1, 1) := by decide +kernel
theorem dX10_husk_115 : decode cX10_husk 115 = .ok (.ishr, 1) := by decide +kernel
theorem dX10_husk_116 : decode cX10_husk 116 = .ok (.iconst 1, 1) := by decide +kernel
theorem dX10_husk_117 : decode cX10_husk 117 = .ok (.iand, 1) := by decide +kernel
theorem dX10_husk_118 : decode cX10_husk 118 = .ok (.ireturn, 1) := by decide +kernel
theorem dX10_husk_119 : decode cX10_husk 119 = .ok (.aload_n 0, 1) := by decide +kernel
theorem dX10_husk_120 : decode cX10_husk 120 = .ok (.getfield 31, 3) := by decide +kernel
theorem dX10_husk_123 : decode cX10_husk 123 = .ok (.bipush 11, 2) := by decide +kernel
theorem dX10_husk_125 : decode cX10_husk 125 = .ok (.iaload, 1) := by decide +kernel
theorem dX10_husk_126 : decode cX10_husk 126 = .ok (.iload_n 1, 1) := by decide +kernel
theorem dX10_husk_127 : decode cX10_husk 127 = .ok (.ishr, 1) := by decide +kernel
theorem dX10_husk_128 : decode cX10_husk 128 = .ok (.iconst 1, 1) := by decide +kernel
theorem dX10_husk_129 : decode cX10_husk 129 = .ok (.iand, 1) := by decide +kernel
theorem dX10_husk_130 : decode cX10_husk 130 = .ok (.ireturn, 1) := by decide +kernel
theorem dX10_husk_131 : decode cX10_husk 131 = .ok (.aload_n 0, 1) := by decide +kernel
theorem dX10_husk_132 : decode cX10_husk 132 = .ok (.getfield 31, 3) := by decide +kernel
theorem dX10_husk_135 : decode cX10_husk 135 = .ok (.bipush 12, 2) := by decide +kernel
theorem dX10_husk_137 : decode cX10_husk 137 = .ok (.iaload, 1) := by decide +kernel
theorem dX10_husk_138 : decode cX10_husk 138 = .ok (.iload_n 1, 1) := by decide +kernel
theorem dX10_husk_139 : decode cX10_husk 139 = .ok (.ishr, 1) := by decide +kernel
theorem dX10_husk_140 : decode cX10_husk 140 = .ok (.iconst 1, 1) := by decide +kernel
theorem dX10_husk_141 : decode cX10_husk 141 = .ok (.iand, 1) := by decide +kernel
theorem dX10_husk_142 : decode cX10_husk 142 = .ok (.ireturn, 1) := by decide +kernel
theorem dX10_husk_143 : decode cX10_husk 143 = .ok (.bipush (-2), 2) := by decide +kernel
theorem dX10_husk_145 : decode cX10_husk 145 = .ok (.ireturn, 1) := by decide +kernel
theorem dX10_thrower_0 : decode cX10_thrower 0 = .ok (.aload_n 0, 1) := by decide +kernel
theorem dX10_thrower_1 : decode cX10_thrower 1 = .ok (.iconst 0, 1) := by decide +kernel
theorem dX10_thrower_2 : decode cX10_thrower 2 = .ok (.putfield 71, 3) := by decide +kernel
theorem dX10_thrower_5 : decode cX10_thrower 5 = .ok (.aload_n 0, 1) := by decide +kernel
theorem dX10_thrower_6 : decode cX10_thrower 6 = .ok (.iload_n 1, 1) := by decide +kernel
theorem dX10_thrower_7 : decode cX10_thrower 7 = .ok (.invokevirtual 183, 3) := by decide +kernel
theorem dX10_thrower_10 : decode cX10_thrower 10 = .ok (.ifCond .eq 5, 3) := by decide +kernel
theorem dX10_thrower_13 : decode cX10_thrower 13 = .ok (.iconst (-1), 1) := by decide +kernel
theorem dX10_thrower_14 : decode cX10_thrower 14 = .ok (.ireturn, 1) := by decide +kernel
theorem dX10_thrower_15 : decode cX10_thrower 15 = .ok (.iload_n 2, 1) := by decide +kernel
theorem dX10_thrower_16 : decode cX10_thrower 16 = .ok (.i2l, 1) := by decide +kernel
theorem dX10_thrower_17 : decode cX10_thrower 17 = .ok (.lconst 0, 1) := by decide +kernel
theorem dX10_thrower_18 : decode cX10_thrower 18 = .ok (.ldc2_w 186, 3) := by decide +kernel
theorem dX10_thrower_21 : decode cX10_thrower 21 = .ok (.invokestatic 78, 3) := by decide +kernel
theorem dX10_thrower_24 : decode cX10_thrower 24 = .ok (.ifCond .eq 16, 3) := by decide +kernel
theorem dX10_thrower_27 : decode cX10_thrower 27 = .ok (.aload_n 0, 1) := by decide +kernel
theorem dX10_thrower_28 : decode cX10_thrower 28 = .ok (.getfield 16, 3) := by decide +kernel
theorem dX10_thrower_31 : decode cX10_thrower 31 = .ok (.iconst 3, 1) := by decide +kernel
theorem dX10_thrower_32 : decode cX10_thrower 32 = .ok (.iload_n 1, 1) := by decide +kernel
theorem dX10_thrower_33 : decode cX10_thrower 33 = .ok (.imul, 1) := by decide +kernel
theorem dX10_thrower_34 : decode cX10_thrower 34 = .ok (.iload_n 2, 1) := by decide +kernel
theorem dX10_thrower_35 : decode cX10_thrower 35 = .ok (.iadd, 1) := by decide +kernel
theorem dX10_thrower_36 : decode cX10_thrower 36 = .ok (.iaload, 1) := by decide +kernel
theorem dX10_thrower_37 : decode cX10_thrower 37 = .ok (.goto 18, 3) := by decide +kernel
theorem dX10_thrower_40 : decode cX10_thrower 40 = .ok (.iload_n 2, 1) := by decide +kernel
theorem dX10_thrower_41 : decode cX10_thrower 41 = .ok (.iconst 3, 1) := by decide +kernel
theorem dX10_thrower_42 : decode cX10_thrower 42 = .ok (.if_icmp .ne 11, 3) := by decide +kernel
theorem dX10_thrower_45 : decode cX10_thrower 45 = .ok (.aload_n 0, 1) := by decide +kernel
theorem dX10_thrower_46 : decode cX10_thrower 46 = .ok (.iload_n 1, 1) := by decide +kernel
theorem dX10_thrower_47 : decode cX10_thrower 47 = .ok (.invokevirtual 167, 3) := by decide +kernel
theorem dX10_thrower_50 : decode cX10_thrower 50 = .ok (.goto 5, 3) := by decide +kernel
theorem dX10_thrower_53 : decode cX10_thrower 53 = .ok (.bipush (-2), 2) := by decide +kernel
theorem dX10_thrower_55 : decode cX10_thrower 55 = .ok (.ireturn, 1) := by decide +kernel
theorem dX10_noThrow_0 : decode cX10_noThrow 0 = .ok (.aload_n 0, 1) := by decide +kernel
theorem dX10_noThrow_1 : decode cX10_noThrow 1 = .ok (.iload_n 1, 1) := by decide +kernel
theorem dX10_noThrow_2 : decode cX10_noThrow 2 = .ok (.invokevirtual 183, 3) := by decide +kernel
theorem dX10_noThrow_5 : decode cX10_noThrow 5 = .ok (.ifCond .eq 5, 3) := by decide +kernel
theorem dX10_noThrow_8 : decode cX10_noThrow 8 = .ok (.iconst (-1), 1) := by decide +kernel
theorem dX10_noThrow_9 : decode cX10_noThrow 9 = .ok (.ireturn, 1) := by decide +kernel
theorem dX10_noThrow_10 : decode cX10_noThrow 10 = .ok (.iload_n 2, 1) := by decide +kernel
theorem dX10_noThrow_11 : decode cX10_noThrow 11 = .ok (.i2l, 1) := by decide +kernel
theorem dX10_noThrow_12 : decode cX10_noThrow 12 = .ok (.lconst 0, 1) := by decide +kernel
theorem dX10_noThrow_13 : decode cX10_noThrow 13 = .ok (.ldc2_w 93, 3) := by decide +kernel
theorem dX10_noThrow_16 : decode cX10_noThrow 16 = .ok (.invokestatic 78, 3) := by decide +kernel
theorem dX10_noThrow_19 : decode cX10_noThrow 19 = .ok (.ifCond .eq 19, 3) := by decide +kernel
theorem dX10_noThrow_22 : decode cX10_noThrow 22 = .ok (.iload_n 3, 1) := by decide +kernel
theorem dX10_noThrow_23 : decode cX10_noThrow 23 = .ok (.i2l, 1) := by decide +kernel
theorem dX10_noThrow_24 : decode cX10_noThrow 24 = .ok (.lconst 0, 1) := by decide +kernel
theorem dX10_noThrow_25 : decode cX10_noThrow 25 = .ok (.ldc2_w 186, 3) := by decide +kernel
theorem dX10_noThrow_28 : decode cX10_noThrow 28 = .ok (.invokestatic 78, 3) := by decide +kernel
theorem dX10_noThrow_31 : decode cX10_noThrow 31 = .ok (.ifCond .eq 7, 3) := by decide +kernel
theorem dX10_noThrow_34 : decode cX10_noThrow 34 = .ok (.iconst 0, 1) := by decide +kernel
theorem dX10_noThrow_35 : decode cX10_noThrow 35 = .ok (.goto 5, 3) := by decide +kernel
theorem dX10_noThrow_38 : decode cX10_noThrow 38 = .ok (.bipush (-2), 2) := by decide +kernel
theorem dX10_noThrow_40 : decode cX10_noThrow 40 = .ok (.ireturn, 1) := by decide +kernel
theorem dX10_lands_0 : decode cX10_lands 0 = .ok (.aload_n 0, 1) := by decide +kernel
theorem dX10_lands_1 : decode cX10_lands 1 = .ok (.iconst 0, 1) := by decide +kernel
theorem dX10_lands_2 : decode cX10_lands 2 = .ok (.putfield 71, 3) := by decide +kernel
theorem dX10_lands_5 : decode cX10_lands 5 = .ok (.aload_n 0, 1) := by decide +kernel
theorem dX10_lands_6 : decode cX10_lands 6 = .ok (.iload_n 1, 1) := by decide +kernel
theorem dX10_lands_7 : decode cX10_lands 7 = .ok (.iload_n 2, 1) := by decide +kernel
theorem dX10_lands_8 : decode cX10_lands 8 = .ok (.iload_n 3, 1) := by decide +kernel
theorem dX10_lands_9 : decode cX10_lands 9 = .ok (.invokevirtual 188, 3) := by decide +kernel
theorem dX10_lands_12 : decode cX10_lands 12 = .ok (.istore 4, 2) := by decide +kernel
theorem dX10_lands_14 : decode cX10_lands 14 = .ok (.iload 4, 2) := by decide +kernel
theorem dX10_lands_16 : decode cX10_lands 16 = .ok (.ifCond .eq 8, 3) := by decide +kernel
theorem dX10_lands_19 : decode cX10_lands 19 = .ok (.iload 4, 2) := by decide +kernel
theorem dX10_lands_21 : decode cX10_lands 21 = .ok (.goto 14, 3) := by decide +kernel
theorem dX10_lands_24 : decode cX10_lands 24 = .ok (.aload_n 0, 1) := by decide +kernel
theorem dX10_lands_25 : decode cX10_lands 25 = .ok (.aload_n 0, 1) := by decide +kernel
theorem dX10_lands_26 : decode cX10_lands 26 = .ok (.getfield 31, 3) := by decide +kernel
theorem dX10_lands_29 : decode cX10_lands 29 = .ok (.iload_n 1, 1) := by decide +kernel
theorem dX10_lands_30 : decode cX10_lands 30 = .ok (.iload_n 2, 1) := by decide +kernel
theorem dX10_lands_31 : decode cX10_lands 31 = .ok (.iload_n 3, 1) := by decide +kernel
theorem dX10_lands_32 : decode cX10_lands 32 = .ok (.invokevirtual 159, 3) := by decide +kernel
theorem dX10_lands_35 : decode cX10_lands 35 = .ok (.ireturn, 1) := by decide +kernel
theorem dX10_note_0 : decode cX10_note 0 = .ok (.aload_n 0, 1) := by decide +kernel
theorem dX10_note_1 : decode cX10_note 1 = .ok (.getfield 141, 3) := by decide +kernel
theorem dX10_note_4 : decode cX10_note 4 = .ok (.bipush 14, 2) := by decide +kernel
theorem dX10_note_6 : decode cX10_note 6 = .ok (.if_icmp .ne 43, 3) := by decide +kernel
theorem dX10_note_9 : decode cX10_note 9 = .ok (.iconst 0, 1) := by decide +kernel
theorem dX10_note_10 : decode cX10_note 10 = .ok (.istore_n 1, 1) := by decide +kernel
theorem dX10_note_11 : decode cX10_note 11 = .ok (.iload_n 1, 1) := by decide +kernel
theorem dX10_note_12 : decode cX10_note 12 = .ok (.sipush 195, 3) := by decide +kernel
theorem dX10_note_15 : decode cX10_note 15 = .ok (.if_icmp .ge 24, 3) := by decide +kernel
theorem dX10_note_18 : decode cX10_note 18 = .ok (.aload_n 0, 1) := by decide +kernel
theorem dX10_note_19 : decode cX10_note 19 = .ok (.getfield 40, 3) := by decide +kernel
theorem dX10_note_22 : decode cX10_note 22 = .ok (.iload_n 1, 1) := by decide +kernel
theorem dX10_note_23 : decode cX10_note 23 = .ok (.aload_n 0, 1) := by decide +kernel
theorem dX10_note_24 : decode cX10_note 24 = .ok (.getfield 40, 3) := by decide +kernel
theorem dX10_note_27 : decode cX10_note 27 = .ok (.iload_n 1, 1) := by decide +kernel
theorem dX10_note_28 : decode cX10_note 28 = .ok (.bipush 15, 2) := by decide +kernel
theorem dX10_note_30 : decode cX10_note 30 = .ok (.iadd, 1) := by decide +kernel
theorem dX10_note_31 : decode cX10_note 31 = .ok (.iaload, 1) := by decide +kernel
theorem dX10_note_32 : decode cX10_note 32 = .ok (.iastore, 1) := by decide +kernel
theorem dX10_note_33 : decode cX10_note 33 = .ok (.iinc 1 1, 3) := by decide +kernel
theorem dX10_note_36 : decode cX10_note 36 = .ok (.goto (-25), 3) := by decide +kernel
theorem dX10_note_39 : decode cX10_note 39 = .ok (.aload_n 0, 1) := by decide +kernel
theorem dX10_note_40 : decode cX10_note 40 = .ok (.dup, 1) := by decide +kernel
theorem dX10_note_41 : decode cX10_note 41 = .ok (.getfield 141, 3) := by decide +kernel
theorem dX10_note_44 : decode cX10_note 44 = .ok (.iconst 1, 1) := by decide +kernel
theorem dX10_note_45 : decode cX10_note 45 = .ok (.isub, 1) := by decide +kernel
theorem dX10_note_46 : decode cX10_note 46 = .ok (.putfield 141, 3) := by decide +kernel
theorem dX10_note_49 : decode cX10_note 49 = .ok (.iconst 0, 1) := by decide +kernel
theorem dX10_note_50 : decode cX10_note 50 = .ok (.istore_n 1, 1) := by decide +kernel
theorem dX10_note_51 : decode cX10_note 51 = .ok (.iload_n 1, 1) := by decide +kernel
theorem dX10_note_52 : decode cX10_note 52 = .ok (.bipush 15, 2) := by decide +kernel
theorem dX10_note_54 : decode cX10_note 54 = .ok (.if_icmp .ge 29, 3) := by decide +kernel
theorem dX10_note_57 : decode cX10_note 57 = .ok (.aload_n 0, 1) := by decide +kernel
theorem dX10_note_58 : decode cX10_note 58 = .ok (.getfield 40, 3) := by decide +kernel
theorem dX10_note_61 : decode cX10_note 61 = .ok (.bipush 15, 2) := by decide +kernel
theorem dX10_note_63 : decode cX10_note 63 = .ok (.aload_n 0, 1) := by decide +kernel
theorem dX10_note_64 : decode cX10_note 64 = .ok (.getfield 141, 3) := by decide +kernel
theorem dX10_note_67 : decode cX10_note 67 = .ok (.imul, 1) := by decide +kernel
theorem dX10_note_68 : decode cX10_note 68 = .ok (.iload_n 1, 1) := by decide +kernel
theorem dX10_note_69 : decode cX10_note 69 = .ok (.iadd, 1) := by decide +kernel
theorem dX10_note_70 : decode cX10_note 70 = .ok (.aload_n 0, 1) := by decide +kernel
theorem dX10_note_71 : decode cX10_note 71 = .ok (.getfield 31, 3) := by decide +kernel
theorem dX10_note_74 : decode cX10_note 74 = .ok (.iload_n 1, 1) := by decide +kernel
theorem dX10_note_75 : decode cX10_note 75 = .ok (.iaload, 1) := by decide +kernel
theorem dX10_note_76 : decode cX10_note 76 = .ok (.iastore, 1) := by decide +kernel
theorem dX10_note_77 : decode cX10_note 77 = .ok (.iinc 1 1, 3) := by decide +kernel
theorem dX10_note_80 : decode cX10_note 80 = .ok (.goto (-29), 3) := by decide +kernel
theorem dX10_note_83 : decode cX10_note 83 = .ok (.aload_n 0, 1) := by decide +kernel
theorem dX10_note_84 : decode cX10_note 84 = .ok (.dup, 1) := by decide +kernel
theorem dX10_note_85 : decode cX10_note 85 = .ok (.getfield 141, 3) := by decide +kernel
theorem dX10_note_88 : decode cX10_note 88 = .ok (.iconst 1, 1) := by decide +kernel
theorem dX10_note_89 : decode cX10_note 89 = .ok (.iadd, 1) := by decide +kernel
theorem dX10_note_90 : decode cX10_note 90 = .ok (.putfield 141, 3) := by decide +kernel
theorem dX10_note_93 : decode cX10_note 93 = .ok (.return_, 1) := by decide +kernel
theorem dX10_toss_0 : decode cX10_toss 0 = .ok (.aload_n 0, 1) := by decide +kernel
theorem dX10_toss_1 : decode cX10_toss 1 = .ok (.iconst 0, 1) := by decide +kernel
theorem dX10_toss_2 : decode cX10_toss 2 = .ok (.putfield 71, 3) := by decide +kernel
theorem dX10_toss_5 : decode cX10_toss 5 = .ok (.aload_n 0, 1) := by decide +kernel
theorem dX10_toss_6 : decode cX10_toss 6 = .ok (.iload_n 1, 1) := by decide +kernel
theorem dX10_toss_7 : decode cX10_toss 7 = .ok (.iload_n 2, 1) := by decide +kernel
theorem dX10_toss_8 : decode cX10_toss 8 = .ok (.iload_n 3, 1) := by decide +kernel
theorem dX10_toss_9 : decode cX10_toss 9 = .ok (.invokevirtual 188, 3) := by decide +kernel
theorem dX10_toss_12 : decode cX10_toss 12 = .ok (.istore 4, 2) := by decide +kernel
theorem dX10_toss_14 : decode cX10_toss 14 = .ok (.iload 4, 2) := by decide +kernel
theorem dX10_toss_16 : decode cX10_toss 16 = .ok (.ifCond .eq 6, 3) := by decide +kernel
theorem dX10_toss_19 : decode cX10_toss 19 = .ok (.iload 4, 2) := by decide +kernel
theorem dX10_toss_21 : decode cX10_toss 21 = .ok (.ireturn, 1) := by decide +kernel
theorem dX10_toss_22 : decode cX10_toss 22 = .ok (.aload_n 0, 1) := by decide +kernel
theorem dX10_toss_23 : decode cX10_toss 23 = .ok (.getfield 31, 3) := by decide +kernel
theorem dX10_toss_26 : decode cX10_toss 26 = .ok (.bipush 14, 2) := by decide +kernel
theorem dX10_toss_28 : decode cX10_toss 28 = .ok (.iaload, 1) := by decide +kernel
theorem dX10_toss_29 : decode cX10_toss 29 = .ok (.ifCond .ne 6, 3) := by decide +kernel
theorem dX10_toss_32 : decode cX10_toss 32 = .ok (.bipush (-3), 2) := by decide +kernel
theorem dX10_toss_34 : decode cX10_toss 34 = .ok (.ireturn, 1) := by decide +kernel
theorem dX10_toss_35 : decode cX10_toss 35 = .ok (.aload_n 0, 1) := by decide +kernel
theorem dX10_toss_36 : decode cX10_toss 36 = .ok (.invokevirtual 192, 3) := by decide +kernel
theorem dX10_toss_39 : decode cX10_toss 39 = .ok (.aload_n 0, 1) := by decide +kernel
theorem dX10_toss_40 : decode cX10_toss 40 = .ok (.getfield 31, 3) := by decide +kernel
theorem dX10_toss_43 : decode cX10_toss 43 = .ok (.bipush 14, 2) := by decide +kernel
theorem dX10_toss_45 : decode cX10_toss 45 = .ok (.dup2, 1) := by decide +kernel
theorem dX10_toss_46 : decode cX10_toss 46 = .ok (.iaload, 1) := by decide +kernel
theorem dX10_toss_47 : decode cX10_toss 47 = .ok (.iconst 1, 1) := by decide +kernel
theorem dX10_toss_48 : decode cX10_toss 48 = .ok (.isub, 1) := by decide +kernel
theorem dX10_toss_49 : decode cX10_toss 49 = .ok (.iastore, 1) := by decide +kernel
theorem dX10_toss_50 : decode cX10_toss 50 = .ok (.aload_n 0, 1) := by decide +kernel
theorem dX10_toss_51 : decode cX10_toss 51 = .ok (.aload_n 0, 1) := by decide +kernel
theorem dX10_toss_52 : decode cX10_toss 52 = .ok (.getfield 31, 3) := by decide +kernel
theorem dX10_toss_55 : decode cX10_toss 55 = .ok (.iload_n 1, 1) := by decide +kernel
theorem dX10_toss_56 : decode cX10_toss 56 = .ok (.iload_n 2, 1) := by decide +kernel
theorem dX10_toss_57 : decode cX10_toss 57 = .ok (.iload_n 3, 1) := by decide +kernel
theorem dX10_toss_58 : decode cX10_toss 58 = .ok (.invokevirtual 195, 3) := by decide +kernel
theorem dX10_toss_61 : decode cX10_toss 61 = .ok (.aload_n 0, 1) := by decide +kernel
theorem dX10_toss_62 : decode cX10_toss 62 = .ok (.getfield 152, 3) := by decide +kernel
theorem dX10_toss_65 : decode cX10_toss 65 = .ok (.ireturn, 1) := by decide +kernel
theorem dX10_set_0 : decode cX10_set 0 = .ok (.aload_n 0, 1) := by decide +kernel
theorem dX10_set_1 : decode cX10_set 1 = .ok (.iconst 0, 1) := by decide +kernel
theorem dX10_set_2 : decode cX10_set 2 = .ok (.putfield 71, 3) := by decide +kernel
theorem dX10_set_5 : decode cX10_set 5 = .ok (.aload_n 0, 1) := by decide +kernel
theorem dX10_set_6 : decode cX10_set 6 = .ok (.iload_n 1, 1) := by decide +kernel
theorem dX10_set_7 : decode cX10_set 7 = .ok (.invokevirtual 179, 3) := by decide +kernel
theorem dX10_set_10 : decode cX10_set 10 = .ok (.ifCond .eq 5, 3) := by decide +kernel
theorem dX10_set_13 : decode cX10_set 13 = .ok (.iconst (-1), 1) := by decide +kernel
theorem dX10_set_14 : decode cX10_set 14 = .ok (.ireturn, 1) := by decide +kernel
theorem dX10_set_15 : decode cX10_set 15 = .ok (.aload_n 0, 1) := by decide +kernel
theorem dX10_set_16 : decode cX10_set 16 = .ok (.getfield 31, 3) := by decide +kernel
theorem dX10_set_19 : decode cX10_set 19 = .ok (.bipush 12, 2) := by decide +kernel
theorem dX10_set_21 : decode cX10_set 21 = .ok (.iaload, 1) := by decide +kernel
theorem dX10_set_22 : decode cX10_set 22 = .ok (.iload_n 1, 1) := by decide +kernel
theorem dX10_set_23 : decode cX10_set 23 = .ok (.invokestatic 144, 3) := by decide +kernel
theorem dX10_set_26 : decode cX10_set 26 = .ok (.ifCond .ne 6, 3) := by decide +kernel
theorem dX10_set_29 : decode cX10_set 29 = .ok (.bipush (-3), 2) := by decide +kernel
theorem dX10_set_31 : decode cX10_set 31 = .ok (.ireturn, 1) := by decide +kernel
theorem dX10_set_32 : decode cX10_set 32 = .ok (.aload_n 0, 1) := by decide +kernel
theorem dX10_set_33 : decode cX10_set 33 = .ok (.invokevirtual 192, 3) := by decide +kernel
theorem dX10_set_36 : decode cX10_set 36 = .ok (.aload_n 0, 1) := by decide +kernel
theorem dX10_set_37 : decode cX10_set 37 = .ok (.getfield 31, 3) := by decide +kernel
theorem dX10_set_40 : decode cX10_set 40 = .ok (.iload_n 1, 1) := by decide +kernel
theorem dX10_set_41 : decode cX10_set 41 = .ok (.invokestatic 155, 3) := by decide +kernel
theorem dX10_set_44 : decode cX10_set 44 = .ok (.aload_n 0, 1) := by decide +kernel
theorem dX10_set_45 : decode cX10_set 45 = .ok (.aload_n 0, 1) := by decide +kernel
theorem dX10_set_46 : decode cX10_set 46 = .ok (.getfield 31, 3) := by decide +kernel
theorem dX10_set_49 : decode cX10_set 49 = .ok (.iload_n 1, 1) := by decide +kernel
theorem dX10_set_50 : decode cX10_set 50 = .ok (.invokevirtual 170, 3) := by decide +kernel
theorem dX10_set_53 : decode cX10_set 53 = .ok (.ireturn, 1) := by decide +kernel
theorem dX10_nail_0 : decode cX10_nail 0 = .ok (.aload_n 0, 1) := by decide +kernel
theorem dX10_nail_1 : decode cX10_nail 1 = .ok (.iconst 0, 1) := by decide +kernel
theorem dX10_nail_2 : decode cX10_nail 2 = .ok (.putfield 71, 3) := by decide +kernel
theorem dX10_nail_5 : decode cX10_nail 5 = .ok (.aload_n 0, 1) := by decide +kernel
theorem dX10_nail_6 : decode cX10_nail 6 = .ok (.iload_n 1, 1) := by decide +kernel
theorem dX10_nail_7 : decode cX10_nail 7 = .ok (.invokevirtual 179, 3) := by decide +kernel
theorem dX10_nail_10 : decode cX10_nail 10 = .ok (.ifCond .eq 5, 3) := by decide +kernel
theorem dX10_nail_13 : decode cX10_nail 13 = .ok (.iconst (-1), 1) := by decide +kernel
theorem dX10_nail_14 : decode cX10_nail 14 = .ok (.ireturn, 1) := by decide +kernel
theorem dX10_nail_15 : decode cX10_nail 15 = .ok (.aload_n 0, 1) := by decide +kernel
theorem dX10_nail_16 : decode cX10_nail 16 = .ok (.getfield 31, 3) := by decide +kernel
theorem dX10_nail_19 : decode cX10_nail 19 = .ok (.bipush 12, 2) := by decide +kernel
theorem dX10_nail_21 : decode cX10_nail 21 = .ok (.iaload, 1) := by decide +kernel
theorem dX10_nail_22 : decode cX10_nail 22 = .ok (.iload_n 1, 1) := by decide +kernel
theorem dX10_nail_23 : decode cX10_nail 23 = .ok (.invokestatic 144, 3) := by decide +kernel
theorem dX10_nail_26 : decode cX10_nail 26 = .ok (.ifCond .eq 6, 3) := by decide +kernel
theorem dX10_nail_29 : decode cX10_nail 29 = .ok (.bipush (-3), 2) := by decide +kernel
theorem dX10_nail_31 : decode cX10_nail 31 = .ok (.ireturn, 1) := by decide +kernel
theorem dX10_nail_32 : decode cX10_nail 32 = .ok (.aload_n 0, 1) := by decide +kernel
theorem dX10_nail_33 : decode cX10_nail 33 = .ok (.invokevirtual 192, 3) := by decide +kernel
theorem dX10_nail_36 : decode cX10_nail 36 = .ok (.aload_n 0, 1) := by decide +kernel
theorem dX10_nail_37 : decode cX10_nail 37 = .ok (.getfield 31, 3) := by decide +kernel
theorem dX10_nail_40 : decode cX10_nail 40 = .ok (.bipush 11, 2) := by decide +kernel
theorem dX10_nail_42 : decode cX10_nail 42 = .ok (.dup2, 1) := by decide +kernel
theorem dX10_nail_43 : decode cX10_nail 43 = .ok (.iaload, 1) := by decide +kernel
theorem dX10_nail_44 : decode cX10_nail 44 = .ok (.iconst 1, 1) := by decide +kernel
theorem dX10_nail_45 : decode cX10_nail 45 = .ok (.iload_n 1, 1) := by decide +kernel
theorem dX10_nail_46 : decode cX10_nail 46 = .ok (.ishl, 1) := by decide +kernel
theorem dX10_nail_47 : decode cX10_nail 47 = .ok (.ixor, 1) := by decide +kernel
theorem dX10_nail_48 : decode cX10_nail 48 = .ok (.iastore, 1) := by decide +kernel
theorem dX10_nail_49 : decode cX10_nail 49 = .ok (.aload_n 0, 1) := by decide +kernel
theorem dX10_nail_50 : decode cX10_nail 50 = .ok (.aload_n 0, 1) := by decide +kernel
theorem dX10_nail_51 : decode cX10_nail 51 = .ok (.getfield 31, 3) := by decide +kernel
theorem dX10_nail_54 : decode cX10_nail 54 = .ok (.iload_n 1, 1) := by decide +kernel
theorem dX10_nail_55 : decode cX10_nail 55 = .ok (.invokevirtual 170, 3) := by decide +kernel
theorem dX10_nail_58 : decode cX10_nail 58 = .ok (.ireturn, 1) := by decide +kernel
theorem dX10_paidMore_0 : decode cX10_paidMore 0 = .ok (.iload_n 0, 1) := by decide +kernel
theorem dX10_paidMore_1 : decode cX10_paidMore 1 = .ok (.iconst 3, 1) := by decide +kernel
theorem dX10_paidMore_2 : decode cX10_paidMore 2 = .ok (.iadd, 1) := by decide +kernel
theorem dX10_paidMore_3 : decode cX10_paidMore 3 = .ok (.bipush 9, 2) := by decide +kernel
theorem dX10_paidMore_5 : decode cX10_paidMore 5 = .ok (.if_icmp .le 8, 3) := by decide +kernel
theorem dX10_paidMore_8 : decode cX10_paidMore 8 = .ok (.bipush 9, 2) := by decide +kernel
theorem dX10_paidMore_10 : decode cX10_paidMore 10 = .ok (.goto 6, 3) := by decide +kernel
theorem dX10_paidMore_13 : decode cX10_paidMore 13 = .ok (.iload_n 0, 1) := by decide +kernel
theorem dX10_paidMore_14 : decode cX10_paidMore 14 = .ok (.iconst 3, 1) := by decide +kernel
theorem dX10_paidMore_15 : decode cX10_paidMore 15 = .ok (.iadd, 1) := by decide +kernel
theorem dX10_paidMore_16 : decode cX10_paidMore 16 = .ok (.ireturn, 1) := by decide +kernel
theorem dX10_pay_0 : decode cX10_pay 0 = .ok (.aload_n 0, 1) := by decide +kernel
theorem dX10_pay_1 : decode cX10_pay 1 = .ok (.iconst 0, 1) := by decide +kernel
theorem dX10_pay_2 : decode cX10_pay 2 = .ok (.putfield 71, 3) := by decide +kernel
theorem dX10_pay_5 : decode cX10_pay 5 = .ok (.aload_n 0, 1) := by decide +kernel
theorem dX10_pay_6 : decode cX10_pay 6 = .ok (.getfield 31, 3) := by decide +kernel
theorem dX10_pay_9 : decode cX10_pay 9 = .ok (.bipush 14, 2) := by decide +kernel
theorem dX10_pay_11 : decode cX10_pay 11 = .ok (.iaload, 1) := by decide +kernel
theorem dX10_pay_12 : decode cX10_pay 12 = .ok (.bipush 9, 2) := by decide +kernel
theorem dX10_pay_14 : decode cX10_pay 14 = .ok (.if_icmp .ne 6, 3) := by decide +kernel
theorem dX10_pay_17 : decode cX10_pay 17 = .ok (.bipush (-3), 2) := by decide +kernel
theorem dX10_pay_19 : decode cX10_pay 19 = .ok (.ireturn, 1) := by decide +kernel
theorem dX10_pay_20 : decode cX10_pay 20 = .ok (.aload_n 0, 1) := by decide +kernel
theorem dX10_pay_21 : decode cX10_pay 21 = .ok (.invokevirtual 192, 3) := by decide +kernel
theorem dX10_pay_24 : decode cX10_pay 24 = .ok (.aload_n 0, 1) := by decide +kernel
theorem dX10_pay_25 : decode cX10_pay 25 = .ok (.getfield 31, 3) := by decide +kernel
theorem dX10_pay_28 : decode cX10_pay 28 = .ok (.bipush 14, 2) := by decide +kernel
theorem dX10_pay_30 : decode cX10_pay 30 = .ok (.aload_n 0, 1) := by decide +kernel
theorem dX10_pay_31 : decode cX10_pay 31 = .ok (.getfield 31, 3) := by decide +kernel
theorem dX10_pay_34 : decode cX10_pay 34 = .ok (.bipush 14, 2) := by decide +kernel
theorem dX10_pay_36 : decode cX10_pay 36 = .ok (.iaload, 1) := by decide +kernel
theorem dX10_pay_37 : decode cX10_pay 37 = .ok (.invokestatic 199, 3) := by decide +kernel
theorem dX10_pay_40 : decode cX10_pay 40 = .ok (.iastore, 1) := by decide +kernel
theorem dX10_pay_41 : decode cX10_pay 41 = .ok (.aload_n 0, 1) := by decide +kernel
theorem dX10_pay_42 : decode cX10_pay 42 = .ok (.getfield 31, 3) := by decide +kernel
theorem dX10_pay_45 : decode cX10_pay 45 = .ok (.bipush 14, 2) := by decide +kernel
theorem dX10_pay_47 : decode cX10_pay 47 = .ok (.iaload, 1) := by decide +kernel
theorem dX10_pay_48 : decode cX10_pay 48 = .ok (.ireturn, 1) := by decide +kernel
theorem dX10_blow_0 : decode cX10_blow 0 = .ok (.aload_n 0, 1) := by decide +kernel
theorem dX10_blow_1 : decode cX10_blow 1 = .ok (.iconst 0, 1) := by decide +kernel
theorem dX10_blow_2 : decode cX10_blow 2 = .ok (.putfield 71, 3) := by decide +kernel
theorem dX10_blow_5 : decode cX10_blow 5 = .ok (.iload_n 1, 1) := by decide +kernel
theorem dX10_blow_6 : decode cX10_blow 6 = .ok (.i2l, 1) := by decide +kernel
theorem dX10_blow_7 : decode cX10_blow 7 = .ok (.lconst 0, 1) := by decide +kernel
theorem dX10_blow_8 : decode cX10_blow 8 = .ok (.ldc2_w 186, 3) := by decide +kernel
theorem dX10_blow_11 : decode cX10_blow 11 = .ok (.invokestatic 78, 3) := by decide +kernel
theorem dX10_blow_14 : decode cX10_blow 14 = .ok (.ifCond .ne 6, 3) := by decide +kernel
theorem dX10_blow_17 : decode cX10_blow 17 = .ok (.bipush (-2), 2) := by decide +kernel
theorem dX10_blow_19 : decode cX10_blow 19 = .ok (.ireturn, 1) := by decide +kernel
theorem dX10_blow_20 : decode cX10_blow 20 = .ok (.aload_n 0, 1) := by decide +kernel
theorem dX10_blow_21 : decode cX10_blow 21 = .ok (.getfield 31, 3) := by decide +kernel
theorem dX10_blow_24 : decode cX10_blow 24 = .ok (.bipush 13, 2) := by decide +kernel
theorem dX10_blow_26 : decode cX10_blow 26 = .ok (.iaload, 1) := by decide +kernel
theorem dX10_blow_27 : decode cX10_blow 27 = .ok (.istore_n 2, 1) := by decide +kernel
theorem dX10_blow_28 : decode cX10_blow 28 = .ok (.iload_n 2, 1) := by decide +kernel
theorem dX10_blow_29 : decode cX10_blow 29 = .ok (.iload_n 1, 1) := by decide +kernel
theorem dX10_blow_30 : decode cX10_blow 30 = .ok (.if_icmp .ne 6, 3) := by decide +kernel
theorem dX10_blow_33 : decode cX10_blow 33 = .ok (.bipush (-3), 2) := by decide +kernel
theorem dX10_blow_35 : decode cX10_blow 35 = .ok (.ireturn, 1) := by decide +kernel
theorem dX10_blow_36 : decode cX10_blow 36 = .ok (.aload_n 0, 1) := by decide +kernel
theorem dX10_blow_37 : decode cX10_blow 37 = .ok (.invokevirtual 192, 3) := by decide +kernel
theorem dX10_blow_40 : decode cX10_blow 40 = .ok (.aload_n 0, 1) := by decide +kernel
theorem dX10_blow_41 : decode cX10_blow 41 = .ok (.getfield 31, 3) := by decide +kernel
theorem dX10_blow_44 : decode cX10_blow 44 = .ok (.bipush 13, 2) := by decide +kernel

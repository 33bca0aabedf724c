theorem ggX7_rename_X7_in : GoodIn wsX7_rename wsX7_in := goodIn_mem (fun _ h => List.mem_cons_of_mem _ (List.mem_append_left _ (List.mem_append_right _ h))) ok_wsX7_in
set_option maxRecDepth 20000 in
theorem gX7_rename_X7_in : GoodIn wsX7_rename (va_wsS RX7 110 yX7_in wsX7_in) := goodIn_app (goodIn_of _ (by decide +kernel)) ggX7_rename_X7_in
theorem dX7_rename_0 : decode cX7_rename 0 = .ok (.iload_n 1, 1) := by decide +kernel
theorem dX7_rename_1 : decode cX7_rename 1 = .ok (.iconst 0, 1) := by decide +kernel
theorem dX7_rename_2 : decode cX7_rename 2 = .ok (.iconst 3, 1) := by decide +kernel
theorem dX7_rename_3 : decode cX7_rename 3 = .ok (.invokestatic 110, 3) := by decide +kernel
theorem dX7_rename_6 : decode cX7_rename 6 = .ok (.ifCond .eq 12, 3) := by decide +kernel
theorem dX7_rename_9 : decode cX7_rename 9 = .ok (.iload_n 2, 1) := by decide +kernel
theorem dX7_rename_10 : decode cX7_rename 10 = .ok (.iconst 0, 1) := by decide +kernel
theorem dX7_rename_11 : decode cX7_rename 11 = .ok (.iconst 3, 1) := by decide +kernel
theorem dX7_rename_12 : decode cX7_rename 12 = .ok (.invokestatic 110, 3) := by decide +kernel
theorem dX7_rename_15 : decode cX7_rename 15 = .ok (.ifCond .ne 6, 3) := by decide +kernel
theorem dX7_rename_18 : decode cX7_rename 18 = .ok (.bipush (-101), 2) := by decide +kernel
theorem dX7_rename_20 : decode cX7_rename 20 = .ok (.ireturn, 1) := by decide +kernel
theorem dX7_rename_21 : decode cX7_rename 21 = .ok (.aload_n 0, 1) := by decide +kernel
theorem dX7_rename_22 : decode cX7_rename 22 = .ok (.getfield 28, 3) := by decide +kernel
theorem dX7_rename_25 : decode cX7_rename 25 = .ok (.iload_n 1, 1) := by decide +kernel
theorem dX7_rename_26 : decode cX7_rename 26 = .ok (.iaload, 1) := by decide +kernel
theorem dX7_rename_27 : decode cX7_rename 27 = .ok (.istore_n 3, 1) := by decide +kernel
theorem dX7_rename_28 : decode cX7_rename 28 = .ok (.iconst 0, 1) := by decide +kernel
theorem dX7_rename_29 : decode cX7_rename 29 = .ok (.istore 4, 2) := by decide +kernel
theorem dX7_rename_31 : decode cX7_rename 31 = .ok (.iload 4, 2) := by decide +kernel
theorem dX7_rename_33 : decode cX7_rename 33 = .ok (.iconst 4, 1) := by decide +kernel
theorem dX7_rename_34 : decode cX7_rename 34 = .ok (.if_icmp .ge 28, 3) := by decide +kernel
theorem dX7_rename_37 : decode cX7_rename 37 = .ok (.aload_n 0, 1) := by decide +kernel
theorem dX7_rename_38 : decode cX7_rename 38 = .ok (.getfield 28, 3) := by decide +kernel
theorem dX7_rename_41 : decode cX7_rename 41 = .ok (.iload 4, 2) := by decide +kernel
theorem dX7_rename_43 : decode cX7_rename 43 = .ok (.iaload, 1) := by decide +kernel
theorem dX7_rename_44 : decode cX7_rename 44 = .ok (.iload_n 2, 1) := by decide +kernel
theorem dX7_rename_45 : decode cX7_rename 45 = .ok (.if_icmp .ne 11, 3) := by decide +kernel
theorem dX7_rename_48 : decode cX7_rename 48 = .ok (.aload_n 0, 1) := by decide +kernel
theorem dX7_rename_49 : decode cX7_rename 49 = .ok (.getfield 28, 3) := by decide +kernel
theorem dX7_rename_52 : decode cX7_rename 52 = .ok (.iload 4, 2) := by decide +kernel
theorem dX7_rename_54 : decode cX7_rename 54 = .ok (.iload_n 3, 1) := by decide +kernel
theorem dX7_rename_55 : decode cX7_rename 55 = .ok (.iastore, 1) := by decide +kernel
theorem dX7_rename_56 : decode cX7_rename 56 = .ok (.iinc 4 1, 3) := by decide +kernel
theorem dX7_rename_59 : decode cX7_rename 59 = .ok (.goto (-28), 3) := by decide +kernel
theorem dX7_rename_62 : decode cX7_rename 62 = .ok (.aload_n 0, 1) := by decide +kernel
theorem dX7_rename_63 : decode cX7_rename 63 = .ok (.getfield 28, 3) := by decide +kernel
theorem dX7_rename_66 : decode cX7_rename 66 = .ok (.iload_n 1, 1) := by decide +kernel
theorem dX7_rename_67 : decode cX7_rename 67 = .ok (.iload_n 2, 1) := by decide +kernel
theorem dX7_rename_68 : decode cX7_rename 68 = .ok (.iastore, 1) := by decide +kernel
theorem dX7_rename_69 : decode cX7_rename 69 = .ok (.iload_n 3, 1) := by decide +kernel
theorem dX7_rename_70 : decode cX7_rename 70 = .ok (.ireturn, 1) := by decide +kernel
theorem ggX7_group_X7_in : GoodIn wsX7_group wsX7_in := goodIn_mem (fun _ h => List.mem_cons_of_mem _ (List.mem_append_left _ (List.mem_append_right _ h))) ok_wsX7_in
set_option maxRecDepth 20000 in
theorem gX7_group_X7_in : GoodIn wsX7_group (va_wsS RX7 110 yX7_in wsX7_in) := goodIn_app (goodIn_of _ (by decide +kernel)) ggX7_group_X7_in
theorem dX7_group_0 : decode cX7_group 0 = .ok (.iload_n 1, 1) := by decide +kernel
theorem dX7_group_1 : decode cX7_group 1 = .ok (.iconst 0, 1) := by decide +kernel
theorem dX7_group_2 : decode cX7_group 2 = .ok (.iconst 3, 1) := by decide +kernel
theorem dX7_group_3 : decode cX7_group 3 = .ok (.invokestatic 110, 3) := by decide +kernel
theorem dX7_group_6 : decode cX7_group 6 = .ok (.ifCond .ne 6, 3) := by decide +kernel
theorem dX7_group_9 : decode cX7_group 9 = .ok (.bipush (-101), 2) := by decide +kernel
theorem dX7_group_11 : decode cX7_group 11 = .ok (.ireturn, 1) := by decide +kernel
theorem dX7_group_12 : decode cX7_group 12 = .ok (.iload_n 2, 1) := by decide +kernel
theorem dX7_group_13 : decode cX7_group 13 = .ok (.iconst 0, 1) := by decide +kernel
theorem dX7_group_14 : decode cX7_group 14 = .ok (.iconst 3, 1) := by decide +kernel
theorem dX7_group_15 : decode cX7_group 15 = .ok (.invokestatic 110, 3) := by decide +kernel
theorem dX7_group_18 : decode cX7_group 18 = .ok (.ifCond .ne 6, 3) := by decide +kernel
theorem dX7_group_21 : decode cX7_group 21 = .ok (.bipush (-102), 2) := by decide +kernel
theorem dX7_group_23 : decode cX7_group 23 = .ok (.ireturn, 1) := by decide +kernel
theorem dX7_group_24 : decode cX7_group 24 = .ok (.aload_n 0, 1) := by decide +kernel
theorem dX7_group_25 : decode cX7_group 25 = .ok (.getfield 31, 3) := by decide +kernel
theorem dX7_group_28 : decode cX7_group 28 = .ok (.iload_n 1, 1) := by decide +kernel
theorem dX7_group_29 : decode cX7_group 29 = .ok (.iaload, 1) := by decide +kernel
theorem dX7_group_30 : decode cX7_group 30 = .ok (.istore_n 3, 1) := by decide +kernel
theorem dX7_group_31 : decode cX7_group 31 = .ok (.aload_n 0, 1) := by decide +kernel
theorem dX7_group_32 : decode cX7_group 32 = .ok (.getfield 31, 3) := by decide +kernel
theorem dX7_group_35 : decode cX7_group 35 = .ok (.iload_n 1, 1) := by decide +kernel
theorem dX7_group_36 : decode cX7_group 36 = .ok (.iload_n 2, 1) := by decide +kernel
theorem dX7_group_37 : decode cX7_group 37 = .ok (.iastore, 1) := by decide +kernel
theorem dX7_group_38 : decode cX7_group 38 = .ok (.iload_n 3, 1) := by decide +kernel
theorem dX7_group_39 : decode cX7_group 39 = .ok (.ireturn, 1) := by decide +kernel
theorem dX7_portOf_0 : decode cX7_portOf 0 = .ok (.iload_n 1, 1) := by decide +kernel
theorem dX7_portOf_1 : decode cX7_portOf 1 = .ok (.bipush 80, 2) := by decide +kernel
theorem dX7_portOf_3 : decode cX7_portOf 3 = .ok (.if_icmp .ge 10, 3) := by decide +kernel
theorem dX7_portOf_6 : decode cX7_portOf 6 = .ok (.aload_n 0, 1) := by decide +kernel
theorem dX7_portOf_7 : decode cX7_portOf 7 = .ok (.getfield 70, 3) := by decide +kernel
theorem dX7_portOf_10 : decode cX7_portOf 10 = .ok (.iload_n 1, 1) := by decide +kernel
theorem dX7_portOf_11 : decode cX7_portOf 11 = .ok (.iaload, 1) := by decide +kernel
theorem dX7_portOf_12 : decode cX7_portOf 12 = .ok (.ireturn, 1) := by decide +kernel
theorem dX7_portOf_13 : decode cX7_portOf 13 = .ok (.iconst 0, 1) := by decide +kernel
theorem dX7_portOf_14 : decode cX7_portOf 14 = .ok (.istore_n 2, 1) := by decide +kernel
theorem dX7_portOf_15 : decode cX7_portOf 15 = .ok (.aload_n 0, 1) := by decide +kernel
theorem dX7_portOf_16 : decode cX7_portOf 16 = .ok (.getfield 28, 3) := by decide +kernel
theorem dX7_portOf_19 : decode cX7_portOf 19 = .ok (.iload_n 2, 1) := by decide +kernel
theorem dX7_portOf_20 : decode cX7_portOf 20 = .ok (.iaload, 1) := by decide +kernel
theorem dX7_portOf_21 : decode cX7_portOf 21 = .ok (.aload_n 0, 1) := by decide +kernel
theorem dX7_portOf_22 : decode cX7_portOf 22 = .ok (.getfield 70, 3) := by decide +kernel
theorem dX7_portOf_25 : decode cX7_portOf 25 = .ok (.iload_n 1, 1) := by decide +kernel
theorem dX7_portOf_26 : decode cX7_portOf 26 = .ok (.iaload, 1) := by decide +kernel
theorem dX7_portOf_27 : decode cX7_portOf 27 = .ok (.if_icmp .eq 9, 3) := by decide +kernel
theorem dX7_portOf_30 : decode cX7_portOf 30 = .ok (.iinc 2 1, 3) := by decide +kernel
theorem dX7_portOf_33 : decode cX7_portOf 33 = .ok (.goto (-18), 3) := by decide +kernel
theorem dX7_portOf_36 : decode cX7_portOf 36 = .ok (.iload_n 2, 1) := by decide +kernel
theorem dX7_portOf_37 : decode cX7_portOf 37 = .ok (.ireturn, 1) := by decide +kernel
theorem ggX7_next_X7_portOf : GoodIn wsX7_next wsX7_portOf := goodIn_mem (fun _ h => List.mem_cons_of_mem _ (List.mem_append_left _ (List.mem_append_right _ h))) ok_wsX7_portOf
set_option maxRecDepth 20000 in
theorem gX7_next_X7_portOf : GoodIn wsX7_next (wsV RX7 175 RX7 yX7_portOf wsX7_portOf) := goodIn_app (goodIn_of _ (by decide +kernel)) ggX7_next_X7_portOf
theorem dX7_next_0 : decode cX7_next 0 = .ok (.iload_n 2, 1) := by decide +kernel
theorem dX7_next_1 : decode cX7_next 1 = .ok (.istore 5, 2) := by decide +kernel
theorem dX7_next_3 : decode cX7_next 3 = .ok (.iload 5, 2) := by decide +kernel
theorem dX7_next_5 : decode cX7_next 5 = .ok (.aload_n 0, 1) := by decide +kernel
theorem dX7_next_6 : decode cX7_next 6 = .ok (.getfield 67, 3) := by decide +kernel
theorem dX7_next_9 : decode cX7_next 9 = .ok (.iload_n 1, 1) := by decide +kernel
theorem dX7_next_10 : decode cX7_next 10 = .ok (.iaload, 1) := by decide +kernel
theorem dX7_next_11 : decode cX7_next 11 = .ok (.if_icmp .ge 46, 3) := by decide +kernel
theorem dX7_next_14 : decode cX7_next 14 = .ok (.aload_n 0, 1) := by decide +kernel
theorem dX7_next_15 : decode cX7_next 15 = .ok (.getfield 76, 3) := by decide +kernel
theorem dX7_next_18 : decode cX7_next 18 = .ok (.bipush 40, 2) := by decide +kernel
theorem dX7_next_20 : decode cX7_next 20 = .ok (.iload_n 1, 1) := by decide +kernel
theorem dX7_next_21 : decode cX7_next 21 = .ok (.imul, 1) := by decide +kernel
theorem dX7_next_22 : decode cX7_next 22 = .ok (.iload 5, 2) := by decide +kernel
theorem dX7_next_24 : decode cX7_next 24 = .ok (.iadd, 1) := by decide +kernel
theorem dX7_next_25 : decode cX7_next 25 = .ok (.iaload, 1) := by decide +kernel
theorem dX7_next_26 : decode cX7_next 26 = .ok (.iload 4, 2) := by decide +kernel
theorem dX7_next_28 : decode cX7_next 28 = .ok (.if_icmp .ne 23, 3) := by decide +kernel
theorem dX7_next_31 : decode cX7_next 31 = .ok (.aload_n 0, 1) := by decide +kernel
theorem dX7_next_32 : decode cX7_next 32 = .ok (.getfield 31, 3) := by decide +kernel
theorem dX7_next_35 : decode cX7_next 35 = .ok (.aload_n 0, 1) := by decide +kernel
theorem dX7_next_36 : decode cX7_next 36 = .ok (.bipush 40, 2) := by decide +kernel
theorem dX7_next_38 : decode cX7_next 38 = .ok (.iload_n 1, 1) := by decide +kernel
theorem dX7_next_39 : decode cX7_next 39 = .ok (.imul, 1) := by decide +kernel
theorem dX7_next_40 : decode cX7_next 40 = .ok (.iload 5, 2) := by decide +kernel
theorem dX7_next_42 : decode cX7_next 42 = .ok (.iadd, 1) := by decide +kernel
theorem dX7_next_43 : decode cX7_next 43 = .ok (.invokevirtual 175, 3) := by decide +kernel
theorem dX7_next_46 : decode cX7_next 46 = .ok (.iaload, 1) := by decide +kernel
theorem dX7_next_47 : decode cX7_next 47 = .ok (.iload_n 3, 1) := by decide +kernel
theorem dX7_next_48 : decode cX7_next 48 = .ok (.if_icmp .eq 9, 3) := by decide +kernel
theorem dX7_next_51 : decode cX7_next 51 = .ok (.iinc 5 1, 3) := by decide +kernel
theorem dX7_next_54 : decode cX7_next 54 = .ok (.goto (-51), 3) := by decide +kernel
theorem dX7_next_57 : decode cX7_next 57 = .ok (.iload 5, 2) := by decide +kernel
theorem dX7_next_59 : decode cX7_next 59 = .ok (.ireturn, 1) := by decide +kernel
theorem ggX7_areTellsLike_X7_next : GoodIn wsX7_areTellsLike wsX7_next := goodIn_mem (fun _ h => List.mem_cons_of_mem _ (List.mem_append_left _ (List.mem_append_right _ (List.mem_append_left _ h)))) ok_wsX7_next
set_option maxRecDepth 20000 in
theorem gX7_areTellsLike_X7_next : GoodIn wsX7_areTellsLike (wsV RX7 179 RX7 yX7_next wsX7_next) := goodIn_app (goodIn_of _ (by decide +kernel)) ggX7_areTellsLike_X7_next
theorem ggX7_areTellsLike_X7_portOf : GoodIn wsX7_areTellsLike wsX7_portOf := goodIn_mem (fun _ h => List.mem_cons_of_mem _ (List.mem_append_left _ (List.mem_append_right _ (List.mem_append_right _ h)))) ok_wsX7_portOf
set_option maxRecDepth 20000 in
theorem gX7_areTellsLike_X7_portOf : GoodIn wsX7_areTellsLike (wsV RX7 175 RX7 yX7_portOf wsX7_portOf) := goodIn_app (goodIn_of _ (by decide +kernel)) ggX7_areTellsLike_X7_portOf
theorem dX7_areTellsLike_0 : decode cX7_areTellsLike 0 = .ok (.aload_n 0, 1) := by decide +kernel
theorem dX7_areTellsLike_1 : decode cX7_areTellsLike 1 = .ok (.iconst 1, 1) := by decide +kernel
theorem dX7_areTellsLike_2 : decode cX7_areTellsLike 2 = .ok (.iconst 0, 1) := by decide +kernel
theorem dX7_areTellsLike_3 : decode cX7_areTellsLike 3 = .ok (.iload_n 1, 1) := by decide +kernel
theorem dX7_areTellsLike_4 : decode cX7_areTellsLike 4 = .ok (.iload_n 2, 1) := by decide +kernel
theorem dX7_areTellsLike_5 : decode cX7_areTellsLike 5 = .ok (.invokevirtual 179, 3) := by decide +kernel
theorem dX7_areTellsLike_8 : decode cX7_areTellsLike 8 = .ok (.istore_n 3, 1) := by decide +kernel
theorem dX7_areTellsLike_9 : decode cX7_areTellsLike 9 = .ok (.aload_n 0, 1) := by decide +kernel
theorem dX7_areTellsLike_10 : decode cX7_areTellsLike 10 = .ok (.iconst 2, 1) := by decide +kernel
theorem dX7_areTellsLike_11 : decode cX7_areTellsLike 11 = .ok (.iconst 0, 1) := by decide +kernel
theorem dX7_areTellsLike_12 : decode cX7_areTellsLike 12 = .ok (.iload_n 1, 1) := by decide +kernel
theorem dX7_areTellsLike_13 : decode cX7_areTellsLike 13 = .ok (.iload_n 2, 1) := by decide +kernel
theorem dX7_areTellsLike_14 : decode cX7_areTellsLike 14 = .ok (.invokevirtual 179, 3) := by decide +kernel
theorem dX7_areTellsLike_17 : decode cX7_areTellsLike 17 = .ok (.istore 4, 2) := by decide +kernel
theorem dX7_areTellsLike_19 : decode cX7_areTellsLike 19 = .ok (.iload_n 3, 1) := by decide +kernel
theorem dX7_areTellsLike_20 : decode cX7_areTellsLike 20 = .ok (.aload_n 0, 1) := by decide +kernel
theorem dX7_areTellsLike_21 : decode cX7_areTellsLike 21 = .ok (.getfield 67, 3) := by decide +kernel
theorem dX7_areTellsLike_24 : decode cX7_areTellsLike 24 = .ok (.iconst 1, 1) := by decide +kernel
theorem dX7_areTellsLike_25 : decode cX7_areTellsLike 25 = .ok (.iaload, 1) := by decide +kernel
theorem dX7_areTellsLike_26 : decode cX7_areTellsLike 26 = .ok (.if_icmp .ge 85, 3) := by decide +kernel
theorem dX7_areTellsLike_29 : decode cX7_areTellsLike 29 = .ok (.iload 4, 2) := by decide +kernel
theorem dX7_areTellsLike_31 : decode cX7_areTellsLike 31 = .ok (.aload_n 0, 1) := by decide +kernel
theorem dX7_areTellsLike_32 : decode cX7_areTellsLike 32 = .ok (.getfield 67, 3) := by decide +kernel
theorem dX7_areTellsLike_35 : decode cX7_areTellsLike 35 = .ok (.iconst 2, 1) := by decide +kernel
theorem dX7_areTellsLike_36 : decode cX7_areTellsLike 36 = .ok (.iaload, 1) := by decide +kernel
theorem dX7_areTellsLike_37 : decode cX7_areTellsLike 37 = .ok (.if_icmp .ge 74, 3) := by decide +kernel
theorem dX7_areTellsLike_40 : decode cX7_areTellsLike 40 = .ok (.aload_n 0, 1) := by decide +kernel
theorem dX7_areTellsLike_41 : decode cX7_areTellsLike 41 = .ok (.bipush 40, 2) := by decide +kernel
theorem dX7_areTellsLike_43 : decode cX7_areTellsLike 43 = .ok (.iload_n 3, 1) := by decide +kernel
theorem dX7_areTellsLike_44 : decode cX7_areTellsLike 44 = .ok (.iadd, 1) := by decide +kernel
theorem dX7_areTellsLike_45 : decode cX7_areTellsLike 45 = .ok (.invokevirtual 175, 3) := by decide +kernel
theorem dX7_areTellsLike_48 : decode cX7_areTellsLike 48 = .ok (.aload_n 0, 1) := by decide +kernel
theorem dX7_areTellsLike_49 : decode cX7_areTellsLike 49 = .ok (.bipush 80, 2) := by decide +kernel
theorem dX7_areTellsLike_51 : decode cX7_areTellsLike 51 = .ok (.iload 4, 2) := by decide +kernel
theorem dX7_areTellsLike_53 : decode cX7_areTellsLike 53 = .ok (.iadd, 1) := by decide +kernel
theorem dX7_areTellsLike_54 : decode cX7_areTellsLike 54 = .ok (.invokevirtual 175, 3) := by decide +kernel
theorem dX7_areTellsLike_57 : decode cX7_areTellsLike 57 = .ok (.if_icmp .ne 25, 3) := by decide +kernel
theorem dX7_areTellsLike_60 : decode cX7_areTellsLike 60 = .ok (.aload_n 0, 1) := by decide +kernel
theorem dX7_areTellsLike_61 : decode cX7_areTellsLike 61 = .ok (.getfield 73, 3) := by decide +kernel
theorem dX7_areTellsLike_64 : decode cX7_areTellsLike 64 = .ok (.bipush 40, 2) := by decide +kernel
theorem dX7_areTellsLike_66 : decode cX7_areTellsLike 66 = .ok (.iload_n 3, 1) := by decide +kernel
theorem dX7_areTellsLike_67 : decode cX7_areTellsLike 67 = .ok (.iadd, 1) := by decide +kernel
theorem dX7_areTellsLike_68 : decode cX7_areTellsLike 68 = .ok (.iaload, 1) := by decide +kernel
theorem dX7_areTellsLike_69 : decode cX7_areTellsLike 69 = .ok (.aload_n 0, 1) := by decide +kernel
theorem dX7_areTellsLike_70 : decode cX7_areTellsLike 70 = .ok (.getfield 73, 3) := by decide +kernel
theorem dX7_areTellsLike_73 : decode cX7_areTellsLike 73 = .ok (.bipush 80, 2) := by decide +kernel
theorem dX7_areTellsLike_75 : decode cX7_areTellsLike 75 = .ok (.iload 4, 2) := by decide +kernel
theorem dX7_areTellsLike_77 : decode cX7_areTellsLike 77 = .ok (.iadd, 1) := by decide +kernel
theorem dX7_areTellsLike_78 : decode cX7_areTellsLike 78 = .ok (.iaload, 1) := by decide +kernel
theorem dX7_areTellsLike_79 : decode cX7_areTellsLike 79 = .ok (.if_icmp .eq 5, 3) := by decide +kernel
theorem dX7_areTellsLike_82 : decode cX7_areTellsLike 82 = .ok (.iconst 0, 1) := by decide +kernel
theorem dX7_areTellsLike_83 : decode cX7_areTellsLike 83 = .ok (.ireturn, 1) := by decide +kernel
theorem dX7_areTellsLike_84 : decode cX7_areTellsLike 84 = .ok (.aload_n 0, 1) := by decide +kernel
theorem dX7_areTellsLike_85 : decode cX7_areTellsLike 85 = .ok (.iconst 1, 1) := by decide +kernel
theorem dX7_areTellsLike_86 : decode cX7_areTellsLike 86 = .ok (.iload_n 3, 1) := by decide +kernel
theorem dX7_areTellsLike_87 : decode cX7_areTellsLike 87 = .ok (.iconst 1, 1) := by decide +kernel
theorem dX7_areTellsLike_88 : decode cX7_areTellsLike 88 = .ok (.iadd, 1) := by decide +kernel
theorem dX7_areTellsLike_89 : decode cX7_areTellsLike 89 = .ok (.iload_n 1, 1) := by decide +kernel
theorem dX7_areTellsLike_90 : decode cX7_areTellsLike 90 = .ok (.iload_n 2, 1) := by decide +kernel
theorem dX7_areTellsLike_91 : decode cX7_areTellsLike 91 = .ok (.invokevirtual 179, 3) := by decide +kernel
theorem dX7_areTellsLike_94 : decode cX7_areTellsLike 94 = .ok (.istore_n 3, 1) := by decide +kernel
theorem dX7_areTellsLike_95 : decode cX7_areTellsLike 95 = .ok (.aload_n 0, 1) := by decide +kernel
theorem dX7_areTellsLike_96 : decode cX7_areTellsLike 96 = .ok (.iconst 2, 1) := by decide +kernel
theorem dX7_areTellsLike_97 : decode cX7_areTellsLike 97 = .ok (.iload 4, 2) := by decide +kernel
theorem dX7_areTellsLike_99 : decode cX7_areTellsLike 99 = .ok (.iconst 1, 1) := by decide +kernel
theorem dX7_areTellsLike_100 : decode cX7_areTellsLike 100 = .ok (.iadd, 1) := by decide +kernel
theorem dX7_areTellsLike_101 : decode cX7_areTellsLike 101 = .ok (.iload_n 1, 1) := by decide +kernel
theorem dX7_areTellsLike_102 : decode cX7_areTellsLike 102 = .ok (.iload_n 2, 1) := by decide +kernel
theorem dX7_areTellsLike_103 : decode cX7_areTellsLike 103 = .ok (.invokevirtual 179, 3) := by decide +kernel
theorem dX7_areTellsLike_106 : decode cX7_areTellsLike 106 = .ok (.istore 4, 2) := by decide +kernel
theorem dX7_areTellsLike_108 : decode cX7_areTellsLike 108 = .ok (.goto (-89), 3) := by decide +kernel
theorem dX7_areTellsLike_111 : decode cX7_areTellsLike 111 = .ok (.iload_n 3, 1) := by decide +kernel
theorem dX7_areTellsLike_112 : decode cX7_areTellsLike 112 = .ok (.aload_n 0, 1) := by decide +kernel
theorem dX7_areTellsLike_113 : decode cX7_areTellsLike 113 = .ok (.getfield 67, 3) := by decide +kernel
theorem dX7_areTellsLike_116 : decode cX7_areTellsLike 116 = .ok (.iconst 1, 1) := by decide +kernel
theorem dX7_areTellsLike_117 : decode cX7_areTellsLike 117 = .ok (.iaload, 1) := by decide +kernel
theorem dX7_areTellsLike_118 : decode cX7_areTellsLike 118 = .ok (.if_icmp .lt 18, 3) := by decide +kernel
theorem dX7_areTellsLike_121 : decode cX7_areTellsLike 121 = .ok (.iload 4, 2) := by decide +kernel
theorem dX7_areTellsLike_123 : decode cX7_areTellsLike 123 = .ok (.aload_n 0, 1) := by decide +kernel
theorem dX7_areTellsLike_124 : decode cX7_areTellsLike 124 = .ok (.getfield 67, 3) := by decide +kernel
theorem dX7_areTellsLike_127 : decode cX7_areTellsLike 127 = .ok (.iconst 2, 1) := by decide +kernel
theorem dX7_areTellsLike_128 : decode cX7_areTellsLike 128 = .ok (.iaload, 1) := by decide +kernel
theorem dX7_areTellsLike_129 : decode cX7_areTellsLike 129 = .ok (.if_icmp .lt 7, 3) := by decide +kernel
theorem dX7_areTellsLike_132 : decode cX7_areTellsLike 132 = .ok (.iconst 1, 1) := by decide +kernel
theorem dX7_areTellsLike_133 : decode cX7_areTellsLike 133 = .ok (.goto 4, 3) := by decide +kernel
theorem dX7_areTellsLike_136 : decode cX7_areTellsLike 136 = .ok (.iconst 0, 1) := by decide +kernel
theorem dX7_areTellsLike_137 : decode cX7_areTellsLike 137 = .ok (.ireturn, 1) := by decide +kernel
theorem dX7_isPair_0 : decode cX7_isPair 0 = .ok (.iconst 0, 1) := by decide +kernel
theorem dX7_isPair_1 : decode cX7_isPair 1 = .ok (.istore_n 3, 1) := by decide +kernel
theorem dX7_isPair_2 : decode cX7_isPair 2 = .ok (.iconst 0, 1) := by decide +kernel
theorem dX7_isPair_3 : decode cX7_isPair 3 = .ok (.istore 4, 2) := by decide +kernel
theorem dX7_isPair_5 : decode cX7_isPair 5 = .ok (.iload 4, 2) := by decide +kernel
theorem dX7_isPair_7 : decode cX7_isPair 7 = .ok (.aload_n 0, 1) := by decide +kernel
theorem dX7_isPair_8 : decode cX7_isPair 8 = .ok (.getfield 183, 3) := by decide +kernel
theorem dX7_isPair_11 : decode cX7_isPair 11 = .ok (.if_icmp .ge 41, 3) := by decide +kernel
theorem dX7_isPair_14 : decode cX7_isPair 14 = .ok (.iload_n 3, 1) := by decide +kernel
theorem dX7_isPair_15 : decode cX7_isPair 15 = .ok (.ifCond .ne 25, 3) := by decide +kernel
theorem dX7_isPair_18 : decode cX7_isPair 18 = .ok (.aload_n 0, 1) := by decide +kernel
theorem dX7_isPair_19 : decode cX7_isPair 19 = .ok (.getfield 34, 3) := by decide +kernel
theorem dX7_isPair_22 : decode cX7_isPair 22 = .ok (.iload 4, 2) := by decide +kernel
theorem dX7_isPair_24 : decode cX7_isPair 24 = .ok (.iaload, 1) := by decide +kernel
theorem dX7_isPair_25 : decode cX7_isPair 25 = .ok (.iload_n 1, 1) := by decide +kernel
theorem dX7_isPair_26 : decode cX7_isPair 26 = .ok (.if_icmp .ne 18, 3) := by decide +kernel
theorem dX7_isPair_29 : decode cX7_isPair 29 = .ok (.aload_n 0, 1) := by decide +kernel
theorem dX7_isPair_30 : decode cX7_isPair 30 = .ok (.getfield 37, 3) := by decide +kernel
theorem dX7_isPair_33 : decode cX7_isPair 33 = .ok (.iload 4, 2) := by decide +kernel
theorem dX7_isPair_35 : decode cX7_isPair 35 = .ok (.iaload, 1) := by decide +kernel
theorem dX7_isPair_36 : decode cX7_isPair 36 = .ok (.iload_n 2, 1) := by decide +kernel
theorem dX7_isPair_37 : decode cX7_isPair 37 = .ok (.if_icmp .ne 7, 3) := by decide +kernel
theorem dX7_isPair_40 : decode cX7_isPair 40 = .ok (.iconst 1, 1) := by decide +kernel
theorem dX7_isPair_41 : decode cX7_isPair 41 = .ok (.goto 4, 3) := by decide +kernel
theorem dX7_isPair_44 : decode cX7_isPair 44 = .ok (.iconst 0, 1) := by decide +kernel
theorem dX7_isPair_45 : decode cX7_isPair 45 = .ok (.istore_n 3, 1) := by decide +kernel
theorem dX7_isPair_46 : decode cX7_isPair 46 = .ok (.iinc 4 1, 3) := by decide +kernel
theorem dX7_isPair_49 : decode cX7_isPair 49 = .ok (.goto (-44), 3) := by decide +kernel
theorem dX7_isPair_52 : decode cX7_isPair 52 = .ok (.iload_n 3, 1) := by decide +kernel
theorem dX7_isPair_53 : decode cX7_isPair 53 = .ok (.ireturn, 1) := by decide +kernel
theorem ggX7_areLike_X7_isPair : GoodIn wsX7_areLike wsX7_isPair := goodIn_mem (fun _ h => List.mem_cons_of_mem _ (List.mem_append_left _ (List.mem_append_right _ (List.mem_append_left _ h)))) ok_wsX7_isPair
set_option maxRecDepth 20000 in
theorem gX7_areLike_X7_isPair : GoodIn wsX7_areLike (wsV RX7 186 RX7 yX7_isPair wsX7_isPair) := goodIn_app (goodIn_of _ (by decide +kernel)) ggX7_areLike_X7_isPair
theorem ggX7_areLike_X7_areTellsLike : GoodIn wsX7_areLike wsX7_areTellsLike := goodIn_mem (fun _ h => List.mem_cons_of_mem _ (List.mem_append_left _ (List.mem_append_right _ (List.mem_append_right _ h)))) ok_wsX7_areTellsLike
set_option maxRecDepth 20000 in
theorem gX7_areLike_X7_areTellsLike : GoodIn wsX7_areLike (wsV RX7 189 RX7 yX7_areTellsLike wsX7_areTellsLike) := goodIn_app (goodIn_of _ (by decide +kernel)) ggX7_areLike_X7_areTellsLike
theorem dX7_areLike_0 : decode cX7_areLike 0 = .ok (.aload_n 0, 1) := by decide +kernel
theorem dX7_areLike_1 : decode cX7_areLike 1 = .ok (.getfield 52, 3) := by decide +kernel
theorem dX7_areLike_4 : decode cX7_areLike 4 = .ok (.iconst 1, 1) := by decide +kernel
theorem dX7_areLike_5 : decode cX7_areLike 5 = .ok (.iaload, 1) := by decide +kernel
theorem dX7_areLike_6 : decode cX7_areLike 6 = .ok (.aload_n 0, 1) := by decide +kernel
theorem dX7_areLike_7 : decode cX7_areLike 7 = .ok (.getfield 52, 3) := by decide +kernel
theorem dX7_areLike_10 : decode cX7_areLike 10 = .ok (.iconst 2, 1) := by decide +kernel
theorem dX7_areLike_11 : decode cX7_areLike 11 = .ok (.iaload, 1) := by decide +kernel
theorem dX7_areLike_12 : decode cX7_areLike 12 = .ok (.if_icmp .ne 52, 3) := by decide +kernel
theorem dX7_areLike_15 : decode cX7_areLike 15 = .ok (.aload_n 0, 1) := by decide +kernel
theorem dX7_areLike_16 : decode cX7_areLike 16 = .ok (.getfield 55, 3) := by decide +kernel
theorem dX7_areLike_19 : decode cX7_areLike 19 = .ok (.iconst 1, 1) := by decide +kernel
theorem dX7_areLike_20 : decode cX7_areLike 20 = .ok (.iaload, 1) := by decide +kernel
theorem dX7_areLike_21 : decode cX7_areLike 21 = .ok (.aload_n 0, 1) := by decide +kernel
theorem dX7_areLike_22 : decode cX7_areLike 22 = .ok (.getfield 55, 3) := by decide +kernel
theorem dX7_areLike_25 : decode cX7_areLike 25 = .ok (.iconst 2, 1) := by decide +kernel
theorem dX7_areLike_26 : decode cX7_areLike 26 = .ok (.iaload, 1) := by decide +kernel
theorem dX7_areLike_27 : decode cX7_areLike 27 = .ok (.if_icmp .ne 37, 3) := by decide +kernel
theorem dX7_areLike_30 : decode cX7_areLike 30 = .ok (.aload_n 0, 1) := by decide +kernel
theorem dX7_areLike_31 : decode cX7_areLike 31 = .ok (.getfield 58, 3) := by decide +kernel
theorem dX7_areLike_34 : decode cX7_areLike 34 = .ok (.iconst 1, 1) := by decide +kernel
theorem dX7_areLike_35 : decode cX7_areLike 35 = .ok (.iaload, 1) := by decide +kernel
theorem dX7_areLike_36 : decode cX7_areLike 36 = .ok (.aload_n 0, 1) := by decide +kernel
theorem dX7_areLike_37 : decode cX7_areLike 37 = .ok (.getfield 58, 3) := by decide +kernel
theorem dX7_areLike_40 : decode cX7_areLike 40 = .ok (.iconst 2, 1) := by decide +kernel
theorem dX7_areLike_41 : decode cX7_areLike 41 = .ok (.iaload, 1) := by decide +kernel
theorem dX7_areLike_42 : decode cX7_areLike 42 = .ok (.if_icmp .ne 22, 3) := by decide +kernel
theorem dX7_areLike_45 : decode cX7_areLike 45 = .ok (.aload_n 0, 1) := by decide +kernel
theorem dX7_areLike_46 : decode cX7_areLike 46 = .ok (.getfield 79, 3) := by decide +kernel
theorem dX7_areLike_49 : decode cX7_areLike 49 = .ok (.iconst 1, 1) := by decide +kernel
theorem dX7_areLike_50 : decode cX7_areLike 50 = .ok (.iaload, 1) := by decide +kernel
theorem dX7_areLike_51 : decode cX7_areLike 51 = .ok (.aload_n 0, 1) := by decide +kernel
theorem dX7_areLike_52 : decode cX7_areLike 52 = .ok (.getfield 79, 3) := by decide +kernel
theorem dX7_areLike_55 : decode cX7_areLike 55 = .ok (.iconst 2, 1) := by decide +kernel
theorem dX7_areLike_56 : decode cX7_areLike 56 = .ok (.iaload, 1) := by decide +kernel
theorem dX7_areLike_57 : decode cX7_areLike 57 = .ok (.if_icmp .ne 7, 3) := by decide +kernel
theorem dX7_areLike_60 : decode cX7_areLike 60 = .ok (.iconst 1, 1) := by decide +kernel
theorem dX7_areLike_61 : decode cX7_areLike 61 = .ok (.goto 4, 3) := by decide +kernel
theorem dX7_areLike_64 : decode cX7_areLike 64 = .ok (.iconst 0, 1) := by decide +kernel
theorem dX7_areLike_65 : decode cX7_areLike 65 = .ok (.istore_n 1, 1) := by decide +kernel
theorem dX7_areLike_66 : decode cX7_areLike 66 = .ok (.iconst 0, 1) := by decide +kernel
theorem dX7_areLike_67 : decode cX7_areLike 67 = .ok (.istore_n 2, 1) := by decide +kernel
theorem dX7_areLike_68 : decode cX7_areLike 68 = .ok (.iload_n 2, 1) := by decide +kernel
theorem dX7_areLike_69 : decode cX7_areLike 69 = .ok (.aload_n 0, 1) := by decide +kernel
theorem dX7_areLike_70 : decode cX7_areLike 70 = .ok (.getfield 79, 3) := by decide +kernel
theorem dX7_areLike_73 : decode cX7_areLike 73 = .ok (.iconst 1, 1) := by decide +kernel
theorem dX7_areLike_74 : decode cX7_areLike 74 = .ok (.iaload, 1) := by decide +kernel
theorem dX7_areLike_75 : decode cX7_areLike 75 = .ok (.if_icmp .ge 80, 3) := by decide +kernel
theorem dX7_areLike_78 : decode cX7_areLike 78 = .ok (.iload_n 1, 1) := by decide +kernel
theorem dX7_areLike_79 : decode cX7_areLike 79 = .ok (.ifCond .eq 76, 3) := by decide +kernel
theorem dX7_areLike_82 : decode cX7_areLike 82 = .ok (.aload_n 0, 1) := by decide +kernel
theorem dX7_areLike_83 : decode cX7_areLike 83 = .ok (.aload_n 0, 1) := by decide +kernel
theorem dX7_areLike_84 : decode cX7_areLike 84 = .ok (.getfield 82, 3) := by decide +kernel
theorem dX7_areLike_87 : decode cX7_areLike 87 = .ok (.iconst 2, 1) := by decide +kernel
theorem dX7_areLike_88 : decode cX7_areLike 88 = .ok (.iload_n 2, 1) := by decide +kernel
theorem dX7_areLike_89 : decode cX7_areLike 89 = .ok (.iadd, 1) := by decide +kernel
theorem dX7_areLike_90 : decode cX7_areLike 90 = .ok (.iaload, 1) := by decide +kernel
theorem dX7_areLike_91 : decode cX7_areLike 91 = .ok (.aload_n 0, 1) := by decide +kernel
theorem dX7_areLike_92 : decode cX7_areLike 92 = .ok (.getfield 82, 3) := by decide +kernel
theorem dX7_areLike_95 : decode cX7_areLike 95 = .ok (.iconst 4, 1) := by decide +kernel
theorem dX7_areLike_96 : decode cX7_areLike 96 = .ok (.iload_n 2, 1) := by decide +kernel
theorem dX7_areLike_97 : decode cX7_areLike 97 = .ok (.iadd, 1) := by decide +kernel
theorem dX7_areLike_98 : decode cX7_areLike 98 = .ok (.iaload, 1) := by decide +kernel
theorem dX7_areLike_99 : decode cX7_areLike 99 = .ok (.invokevirtual 186, 3) := by decide +kernel
theorem dX7_areLike_102 : decode cX7_areLike 102 = .ok (.ifCond .eq 45, 3) := by decide +kernel
theorem dX7_areLike_105 : decode cX7_areLike 105 = .ok (.aload_n 0, 1) := by decide +kernel
theorem dX7_areLike_106 : decode cX7_areLike 106 = .ok (.getfield 85, 3) := by decide +kernel
theorem dX7_areLike_109 : decode cX7_areLike 109 = .ok (.iconst 2, 1) := by decide +kernel
theorem dX7_areLike_110 : decode cX7_areLike 110 = .ok (.iload_n 2, 1) := by decide +kernel
theorem dX7_areLike_111 : decode cX7_areLike 111 = .ok (.iadd, 1) := by decide +kernel
theorem dX7_areLike_112 : decode cX7_areLike 112 = .ok (.iaload, 1) := by decide +kernel
theorem dX7_areLike_113 : decode cX7_areLike 113 = .ok (.aload_n 0, 1) := by decide +kernel
theorem dX7_areLike_114 : decode cX7_areLike 114 = .ok (.getfield 85, 3) := by decide +kernel
theorem dX7_areLike_117 : decode cX7_areLike 117 = .ok (.iconst 4, 1) := by decide +kernel
theorem dX7_areLike_118 : decode cX7_areLike 118 = .ok (.iload_n 2, 1) := by decide +kernel
theorem dX7_areLike_119 : decode cX7_areLike 119 = .ok (.iadd, 1) := by decide +kernel
theorem dX7_areLike_120 : decode cX7_areLike 120 = .ok (.iaload, 1) := by decide +kernel
theorem dX7_areLike_121 : decode cX7_areLike 121 = .ok (.if_icmp .ne 26, 3) := by decide +kernel
theorem dX7_areLike_124 : decode cX7_areLike 124 = .ok (.aload_n 0, 1) := by decide +kernel
theorem dX7_areLike_125 : decode cX7_areLike 125 = .ok (.getfield 88, 3) := by decide +kernel
theorem dX7_areLike_128 : decode cX7_areLike 128 = .ok (.iconst 2, 1) := by decide +kernel
theorem dX7_areLike_129 : decode cX7_areLike 129 = .ok (.iload_n 2, 1) := by decide +kernel
theorem dX7_areLike_130 : decode cX7_areLike 130 = .ok (.iadd, 1) := by decide +kernel
theorem dX7_areLike_131 : decode cX7_areLike 131 = .ok (.iaload, 1) := by decide +kernel
theorem dX7_areLike_132 : decode cX7_areLike 132 = .ok (.aload_n 0, 1) := by decide +kernel
theorem dX7_areLike_133 : decode cX7_areLike 133 = .ok (.getfield 88, 3) := by decide +kernel
theorem dX7_areLike_136 : decode cX7_areLike 136 = .ok (.iconst 4, 1) := by decide +kernel
theorem dX7_areLike_137 : decode cX7_areLike 137 = .ok (.iload_n 2, 1) := by decide +kernel
theorem dX7_areLike_138 : decode cX7_areLike 138 = .ok (.iadd, 1) := by decide +kernel
theorem dX7_areLike_139 : decode cX7_areLike 139 = .ok (.iaload, 1) := by decide +kernel
theorem dX7_areLike_140 : decode cX7_areLike 140 = .ok (.if_icmp .ne 7, 3) := by decide +kernel
theorem dX7_areLike_143 : decode cX7_areLike 143 = .ok (.iconst 1, 1) := by decide +kernel
theorem dX7_areLike_144 : decode cX7_areLike 144 = .ok (.goto 4, 3) := by decide +kernel
theorem dX7_areLike_147 : decode cX7_areLike 147 = .ok (.iconst 0, 1) := by decide +kernel
theorem dX7_areLike_148 : decode cX7_areLike 148 = .ok (.istore_n 1, 1) := by decide +kernel
theorem dX7_areLike_149 : decode cX7_areLike 149 = .ok (.iinc 2 1, 3) := by decide +kernel
theorem dX7_areLike_152 : decode cX7_areLike 152 = .ok (.goto (-84), 3) := by decide +kernel
theorem dX7_areLike_155 : decode cX7_areLike 155 = .ok (.iconst 0, 1) := by decide +kernel
theorem dX7_areLike_156 : decode cX7_areLike 156 = .ok (.istore_n 2, 1) := by decide +kernel
theorem dX7_areLike_157 : decode cX7_areLike 157 = .ok (.iload_n 2, 1) := by decide +kernel
theorem dX7_areLike_158 : decode cX7_areLike 158 = .ok (.iconst 4, 1) := by decide +kernel
theorem dX7_areLike_159 : decode cX7_areLike 159 = .ok (.if_icmp .ge 37, 3) := by decide +kernel
theorem dX7_areLike_162 : decode cX7_areLike 162 = .ok (.iload_n 1, 1) := by decide +kernel
theorem dX7_areLike_163 : decode cX7_areLike 163 = .ok (.ifCond .eq 33, 3) := by decide +kernel
theorem dX7_areLike_166 : decode cX7_areLike 166 = .ok (.iconst 0, 1) := by decide +kernel
theorem dX7_areLike_167 : decode cX7_areLike 167 = .ok (.istore_n 3, 1) := by decide +kernel
theorem dX7_areLike_168 : decode cX7_areLike 168 = .ok (.iload_n 3, 1) := by decide +kernel
theorem dX7_areLike_169 : decode cX7_areLike 169 = .ok (.iconst 3, 1) := by decide +kernel
theorem dX7_areLike_170 : decode cX7_areLike 170 = .ok (.if_icmp .ge 20, 3) := by decide +kernel
theorem dX7_areLike_173 : decode cX7_areLike 173 = .ok (.iload_n 1, 1) := by decide +kernel
theorem dX7_areLike_174 : decode cX7_areLike 174 = .ok (.ifCond .eq 16, 3) := by decide +kernel
theorem dX7_areLike_177 : decode cX7_areLike 177 = .ok (.aload_n 0, 1) := by decide +kernel
theorem dX7_areLike_178 : decode cX7_areLike 178 = .ok (.iload_n 2, 1) := by decide +kernel
theorem dX7_areLike_179 : decode cX7_areLike 179 = .ok (.iload_n 3, 1) := by decide +kernel
theorem dX7_areLike_180 : decode cX7_areLike 180 = .ok (.invokevirtual 189, 3) := by decide +kernel
theorem dX7_areLike_183 : decode cX7_areLike 183 = .ok (.istore_n 1, 1) := by decide +kernel
theorem dX7_areLike_184 : decode cX7_areLike 184 = .ok (.iinc 3 1, 3) := by decide +kernel
theorem dX7_areLike_187 : decode cX7_areLike 187 = .ok (.goto (-19), 3) := by decide +kernel
theorem dX7_areLike_190 : decode cX7_areLike 190 = .ok (.iinc 2 1, 3) := by decide +kernel
theorem dX7_areLike_193 : decode cX7_areLike 193 = .ok (.goto (-36), 3) := by decide +kernel
theorem dX7_areLike_196 : decode cX7_areLike 196 = .ok (.iload_n 1, 1) := by decide +kernel
theorem dX7_areLike_197 : decode cX7_areLike 197 = .ok (.ireturn, 1) := by decide +kernel
theorem ggX7_held_X7_play : GoodIn wsX7_held wsX7_play := goodIn_mem (fun _ h => List.mem_cons_of_mem _ (List.mem_append_left _ (List.mem_append_right _ (List.mem_append_left _ h)))) ok_wsX7_play
set_option maxRecDepth 20000 in
theorem gX7_held_X7_play : GoodIn wsX7_held (wsV RX7 171 RX7 yX7_play wsX7_play) := goodIn_app (goodIn_of _ (by decide +kernel)) ggX7_held_X7_play
theorem ggX7_held_X7_areLike : GoodIn wsX7_held wsX7_areLike := goodIn_mem (fun _ h => List.mem_cons_of_mem _ (List.mem_append_left _ (List.mem_append_right _ (List.mem_append_right _ h)))) ok_wsX7_areLike
set_option maxRecDepth 20000 in
theorem gX7_held_X7_areLike : GoodIn wsX7_held (wsV RX7 192 RX7 yX7_areLike wsX7_areLike) := goodIn_app (goodIn_of _ (by decide +kernel)) ggX7_held_X7_areLike
theorem dX7_held_0 : decode cX7_held 0 = .ok (.iconst 1, 1) := by decide +kernel
theorem dX7_held_1 : decode cX7_held 1 = .ok (.istore_n 3, 1) := by decide +kernel
theorem dX7_held_2 : decode cX7_held 2 = .ok (.aload_n 0, 1) := by decide +kernel
theorem dX7_held_3 : decode cX7_held 3 = .ok (.iconst 0, 1) := by decide +kernel
theorem dX7_held_4 : decode cX7_held 4 = .ok (.putfield 139, 3) := by decide +kernel
theorem dX7_held_7 : decode cX7_held 7 = .ok (.iconst 0, 1) := by decide +kernel
theorem dX7_held_8 : decode cX7_held 8 = .ok (.istore 4, 2) := by decide +kernel
theorem dX7_held_10 : decode cX7_held 10 = .ok (.iload 4, 2) := by decide +kernel
theorem dX7_held_12 : decode cX7_held 12 = .ok (.aload_n 0, 1) := by decide +kernel
theorem dX7_held_13 : decode cX7_held 13 = .ok (.getfield 107, 3) := by decide +kernel
theorem dX7_held_16 : decode cX7_held 16 = .ok (.if_icmp .gt 95, 3) := by decide +kernel
theorem dX7_held_19 : decode cX7_held 19 = .ok (.iconst 0, 1) := by decide +kernel
theorem dX7_held_20 : decode cX7_held 20 = .ok (.istore 5, 2) := by decide +kernel
theorem dX7_held_22 : decode cX7_held 22 = .ok (.iload 5, 2) := by decide +kernel
theorem dX7_held_24 : decode cX7_held 24 = .ok (.aload_n 0, 1) := by decide +kernel
theorem dX7_held_25 : decode cX7_held 25 = .ok (.getfield 107, 3) := by decide +kernel
theorem dX7_held_28 : decode cX7_held 28 = .ok (.if_icmp .gt 77, 3) := by decide +kernel
theorem dX7_held_31 : decode cX7_held 31 = .ok (.aload_n 0, 1) := by decide +kernel
theorem dX7_held_32 : decode cX7_held 32 = .ok (.iconst 1, 1) := by decide +kernel
theorem dX7_held_33 : decode cX7_held 33 = .ok (.iconst 0, 1) := by decide +kernel
theorem dX7_held_34 : decode cX7_held 34 = .ok (.iload_n 1, 1) := by decide +kernel
theorem dX7_held_35 : decode cX7_held 35 = .ok (.iload 4, 2) := by decide +kernel
theorem dX7_held_37 : decode cX7_held 37 = .ok (.iload 5, 2) := by decide +kernel
theorem dX7_held_39 : decode cX7_held 39 = .ok (.invokevirtual 171, 3) := by decide +kernel
theorem dX7_held_42 : decode cX7_held 42 = .ok (.aload_n 0, 1) := by decide +kernel
theorem dX7_held_43 : decode cX7_held 43 = .ok (.iconst 2, 1) := by decide +kernel
theorem dX7_held_44 : decode cX7_held 44 = .ok (.iconst 1, 1) := by decide +kernel
theorem dX7_held_45 : decode cX7_held 45 = .ok (.iload_n 2, 1) := by decide +kernel
theorem dX7_held_46 : decode cX7_held 46 = .ok (.iload 4, 2) := by decide +kernel
theorem dX7_held_48 : decode cX7_held 48 = .ok (.iload 5, 2) := by decide +kernel
theorem dX7_held_50 : decode cX7_held 50 = .ok (.invokevirtual 171, 3) := by decide +kernel
theorem dX7_held_53 : decode cX7_held 53 = .ok (.aload_n 0, 1) := by decide +kernel
theorem dX7_held_54 : decode cX7_held 54 = .ok (.getfield 52, 3) := by decide +kernel
theorem dX7_held_57 : decode cX7_held 57 = .ok (.iconst 1, 1) := by decide +kernel
theorem dX7_held_58 : decode cX7_held 58 = .ok (.iaload, 1) := by decide +kernel
theorem dX7_held_59 : decode cX7_held 59 = .ok (.iconst 2, 1) := by decide +kernel
theorem dX7_held_60 : decode cX7_held 60 = .ok (.if_icmp .eq 13, 3) := by decide +kernel
theorem dX7_held_63 : decode cX7_held 63 = .ok (.aload_n 0, 1) := by decide +kernel
theorem dX7_held_64 : decode cX7_held 64 = .ok (.getfield 52, 3) := by decide +kernel
theorem dX7_held_67 : decode cX7_held 67 = .ok (.iconst 2, 1) := by decide +kernel
theorem dX7_held_68 : decode cX7_held 68 = .ok (.iaload, 1) := by decide +kernel
theorem dX7_held_69 : decode cX7_held 69 = .ok (.iconst 2, 1) := by decide +kernel
theorem dX7_held_70 : decode cX7_held 70 = .ok (.if_icmp .ne 8, 3) := by decide +kernel
theorem dX7_held_73 : decode cX7_held 73 = .ok (.iconst 2, 1) := by decide +kernel
theorem dX7_held_74 : decode cX7_held 74 = .ok (.istore_n 3, 1) := by decide +kernel
theorem dX7_held_75 : decode cX7_held 75 = .ok (.goto 24, 3) := by decide +kernel
theorem dX7_held_78 : decode cX7_held 78 = .ok (.aload_n 0, 1) := by decide +kernel
theorem dX7_held_79 : decode cX7_held 79 = .ok (.invokevirtual 192, 3) := by decide +kernel
theorem dX7_held_82 : decode cX7_held 82 = .ok (.ifCond .ne 17, 3) := by decide +kernel
theorem dX7_held_85 : decode cX7_held 85 = .ok (.aload_n 0, 1) := by decide +kernel
theorem dX7_held_86 : decode cX7_held 86 = .ok (.iload 4, 2) := by decide +kernel
theorem dX7_held_88 : decode cX7_held 88 = .ok (.putfield 196, 3) := by decide +kernel
theorem dX7_held_91 : decode cX7_held 91 = .ok (.aload_n 0, 1) := by decide +kernel
theorem dX7_held_92 : decode cX7_held 92 = .ok (.iload 5, 2) := by decide +kernel
theorem dX7_held_94 : decode cX7_held 94 = .ok (.putfield 199, 3) := by decide +kernel
theorem dX7_held_97 : decode cX7_held 97 = .ok (.iconst 0, 1) := by decide +kernel
theorem dX7_held_98 : decode cX7_held 98 = .ok (.ireturn, 1) := by decide +kernel
theorem dX7_held_99 : decode cX7_held 99 = .ok (.iinc 5 1, 3) := by decide +kernel
theorem dX7_held_102 : decode cX7_held 102 = .ok (.goto (-80), 3) := by decide +kernel
theorem dX7_held_105 : decode cX7_held 105 = .ok (.iinc 4 1, 3) := by decide +kernel
theorem dX7_held_108 : decode cX7_held 108 = .ok (.goto (-98), 3) := by decide +kernel
theorem dX7_held_111 : decode cX7_held 111 = .ok (.iload_n 3, 1) := by decide +kernel
theorem dX7_held_112 : decode cX7_held 112 = .ok (.ireturn, 1) := by decide +kernel
theorem ggX7_hold_X7_isMethod : GoodIn wsX7_hold wsX7_isMethod := goodIn_mem (fun _ h => List.mem_cons_of_mem _ (List.mem_append_left _ (List.mem_append_right _ (List.mem_append_left _ h)))) ok_wsX7_isMethod
set_option maxRecDepth 20000 in
theorem gX7_hold_X7_isMethod : GoodIn wsX7_hold (wsV RX7 121 RX7 yX7_isMethod wsX7_isMethod) := goodIn_app (goodIn_of _ (by decide +kernel)) ggX7_hold_X7_isMethod
theorem ggX7_hold_X7_held : GoodIn wsX7_hold wsX7_held := goodIn_mem (fun _ h => List.mem_cons_of_mem _ (List.mem_append_left _ (List.mem_append_right _ (List.mem_append_right _ h)))) ok_wsX7_held
set_option maxRecDepth 20000 in
theorem gX7_hold_X7_held : GoodIn wsX7_hold (wsV RX7 202 RX7 yX7_held wsX7_held) := goodIn_app (goodIn_of _ (by decide +kernel)) ggX7_hold_X7_held
theorem dX7_hold_0 : decode cX7_hold 0 = .ok (.aload_n 0, 1) := by decide +kernel
theorem dX7_hold_1 : decode cX7_hold 1 = .ok (.iconst 0, 1) := by decide +kernel
theorem dX7_hold_2 : decode cX7_hold 2 = .ok (.iload_n 1, 1) := by decide +kernel
theorem dX7_hold_3 : decode cX7_hold 3 = .ok (.invokevirtual 121, 3) := by decide +kernel
theorem dX7_hold_6 : decode cX7_hold 6 = .ok (.ifCond .eq 12, 3) := by decide +kernel
theorem dX7_hold_9 : decode cX7_hold 9 = .ok (.aload_n 0, 1) := by decide +kernel
theorem dX7_hold_10 : decode cX7_hold 10 = .ok (.iconst 1, 1) := by decide +kernel
theorem dX7_hold_11 : decode cX7_hold 11 = .ok (.iload_n 2, 1) := by decide +kernel
theorem dX7_hold_12 : decode cX7_hold 12 = .ok (.invokevirtual 121, 3) := by decide +kernel
theorem dX7_hold_15 : decode cX7_hold 15 = .ok (.ifCond .ne 6, 3) := by decide +kernel
theorem dX7_hold_18 : decode cX7_hold 18 = .ok (.bipush (-101), 2) := by decide +kernel
theorem dX7_hold_20 : decode cX7_hold 20 = .ok (.ireturn, 1) := by decide +kernel
theorem dX7_hold_21 : decode cX7_hold 21 = .ok (.aload_n 0, 1) := by decide +kernel
theorem dX7_hold_22 : decode cX7_hold 22 = .ok (.iload_n 1, 1) := by decide +kernel
theorem dX7_hold_23 : decode cX7_hold 23 = .ok (.iload_n 2, 1) := by decide +kernel
theorem dX7_hold_24 : decode cX7_hold 24 = .ok (.invokevirtual 202, 3) := by decide +kernel
theorem dX7_hold_27 : decode cX7_hold 27 = .ok (.istore_n 3, 1) := by decide +kernel
theorem dX7_hold_28 : decode cX7_hold 28 = .ok (.aload_n 0, 1) := by decide +kernel
theorem dX7_hold_29 : decode cX7_hold 29 = .ok (.iload_n 3, 1) := by decide +kernel
theorem dX7_hold_30 : decode cX7_hold 30 = .ok (.ifCond .ne 10, 3) := by decide +kernel
theorem dX7_hold_33 : decode cX7_hold 33 = .ok (.aload_n 0, 1) := by decide +kernel
theorem dX7_hold_34 : decode cX7_hold 34 = .ok (.getfield 196, 3) := by decide +kernel
theorem dX7_hold_37 : decode cX7_hold 37 = .ok (.goto 4, 3) := by decide +kernel
theorem dX7_hold_40 : decode cX7_hold 40 = .ok (.iconst (-1), 1) := by decide +kernel
theorem dX7_hold_41 : decode cX7_hold 41 = .ok (.putfield 91, 3) := by decide +kernel
theorem dX7_hold_44 : decode cX7_hold 44 = .ok (.aload_n 0, 1) := by decide +kernel
theorem dX7_hold_45 : decode cX7_hold 45 = .ok (.iload_n 3, 1) := by decide +kernel
theorem dX7_hold_46 : decode cX7_hold 46 = .ok (.ifCond .ne 10, 3) := by decide +kernel
theorem dX7_hold_49 : decode cX7_hold 49 = .ok (.aload_n 0, 1) := by decide +kernel
theorem dX7_hold_50 : decode cX7_hold 50 = .ok (.getfield 199, 3) := by decide +kernel
theorem dX7_hold_53 : decode cX7_hold 53 = .ok (.goto 4, 3) := by decide +kernel
theorem dX7_hold_56 : decode cX7_hold 56 = .ok (.iconst (-1), 1) := by decide +kernel
theorem dX7_hold_57 : decode cX7_hold 57 = .ok (.putfield 95, 3) := by decide +kernel
theorem dX7_hold_60 : decode cX7_hold 60 = .ok (.iload_n 3, 1) := by decide +kernel
theorem dX7_hold_61 : decode cX7_hold 61 = .ok (.ireturn, 1) := by decide +kernel
theorem dX7_first_0 : decode cX7_first 0 = .ok (.iload_n 1, 1) := by decide +kernel
theorem dX7_first_1 : decode cX7_first 1 = .ok (.ifCond .ne 10, 3) := by decide +kernel
theorem dX7_first_4 : decode cX7_first 4 = .ok (.aload_n 0, 1) := by decide +kernel
theorem dX7_first_5 : decode cX7_first 5 = .ok (.getfield 91, 3) := by decide +kernel
theorem dX7_first_8 : decode cX7_first 8 = .ok (.goto 17, 3) := by decide +kernel
theorem dX7_first_11 : decode cX7_first 11 = .ok (.iload_n 1, 1) := by decide +kernel
theorem dX7_first_12 : decode cX7_first 12 = .ok (.iconst 1, 1) := by decide +kernel
theorem dX7_first_13 : decode cX7_first 13 = .ok (.if_icmp .ne 10, 3) := by decide +kernel
theorem dX7_first_16 : decode cX7_first 16 = .ok (.aload_n 0, 1) := by decide +kernel
theorem dX7_first_17 : decode cX7_first 17 = .ok (.getfield 95, 3) := by decide +kernel
theorem dX7_first_20 : decode cX7_first 20 = .ok (.goto 5, 3) := by decide +kernel
theorem dX7_first_23 : decode cX7_first 23 = .ok (.bipush (-101), 2) := by decide +kernel
theorem dX7_first_25 : decode cX7_first 25 = .ok (.ireturn, 1) := by decide +kernel
theorem ggX7_match_X7_isMethod : GoodIn wsX7_match wsX7_isMethod := goodIn_mem (fun _ h => List.mem_cons_of_mem _ (List.mem_append_left _ (List.mem_append_right _ (List.mem_append_left _ h)))) ok_wsX7_isMethod
set_option maxRecDepth 20000 in
theorem gX7_match_X7_isMethod : GoodIn wsX7_match (wsV RX7 121 RX7 yX7_isMethod wsX7_isMethod) := goodIn_app (goodIn_of _ (by decide +kernel)) ggX7_match_X7_isMethod
theorem ggX7_match_X7_held : GoodIn wsX7_match wsX7_held := goodIn_mem (fun _ h => List.mem_cons_of_mem _ (List.mem_append_left _ (List.mem_append_right _ (List.mem_append_right _ h)))) ok_wsX7_held
set_option maxRecDepth 20000 in
theorem gX7_match_X7_held : GoodIn wsX7_match (wsV RX7 202 RX7 yX7_held wsX7_held) := goodIn_app (goodIn_of _ (by decide +kernel)) ggX7_match_X7_held
theorem dX7_match_0 : decode cX7_match 0 = .ok (.aload_n 0, 1) := by decide +kernel
theorem dX7_match_1 : decode cX7_match 1 = .ok (.iconst 0, 1) := by decide +kernel
theorem dX7_match_2 : decode cX7_match 2 = .ok (.iload_n 1, 1) := by decide +kernel
theorem dX7_match_3 : decode cX7_match 3 = .ok (.invokevirtual 121, 3) := by decide +kernel
theorem dX7_match_6 : decode cX7_match 6 = .ok (.ifCond .ne 6, 3) := by decide +kernel
theorem dX7_match_9 : decode cX7_match 9 = .ok (.bipush (-101), 2) := by decide +kernel
theorem dX7_match_11 : decode cX7_match 11 = .ok (.ireturn, 1) := by decide +kernel
theorem dX7_match_12 : decode cX7_match 12 = .ok (.iconst 0, 1) := by decide +kernel
theorem dX7_match_13 : decode cX7_match 13 = .ok (.istore_n 2, 1) := by decide +kernel
theorem dX7_match_14 : decode cX7_match 14 = .ok (.iload_n 2, 1) := by decide +kernel
theorem dX7_match_15 : decode cX7_match 15 = .ok (.aload_n 0, 1) := by decide +kernel
theorem dX7_match_16 : decode cX7_match 16 = .ok (.getfield 7, 3) := by decide +kernel
theorem dX7_match_19 : decode cX7_match 19 = .ok (.iconst 1, 1) := by decide +kernel
theorem dX7_match_20 : decode cX7_match 20 = .ok (.iaload, 1) := by decide +kernel
theorem dX7_match_21 : decode cX7_match 21 = .ok (.if_icmp .ge 21, 3) := by decide +kernel
theorem dX7_match_24 : decode cX7_match 24 = .ok (.aload_n 0, 1) := by decide +kernel
theorem dX7_match_25 : decode cX7_match 25 = .ok (.iload_n 1, 1) := by decide +kernel
theorem dX7_match_26 : decode cX7_match 26 = .ok (.iload_n 2, 1) := by decide +kernel
theorem dX7_match_27 : decode cX7_match 27 = .ok (.invokevirtual 202, 3) := by decide +kernel
theorem dX7_match_30 : decode cX7_match 30 = .ok (.iconst 1, 1) := by decide +kernel
theorem dX7_match_31 : decode cX7_match 31 = .ok (.if_icmp .ne 5, 3) := by decide +kernel
theorem dX7_match_34 : decode cX7_match 34 = .ok (.iload_n 2, 1) := by decide +kernel
theorem dX7_match_35 : decode cX7_match 35 = .ok (.ireturn, 1) := by decide +kernel
theorem dX7_match_36 : decode cX7_match 36 = .ok (.iinc 2 1, 3) := by decide +kernel
theorem dX7_match_39 : decode cX7_match 39 = .ok (.goto (-25), 3) := by decide +kernel
theorem dX7_match_42 : decode cX7_match 42 = .ok (.iconst (-1), 1) := by decide +kernel
theorem dX7_match_43 : decode cX7_match 43 = .ok (.ireturn, 1) := by decide +kernel
theorem dX7_renames_0 : decode cX7_renames 0 = .ok (.iconst 0, 1) := by decide +kernel
theorem dX7_renames_1 : decode cX7_renames 1 = .ok (.istore_n 2, 1) := by decide +kernel
theorem dX7_renames_2 : decode cX7_renames 2 = .ok (.iconst 0, 1) := by decide +kernel
theorem dX7_renames_3 : decode cX7_renames 3 = .ok (.istore_n 3, 1) := by decide +kernel
theorem dX7_renames_4 : decode cX7_renames 4 = .ok (.iload_n 3, 1) := by decide +kernel
theorem dX7_renames_5 : decode cX7_renames 5 = .ok (.iconst 4, 1) := by decide +kernel
theorem dX7_renames_6 : decode cX7_renames 6 = .ok (.if_icmp .ge 36, 3) := by decide +kernel
theorem dX7_renames_9 : decode cX7_renames 9 = .ok (.aload_n 0, 1) := by decide +kernel
theorem dX7_renames_10 : decode cX7_renames 10 = .ok (.getfield 28, 3) := by decide +kernel
theorem dX7_renames_13 : decode cX7_renames 13 = .ok (.iload_n 3, 1) := by decide +kernel
theorem dX7_renames_14 : decode cX7_renames 14 = .ok (.iload_n 1, 1) := by decide +kernel
theorem dX7_renames_15 : decode cX7_renames 15 = .ok (.bipush 6, 2) := by decide +kernel
theorem dX7_renames_17 : decode cX7_renames 17 = .ok (.iconst 2, 1) := by decide +kernel
theorem dX7_renames_18 : decode cX7_renames 18 = .ok (.iload_n 3, 1) := by decide +kernel
theorem dX7_renames_19 : decode cX7_renames 19 = .ok (.imul, 1) := by decide +kernel
theorem dX7_renames_20 : decode cX7_renames 20 = .ok (.isub, 1) := by decide +kernel
theorem dX7_renames_21 : decode cX7_renames 21 = .ok (.ishr, 1) := by decide +kernel
theorem dX7_renames_22 : decode cX7_renames 22 = .ok (.iconst 3, 1) := by decide +kernel
theorem dX7_renames_23 : decode cX7_renames 23 = .ok (.iand, 1) := by decide +kernel
theorem dX7_renames_24 : decode cX7_renames 24 = .ok (.iastore, 1) := by decide +kernel
theorem dX7_renames_25 : decode cX7_renames 25 = .ok (.iload_n 2, 1) := by decide +kernel
theorem dX7_renames_26 : decode cX7_renames 26 = .ok (.iconst 1, 1) := by decide +kernel
theorem dX7_renames_27 : decode cX7_renames 27 = .ok (.aload_n 0, 1) := by decide +kernel
theorem dX7_renames_28 : decode cX7_renames 28 = .ok (.getfield 28, 3) := by decide +kernel
theorem dX7_renames_31 : decode cX7_renames 31 = .ok (.iload_n 3, 1) := by decide +kernel
theorem dX7_renames_32 : decode cX7_renames 32 = .ok (.iaload, 1) := by decide +kernel
theorem dX7_renames_33 : decode cX7_renames 33 = .ok (.ishl, 1) := by decide +kernel
theorem dX7_renames_34 : decode cX7_renames 34 = .ok (.ior, 1) := by decide +kernel
theorem dX7_renames_35 : decode cX7_renames 35 = .ok (.istore_n 2, 1) := by decide +kernel
theorem dX7_renames_36 : decode cX7_renames 36 = .ok (.iinc 3 1, 3) := by decide +kernel
theorem dX7_renames_39 : decode cX7_renames 39 = .ok (.goto (-35), 3) := by decide +kernel
theorem dX7_renames_42 : decode cX7_renames 42 = .ok (.iload_n 2, 1) := by decide +kernel
theorem dX7_renames_43 : decode cX7_renames 43 = .ok (.bipush 15, 2) := by decide +kernel
theorem dX7_renames_45 : decode cX7_renames 45 = .ok (.if_icmp .ne 7, 3) := by decide +kernel
theorem dX7_renames_48 : decode cX7_renames 48 = .ok (.iconst 1, 1) := by decide +kernel
theorem dX7_renames_49 : decode cX7_renames 49 = .ok (.goto 4, 3) := by decide +kernel
theorem dX7_renames_52 : decode cX7_renames 52 = .ok (.iconst 0, 1) := by decide +kernel
theorem dX7_renames_53 : decode cX7_renames 53 = .ok (.ireturn, 1) := by decide +kernel
theorem ggX7_find_X7_isMethod : GoodIn wsX7_find wsX7_isMethod := goodIn_mem (fun _ h => List.mem_cons_of_mem _ (List.mem_append_left _ (List.mem_append_right _ (List.mem_append_left _ h)))) ok_wsX7_isMethod
set_option maxRecDepth 20000 in
theorem gX7_find_X7_isMethod : GoodIn wsX7_find (wsV RX7 121 RX7 yX7_isMethod wsX7_isMethod) := goodIn_app (goodIn_of _ (by decide +kernel)) ggX7_find_X7_isMethod
theorem ggX7_find_X7_renames : GoodIn wsX7_find wsX7_renames := goodIn_mem (fun _ h => List.mem_cons_of_mem _ (List.mem_append_left _ (List.mem_append_right _ (List.mem_append_right _ (List.mem_append_left _ h))))) ok_wsX7_renames
set_option maxRecDepth 20000 in
theorem gX7_find_X7_renames : GoodIn wsX7_find (wsV RX7 206 RX7 yX7_renames wsX7_renames) := goodIn_app (goodIn_of _ (by decide +kernel)) ggX7_find_X7_renames
theorem ggX7_find_X7_held : GoodIn wsX7_find wsX7_held := goodIn_mem (fun _ h => List.mem_cons_of_mem _ (List.mem_append_left _ (List.mem_append_right _ (List.mem_append_right _ (List.mem_append_right _ h))))) ok_wsX7_held
set_option maxRecDepth 20000 in
theorem gX7_find_X7_held : GoodIn wsX7_find (wsV RX7 202 RX7 yX7_held wsX7_held) := goodIn_app (goodIn_of _ (by decide +kernel)) ggX7_find_X7_held
theorem dX7_find_0 : decode cX7_find 0 = .ok (.aload_n 0, 1) := by decide +kernel
theorem dX7_find_1 : decode cX7_find 1 = .ok (.iconst 0, 1) := by decide +kernel
theorem dX7_find_2 : decode cX7_find 2 = .ok (.iload_n 1, 1) := by decide +kernel
theorem dX7_find_3 : decode cX7_find 3 = .ok (.invokevirtual 121, 3) := by decide +kernel
theorem dX7_find_6 : decode cX7_find 6 = .ok (.ifCond .eq 12, 3) := by decide +kernel
theorem dX7_find_9 : decode cX7_find 9 = .ok (.aload_n 0, 1) := by decide +kernel
theorem dX7_find_10 : decode cX7_find 10 = .ok (.iconst 1, 1) := by decide +kernel
theorem dX7_find_11 : decode cX7_find 11 = .ok (.iload_n 2, 1) := by decide +kernel
theorem dX7_find_12 : decode cX7_find 12 = .ok (.invokevirtual 121, 3) := by decide +kernel
theorem dX7_find_15 : decode cX7_find 15 = .ok (.ifCond .ne 6, 3) := by decide +kernel
theorem dX7_find_18 : decode cX7_find 18 = .ok (.bipush (-101), 2) := by decide +kernel
theorem dX7_find_20 : decode cX7_find 20 = .ok (.ireturn, 1) := by decide +kernel
theorem dX7_find_21 : decode cX7_find 21 = .ok (.iconst 0, 1) := by decide +kernel
theorem dX7_find_22 : decode cX7_find 22 = .ok (.istore_n 3, 1) := by decide +kernel
theorem dX7_find_23 : decode cX7_find 23 = .ok (.iload_n 3, 1) := by decide +kernel
theorem dX7_find_24 : decode cX7_find 24 = .ok (.iconst 4, 1) := by decide +kernel
theorem dX7_find_25 : decode cX7_find 25 = .ok (.if_icmp .ge 21, 3) := by decide +kernel
theorem dX7_find_28 : decode cX7_find 28 = .ok (.aload_n 0, 1) := by decide +kernel
theorem dX7_find_29 : decode cX7_find 29 = .ok (.getfield 98, 3) := by decide +kernel
theorem dX7_find_32 : decode cX7_find 32 = .ok (.iload_n 3, 1) := by decide +kernel
theorem dX7_find_33 : decode cX7_find 33 = .ok (.aload_n 0, 1) := by decide +kernel
theorem dX7_find_34 : decode cX7_find 34 = .ok (.getfield 28, 3) := by decide +kernel
theorem dX7_find_37 : decode cX7_find 37 = .ok (.iload_n 3, 1) := by decide +kernel
theorem dX7_find_38 : decode cX7_find 38 = .ok (.iaload, 1) := by decide +kernel
theorem dX7_find_39 : decode cX7_find 39 = .ok (.iastore, 1) := by decide +kernel
theorem dX7_find_40 : decode cX7_find 40 = .ok (.iinc 3 1, 3) := by decide +kernel
theorem dX7_find_43 : decode cX7_find 43 = .ok (.goto (-20), 3) := by decide +kernel
theorem dX7_find_46 : decode cX7_find 46 = .ok (.iconst (-1), 1) := by decide +kernel
theorem dX7_find_47 : decode cX7_find 47 = .ok (.istore_n 3, 1) := by decide +kernel
theorem dX7_find_48 : decode cX7_find 48 = .ok (.iconst 0, 1) := by decide +kernel
theorem dX7_find_49 : decode cX7_find 49 = .ok (.istore 4, 2) := by decide +kernel
theorem dX7_find_51 : decode cX7_find 51 = .ok (.iload 4, 2) := by decide +kernel
theorem dX7_find_53 : decode cX7_find 53 = .ok (.sipush 256, 3) := by decide +kernel
theorem dX7_find_56 : decode cX7_find 56 = .ok (.if_icmp .ge 71, 3) := by decide +kernel
theorem dX7_find_59 : decode cX7_find 59 = .ok (.iload_n 3, 1) := by decide +kernel
theorem dX7_find_60 : decode cX7_find 60 = .ok (.iconst (-1), 1) := by decide +kernel
theorem dX7_find_61 : decode cX7_find 61 = .ok (.if_icmp .ne 66, 3) := by decide +kernel
theorem dX7_find_64 : decode cX7_find 64 = .ok (.aload_n 0, 1) := by decide +kernel
theorem dX7_find_65 : decode cX7_find 65 = .ok (.iload 4, 2) := by decide +kernel
theorem dX7_find_67 : decode cX7_find 67 = .ok (.invokevirtual 206, 3) := by decide +kernel
theorem dX7_find_70 : decode cX7_find 70 = .ok (.ifCond .eq 51, 3) := by decide +kernel
theorem dX7_find_73 : decode cX7_find 73 = .ok (.aload_n 0, 1) := by decide +kernel
theorem dX7_find_74 : decode cX7_find 74 = .ok (.iload_n 1, 1) := by decide +kernel
theorem dX7_find_75 : decode cX7_find 75 = .ok (.iload_n 2, 1) := by decide +kernel
theorem dX7_find_76 : decode cX7_find 76 = .ok (.invokevirtual 202, 3) := by decide +kernel
theorem dX7_find_79 : decode cX7_find 79 = .ok (.iconst 1, 1) := by decide +kernel
theorem dX7_find_80 : decode cX7_find 80 = .ok (.if_icmp .ne 41, 3) := by decide +kernel
theorem dX7_find_83 : decode cX7_find 83 = .ok (.sipush 1000, 3) := by decide +kernel
theorem dX7_find_86 : decode cX7_find 86 = .ok (.aload_n 0, 1) := by decide +kernel
theorem dX7_find_87 : decode cX7_find 87 = .ok (.getfield 28, 3) := by decide +kernel
theorem dX7_find_90 : decode cX7_find 90 = .ok (.iconst 0, 1) := by decide +kernel
theorem dX7_find_91 : decode cX7_find 91 = .ok (.iaload, 1) := by decide +kernel
theorem dX7_find_92 : decode cX7_find 92 = .ok (.imul, 1) := by decide +kernel
theorem dX7_find_93 : decode cX7_find 93 = .ok (.bipush 100, 2) := by decide +kernel
theorem dX7_find_95 : decode cX7_find 95 = .ok (.aload_n 0, 1) := by decide +kernel
theorem dX7_find_96 : decode cX7_find 96 = .ok (.getfield 28, 3) := by decide +kernel
theorem dX7_find_99 : decode cX7_find 99 = .ok (.iconst 1, 1) := by decide +kernel
theorem dX7_find_100 : decode cX7_find 100 = .ok (.iaload, 1) := by decide +kernel
theorem dX7_find_101 : decode cX7_find 101 = .ok (.imul, 1) := by decide +kernel
theorem dX7_find_102 : decode cX7_find 102 = .ok (.iadd, 1) := by decide +kernel
theorem dX7_find_103 : decode cX7_find 103 = .ok (.bipush 10, 2) := by decide +kernel
theorem dX7_find_105 : decode cX7_find 105 = .ok (.aload_n 0, 1) := by decide +kernel
theorem dX7_find_106 : decode cX7_find 106 = .ok (.getfield 28, 3) := by decide +kernel
theorem dX7_find_109 : decode cX7_find 109 = .ok (.iconst 2, 1) := by decide +kernel
theorem dX7_find_110 : decode cX7_find 110 = .ok (.iaload, 1) := by decide +kernel
theorem dX7_find_111 : decode cX7_find 111 = .ok (.imul, 1) := by decide +kernel
theorem dX7_find_112 : decode cX7_find 112 = .ok (.iadd, 1) := by decide +kernel
theorem dX7_find_113 : decode cX7_find 113 = .ok (.aload_n 0, 1) := by decide +kernel
theorem dX7_find_114 : decode cX7_find 114 = .ok (.getfield 28, 3) := by decide +kernel
theorem dX7_find_117 : decode cX7_find 117 = .ok (.iconst 3, 1) := by decide +kernel
theorem dX7_find_118 : decode cX7_find 118 = .ok (.iaload, 1) := by decide +kernel
theorem dX7_find_119 : decode cX7_find 119 = .ok (.iadd, 1) := by decide +kernel
theorem dX7_find_120 : decode cX7_find 120 = .ok (.istore_n 3, 1) := by decide +kernel
theorem dX7_find_121 : decode cX7_find 121 = .ok (.iinc 4 1, 3) := by decide +kernel
theorem dX7_find_124 : decode cX7_find 124 = .ok (.goto (-73), 3) := by decide +kernel
theorem dX7_find_127 : decode cX7_find 127 = .ok (.iconst 0, 1) := by decide +kernel
theorem dX7_find_128 : decode cX7_find 128 = .ok (.istore 4, 2) := by decide +kernel
theorem dX7_find_130 : decode cX7_find 130 = .ok (.iload 4, 2) := by decide +kernel
theorem dX7_find_132 : decode cX7_find 132 = .ok (.iconst 4, 1) := by decide +kernel
theorem dX7_find_133 : decode cX7_find 133 = .ok (.if_icmp .ge 23, 3) := by decide +kernel
theorem dX7_find_136 : decode cX7_find 136 = .ok (.aload_n 0, 1) := by decide +kernel
theorem dX7_find_137 : decode cX7_find 137 = .ok (.getfield 28, 3) := by decide +kernel
theorem dX7_find_140 : decode cX7_find 140 = .ok (.iload 4, 2) := by decide +kernel
theorem dX7_find_142 : decode cX7_find 142 = .ok (.aload_n 0, 1) := by decide +kernel
theorem dX7_find_143 : decode cX7_find 143 = .ok (.getfield 98, 3) := by decide +kernel
theorem dX7_find_146 : decode cX7_find 146 = .ok (.iload 4, 2) := by decide +kernel
theorem dX7_find_148 : decode cX7_find 148 = .ok (.iaload, 1) := by decide +kernel
theorem dX7_find_149 : decode cX7_find 149 = .ok (.iastore, 1) := by decide +kernel
theorem dX7_find_150 : decode cX7_find 150 = .ok (.iinc 4 1, 3) := by decide +kernel
theorem dX7_find_153 : decode cX7_find 153 = .ok (.goto (-23), 3) := by decide +kernel
theorem dX7_find_156 : decode cX7_find 156 = .ok (.iload_n 3, 1) := by decide +kernel
theorem dX7_find_157 : decode cX7_find 157 = .ok (.ireturn, 1) := by decide +kernel
theorem ggX7_assume_X7_isMethod : GoodIn wsX7_assume wsX7_isMethod := goodIn_mem (fun _ h => List.mem_cons_of_mem _ (List.mem_append_left _ (List.mem_append_right _ (List.mem_append_left _ h)))) ok_wsX7_isMethod
set_option maxRecDepth 20000 in
theorem gX7_assume_X7_isMethod : GoodIn wsX7_assume (wsV RX7 121 RX7 yX7_isMethod wsX7_isMethod) := goodIn_app (goodIn_of _ (by decide +kernel)) ggX7_assume_X7_isMethod
theorem ggX7_assume_X7_isPair : GoodIn wsX7_assume wsX7_isPair := goodIn_mem (fun _ h => List.mem_cons_of_mem _ (List.mem_append_left _ (List.mem_append_right _ (List.mem_append_right _ h)))) ok_wsX7_isPair
set_option maxRecDepth 20000 in
theorem gX7_assume_X7_isPair : GoodIn wsX7_assume (wsV RX7 186 RX7 yX7_isPair wsX7_isPair) := goodIn_app (goodIn_of _ (by decide +kernel)) ggX7_assume_X7_isPair
theorem dX7_assume_0 : decode cX7_assume 0 = .ok (.aload_n 0, 1) := by decide +kernel
theorem dX7_assume_1 : decode cX7_assume 1 = .ok (.iconst 0, 1) := by decide +kernel
theorem dX7_assume_2 : decode cX7_assume 2 = .ok (.iload_n 1, 1) := by decide +kernel
theorem dX7_assume_3 : decode cX7_assume 3 = .ok (.invokevirtual 121, 3) := by decide +kernel
theorem dX7_assume_6 : decode cX7_assume 6 = .ok (.ifCond .eq 12, 3) := by decide +kernel
theorem dX7_assume_9 : decode cX7_assume 9 = .ok (.aload_n 0, 1) := by decide +kernel
theorem dX7_assume_10 : decode cX7_assume 10 = .ok (.iconst 1, 1) := by decide +kernel
theorem dX7_assume_11 : decode cX7_assume 11 = .ok (.iload_n 2, 1) := by decide +kernel
theorem dX7_assume_12 : decode cX7_assume 12 = .ok (.invokevirtual 121, 3) := by decide +kernel
theorem dX7_assume_15 : decode cX7_assume 15 = .ok (.ifCond .ne 6, 3) := by decide +kernel
theorem dX7_assume_18 : decode cX7_assume 18 = .ok (.bipush (-101), 2) := by decide +kernel
theorem dX7_assume_20 : decode cX7_assume 20 = .ok (.ireturn, 1) := by decide +kernel
theorem dX7_assume_21 : decode cX7_assume 21 = .ok (.aload_n 0, 1) := by decide +kernel
theorem dX7_assume_22 : decode cX7_assume 22 = .ok (.iload_n 1, 1) := by decide +kernel
theorem dX7_assume_23 : decode cX7_assume 23 = .ok (.iload_n 2, 1) := by decide +kernel
theorem dX7_assume_24 : decode cX7_assume 24 = .ok (.invokevirtual 186, 3) := by decide +kernel
theorem dX7_assume_27 : decode cX7_assume 27 = .ok (.ifCond .eq 6, 3) := by decide +kernel
theorem dX7_assume_30 : decode cX7_assume 30 = .ok (.bipush (-103), 2) := by decide +kernel
theorem dX7_assume_32 : decode cX7_assume 32 = .ok (.ireturn, 1) := by decide +kernel
theorem dX7_assume_33 : decode cX7_assume 33 = .ok (.aload_n 0, 1) := by decide +kernel
theorem dX7_assume_34 : decode cX7_assume 34 = .ok (.getfield 183, 3) := by decide +kernel
theorem dX7_assume_37 : decode cX7_assume 37 = .ok (.bipush 6, 2) := by decide +kernel
theorem dX7_assume_39 : decode cX7_assume 39 = .ok (.if_icmp .ne 6, 3) := by decide +kernel
theorem dX7_assume_42 : decode cX7_assume 42 = .ok (.bipush (-104), 2) := by decide +kernel
theorem dX7_assume_44 : decode cX7_assume 44 = .ok (.ireturn, 1) := by decide +kernel
theorem dX7_assume_45 : decode cX7_assume 45 = .ok (.aload_n 0, 1) := by decide +kernel
theorem dX7_assume_46 : decode cX7_assume 46 = .ok (.getfield 34, 3) := by decide +kernel
theorem dX7_assume_49 : decode cX7_assume 49 = .ok (.aload_n 0, 1) := by decide +kernel
theorem dX7_assume_50 : decode cX7_assume 50 = .ok (.getfield 183, 3) := by decide +kernel
theorem dX7_assume_53 : decode cX7_assume 53 = .ok (.iload_n 1, 1) := by decide +kernel
theorem dX7_assume_54 : decode cX7_assume 54 = .ok (.iastore, 1) := by decide +kernel
theorem dX7_assume_55 : decode cX7_assume 55 = .ok (.aload_n 0, 1) := by decide +kernel
theorem dX7_assume_56 : decode cX7_assume 56 = .ok (.getfield 37, 3) := by decide +kernel
theorem dX7_assume_59 : decode cX7_assume 59 = .ok (.aload_n 0, 1) := by decide +kernel
theorem dX7_assume_60 : decode cX7_assume 60 = .ok (.getfield 183, 3) := by decide +kernel
theorem dX7_assume_63 : decode cX7_assume 63 = .ok (.iload_n 2, 1) := by decide +kernel
theorem dX7_assume_64 : decode cX7_assume 64 = .ok (.iastore, 1) := by decide +kernel
theorem dX7_assume_65 : decode cX7_assume 65 = .ok (.aload_n 0, 1) := by decide +kernel
theorem dX7_assume_66 : decode cX7_assume 66 = .ok (.dup, 1) := by decide +kernel
theorem dX7_assume_67 : decode cX7_assume 67 = .ok (.getfield 183, 3) := by decide +kernel
theorem dX7_assume_70 : decode cX7_assume 70 = .ok (.iconst 1, 1) := by decide +kernel
theorem dX7_assume_71 : decode cX7_assume 71 = .ok (.iadd, 1) := by decide +kernel
theorem dX7_assume_72 : decode cX7_assume 72 = .ok (.putfield 183, 3) := by decide +kernel
theorem dX7_assume_75 : decode cX7_assume 75 = .ok (.aload_n 0, 1) := by decide +kernel
theorem dX7_assume_76 : decode cX7_assume 76 = .ok (.getfield 183, 3) := by decide +kernel
theorem dX7_assume_79 : decode cX7_assume 79 = .ok (.iconst 1, 1) := by decide +kernel
theorem dX7_assume_80 : decode cX7_assume 80 = .ok (.isub, 1) := by decide +kernel
theorem dX7_assume_81 : decode cX7_assume 81 = .ok (.ireturn, 1) := by decide +kernel
theorem dX7_drop_0 : decode cX7_drop 0 = .ok (.aload_n 0, 1) := by decide +kernel
theorem dX7_drop_1 : decode cX7_drop 1 = .ok (.getfield 183, 3) := by decide +kernel
theorem dX7_drop_4 : decode cX7_drop 4 = .ok (.istore_n 1, 1) := by decide +kernel
theorem dX7_drop_5 : decode cX7_drop 5 = .ok (.aload_n 0, 1) := by decide +kernel
theorem dX7_drop_6 : decode cX7_drop 6 = .ok (.iconst 0, 1) := by decide +kernel
theorem dX7_drop_7 : decode cX7_drop 7 = .ok (.putfield 183, 3) := by decide +kernel
theorem dX7_drop_10 : decode cX7_drop 10 = .ok (.iload_n 1, 1) := by decide +kernel
theorem dX7_drop_11 : decode cX7_drop 11 = .ok (.ireturn, 1) := by decide +kernel
theorem ggX7_walks_X7_play : GoodIn wsX7_walks wsX7_play := goodIn_mem (fun _ h => List.mem_cons_of_mem _ (List.mem_append_left _ (List.mem_append_right _ (List.mem_append_left _ h)))) ok_wsX7_play
set_option maxRecDepth 20000 in
theorem gX7_walks_X7_play : GoodIn wsX7_walks (wsV RX7 171 RX7 yX7_play wsX7_play) := goodIn_app (goodIn_of _ (by decide +kernel)) ggX7_walks_X7_play
theorem ggX7_walks_X7_areLike : GoodIn wsX7_walks wsX7_areLike := goodIn_mem (fun _ h => List.mem_cons_of_mem _ (List.mem_append_left _ (List.mem_append_right _ (List.mem_append_right _ h)))) ok_wsX7_areLike
set_option maxRecDepth 20000 in
theorem gX7_walks_X7_areLike : GoodIn wsX7_walks (wsV RX7 192 RX7 yX7_areLike wsX7_areLike) := goodIn_app (goodIn_of _ (by decide +kernel)) ggX7_walks_X7_areLike
theorem dX7_walks_0 : decode cX7_walks 0 = .ok (.aload_n 0, 1) := by decide +kernel
theorem dX7_walks_1 : decode cX7_walks 1 = .ok (.iconst 1, 1) := by decide +kernel
theorem dX7_walks_2 : decode cX7_walks 2 = .ok (.iconst 0, 1) := by decide +kernel
theorem dX7_walks_3 : decode cX7_walks 3 = .ok (.aload_n 0, 1) := by decide +kernel
theorem dX7_walks_4 : decode cX7_walks 4 = .ok (.getfield 34, 3) := by decide +kernel
theorem dX7_walks_7 : decode cX7_walks 7 = .ok (.iload_n 1, 1) := by decide +kernel
theorem dX7_walks_8 : decode cX7_walks 8 = .ok (.iaload, 1) := by decide +kernel
theorem dX7_walks_9 : decode cX7_walks 9 = .ok (.iload_n 2, 1) := by decide +kernel
theorem dX7_walks_10 : decode cX7_walks 10 = .ok (.iload_n 3, 1) := by decide +kernel
theorem dX7_walks_11 : decode cX7_walks 11 = .ok (.invokevirtual 171, 3) := by decide +kernel
theorem dX7_walks_14 : decode cX7_walks 14 = .ok (.aload_n 0, 1) := by decide +kernel
theorem dX7_walks_15 : decode cX7_walks 15 = .ok (.iconst 2, 1) := by decide +kernel
theorem dX7_walks_16 : decode cX7_walks 16 = .ok (.iconst 1, 1) := by decide +kernel
theorem dX7_walks_17 : decode cX7_walks 17 = .ok (.aload_n 0, 1) := by decide +kernel
theorem dX7_walks_18 : decode cX7_walks 18 = .ok (.getfield 37, 3) := by decide +kernel
theorem dX7_walks_21 : decode cX7_walks 21 = .ok (.iload_n 1, 1) := by decide +kernel
theorem dX7_walks_22 : decode cX7_walks 22 = .ok (.iaload, 1) := by decide +kernel
theorem dX7_walks_23 : decode cX7_walks 23 = .ok (.iload_n 2, 1) := by decide +kernel
theorem dX7_walks_24 : decode cX7_walks 24 = .ok (.iload_n 3, 1) := by decide +kernel
theorem dX7_walks_25 : decode cX7_walks 25 = .ok (.invokevirtual 171, 3) := by decide +kernel
theorem dX7_walks_28 : decode cX7_walks 28 = .ok (.aload_n 0, 1) := by decide +kernel
theorem dX7_walks_29 : decode cX7_walks 29 = .ok (.getfield 52, 3) := by decide +kernel
theorem dX7_walks_32 : decode cX7_walks 32 = .ok (.iconst 1, 1) := by decide +kernel
theorem dX7_walks_33 : decode cX7_walks 33 = .ok (.iaload, 1) := by decide +kernel
theorem dX7_walks_34 : decode cX7_walks 34 = .ok (.iconst 2, 1) := by decide +kernel
theorem dX7_walks_35 : decode cX7_walks 35 = .ok (.if_icmp .eq 13, 3) := by decide +kernel
theorem dX7_walks_38 : decode cX7_walks 38 = .ok (.aload_n 0, 1) := by decide +kernel
theorem dX7_walks_39 : decode cX7_walks 39 = .ok (.getfield 52, 3) := by decide +kernel
theorem dX7_walks_42 : decode cX7_walks 42 = .ok (.iconst 2, 1) := by decide +kernel
theorem dX7_walks_43 : decode cX7_walks 43 = .ok (.iaload, 1) := by decide +kernel
theorem dX7_walks_44 : decode cX7_walks 44 = .ok (.iconst 2, 1) := by decide +kernel
theorem dX7_walks_45 : decode cX7_walks 45 = .ok (.if_icmp .ne 7, 3) := by decide +kernel
theorem dX7_walks_48 : decode cX7_walks 48 = .ok (.iconst 2, 1) := by decide +kernel
theorem dX7_walks_49 : decode cX7_walks 49 = .ok (.goto 15, 3) := by decide +kernel
theorem dX7_walks_52 : decode cX7_walks 52 = .ok (.aload_n 0, 1) := by decide +kernel
theorem dX7_walks_53 : decode cX7_walks 53 = .ok (.invokevirtual 192, 3) := by decide +kernel
theorem dX7_walks_56 : decode cX7_walks 56 = .ok (.ifCond .eq 7, 3) := by decide +kernel
theorem dX7_walks_59 : decode cX7_walks 59 = .ok (.iconst 1, 1) := by decide +kernel
theorem dX7_walks_60 : decode cX7_walks 60 = .ok (.goto 4, 3) := by decide +kernel
theorem dX7_walks_63 : decode cX7_walks 63 = .ok (.iconst 0, 1) := by decide +kernel
theorem dX7_walks_64 : decode cX7_walks 64 = .ok (.ireturn, 1) := by decide +kernel
theorem dX7_tells_0 : decode cX7_tells 0 = .ok (.aload_n 0, 1) := by decide +kernel
theorem dX7_tells_1 : decode cX7_tells 1 = .ok (.getfield 101, 3) := by decide +kernel
theorem dX7_tells_4 : decode cX7_tells 4 = .ok (.iconst 0, 1) := by decide +kernel
theorem dX7_tells_5 : decode cX7_tells 5 = .ok (.iload_n 1, 1) := by decide +kernel
theorem dX7_tells_6 : decode cX7_tells 6 = .ok (.iastore, 1) := by decide +kernel
theorem dX7_tells_7 : decode cX7_tells 7 = .ok (.aload_n 0, 1) := by decide +kernel
theorem dX7_tells_8 : decode cX7_tells 8 = .ok (.getfield 101, 3) := by decide +kernel
theorem dX7_tells_11 : decode cX7_tells 11 = .ok (.iconst 1, 1) := by decide +kernel
theorem dX7_tells_12 : decode cX7_tells 12 = .ok (.iload_n 2, 1) := by decide +kernel
theorem dX7_tells_13 : decode cX7_tells 13 = .ok (.iastore, 1) := by decide +kernel
theorem dX7_tells_14 : decode cX7_tells 14 = .ok (.aload_n 0, 1) := by decide +kernel
theorem dX7_tells_15 : decode cX7_tells 15 = .ok (.getfield 101, 3) := by decide +kernel
theorem dX7_tells_18 : decode cX7_tells 18 = .ok (.iconst 2, 1) := by decide +kernel
theorem dX7_tells_19 : decode cX7_tells 19 = .ok (.iload_n 3, 1) := by decide +kernel
theorem dX7_tells_20 : decode cX7_tells 20 = .ok (.iastore, 1) := by decide +kernel
theorem dX7_tells_21 : decode cX7_tells 21 = .ok (.aload_n 0, 1) := by decide +kernel
theorem dX7_tells_22 : decode cX7_tells 22 = .ok (.getfield 101, 3) := by decide +kernel
theorem dX7_tells_25 : decode cX7_tells 25 = .ok (.iconst 3, 1) := by decide +kernel
theorem dX7_tells_26 : decode cX7_tells 26 = .ok (.aload_n 0, 1) := by decide +kernel
theorem dX7_tells_27 : decode cX7_tells 27 = .ok (.getfield 147, 3) := by decide +kernel
theorem dX7_tells_30 : decode cX7_tells 30 = .ok (.iastore, 1) := by decide +kernel
theorem dX7_tells_31 : decode cX7_tells 31 = .ok (.aload_n 0, 1) := by decide +kernel
theorem dX7_tells_32 : decode cX7_tells 32 = .ok (.getfield 101, 3) := by decide +kernel
theorem dX7_tells_35 : decode cX7_tells 35 = .ok (.iconst 4, 1) := by decide +kernel
theorem dX7_tells_36 : decode cX7_tells 36 = .ok (.aload_n 0, 1) := by decide +kernel
theorem dX7_tells_37 : decode cX7_tells 37 = .ok (.getfield 150, 3) := by decide +kernel
theorem dX7_tells_40 : decode cX7_tells 40 = .ok (.iastore, 1) := by decide +kernel
theorem dX7_tells_41 : decode cX7_tells 41 = .ok (.aload_n 0, 1) := by decide +kernel
theorem dX7_tells_42 : decode cX7_tells 42 = .ok (.iconst 1, 1) := by decide +kernel
theorem dX7_tells_43 : decode cX7_tells 43 = .ok (.putfield 209, 3) := by decide +kernel
theorem dX7_tells_46 : decode cX7_tells 46 = .ok (.return_, 1) := by decide +kernel
theorem ggX7_proved_X7_walks : GoodIn wsX7_proved wsX7_walks := goodIn_mem (fun _ h => List.mem_cons_of_mem _ (List.mem_append_left _ (List.mem_append_right _ (List.mem_append_left _ h)))) ok_wsX7_walks
set_option maxRecDepth 20000 in
theorem gX7_proved_X7_walks : GoodIn wsX7_proved (wsV RX7 212 RX7 yX7_walks wsX7_walks) := goodIn_app (goodIn_of _ (by decide +kernel)) ggX7_proved_X7_walks
theorem ggX7_proved_X7_tells : GoodIn wsX7_proved wsX7_tells := goodIn_mem (fun _ h => List.mem_cons_of_mem _ (List.mem_append_left _ (List.mem_append_right _ (List.mem_append_right _ h)))) ok_wsX7_tells
set_option maxRecDepth 20000 in
theorem gX7_proved_X7_tells : GoodIn wsX7_proved (wsV RX7 215 RX7 yX7_tells wsX7_tells) := goodIn_app (goodIn_of _ (by decide +kernel)) ggX7_proved_X7_tells
theorem dX7_proved_0 : decode cX7_proved 0 = .ok (.iload_n 2, 1) := by decide +kernel
theorem dX7_proved_1 : decode cX7_proved 1 = .ok (.istore_n 3, 1) := by decide +kernel
theorem dX7_proved_2 : decode cX7_proved 2 = .ok (.iconst 0, 1) := by decide +kernel
theorem dX7_proved_3 : decode cX7_proved 3 = .ok (.istore 4, 2) := by decide +kernel
theorem dX7_proved_5 : decode cX7_proved 5 = .ok (.iload 4, 2) := by decide +kernel
theorem dX7_proved_7 : decode cX7_proved 7 = .ok (.aload_n 0, 1) := by decide +kernel
theorem dX7_proved_8 : decode cX7_proved 8 = .ok (.getfield 107, 3) := by decide +kernel
theorem dX7_proved_11 : decode cX7_proved 11 = .ok (.if_icmp .gt 135, 3) := by decide +kernel
theorem dX7_proved_14 : decode cX7_proved 14 = .ok (.iconst 0, 1) := by decide +kernel
theorem dX7_proved_15 : decode cX7_proved 15 = .ok (.istore 5, 2) := by decide +kernel
theorem dX7_proved_17 : decode cX7_proved 17 = .ok (.iload 5, 2) := by decide +kernel
theorem dX7_proved_19 : decode cX7_proved 19 = .ok (.aload_n 0, 1) := by decide +kernel
theorem dX7_proved_20 : decode cX7_proved 20 = .ok (.getfield 107, 3) := by decide +kernel
theorem dX7_proved_23 : decode cX7_proved 23 = .ok (.if_icmp .gt 117, 3) := by decide +kernel
theorem dX7_proved_26 : decode cX7_proved 26 = .ok (.aload_n 0, 1) := by decide +kernel
theorem dX7_proved_27 : decode cX7_proved 27 = .ok (.iconst 0, 1) := by decide +kernel
theorem dX7_proved_28 : decode cX7_proved 28 = .ok (.putfield 147, 3) := by decide +kernel
theorem dX7_proved_31 : decode cX7_proved 31 = .ok (.aload_n 0, 1) := by decide +kernel
theorem dX7_proved_32 : decode cX7_proved 32 = .ok (.getfield 147, 3) := by decide +kernel
theorem dX7_proved_35 : decode cX7_proved 35 = .ok (.aload_n 0, 1) := by decide +kernel
theorem dX7_proved_36 : decode cX7_proved 36 = .ok (.getfield 107, 3) := by decide +kernel
theorem dX7_proved_39 : decode cX7_proved 39 = .ok (.iconst 1, 1) := by decide +kernel
theorem dX7_proved_40 : decode cX7_proved 40 = .ok (.iadd, 1) := by decide +kernel
theorem dX7_proved_41 : decode cX7_proved 41 = .ok (.if_icmp .gt 93, 3) := by decide +kernel
theorem dX7_proved_44 : decode cX7_proved 44 = .ok (.aload_n 0, 1) := by decide +kernel
theorem dX7_proved_45 : decode cX7_proved 45 = .ok (.iconst 0, 1) := by decide +kernel
theorem dX7_proved_46 : decode cX7_proved 46 = .ok (.putfield 150, 3) := by decide +kernel
theorem dX7_proved_49 : decode cX7_proved 49 = .ok (.aload_n 0, 1) := by decide +kernel
theorem dX7_proved_50 : decode cX7_proved 50 = .ok (.getfield 150, 3) := by decide +kernel
theorem dX7_proved_53 : decode cX7_proved 53 = .ok (.aload_n 0, 1) := by decide +kernel
theorem dX7_proved_54 : decode cX7_proved 54 = .ok (.getfield 107, 3) := by decide +kernel
theorem dX7_proved_57 : decode cX7_proved 57 = .ok (.iconst 1, 1) := by decide +kernel
theorem dX7_proved_58 : decode cX7_proved 58 = .ok (.iadd, 1) := by decide +kernel
theorem dX7_proved_59 : decode cX7_proved 59 = .ok (.if_icmp .gt 62, 3) := by decide +kernel
theorem dX7_proved_62 : decode cX7_proved 62 = .ok (.aload_n 0, 1) := by decide +kernel
theorem dX7_proved_63 : decode cX7_proved 63 = .ok (.iload_n 1, 1) := by decide +kernel
theorem dX7_proved_64 : decode cX7_proved 64 = .ok (.iload 4, 2) := by decide +kernel
theorem dX7_proved_66 : decode cX7_proved 66 = .ok (.iload 5, 2) := by decide +kernel
theorem dX7_proved_68 : decode cX7_proved 68 = .ok (.invokevirtual 212, 3) := by decide +kernel
theorem dX7_proved_71 : decode cX7_proved 71 = .ok (.istore 6, 2) := by decide +kernel
theorem dX7_proved_73 : decode cX7_proved 73 = .ok (.iload 6, 2) := by decide +kernel
theorem dX7_proved_75 : decode cX7_proved 75 = .ok (.ifCond .eq 14, 3) := by decide +kernel
theorem dX7_proved_78 : decode cX7_proved 78 = .ok (.iload 6, 2) := by decide +kernel
theorem dX7_proved_80 : decode cX7_proved 80 = .ok (.iconst 2, 1) := by decide +kernel
theorem dX7_proved_81 : decode cX7_proved 81 = .ok (.if_icmp .ne 20, 3) := by decide +kernel
theorem dX7_proved_84 : decode cX7_proved 84 = .ok (.iload_n 3, 1) := by decide +kernel
theorem dX7_proved_85 : decode cX7_proved 85 = .ok (.iconst 1, 1) := by decide +kernel
theorem dX7_proved_86 : decode cX7_proved 86 = .ok (.if_icmp .ne 15, 3) := by decide +kernel
theorem dX7_proved_89 : decode cX7_proved 89 = .ok (.aload_n 0, 1) := by decide +kernel
theorem dX7_proved_90 : decode cX7_proved 90 = .ok (.iload_n 1, 1) := by decide +kernel
theorem dX7_proved_91 : decode cX7_proved 91 = .ok (.iload 4, 2) := by decide +kernel
theorem dX7_proved_93 : decode cX7_proved 93 = .ok (.iload 5, 2) := by decide +kernel
theorem dX7_proved_95 : decode cX7_proved 95 = .ok (.invokevirtual 215, 3) := by decide +kernel
theorem dX7_proved_98 : decode cX7_proved 98 = .ok (.iload 6, 2) := by decide +kernel
theorem dX7_proved_100 : decode cX7_proved 100 = .ok (.istore_n 3, 1) := by decide +kernel
theorem dX7_proved_101 : decode cX7_proved 101 = .ok (.iload 6, 2) := by decide +kernel
theorem dX7_proved_103 : decode cX7_proved 103 = .ok (.ifCond .ne 5, 3) := by decide +kernel
theorem dX7_proved_106 : decode cX7_proved 106 = .ok (.iconst 0, 1) := by decide +kernel
theorem dX7_proved_107 : decode cX7_proved 107 = .ok (.ireturn, 1) := by decide +kernel
theorem dX7_proved_108 : decode cX7_proved 108 = .ok (.aload_n 0, 1) := by decide +kernel
theorem dX7_proved_109 : decode cX7_proved 109 = .ok (.dup, 1) := by decide +kernel
theorem dX7_proved_110 : decode cX7_proved 110 = .ok (.getfield 150, 3) := by decide +kernel
theorem dX7_proved_113 : decode cX7_proved 113 = .ok (.iconst 1, 1) := by decide +kernel
theorem dX7_proved_114 : decode cX7_proved 114 = .ok (.iadd, 1) := by decide +kernel
theorem dX7_proved_115 : decode cX7_proved 115 = .ok (.putfield 150, 3) := by decide +kernel
theorem dX7_proved_118 : decode cX7_proved 118 = .ok (.goto (-69), 3) := by decide +kernel
theorem dX7_proved_121 : decode cX7_proved 121 = .ok (.aload_n 0, 1) := by decide +kernel
theorem dX7_proved_122 : decode cX7_proved 122 = .ok (.dup, 1) := by decide +kernel
theorem dX7_proved_123 : decode cX7_proved 123 = .ok (.getfield 147, 3) := by decide +kernel
theorem dX7_proved_126 : decode cX7_proved 126 = .ok (.iconst 1, 1) := by decide +kernel
theorem dX7_proved_127 : decode cX7_proved 127 = .ok (.iadd, 1) := by decide +kernel
theorem dX7_proved_128 : decode cX7_proved 128 = .ok (.putfield 147, 3) := by decide +kernel
theorem dX7_proved_131 : decode cX7_proved 131 = .ok (.goto (-100), 3) := by decide +kernel
theorem dX7_proved_134 : decode cX7_proved 134 = .ok (.iinc 5 1, 3) := by decide +kernel
theorem dX7_proved_137 : decode cX7_proved 137 = .ok (.goto (-120), 3) := by decide +kernel
theorem dX7_proved_140 : decode cX7_proved 140 = .ok (.iinc 4 1, 3) := by decide +kernel
theorem dX7_proved_143 : decode cX7_proved 143 = .ok (.goto (-138), 3) := by decide +kernel
theorem dX7_proved_146 : decode cX7_proved 146 = .ok (.iload_n 3, 1) := by decide +kernel
theorem dX7_proved_147 : decode cX7_proved 147 = .ok (.ireturn, 1) := by decide +kernel
theorem ggX7_prove_X7_proved : GoodIn wsX7_prove wsX7_proved := goodIn_mem (fun _ h => List.mem_cons_of_mem _ (List.mem_append_left _ (List.mem_append_right _ h))) ok_wsX7_proved
set_option maxRecDepth 20000 in
theorem gX7_prove_X7_proved : GoodIn wsX7_prove (wsV RX7 217 RX7 yX7_proved wsX7_proved) := goodIn_app (goodIn_of _ (by decide +kernel)) ggX7_prove_X7_proved
theorem dX7_prove_0 : decode cX7_prove 0 = .ok (.aload_n 0, 1) := by decide +kernel
theorem dX7_prove_1 : decode cX7_prove 1 = .ok (.iconst 0, 1) := by decide +kernel
theorem dX7_prove_2 : decode cX7_prove 2 = .ok (.putfield 209, 3) := by decide +kernel
theorem dX7_prove_5 : decode cX7_prove 5 = .ok (.aload_n 0, 1) := by decide +kernel
theorem dX7_prove_6 : decode cX7_prove 6 = .ok (.getfield 183, 3) := by decide +kernel
theorem dX7_prove_9 : decode cX7_prove 9 = .ok (.ifCond .ne 5, 3) := by decide +kernel
theorem dX7_prove_12 : decode cX7_prove 12 = .ok (.iconst (-1), 1) := by decide +kernel
theorem dX7_prove_13 : decode cX7_prove 13 = .ok (.ireturn, 1) := by decide +kernel
theorem dX7_prove_14 : decode cX7_prove 14 = .ok (.aload_n 0, 1) := by decide +kernel
theorem dX7_prove_15 : decode cX7_prove 15 = .ok (.iconst 1, 1) := by decide +kernel
theorem dX7_prove_16 : decode cX7_prove 16 = .ok (.putfield 139, 3) := by decide +kernel
theorem dX7_prove_19 : decode cX7_prove 19 = .ok (.iconst 1, 1) := by decide +kernel
theorem dX7_prove_20 : decode cX7_prove 20 = .ok (.istore_n 1, 1) := by decide +kernel
theorem dX7_prove_21 : decode cX7_prove 21 = .ok (.iconst 0, 1) := by decide +kernel
theorem dX7_prove_22 : decode cX7_prove 22 = .ok (.istore_n 2, 1) := by decide +kernel
theorem dX7_prove_23 : decode cX7_prove 23 = .ok (.iload_n 2, 1) := by decide +kernel
theorem dX7_prove_24 : decode cX7_prove 24 = .ok (.aload_n 0, 1) := by decide +kernel
theorem dX7_prove_25 : decode cX7_prove 25 = .ok (.getfield 183, 3) := by decide +kernel
theorem dX7_prove_28 : decode cX7_prove 28 = .ok (.if_icmp .ge 20, 3) := by decide +kernel
theorem dX7_prove_31 : decode cX7_prove 31 = .ok (.iload_n 1, 1) := by decide +kernel
theorem dX7_prove_32 : decode cX7_prove 32 = .ok (.ifCond .eq 16, 3) := by decide +kernel
theorem dX7_prove_35 : decode cX7_prove 35 = .ok (.aload_n 0, 1) := by decide +kernel
theorem dX7_prove_36 : decode cX7_prove 36 = .ok (.iload_n 2, 1) := by decide +kernel
theorem dX7_prove_37 : decode cX7_prove 37 = .ok (.iload_n 1, 1) := by decide +kernel
theorem dX7_prove_38 : decode cX7_prove 38 = .ok (.invokevirtual 217, 3) := by decide +kernel
theorem dX7_prove_41 : decode cX7_prove 41 = .ok (.istore_n 1, 1) := by decide +kernel
theorem dX7_prove_42 : decode cX7_prove 42 = .ok (.iinc 2 1, 3) := by decide +kernel
theorem dX7_prove_45 : decode cX7_prove 45 = .ok (.goto (-22), 3) := by decide +kernel
theorem dX7_prove_48 : decode cX7_prove 48 = .ok (.iload_n 1, 1) := by decide +kernel
theorem dX7_prove_49 : decode cX7_prove 49 = .ok (.ireturn, 1) := by decide +kernel
theorem ggX7_why_X7_in : GoodIn wsX7_why wsX7_in := goodIn_mem (fun _ h => List.mem_cons_of_mem _ (List.mem_append_left _ (List.mem_append_right _ h))) ok_wsX7_in
set_option maxRecDepth 20000 in
theorem gX7_why_X7_in : GoodIn wsX7_why (va_wsS RX7 110 yX7_in wsX7_in) := goodIn_app (goodIn_of _ (by decide +kernel)) ggX7_why_X7_in
theorem dX7_why_0 : decode cX7_why 0 = .ok (.iload_n 1, 1) := by decide +kernel
theorem dX7_why_1 : decode cX7_why 1 = .ok (.iconst 0, 1) := by decide +kernel
theorem dX7_why_2 : decode cX7_why 2 = .ok (.iconst 4, 1) := by decide +kernel
theorem dX7_why_3 : decode cX7_why 3 = .ok (.invokestatic 110, 3) := by decide +kernel
theorem dX7_why_6 : decode cX7_why 6 = .ok (.ifCond .ne 6, 3) := by decide +kernel
theorem dX7_why_9 : decode cX7_why 9 = .ok (.bipush (-101), 2) := by decide +kernel
theorem dX7_why_11 : decode cX7_why 11 = .ok (.ireturn, 1) := by decide +kernel
theorem dX7_why_12 : decode cX7_why 12 = .ok (.aload_n 0, 1) := by decide +kernel
theorem dX7_why_13 : decode cX7_why 13 = .ok (.getfield 209, 3) := by decide +kernel
theorem dX7_why_16 : decode cX7_why 16 = .ok (.ifCond .eq 12, 3) := by decide +kernel
theorem dX7_why_19 : decode cX7_why 19 = .ok (.aload_n 0, 1) := by decide +kernel
theorem dX7_why_20 : decode cX7_why 20 = .ok (.getfield 101, 3) := by decide +kernel
theorem dX7_why_23 : decode cX7_why 23 = .ok (.iload_n 1, 1) := by decide +kernel
theorem dX7_why_24 : decode cX7_why 24 = .ok (.iaload, 1) := by decide +kernel
theorem dX7_why_25 : decode cX7_why 25 = .ok (.goto 4, 3) := by decide +kernel
theorem dX7_why_28 : decode cX7_why 28 = .ok (.iconst (-1), 1) := by decide +kernel
theorem dX7_why_29 : decode cX7_why 29 = .ok (.ireturn, 1) := by decide +kernel
theorem ggX7_count_X7_in : GoodIn wsX7_count wsX7_in := goodIn_mem (fun _ h => List.mem_cons_of_mem _ (List.mem_append_left _ (List.mem_append_right _ h))) ok_wsX7_in
set_option maxRecDepth 20000 in
theorem gX7_count_X7_in : GoodIn wsX7_count (va_wsS RX7 110 yX7_in wsX7_in) := goodIn_app (goodIn_of _ (by decide +kernel)) ggX7_count_X7_in
theorem dX7_count_0 : decode cX7_count 0 = .ok (.iload_n 1, 1) := by decide +kernel
theorem dX7_count_1 : decode cX7_count 1 = .ok (.iconst 4, 1) := by decide +kernel
theorem dX7_count_2 : decode cX7_count 2 = .ok (.bipush 7, 2) := by decide +kernel
theorem dX7_count_4 : decode cX7_count 4 = .ok (.invokestatic 110, 3) := by decide +kernel
theorem dX7_count_7 : decode cX7_count 7 = .ok (.ifCond .eq 12, 3) := by decide +kernel
theorem dX7_count_10 : decode cX7_count 10 = .ok (.aload_n 0, 1) := by decide +kernel
theorem dX7_count_11 : decode cX7_count 11 = .ok (.getfield 28, 3) := by decide +kernel
theorem dX7_count_14 : decode cX7_count 14 = .ok (.iload_n 1, 1) := by decide +kernel
theorem dX7_count_15 : decode cX7_count 15 = .ok (.iconst 4, 1) := by decide +kernel
theorem dX7_count_16 : decode cX7_count 16 = .ok (.isub, 1) := by decide +kernel
theorem dX7_count_17 : decode cX7_count 17 = .ok (.iaload, 1) := by decide +kernel
theorem dX7_count_18 : decode cX7_count 18 = .ok (.ireturn, 1) := by decide +kernel
theorem dX7_count_19 : decode cX7_count 19 = .ok (.iload_n 1, 1) := by decide +kernel
theorem dX7_count_20 : decode cX7_count 20 = .ok (.bipush 8, 2) := by decide +kernel
theorem dX7_count_22 : decode cX7_count 22 = .ok (.bipush 11, 2) := by decide +kernel
theorem dX7_count_24 : decode cX7_count 24 = .ok (.invokestatic 110, 3) := by decide +kernel
theorem dX7_count_27 : decode cX7_count 27 = .ok (.ifCond .eq 13, 3) := by decide +kernel
theorem dX7_count_30 : decode cX7_count 30 = .ok (.aload_n 0, 1) := by decide +kernel
theorem dX7_count_31 : decode cX7_count 31 = .ok (.getfield 31, 3) := by decide +kernel
theorem dX7_count_34 : decode cX7_count 34 = .ok (.iload_n 1, 1) := by decide +kernel
theorem dX7_count_35 : decode cX7_count 35 = .ok (.bipush 8, 2) := by decide +kernel
theorem dX7_count_37 : decode cX7_count 37 = .ok (.isub, 1) := by decide +kernel
theorem dX7_count_38 : decode cX7_count 38 = .ok (.iaload, 1) := by decide +kernel
theorem dX7_count_39 : decode cX7_count 39 = .ok (.ireturn, 1) := by decide +kernel
theorem dX7_count_40 : decode cX7_count 40 = .ok (.iload_n 1, 1) := by decide +kernel
theorem dX7_count_41 : decode cX7_count 41 = .ok (.ifCond .ne 12, 3) := by decide +kernel
theorem dX7_count_44 : decode cX7_count 44 = .ok (.aload_n 0, 1) := by decide +kernel
theorem dX7_count_45 : decode cX7_count 45 = .ok (.getfield 7, 3) := by decide +kernel
theorem dX7_count_48 : decode cX7_count 48 = .ok (.iconst 0, 1) := by decide +kernel
theorem dX7_count_49 : decode cX7_count 49 = .ok (.iaload, 1) := by decide +kernel
theorem dX7_count_50 : decode cX7_count 50 = .ok (.goto 43, 3) := by decide +kernel
theorem dX7_count_53 : decode cX7_count 53 = .ok (.iload_n 1, 1) := by decide +kernel
theorem dX7_count_54 : decode cX7_count 54 = .ok (.iconst 1, 1) := by decide +kernel
theorem dX7_count_55 : decode cX7_count 55 = .ok (.if_icmp .ne 12, 3) := by decide +kernel
theorem dX7_count_58 : decode cX7_count 58 = .ok (.aload_n 0, 1) := by decide +kernel
theorem dX7_count_59 : decode cX7_count 59 = .ok (.getfield 7, 3) := by decide +kernel
theorem dX7_count_62 : decode cX7_count 62 = .ok (.iconst 1, 1) := by decide +kernel
theorem dX7_count_63 : decode cX7_count 63 = .ok (.iaload, 1) := by decide +kernel
theorem dX7_count_64 : decode cX7_count 64 = .ok (.goto 29, 3) := by decide +kernel
theorem dX7_count_67 : decode cX7_count 67 = .ok (.iload_n 1, 1) := by decide +kernel
theorem dX7_count_68 : decode cX7_count 68 = .ok (.iconst 2, 1) := by decide +kernel
theorem dX7_count_69 : decode cX7_count 69 = .ok (.if_icmp .ne 10, 3) := by decide +kernel
theorem dX7_count_72 : decode cX7_count 72 = .ok (.aload_n 0, 1) := by decide +kernel
theorem dX7_count_73 : decode cX7_count 73 = .ok (.getfield 183, 3) := by decide +kernel
theorem dX7_count_76 : decode cX7_count 76 = .ok (.goto 17, 3) := by decide +kernel
theorem dX7_count_79 : decode cX7_count 79 = .ok (.iload_n 1, 1) := by decide +kernel
theorem dX7_count_80 : decode cX7_count 80 = .ok (.iconst 3, 1) := by decide +kernel
theorem dX7_count_81 : decode cX7_count 81 = .ok (.if_icmp .ne 10, 3) := by decide +kernel
theorem dX7_count_84 : decode cX7_count 84 = .ok (.aload_n 0, 1) := by decide +kernel
theorem dX7_count_85 : decode cX7_count 85 = .ok (.getfield 104, 3) := by decide +kernel
theorem dX7_count_88 : decode cX7_count 88 = .ok (.goto 5, 3) := by decide +kernel
theorem dX7_count_91 : decode cX7_count 91 = .ok (.bipush (-101), 2) := by decide +kernel
theorem dX7_count_93 : decode cX7_count 93 = .ok (.ireturn, 1) := by decide +kernel
theorem dJ6_numberOfTrailingZeros_0f7a4_0 : decode cJ6_numberOfTrailingZeros_0f7a4 0 = .ok (.iload_n 0, 1) := by decide +kernel
theorem dJ6_numberOfTrailingZeros_0f7a4_1 : decode cJ6_numberOfTrailingZeros_0f7a4 1 = .ok (.iconst (-1), 1) := by decide +kernel
theorem dJ6_numberOfTrailingZeros_0f7a4_2 : decode cJ6_numberOfTrailingZeros_0f7a4 2 = .ok (.ixor, 1) := by decide +kernel
theorem dJ6_numberOfTrailingZeros_0f7a4_3 : decode cJ6_numberOfTrailingZeros_0f7a4 3 = .ok (.iload_n 0, 1) := by decide +kernel
theorem dJ6_numberOfTrailingZeros_0f7a4_4 : decode cJ6_numberOfTrailingZeros_0f7a4 4 = .ok (.iconst 1, 1) := by decide +kernel
theorem dJ6_numberOfTrailingZeros_0f7a4_5 : decode cJ6_numberOfTrailingZeros_0f7a4 5 = .ok (.isub, 1) := by decide +kernel
theorem dJ6_numberOfTrailingZeros_0f7a4_6 : decode cJ6_numberOfTrailingZeros_0f7a4 6 = .ok (.iand, 1) := by decide +kernel
theorem dJ6_numberOfTrailingZeros_0f7a4_7 : decode cJ6_numberOfTrailingZeros_0f7a4 7 = .ok (.istore_n 0, 1) := by decide +kernel
theorem dJ6_numberOfTrailingZeros_0f7a4_8 : decode cJ6_numberOfTrailingZeros_0f7a4 8 = .ok (.iload_n 0, 1) := by decide +kernel
theorem dJ6_numberOfTrailingZeros_0f7a4_9 : decode cJ6_numberOfTrailingZeros_0f7a4 9 = .ok (.ifCond .gt 8, 3) := by decide +kernel
theorem dJ6_numberOfTrailingZeros_0f7a4_12 : decode cJ6_numberOfTrailingZeros_0f7a4 12 = .ok (.iload_n 0, 1) := by decide +kernel
theorem dJ6_numberOfTrailingZeros_0f7a4_13 : decode cJ6_numberOfTrailingZeros_0f7a4 13 = .ok (.bipush 32, 2) := by decide +kernel
theorem dJ6_numberOfTrailingZeros_0f7a4_15 : decode cJ6_numberOfTrailingZeros_0f7a4 15 = .ok (.iand, 1) := by decide +kernel
theorem dJ6_numberOfTrailingZeros_0f7a4_16 : decode cJ6_numberOfTrailingZeros_0f7a4 16 = .ok (.ireturn, 1) := by decide +kernel
theorem dJ6_numberOfTrailingZeros_0f7a4_17 : decode cJ6_numberOfTrailingZeros_0f7a4 17 = .ok (.iconst 1, 1) := by decide +kernel
theorem dJ6_numberOfTrailingZeros_0f7a4_18 : decode cJ6_numberOfTrailingZeros_0f7a4 18 = .ok (.istore_n 1, 1) := by decide +kernel
theorem dJ6_numberOfTrailingZeros_0f7a4_19 : decode cJ6_numberOfTrailingZeros_0f7a4 19 = .ok (.iload_n 0, 1) := by decide +kernel
theorem dJ6_numberOfTrailingZeros_0f7a4_20 : decode cJ6_numberOfTrailingZeros_0f7a4 20 = .ok (.ldc_w 264, 3) := by decide +kernel
theorem dJ6_numberOfTrailingZeros_0f7a4_23 : decode cJ6_numberOfTrailingZeros_0f7a4 23 = .ok (.if_icmp .le 11, 3) := by decide +kernel
theorem dJ6_numberOfTrailingZeros_0f7a4_26 : decode cJ6_numberOfTrailingZeros_0f7a4 26 = .ok (.iinc 1 16, 3) := by decide +kernel
theorem dJ6_numberOfTrailingZeros_0f7a4_29 : decode cJ6_numberOfTrailingZeros_0f7a4 29 = .ok (.iload_n 0, 1) := by decide +kernel
theorem dJ6_numberOfTrailingZeros_0f7a4_30 : decode cJ6_numberOfTrailingZeros_0f7a4 30 = .ok (.bipush 16, 2) := by decide +kernel
theorem dJ6_numberOfTrailingZeros_0f7a4_32 : decode cJ6_numberOfTrailingZeros_0f7a4 32 = .ok (.iushr, 1) := by decide +kernel
theorem dJ6_numberOfTrailingZeros_0f7a4_33 : decode cJ6_numberOfTrailingZeros_0f7a4 33 = .ok (.istore_n 0, 1) := by decide +kernel
theorem dJ6_numberOfTrailingZeros_0f7a4_34 : decode cJ6_numberOfTrailingZeros_0f7a4 34 = .ok (.iload_n 0, 1) := by decide +kernel
theorem dJ6_numberOfTrailingZeros_0f7a4_35 : decode cJ6_numberOfTrailingZeros_0f7a4 35 = .ok (.sipush 256, 3) := by decide +kernel
theorem dJ6_numberOfTrailingZeros_0f7a4_38 : decode cJ6_numberOfTrailingZeros_0f7a4 38 = .ok (.if_icmp .le 11, 3) := by decide +kernel
theorem dJ6_numberOfTrailingZeros_0f7a4_41 : decode cJ6_numberOfTrailingZeros_0f7a4 41 = .ok (.iinc 1 8, 3) := by decide +kernel
theorem dJ6_numberOfTrailingZeros_0f7a4_44 : decode cJ6_numberOfTrailingZeros_0f7a4 44 = .ok (.iload_n 0, 1) := by decide +kernel
theorem dJ6_numberOfTrailingZeros_0f7a4_45 : decode cJ6_numberOfTrailingZeros_0f7a4 45 = .ok (.bipush 8, 2) := by decide +kernel
theorem dJ6_numberOfTrailingZeros_0f7a4_47 : decode cJ6_numberOfTrailingZeros_0f7a4 47 = .ok (.iushr, 1) := by decide +kernel
theorem dJ6_numberOfTrailingZeros_0f7a4_48 : decode cJ6_numberOfTrailingZeros_0f7a4 48 = .ok (.istore_n 0, 1) := by decide +kernel
theorem dJ6_numberOfTrailingZeros_0f7a4_49 : decode cJ6_numberOfTrailingZeros_0f7a4 49 = .ok (.iload_n 0, 1) := by decide +kernel
theorem dJ6_numberOfTrailingZeros_0f7a4_50 : decode cJ6_numberOfTrailingZeros_0f7a4 50 = .ok (.bipush 16, 2) := by decide +kernel
theorem dJ6_numberOfTrailingZeros_0f7a4_52 : decode cJ6_numberOfTrailingZeros_0f7a4 52 = .ok (.if_icmp .le 10, 3) := by decide +kernel
theorem dJ6_numberOfTrailingZeros_0f7a4_55 : decode cJ6_numberOfTrailingZeros_0f7a4 55 = .ok (.iinc 1 4, 3) := by decide +kernel
theorem dJ6_numberOfTrailingZeros_0f7a4_58 : decode cJ6_numberOfTrailingZeros_0f7a4 58 = .ok (.iload_n 0, 1) := by decide +kernel
theorem dJ6_numberOfTrailingZeros_0f7a4_59 : decode cJ6_numberOfTrailingZeros_0f7a4 59 = .ok (.iconst 4, 1) := by decide +kernel
theorem dJ6_numberOfTrailingZeros_0f7a4_60 : decode cJ6_numberOfTrailingZeros_0f7a4 60 = .ok (.iushr, 1) := by decide +kernel
theorem dJ6_numberOfTrailingZeros_0f7a4_61 : decode cJ6_numberOfTrailingZeros_0f7a4 61 = .ok (.istore_n 0, 1) := by decide +kernel
theorem dJ6_numberOfTrailingZeros_0f7a4_62 : decode cJ6_numberOfTrailingZeros_0f7a4 62 = .ok (.iload_n 0, 1) := by decide +kernel
theorem dJ6_numberOfTrailingZeros_0f7a4_63 : decode cJ6_numberOfTrailingZeros_0f7a4 63 = .ok (.iconst 4, 1) := by decide +kernel
theorem dJ6_numberOfTrailingZeros_0f7a4_64 : decode cJ6_numberOfTrailingZeros_0f7a4 64 = .ok (.if_icmp .le 10, 3) := by decide +kernel
theorem dJ6_numberOfTrailingZeros_0f7a4_67 : decode cJ6_numberOfTrailingZeros_0f7a4 67 = .ok (.iinc 1 2, 3) := by decide +kernel
theorem dJ6_numberOfTrailingZeros_0f7a4_70 : decode cJ6_numberOfTrailingZeros_0f7a4 70 = .ok (.iload_n 0, 1) := by decide +kernel
theorem dJ6_numberOfTrailingZeros_0f7a4_71 : decode cJ6_numberOfTrailingZeros_0f7a4 71 = .ok (.iconst 2, 1) := by decide +kernel
theorem dJ6_numberOfTrailingZeros_0f7a4_72 : decode cJ6_numberOfTrailingZeros_0f7a4 72 = .ok (.iushr, 1) := by decide +kernel
theorem dJ6_numberOfTrailingZeros_0f7a4_73 : decode cJ6_numberOfTrailingZeros_0f7a4 73 = .ok (.istore_n 0, 1) := by decide +kernel
theorem dJ6_numberOfTrailingZeros_0f7a4_74 : decode cJ6_numberOfTrailingZeros_0f7a4 74 = .ok (.iload_n 1, 1) := by decide +kernel
theorem dJ6_numberOfTrailingZeros_0f7a4_75 : decode cJ6_numberOfTrailingZeros_0f7a4 75 = .ok (.iload_n 0, 1) := by decide +kernel
theorem dJ6_numberOfTrailingZeros_0f7a4_76 : decode cJ6_numberOfTrailingZeros_0f7a4 76 = .ok (.iconst 1, 1) := by decide +kernel
theorem dJ6_numberOfTrailingZeros_0f7a4_77 : decode cJ6_numberOfTrailingZeros_0f7a4 77 = .ok (.iushr, 1) := by decide +kernel
theorem dJ6_numberOfTrailingZeros_0f7a4_78 : decode cJ6_numberOfTrailingZeros_0f7a4 78 = .ok (.iadd, 1) := by decide +kernel
theorem dJ6_numberOfTrailingZeros_0f7a4_79 : decode cJ6_numberOfTrailingZeros_0f7a4 79 = .ok (.ireturn, 1) := by decide +kernel
theorem dJ9_max_7cf53_0 : decode cJ9_max_7cf53 0 = .ok (.iload_n 0, 1) := by decide +kernel
theorem dJ9_max_7cf53_1 : decode cJ9_max_7cf53 1 = .ok (.iload_n 1, 1) := by decide +kernel
theorem dJ9_max_7cf53_2 : decode cJ9_max_7cf53 2 = .ok (.if_icmp .lt 7, 3) := by decide +kernel
theorem dJ9_max_7cf53_5 : decode cJ9_max_7cf53 5 = .ok (.iload_n 0, 1) := by decide +kernel
theorem dJ9_max_7cf53_6 : decode cJ9_max_7cf53 6 = .ok (.goto 4, 3) := by decide +kernel
theorem dJ9_max_7cf53_9 : decode cJ9_max_7cf53 9 = .ok (.iload_n 1, 1) := by decide +kernel
theorem dJ9_max_7cf53_10 : decode cJ9_max_7cf53 10 = .ok (.ireturn, 1) := by decide +kernel
theorem dL_cell_0 : decode cL_cell 0 = .ok (.iload_n 1, 1) := by decide +kernel
theorem dL_cell_1 : decode cL_cell 1 = .ok (.aload_n 0, 1) := by decide +kernel
theorem dL_cell_2 : decode cL_cell 2 = .ok (.arraylength, 1) := by decide +kernel
theorem dL_cell_3 : decode cL_cell 3 = .ok (.if_icmp .ge 9, 3) := by decide +kernel
theorem dL_cell_6 : decode cL_cell 6 = .ok (.aload_n 0, 1) := by decide +kernel
theorem dL_cell_7 : decode cL_cell 7 = .ok (.iload_n 1, 1) := by decide +kernel
theorem dL_cell_8 : decode cL_cell 8 = .ok (.iaload, 1) := by decide +kernel
theorem dL_cell_9 : decode cL_cell 9 = .ok (.goto 4, 3) := by decide +kernel
theorem dL_cell_12 : decode cL_cell 12 = .ok (.iconst 0, 1) := by decide +kernel
theorem dL_cell_13 : decode cL_cell 13 = .ok (.ireturn, 1) := by decide +kernel
theorem ggL_law_L_cell : GoodIn wsL_law wsL_cell := lwL_cell
set_option maxRecDepth 20000 in
theorem gL_law_L_cell : GoodIn wsL_law (va_wsS RL 9 yL_cell wsL_cell) := goodIn_app (goodIn_of _ (by decide +kernel)) ggL_law_L_cell
theorem ggL_law_X6_init : GoodIn wsL_law wsX6_init := lwX6_init
set_option maxRecDepth 20000 in
theorem gL_law_X6_init : GoodIn wsL_law (wsX6_init) := ggL_law_X6_init
theorem ggL_law_X7_init : GoodIn wsL_law wsX7_init := lwX7_init
set_option maxRecDepth 20000 in
theorem gL_law_X7_init : GoodIn wsL_law (wsX7_init) := ggL_law_X7_init
theorem ggL_law_X6_method : GoodIn wsL_law wsX6_method := lwX6_method
set_option maxRecDepth 20000 in
theorem gL_law_X6_method : GoodIn wsL_law (wsV RL 21 RX6 yX6_method wsX6_method) := goodIn_app (goodIn_of _ (by decide +kernel)) ggL_law_X6_method
theorem ggL_law_X7_method : GoodIn wsL_law wsX7_method := lwX7_method
set_option maxRecDepth 20000 in
theorem gL_law_X7_method : GoodIn wsL_law (wsV RL 25 RX7 yX7_method wsX7_method) := goodIn_app (goodIn_of _ (by decide +kernel)) ggL_law_X7_method
theorem ggL_law_X6_op : GoodIn wsL_law wsX6_op := lwX6_op
set_option maxRecDepth 20000 in
theorem gL_law_X6_op : GoodIn wsL_law (wsV RL 26 RX6 yX6_op wsX6_op) := goodIn_app (goodIn_of _ (by decide +kernel)) ggL_law_X6_op
theorem ggL_law_X7_op : GoodIn wsL_law wsX7_op := lwX7_op
set_option maxRecDepth 20000 in
theorem gL_law_X7_op : GoodIn wsL_law (wsV RL 30 RX7 yX7_op wsX7_op) := goodIn_app (goodIn_of _ (by decide +kernel)) ggL_law_X7_op
theorem ggL_law_X6_clear : GoodIn wsL_law wsX6_clear := lwX6_clear
set_option maxRecDepth 20000 in
theorem gL_law_X6_clear : GoodIn wsL_law (wsV RL 31 RX6 yX6_clear wsX6_clear) := goodIn_app (goodIn_of _ (by decide +kernel)) ggL_law_X6_clear
theorem ggL_law_X7_clear : GoodIn wsL_law wsX7_clear := lwX7_clear
set_option maxRecDepth 20000 in
theorem gL_law_X7_clear : GoodIn wsL_law (wsV RL 35 RX7 yX7_clear wsX7_clear) := goodIn_app (goodIn_of _ (by decide +kernel)) ggL_law_X7_clear
theorem ggL_law_X6_run : GoodIn wsL_law wsX6_run := lwX6_run
set_option maxRecDepth 20000 in
theorem gL_law_X6_run : GoodIn wsL_law (wsV RL 36 RX6 yX6_run wsX6_run) := goodIn_app (goodIn_of _ (by decide +kernel)) ggL_law_X6_run
theorem ggL_law_X7_run : GoodIn wsL_law wsX7_run := lwX7_run
set_option maxRecDepth 20000 in
theorem gL_law_X7_run : GoodIn wsL_law (wsV RL 40 RX7 yX7_run wsX7_run) := goodIn_app (goodIn_of _ (by decide +kernel)) ggL_law_X7_run
theorem ggL_law_X6_ran : GoodIn wsL_law wsX6_ran := lwX6_ran
set_option maxRecDepth 20000 in
theorem gL_law_X6_ran : GoodIn wsL_law (wsV RL 41 RX6 yX6_ran wsX6_ran) := goodIn_app (goodIn_of _ (by decide +kernel)) ggL_law_X6_ran
theorem ggL_law_X7_ran : GoodIn wsL_law wsX7_ran := lwX7_ran
set_option maxRecDepth 20000 in
theorem gL_law_X7_ran : GoodIn wsL_law (wsV RL 44 RX7 yX7_ran wsX7_ran) := goodIn_app (goodIn_of _ (by decide +kernel)) ggL_law_X7_ran
theorem ggL_law_X6_told : GoodIn wsL_law wsX6_told := lwX6_told
set_option maxRecDepth 20000 in
theorem gL_law_X6_told : GoodIn wsL_law (wsV RL 45 RX6 yX6_told wsX6_told) := goodIn_app (goodIn_of _ (by decide +kernel)) ggL_law_X6_told
theorem ggL_law_X7_told : GoodIn wsL_law wsX7_told := lwX7_told
set_option maxRecDepth 20000 in
theorem gL_law_X7_told : GoodIn wsL_law (wsV RL 48 RX7 yX7_told wsX7_told) := goodIn_app (goodIn_of _ (by decide +kernel)) ggL_law_X7_told
theorem ggL_law_X6_rename : GoodIn wsL_law wsX6_rename := lwX6_rename
set_option maxRecDepth 20000 in
theorem gL_law_X6_rename : GoodIn wsL_law (wsV RL 49 RX6 yX6_rename wsX6_rename) := goodIn_app (goodIn_of _ (by decide +kernel)) ggL_law_X6_rename
theorem ggL_law_X7_rename : GoodIn wsL_law wsX7_rename := lwX7_rename
set_option maxRecDepth 20000 in
theorem gL_law_X7_rename : GoodIn wsL_law (wsV RL 52 RX7 yX7_rename wsX7_rename) := goodIn_app (goodIn_of _ (by decide +kernel)) ggL_law_X7_rename
theorem ggL_law_X6_group : GoodIn wsL_law wsX6_group := lwX6_group
set_option maxRecDepth 20000 in
theorem gL_law_X6_group : GoodIn wsL_law (wsV RL 53 RX6 yX6_group wsX6_group) := goodIn_app (goodIn_of _ (by decide +kernel)) ggL_law_X6_group
theorem ggL_law_X7_group : GoodIn wsL_law wsX7_group := lwX7_group
set_option maxRecDepth 20000 in
theorem gL_law_X7_group : GoodIn wsL_law (wsV RL 56 RX7 yX7_group wsX7_group) := goodIn_app (goodIn_of _ (by decide +kernel)) ggL_law_X7_group
theorem ggL_law_X6_hold : GoodIn wsL_law wsX6_hold := lwX6_hold
set_option maxRecDepth 20000 in
theorem gL_law_X6_hold : GoodIn wsL_law (wsV RL 57 RX6 yX6_hold wsX6_hold) := goodIn_app (goodIn_of _ (by decide +kernel)) ggL_law_X6_hold
theorem ggL_law_X7_hold : GoodIn wsL_law wsX7_hold := lwX7_hold
set_option maxRecDepth 20000 in
theorem gL_law_X7_hold : GoodIn wsL_law (wsV RL 60 RX7 yX7_hold wsX7_hold) := goodIn_app (goodIn_of _ (by decide +kernel)) ggL_law_X7_hold
theorem ggL_law_X6_first : GoodIn wsL_law wsX6_first := lwX6_first
set_option maxRecDepth 20000 in
theorem gL_law_X6_first : GoodIn wsL_law (wsV RL 61 RX6 yX6_first wsX6_first) := goodIn_app (goodIn_of _ (by decide +kernel)) ggL_law_X6_first
theorem ggL_law_X7_first : GoodIn wsL_law wsX7_first := lwX7_first
set_option maxRecDepth 20000 in
theorem gL_law_X7_first : GoodIn wsL_law (wsV RL 64 RX7 yX7_first wsX7_first) := goodIn_app (goodIn_of _ (by decide +kernel)) ggL_law_X7_first
theorem ggL_law_X6_match : GoodIn wsL_law wsX6_match := lwX6_match
set_option maxRecDepth 20000 in
theorem gL_law_X6_match : GoodIn wsL_law (wsV RL 65 RX6 yX6_match wsX6_match) := goodIn_app (goodIn_of _ (by decide +kernel)) ggL_law_X6_match
theorem ggL_law_X7_match : GoodIn wsL_law wsX7_match := lwX7_match
set_option maxRecDepth 20000 in
theorem gL_law_X7_match : GoodIn wsL_law (wsV RL 68 RX7 yX7_match wsX7_match) := goodIn_app (goodIn_of _ (by decide +kernel)) ggL_law_X7_match
theorem ggL_law_X6_find : GoodIn wsL_law wsX6_find := lwX6_find
set_option maxRecDepth 20000 in
theorem gL_law_X6_find : GoodIn wsL_law (wsV RL 69 RX6 yX6_find wsX6_find) := goodIn_app (goodIn_of _ (by decide +kernel)) ggL_law_X6_find
theorem ggL_law_X7_find : GoodIn wsL_law wsX7_find := lwX7_find
set_option maxRecDepth 20000 in
theorem gL_law_X7_find : GoodIn wsL_law (wsV RL 72 RX7 yX7_find wsX7_find) := goodIn_app (goodIn_of _ (by decide +kernel)) ggL_law_X7_find
theorem ggL_law_X6_assume : GoodIn wsL_law wsX6_assume := lwX6_assume
set_option maxRecDepth 20000 in
theorem gL_law_X6_assume : GoodIn wsL_law (wsV RL 73 RX6 yX6_assume wsX6_assume) := goodIn_app (goodIn_of _ (by decide +kernel)) ggL_law_X6_assume
theorem ggL_law_X7_assume : GoodIn wsL_law wsX7_assume := lwX7_assume
set_option maxRecDepth 20000 in
theorem gL_law_X7_assume : GoodIn wsL_law (wsV RL 76 RX7 yX7_assume wsX7_assume) := goodIn_app (goodIn_of _ (by decide +kernel)) ggL_law_X7_assume
theorem ggL_law_X6_drop : GoodIn wsL_law wsX6_drop := lwX6_drop
set_option maxRecDepth 20000 in
theorem gL_law_X6_drop : GoodIn wsL_law (wsV RL 77 RX6 yX6_drop wsX6_drop) := goodIn_app (goodIn_of _ (by decide +kernel)) ggL_law_X6_drop
theorem ggL_law_X7_drop : GoodIn wsL_law wsX7_drop := lwX7_drop
set_option maxRecDepth 20000 in
theorem gL_law_X7_drop : GoodIn wsL_law (wsV RL 81 RX7 yX7_drop wsX7_drop) := goodIn_app (goodIn_of _ (by decide +kernel)) ggL_law_X7_drop
theorem ggL_law_X6_prove : GoodIn wsL_law wsX6_prove := lwX6_prove
set_option maxRecDepth 20000 in
theorem gL_law_X6_prove : GoodIn wsL_law (wsV RL 82 RX6 yX6_prove wsX6_prove) := goodIn_app (goodIn_of _ (by decide +kernel)) ggL_law_X6_prove
theorem ggL_law_X7_prove : GoodIn wsL_law wsX7_prove := lwX7_prove
set_option maxRecDepth 20000 in
theorem gL_law_X7_prove : GoodIn wsL_law (wsV RL 85 RX7 yX7_prove wsX7_prove) := goodIn_app (goodIn_of _ (by decide +kernel)) ggL_law_X7_prove
theorem ggL_law_X6_why : GoodIn wsL_law wsX6_why := lwX6_why
set_option maxRecDepth 20000 in
theorem gL_law_X6_why : GoodIn wsL_law (wsV RL 86 RX6 yX6_why wsX6_why) := goodIn_app (goodIn_of _ (by decide +kernel)) ggL_law_X6_why
theorem ggL_law_X7_why : GoodIn wsL_law wsX7_why := lwX7_why
set_option maxRecDepth 20000 in
theorem gL_law_X7_why : GoodIn wsL_law (wsV RL 89 RX7 yX7_why wsX7_why) := goodIn_app (goodIn_of _ (by decide +kernel)) ggL_law_X7_why
theorem ggL_law_X6_count : GoodIn wsL_law wsX6_count := lwX6_count
set_option maxRecDepth 20000 in
theorem gL_law_X6_count : GoodIn wsL_law (wsV RL 90 RX6 yX6_count wsX6_count) := goodIn_app (goodIn_of _ (by decide +kernel)) ggL_law_X6_count
theorem ggL_law_X7_count : GoodIn wsL_law wsX7_count := lwX7_count
set_option maxRecDepth 20000 in
theorem gL_law_X7_count : GoodIn wsL_law (wsV RL 93 RX7 yX7_count wsX7_count) := goodIn_app (goodIn_of _ (by decide +kernel)) ggL_law_X7_count
theorem dL_law_0 : decode cL_law 0 = .ok (.new 7, 3) := by decide +kernel
theorem dL_law_3 : decode cL_law 3 = .ok (.dup, 1) := by decide +kernel
theorem dL_law_4 : decode cL_law 4 = .ok (.aload_n 0, 1) := by decide +kernel
theorem dL_law_5 : decode cL_law 5 = .ok (.iconst 0, 1) := by decide +kernel
theorem dL_law_6 : decode cL_law 6 = .ok (.invokestatic 9, 3) := by decide +kernel
theorem dL_law_9 : decode cL_law 9 = .ok (.invokespecial 15, 3) := by decide +kernel
theorem dL_law_12 : decode cL_law 12 = .ok (.astore_n 1, 1) := by decide +kernel
theorem dL_law_13 : decode cL_law 13 = .ok (.new 18, 3) := by decide +kernel
theorem dL_law_16 : decode cL_law 16 = .ok (.dup, 1) := by decide +kernel
theorem dL_law_17 : decode cL_law 17 = .ok (.aload_n 0, 1) := by decide +kernel
theorem dL_law_18 : decode cL_law 18 = .ok (.iconst 0, 1) := by decide +kernel
theorem dL_law_19 : decode cL_law 19 = .ok (.invokestatic 9, 3) := by decide +kernel
theorem dL_law_22 : decode cL_law 22 = .ok (.invokespecial 20, 3) := by decide +kernel
theorem dL_law_25 : decode cL_law 25 = .ok (.astore_n 2, 1) := by decide +kernel
theorem dL_law_26 : decode cL_law 26 = .ok (.iconst 1, 1) := by decide +kernel
theorem dL_law_27 : decode cL_law 27 = .ok (.istore_n 3, 1) := by decide +kernel
theorem dL_law_28 : decode cL_law 28 = .ok (.iload_n 3, 1) := by decide +kernel
theorem dL_law_29 : decode cL_law 29 = .ok (.aload_n 0, 1) := by decide +kernel
theorem dL_law_30 : decode cL_law 30 = .ok (.arraylength, 1) := by decide +kernel
theorem dL_law_31 : decode cL_law 31 = .ok (.bipush 7, 2) := by decide +kernel
theorem dL_law_33 : decode cL_law 33 = .ok (.isub, 1) := by decide +kernel
theorem dL_law_34 : decode cL_law 34 = .ok (.if_icmp .gt 619, 3) := by decide +kernel
theorem dL_law_37 : decode cL_law 37 = .ok (.aload_n 0, 1) := by decide +kernel
theorem dL_law_38 : decode cL_law 38 = .ok (.iload_n 3, 1) := by decide +kernel
theorem dL_law_39 : decode cL_law 39 = .ok (.iaload, 1) := by decide +kernel
theorem dL_law_40 : decode cL_law 40 = .ok (.bipush 31, 2) := by decide +kernel
theorem dL_law_42 : decode cL_law 42 = .ok (.iand, 1) := by decide +kernel
theorem dL_law_43 : decode cL_law 43 = .ok (.tableswitch 604 0 16 #[81, 104, 179, 212, 265, 288, 321, 354, 387, 420, 443, 466, 499, 532, 545, 558, 581], 81) := by decide +kernel
theorem dL_law_124 : decode cL_law 124 = .ok (.aload_n 1, 1) := by decide +kernel
theorem dL_law_125 : decode cL_law 125 = .ok (.aload_n 0, 1) := by decide +kernel
theorem dL_law_126 : decode cL_law 126 = .ok (.iload_n 3, 1) := by decide +kernel
theorem dL_law_127 : decode cL_law 127 = .ok (.iconst 1, 1) := by decide +kernel
theorem dL_law_128 : decode cL_law 128 = .ok (.iadd, 1) := by decide +kernel
theorem dL_law_129 : decode cL_law 129 = .ok (.iaload, 1) := by decide +kernel
theorem dL_law_130 : decode cL_law 130 = .ok (.invokevirtual 21, 3) := by decide +kernel
theorem dL_law_133 : decode cL_law 133 = .ok (.pop, 1) := by decide +kernel
theorem dL_law_134 : decode cL_law 134 = .ok (.aload_n 2, 1) := by decide +kernel
theorem dL_law_135 : decode cL_law 135 = .ok (.aload_n 0, 1) := by decide +kernel
theorem dL_law_136 : decode cL_law 136 = .ok (.iload_n 3, 1) := by decide +kernel
theorem dL_law_137 : decode cL_law 137 = .ok (.iconst 1, 1) := by decide +kernel
theorem dL_law_138 : decode cL_law 138 = .ok (.iadd, 1) := by decide +kernel
theorem dL_law_139 : decode cL_law 139 = .ok (.iaload, 1) := by decide +kernel
theorem dL_law_140 : decode cL_law 140 = .ok (.invokevirtual 25, 3) := by decide +kernel
theorem dL_law_143 : decode cL_law 143 = .ok (.pop, 1) := by decide +kernel
theorem dL_law_144 : decode cL_law 144 = .ok (.goto 503, 3) := by decide +kernel
theorem dL_law_147 : decode cL_law 147 = .ok (.aload_n 1, 1) := by decide +kernel
theorem dL_law_148 : decode cL_law 148 = .ok (.aload_n 0, 1) := by decide +kernel
theorem dL_law_149 : decode cL_law 149 = .ok (.iload_n 3, 1) := by decide +kernel
theorem dL_law_150 : decode cL_law 150 = .ok (.iconst 1, 1) := by decide +kernel
theorem dL_law_151 : decode cL_law 151 = .ok (.iadd, 1) := by decide +kernel
theorem dL_law_152 : decode cL_law 152 = .ok (.iaload, 1) := by decide +kernel
theorem dL_law_153 : decode cL_law 153 = .ok (.aload_n 0, 1) := by decide +kernel
theorem dL_law_154 : decode cL_law 154 = .ok (.iload_n 3, 1) := by decide +kernel
theorem dL_law_155 : decode cL_law 155 = .ok (.iconst 2, 1) := by decide +kernel

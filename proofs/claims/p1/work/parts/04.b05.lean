theorem dX9_vote_70 : decode cX9_vote 70 = .ok (.aload_n 0, 1) := by decide +kernel
theorem dX9_vote_71 : decode cX9_vote 71 = .ok (.lload 5, 2) := by decide +kernel
theorem dX9_vote_73 : decode cX9_vote 73 = .ok (.aload_n 0, 1) := by decide +kernel
theorem dX9_vote_74 : decode cX9_vote 74 = .ok (.getfield 167, 3) := by decide +kernel
theorem dX9_vote_77 : decode cX9_vote 77 = .ok (.invokevirtual 228, 3) := by decide +kernel
theorem dX9_vote_80 : decode cX9_vote 80 = .ok (.istore 7, 2) := by decide +kernel
theorem dX9_vote_82 : decode cX9_vote 82 = .ok (.iload 7, 2) := by decide +kernel
theorem dX9_vote_84 : decode cX9_vote 84 = .ok (.iconst (-1), 1) := by decide +kernel
theorem dX9_vote_85 : decode cX9_vote 85 = .ok (.if_icmp .eq 13, 3) := by decide +kernel
theorem dX9_vote_98 : decode cX9_vote 98 = .ok (.bipush (-6), 2) := by decide +kernel
theorem dX9_vote_100 : decode cX9_vote 100 = .ok (.ireturn, 1) := by decide +kernel
theorem dX9_sent_0 : decode cX9_sent 0 = .ok (.aload_n 0, 1) := by decide +kernel
theorem dX9_sent_1 : decode cX9_sent 1 = .ok (.aload_n 0, 1) := by decide +kernel
theorem dX9_sent_2 : decode cX9_sent 2 = .ok (.iload_n 1, 1) := by decide +kernel
theorem dX9_sent_3 : decode cX9_sent 3 = .ok (.invokevirtual 311, 3) := by decide +kernel
theorem dX9_sent_6 : decode cX9_sent 6 = .ok (.ifCond .ne 7, 3) := by decide +kernel
theorem dX9_sent_9 : decode cX9_sent 9 = .ok (.iconst 1, 1) := by decide +kernel
theorem dX9_sent_10 : decode cX9_sent 10 = .ok (.goto 15, 3) := by decide +kernel
theorem dX9_sent_25 : decode cX9_sent 25 = .ok (.putfield 91, 3) := by decide +kernel
theorem dX9_sent_28 : decode cX9_sent 28 = .ok (.aload_n 0, 1) := by decide +kernel
theorem dX9_sent_29 : decode cX9_sent 29 = .ok (.getfield 91, 3) := by decide +kernel
theorem dX9_sent_32 : decode cX9_sent 32 = .ok (.ifCond .ne 25, 3) := by decide +kernel
theorem dX9_sent_57 : decode cX9_sent 57 = .ok (.iconst 0, 1) := by decide +kernel
theorem dX9_sent_58 : decode cX9_sent 58 = .ok (.ireturn, 1) := by decide +kernel
theorem dX9_certify_0 : decode cX9_certify 0 = .ok (.aload_n 0, 1) := by decide +kernel
theorem dX9_certify_1 : decode cX9_certify 1 = .ok (.aload_n 0, 1) := by decide +kernel
theorem dX9_certify_2 : decode cX9_certify 2 = .ok (.getfield 72, 3) := by decide +kernel
theorem dX9_certify_5 : decode cX9_certify 5 = .ok (.ifCond .ne 7, 3) := by decide +kernel
theorem dX9_certify_12 : decode cX9_certify 12 = .ok (.iload_n 3, 1) := by decide +kernel
theorem dX9_certify_13 : decode cX9_certify 13 = .ok (.iconst 0, 1) := by decide +kernel
theorem dX9_certify_14 : decode cX9_certify 14 = .ok (.bipush 15, 2) := by decide +kernel
theorem dX9_certify_16 : decode cX9_certify 16 = .ok (.invokestatic 138, 3) := by decide +kernel
theorem dX9_certify_19 : decode cX9_certify 19 = .ok (.ifCond .ne 7, 3) := by decide +kernel
theorem dX9_certify_22 : decode cX9_certify 22 = .ok (.iconst 2, 1) := by decide +kernel
theorem dX9_certify_23 : decode cX9_certify 23 = .ok (.goto 4, 3) := by decide +kernel
theorem dX9_certify_26 : decode cX9_certify 26 = .ok (.iconst 0, 1) := by decide +kernel
theorem dX9_certify_27 : decode cX9_certify 27 = .ok (.putfield 91, 3) := by decide +kernel
theorem dX9_certify_30 : decode cX9_certify 30 = .ok (.aload_n 0, 1) := by decide +kernel
theorem dX9_certify_31 : decode cX9_certify 31 = .ok (.getfield 91, 3) := by decide +kernel
theorem dX9_certify_34 : decode cX9_certify 34 = .ok (.ifCond .le 5, 3) := by decide +kernel
theorem dX9_certify_37 : decode cX9_certify 37 = .ok (.iconst 0, 1) := by decide +kernel
theorem dX9_certify_38 : decode cX9_certify 38 = .ok (.ireturn, 1) := by decide +kernel
theorem dX9_certify_39 : decode cX9_certify 39 = .ok (.aload_n 0, 1) := by decide +kernel
theorem dX9_certify_40 : decode cX9_certify 40 = .ok (.invokevirtual 300, 3) := by decide +kernel
theorem dX9_certify_43 : decode cX9_certify 43 = .ok (.aload_n 0, 1) := by decide +kernel
theorem dX9_certify_44 : decode cX9_certify 44 = .ok (.getfield 176, 3) := by decide +kernel
theorem dX9_certify_47 : decode cX9_certify 47 = .ok (.ifCond .eq 6, 3) := by decide +kernel
theorem dX9_certify_53 : decode cX9_certify 53 = .ok (.aload_n 0, 1) := by decide +kernel
theorem dX9_certify_54 : decode cX9_certify 54 = .ok (.aload_n 0, 1) := by decide +kernel
theorem dX9_certify_55 : decode cX9_certify 55 = .ok (.lload_n 1, 1) := by decide +kernel
theorem dX9_certify_56 : decode cX9_certify 56 = .ok (.invokevirtual 303, 3) := by decide +kernel
theorem dX9_certify_59 : decode cX9_certify 59 = .ok (.aload_n 0, 1) := by decide +kernel
theorem dX9_certify_60 : decode cX9_certify 60 = .ok (.getfield 167, 3) := by decide +kernel
theorem dX9_certify_63 : decode cX9_certify 63 = .ok (.invokevirtual 228, 3) := by decide +kernel
theorem dX9_certify_66 : decode cX9_certify 66 = .ok (.istore 4, 2) := by decide +kernel
theorem dX9_certify_68 : decode cX9_certify 68 = .ok (.iload 4, 2) := by decide +kernel
theorem dX9_certify_70 : decode cX9_certify 70 = .ok (.iconst (-1), 1) := by decide +kernel
theorem dX9_certify_71 : decode cX9_certify 71 = .ok (.if_icmp .ne 6, 3) := by decide +kernel
theorem dX9_certify_74 : decode cX9_certify 74 = .ok (.bipush (-6), 2) := by decide +kernel
theorem dX9_certify_76 : decode cX9_certify 76 = .ok (.ireturn, 1) := by decide +kernel
theorem dX9_version_0 : decode cX9_version 0 = .ok (.aload_n 0, 1) := by decide +kernel
theorem dX9_version_1 : decode cX9_version 1 = .ok (.aload_n 0, 1) := by decide +kernel
theorem dX9_version_2 : decode cX9_version 2 = .ok (.getfield 72, 3) := by decide +kernel
theorem dX9_version_5 : decode cX9_version 5 = .ok (.ifCond .ne 7, 3) := by decide +kernel
theorem dX9_version_12 : decode cX9_version 12 = .ok (.iload_n 1, 1) := by decide +kernel
theorem dX9_version_13 : decode cX9_version 13 = .ok (.iconst 0, 1) := by decide +kernel
theorem dX9_version_14 : decode cX9_version 14 = .ok (.iconst 1, 1) := by decide +kernel
theorem dX9_version_15 : decode cX9_version 15 = .ok (.invokestatic 138, 3) := by decide +kernel
theorem dX9_version_18 : decode cX9_version 18 = .ok (.ifCond .ne 7, 3) := by decide +kernel
theorem dX9_version_21 : decode cX9_version 21 = .ok (.iconst 2, 1) := by decide +kernel
theorem dX9_version_22 : decode cX9_version 22 = .ok (.goto 4, 3) := by decide +kernel
theorem dX9_version_25 : decode cX9_version 25 = .ok (.iconst 0, 1) := by decide +kernel
theorem dX9_version_26 : decode cX9_version 26 = .ok (.putfield 91, 3) := by decide +kernel
theorem dX9_version_29 : decode cX9_version 29 = .ok (.aload_n 0, 1) := by decide +kernel
theorem dX9_version_30 : decode cX9_version 30 = .ok (.getfield 91, 3) := by decide +kernel
theorem dX9_version_33 : decode cX9_version 33 = .ok (.ifCond .le 5, 3) := by decide +kernel
theorem dX9_version_36 : decode cX9_version 36 = .ok (.iconst 0, 1) := by decide +kernel
theorem dX9_version_37 : decode cX9_version 37 = .ok (.ireturn, 1) := by decide +kernel
theorem dX9_version_38 : decode cX9_version 38 = .ok (.aload_n 0, 1) := by decide +kernel
theorem dX9_version_39 : decode cX9_version 39 = .ok (.invokevirtual 300, 3) := by decide +kernel
theorem dX9_version_42 : decode cX9_version 42 = .ok (.aload_n 0, 1) := by decide +kernel
theorem dX9_version_43 : decode cX9_version 43 = .ok (.getfield 176, 3) := by decide +kernel
theorem dX9_version_46 : decode cX9_version 46 = .ok (.ifCond .eq 7, 3) := by decide +kernel
theorem dX9_version_53 : decode cX9_version 53 = .ok (.iload_n 1, 1) := by decide +kernel
theorem dX9_version_54 : decode cX9_version 54 = .ok (.ifCond .ne 10, 3) := by decide +kernel
theorem dX9_version_57 : decode cX9_version 57 = .ok (.aload_n 0, 1) := by decide +kernel
theorem dX9_version_58 : decode cX9_version 58 = .ok (.getfield 192, 3) := by decide +kernel
theorem dX9_version_61 : decode cX9_version 61 = .ok (.goto 7, 3) := by decide +kernel
theorem dX9_version_64 : decode cX9_version 64 = .ok (.aload_n 0, 1) := by decide +kernel
theorem dX9_version_65 : decode cX9_version 65 = .ok (.getfield 182, 3) := by decide +kernel
theorem dX9_version_68 : decode cX9_version 68 = .ok (.ireturn, 1) := by decide +kernel
theorem dX9_slot_0 : decode cX9_slot 0 = .ok (.aload_n 0, 1) := by decide +kernel
theorem dX9_slot_1 : decode cX9_slot 1 = .ok (.aload_n 0, 1) := by decide +kernel
theorem dX9_slot_2 : decode cX9_slot 2 = .ok (.getfield 72, 3) := by decide +kernel
theorem dX9_slot_5 : decode cX9_slot 5 = .ok (.ifCond .eq 7, 3) := by decide +kernel
theorem dX9_slot_8 : decode cX9_slot 8 = .ok (.iconst 0, 1) := by decide +kernel
theorem dX9_slot_9 : decode cX9_slot 9 = .ok (.goto 4, 3) := by decide +kernel
theorem dX9_slot_13 : decode cX9_slot 13 = .ok (.putfield 91, 3) := by decide +kernel
theorem dX9_slot_16 : decode cX9_slot 16 = .ok (.aload_n 0, 1) := by decide +kernel
theorem dX9_slot_17 : decode cX9_slot 17 = .ok (.getfield 91, 3) := by decide +kernel
theorem dX9_slot_20 : decode cX9_slot 20 = .ok (.ifCond .le 5, 3) := by decide +kernel
theorem dX9_slot_25 : decode cX9_slot 25 = .ok (.aload_n 0, 1) := by decide +kernel
theorem dX9_slot_26 : decode cX9_slot 26 = .ok (.invokevirtual 300, 3) := by decide +kernel
theorem dX9_slot_29 : decode cX9_slot 29 = .ok (.aload_n 0, 1) := by decide +kernel
theorem dX9_slot_30 : decode cX9_slot 30 = .ok (.iload_n 2, 1) := by decide +kernel
theorem dX9_slot_31 : decode cX9_slot 31 = .ok (.iconst 0, 1) := by decide +kernel
theorem dX9_slot_32 : decode cX9_slot 32 = .ok (.bipush 15, 2) := by decide +kernel
theorem dX9_slot_34 : decode cX9_slot 34 = .ok (.invokestatic 138, 3) := by decide +kernel
theorem dX9_slot_37 : decode cX9_slot 37 = .ok (.ifCond .eq 11, 3) := by decide +kernel
theorem dX9_slot_40 : decode cX9_slot 40 = .ok (.aload_n 0, 1) := by decide +kernel
theorem dX9_slot_41 : decode cX9_slot 41 = .ok (.iload_n 1, 1) := by decide +kernel
theorem dX9_slot_42 : decode cX9_slot 42 = .ok (.invokevirtual 314, 3) := by decide +kernel
theorem dX9_slot_45 : decode cX9_slot 45 = .ok (.ifCond .ne 7, 3) := by decide +kernel
theorem dX9_slot_48 : decode cX9_slot 48 = .ok (.iconst 2, 1) := by decide +kernel
theorem dX9_slot_49 : decode cX9_slot 49 = .ok (.goto 4, 3) := by decide +kernel
theorem dX9_slot_52 : decode cX9_slot 52 = .ok (.iconst 0, 1) := by decide +kernel
theorem dX9_slot_53 : decode cX9_slot 53 = .ok (.putfield 91, 3) := by decide +kernel
theorem dX9_slot_56 : decode cX9_slot 56 = .ok (.aload_n 0, 1) := by decide +kernel
theorem dX9_slot_57 : decode cX9_slot 57 = .ok (.getfield 91, 3) := by decide +kernel
theorem dX9_slot_60 : decode cX9_slot 60 = .ok (.ifCond .le 5, 3) := by decide +kernel
theorem dX9_slot_63 : decode cX9_slot 63 = .ok (.lconst 0, 1) := by decide +kernel
theorem dX9_slot_64 : decode cX9_slot 64 = .ok (.lreturn, 1) := by decide +kernel
theorem dX9_slot_65 : decode cX9_slot 65 = .ok (.aload_n 0, 1) := by decide +kernel
theorem dX9_slot_66 : decode cX9_slot 66 = .ok (.iload_n 1, 1) := by decide +kernel
theorem dX9_slot_67 : decode cX9_slot 67 = .ok (.invokevirtual 244, 3) := by decide +kernel
theorem dX9_slot_70 : decode cX9_slot 70 = .ok (.aload_n 0, 1) := by decide +kernel
theorem dX9_slot_71 : decode cX9_slot 71 = .ok (.getfield 40, 3) := by decide +kernel
theorem dX9_slot_74 : decode cX9_slot 74 = .ok (.iload_n 2, 1) := by decide +kernel
theorem dX9_slot_75 : decode cX9_slot 75 = .ok (.laload, 1) := by decide +kernel
theorem dX9_slot_76 : decode cX9_slot 76 = .ok (.lreturn, 1) := by decide +kernel
theorem dX9_page_0 : decode cX9_page 0 = .ok (.aload_n 0, 1) := by decide +kernel
theorem dX9_page_1 : decode cX9_page 1 = .ok (.aload_n 0, 1) := by decide +kernel
theorem dX9_page_2 : decode cX9_page 2 = .ok (.getfield 72, 3) := by decide +kernel
theorem dX9_page_5 : decode cX9_page 5 = .ok (.ifCond .eq 7, 3) := by decide +kernel
theorem dX9_page_8 : decode cX9_page 8 = .ok (.iconst 0, 1) := by decide +kernel
theorem dX9_page_9 : decode cX9_page 9 = .ok (.goto 4, 3) := by decide +kernel
theorem dX9_page_13 : decode cX9_page 13 = .ok (.putfield 91, 3) := by decide +kernel
theorem dX9_page_16 : decode cX9_page 16 = .ok (.aload_n 0, 1) := by decide +kernel
theorem dX9_page_17 : decode cX9_page 17 = .ok (.getfield 72, 3) := by decide +kernel
theorem dX9_page_20 : decode cX9_page 20 = .ok (.ifCond .eq 11, 3) := by decide +kernel
theorem dX9_page_23 : decode cX9_page 23 = .ok (.aload_n 0, 1) := by decide +kernel
theorem dX9_page_24 : decode cX9_page 24 = .ok (.lload_n 1, 1) := by decide +kernel
theorem dX9_page_25 : decode cX9_page 25 = .ok (.invokevirtual 317, 3) := by decide +kernel
theorem dX9_page_28 : decode cX9_page 28 = .ok (.goto 4, 3) := by decide +kernel
theorem dX9_page_32 : decode cX9_page 32 = .ok (.ireturn, 1) := by decide +kernel
theorem dX9_byteOf_0 : decode cX9_byteOf 0 = .ok (.aload_n 0, 1) := by decide +kernel
theorem dX9_byteOf_1 : decode cX9_byteOf 1 = .ok (.iload_n 1, 1) := by decide +kernel
theorem dX9_byteOf_2 : decode cX9_byteOf 2 = .ok (.iconst 0, 1) := by decide +kernel
theorem dX9_byteOf_3 : decode cX9_byteOf 3 = .ok (.aload_n 0, 1) := by decide +kernel
theorem dX9_byteOf_4 : decode cX9_byteOf 4 = .ok (.getfield 62, 3) := by decide +kernel
theorem dX9_byteOf_7 : decode cX9_byteOf 7 = .ok (.iconst 1, 1) := by decide +kernel
theorem dX9_byteOf_8 : decode cX9_byteOf 8 = .ok (.isub, 1) := by decide +kernel
theorem dX9_byteOf_9 : decode cX9_byteOf 9 = .ok (.invokestatic 138, 3) := by decide +kernel
theorem dX9_byteOf_12 : decode cX9_byteOf 12 = .ok (.ifCond .eq 13, 3) := by decide +kernel
theorem dX9_byteOf_15 : decode cX9_byteOf 15 = .ok (.iload_n 2, 1) := by decide +kernel
theorem dX9_byteOf_16 : decode cX9_byteOf 16 = .ok (.iconst 0, 1) := by decide +kernel
theorem dX9_byteOf_17 : decode cX9_byteOf 17 = .ok (.bipush 15, 2) := by decide +kernel
theorem dX9_byteOf_19 : decode cX9_byteOf 19 = .ok (.invokestatic 138, 3) := by decide +kernel
theorem dX9_byteOf_22 : decode cX9_byteOf 22 = .ok (.ifCond .ne 7, 3) := by decide +kernel
theorem dX9_byteOf_25 : decode cX9_byteOf 25 = .ok (.iconst 1, 1) := by decide +kernel
theorem dX9_byteOf_26 : decode cX9_byteOf 26 = .ok (.goto 15, 3) := by decide +kernel
theorem dX9_byteOf_29 : decode cX9_byteOf 29 = .ok (.aload_n 0, 1) := by decide +kernel
theorem dX9_byteOf_30 : decode cX9_byteOf 30 = .ok (.getfield 72, 3) := by decide +kernel
theorem dX9_byteOf_33 : decode cX9_byteOf 33 = .ok (.ifCond .ne 7, 3) := by decide +kernel
theorem dX9_byteOf_40 : decode cX9_byteOf 40 = .ok (.iconst 0, 1) := by decide +kernel
theorem dX9_byteOf_41 : decode cX9_byteOf 41 = .ok (.putfield 91, 3) := by decide +kernel
theorem dX9_byteOf_44 : decode cX9_byteOf 44 = .ok (.aload_n 0, 1) := by decide +kernel
theorem dX9_byteOf_45 : decode cX9_byteOf 45 = .ok (.getfield 91, 3) := by decide +kernel
theorem dX9_byteOf_48 : decode cX9_byteOf 48 = .ok (.ifCond .le 5, 3) := by decide +kernel
theorem dX9_byteOf_51 : decode cX9_byteOf 51 = .ok (.iconst 0, 1) := by decide +kernel
theorem dX9_byteOf_52 : decode cX9_byteOf 52 = .ok (.ireturn, 1) := by decide +kernel
theorem dX9_byteOf_53 : decode cX9_byteOf 53 = .ok (.aload_n 0, 1) := by decide +kernel
theorem dX9_byteOf_54 : decode cX9_byteOf 54 = .ok (.iload_n 1, 1) := by decide +kernel
theorem dX9_byteOf_55 : decode cX9_byteOf 55 = .ok (.invokevirtual 154, 3) := by decide +kernel
theorem dX9_byteOf_58 : decode cX9_byteOf 58 = .ok (.istore_n 3, 1) := by decide +kernel
theorem dX9_byteOf_59 : decode cX9_byteOf 59 = .ok (.aload_n 0, 1) := by decide +kernel
theorem dX9_byteOf_60 : decode cX9_byteOf 60 = .ok (.iload_n 1, 1) := by decide +kernel
theorem dX9_byteOf_61 : decode cX9_byteOf 61 = .ok (.invokevirtual 238, 3) := by decide +kernel
theorem dX9_byteOf_64 : decode cX9_byteOf 64 = .ok (.iconst 1, 1) := by decide +kernel
theorem dX9_byteOf_65 : decode cX9_byteOf 65 = .ok (.if_icmp .ne 12, 3) := by decide +kernel
theorem dX9_byteOf_77 : decode cX9_byteOf 77 = .ok (.iconst (-1), 1) := by decide +kernel
theorem dX9_byteOf_78 : decode cX9_byteOf 78 = .ok (.goto 12, 3) := by decide +kernel
theorem dX9_byteOf_90 : decode cX9_byteOf 90 = .ok (.ireturn, 1) := by decide +kernel
theorem dX9_named_0 : decode cX9_named 0 = .ok (.aload_n 0, 1) := by decide +kernel
theorem dX9_named_1 : decode cX9_named 1 = .ok (.iload_n 1, 1) := by decide +kernel
theorem dX9_named_2 : decode cX9_named 2 = .ok (.iconst 0, 1) := by decide +kernel
theorem dX9_named_3 : decode cX9_named 3 = .ok (.aload_n 0, 1) := by decide +kernel
theorem dX9_named_4 : decode cX9_named 4 = .ok (.getfield 62, 3) := by decide +kernel
theorem dX9_named_7 : decode cX9_named 7 = .ok (.iconst 1, 1) := by decide +kernel
theorem dX9_named_8 : decode cX9_named 8 = .ok (.isub, 1) := by decide +kernel
theorem dX9_named_9 : decode cX9_named 9 = .ok (.invokestatic 138, 3) := by decide +kernel
theorem dX9_named_12 : decode cX9_named 12 = .ok (.ifCond .ne 7, 3) := by decide +kernel
theorem dX9_named_15 : decode cX9_named 15 = .ok (.iconst 1, 1) := by decide +kernel
theorem dX9_named_16 : decode cX9_named 16 = .ok (.goto 15, 3) := by decide +kernel
theorem dX9_named_19 : decode cX9_named 19 = .ok (.aload_n 0, 1) := by decide +kernel
theorem dX9_named_20 : decode cX9_named 20 = .ok (.getfield 72, 3) := by decide +kernel
theorem dX9_named_23 : decode cX9_named 23 = .ok (.ifCond .ne 7, 3) := by decide +kernel
theorem dX9_named_30 : decode cX9_named 30 = .ok (.iconst 0, 1) := by decide +kernel
theorem dX9_named_31 : decode cX9_named 31 = .ok (.putfield 91, 3) := by decide +kernel
theorem dX9_named_34 : decode cX9_named 34 = .ok (.aload_n 0, 1) := by decide +kernel
theorem dX9_named_35 : decode cX9_named 35 = .ok (.getfield 91, 3) := by decide +kernel
theorem dX9_named_38 : decode cX9_named 38 = .ok (.ifCond .gt 12, 3) := by decide +kernel
theorem dX9_named_41 : decode cX9_named 41 = .ok (.aload_n 0, 1) := by decide +kernel
theorem dX9_named_42 : decode cX9_named 42 = .ok (.iload_n 1, 1) := by decide +kernel
theorem dX9_named_43 : decode cX9_named 43 = .ok (.invokevirtual 238, 3) := by decide +kernel
theorem dX9_named_46 : decode cX9_named 46 = .ok (.iconst 1, 1) := by decide +kernel
theorem dX9_named_47 : decode cX9_named 47 = .ok (.if_icmp .eq 5, 3) := by decide +kernel
theorem dX9_named_50 : decode cX9_named 50 = .ok (.iconst 0, 1) := by decide +kernel
theorem dX9_named_51 : decode cX9_named 51 = .ok (.ireturn, 1) := by decide +kernel
theorem dX9_prune_0 : decode cX9_prune 0 = .ok (.aload_n 0, 1) := by decide +kernel
theorem dX9_prune_1 : decode cX9_prune 1 = .ok (.aload_n 0, 1) := by decide +kernel
theorem dX9_prune_2 : decode cX9_prune 2 = .ok (.getfield 72, 3) := by decide +kernel
theorem dX9_prune_5 : decode cX9_prune 5 = .ok (.ifCond .eq 7, 3) := by decide +kernel
theorem dX9_prune_8 : decode cX9_prune 8 = .ok (.iconst 0, 1) := by decide +kernel
theorem dX9_prune_9 : decode cX9_prune 9 = .ok (.goto 4, 3) := by decide +kernel
theorem dX9_prune_13 : decode cX9_prune 13 = .ok (.putfield 91, 3) := by decide +kernel
theorem dX9_prune_16 : decode cX9_prune 16 = .ok (.aload_n 0, 1) := by decide +kernel
theorem dX9_prune_17 : decode cX9_prune 17 = .ok (.getfield 91, 3) := by decide +kernel
theorem dX9_prune_20 : decode cX9_prune 20 = .ok (.ifCond .le 5, 3) := by decide +kernel
theorem dX9_prune_25 : decode cX9_prune 25 = .ok (.aload_n 0, 1) := by decide +kernel
theorem dX9_prune_26 : decode cX9_prune 26 = .ok (.invokevirtual 300, 3) := by decide +kernel
theorem dX9_prune_29 : decode cX9_prune 29 = .ok (.aload_n 0, 1) := by decide +kernel
theorem dX9_prune_30 : decode cX9_prune 30 = .ok (.getfield 176, 3) := by decide +kernel
theorem dX9_prune_33 : decode cX9_prune 33 = .ok (.ifCond .eq 6, 3) := by decide +kernel
theorem dX9_prune_39 : decode cX9_prune 39 = .ok (.aload_n 0, 1) := by decide +kernel
theorem dX9_prune_40 : decode cX9_prune 40 = .ok (.iload_n 1, 1) := by decide +kernel
theorem dX9_prune_41 : decode cX9_prune 41 = .ok (.aload_n 0, 1) := by decide +kernel
theorem dX9_prune_42 : decode cX9_prune 42 = .ok (.getfield 182, 3) := by decide +kernel
theorem dX9_prune_45 : decode cX9_prune 45 = .ok (.if_icmp .le 11, 3) := by decide +kernel
theorem dX9_prune_48 : decode cX9_prune 48 = .ok (.iload_n 1, 1) := by decide +kernel
theorem dX9_prune_49 : decode cX9_prune 49 = .ok (.aload_n 0, 1) := by decide +kernel
theorem dX9_prune_50 : decode cX9_prune 50 = .ok (.getfield 192, 3) := by decide +kernel
theorem dX9_prune_53 : decode cX9_prune 53 = .ok (.if_icmp .le 7, 3) := by decide +kernel
theorem dX9_prune_56 : decode cX9_prune 56 = .ok (.iconst 2, 1) := by decide +kernel
theorem dX9_prune_57 : decode cX9_prune 57 = .ok (.goto 4, 3) := by decide +kernel
theorem dX9_prune_61 : decode cX9_prune 61 = .ok (.putfield 91, 3) := by decide +kernel
theorem dX9_prune_64 : decode cX9_prune 64 = .ok (.aload_n 0, 1) := by decide +kernel
theorem dX9_prune_65 : decode cX9_prune 65 = .ok (.getfield 91, 3) := by decide +kernel
theorem dX9_prune_68 : decode cX9_prune 68 = .ok (.ifCond .le 5, 3) := by decide +kernel
theorem dX9_prune_71 : decode cX9_prune 71 = .ok (.iconst 0, 1) := by decide +kernel
theorem dX9_prune_72 : decode cX9_prune 72 = .ok (.ireturn, 1) := by decide +kernel
theorem dX9_out_0 : decode cX9_out 0 = .ok (.aload_n 0, 1) := by decide +kernel
theorem dX9_out_1 : decode cX9_out 1 = .ok (.aload_n 0, 1) := by decide +kernel
theorem dX9_out_2 : decode cX9_out 2 = .ok (.getfield 72, 3) := by decide +kernel
theorem dX9_out_5 : decode cX9_out 5 = .ok (.ifCond .eq 7, 3) := by decide +kernel
theorem dX9_out_8 : decode cX9_out 8 = .ok (.iconst 0, 1) := by decide +kernel
theorem dX9_out_9 : decode cX9_out 9 = .ok (.goto 4, 3) := by decide +kernel
theorem dX9_out_13 : decode cX9_out 13 = .ok (.putfield 91, 3) := by decide +kernel
theorem dX9_out_16 : decode cX9_out 16 = .ok (.aload_n 0, 1) := by decide +kernel
theorem dX9_out_17 : decode cX9_out 17 = .ok (.getfield 91, 3) := by decide +kernel
theorem dX9_out_20 : decode cX9_out 20 = .ok (.ifCond .le 5, 3) := by decide +kernel
theorem dX9_out_25 : decode cX9_out 25 = .ok (.aload_n 0, 1) := by decide +kernel
theorem dX9_out_26 : decode cX9_out 26 = .ok (.invokevirtual 300, 3) := by decide +kernel
theorem dX9_out_29 : decode cX9_out 29 = .ok (.aload_n 0, 1) := by decide +kernel
theorem dX9_out_30 : decode cX9_out 30 = .ok (.iload_n 1, 1) := by decide +kernel
theorem dX9_out_31 : decode cX9_out 31 = .ok (.ifCond .eq 11, 3) := by decide +kernel
theorem dX9_out_34 : decode cX9_out 34 = .ok (.aload_n 0, 1) := by decide +kernel
theorem dX9_out_35 : decode cX9_out 35 = .ok (.iload_n 1, 1) := by decide +kernel
theorem dX9_out_36 : decode cX9_out 36 = .ok (.invokevirtual 314, 3) := by decide +kernel
theorem dX9_out_39 : decode cX9_out 39 = .ok (.ifCond .ne 7, 3) := by decide +kernel
theorem dX9_out_42 : decode cX9_out 42 = .ok (.iconst 2, 1) := by decide +kernel
theorem dX9_out_43 : decode cX9_out 43 = .ok (.goto 4, 3) := by decide +kernel
theorem dX9_out_47 : decode cX9_out 47 = .ok (.putfield 91, 3) := by decide +kernel
theorem dX9_out_50 : decode cX9_out 50 = .ok (.aload_n 0, 1) := by decide +kernel
theorem dX9_out_51 : decode cX9_out 51 = .ok (.getfield 91, 3) := by decide +kernel
theorem dX9_out_54 : decode cX9_out 54 = .ok (.ifCond .le 5, 3) := by decide +kernel
theorem dX9_out_57 : decode cX9_out 57 = .ok (.iconst 0, 1) := by decide +kernel
theorem dX9_out_58 : decode cX9_out 58 = .ok (.ireturn, 1) := by decide +kernel
theorem dX9_isSnapshot_0 : decode cX9_isSnapshot 0 = .ok (.aload_n 0, 1) := by decide +kernel
theorem dX9_isSnapshot_1 : decode cX9_isSnapshot 1 = .ok (.getfield 271, 3) := by decide +kernel
theorem dX9_isSnapshot_4 : decode cX9_isSnapshot 4 = .ok (.bipush 21, 2) := by decide +kernel
theorem dX9_isSnapshot_6 : decode cX9_isSnapshot 6 = .ok (.if_icmp .ge 5, 3) := by decide +kernel
theorem dX9_isSnapshot_9 : decode cX9_isSnapshot 9 = .ok (.iconst 0, 1) := by decide +kernel
theorem dX9_isSnapshot_10 : decode cX9_isSnapshot 10 = .ok (.ireturn, 1) := by decide +kernel
theorem dX9_freePages_0 : decode cX9_freePages 0 = .ok (.iconst 0, 1) := by decide +kernel
theorem dX9_freePages_1 : decode cX9_freePages 1 = .ok (.istore_n 1, 1) := by decide +kernel
theorem dX9_freePages_2 : decode cX9_freePages 2 = .ok (.iconst 0, 1) := by decide +kernel
theorem dX9_freePages_3 : decode cX9_freePages 3 = .ok (.istore_n 2, 1) := by decide +kernel
theorem dX9_freePages_4 : decode cX9_freePages 4 = .ok (.iload_n 2, 1) := by decide +kernel
theorem dX9_freePages_5 : decode cX9_freePages 5 = .ok (.aload_n 0, 1) := by decide +kernel
theorem dX9_freePages_6 : decode cX9_freePages 6 = .ok (.getfield 62, 3) := by decide +kernel
theorem dX9_freePages_9 : decode cX9_freePages 9 = .ok (.if_icmp .ge 25, 3) := by decide +kernel
theorem dX9_freePages_12 : decode cX9_freePages 12 = .ok (.iload_n 1, 1) := by decide +kernel
theorem dX9_freePages_13 : decode cX9_freePages 13 = .ok (.aload_n 0, 1) := by decide +kernel
theorem dX9_freePages_14 : decode cX9_freePages 14 = .ok (.iload_n 2, 1) := by decide +kernel
theorem dX9_freePages_15 : decode cX9_freePages 15 = .ok (.invokevirtual 238, 3) := by decide +kernel
theorem dX9_freePages_18 : decode cX9_freePages 18 = .ok (.ifCond .ne 7, 3) := by decide +kernel
theorem dX9_freePages_21 : decode cX9_freePages 21 = .ok (.iconst 1, 1) := by decide +kernel
theorem dX9_freePages_22 : decode cX9_freePages 22 = .ok (.goto 4, 3) := by decide +kernel
theorem dX9_freePages_26 : decode cX9_freePages 26 = .ok (.iadd, 1) := by decide +kernel
theorem dX9_freePages_27 : decode cX9_freePages 27 = .ok (.istore_n 1, 1) := by decide +kernel
theorem dX9_freePages_28 : decode cX9_freePages 28 = .ok (.iinc 2 1, 3) := by decide +kernel
theorem dX9_freePages_31 : decode cX9_freePages 31 = .ok (.goto (-27), 3) := by decide +kernel
theorem dX9_freePages_34 : decode cX9_freePages 34 = .ok (.iload_n 1, 1) := by decide +kernel
theorem dX9_freePages_35 : decode cX9_freePages 35 = .ok (.ireturn, 1) := by decide +kernel
theorem dX9_in_0 : decode cX9_in 0 = .ok (.aload_n 0, 1) := by decide +kernel
theorem dX9_in_1 : decode cX9_in 1 = .ok (.aload_n 0, 1) := by decide +kernel
theorem dX9_in_2 : decode cX9_in 2 = .ok (.getfield 72, 3) := by decide +kernel
theorem dX9_in_5 : decode cX9_in 5 = .ok (.ifCond .eq 7, 3) := by decide +kernel
theorem dX9_in_8 : decode cX9_in 8 = .ok (.iconst 0, 1) := by decide +kernel
theorem dX9_in_9 : decode cX9_in 9 = .ok (.goto 4, 3) := by decide +kernel
theorem dX9_in_13 : decode cX9_in 13 = .ok (.putfield 91, 3) := by decide +kernel
theorem dX9_in_16 : decode cX9_in 16 = .ok (.aload_n 0, 1) := by decide +kernel
theorem dX9_in_17 : decode cX9_in 17 = .ok (.getfield 91, 3) := by decide +kernel
theorem dX9_in_20 : decode cX9_in 20 = .ok (.ifCond .le 5, 3) := by decide +kernel
theorem dX9_in_25 : decode cX9_in 25 = .ok (.aload_n 0, 1) := by decide +kernel
theorem dX9_in_26 : decode cX9_in 26 = .ok (.invokevirtual 173, 3) := by decide +kernel
theorem dX9_in_29 : decode cX9_in 29 = .ok (.ifCond .le 6, 3) := by decide +kernel
theorem dX9_in_35 : decode cX9_in 35 = .ok (.aload_n 0, 1) := by decide +kernel
theorem dX9_in_36 : decode cX9_in 36 = .ok (.invokevirtual 163, 3) := by decide +kernel
theorem dX9_in_39 : decode cX9_in 39 = .ok (.ifCond .le 6, 3) := by decide +kernel
theorem dX9_in_45 : decode cX9_in 45 = .ok (.aload_n 0, 1) := by decide +kernel
theorem dX9_in_46 : decode cX9_in 46 = .ok (.invokevirtual 365, 3) := by decide +kernel
theorem dX9_in_49 : decode cX9_in 49 = .ok (.ifCond .ne 6, 3) := by decide +kernel
theorem dX9_in_52 : decode cX9_in 52 = .ok (.bipush (-10), 2) := by decide +kernel
theorem dX9_in_54 : decode cX9_in 54 = .ok (.ireturn, 1) := by decide +kernel
theorem dX9_cut_0 : decode cX9_cut 0 = .ok (.aload_n 0, 1) := by decide +kernel
theorem dX9_cut_1 : decode cX9_cut 1 = .ok (.iload_n 1, 1) := by decide +kernel
theorem dX9_cut_2 : decode cX9_cut 2 = .ok (.iconst (-1), 1) := by decide +kernel
theorem dX9_cut_3 : decode cX9_cut 3 = .ok (.sipush 5000, 3) := by decide +kernel
theorem dX9_cut_6 : decode cX9_cut 6 = .ok (.invokestatic 138, 3) := by decide +kernel
theorem dX9_cut_9 : decode cX9_cut 9 = .ok (.ifCond .eq 7, 3) := by decide +kernel
theorem dX9_cut_12 : decode cX9_cut 12 = .ok (.iconst 0, 1) := by decide +kernel
theorem dX9_cut_13 : decode cX9_cut 13 = .ok (.goto 4, 3) := by decide +kernel
theorem dX9_cut_16 : decode cX9_cut 16 = .ok (.iconst 1, 1) := by decide +kernel
theorem dX9_cut_17 : decode cX9_cut 17 = .ok (.putfield 91, 3) := by decide +kernel
theorem dX9_cut_20 : decode cX9_cut 20 = .ok (.aload_n 0, 1) := by decide +kernel
theorem dX9_cut_21 : decode cX9_cut 21 = .ok (.aload_n 0, 1) := by decide +kernel
theorem dX9_cut_22 : decode cX9_cut 22 = .ok (.getfield 91, 3) := by decide +kernel
theorem dX9_cut_25 : decode cX9_cut 25 = .ok (.ifCond .le 10, 3) := by decide +kernel
theorem dX9_cut_28 : decode cX9_cut 28 = .ok (.aload_n 0, 1) := by decide +kernel
theorem dX9_cut_29 : decode cX9_cut 29 = .ok (.getfield 69, 3) := by decide +kernel
theorem dX9_cut_32 : decode cX9_cut 32 = .ok (.goto 4, 3) := by decide +kernel
theorem dX9_cut_35 : decode cX9_cut 35 = .ok (.iload_n 1, 1) := by decide +kernel
theorem dX9_cut_36 : decode cX9_cut 36 = .ok (.putfield 69, 3) := by decide +kernel
theorem dX9_cut_39 : decode cX9_cut 39 = .ok (.return_, 1) := by decide +kernel
theorem dX9_off_0 : decode cX9_off 0 = .ok (.aload_n 0, 1) := by decide +kernel
theorem dX9_off_1 : decode cX9_off 1 = .ok (.iconst 0, 1) := by decide +kernel
theorem dX9_off_2 : decode cX9_off 2 = .ok (.putfield 91, 3) := by decide +kernel
theorem dX9_off_5 : decode cX9_off 5 = .ok (.aload_n 0, 1) := by decide +kernel
theorem dX9_off_6 : decode cX9_off 6 = .ok (.getfield 72, 3) := by decide +kernel
theorem dX9_off_9 : decode cX9_off 9 = .ok (.istore_n 1, 1) := by decide +kernel
theorem dX9_off_10 : decode cX9_off 10 = .ok (.aload_n 0, 1) := by decide +kernel
theorem dX9_off_11 : decode cX9_off 11 = .ok (.iconst 0, 1) := by decide +kernel
theorem dX9_off_12 : decode cX9_off 12 = .ok (.putfield 72, 3) := by decide +kernel
theorem dX9_off_15 : decode cX9_off 15 = .ok (.aload_n 0, 1) := by decide +kernel
theorem dX9_off_16 : decode cX9_off 16 = .ok (.iconst 0, 1) := by decide +kernel
theorem dX9_off_17 : decode cX9_off 17 = .ok (.putfield 111, 3) := by decide +kernel
theorem dX9_off_20 : decode cX9_off 20 = .ok (.iload_n 1, 1) := by decide +kernel
theorem dX9_off_21 : decode cX9_off 21 = .ok (.ireturn, 1) := by decide +kernel
theorem dX9_poke_0 : decode cX9_poke 0 = .ok (.aload_n 0, 1) := by decide +kernel
theorem dX9_poke_1 : decode cX9_poke 1 = .ok (.iload_n 1, 1) := by decide +kernel
theorem dX9_poke_2 : decode cX9_poke 2 = .ok (.iconst 0, 1) := by decide +kernel
theorem dX9_poke_3 : decode cX9_poke 3 = .ok (.aload_n 0, 1) := by decide +kernel
theorem dX9_poke_4 : decode cX9_poke 4 = .ok (.getfield 66, 3) := by decide +kernel
theorem dX9_poke_7 : decode cX9_poke 7 = .ok (.iconst 1, 1) := by decide +kernel
theorem dX9_poke_8 : decode cX9_poke 8 = .ok (.isub, 1) := by decide +kernel
theorem dX9_poke_9 : decode cX9_poke 9 = .ok (.invokestatic 138, 3) := by decide +kernel
theorem dX9_poke_12 : decode cX9_poke 12 = .ok (.ifCond .ne 7, 3) := by decide +kernel
theorem dX9_poke_15 : decode cX9_poke 15 = .ok (.iconst 1, 1) := by decide +kernel
theorem dX9_poke_16 : decode cX9_poke 16 = .ok (.goto 30, 3) := by decide +kernel
theorem dX9_poke_19 : decode cX9_poke 19 = .ok (.aload_n 0, 1) := by decide +kernel
theorem dX9_poke_20 : decode cX9_poke 20 = .ok (.getfield 72, 3) := by decide +kernel
theorem dX9_poke_23 : decode cX9_poke 23 = .ok (.ifCond .eq 7, 3) := by decide +kernel
theorem dX9_poke_26 : decode cX9_poke 26 = .ok (.iconst 2, 1) := by decide +kernel
theorem dX9_poke_27 : decode cX9_poke 27 = .ok (.goto 19, 3) := by decide +kernel
theorem dX9_poke_46 : decode cX9_poke 46 = .ok (.putfield 91, 3) := by decide +kernel
theorem dX9_poke_49 : decode cX9_poke 49 = .ok (.aload_n 0, 1) := by decide +kernel
theorem dX9_poke_50 : decode cX9_poke 50 = .ok (.getfield 91, 3) := by decide +kernel
theorem dX9_poke_53 : decode cX9_poke 53 = .ok (.ifCond .le 5, 3) := by decide +kernel
theorem dX9_poke_56 : decode cX9_poke 56 = .ok (.iconst 0, 1) := by decide +kernel
theorem dX9_poke_57 : decode cX9_poke 57 = .ok (.ireturn, 1) := by decide +kernel
theorem dX9_byteAt_0 : decode cX9_byteAt 0 = .ok (.aload_n 0, 1) := by decide +kernel
theorem dX9_byteAt_1 : decode cX9_byteAt 1 = .ok (.iload_n 1, 1) := by decide +kernel
theorem dX9_byteAt_2 : decode cX9_byteAt 2 = .ok (.iconst 0, 1) := by decide +kernel
theorem dX9_byteAt_3 : decode cX9_byteAt 3 = .ok (.aload_n 0, 1) := by decide +kernel
theorem dX9_byteAt_4 : decode cX9_byteAt 4 = .ok (.getfield 66, 3) := by decide +kernel
theorem dX9_byteAt_7 : decode cX9_byteAt 7 = .ok (.iconst 1, 1) := by decide +kernel
theorem dX9_byteAt_8 : decode cX9_byteAt 8 = .ok (.isub, 1) := by decide +kernel
theorem dX9_byteAt_9 : decode cX9_byteAt 9 = .ok (.invokestatic 138, 3) := by decide +kernel
theorem dX9_byteAt_12 : decode cX9_byteAt 12 = .ok (.ifCond .eq 7, 3) := by decide +kernel
theorem dX9_byteAt_15 : decode cX9_byteAt 15 = .ok (.iconst 0, 1) := by decide +kernel
theorem dX9_byteAt_16 : decode cX9_byteAt 16 = .ok (.goto 4, 3) := by decide +kernel
theorem dX9_byteAt_19 : decode cX9_byteAt 19 = .ok (.iconst 1, 1) := by decide +kernel
theorem dX9_byteAt_20 : decode cX9_byteAt 20 = .ok (.putfield 91, 3) := by decide +kernel
theorem dX9_byteAt_23 : decode cX9_byteAt 23 = .ok (.aload_n 0, 1) := by decide +kernel
theorem dX9_byteAt_24 : decode cX9_byteAt 24 = .ok (.getfield 91, 3) := by decide +kernel
theorem dX9_byteAt_27 : decode cX9_byteAt 27 = .ok (.ifCond .le 7, 3) := by decide +kernel
theorem dX9_byteAt_30 : decode cX9_byteAt 30 = .ok (.iconst 0, 1) := by decide +kernel
theorem dX9_byteAt_31 : decode cX9_byteAt 31 = .ok (.goto 8, 3) := by decide +kernel
theorem dX9_byteAt_34 : decode cX9_byteAt 34 = .ok (.aload_n 0, 1) := by decide +kernel
theorem dX9_byteAt_35 : decode cX9_byteAt 35 = .ok (.iload_n 1, 1) := by decide +kernel
theorem dX9_byteAt_36 : decode cX9_byteAt 36 = .ok (.invokevirtual 96, 3) := by decide +kernel
theorem dX9_byteAt_39 : decode cX9_byteAt 39 = .ok (.ireturn, 1) := by decide +kernel
theorem dX9_told_0 : decode cX9_told 0 = .ok (.aload_n 0, 1) := by decide +kernel
theorem dX9_told_1 : decode cX9_told 1 = .ok (.iload_n 1, 1) := by decide +kernel
theorem dX9_told_2 : decode cX9_told 2 = .ok (.iconst 0, 1) := by decide +kernel
theorem dX9_told_3 : decode cX9_told 3 = .ok (.bipush 8, 2) := by decide +kernel
theorem dX9_told_5 : decode cX9_told 5 = .ok (.invokestatic 138, 3) := by decide +kernel
theorem dX9_told_8 : decode cX9_told 8 = .ok (.ifCond .eq 7, 3) := by decide +kernel
theorem dX9_told_11 : decode cX9_told 11 = .ok (.iconst 0, 1) := by decide +kernel
theorem dX9_told_12 : decode cX9_told 12 = .ok (.goto 4, 3) := by decide +kernel
theorem dX9_told_15 : decode cX9_told 15 = .ok (.iconst 1, 1) := by decide +kernel
theorem dX9_told_16 : decode cX9_told 16 = .ok (.putfield 91, 3) := by decide +kernel
theorem dX9_told_19 : decode cX9_told 19 = .ok (.aload_n 0, 1) := by decide +kernel
theorem dX9_told_20 : decode cX9_told 20 = .ok (.getfield 91, 3) := by decide +kernel
theorem dX9_told_23 : decode cX9_told 23 = .ok (.ifCond .le 5, 3) := by decide +kernel
theorem dX9_told_26 : decode cX9_told 26 = .ok (.iconst 0, 1) := by decide +kernel
theorem dX9_told_27 : decode cX9_told 27 = .ok (.ireturn, 1) := by decide +kernel
theorem dX9_told_28 : decode cX9_told 28 = .ok (.iload_n 1, 1) := by decide +kernel
theorem dX9_told_29 : decode cX9_told 29 = .ok (.ifCond .ne 16, 3) := by decide +kernel
theorem dX9_told_32 : decode cX9_told 32 = .ok (.aload_n 0, 1) := by decide +kernel
theorem dX9_told_33 : decode cX9_told 33 = .ok (.getfield 72, 3) := by decide +kernel
theorem dX9_told_36 : decode cX9_told 36 = .ok (.ifCond .eq 7, 3) := by decide +kernel
theorem dX9_told_39 : decode cX9_told 39 = .ok (.iconst 1, 1) := by decide +kernel
theorem dX9_told_40 : decode cX9_told 40 = .ok (.goto 4, 3) := by decide +kernel
theorem dX9_told_44 : decode cX9_told 44 = .ok (.ireturn, 1) := by decide +kernel
theorem dX9_told_45 : decode cX9_told 45 = .ok (.iload_n 1, 1) := by decide +kernel
theorem dX9_told_46 : decode cX9_told 46 = .ok (.iconst 1, 1) := by decide +kernel
theorem dX9_told_47 : decode cX9_told 47 = .ok (.if_icmp .ne 8, 3) := by decide +kernel
theorem dX9_told_50 : decode cX9_told 50 = .ok (.aload_n 0, 1) := by decide +kernel
theorem dX9_told_51 : decode cX9_told 51 = .ok (.getfield 114, 3) := by decide +kernel
theorem dX9_told_54 : decode cX9_told 54 = .ok (.ireturn, 1) := by decide +kernel
theorem dX9_told_55 : decode cX9_told 55 = .ok (.aload_n 0, 1) := by decide +kernel
theorem dX9_told_56 : decode cX9_told 56 = .ok (.getfield 72, 3) := by decide +kernel
theorem dX9_told_59 : decode cX9_told 59 = .ok (.ifCond .ne 5, 3) := by decide +kernel
theorem dX9_told_64 : decode cX9_told 64 = .ok (.iload_n 1, 1) := by decide +kernel
theorem dX9_told_65 : decode cX9_told 65 = .ok (.tableswitch 78 2 7 #[39, 44, 58, 63, 68, 73], 39) := by decide +kernel
theorem dX9_told_104 : decode cX9_told 104 = .ok (.aload_n 0, 1) := by decide +kernel
theorem dX9_told_105 : decode cX9_told 105 = .ok (.getfield 76, 3) := by decide +kernel
theorem dX9_told_108 : decode cX9_told 108 = .ok (.ireturn, 1) := by decide +kernel
theorem dX9_told_109 : decode cX9_told 109 = .ok (.aload_n 0, 1) := by decide +kernel
theorem dX9_told_110 : decode cX9_told 110 = .ok (.bipush 16, 2) := by decide +kernel
theorem dX9_told_112 : decode cX9_told 112 = .ok (.aload_n 0, 1) := by decide +kernel
theorem dX9_told_113 : decode cX9_told 113 = .ok (.getfield 76, 3) := by decide +kernel
theorem dX9_told_116 : decode cX9_told 116 = .ok (.imul, 1) := by decide +kernel
theorem dX9_told_117 : decode cX9_told 117 = .ok (.iconst 4, 1) := by decide +kernel
theorem dX9_told_118 : decode cX9_told 118 = .ok (.invokevirtual 131, 3) := by decide +kernel
theorem dX9_told_121 : decode cX9_told 121 = .ok (.l2i, 1) := by decide +kernel
theorem dX9_told_122 : decode cX9_told 122 = .ok (.ireturn, 1) := by decide +kernel
theorem dX9_told_123 : decode cX9_told 123 = .ok (.aload_n 0, 1) := by decide +kernel
theorem dX9_told_124 : decode cX9_told 124 = .ok (.invokevirtual 163, 3) := by decide +kernel
theorem dX9_told_127 : decode cX9_told 127 = .ok (.ireturn, 1) := by decide +kernel
theorem dX9_told_128 : decode cX9_told 128 = .ok (.aload_n 0, 1) := by decide +kernel
theorem dX9_told_129 : decode cX9_told 129 = .ok (.invokevirtual 374, 3) := by decide +kernel
theorem dX9_told_132 : decode cX9_told 132 = .ok (.ireturn, 1) := by decide +kernel
theorem dX9_told_133 : decode cX9_told 133 = .ok (.aload_n 0, 1) := by decide +kernel
theorem dX9_told_134 : decode cX9_told 134 = .ok (.invokevirtual 173, 3) := by decide +kernel
theorem dX9_told_137 : decode cX9_told 137 = .ok (.ireturn, 1) := by decide +kernel
theorem dX9_told_138 : decode cX9_told 138 = .ok (.aload_n 0, 1) := by decide +kernel
theorem dX9_told_139 : decode cX9_told 139 = .ok (.invokevirtual 284, 3) := by decide +kernel
theorem dX9_told_142 : decode cX9_told 142 = .ok (.ireturn, 1) := by decide +kernel
theorem dX9_told_143 : decode cX9_told 143 = .ok (.aload_n 0, 1) := by decide +kernel
theorem dX9_told_144 : decode cX9_told 144 = .ok (.getfield 111, 3) := by decide +kernel
theorem dX9_told_147 : decode cX9_told 147 = .ok (.ireturn, 1) := by decide +kernel
theorem dJxa1e45_init_da8c8_0 : decode cJxa1e45_init_da8c8 0 = .ok (.aload_n 0, 1) := by decide +kernel
theorem dJxa1e45_init_da8c8_1 : decode cJxa1e45_init_da8c8 1 = .ok (.invokespecial 1, 3) := by decide +kernel
theorem dJxa1e45_init_da8c8_4 : decode cJxa1e45_init_da8c8 4 = .ok (.return_, 1) := by decide +kernel
theorem dJxc12de_init_da8c8_0 : decode cJxc12de_init_da8c8 0 = .ok (.aload_n 0, 1) := by decide +kernel
theorem dJxc12de_init_da8c8_1 : decode cJxc12de_init_da8c8 1 = .ok (.invokespecial 1, 3) := by decide +kernel
theorem dJxc12de_init_da8c8_4 : decode cJxc12de_init_da8c8 4 = .ok (.aload_n 0, 1) := by decide +kernel
theorem dJxc12de_init_da8c8_5 : decode cJxc12de_init_da8c8 5 = .ok (.iconst 0, 1) := by decide +kernel
theorem dJxc12de_init_da8c8_6 : decode cJxc12de_init_da8c8 6 = .ok (.putfield 7, 3) := by decide +kernel
theorem dJxc12de_init_da8c8_9 : decode cJxc12de_init_da8c8 9 = .ok (.return_, 1) := by decide +kernel
theorem dJx4a65c_init_da8c8_0 : decode cJx4a65c_init_da8c8 0 = .ok (.aload_n 0, 1) := by decide +kernel
theorem dJx4a65c_init_da8c8_1 : decode cJx4a65c_init_da8c8 1 = .ok (.invokespecial 1, 3) := by decide +kernel
theorem dJx4a65c_init_da8c8_4 : decode cJx4a65c_init_da8c8 4 = .ok (.aload_n 0, 1) := by decide +kernel
theorem dJx4a65c_init_da8c8_5 : decode cJx4a65c_init_da8c8 5 = .ok (.getstatic 39, 3) := by decide +kernel
theorem dJx4a65c_init_da8c8_8 : decode cJx4a65c_init_da8c8 8 = .ok (.putfield 9, 3) := by decide +kernel
theorem dJx4a65c_init_da8c8_11 : decode cJx4a65c_init_da8c8 11 = .ok (.return_, 1) := by decide +kernel
theorem dJx4a65c_size_8abf5_0 : decode cJx4a65c_size_8abf5 0 = .ok (.aload_n 0, 1) := by decide +kernel
theorem dJx4a65c_size_8abf5_1 : decode cJx4a65c_size_8abf5 1 = .ok (.getfield 48, 3) := by decide +kernel
theorem dJx4a65c_size_8abf5_4 : decode cJx4a65c_size_8abf5 4 = .ok (.ireturn, 1) := by decide +kernel
theorem dL_feed_0 : decode cL_feed 0 = .ok (.aload 4, 2) := by decide +kernel
theorem dL_feed_2 : decode cL_feed 2 = .ok (.iconst 0, 1) := by decide +kernel
theorem dL_feed_3 : decode cL_feed 3 = .ok (.aload_n 0, 1) := by decide +kernel
theorem dL_feed_4 : decode cL_feed 4 = .ok (.lload_n 1, 1) := by decide +kernel
theorem dL_feed_5 : decode cL_feed 5 = .ok (.iload_n 3, 1) := by decide +kernel
theorem dL_feed_6 : decode cL_feed 6 = .ok (.invokevirtual 7, 3) := by decide +kernel
theorem dL_feed_9 : decode cL_feed 9 = .ok (.i2l, 1) := by decide +kernel
theorem dL_feed_10 : decode cL_feed 10 = .ok (.lastore, 1) := by decide +kernel
theorem dL_feed_11 : decode cL_feed 11 = .ok (.goto 7, 3) := by decide +kernel
theorem dL_feed_14 : decode cL_feed 14 = .ok (.astore 5, 2) := by decide +kernel
theorem dL_feed_16 : decode cL_feed 16 = .ok (.iconst 1, 1) := by decide +kernel
theorem dL_feed_17 : decode cL_feed 17 = .ok (.ireturn, 1) := by decide +kernel
theorem dL_feed_18 : decode cL_feed 18 = .ok (.iconst 0, 1) := by decide +kernel
theorem dL_feed_19 : decode cL_feed 19 = .ok (.ireturn, 1) := by decide +kernel
theorem dL_at_0 : decode cL_at 0 = .ok (.aload_n 2, 1) := by decide +kernel
theorem dL_at_1 : decode cL_at 1 = .ok (.iconst 0, 1) := by decide +kernel
theorem dL_at_2 : decode cL_at 2 = .ok (.aload_n 0, 1) := by decide +kernel
theorem dL_at_3 : decode cL_at 3 = .ok (.iload_n 1, 1) := by decide +kernel
theorem dL_at_4 : decode cL_at 4 = .ok (.invokevirtual 15, 3) := by decide +kernel
theorem dL_at_12 : decode cL_at 12 = .ok (.astore_n 3, 1) := by decide +kernel
theorem dL_at_13 : decode cL_at 13 = .ok (.iconst 1, 1) := by decide +kernel
theorem dL_at_14 : decode cL_at 14 = .ok (.ireturn, 1) := by decide +kernel
theorem dL_leaf_0 : decode cL_leaf 0 = .ok (.aload_n 1, 1) := by decide +kernel
theorem dL_leaf_1 : decode cL_leaf 1 = .ok (.iconst 0, 1) := by decide +kernel
theorem dL_leaf_2 : decode cL_leaf 2 = .ok (.aload_n 0, 1) := by decide +kernel
theorem dL_leaf_3 : decode cL_leaf 3 = .ok (.invokevirtual 21, 3) := by decide +kernel
theorem dL_leaf_14 : decode cL_leaf 14 = .ok (.astore_n 2, 1) := by decide +kernel

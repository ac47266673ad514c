theorem dL_feed_0 : decode cL_feed 0 = .ok (.aload 4, 2) := by decide +kernel
theorem dL_feed_2 : decode cL_feed 2 = .ok (.iconst 0, 1) := by decide +kernel
theorem dL_feed_3 : decode cL_feed 3 = .ok (.aload_n 0, 1) := by decide +kernel
theorem dL_feed_4 : decode cL_feed 4 = .ok (.lload_n 1, 1) := by decide +kernel
theorem dL_feed_5 : decode cL_feed 5 = .ok (.iload_n 3, 1) := by decide +kernel
theorem dL_feed_6 : decode cL_feed 6 = .ok (.invokevirtual 7, 3) := by decide +kernel
theorem dL_feed_9 : decode cL_feed 9 = .ok (.i2l, 1) := by decide +kernel
theorem dL_feed_10 : decode cL_feed 10 = .ok (.lastore, 1) := by decide +kernel
theorem dL_feed_11 : decode cL_feed 11 = .ok (.goto 7, 3) := by decide +kernel
theorem dL_feed_14 : decode cL_feed 14 = .ok (.astore 5, 2) := by decide +kernel
theorem dL_feed_16 : decode cL_feed 16 = .ok (.iconst 1, 1) := by decide +kernel
theorem dL_feed_17 : decode cL_feed 17 = .ok (.ireturn, 1) := by decide +kernel
theorem dL_feed_18 : decode cL_feed 18 = .ok (.iconst 0, 1) := by decide +kernel
theorem dL_feed_19 : decode cL_feed 19 = .ok (.ireturn, 1) := by decide +kernel
theorem dL_at_0 : decode cL_at 0 = .ok (.aload_n 2, 1) := by decide +kernel
theorem dL_at_1 : decode cL_at 1 = .ok (.iconst 0, 1) := by decide +kernel
theorem dL_at_2 : decode cL_at 2 = .ok (.aload_n 0, 1) := by decide +kernel
theorem dL_at_3 : decode cL_at 3 = .ok (.iload_n 1, 1) := by decide +kernel
theorem dL_at_4 : decode cL_at 4 = .ok (.invokevirtual 15, 3) := by decide +kernel
theorem dL_at_7 : decode cL_at 7 = .ok (.i2l, 1) := by decide +kernel
theorem dL_at_8 : decode cL_at 8 = .ok (.lastore, 1) := by decide +kernel
theorem dL_at_9 : decode cL_at 9 = .ok (.goto 6, 3) := by decide +kernel
theorem dL_at_12 : decode cL_at 12 = .ok (.astore_n 3, 1) := by decide +kernel
theorem dL_at_13 : decode cL_at 13 = .ok (.iconst 1, 1) := by decide +kernel
theorem dL_at_14 : decode cL_at 14 = .ok (.ireturn, 1) := by decide +kernel
theorem dL_at_15 : decode cL_at 15 = .ok (.iconst 0, 1) := by decide +kernel
theorem dL_at_16 : decode cL_at 16 = .ok (.ireturn, 1) := by decide +kernel
theorem dL_leaf_0 : decode cL_leaf 0 = .ok (.aload_n 1, 1) := by decide +kernel
theorem dL_leaf_1 : decode cL_leaf 1 = .ok (.iconst 0, 1) := by decide +kernel
theorem dL_leaf_2 : decode cL_leaf 2 = .ok (.aload_n 0, 1) := by decide +kernel
theorem dL_leaf_3 : decode cL_leaf 3 = .ok (.invokevirtual 21, 3) := by decide +kernel
theorem dL_leaf_6 : decode cL_leaf 6 = .ok (.i2l, 1) := by decide +kernel
theorem dL_leaf_7 : decode cL_leaf 7 = .ok (.lastore, 1) := by decide +kernel
theorem dL_leaf_8 : decode cL_leaf 8 = .ok (.goto 9, 3) := by decide +kernel
theorem dL_leaf_11 : decode cL_leaf 11 = .ok (.astore_n 2, 1) := by decide +kernel
theorem dL_leaf_12 : decode cL_leaf 12 = .ok (.iconst 1, 1) := by decide +kernel
theorem dL_leaf_13 : decode cL_leaf 13 = .ok (.ireturn, 1) := by decide +kernel
theorem dL_leaf_14 : decode cL_leaf 14 = .ok (.astore_n 2, 1) := by decide +kernel
theorem dL_leaf_15 : decode cL_leaf 15 = .ok (.iconst 2, 1) := by decide +kernel
theorem dL_leaf_16 : decode cL_leaf 16 = .ok (.ireturn, 1) := by decide +kernel
theorem dL_leaf_17 : decode cL_leaf 17 = .ok (.iconst 0, 1) := by decide +kernel
theorem dL_leaf_18 : decode cL_leaf 18 = .ok (.ireturn, 1) := by decide +kernel
theorem dL_change_0 : decode cL_change 0 = .ok (.aload_n 3, 1) := by decide +kernel
theorem dL_change_1 : decode cL_change 1 = .ok (.iconst 0, 1) := by decide +kernel
theorem dL_change_2 : decode cL_change 2 = .ok (.aload_n 0, 1) := by decide +kernel
theorem dL_change_3 : decode cL_change 3 = .ok (.iload_n 1, 1) := by decide +kernel
theorem dL_change_4 : decode cL_change 4 = .ok (.iload_n 2, 1) := by decide +kernel
theorem dL_change_5 : decode cL_change 5 = .ok (.invokevirtual 27, 3) := by decide +kernel
theorem dL_change_8 : decode cL_change 8 = .ok (.i2l, 1) := by decide +kernel
theorem dL_change_9 : decode cL_change 9 = .ok (.lastore, 1) := by decide +kernel
theorem dL_change_10 : decode cL_change 10 = .ok (.goto 11, 3) := by decide +kernel
theorem dL_change_13 : decode cL_change 13 = .ok (.astore 4, 2) := by decide +kernel
theorem dL_change_15 : decode cL_change 15 = .ok (.iconst 1, 1) := by decide +kernel
theorem dL_change_16 : decode cL_change 16 = .ok (.ireturn, 1) := by decide +kernel
theorem dL_change_17 : decode cL_change 17 = .ok (.astore 4, 2) := by decide +kernel
theorem dL_change_19 : decode cL_change 19 = .ok (.iconst 2, 1) := by decide +kernel
theorem dL_change_20 : decode cL_change 20 = .ok (.ireturn, 1) := by decide +kernel
theorem dL_change_21 : decode cL_change 21 = .ok (.iconst 0, 1) := by decide +kernel
theorem dL_change_22 : decode cL_change 22 = .ok (.ireturn, 1) := by decide +kernel
theorem dL_block_0 : decode cL_block 0 = .ok (.aload 4, 2) := by decide +kernel
theorem dL_block_2 : decode cL_block 2 = .ok (.iconst 0, 1) := by decide +kernel
theorem dL_block_3 : decode cL_block 3 = .ok (.aload_n 0, 1) := by decide +kernel
theorem dL_block_4 : decode cL_block 4 = .ok (.iload_n 1, 1) := by decide +kernel
theorem dL_block_5 : decode cL_block 5 = .ok (.lload_n 2, 1) := by decide +kernel
theorem dL_block_6 : decode cL_block 6 = .ok (.invokevirtual 31, 3) := by decide +kernel
theorem dL_block_9 : decode cL_block 9 = .ok (.i2l, 1) := by decide +kernel
theorem dL_block_10 : decode cL_block 10 = .ok (.lastore, 1) := by decide +kernel
theorem dL_block_11 : decode cL_block 11 = .ok (.goto 11, 3) := by decide +kernel
theorem dL_block_14 : decode cL_block 14 = .ok (.astore 5, 2) := by decide +kernel
theorem dL_block_16 : decode cL_block 16 = .ok (.iconst 1, 1) := by decide +kernel
theorem dL_block_17 : decode cL_block 17 = .ok (.ireturn, 1) := by decide +kernel
theorem dL_block_18 : decode cL_block 18 = .ok (.astore 5, 2) := by decide +kernel
theorem dL_block_20 : decode cL_block 20 = .ok (.iconst 2, 1) := by decide +kernel
theorem dL_block_21 : decode cL_block 21 = .ok (.ireturn, 1) := by decide +kernel
theorem dL_block_22 : decode cL_block 22 = .ok (.iconst 0, 1) := by decide +kernel
theorem dL_block_23 : decode cL_block 23 = .ok (.ireturn, 1) := by decide +kernel
theorem dL_digest_0 : decode cL_digest 0 = .ok (.aload_n 2, 1) := by decide +kernel
theorem dL_digest_1 : decode cL_digest 1 = .ok (.iconst 0, 1) := by decide +kernel
theorem dL_digest_2 : decode cL_digest 2 = .ok (.aload_n 0, 1) := by decide +kernel
theorem dL_digest_3 : decode cL_digest 3 = .ok (.iload_n 1, 1) := by decide +kernel
theorem dL_digest_4 : decode cL_digest 4 = .ok (.invokevirtual 35, 3) := by decide +kernel
theorem dL_digest_7 : decode cL_digest 7 = .ok (.lastore, 1) := by decide +kernel
theorem dL_digest_8 : decode cL_digest 8 = .ok (.goto 9, 3) := by decide +kernel
theorem dL_digest_11 : decode cL_digest 11 = .ok (.astore_n 3, 1) := by decide +kernel
theorem dL_digest_12 : decode cL_digest 12 = .ok (.iconst 1, 1) := by decide +kernel
theorem dL_digest_13 : decode cL_digest 13 = .ok (.ireturn, 1) := by decide +kernel
theorem dL_digest_14 : decode cL_digest 14 = .ok (.astore_n 3, 1) := by decide +kernel
theorem dL_digest_15 : decode cL_digest 15 = .ok (.iconst 2, 1) := by decide +kernel
theorem dL_digest_16 : decode cL_digest 16 = .ok (.ireturn, 1) := by decide +kernel
theorem dL_digest_17 : decode cL_digest 17 = .ok (.iconst 0, 1) := by decide +kernel
theorem dL_digest_18 : decode cL_digest 18 = .ok (.ireturn, 1) := by decide +kernel
theorem dL_vote_0 : decode cL_vote 0 = .ok (.aload 5, 2) := by decide +kernel
theorem dL_vote_2 : decode cL_vote 2 = .ok (.iconst 0, 1) := by decide +kernel
theorem dL_vote_3 : decode cL_vote 3 = .ok (.aload_n 0, 1) := by decide +kernel
theorem dL_vote_4 : decode cL_vote 4 = .ok (.iload_n 1, 1) := by decide +kernel
theorem dL_vote_5 : decode cL_vote 5 = .ok (.iload_n 2, 1) := by decide +kernel
theorem dL_vote_6 : decode cL_vote 6 = .ok (.lload_n 3, 1) := by decide +kernel
theorem dL_vote_7 : decode cL_vote 7 = .ok (.invokevirtual 39, 3) := by decide +kernel
theorem dL_vote_10 : decode cL_vote 10 = .ok (.i2l, 1) := by decide +kernel
theorem dL_vote_11 : decode cL_vote 11 = .ok (.lastore, 1) := by decide +kernel
theorem dL_vote_12 : decode cL_vote 12 = .ok (.goto 11, 3) := by decide +kernel
theorem dL_vote_15 : decode cL_vote 15 = .ok (.astore 6, 2) := by decide +kernel
theorem dL_vote_17 : decode cL_vote 17 = .ok (.iconst 1, 1) := by decide +kernel
theorem dL_vote_18 : decode cL_vote 18 = .ok (.ireturn, 1) := by decide +kernel
theorem dL_vote_19 : decode cL_vote 19 = .ok (.astore 6, 2) := by decide +kernel
theorem dL_vote_21 : decode cL_vote 21 = .ok (.iconst 2, 1) := by decide +kernel
theorem dL_vote_22 : decode cL_vote 22 = .ok (.ireturn, 1) := by decide +kernel
theorem dL_vote_23 : decode cL_vote 23 = .ok (.iconst 0, 1) := by decide +kernel
theorem dL_vote_24 : decode cL_vote 24 = .ok (.ireturn, 1) := by decide +kernel
theorem dL_sent_0 : decode cL_sent 0 = .ok (.aload_n 2, 1) := by decide +kernel
theorem dL_sent_1 : decode cL_sent 1 = .ok (.iconst 0, 1) := by decide +kernel
theorem dL_sent_2 : decode cL_sent 2 = .ok (.aload_n 0, 1) := by decide +kernel
theorem dL_sent_3 : decode cL_sent 3 = .ok (.iload_n 1, 1) := by decide +kernel
theorem dL_sent_4 : decode cL_sent 4 = .ok (.invokevirtual 43, 3) := by decide +kernel
theorem dL_sent_7 : decode cL_sent 7 = .ok (.ifCond .eq 7, 3) := by decide +kernel
theorem dL_sent_10 : decode cL_sent 10 = .ok (.lconst 1, 1) := by decide +kernel
theorem dL_sent_11 : decode cL_sent 11 = .ok (.goto 4, 3) := by decide +kernel
theorem dL_sent_14 : decode cL_sent 14 = .ok (.lconst 0, 1) := by decide +kernel
theorem dL_sent_15 : decode cL_sent 15 = .ok (.lastore, 1) := by decide +kernel
theorem dL_sent_16 : decode cL_sent 16 = .ok (.goto 9, 3) := by decide +kernel
theorem dL_sent_19 : decode cL_sent 19 = .ok (.astore_n 3, 1) := by decide +kernel
theorem dL_sent_20 : decode cL_sent 20 = .ok (.iconst 1, 1) := by decide +kernel
theorem dL_sent_21 : decode cL_sent 21 = .ok (.ireturn, 1) := by decide +kernel
theorem dL_sent_22 : decode cL_sent 22 = .ok (.astore_n 3, 1) := by decide +kernel
theorem dL_sent_23 : decode cL_sent 23 = .ok (.iconst 2, 1) := by decide +kernel
theorem dL_sent_24 : decode cL_sent 24 = .ok (.ireturn, 1) := by decide +kernel
theorem dL_sent_25 : decode cL_sent 25 = .ok (.iconst 0, 1) := by decide +kernel
theorem dL_sent_26 : decode cL_sent 26 = .ok (.ireturn, 1) := by decide +kernel
theorem dL_certify_0 : decode cL_certify 0 = .ok (.aload 4, 2) := by decide +kernel
theorem dL_certify_2 : decode cL_certify 2 = .ok (.iconst 0, 1) := by decide +kernel
theorem dL_certify_3 : decode cL_certify 3 = .ok (.aload_n 0, 1) := by decide +kernel
theorem dL_certify_4 : decode cL_certify 4 = .ok (.lload_n 1, 1) := by decide +kernel
theorem dL_certify_5 : decode cL_certify 5 = .ok (.iload_n 3, 1) := by decide +kernel
theorem dL_certify_6 : decode cL_certify 6 = .ok (.invokevirtual 47, 3) := by decide +kernel
theorem dL_certify_9 : decode cL_certify 9 = .ok (.i2l, 1) := by decide +kernel
theorem dL_certify_10 : decode cL_certify 10 = .ok (.lastore, 1) := by decide +kernel
theorem dL_certify_11 : decode cL_certify 11 = .ok (.goto 11, 3) := by decide +kernel
theorem dL_certify_14 : decode cL_certify 14 = .ok (.astore 5, 2) := by decide +kernel
theorem dL_certify_16 : decode cL_certify 16 = .ok (.iconst 1, 1) := by decide +kernel
theorem dL_certify_17 : decode cL_certify 17 = .ok (.ireturn, 1) := by decide +kernel
theorem dL_certify_18 : decode cL_certify 18 = .ok (.astore 5, 2) := by decide +kernel
theorem dL_certify_20 : decode cL_certify 20 = .ok (.iconst 2, 1) := by decide +kernel
theorem dL_certify_21 : decode cL_certify 21 = .ok (.ireturn, 1) := by decide +kernel
theorem dL_certify_22 : decode cL_certify 22 = .ok (.iconst 0, 1) := by decide +kernel
theorem dL_certify_23 : decode cL_certify 23 = .ok (.ireturn, 1) := by decide +kernel
theorem dL_version_0 : decode cL_version 0 = .ok (.aload_n 2, 1) := by decide +kernel
theorem dL_version_1 : decode cL_version 1 = .ok (.iconst 0, 1) := by decide +kernel
theorem dL_version_2 : decode cL_version 2 = .ok (.aload_n 0, 1) := by decide +kernel
theorem dL_version_3 : decode cL_version 3 = .ok (.iload_n 1, 1) := by decide +kernel
theorem dL_version_4 : decode cL_version 4 = .ok (.invokevirtual 50, 3) := by decide +kernel
theorem dL_version_7 : decode cL_version 7 = .ok (.i2l, 1) := by decide +kernel
theorem dL_version_8 : decode cL_version 8 = .ok (.lastore, 1) := by decide +kernel
theorem dL_version_9 : decode cL_version 9 = .ok (.goto 9, 3) := by decide +kernel
theorem dL_version_12 : decode cL_version 12 = .ok (.astore_n 3, 1) := by decide +kernel
theorem dL_version_13 : decode cL_version 13 = .ok (.iconst 1, 1) := by decide +kernel
theorem dL_version_14 : decode cL_version 14 = .ok (.ireturn, 1) := by decide +kernel
theorem dL_version_15 : decode cL_version 15 = .ok (.astore_n 3, 1) := by decide +kernel
theorem dL_version_16 : decode cL_version 16 = .ok (.iconst 2, 1) := by decide +kernel
theorem dL_version_17 : decode cL_version 17 = .ok (.ireturn, 1) := by decide +kernel
theorem dL_version_18 : decode cL_version 18 = .ok (.iconst 0, 1) := by decide +kernel
theorem dL_version_19 : decode cL_version 19 = .ok (.ireturn, 1) := by decide +kernel
theorem dL_slot_0 : decode cL_slot 0 = .ok (.aload_n 3, 1) := by decide +kernel
theorem dL_slot_1 : decode cL_slot 1 = .ok (.iconst 0, 1) := by decide +kernel
theorem dL_slot_2 : decode cL_slot 2 = .ok (.aload_n 0, 1) := by decide +kernel
theorem dL_slot_3 : decode cL_slot 3 = .ok (.iload_n 1, 1) := by decide +kernel
theorem dL_slot_4 : decode cL_slot 4 = .ok (.iload_n 2, 1) := by decide +kernel
theorem dL_slot_5 : decode cL_slot 5 = .ok (.invokevirtual 53, 3) := by decide +kernel
theorem dL_slot_8 : decode cL_slot 8 = .ok (.lastore, 1) := by decide +kernel
theorem dL_slot_9 : decode cL_slot 9 = .ok (.goto 11, 3) := by decide +kernel
theorem dL_slot_12 : decode cL_slot 12 = .ok (.astore 4, 2) := by decide +kernel
theorem dL_slot_14 : decode cL_slot 14 = .ok (.iconst 1, 1) := by decide +kernel
theorem dL_slot_15 : decode cL_slot 15 = .ok (.ireturn, 1) := by decide +kernel
theorem dL_slot_16 : decode cL_slot 16 = .ok (.astore 4, 2) := by decide +kernel
theorem dL_slot_18 : decode cL_slot 18 = .ok (.iconst 2, 1) := by decide +kernel
theorem dL_slot_19 : decode cL_slot 19 = .ok (.ireturn, 1) := by decide +kernel
theorem dL_slot_20 : decode cL_slot 20 = .ok (.iconst 0, 1) := by decide +kernel
theorem dL_slot_21 : decode cL_slot 21 = .ok (.ireturn, 1) := by decide +kernel
theorem dL_page_0 : decode cL_page 0 = .ok (.aload_n 3, 1) := by decide +kernel
theorem dL_page_1 : decode cL_page 1 = .ok (.iconst 0, 1) := by decide +kernel
theorem dL_page_2 : decode cL_page 2 = .ok (.aload_n 0, 1) := by decide +kernel
theorem dL_page_3 : decode cL_page 3 = .ok (.lload_n 1, 1) := by decide +kernel
theorem dL_page_4 : decode cL_page 4 = .ok (.invokevirtual 57, 3) := by decide +kernel
theorem dL_page_7 : decode cL_page 7 = .ok (.i2l, 1) := by decide +kernel
theorem dL_page_8 : decode cL_page 8 = .ok (.lastore, 1) := by decide +kernel
theorem dL_page_9 : decode cL_page 9 = .ok (.goto 7, 3) := by decide +kernel
theorem dL_page_12 : decode cL_page 12 = .ok (.astore 4, 2) := by decide +kernel
theorem dL_page_14 : decode cL_page 14 = .ok (.iconst 1, 1) := by decide +kernel
theorem dL_page_15 : decode cL_page 15 = .ok (.ireturn, 1) := by decide +kernel
theorem dL_page_16 : decode cL_page 16 = .ok (.iconst 0, 1) := by decide +kernel
theorem dL_page_17 : decode cL_page 17 = .ok (.ireturn, 1) := by decide +kernel
theorem dL_byteOf_0 : decode cL_byteOf 0 = .ok (.aload_n 3, 1) := by decide +kernel
theorem dL_byteOf_1 : decode cL_byteOf 1 = .ok (.iconst 0, 1) := by decide +kernel
theorem dL_byteOf_2 : decode cL_byteOf 2 = .ok (.aload_n 0, 1) := by decide +kernel
theorem dL_byteOf_3 : decode cL_byteOf 3 = .ok (.iload_n 1, 1) := by decide +kernel
theorem dL_byteOf_4 : decode cL_byteOf 4 = .ok (.iload_n 2, 1) := by decide +kernel
theorem dL_byteOf_5 : decode cL_byteOf 5 = .ok (.invokevirtual 61, 3) := by decide +kernel
theorem dL_byteOf_8 : decode cL_byteOf 8 = .ok (.i2l, 1) := by decide +kernel
theorem dL_byteOf_9 : decode cL_byteOf 9 = .ok (.lastore, 1) := by decide +kernel
theorem dL_byteOf_10 : decode cL_byteOf 10 = .ok (.goto 11, 3) := by decide +kernel
theorem dL_byteOf_13 : decode cL_byteOf 13 = .ok (.astore 4, 2) := by decide +kernel
theorem dL_byteOf_15 : decode cL_byteOf 15 = .ok (.iconst 1, 1) := by decide +kernel
theorem dL_byteOf_16 : decode cL_byteOf 16 = .ok (.ireturn, 1) := by decide +kernel
theorem dL_byteOf_17 : decode cL_byteOf 17 = .ok (.astore 4, 2) := by decide +kernel
theorem dL_byteOf_19 : decode cL_byteOf 19 = .ok (.iconst 2, 1) := by decide +kernel
theorem dL_byteOf_20 : decode cL_byteOf 20 = .ok (.ireturn, 1) := by decide +kernel
theorem dL_byteOf_21 : decode cL_byteOf 21 = .ok (.iconst 0, 1) := by decide +kernel
theorem dL_byteOf_22 : decode cL_byteOf 22 = .ok (.ireturn, 1) := by decide +kernel
theorem dL_named_0 : decode cL_named 0 = .ok (.aload_n 2, 1) := by decide +kernel
theorem dL_named_1 : decode cL_named 1 = .ok (.iconst 0, 1) := by decide +kernel
theorem dL_named_2 : decode cL_named 2 = .ok (.aload_n 0, 1) := by decide +kernel
theorem dL_named_3 : decode cL_named 3 = .ok (.iload_n 1, 1) := by decide +kernel
theorem dL_named_4 : decode cL_named 4 = .ok (.invokevirtual 64, 3) := by decide +kernel
theorem dL_named_7 : decode cL_named 7 = .ok (.ifCond .eq 7, 3) := by decide +kernel
theorem dL_named_10 : decode cL_named 10 = .ok (.lconst 1, 1) := by decide +kernel
theorem dL_named_11 : decode cL_named 11 = .ok (.goto 4, 3) := by decide +kernel
theorem dL_named_14 : decode cL_named 14 = .ok (.lconst 0, 1) := by decide +kernel
theorem dL_named_15 : decode cL_named 15 = .ok (.lastore, 1) := by decide +kernel
theorem dL_named_16 : decode cL_named 16 = .ok (.goto 9, 3) := by decide +kernel
theorem dL_named_19 : decode cL_named 19 = .ok (.astore_n 3, 1) := by decide +kernel
theorem dL_named_20 : decode cL_named 20 = .ok (.iconst 1, 1) := by decide +kernel
theorem dL_named_21 : decode cL_named 21 = .ok (.ireturn, 1) := by decide +kernel
theorem dL_named_22 : decode cL_named 22 = .ok (.astore_n 3, 1) := by decide +kernel
theorem dL_named_23 : decode cL_named 23 = .ok (.iconst 2, 1) := by decide +kernel
theorem dL_named_24 : decode cL_named 24 = .ok (.ireturn, 1) := by decide +kernel
theorem dL_named_25 : decode cL_named 25 = .ok (.iconst 0, 1) := by decide +kernel
theorem dL_named_26 : decode cL_named 26 = .ok (.ireturn, 1) := by decide +kernel
theorem dL_prune_0 : decode cL_prune 0 = .ok (.aload_n 2, 1) := by decide +kernel
theorem dL_prune_1 : decode cL_prune 1 = .ok (.iconst 0, 1) := by decide +kernel
theorem dL_prune_2 : decode cL_prune 2 = .ok (.aload_n 0, 1) := by decide +kernel
theorem dL_prune_3 : decode cL_prune 3 = .ok (.iload_n 1, 1) := by decide +kernel
theorem dL_prune_4 : decode cL_prune 4 = .ok (.invokevirtual 67, 3) := by decide +kernel
theorem dL_prune_7 : decode cL_prune 7 = .ok (.i2l, 1) := by decide +kernel
theorem dL_prune_8 : decode cL_prune 8 = .ok (.lastore, 1) := by decide +kernel
theorem dL_prune_9 : decode cL_prune 9 = .ok (.goto 9, 3) := by decide +kernel
theorem dL_prune_12 : decode cL_prune 12 = .ok (.astore_n 3, 1) := by decide +kernel
theorem dL_prune_13 : decode cL_prune 13 = .ok (.iconst 1, 1) := by decide +kernel
theorem dL_prune_14 : decode cL_prune 14 = .ok (.ireturn, 1) := by decide +kernel
theorem dL_prune_15 : decode cL_prune 15 = .ok (.astore_n 3, 1) := by decide +kernel
theorem dL_prune_16 : decode cL_prune 16 = .ok (.iconst 2, 1) := by decide +kernel
theorem dL_prune_17 : decode cL_prune 17 = .ok (.ireturn, 1) := by decide +kernel
theorem dL_prune_18 : decode cL_prune 18 = .ok (.iconst 0, 1) := by decide +kernel
theorem dL_prune_19 : decode cL_prune 19 = .ok (.ireturn, 1) := by decide +kernel
theorem dL_out_0 : decode cL_out 0 = .ok (.aload_n 2, 1) := by decide +kernel
theorem dL_out_1 : decode cL_out 1 = .ok (.iconst 0, 1) := by decide +kernel
theorem dL_out_2 : decode cL_out 2 = .ok (.aload_n 0, 1) := by decide +kernel
theorem dL_out_3 : decode cL_out 3 = .ok (.iload_n 1, 1) := by decide +kernel
theorem dL_out_4 : decode cL_out 4 = .ok (.invokevirtual 70, 3) := by decide +kernel
theorem dL_out_7 : decode cL_out 7 = .ok (.i2l, 1) := by decide +kernel
theorem dL_out_8 : decode cL_out 8 = .ok (.lastore, 1) := by decide +kernel
theorem dL_out_9 : decode cL_out 9 = .ok (.goto 9, 3) := by decide +kernel
theorem dL_out_12 : decode cL_out 12 = .ok (.astore_n 3, 1) := by decide +kernel
theorem dL_out_13 : decode cL_out 13 = .ok (.iconst 1, 1) := by decide +kernel
theorem dL_out_14 : decode cL_out 14 = .ok (.ireturn, 1) := by decide +kernel
theorem dL_out_15 : decode cL_out 15 = .ok (.astore_n 3, 1) := by decide +kernel
theorem dL_out_16 : decode cL_out 16 = .ok (.iconst 2, 1) := by decide +kernel
theorem dL_out_17 : decode cL_out 17 = .ok (.ireturn, 1) := by decide +kernel
theorem dL_out_18 : decode cL_out 18 = .ok (.iconst 0, 1) := by decide +kernel
theorem dL_out_19 : decode cL_out 19 = .ok (.ireturn, 1) := by decide +kernel
theorem dL_in_0 : decode cL_in 0 = .ok (.aload_n 1, 1) := by decide +kernel
theorem dL_in_1 : decode cL_in 1 = .ok (.iconst 0, 1) := by decide +kernel
theorem dL_in_2 : decode cL_in 2 = .ok (.aload_n 0, 1) := by decide +kernel
theorem dL_in_3 : decode cL_in 3 = .ok (.invokevirtual 73, 3) := by decide +kernel
theorem dL_in_6 : decode cL_in 6 = .ok (.i2l, 1) := by decide +kernel
theorem dL_in_7 : decode cL_in 7 = .ok (.lastore, 1) := by decide +kernel
theorem dL_in_8 : decode cL_in 8 = .ok (.goto 6, 3) := by decide +kernel
theorem dL_in_11 : decode cL_in 11 = .ok (.astore_n 2, 1) := by decide +kernel
theorem dL_in_12 : decode cL_in 12 = .ok (.iconst 1, 1) := by decide +kernel
theorem dL_in_13 : decode cL_in 13 = .ok (.ireturn, 1) := by decide +kernel
theorem dL_in_14 : decode cL_in 14 = .ok (.iconst 0, 1) := by decide +kernel
theorem dL_in_15 : decode cL_in 15 = .ok (.ireturn, 1) := by decide +kernel
theorem dL_cut_0 : decode cL_cut 0 = .ok (.aload_n 0, 1) := by decide +kernel
theorem dL_cut_1 : decode cL_cut 1 = .ok (.iload_n 1, 1) := by decide +kernel
theorem dL_cut_2 : decode cL_cut 2 = .ok (.invokevirtual 76, 3) := by decide +kernel
theorem dL_cut_5 : decode cL_cut 5 = .ok (.goto 6, 3) := by decide +kernel
theorem dL_cut_8 : decode cL_cut 8 = .ok (.astore_n 2, 1) := by decide +kernel
theorem dL_cut_9 : decode cL_cut 9 = .ok (.iconst 1, 1) := by decide +kernel
theorem dL_cut_10 : decode cL_cut 10 = .ok (.ireturn, 1) := by decide +kernel
theorem dL_cut_11 : decode cL_cut 11 = .ok (.iconst 0, 1) := by decide +kernel
theorem dL_cut_12 : decode cL_cut 12 = .ok (.ireturn, 1) := by decide +kernel
theorem dL_poke_0 : decode cL_poke 0 = .ok (.aload_n 3, 1) := by decide +kernel
theorem dL_poke_1 : decode cL_poke 1 = .ok (.iconst 0, 1) := by decide +kernel
theorem dL_poke_2 : decode cL_poke 2 = .ok (.aload_n 0, 1) := by decide +kernel
theorem dL_poke_3 : decode cL_poke 3 = .ok (.iload_n 1, 1) := by decide +kernel
theorem dL_poke_4 : decode cL_poke 4 = .ok (.iload_n 2, 1) := by decide +kernel
theorem dL_poke_5 : decode cL_poke 5 = .ok (.invokevirtual 80, 3) := by decide +kernel
theorem dL_poke_8 : decode cL_poke 8 = .ok (.i2l, 1) := by decide +kernel
theorem dL_poke_9 : decode cL_poke 9 = .ok (.lastore, 1) := by decide +kernel
theorem dL_poke_10 : decode cL_poke 10 = .ok (.goto 15, 3) := by decide +kernel
theorem dL_poke_13 : decode cL_poke 13 = .ok (.astore 4, 2) := by decide +kernel
theorem dL_poke_15 : decode cL_poke 15 = .ok (.iconst 1, 1) := by decide +kernel
theorem dL_poke_16 : decode cL_poke 16 = .ok (.ireturn, 1) := by decide +kernel
theorem dL_poke_17 : decode cL_poke 17 = .ok (.astore 4, 2) := by decide +kernel
theorem dL_poke_19 : decode cL_poke 19 = .ok (.iconst 2, 1) := by decide +kernel
theorem dL_poke_20 : decode cL_poke 20 = .ok (.ireturn, 1) := by decide +kernel
theorem dL_poke_21 : decode cL_poke 21 = .ok (.astore 4, 2) := by decide +kernel
theorem dL_poke_23 : decode cL_poke 23 = .ok (.iconst 3, 1) := by decide +kernel
theorem dL_poke_24 : decode cL_poke 24 = .ok (.ireturn, 1) := by decide +kernel
theorem dL_poke_25 : decode cL_poke 25 = .ok (.iconst 0, 1) := by decide +kernel
theorem dL_poke_26 : decode cL_poke 26 = .ok (.ireturn, 1) := by decide +kernel
theorem dL_byteAt_0 : decode cL_byteAt 0 = .ok (.aload_n 2, 1) := by decide +kernel
theorem dL_byteAt_1 : decode cL_byteAt 1 = .ok (.iconst 0, 1) := by decide +kernel
theorem dL_byteAt_2 : decode cL_byteAt 2 = .ok (.aload_n 0, 1) := by decide +kernel
theorem dL_byteAt_3 : decode cL_byteAt 3 = .ok (.iload_n 1, 1) := by decide +kernel
theorem dL_byteAt_4 : decode cL_byteAt 4 = .ok (.invokevirtual 83, 3) := by decide +kernel
theorem dL_byteAt_7 : decode cL_byteAt 7 = .ok (.i2l, 1) := by decide +kernel
theorem dL_byteAt_8 : decode cL_byteAt 8 = .ok (.lastore, 1) := by decide +kernel
theorem dL_byteAt_9 : decode cL_byteAt 9 = .ok (.goto 6, 3) := by decide +kernel
theorem dL_byteAt_12 : decode cL_byteAt 12 = .ok (.astore_n 3, 1) := by decide +kernel
theorem dL_byteAt_13 : decode cL_byteAt 13 = .ok (.iconst 1, 1) := by decide +kernel
theorem dL_byteAt_14 : decode cL_byteAt 14 = .ok (.ireturn, 1) := by decide +kernel
theorem dL_byteAt_15 : decode cL_byteAt 15 = .ok (.iconst 0, 1) := by decide +kernel
theorem dL_byteAt_16 : decode cL_byteAt 16 = .ok (.ireturn, 1) := by decide +kernel
theorem dL_asked_0 : decode cL_asked 0 = .ok (.aload_n 2, 1) := by decide +kernel
theorem dL_asked_1 : decode cL_asked 1 = .ok (.iconst 0, 1) := by decide +kernel
theorem dL_asked_2 : decode cL_asked 2 = .ok (.aload_n 0, 1) := by decide +kernel
theorem dL_asked_3 : decode cL_asked 3 = .ok (.iload_n 1, 1) := by decide +kernel
theorem dL_asked_4 : decode cL_asked 4 = .ok (.invokevirtual 86, 3) := by decide +kernel
theorem dL_asked_7 : decode cL_asked 7 = .ok (.i2l, 1) := by decide +kernel
theorem dL_asked_8 : decode cL_asked 8 = .ok (.lastore, 1) := by decide +kernel
theorem dL_asked_9 : decode cL_asked 9 = .ok (.goto 6, 3) := by decide +kernel
theorem dL_asked_12 : decode cL_asked 12 = .ok (.astore_n 3, 1) := by decide +kernel
theorem dL_asked_13 : decode cL_asked 13 = .ok (.iconst 1, 1) := by decide +kernel
theorem dL_asked_14 : decode cL_asked 14 = .ok (.ireturn, 1) := by decide +kernel
theorem dL_asked_15 : decode cL_asked 15 = .ok (.iconst 0, 1) := by decide +kernel
theorem dL_asked_16 : decode cL_asked 16 = .ok (.ireturn, 1) := by decide +kernel
theorem dL_mend_0 : decode cL_mend 0 = .ok (.aload_n 2, 1) := by decide +kernel
theorem dL_mend_1 : decode cL_mend 1 = .ok (.iconst 0, 1) := by decide +kernel
theorem dL_mend_2 : decode cL_mend 2 = .ok (.aload_n 0, 1) := by decide +kernel
theorem dL_mend_3 : decode cL_mend 3 = .ok (.iload_n 1, 1) := by decide +kernel
theorem dL_mend_4 : decode cL_mend 4 = .ok (.invokevirtual 89, 3) := by decide +kernel
theorem dL_mend_7 : decode cL_mend 7 = .ok (.i2l, 1) := by decide +kernel
theorem dL_mend_8 : decode cL_mend 8 = .ok (.lastore, 1) := by decide +kernel
theorem dL_mend_9 : decode cL_mend 9 = .ok (.goto 9, 3) := by decide +kernel
theorem dL_mend_12 : decode cL_mend 12 = .ok (.astore_n 3, 1) := by decide +kernel
theorem dL_mend_13 : decode cL_mend 13 = .ok (.iconst 1, 1) := by decide +kernel
theorem dL_mend_14 : decode cL_mend 14 = .ok (.ireturn, 1) := by decide +kernel
theorem dL_mend_15 : decode cL_mend 15 = .ok (.astore_n 3, 1) := by decide +kernel
theorem dL_mend_16 : decode cL_mend 16 = .ok (.iconst 2, 1) := by decide +kernel
theorem dL_mend_17 : decode cL_mend 17 = .ok (.ireturn, 1) := by decide +kernel
theorem dL_mend_18 : decode cL_mend 18 = .ok (.iconst 0, 1) := by decide +kernel
theorem dL_mend_19 : decode cL_mend 19 = .ok (.ireturn, 1) := by decide +kernel
theorem dL_told_0 : decode cL_told 0 = .ok (.aload_n 2, 1) := by decide +kernel
theorem dL_told_1 : decode cL_told 1 = .ok (.iconst 0, 1) := by decide +kernel
theorem dL_told_2 : decode cL_told 2 = .ok (.aload_n 0, 1) := by decide +kernel
theorem dL_told_3 : decode cL_told 3 = .ok (.iload_n 1, 1) := by decide +kernel
theorem dL_told_4 : decode cL_told 4 = .ok (.invokevirtual 92, 3) := by decide +kernel
theorem dL_told_7 : decode cL_told 7 = .ok (.i2l, 1) := by decide +kernel
theorem dL_told_8 : decode cL_told 8 = .ok (.lastore, 1) := by decide +kernel
theorem dL_told_9 : decode cL_told 9 = .ok (.goto 6, 3) := by decide +kernel
theorem dL_told_12 : decode cL_told 12 = .ok (.astore_n 3, 1) := by decide +kernel
theorem dL_told_13 : decode cL_told 13 = .ok (.iconst 1, 1) := by decide +kernel
theorem dL_told_14 : decode cL_told 14 = .ok (.ireturn, 1) := by decide +kernel
theorem dL_told_15 : decode cL_told 15 = .ok (.iconst 0, 1) := by decide +kernel
theorem dL_told_16 : decode cL_told 16 = .ok (.ireturn, 1) := by decide +kernel

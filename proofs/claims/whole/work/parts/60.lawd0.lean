theorem dL_partition_0 : decode cL_partition 0 = .ok (.aload_n 0, 1) := by decide +kernel
theorem dL_partition_1 : decode cL_partition 1 = .ok (.iload_n 1, 1) := by decide +kernel
theorem dL_partition_2 : decode cL_partition 2 = .ok (.iload_n 2, 1) := by decide +kernel
theorem dL_partition_3 : decode cL_partition 3 = .ok (.iload_n 3, 1) := by decide +kernel
theorem dL_partition_4 : decode cL_partition 4 = .ok (.iload 4, 2) := by decide +kernel
theorem dL_partition_6 : decode cL_partition 6 = .ok (.iload 5, 2) := by decide +kernel
theorem dL_partition_8 : decode cL_partition 8 = .ok (.invokevirtual 7, 3) := by decide +kernel
theorem dL_partition_11 : decode cL_partition 11 = .ok (.goto 11, 3) := by decide +kernel
theorem dL_partition_14 : decode cL_partition 14 = .ok (.astore 6, 2) := by decide +kernel
theorem dL_partition_16 : decode cL_partition 16 = .ok (.iconst 1, 1) := by decide +kernel
theorem dL_partition_17 : decode cL_partition 17 = .ok (.ireturn, 1) := by decide +kernel
theorem dL_partition_18 : decode cL_partition 18 = .ok (.astore 6, 2) := by decide +kernel
theorem dL_partition_20 : decode cL_partition 20 = .ok (.iconst 2, 1) := by decide +kernel
theorem dL_partition_21 : decode cL_partition 21 = .ok (.ireturn, 1) := by decide +kernel
theorem dL_partition_22 : decode cL_partition 22 = .ok (.iconst 0, 1) := by decide +kernel
theorem dL_partition_23 : decode cL_partition 23 = .ok (.ireturn, 1) := by decide +kernel
theorem dL_window_0 : decode cL_window 0 = .ok (.aload_n 3, 1) := by decide +kernel
theorem dL_window_1 : decode cL_window 1 = .ok (.iconst 0, 1) := by decide +kernel
theorem dL_window_2 : decode cL_window 2 = .ok (.aload_n 0, 1) := by decide +kernel
theorem dL_window_3 : decode cL_window 3 = .ok (.iload_n 1, 1) := by decide +kernel
theorem dL_window_4 : decode cL_window 4 = .ok (.iload_n 2, 1) := by decide +kernel
theorem dL_window_5 : decode cL_window 5 = .ok (.invokevirtual 17, 3) := by decide +kernel
theorem dL_window_8 : decode cL_window 8 = .ok (.i2l, 1) := by decide +kernel
theorem dL_window_9 : decode cL_window 9 = .ok (.lastore, 1) := by decide +kernel
theorem dL_window_10 : decode cL_window 10 = .ok (.goto 11, 3) := by decide +kernel
theorem dL_window_13 : decode cL_window 13 = .ok (.astore 4, 2) := by decide +kernel
theorem dL_window_15 : decode cL_window 15 = .ok (.iconst 1, 1) := by decide +kernel
theorem dL_window_16 : decode cL_window 16 = .ok (.ireturn, 1) := by decide +kernel
theorem dL_window_17 : decode cL_window 17 = .ok (.astore 4, 2) := by decide +kernel
theorem dL_window_19 : decode cL_window 19 = .ok (.iconst 2, 1) := by decide +kernel
theorem dL_window_20 : decode cL_window 20 = .ok (.ireturn, 1) := by decide +kernel
theorem dL_window_21 : decode cL_window 21 = .ok (.iconst 0, 1) := by decide +kernel
theorem dL_window_22 : decode cL_window 22 = .ok (.ireturn, 1) := by decide +kernel
theorem dL_channel_0 : decode cL_channel 0 = .ok (.aload_n 0, 1) := by decide +kernel
theorem dL_channel_1 : decode cL_channel 1 = .ok (.iload_n 1, 1) := by decide +kernel
theorem dL_channel_2 : decode cL_channel 2 = .ok (.iload_n 2, 1) := by decide +kernel
theorem dL_channel_3 : decode cL_channel 3 = .ok (.iload_n 3, 1) := by decide +kernel
theorem dL_channel_4 : decode cL_channel 4 = .ok (.iload 4, 2) := by decide +kernel
theorem dL_channel_6 : decode cL_channel 6 = .ok (.invokevirtual 21, 3) := by decide +kernel
theorem dL_channel_9 : decode cL_channel 9 = .ok (.goto 11, 3) := by decide +kernel
theorem dL_channel_12 : decode cL_channel 12 = .ok (.astore 5, 2) := by decide +kernel
theorem dL_channel_14 : decode cL_channel 14 = .ok (.iconst 1, 1) := by decide +kernel
theorem dL_channel_15 : decode cL_channel 15 = .ok (.ireturn, 1) := by decide +kernel
theorem dL_channel_16 : decode cL_channel 16 = .ok (.astore 5, 2) := by decide +kernel
theorem dL_channel_18 : decode cL_channel 18 = .ok (.iconst 2, 1) := by decide +kernel
theorem dL_channel_19 : decode cL_channel 19 = .ok (.ireturn, 1) := by decide +kernel
theorem dL_channel_20 : decode cL_channel 20 = .ok (.iconst 0, 1) := by decide +kernel
theorem dL_channel_21 : decode cL_channel 21 = .ok (.ireturn, 1) := by decide +kernel
theorem dL_poke_0 : decode cL_poke 0 = .ok (.aload 4, 2) := by decide +kernel
theorem dL_poke_2 : decode cL_poke 2 = .ok (.iconst 0, 1) := by decide +kernel
theorem dL_poke_3 : decode cL_poke 3 = .ok (.aload_n 0, 1) := by decide +kernel
theorem dL_poke_4 : decode cL_poke 4 = .ok (.iload_n 1, 1) := by decide +kernel
theorem dL_poke_5 : decode cL_poke 5 = .ok (.iload_n 2, 1) := by decide +kernel
theorem dL_poke_6 : decode cL_poke 6 = .ok (.iload_n 3, 1) := by decide +kernel
theorem dL_poke_7 : decode cL_poke 7 = .ok (.invokevirtual 25, 3) := by decide +kernel
theorem dL_poke_10 : decode cL_poke 10 = .ok (.i2l, 1) := by decide +kernel
theorem dL_poke_11 : decode cL_poke 11 = .ok (.lastore, 1) := by decide +kernel
theorem dL_poke_12 : decode cL_poke 12 = .ok (.goto 15, 3) := by decide +kernel
theorem dL_poke_15 : decode cL_poke 15 = .ok (.astore 5, 2) := by decide +kernel
theorem dL_poke_17 : decode cL_poke 17 = .ok (.iconst 1, 1) := by decide +kernel
theorem dL_poke_18 : decode cL_poke 18 = .ok (.ireturn, 1) := by decide +kernel
theorem dL_poke_19 : decode cL_poke 19 = .ok (.astore 5, 2) := by decide +kernel
theorem dL_poke_21 : decode cL_poke 21 = .ok (.iconst 2, 1) := by decide +kernel
theorem dL_poke_22 : decode cL_poke 22 = .ok (.ireturn, 1) := by decide +kernel
theorem dL_poke_23 : decode cL_poke 23 = .ok (.astore 5, 2) := by decide +kernel
theorem dL_poke_25 : decode cL_poke 25 = .ok (.iconst 3, 1) := by decide +kernel
theorem dL_poke_26 : decode cL_poke 26 = .ok (.ireturn, 1) := by decide +kernel
theorem dL_poke_27 : decode cL_poke 27 = .ok (.iconst 0, 1) := by decide +kernel
theorem dL_poke_28 : decode cL_poke 28 = .ok (.ireturn, 1) := by decide +kernel
theorem dL_peek_0 : decode cL_peek 0 = .ok (.aload_n 3, 1) := by decide +kernel
theorem dL_peek_1 : decode cL_peek 1 = .ok (.iconst 0, 1) := by decide +kernel
theorem dL_peek_2 : decode cL_peek 2 = .ok (.aload_n 0, 1) := by decide +kernel
theorem dL_peek_3 : decode cL_peek 3 = .ok (.iload_n 1, 1) := by decide +kernel
theorem dL_peek_4 : decode cL_peek 4 = .ok (.iload_n 2, 1) := by decide +kernel
theorem dL_peek_5 : decode cL_peek 5 = .ok (.invokevirtual 31, 3) := by decide +kernel
theorem dL_peek_8 : decode cL_peek 8 = .ok (.i2l, 1) := by decide +kernel
theorem dL_peek_9 : decode cL_peek 9 = .ok (.lastore, 1) := by decide +kernel
theorem dL_peek_10 : decode cL_peek 10 = .ok (.goto 11, 3) := by decide +kernel
theorem dL_peek_13 : decode cL_peek 13 = .ok (.astore 4, 2) := by decide +kernel
theorem dL_peek_15 : decode cL_peek 15 = .ok (.iconst 1, 1) := by decide +kernel
theorem dL_peek_16 : decode cL_peek 16 = .ok (.ireturn, 1) := by decide +kernel
theorem dL_peek_17 : decode cL_peek 17 = .ok (.astore 4, 2) := by decide +kernel
theorem dL_peek_19 : decode cL_peek 19 = .ok (.iconst 2, 1) := by decide +kernel
theorem dL_peek_20 : decode cL_peek 20 = .ok (.ireturn, 1) := by decide +kernel
theorem dL_peek_21 : decode cL_peek 21 = .ok (.iconst 0, 1) := by decide +kernel
theorem dL_peek_22 : decode cL_peek 22 = .ok (.ireturn, 1) := by decide +kernel
theorem dL_seal_0 : decode cL_seal 0 = .ok (.aload_n 1, 1) := by decide +kernel
theorem dL_seal_1 : decode cL_seal 1 = .ok (.iconst 0, 1) := by decide +kernel
theorem dL_seal_2 : decode cL_seal 2 = .ok (.aload_n 0, 1) := by decide +kernel
theorem dL_seal_3 : decode cL_seal 3 = .ok (.invokevirtual 34, 3) := by decide +kernel
theorem dL_seal_6 : decode cL_seal 6 = .ok (.i2l, 1) := by decide +kernel
theorem dL_seal_7 : decode cL_seal 7 = .ok (.lastore, 1) := by decide +kernel
theorem dL_seal_8 : decode cL_seal 8 = .ok (.goto 6, 3) := by decide +kernel
theorem dL_seal_11 : decode cL_seal 11 = .ok (.astore_n 2, 1) := by decide +kernel
theorem dL_seal_12 : decode cL_seal 12 = .ok (.iconst 1, 1) := by decide +kernel
theorem dL_seal_13 : decode cL_seal 13 = .ok (.ireturn, 1) := by decide +kernel
theorem dL_seal_14 : decode cL_seal 14 = .ok (.iconst 0, 1) := by decide +kernel
theorem dL_seal_15 : decode cL_seal 15 = .ok (.ireturn, 1) := by decide +kernel
theorem dL_step_0 : decode cL_step 0 = .ok (.aload_n 2, 1) := by decide +kernel
theorem dL_step_1 : decode cL_step 1 = .ok (.iconst 0, 1) := by decide +kernel
theorem dL_step_2 : decode cL_step 2 = .ok (.aload_n 0, 1) := by decide +kernel
theorem dL_step_3 : decode cL_step 3 = .ok (.iload_n 1, 1) := by decide +kernel
theorem dL_step_4 : decode cL_step 4 = .ok (.invokevirtual 38, 3) := by decide +kernel
theorem dL_step_7 : decode cL_step 7 = .ok (.i2l, 1) := by decide +kernel
theorem dL_step_8 : decode cL_step 8 = .ok (.lastore, 1) := by decide +kernel
theorem dL_step_9 : decode cL_step 9 = .ok (.goto 9, 3) := by decide +kernel
theorem dL_step_12 : decode cL_step 12 = .ok (.astore_n 3, 1) := by decide +kernel
theorem dL_step_13 : decode cL_step 13 = .ok (.iconst 1, 1) := by decide +kernel
theorem dL_step_14 : decode cL_step 14 = .ok (.ireturn, 1) := by decide +kernel
theorem dL_step_15 : decode cL_step 15 = .ok (.astore_n 3, 1) := by decide +kernel
theorem dL_step_16 : decode cL_step 16 = .ok (.iconst 2, 1) := by decide +kernel
theorem dL_step_17 : decode cL_step 17 = .ok (.ireturn, 1) := by decide +kernel
theorem dL_step_18 : decode cL_step 18 = .ok (.iconst 0, 1) := by decide +kernel
theorem dL_step_19 : decode cL_step 19 = .ok (.ireturn, 1) := by decide +kernel
theorem dL_told_0 : decode cL_told 0 = .ok (.aload_n 3, 1) := by decide +kernel
theorem dL_told_1 : decode cL_told 1 = .ok (.iconst 0, 1) := by decide +kernel
theorem dL_told_2 : decode cL_told 2 = .ok (.aload_n 0, 1) := by decide +kernel
theorem dL_told_3 : decode cL_told 3 = .ok (.iload_n 1, 1) := by decide +kernel
theorem dL_told_4 : decode cL_told 4 = .ok (.iload_n 2, 1) := by decide +kernel
theorem dL_told_5 : decode cL_told 5 = .ok (.invokevirtual 42, 3) := by decide +kernel
theorem dL_told_8 : decode cL_told 8 = .ok (.i2l, 1) := by decide +kernel
theorem dL_told_9 : decode cL_told 9 = .ok (.lastore, 1) := by decide +kernel
theorem dL_told_10 : decode cL_told 10 = .ok (.goto 7, 3) := by decide +kernel
theorem dL_told_13 : decode cL_told 13 = .ok (.astore 4, 2) := by decide +kernel
theorem dL_told_15 : decode cL_told 15 = .ok (.iconst 1, 1) := by decide +kernel
theorem dL_told_16 : decode cL_told 16 = .ok (.ireturn, 1) := by decide +kernel
theorem dL_told_17 : decode cL_told 17 = .ok (.iconst 0, 1) := by decide +kernel
theorem dL_told_18 : decode cL_told 18 = .ok (.ireturn, 1) := by decide +kernel
theorem dL_has_0 : decode cL_has 0 = .ok (.aload_n 3, 1) := by decide +kernel
theorem dL_has_1 : decode cL_has 1 = .ok (.iconst 0, 1) := by decide +kernel
theorem dL_has_2 : decode cL_has 2 = .ok (.aload_n 0, 1) := by decide +kernel
theorem dL_has_3 : decode cL_has 3 = .ok (.iload_n 1, 1) := by decide +kernel
theorem dL_has_4 : decode cL_has 4 = .ok (.iload_n 2, 1) := by decide +kernel
theorem dL_has_5 : decode cL_has 5 = .ok (.invokevirtual 45, 3) := by decide +kernel
theorem dL_has_8 : decode cL_has 8 = .ok (.i2l, 1) := by decide +kernel
theorem dL_has_9 : decode cL_has 9 = .ok (.lastore, 1) := by decide +kernel
theorem dL_has_10 : decode cL_has 10 = .ok (.goto 7, 3) := by decide +kernel
theorem dL_has_13 : decode cL_has 13 = .ok (.astore 4, 2) := by decide +kernel
theorem dL_has_15 : decode cL_has 15 = .ok (.iconst 1, 1) := by decide +kernel
theorem dL_has_16 : decode cL_has 16 = .ok (.ireturn, 1) := by decide +kernel
theorem dL_has_17 : decode cL_has 17 = .ok (.iconst 0, 1) := by decide +kernel
theorem dL_has_18 : decode cL_has 18 = .ok (.ireturn, 1) := by decide +kernel
theorem dL_queued_0 : decode cL_queued 0 = .ok (.aload_n 3, 1) := by decide +kernel
theorem dL_queued_1 : decode cL_queued 1 = .ok (.iconst 0, 1) := by decide +kernel
theorem dL_queued_2 : decode cL_queued 2 = .ok (.aload_n 0, 1) := by decide +kernel
theorem dL_queued_3 : decode cL_queued 3 = .ok (.iload_n 1, 1) := by decide +kernel
theorem dL_queued_4 : decode cL_queued 4 = .ok (.iload_n 2, 1) := by decide +kernel
theorem dL_queued_5 : decode cL_queued 5 = .ok (.invokevirtual 48, 3) := by decide +kernel
theorem dL_queued_8 : decode cL_queued 8 = .ok (.i2l, 1) := by decide +kernel
theorem dL_queued_9 : decode cL_queued 9 = .ok (.lastore, 1) := by decide +kernel
theorem dL_queued_10 : decode cL_queued 10 = .ok (.goto 7, 3) := by decide +kernel
theorem dL_queued_13 : decode cL_queued 13 = .ok (.astore 4, 2) := by decide +kernel
theorem dL_queued_15 : decode cL_queued 15 = .ok (.iconst 1, 1) := by decide +kernel
theorem dL_queued_16 : decode cL_queued 16 = .ok (.ireturn, 1) := by decide +kernel
theorem dL_queued_17 : decode cL_queued 17 = .ok (.iconst 0, 1) := by decide +kernel
theorem dL_queued_18 : decode cL_queued 18 = .ok (.ireturn, 1) := by decide +kernel

theorem dX0_init_0 : decode cX0_init 0 = .ok (.aload_n 0, 1) := by decide +kernel
theorem dX0_init_1 : decode cX0_init 1 = .ok (.invokespecial 3, 3) := by decide +kernel
theorem dX0_init_4 : decode cX0_init 4 = .ok (.aload_n 0, 1) := by decide +kernel
theorem dX0_init_5 : decode cX0_init 5 = .ok (.bipush 49, 2) := by decide +kernel
theorem dX0_init_7 : decode cX0_init 7 = .ok (.newarray .int, 2) := by decide +kernel
theorem dX0_init_9 : decode cX0_init 9 = .ok (.putfield 9, 3) := by decide +kernel
theorem dX0_init_12 : decode cX0_init 12 = .ok (.aload_n 0, 1) := by decide +kernel
theorem dX0_init_13 : decode cX0_init 13 = .ok (.bipush 49, 2) := by decide +kernel
theorem dX0_init_15 : decode cX0_init 15 = .ok (.newarray .int, 2) := by decide +kernel
theorem dX0_init_17 : decode cX0_init 17 = .ok (.putfield 15, 3) := by decide +kernel
theorem dX0_init_20 : decode cX0_init 20 = .ok (.aload_n 0, 1) := by decide +kernel
theorem dX0_init_21 : decode cX0_init 21 = .ok (.bipush 49, 2) := by decide +kernel
theorem dX0_init_23 : decode cX0_init 23 = .ok (.newarray .int, 2) := by decide +kernel
theorem dX0_init_25 : decode cX0_init 25 = .ok (.putfield 18, 3) := by decide +kernel
theorem dX0_init_28 : decode cX0_init 28 = .ok (.aload_n 0, 1) := by decide +kernel
theorem dX0_init_29 : decode cX0_init 29 = .ok (.iconst 0, 1) := by decide +kernel
theorem dX0_init_30 : decode cX0_init 30 = .ok (.putfield 21, 3) := by decide +kernel
theorem dX0_init_33 : decode cX0_init 33 = .ok (.aload_n 0, 1) := by decide +kernel
theorem dX0_init_34 : decode cX0_init 34 = .ok (.aload_n 1, 1) := by decide +kernel
theorem dX0_init_35 : decode cX0_init 35 = .ok (.putfield 25, 3) := by decide +kernel
theorem dX0_init_38 : decode cX0_init 38 = .ok (.iconst 0, 1) := by decide +kernel
theorem dX0_init_39 : decode cX0_init 39 = .ok (.istore_n 2, 1) := by decide +kernel
theorem dX0_init_40 : decode cX0_init 40 = .ok (.iload_n 2, 1) := by decide +kernel
theorem dX0_init_41 : decode cX0_init 41 = .ok (.bipush 49, 2) := by decide +kernel
theorem dX0_init_43 : decode cX0_init 43 = .ok (.if_icmp .ge 27, 3) := by decide +kernel
theorem dX0_init_46 : decode cX0_init 46 = .ok (.aload_n 0, 1) := by decide +kernel
theorem dX0_init_47 : decode cX0_init 47 = .ok (.getfield 9, 3) := by decide +kernel
theorem dX0_init_50 : decode cX0_init 50 = .ok (.iload_n 2, 1) := by decide +kernel
theorem dX0_init_51 : decode cX0_init 51 = .ok (.iconst (-1), 1) := by decide +kernel
theorem dX0_init_52 : decode cX0_init 52 = .ok (.iastore, 1) := by decide +kernel
theorem dX0_init_53 : decode cX0_init 53 = .ok (.aload_n 0, 1) := by decide +kernel
theorem dX0_init_54 : decode cX0_init 54 = .ok (.getfield 18, 3) := by decide +kernel
theorem dX0_init_57 : decode cX0_init 57 = .ok (.iload_n 2, 1) := by decide +kernel
theorem dX0_init_58 : decode cX0_init 58 = .ok (.aload_n 1, 1) := by decide +kernel
theorem dX0_init_59 : decode cX0_init 59 = .ok (.iload_n 2, 1) := by decide +kernel
theorem dX0_init_60 : decode cX0_init 60 = .ok (.invokevirtual 29, 3) := by decide +kernel
theorem dX0_init_63 : decode cX0_init 63 = .ok (.iastore, 1) := by decide +kernel
theorem dX0_init_64 : decode cX0_init 64 = .ok (.iinc 2 1, 3) := by decide +kernel
theorem dX0_init_67 : decode cX0_init 67 = .ok (.goto (-27), 3) := by decide +kernel
theorem dX0_init_70 : decode cX0_init 70 = .ok (.return_, 1) := by decide +kernel
theorem dX0_become_0 : decode cX0_become 0 = .ok (.aload_n 1, 1) := by decide +kernel
theorem dX0_become_1 : decode cX0_become 1 = .ok (.getfield 9, 3) := by decide +kernel
theorem dX0_become_4 : decode cX0_become 4 = .ok (.iconst 0, 1) := by decide +kernel
theorem dX0_become_5 : decode cX0_become 5 = .ok (.aload_n 0, 1) := by decide +kernel
theorem dX0_become_6 : decode cX0_become 6 = .ok (.getfield 9, 3) := by decide +kernel
theorem dX0_become_9 : decode cX0_become 9 = .ok (.iconst 0, 1) := by decide +kernel
theorem dX0_become_10 : decode cX0_become 10 = .ok (.bipush 49, 2) := by decide +kernel
theorem dX0_become_12 : decode cX0_become 12 = .ok (.invokestatic 35, 3) := by decide +kernel
theorem dX0_become_15 : decode cX0_become 15 = .ok (.aload_n 1, 1) := by decide +kernel
theorem dX0_become_16 : decode cX0_become 16 = .ok (.getfield 15, 3) := by decide +kernel
theorem dX0_become_19 : decode cX0_become 19 = .ok (.iconst 0, 1) := by decide +kernel
theorem dX0_become_20 : decode cX0_become 20 = .ok (.aload_n 0, 1) := by decide +kernel
theorem dX0_become_21 : decode cX0_become 21 = .ok (.getfield 15, 3) := by decide +kernel
theorem dX0_become_24 : decode cX0_become 24 = .ok (.iconst 0, 1) := by decide +kernel
theorem dX0_become_25 : decode cX0_become 25 = .ok (.bipush 49, 2) := by decide +kernel
theorem dX0_become_27 : decode cX0_become 27 = .ok (.invokestatic 35, 3) := by decide +kernel
theorem dX0_become_30 : decode cX0_become 30 = .ok (.aload_n 1, 1) := by decide +kernel
theorem dX0_become_31 : decode cX0_become 31 = .ok (.getfield 18, 3) := by decide +kernel
theorem dX0_become_34 : decode cX0_become 34 = .ok (.iconst 0, 1) := by decide +kernel
theorem dX0_become_35 : decode cX0_become 35 = .ok (.aload_n 0, 1) := by decide +kernel
theorem dX0_become_36 : decode cX0_become 36 = .ok (.getfield 18, 3) := by decide +kernel
theorem dX0_become_39 : decode cX0_become 39 = .ok (.iconst 0, 1) := by decide +kernel
theorem dX0_become_40 : decode cX0_become 40 = .ok (.bipush 49, 2) := by decide +kernel
theorem dX0_become_42 : decode cX0_become 42 = .ok (.invokestatic 35, 3) := by decide +kernel
theorem dX0_become_45 : decode cX0_become 45 = .ok (.aload_n 0, 1) := by decide +kernel
theorem dX0_become_46 : decode cX0_become 46 = .ok (.aload_n 1, 1) := by decide +kernel
theorem dX0_become_47 : decode cX0_become 47 = .ok (.getfield 21, 3) := by decide +kernel
theorem dX0_become_50 : decode cX0_become 50 = .ok (.putfield 21, 3) := by decide +kernel
theorem dX0_become_53 : decode cX0_become 53 = .ok (.return_, 1) := by decide +kernel
theorem dX0_holds_0 : decode cX0_holds 0 = .ok (.iload_n 1, 1) := by decide +kernel
theorem dX0_holds_1 : decode cX0_holds 1 = .ok (.invokestatic 41, 3) := by decide +kernel
theorem dX0_holds_4 : decode cX0_holds 4 = .ok (.ifCond .eq 17, 3) := by decide +kernel
theorem dX0_holds_7 : decode cX0_holds 7 = .ok (.aload_n 0, 1) := by decide +kernel
theorem dX0_holds_8 : decode cX0_holds 8 = .ok (.getfield 9, 3) := by decide +kernel
theorem dX0_holds_11 : decode cX0_holds 11 = .ok (.iload_n 1, 1) := by decide +kernel
theorem dX0_holds_12 : decode cX0_holds 12 = .ok (.iaload, 1) := by decide +kernel
theorem dX0_holds_13 : decode cX0_holds 13 = .ok (.iconst (-1), 1) := by decide +kernel
theorem dX0_holds_14 : decode cX0_holds 14 = .ok (.if_icmp .eq 7, 3) := by decide +kernel
theorem dX0_holds_17 : decode cX0_holds 17 = .ok (.iconst 1, 1) := by decide +kernel
theorem dX0_holds_18 : decode cX0_holds 18 = .ok (.goto 4, 3) := by decide +kernel
theorem dX0_holds_21 : decode cX0_holds 21 = .ok (.iconst 0, 1) := by decide +kernel
theorem dX0_holds_22 : decode cX0_holds 22 = .ok (.ireturn, 1) := by decide +kernel
theorem dX0_ownerOf_0 : decode cX0_ownerOf 0 = .ok (.iload_n 1, 1) := by decide +kernel
theorem dX0_ownerOf_1 : decode cX0_ownerOf 1 = .ok (.invokestatic 41, 3) := by decide +kernel
theorem dX0_ownerOf_4 : decode cX0_ownerOf 4 = .ok (.ifCond .eq 12, 3) := by decide +kernel
theorem dX0_ownerOf_7 : decode cX0_ownerOf 7 = .ok (.aload_n 0, 1) := by decide +kernel
theorem dX0_ownerOf_8 : decode cX0_ownerOf 8 = .ok (.getfield 9, 3) := by decide +kernel
theorem dX0_ownerOf_11 : decode cX0_ownerOf 11 = .ok (.iload_n 1, 1) := by decide +kernel
theorem dX0_ownerOf_12 : decode cX0_ownerOf 12 = .ok (.iaload, 1) := by decide +kernel
theorem dX0_ownerOf_13 : decode cX0_ownerOf 13 = .ok (.goto 4, 3) := by decide +kernel
theorem dX0_ownerOf_16 : decode cX0_ownerOf 16 = .ok (.iconst (-1), 1) := by decide +kernel
theorem dX0_ownerOf_17 : decode cX0_ownerOf 17 = .ok (.ireturn, 1) := by decide +kernel
theorem dX0_sumOf_0 : decode cX0_sumOf 0 = .ok (.iload_n 1, 1) := by decide +kernel
theorem dX0_sumOf_1 : decode cX0_sumOf 1 = .ok (.invokestatic 41, 3) := by decide +kernel
theorem dX0_sumOf_4 : decode cX0_sumOf 4 = .ok (.ifCond .eq 12, 3) := by decide +kernel
theorem dX0_sumOf_7 : decode cX0_sumOf 7 = .ok (.aload_n 0, 1) := by decide +kernel
theorem dX0_sumOf_8 : decode cX0_sumOf 8 = .ok (.getfield 15, 3) := by decide +kernel
theorem dX0_sumOf_11 : decode cX0_sumOf 11 = .ok (.iload_n 1, 1) := by decide +kernel
theorem dX0_sumOf_12 : decode cX0_sumOf 12 = .ok (.iaload, 1) := by decide +kernel
theorem dX0_sumOf_13 : decode cX0_sumOf 13 = .ok (.goto 4, 3) := by decide +kernel
theorem dX0_sumOf_16 : decode cX0_sumOf 16 = .ok (.iconst 0, 1) := by decide +kernel
theorem dX0_sumOf_17 : decode cX0_sumOf 17 = .ok (.ireturn, 1) := by decide +kernel
theorem dX0_fullSidesOf_0 : decode cX0_fullSidesOf 0 = .ok (.iload_n 1, 1) := by decide +kernel
theorem dX0_fullSidesOf_1 : decode cX0_fullSidesOf 1 = .ok (.invokestatic 41, 3) := by decide +kernel
theorem dX0_fullSidesOf_4 : decode cX0_fullSidesOf 4 = .ok (.ifCond .eq 21, 3) := by decide +kernel
theorem dX0_fullSidesOf_7 : decode cX0_fullSidesOf 7 = .ok (.aload_n 0, 1) := by decide +kernel
theorem dX0_fullSidesOf_8 : decode cX0_fullSidesOf 8 = .ok (.getfield 25, 3) := by decide +kernel
theorem dX0_fullSidesOf_11 : decode cX0_fullSidesOf 11 = .ok (.iload_n 1, 1) := by decide +kernel
theorem dX0_fullSidesOf_12 : decode cX0_fullSidesOf 12 = .ok (.invokevirtual 29, 3) := by decide +kernel
theorem dX0_fullSidesOf_15 : decode cX0_fullSidesOf 15 = .ok (.aload_n 0, 1) := by decide +kernel
theorem dX0_fullSidesOf_16 : decode cX0_fullSidesOf 16 = .ok (.getfield 18, 3) := by decide +kernel
theorem dX0_fullSidesOf_19 : decode cX0_fullSidesOf 19 = .ok (.iload_n 1, 1) := by decide +kernel
theorem dX0_fullSidesOf_20 : decode cX0_fullSidesOf 20 = .ok (.iaload, 1) := by decide +kernel
theorem dX0_fullSidesOf_21 : decode cX0_fullSidesOf 21 = .ok (.isub, 1) := by decide +kernel
theorem dX0_fullSidesOf_22 : decode cX0_fullSidesOf 22 = .ok (.goto 4, 3) := by decide +kernel
theorem dX0_fullSidesOf_25 : decode cX0_fullSidesOf 25 = .ok (.iconst 0, 1) := by decide +kernel
theorem dX0_fullSidesOf_26 : decode cX0_fullSidesOf 26 = .ok (.ireturn, 1) := by decide +kernel
theorem dX0_isSealed_0 : decode cX0_isSealed 0 = .ok (.iload_n 1, 1) := by decide +kernel
theorem dX0_isSealed_1 : decode cX0_isSealed 1 = .ok (.invokestatic 41, 3) := by decide +kernel
theorem dX0_isSealed_4 : decode cX0_isSealed 4 = .ok (.ifCond .eq 26, 3) := by decide +kernel
theorem dX0_isSealed_7 : decode cX0_isSealed 7 = .ok (.aload_n 0, 1) := by decide +kernel
theorem dX0_isSealed_8 : decode cX0_isSealed 8 = .ok (.getfield 9, 3) := by decide +kernel
theorem dX0_isSealed_11 : decode cX0_isSealed 11 = .ok (.iload_n 1, 1) := by decide +kernel
theorem dX0_isSealed_12 : decode cX0_isSealed 12 = .ok (.iaload, 1) := by decide +kernel
theorem dX0_isSealed_13 : decode cX0_isSealed 13 = .ok (.iconst (-1), 1) := by decide +kernel
theorem dX0_isSealed_14 : decode cX0_isSealed 14 = .ok (.if_icmp .eq 16, 3) := by decide +kernel
theorem dX0_isSealed_17 : decode cX0_isSealed 17 = .ok (.aload_n 0, 1) := by decide +kernel
theorem dX0_isSealed_18 : decode cX0_isSealed 18 = .ok (.getfield 18, 3) := by decide +kernel
theorem dX0_isSealed_21 : decode cX0_isSealed 21 = .ok (.iload_n 1, 1) := by decide +kernel
theorem dX0_isSealed_22 : decode cX0_isSealed 22 = .ok (.iaload, 1) := by decide +kernel
theorem dX0_isSealed_23 : decode cX0_isSealed 23 = .ok (.ifCond .ne 7, 3) := by decide +kernel
theorem dX0_isSealed_26 : decode cX0_isSealed 26 = .ok (.iconst 1, 1) := by decide +kernel
theorem dX0_isSealed_27 : decode cX0_isSealed 27 = .ok (.goto 4, 3) := by decide +kernel
theorem dX0_isSealed_30 : decode cX0_isSealed 30 = .ok (.iconst 0, 1) := by decide +kernel
theorem dX0_isSealed_31 : decode cX0_isSealed 31 = .ok (.ireturn, 1) := by decide +kernel
theorem dX0_heldCount_0 : decode cX0_heldCount 0 = .ok (.aload_n 0, 1) := by decide +kernel
theorem dX0_heldCount_1 : decode cX0_heldCount 1 = .ok (.getfield 21, 3) := by decide +kernel
theorem dX0_heldCount_4 : decode cX0_heldCount 4 = .ok (.ireturn, 1) := by decide +kernel
theorem dX0_sealedCount_0 : decode cX0_sealedCount 0 = .ok (.iconst 0, 1) := by decide +kernel
theorem dX0_sealedCount_1 : decode cX0_sealedCount 1 = .ok (.istore_n 1, 1) := by decide +kernel
theorem dX0_sealedCount_2 : decode cX0_sealedCount 2 = .ok (.iconst 0, 1) := by decide +kernel
theorem dX0_sealedCount_3 : decode cX0_sealedCount 3 = .ok (.istore_n 2, 1) := by decide +kernel
theorem dX0_sealedCount_4 : decode cX0_sealedCount 4 = .ok (.iload_n 2, 1) := by decide +kernel
theorem dX0_sealedCount_5 : decode cX0_sealedCount 5 = .ok (.bipush 49, 2) := by decide +kernel
theorem dX0_sealedCount_7 : decode cX0_sealedCount 7 = .ok (.if_icmp .ge 20, 3) := by decide +kernel
theorem dX0_sealedCount_10 : decode cX0_sealedCount 10 = .ok (.aload_n 0, 1) := by decide +kernel
theorem dX0_sealedCount_11 : decode cX0_sealedCount 11 = .ok (.iload_n 2, 1) := by decide +kernel
theorem dX0_sealedCount_12 : decode cX0_sealedCount 12 = .ok (.invokevirtual 45, 3) := by decide +kernel
theorem dX0_sealedCount_15 : decode cX0_sealedCount 15 = .ok (.ifCond .eq 6, 3) := by decide +kernel
theorem dX0_sealedCount_18 : decode cX0_sealedCount 18 = .ok (.iinc 1 1, 3) := by decide +kernel
theorem dX0_sealedCount_21 : decode cX0_sealedCount 21 = .ok (.iinc 2 1, 3) := by decide +kernel
theorem dX0_sealedCount_24 : decode cX0_sealedCount 24 = .ok (.goto (-20), 3) := by decide +kernel
theorem dX0_sealedCount_27 : decode cX0_sealedCount 27 = .ok (.iload_n 1, 1) := by decide +kernel
theorem dX0_sealedCount_28 : decode cX0_sealedCount 28 = .ok (.ireturn, 1) := by decide +kernel
theorem dX0_balanceOf_0 : decode cX0_balanceOf 0 = .ok (.iconst 0, 1) := by decide +kernel
theorem dX0_balanceOf_1 : decode cX0_balanceOf 1 = .ok (.istore_n 2, 1) := by decide +kernel
theorem dX0_balanceOf_2 : decode cX0_balanceOf 2 = .ok (.iconst 0, 1) := by decide +kernel
theorem dX0_balanceOf_3 : decode cX0_balanceOf 3 = .ok (.istore_n 3, 1) := by decide +kernel
theorem dX0_balanceOf_4 : decode cX0_balanceOf 4 = .ok (.iload_n 3, 1) := by decide +kernel
theorem dX0_balanceOf_5 : decode cX0_balanceOf 5 = .ok (.bipush 49, 2) := by decide +kernel
theorem dX0_balanceOf_7 : decode cX0_balanceOf 7 = .ok (.if_icmp .ge 28, 3) := by decide +kernel
theorem dX0_balanceOf_10 : decode cX0_balanceOf 10 = .ok (.aload_n 0, 1) := by decide +kernel
theorem dX0_balanceOf_11 : decode cX0_balanceOf 11 = .ok (.getfield 9, 3) := by decide +kernel
theorem dX0_balanceOf_14 : decode cX0_balanceOf 14 = .ok (.iload_n 3, 1) := by decide +kernel
theorem dX0_balanceOf_15 : decode cX0_balanceOf 15 = .ok (.iaload, 1) := by decide +kernel
theorem dX0_balanceOf_16 : decode cX0_balanceOf 16 = .ok (.iload_n 1, 1) := by decide +kernel
theorem dX0_balanceOf_17 : decode cX0_balanceOf 17 = .ok (.if_icmp .ne 12, 3) := by decide +kernel
theorem dX0_balanceOf_20 : decode cX0_balanceOf 20 = .ok (.iload_n 2, 1) := by decide +kernel
theorem dX0_balanceOf_21 : decode cX0_balanceOf 21 = .ok (.aload_n 0, 1) := by decide +kernel
theorem dX0_balanceOf_22 : decode cX0_balanceOf 22 = .ok (.getfield 15, 3) := by decide +kernel
theorem dX0_balanceOf_25 : decode cX0_balanceOf 25 = .ok (.iload_n 3, 1) := by decide +kernel
theorem dX0_balanceOf_26 : decode cX0_balanceOf 26 = .ok (.iaload, 1) := by decide +kernel
theorem dX0_balanceOf_27 : decode cX0_balanceOf 27 = .ok (.iadd, 1) := by decide +kernel
theorem dX0_balanceOf_28 : decode cX0_balanceOf 28 = .ok (.istore_n 2, 1) := by decide +kernel
theorem dX0_balanceOf_29 : decode cX0_balanceOf 29 = .ok (.iinc 3 1, 3) := by decide +kernel
theorem dX0_balanceOf_32 : decode cX0_balanceOf 32 = .ok (.goto (-28), 3) := by decide +kernel
theorem dX0_balanceOf_35 : decode cX0_balanceOf 35 = .ok (.iload_n 2, 1) := by decide +kernel
theorem dX0_balanceOf_36 : decode cX0_balanceOf 36 = .ok (.ireturn, 1) := by decide +kernel
theorem dX0_allBalances_0 : decode cX0_allBalances 0 = .ok (.iconst 0, 1) := by decide +kernel
theorem dX0_allBalances_1 : decode cX0_allBalances 1 = .ok (.istore_n 1, 1) := by decide +kernel
theorem dX0_allBalances_2 : decode cX0_allBalances 2 = .ok (.iconst 0, 1) := by decide +kernel
theorem dX0_allBalances_3 : decode cX0_allBalances 3 = .ok (.istore_n 2, 1) := by decide +kernel
theorem dX0_allBalances_4 : decode cX0_allBalances 4 = .ok (.iload_n 2, 1) := by decide +kernel
theorem dX0_allBalances_5 : decode cX0_allBalances 5 = .ok (.bipush 49, 2) := by decide +kernel
theorem dX0_allBalances_7 : decode cX0_allBalances 7 = .ok (.if_icmp .ge 18, 3) := by decide +kernel
theorem dX0_allBalances_10 : decode cX0_allBalances 10 = .ok (.iload_n 1, 1) := by decide +kernel
theorem dX0_allBalances_11 : decode cX0_allBalances 11 = .ok (.aload_n 0, 1) := by decide +kernel
theorem dX0_allBalances_12 : decode cX0_allBalances 12 = .ok (.getfield 15, 3) := by decide +kernel
theorem dX0_allBalances_15 : decode cX0_allBalances 15 = .ok (.iload_n 2, 1) := by decide +kernel
theorem dX0_allBalances_16 : decode cX0_allBalances 16 = .ok (.iaload, 1) := by decide +kernel
theorem dX0_allBalances_17 : decode cX0_allBalances 17 = .ok (.iadd, 1) := by decide +kernel
theorem dX0_allBalances_18 : decode cX0_allBalances 18 = .ok (.istore_n 1, 1) := by decide +kernel
theorem dX0_allBalances_19 : decode cX0_allBalances 19 = .ok (.iinc 2 1, 3) := by decide +kernel
theorem dX0_allBalances_22 : decode cX0_allBalances 22 = .ok (.goto (-18), 3) := by decide +kernel
theorem dX0_allBalances_25 : decode cX0_allBalances 25 = .ok (.iload_n 1, 1) := by decide +kernel
theorem dX0_allBalances_26 : decode cX0_allBalances 26 = .ok (.ireturn, 1) := by decide +kernel
theorem dX0_sidesOwned_0 : decode cX0_sidesOwned 0 = .ok (.iconst 0, 1) := by decide +kernel
theorem dX0_sidesOwned_1 : decode cX0_sidesOwned 1 = .ok (.istore_n 3, 1) := by decide +kernel
theorem dX0_sidesOwned_2 : decode cX0_sidesOwned 2 = .ok (.iconst 0, 1) := by decide +kernel
theorem dX0_sidesOwned_3 : decode cX0_sidesOwned 3 = .ok (.istore 4, 2) := by decide +kernel
theorem dX0_sidesOwned_5 : decode cX0_sidesOwned 5 = .ok (.iload 4, 2) := by decide +kernel
theorem dX0_sidesOwned_7 : decode cX0_sidesOwned 7 = .ok (.aload_n 0, 1) := by decide +kernel
theorem dX0_sidesOwned_8 : decode cX0_sidesOwned 8 = .ok (.getfield 25, 3) := by decide +kernel
theorem dX0_sidesOwned_11 : decode cX0_sidesOwned 11 = .ok (.iload_n 1, 1) := by decide +kernel
theorem dX0_sidesOwned_12 : decode cX0_sidesOwned 12 = .ok (.invokevirtual 29, 3) := by decide +kernel
theorem dX0_sidesOwned_15 : decode cX0_sidesOwned 15 = .ok (.if_icmp .ge 30, 3) := by decide +kernel
theorem dX0_sidesOwned_18 : decode cX0_sidesOwned 18 = .ok (.aload_n 0, 1) := by decide +kernel
theorem dX0_sidesOwned_19 : decode cX0_sidesOwned 19 = .ok (.aload_n 0, 1) := by decide +kernel
theorem dX0_sidesOwned_20 : decode cX0_sidesOwned 20 = .ok (.getfield 25, 3) := by decide +kernel
theorem dX0_sidesOwned_23 : decode cX0_sidesOwned 23 = .ok (.iload_n 1, 1) := by decide +kernel
theorem dX0_sidesOwned_24 : decode cX0_sidesOwned 24 = .ok (.iload 4, 2) := by decide +kernel
theorem dX0_sidesOwned_26 : decode cX0_sidesOwned 26 = .ok (.invokevirtual 48, 3) := by decide +kernel
theorem dX0_sidesOwned_29 : decode cX0_sidesOwned 29 = .ok (.invokevirtual 52, 3) := by decide +kernel
theorem dX0_sidesOwned_32 : decode cX0_sidesOwned 32 = .ok (.iload_n 2, 1) := by decide +kernel
theorem dX0_sidesOwned_33 : decode cX0_sidesOwned 33 = .ok (.if_icmp .ne 6, 3) := by decide +kernel
theorem dX0_sidesOwned_36 : decode cX0_sidesOwned 36 = .ok (.iinc 3 1, 3) := by decide +kernel
theorem dX0_sidesOwned_39 : decode cX0_sidesOwned 39 = .ok (.iinc 4 1, 3) := by decide +kernel
theorem dX0_sidesOwned_42 : decode cX0_sidesOwned 42 = .ok (.goto (-37), 3) := by decide +kernel
theorem dX0_sidesOwned_45 : decode cX0_sidesOwned 45 = .ok (.iload_n 3, 1) := by decide +kernel
theorem dX0_sidesOwned_46 : decode cX0_sidesOwned 46 = .ok (.ireturn, 1) := by decide +kernel
theorem dX0_fill_0 : decode cX0_fill 0 = .ok (.iload_n 1, 1) := by decide +kernel
theorem dX0_fill_1 : decode cX0_fill 1 = .ok (.invokestatic 41, 3) := by decide +kernel
theorem dX0_fill_4 : decode cX0_fill 4 = .ok (.ifCond .eq 31, 3) := by decide +kernel
theorem dX0_fill_7 : decode cX0_fill 7 = .ok (.aload_n 0, 1) := by decide +kernel
theorem dX0_fill_8 : decode cX0_fill 8 = .ok (.iload_n 1, 1) := by decide +kernel
theorem dX0_fill_9 : decode cX0_fill 9 = .ok (.invokevirtual 55, 3) := by decide +kernel
theorem dX0_fill_12 : decode cX0_fill 12 = .ok (.ifCond .ne 23, 3) := by decide +kernel
theorem dX0_fill_15 : decode cX0_fill 15 = .ok (.aload_n 0, 1) := by decide +kernel
theorem dX0_fill_16 : decode cX0_fill 16 = .ok (.getfield 9, 3) := by decide +kernel
theorem dX0_fill_19 : decode cX0_fill 19 = .ok (.iload_n 1, 1) := by decide +kernel
theorem dX0_fill_20 : decode cX0_fill 20 = .ok (.iload_n 2, 1) := by decide +kernel
theorem dX0_fill_21 : decode cX0_fill 21 = .ok (.iastore, 1) := by decide +kernel
theorem dX0_fill_22 : decode cX0_fill 22 = .ok (.aload_n 0, 1) := by decide +kernel
theorem dX0_fill_23 : decode cX0_fill 23 = .ok (.getfield 15, 3) := by decide +kernel
theorem dX0_fill_26 : decode cX0_fill 26 = .ok (.iload_n 1, 1) := by decide +kernel
theorem dX0_fill_27 : decode cX0_fill 27 = .ok (.iload_n 3, 1) := by decide +kernel
theorem dX0_fill_28 : decode cX0_fill 28 = .ok (.iastore, 1) := by decide +kernel
theorem dX0_fill_29 : decode cX0_fill 29 = .ok (.aload_n 0, 1) := by decide +kernel
theorem dX0_fill_30 : decode cX0_fill 30 = .ok (.iload_n 1, 1) := by decide +kernel
theorem dX0_fill_31 : decode cX0_fill 31 = .ok (.iconst 1, 1) := by decide +kernel
theorem dX0_fill_32 : decode cX0_fill 32 = .ok (.invokevirtual 58, 3) := by decide +kernel
theorem dX0_fill_35 : decode cX0_fill 35 = .ok (.return_, 1) := by decide +kernel
theorem dX0_empty_0 : decode cX0_empty 0 = .ok (.aload_n 0, 1) := by decide +kernel
theorem dX0_empty_1 : decode cX0_empty 1 = .ok (.iload_n 1, 1) := by decide +kernel
theorem dX0_empty_2 : decode cX0_empty 2 = .ok (.invokevirtual 55, 3) := by decide +kernel
theorem dX0_empty_5 : decode cX0_empty 5 = .ok (.ifCond .eq 23, 3) := by decide +kernel
theorem dX0_empty_8 : decode cX0_empty 8 = .ok (.aload_n 0, 1) := by decide +kernel
theorem dX0_empty_9 : decode cX0_empty 9 = .ok (.getfield 9, 3) := by decide +kernel
theorem dX0_empty_12 : decode cX0_empty 12 = .ok (.iload_n 1, 1) := by decide +kernel
theorem dX0_empty_13 : decode cX0_empty 13 = .ok (.iconst (-1), 1) := by decide +kernel
theorem dX0_empty_14 : decode cX0_empty 14 = .ok (.iastore, 1) := by decide +kernel
theorem dX0_empty_15 : decode cX0_empty 15 = .ok (.aload_n 0, 1) := by decide +kernel
theorem dX0_empty_16 : decode cX0_empty 16 = .ok (.getfield 15, 3) := by decide +kernel
theorem dX0_empty_19 : decode cX0_empty 19 = .ok (.iload_n 1, 1) := by decide +kernel
theorem dX0_empty_20 : decode cX0_empty 20 = .ok (.iconst 0, 1) := by decide +kernel
theorem dX0_empty_21 : decode cX0_empty 21 = .ok (.iastore, 1) := by decide +kernel
theorem dX0_empty_22 : decode cX0_empty 22 = .ok (.aload_n 0, 1) := by decide +kernel
theorem dX0_empty_23 : decode cX0_empty 23 = .ok (.iload_n 1, 1) := by decide +kernel
theorem dX0_empty_24 : decode cX0_empty 24 = .ok (.iconst (-1), 1) := by decide +kernel
theorem dX0_empty_25 : decode cX0_empty 25 = .ok (.invokevirtual 58, 3) := by decide +kernel
theorem dX0_empty_28 : decode cX0_empty 28 = .ok (.return_, 1) := by decide +kernel
theorem dX0_countSides_0 : decode cX0_countSides 0 = .ok (.aload_n 0, 1) := by decide +kernel
theorem dX0_countSides_1 : decode cX0_countSides 1 = .ok (.dup, 1) := by decide +kernel
theorem dX0_countSides_2 : decode cX0_countSides 2 = .ok (.getfield 21, 3) := by decide +kernel
theorem dX0_countSides_5 : decode cX0_countSides 5 = .ok (.iload_n 2, 1) := by decide +kernel
theorem dX0_countSides_6 : decode cX0_countSides 6 = .ok (.iadd, 1) := by decide +kernel
theorem dX0_countSides_7 : decode cX0_countSides 7 = .ok (.putfield 21, 3) := by decide +kernel
theorem dX0_countSides_10 : decode cX0_countSides 10 = .ok (.iconst 0, 1) := by decide +kernel
theorem dX0_countSides_11 : decode cX0_countSides 11 = .ok (.istore_n 3, 1) := by decide +kernel
theorem dX0_countSides_12 : decode cX0_countSides 12 = .ok (.iload_n 3, 1) := by decide +kernel
theorem dX0_countSides_13 : decode cX0_countSides 13 = .ok (.aload_n 0, 1) := by decide +kernel
theorem dX0_countSides_14 : decode cX0_countSides 14 = .ok (.getfield 25, 3) := by decide +kernel
theorem dX0_countSides_17 : decode cX0_countSides 17 = .ok (.iload_n 1, 1) := by decide +kernel
theorem dX0_countSides_18 : decode cX0_countSides 18 = .ok (.invokevirtual 29, 3) := by decide +kernel
theorem dX0_countSides_21 : decode cX0_countSides 21 = .ok (.if_icmp .ge 39, 3) := by decide +kernel
theorem dX0_countSides_24 : decode cX0_countSides 24 = .ok (.aload_n 0, 1) := by decide +kernel
theorem dX0_countSides_25 : decode cX0_countSides 25 = .ok (.getfield 25, 3) := by decide +kernel
theorem dX0_countSides_28 : decode cX0_countSides 28 = .ok (.iload_n 1, 1) := by decide +kernel
theorem dX0_countSides_29 : decode cX0_countSides 29 = .ok (.iload_n 3, 1) := by decide +kernel
theorem dX0_countSides_30 : decode cX0_countSides 30 = .ok (.invokevirtual 48, 3) := by decide +kernel
theorem dX0_countSides_33 : decode cX0_countSides 33 = .ok (.istore 4, 2) := by decide +kernel
theorem dX0_countSides_35 : decode cX0_countSides 35 = .ok (.iload 4, 2) := by decide +kernel
theorem dX0_countSides_37 : decode cX0_countSides 37 = .ok (.invokestatic 41, 3) := by decide +kernel
theorem dX0_countSides_40 : decode cX0_countSides 40 = .ok (.ifCond .eq 14, 3) := by decide +kernel
theorem dX0_countSides_43 : decode cX0_countSides 43 = .ok (.aload_n 0, 1) := by decide +kernel
theorem dX0_countSides_44 : decode cX0_countSides 44 = .ok (.getfield 18, 3) := by decide +kernel
theorem dX0_countSides_47 : decode cX0_countSides 47 = .ok (.iload 4, 2) := by decide +kernel
theorem dX0_countSides_49 : decode cX0_countSides 49 = .ok (.dup2, 1) := by decide +kernel
theorem dX0_countSides_50 : decode cX0_countSides 50 = .ok (.iaload, 1) := by decide +kernel
theorem dX0_countSides_51 : decode cX0_countSides 51 = .ok (.iload_n 2, 1) := by decide +kernel
theorem dX0_countSides_52 : decode cX0_countSides 52 = .ok (.isub, 1) := by decide +kernel
theorem dX0_countSides_53 : decode cX0_countSides 53 = .ok (.iastore, 1) := by decide +kernel
theorem dX0_countSides_54 : decode cX0_countSides 54 = .ok (.iinc 3 1, 3) := by decide +kernel
theorem dX0_countSides_57 : decode cX0_countSides 57 = .ok (.goto (-45), 3) := by decide +kernel
theorem dX0_countSides_60 : decode cX0_countSides 60 = .ok (.return_, 1) := by decide +kernel
theorem dX0_eatCells_0 : decode cX0_eatCells 0 = .ok (.iconst 0, 1) := by decide +kernel
theorem dX0_eatCells_1 : decode cX0_eatCells 1 = .ok (.istore_n 2, 1) := by decide +kernel
theorem dX0_eatCells_2 : decode cX0_eatCells 2 = .ok (.iload_n 2, 1) := by decide +kernel
theorem dX0_eatCells_3 : decode cX0_eatCells 3 = .ok (.iload_n 1, 1) := by decide +kernel
theorem dX0_eatCells_4 : decode cX0_eatCells 4 = .ok (.if_icmp .ge 24, 3) := by decide +kernel
theorem dX0_eatCells_7 : decode cX0_eatCells 7 = .ok (.aload_n 0, 1) := by decide +kernel
theorem dX0_eatCells_8 : decode cX0_eatCells 8 = .ok (.getfield 21, 3) := by decide +kernel
theorem dX0_eatCells_11 : decode cX0_eatCells 11 = .ok (.ifCond .le 17, 3) := by decide +kernel
theorem dX0_eatCells_14 : decode cX0_eatCells 14 = .ok (.aload_n 0, 1) := by decide +kernel
theorem dX0_eatCells_15 : decode cX0_eatCells 15 = .ok (.aload_n 0, 1) := by decide +kernel
theorem dX0_eatCells_16 : decode cX0_eatCells 16 = .ok (.invokevirtual 62, 3) := by decide +kernel
theorem dX0_eatCells_19 : decode cX0_eatCells 19 = .ok (.invokevirtual 66, 3) := by decide +kernel
theorem dX0_eatCells_22 : decode cX0_eatCells 22 = .ok (.iinc 2 1, 3) := by decide +kernel
theorem dX0_eatCells_25 : decode cX0_eatCells 25 = .ok (.goto (-23), 3) := by decide +kernel
theorem dX0_eatCells_28 : decode cX0_eatCells 28 = .ok (.iload_n 2, 1) := by decide +kernel
theorem dX0_eatCells_29 : decode cX0_eatCells 29 = .ok (.ireturn, 1) := by decide +kernel
theorem dX0_nextEaten_0 : decode cX0_nextEaten 0 = .ok (.aload_n 0, 1) := by decide +kernel
theorem dX0_nextEaten_1 : decode cX0_nextEaten 1 = .ok (.invokevirtual 70, 3) := by decide +kernel
theorem dX0_nextEaten_4 : decode cX0_nextEaten 4 = .ok (.aload_n 0, 1) := by decide +kernel
theorem dX0_nextEaten_5 : decode cX0_nextEaten 5 = .ok (.getfield 21, 3) := by decide +kernel
theorem dX0_nextEaten_8 : decode cX0_nextEaten 8 = .ok (.if_icmp .ge 7, 3) := by decide +kernel
theorem dX0_nextEaten_11 : decode cX0_nextEaten 11 = .ok (.iconst 1, 1) := by decide +kernel
theorem dX0_nextEaten_12 : decode cX0_nextEaten 12 = .ok (.goto 4, 3) := by decide +kernel
theorem dX0_nextEaten_15 : decode cX0_nextEaten 15 = .ok (.iconst 0, 1) := by decide +kernel
theorem dX0_nextEaten_16 : decode cX0_nextEaten 16 = .ok (.istore_n 1, 1) := by decide +kernel
theorem dX0_nextEaten_17 : decode cX0_nextEaten 17 = .ok (.bipush (-2), 2) := by decide +kernel
theorem dX0_nextEaten_19 : decode cX0_nextEaten 19 = .ok (.istore_n 2, 1) := by decide +kernel
theorem dX0_nextEaten_20 : decode cX0_nextEaten 20 = .ok (.iconst 0, 1) := by decide +kernel
theorem dX0_nextEaten_21 : decode cX0_nextEaten 21 = .ok (.istore_n 3, 1) := by decide +kernel
theorem dX0_nextEaten_22 : decode cX0_nextEaten 22 = .ok (.iload_n 3, 1) := by decide +kernel
theorem dX0_nextEaten_23 : decode cX0_nextEaten 23 = .ok (.bipush 49, 2) := by decide +kernel
theorem dX0_nextEaten_25 : decode cX0_nextEaten 25 = .ok (.if_icmp .ge 62, 3) := by decide +kernel
theorem dX0_nextEaten_28 : decode cX0_nextEaten 28 = .ok (.aload_n 0, 1) := by decide +kernel
theorem dX0_nextEaten_29 : decode cX0_nextEaten 29 = .ok (.iload_n 3, 1) := by decide +kernel
theorem dX0_nextEaten_30 : decode cX0_nextEaten 30 = .ok (.invokevirtual 55, 3) := by decide +kernel
theorem dX0_nextEaten_33 : decode cX0_nextEaten 33 = .ok (.ifCond .eq 19, 3) := by decide +kernel
theorem dX0_nextEaten_36 : decode cX0_nextEaten 36 = .ok (.iload_n 1, 1) := by decide +kernel
theorem dX0_nextEaten_37 : decode cX0_nextEaten 37 = .ok (.ifCond .eq 11, 3) := by decide +kernel
theorem dX0_nextEaten_40 : decode cX0_nextEaten 40 = .ok (.aload_n 0, 1) := by decide +kernel
theorem dX0_nextEaten_41 : decode cX0_nextEaten 41 = .ok (.iload_n 3, 1) := by decide +kernel
theorem dX0_nextEaten_42 : decode cX0_nextEaten 42 = .ok (.invokevirtual 45, 3) := by decide +kernel
theorem dX0_nextEaten_45 : decode cX0_nextEaten 45 = .ok (.ifCond .ne 7, 3) := by decide +kernel
theorem dX0_nextEaten_48 : decode cX0_nextEaten 48 = .ok (.iconst 1, 1) := by decide +kernel
theorem dX0_nextEaten_49 : decode cX0_nextEaten 49 = .ok (.goto 4, 3) := by decide +kernel
theorem dX0_nextEaten_52 : decode cX0_nextEaten 52 = .ok (.iconst 0, 1) := by decide +kernel
theorem dX0_nextEaten_53 : decode cX0_nextEaten 53 = .ok (.istore 4, 2) := by decide +kernel
theorem dX0_nextEaten_55 : decode cX0_nextEaten 55 = .ok (.iload 4, 2) := by decide +kernel
theorem dX0_nextEaten_57 : decode cX0_nextEaten 57 = .ok (.ifCond .eq 24, 3) := by decide +kernel
theorem dX0_nextEaten_60 : decode cX0_nextEaten 60 = .ok (.iload_n 2, 1) := by decide +kernel
theorem dX0_nextEaten_61 : decode cX0_nextEaten 61 = .ok (.ifCond .lt 18, 3) := by decide +kernel
theorem dX0_nextEaten_64 : decode cX0_nextEaten 64 = .ok (.aload_n 0, 1) := by decide +kernel
theorem dX0_nextEaten_65 : decode cX0_nextEaten 65 = .ok (.getfield 15, 3) := by decide +kernel
theorem dX0_nextEaten_68 : decode cX0_nextEaten 68 = .ok (.iload_n 3, 1) := by decide +kernel
theorem dX0_nextEaten_69 : decode cX0_nextEaten 69 = .ok (.iaload, 1) := by decide +kernel
theorem dX0_nextEaten_70 : decode cX0_nextEaten 70 = .ok (.aload_n 0, 1) := by decide +kernel
theorem dX0_nextEaten_71 : decode cX0_nextEaten 71 = .ok (.getfield 15, 3) := by decide +kernel
theorem dX0_nextEaten_74 : decode cX0_nextEaten 74 = .ok (.iload_n 2, 1) := by decide +kernel
theorem dX0_nextEaten_75 : decode cX0_nextEaten 75 = .ok (.iaload, 1) := by decide +kernel
theorem dX0_nextEaten_76 : decode cX0_nextEaten 76 = .ok (.if_icmp .gt 5, 3) := by decide +kernel
theorem dX0_nextEaten_79 : decode cX0_nextEaten 79 = .ok (.iload_n 3, 1) := by decide +kernel
theorem dX0_nextEaten_80 : decode cX0_nextEaten 80 = .ok (.istore_n 2, 1) := by decide +kernel
theorem dX0_nextEaten_81 : decode cX0_nextEaten 81 = .ok (.iinc 3 1, 3) := by decide +kernel
theorem dX0_nextEaten_84 : decode cX0_nextEaten 84 = .ok (.goto (-62), 3) := by decide +kernel
theorem dX0_nextEaten_87 : decode cX0_nextEaten 87 = .ok (.iload_n 2, 1) := by decide +kernel
theorem dX0_nextEaten_88 : decode cX0_nextEaten 88 = .ok (.ireturn, 1) := by decide +kernel
theorem dX0_heatUp_0 : decode cX0_heatUp 0 = .ok (.iconst 0, 1) := by decide +kernel
theorem dX0_heatUp_1 : decode cX0_heatUp 1 = .ok (.istore_n 1, 1) := by decide +kernel
theorem dX0_heatUp_2 : decode cX0_heatUp 2 = .ok (.iconst 0, 1) := by decide +kernel
theorem dX0_heatUp_3 : decode cX0_heatUp 3 = .ok (.istore_n 2, 1) := by decide +kernel
theorem dX0_heatUp_4 : decode cX0_heatUp 4 = .ok (.iload_n 2, 1) := by decide +kernel
theorem dX0_heatUp_5 : decode cX0_heatUp 5 = .ok (.bipush 49, 2) := by decide +kernel
theorem dX0_heatUp_7 : decode cX0_heatUp 7 = .ok (.if_icmp .ge 59, 3) := by decide +kernel
theorem dX0_heatUp_10 : decode cX0_heatUp 10 = .ok (.iconst 0, 1) := by decide +kernel
theorem dX0_heatUp_11 : decode cX0_heatUp 11 = .ok (.istore_n 3, 1) := by decide +kernel
theorem dX0_heatUp_12 : decode cX0_heatUp 12 = .ok (.iload_n 3, 1) := by decide +kernel
theorem dX0_heatUp_13 : decode cX0_heatUp 13 = .ok (.aload_n 0, 1) := by decide +kernel
theorem dX0_heatUp_14 : decode cX0_heatUp 14 = .ok (.getfield 25, 3) := by decide +kernel
theorem dX0_heatUp_17 : decode cX0_heatUp 17 = .ok (.iload_n 2, 1) := by decide +kernel
theorem dX0_heatUp_18 : decode cX0_heatUp 18 = .ok (.invokevirtual 29, 3) := by decide +kernel
theorem dX0_heatUp_21 : decode cX0_heatUp 21 = .ok (.if_icmp .ge 39, 3) := by decide +kernel
theorem dX0_heatUp_24 : decode cX0_heatUp 24 = .ok (.aload_n 0, 1) := by decide +kernel
theorem dX0_heatUp_25 : decode cX0_heatUp 25 = .ok (.getfield 25, 3) := by decide +kernel
theorem dX0_heatUp_28 : decode cX0_heatUp 28 = .ok (.iload_n 2, 1) := by decide +kernel
theorem dX0_heatUp_29 : decode cX0_heatUp 29 = .ok (.iload_n 3, 1) := by decide +kernel
theorem dX0_heatUp_30 : decode cX0_heatUp 30 = .ok (.invokevirtual 48, 3) := by decide +kernel
theorem dX0_heatUp_33 : decode cX0_heatUp 33 = .ok (.istore 4, 2) := by decide +kernel
theorem dX0_heatUp_35 : decode cX0_heatUp 35 = .ok (.iload 4, 2) := by decide +kernel
theorem dX0_heatUp_37 : decode cX0_heatUp 37 = .ok (.iload_n 2, 1) := by decide +kernel
theorem dX0_heatUp_38 : decode cX0_heatUp 38 = .ok (.if_icmp .le 16, 3) := by decide +kernel
theorem dX0_heatUp_41 : decode cX0_heatUp 41 = .ok (.aload_n 0, 1) := by decide +kernel
theorem dX0_heatUp_42 : decode cX0_heatUp 42 = .ok (.iload_n 2, 1) := by decide +kernel
theorem dX0_heatUp_43 : decode cX0_heatUp 43 = .ok (.iload 4, 2) := by decide +kernel
theorem dX0_heatUp_45 : decode cX0_heatUp 45 = .ok (.invokevirtual 73, 3) := by decide +kernel
theorem dX0_heatUp_48 : decode cX0_heatUp 48 = .ok (.ifCond .eq 6, 3) := by decide +kernel
theorem dX0_heatUp_51 : decode cX0_heatUp 51 = .ok (.iinc 1 1, 3) := by decide +kernel
theorem dX0_heatUp_54 : decode cX0_heatUp 54 = .ok (.iinc 3 1, 3) := by decide +kernel
theorem dX0_heatUp_57 : decode cX0_heatUp 57 = .ok (.goto (-45), 3) := by decide +kernel
theorem dX0_heatUp_60 : decode cX0_heatUp 60 = .ok (.iinc 2 1, 3) := by decide +kernel
theorem dX0_heatUp_63 : decode cX0_heatUp 63 = .ok (.goto (-59), 3) := by decide +kernel
theorem dX0_heatUp_66 : decode cX0_heatUp 66 = .ok (.iload_n 1, 1) := by decide +kernel
theorem dX0_heatUp_67 : decode cX0_heatUp 67 = .ok (.ireturn, 1) := by decide +kernel
theorem dX0_runTogether_0 : decode cX0_runTogether 0 = .ok (.aload_n 0, 1) := by decide +kernel
theorem dX0_runTogether_1 : decode cX0_runTogether 1 = .ok (.iload_n 1, 1) := by decide +kernel
theorem dX0_runTogether_2 : decode cX0_runTogether 2 = .ok (.invokevirtual 55, 3) := by decide +kernel
theorem dX0_runTogether_5 : decode cX0_runTogether 5 = .ok (.ifCond .eq 27, 3) := by decide +kernel
theorem dX0_runTogether_8 : decode cX0_runTogether 8 = .ok (.aload_n 0, 1) := by decide +kernel
theorem dX0_runTogether_9 : decode cX0_runTogether 9 = .ok (.iload_n 2, 1) := by decide +kernel
theorem dX0_runTogether_10 : decode cX0_runTogether 10 = .ok (.invokevirtual 55, 3) := by decide +kernel
theorem dX0_runTogether_13 : decode cX0_runTogether 13 = .ok (.ifCond .eq 19, 3) := by decide +kernel
theorem dX0_runTogether_16 : decode cX0_runTogether 16 = .ok (.aload_n 0, 1) := by decide +kernel
theorem dX0_runTogether_17 : decode cX0_runTogether 17 = .ok (.iload_n 1, 1) := by decide +kernel
theorem dX0_runTogether_18 : decode cX0_runTogether 18 = .ok (.invokevirtual 45, 3) := by decide +kernel
theorem dX0_runTogether_21 : decode cX0_runTogether 21 = .ok (.ifCond .ne 11, 3) := by decide +kernel
theorem dX0_runTogether_24 : decode cX0_runTogether 24 = .ok (.aload_n 0, 1) := by decide +kernel
theorem dX0_runTogether_25 : decode cX0_runTogether 25 = .ok (.iload_n 2, 1) := by decide +kernel
theorem dX0_runTogether_26 : decode cX0_runTogether 26 = .ok (.invokevirtual 45, 3) := by decide +kernel
theorem dX0_runTogether_29 : decode cX0_runTogether 29 = .ok (.ifCond .eq 5, 3) := by decide +kernel
theorem dX0_runTogether_32 : decode cX0_runTogether 32 = .ok (.iconst 0, 1) := by decide +kernel
theorem dX0_runTogether_33 : decode cX0_runTogether 33 = .ok (.ireturn, 1) := by decide +kernel
theorem dX0_runTogether_34 : decode cX0_runTogether 34 = .ok (.aload_n 0, 1) := by decide +kernel
theorem dX0_runTogether_35 : decode cX0_runTogether 35 = .ok (.getfield 9, 3) := by decide +kernel
theorem dX0_runTogether_38 : decode cX0_runTogether 38 = .ok (.iload_n 1, 1) := by decide +kernel
theorem dX0_runTogether_39 : decode cX0_runTogether 39 = .ok (.iaload, 1) := by decide +kernel
theorem dX0_runTogether_40 : decode cX0_runTogether 40 = .ok (.aload_n 0, 1) := by decide +kernel
theorem dX0_runTogether_41 : decode cX0_runTogether 41 = .ok (.getfield 9, 3) := by decide +kernel
theorem dX0_runTogether_44 : decode cX0_runTogether 44 = .ok (.iload_n 2, 1) := by decide +kernel
theorem dX0_runTogether_45 : decode cX0_runTogether 45 = .ok (.iaload, 1) := by decide +kernel
theorem dX0_runTogether_46 : decode cX0_runTogether 46 = .ok (.if_icmp .ne 5, 3) := by decide +kernel
theorem dX0_runTogether_49 : decode cX0_runTogether 49 = .ok (.iconst 0, 1) := by decide +kernel
theorem dX0_runTogether_50 : decode cX0_runTogether 50 = .ok (.ireturn, 1) := by decide +kernel
theorem dX0_runTogether_51 : decode cX0_runTogether 51 = .ok (.aload_n 0, 1) := by decide +kernel
theorem dX0_runTogether_52 : decode cX0_runTogether 52 = .ok (.getfield 15, 3) := by decide +kernel
theorem dX0_runTogether_55 : decode cX0_runTogether 55 = .ok (.iload_n 1, 1) := by decide +kernel
theorem dX0_runTogether_56 : decode cX0_runTogether 56 = .ok (.iaload, 1) := by decide +kernel
theorem dX0_runTogether_57 : decode cX0_runTogether 57 = .ok (.aload_n 0, 1) := by decide +kernel
theorem dX0_runTogether_58 : decode cX0_runTogether 58 = .ok (.getfield 15, 3) := by decide +kernel
theorem dX0_runTogether_61 : decode cX0_runTogether 61 = .ok (.iload_n 2, 1) := by decide +kernel
theorem dX0_runTogether_62 : decode cX0_runTogether 62 = .ok (.iaload, 1) := by decide +kernel
theorem dX0_runTogether_63 : decode cX0_runTogether 63 = .ok (.if_icmp .ge 18, 3) := by decide +kernel
theorem dX0_runTogether_66 : decode cX0_runTogether 66 = .ok (.aload_n 0, 1) := by decide +kernel
theorem dX0_runTogether_67 : decode cX0_runTogether 67 = .ok (.getfield 9, 3) := by decide +kernel
theorem dX0_runTogether_70 : decode cX0_runTogether 70 = .ok (.iload_n 1, 1) := by decide +kernel
theorem dX0_runTogether_71 : decode cX0_runTogether 71 = .ok (.aload_n 0, 1) := by decide +kernel
theorem dX0_runTogether_72 : decode cX0_runTogether 72 = .ok (.getfield 9, 3) := by decide +kernel
theorem dX0_runTogether_75 : decode cX0_runTogether 75 = .ok (.iload_n 2, 1) := by decide +kernel
theorem dX0_runTogether_76 : decode cX0_runTogether 76 = .ok (.iaload, 1) := by decide +kernel
theorem dX0_runTogether_77 : decode cX0_runTogether 77 = .ok (.iastore, 1) := by decide +kernel
theorem dX0_runTogether_78 : decode cX0_runTogether 78 = .ok (.goto 15, 3) := by decide +kernel
theorem dX0_runTogether_81 : decode cX0_runTogether 81 = .ok (.aload_n 0, 1) := by decide +kernel
theorem dX0_runTogether_82 : decode cX0_runTogether 82 = .ok (.getfield 9, 3) := by decide +kernel
theorem dX0_runTogether_85 : decode cX0_runTogether 85 = .ok (.iload_n 2, 1) := by decide +kernel
theorem dX0_runTogether_86 : decode cX0_runTogether 86 = .ok (.aload_n 0, 1) := by decide +kernel
theorem dX0_runTogether_87 : decode cX0_runTogether 87 = .ok (.getfield 9, 3) := by decide +kernel
theorem dX0_runTogether_90 : decode cX0_runTogether 90 = .ok (.iload_n 1, 1) := by decide +kernel
theorem dX0_runTogether_91 : decode cX0_runTogether 91 = .ok (.iaload, 1) := by decide +kernel
theorem dX0_runTogether_92 : decode cX0_runTogether 92 = .ok (.iastore, 1) := by decide +kernel
theorem dX0_runTogether_93 : decode cX0_runTogether 93 = .ok (.iconst 1, 1) := by decide +kernel
theorem dX0_runTogether_94 : decode cX0_runTogether 94 = .ok (.ireturn, 1) := by decide +kernel
theorem dX0_emptyAbout_0 : decode cX0_emptyAbout 0 = .ok (.iconst 0, 1) := by decide +kernel
theorem dX0_emptyAbout_1 : decode cX0_emptyAbout 1 = .ok (.istore_n 3, 1) := by decide +kernel
theorem dX0_emptyAbout_2 : decode cX0_emptyAbout 2 = .ok (.iconst 0, 1) := by decide +kernel
theorem dX0_emptyAbout_3 : decode cX0_emptyAbout 3 = .ok (.istore 4, 2) := by decide +kernel
theorem dX0_emptyAbout_5 : decode cX0_emptyAbout 5 = .ok (.iload 4, 2) := by decide +kernel
theorem dX0_emptyAbout_7 : decode cX0_emptyAbout 7 = .ok (.bipush 49, 2) := by decide +kernel
theorem dX0_emptyAbout_9 : decode cX0_emptyAbout 9 = .ok (.if_icmp .ge 41, 3) := by decide +kernel
theorem dX0_emptyAbout_12 : decode cX0_emptyAbout 12 = .ok (.aload_n 0, 1) := by decide +kernel
theorem dX0_emptyAbout_13 : decode cX0_emptyAbout 13 = .ok (.iload 4, 2) := by decide +kernel
theorem dX0_emptyAbout_15 : decode cX0_emptyAbout 15 = .ok (.invokevirtual 55, 3) := by decide +kernel
theorem dX0_emptyAbout_18 : decode cX0_emptyAbout 18 = .ok (.ifCond .eq 26, 3) := by decide +kernel
theorem dX0_emptyAbout_21 : decode cX0_emptyAbout 21 = .ok (.aload_n 0, 1) := by decide +kernel
theorem dX0_emptyAbout_22 : decode cX0_emptyAbout 22 = .ok (.getfield 25, 3) := by decide +kernel
theorem dX0_emptyAbout_25 : decode cX0_emptyAbout 25 = .ok (.iload_n 1, 1) := by decide +kernel
theorem dX0_emptyAbout_26 : decode cX0_emptyAbout 26 = .ok (.iload 4, 2) := by decide +kernel
theorem dX0_emptyAbout_28 : decode cX0_emptyAbout 28 = .ok (.invokevirtual 77, 3) := by decide +kernel
theorem dX0_emptyAbout_31 : decode cX0_emptyAbout 31 = .ok (.iload_n 2, 1) := by decide +kernel
theorem dX0_emptyAbout_32 : decode cX0_emptyAbout 32 = .ok (.if_icmp .gt 12, 3) := by decide +kernel
theorem dX0_emptyAbout_35 : decode cX0_emptyAbout 35 = .ok (.aload_n 0, 1) := by decide +kernel
theorem dX0_emptyAbout_36 : decode cX0_emptyAbout 36 = .ok (.iload 4, 2) := by decide +kernel
theorem dX0_emptyAbout_38 : decode cX0_emptyAbout 38 = .ok (.invokevirtual 66, 3) := by decide +kernel
theorem dX0_emptyAbout_41 : decode cX0_emptyAbout 41 = .ok (.iinc 3 1, 3) := by decide +kernel
theorem dX0_emptyAbout_44 : decode cX0_emptyAbout 44 = .ok (.iinc 4 1, 3) := by decide +kernel
theorem dX0_emptyAbout_47 : decode cX0_emptyAbout 47 = .ok (.goto (-42), 3) := by decide +kernel
theorem dX0_emptyAbout_50 : decode cX0_emptyAbout 50 = .ok (.iload_n 3, 1) := by decide +kernel
theorem dX0_emptyAbout_51 : decode cX0_emptyAbout 51 = .ok (.ireturn, 1) := by decide +kernel
theorem dX0_heldAbout_0 : decode cX0_heldAbout 0 = .ok (.iconst 0, 1) := by decide +kernel
theorem dX0_heldAbout_1 : decode cX0_heldAbout 1 = .ok (.istore_n 3, 1) := by decide +kernel
theorem dX0_heldAbout_2 : decode cX0_heldAbout 2 = .ok (.iconst 0, 1) := by decide +kernel
theorem dX0_heldAbout_3 : decode cX0_heldAbout 3 = .ok (.istore 4, 2) := by decide +kernel
theorem dX0_heldAbout_5 : decode cX0_heldAbout 5 = .ok (.iload 4, 2) := by decide +kernel
theorem dX0_heldAbout_7 : decode cX0_heldAbout 7 = .ok (.bipush 49, 2) := by decide +kernel
theorem dX0_heldAbout_9 : decode cX0_heldAbout 9 = .ok (.if_icmp .ge 35, 3) := by decide +kernel
theorem dX0_heldAbout_12 : decode cX0_heldAbout 12 = .ok (.aload_n 0, 1) := by decide +kernel
theorem dX0_heldAbout_13 : decode cX0_heldAbout 13 = .ok (.iload 4, 2) := by decide +kernel
theorem dX0_heldAbout_15 : decode cX0_heldAbout 15 = .ok (.invokevirtual 55, 3) := by decide +kernel
theorem dX0_heldAbout_18 : decode cX0_heldAbout 18 = .ok (.ifCond .eq 20, 3) := by decide +kernel
theorem dX0_heldAbout_21 : decode cX0_heldAbout 21 = .ok (.aload_n 0, 1) := by decide +kernel
theorem dX0_heldAbout_22 : decode cX0_heldAbout 22 = .ok (.getfield 25, 3) := by decide +kernel
theorem dX0_heldAbout_25 : decode cX0_heldAbout 25 = .ok (.iload_n 1, 1) := by decide +kernel
theorem dX0_heldAbout_26 : decode cX0_heldAbout 26 = .ok (.iload 4, 2) := by decide +kernel
theorem dX0_heldAbout_28 : decode cX0_heldAbout 28 = .ok (.invokevirtual 77, 3) := by decide +kernel
theorem dX0_heldAbout_31 : decode cX0_heldAbout 31 = .ok (.iload_n 2, 1) := by decide +kernel
theorem dX0_heldAbout_32 : decode cX0_heldAbout 32 = .ok (.if_icmp .gt 6, 3) := by decide +kernel
theorem dX0_heldAbout_35 : decode cX0_heldAbout 35 = .ok (.iinc 3 1, 3) := by decide +kernel
theorem dX0_heldAbout_38 : decode cX0_heldAbout 38 = .ok (.iinc 4 1, 3) := by decide +kernel
theorem dX0_heldAbout_41 : decode cX0_heldAbout 41 = .ok (.goto (-36), 3) := by decide +kernel
theorem dX0_heldAbout_44 : decode cX0_heldAbout 44 = .ok (.iload_n 3, 1) := by decide +kernel
theorem dX0_heldAbout_45 : decode cX0_heldAbout 45 = .ok (.ireturn, 1) := by decide +kernel
theorem dX0_lossAbout_0 : decode cX0_lossAbout 0 = .ok (.iconst 0, 1) := by decide +kernel
theorem dX0_lossAbout_1 : decode cX0_lossAbout 1 = .ok (.istore 4, 2) := by decide +kernel
theorem dX0_lossAbout_3 : decode cX0_lossAbout 3 = .ok (.iconst 0, 1) := by decide +kernel
theorem dX0_lossAbout_4 : decode cX0_lossAbout 4 = .ok (.istore 5, 2) := by decide +kernel
theorem dX0_lossAbout_6 : decode cX0_lossAbout 6 = .ok (.iload 5, 2) := by decide +kernel
theorem dX0_lossAbout_8 : decode cX0_lossAbout 8 = .ok (.bipush 49, 2) := by decide +kernel
theorem dX0_lossAbout_10 : decode cX0_lossAbout 10 = .ok (.if_icmp .ge 46, 3) := by decide +kernel
theorem dX0_lossAbout_13 : decode cX0_lossAbout 13 = .ok (.aload_n 0, 1) := by decide +kernel
theorem dX0_lossAbout_14 : decode cX0_lossAbout 14 = .ok (.getfield 9, 3) := by decide +kernel
theorem dX0_lossAbout_17 : decode cX0_lossAbout 17 = .ok (.iload 5, 2) := by decide +kernel
theorem dX0_lossAbout_19 : decode cX0_lossAbout 19 = .ok (.iaload, 1) := by decide +kernel
theorem dX0_lossAbout_20 : decode cX0_lossAbout 20 = .ok (.iload_n 3, 1) := by decide +kernel
theorem dX0_lossAbout_21 : decode cX0_lossAbout 21 = .ok (.if_icmp .ne 29, 3) := by decide +kernel
theorem dX0_lossAbout_24 : decode cX0_lossAbout 24 = .ok (.aload_n 0, 1) := by decide +kernel
theorem dX0_lossAbout_25 : decode cX0_lossAbout 25 = .ok (.getfield 25, 3) := by decide +kernel
theorem dX0_lossAbout_28 : decode cX0_lossAbout 28 = .ok (.iload_n 1, 1) := by decide +kernel
theorem dX0_lossAbout_29 : decode cX0_lossAbout 29 = .ok (.iload 5, 2) := by decide +kernel
theorem dX0_lossAbout_31 : decode cX0_lossAbout 31 = .ok (.invokevirtual 77, 3) := by decide +kernel
theorem dX0_lossAbout_34 : decode cX0_lossAbout 34 = .ok (.iload_n 2, 1) := by decide +kernel
theorem dX0_lossAbout_35 : decode cX0_lossAbout 35 = .ok (.if_icmp .gt 15, 3) := by decide +kernel
theorem dX0_lossAbout_38 : decode cX0_lossAbout 38 = .ok (.iload 4, 2) := by decide +kernel
theorem dX0_lossAbout_40 : decode cX0_lossAbout 40 = .ok (.aload_n 0, 1) := by decide +kernel
theorem dX0_lossAbout_41 : decode cX0_lossAbout 41 = .ok (.getfield 15, 3) := by decide +kernel
theorem dX0_lossAbout_44 : decode cX0_lossAbout 44 = .ok (.iload 5, 2) := by decide +kernel
theorem dX0_lossAbout_46 : decode cX0_lossAbout 46 = .ok (.iaload, 1) := by decide +kernel
theorem dX0_lossAbout_47 : decode cX0_lossAbout 47 = .ok (.iadd, 1) := by decide +kernel
theorem dX0_lossAbout_48 : decode cX0_lossAbout 48 = .ok (.istore 4, 2) := by decide +kernel
theorem dX0_lossAbout_50 : decode cX0_lossAbout 50 = .ok (.iinc 5 1, 3) := by decide +kernel
theorem dX0_lossAbout_53 : decode cX0_lossAbout 53 = .ok (.goto (-47), 3) := by decide +kernel
theorem dX0_lossAbout_56 : decode cX0_lossAbout 56 = .ok (.iload 4, 2) := by decide +kernel
theorem dX0_lossAbout_58 : decode cX0_lossAbout 58 = .ok (.ireturn, 1) := by decide +kernel
theorem dX1_init_0 : decode cX1_init 0 = .ok (.aload_n 0, 1) := by decide +kernel
theorem dX1_init_1 : decode cX1_init 1 = .ok (.invokespecial 3, 3) := by decide +kernel
theorem dX1_init_4 : decode cX1_init 4 = .ok (.aload_n 0, 1) := by decide +kernel
theorem dX1_init_5 : decode cX1_init 5 = .ok (.sipush 294, 3) := by decide +kernel
theorem dX1_init_8 : decode cX1_init 8 = .ok (.newarray .int, 2) := by decide +kernel
theorem dX1_init_10 : decode cX1_init 10 = .ok (.putfield 11, 3) := by decide +kernel
theorem dX1_init_13 : decode cX1_init 13 = .ok (.aload_n 0, 1) := by decide +kernel
theorem dX1_init_14 : decode cX1_init 14 = .ok (.bipush 49, 2) := by decide +kernel
theorem dX1_init_16 : decode cX1_init 16 = .ok (.newarray .int, 2) := by decide +kernel
theorem dX1_init_18 : decode cX1_init 18 = .ok (.putfield 15, 3) := by decide +kernel
theorem dX1_init_21 : decode cX1_init 21 = .ok (.aload_n 0, 1) := by decide +kernel
theorem dX1_init_22 : decode cX1_init 22 = .ok (.sipush 2401, 3) := by decide +kernel
theorem dX1_init_25 : decode cX1_init 25 = .ok (.newarray .int, 2) := by decide +kernel
theorem dX1_init_27 : decode cX1_init 27 = .ok (.putfield 18, 3) := by decide +kernel
theorem dX1_init_30 : decode cX1_init 30 = .ok (.iconst 0, 1) := by decide +kernel
theorem dX1_init_31 : decode cX1_init 31 = .ok (.istore_n 1, 1) := by decide +kernel
theorem dX1_init_32 : decode cX1_init 32 = .ok (.iload_n 1, 1) := by decide +kernel
theorem dX1_init_33 : decode cX1_init 33 = .ok (.bipush 49, 2) := by decide +kernel
theorem dX1_init_35 : decode cX1_init 35 = .ok (.if_icmp .ge 14, 3) := by decide +kernel
theorem dX1_init_38 : decode cX1_init 38 = .ok (.aload_n 0, 1) := by decide +kernel
theorem dX1_init_39 : decode cX1_init 39 = .ok (.iload_n 1, 1) := by decide +kernel
theorem dX1_init_40 : decode cX1_init 40 = .ok (.invokevirtual 21, 3) := by decide +kernel
theorem dX1_init_43 : decode cX1_init 43 = .ok (.iinc 1 1, 3) := by decide +kernel
theorem dX1_init_46 : decode cX1_init 46 = .ok (.goto (-14), 3) := by decide +kernel
theorem dX1_init_49 : decode cX1_init 49 = .ok (.bipush 49, 2) := by decide +kernel
theorem dX1_init_51 : decode cX1_init 51 = .ok (.newarray .int, 2) := by decide +kernel
theorem dX1_init_53 : decode cX1_init 53 = .ok (.astore_n 1, 1) := by decide +kernel
theorem dX1_init_54 : decode cX1_init 54 = .ok (.iconst 0, 1) := by decide +kernel
theorem dX1_init_55 : decode cX1_init 55 = .ok (.istore_n 2, 1) := by decide +kernel
theorem dX1_init_56 : decode cX1_init 56 = .ok (.iload_n 2, 1) := by decide +kernel
theorem dX1_init_57 : decode cX1_init 57 = .ok (.bipush 49, 2) := by decide +kernel
theorem dX1_init_59 : decode cX1_init 59 = .ok (.if_icmp .ge 15, 3) := by decide +kernel
theorem dX1_init_62 : decode cX1_init 62 = .ok (.aload_n 0, 1) := by decide +kernel
theorem dX1_init_63 : decode cX1_init 63 = .ok (.iload_n 2, 1) := by decide +kernel
theorem dX1_init_64 : decode cX1_init 64 = .ok (.aload_n 1, 1) := by decide +kernel
theorem dX1_init_65 : decode cX1_init 65 = .ok (.invokevirtual 25, 3) := by decide +kernel
theorem dX1_init_68 : decode cX1_init 68 = .ok (.iinc 2 1, 3) := by decide +kernel
theorem dX1_init_71 : decode cX1_init 71 = .ok (.goto (-15), 3) := by decide +kernel
theorem dX1_init_74 : decode cX1_init 74 = .ok (.return_, 1) := by decide +kernel
theorem dX1_isCell_0 : decode cX1_isCell 0 = .ok (.iload_n 0, 1) := by decide +kernel
theorem dX1_isCell_1 : decode cX1_isCell 1 = .ok (.ifCond .lt 13, 3) := by decide +kernel
theorem dX1_isCell_4 : decode cX1_isCell 4 = .ok (.iload_n 0, 1) := by decide +kernel
theorem dX1_isCell_5 : decode cX1_isCell 5 = .ok (.bipush 49, 2) := by decide +kernel
theorem dX1_isCell_7 : decode cX1_isCell 7 = .ok (.if_icmp .ge 7, 3) := by decide +kernel
theorem dX1_isCell_10 : decode cX1_isCell 10 = .ok (.iconst 1, 1) := by decide +kernel
theorem dX1_isCell_11 : decode cX1_isCell 11 = .ok (.goto 4, 3) := by decide +kernel
theorem dX1_isCell_14 : decode cX1_isCell 14 = .ok (.iconst 0, 1) := by decide +kernel
theorem dX1_isCell_15 : decode cX1_isCell 15 = .ok (.ireturn, 1) := by decide +kernel
theorem dX1_lineOf_0 : decode cX1_lineOf 0 = .ok (.iload_n 0, 1) := by decide +kernel
theorem dX1_lineOf_1 : decode cX1_lineOf 1 = .ok (.bipush 7, 2) := by decide +kernel
theorem dX1_lineOf_3 : decode cX1_lineOf 3 = .ok (.idiv, 1) := by decide +kernel
theorem dX1_lineOf_4 : decode cX1_lineOf 4 = .ok (.ireturn, 1) := by decide +kernel
theorem dX1_findNeighbours_0 : decode cX1_findNeighbours 0 = .ok (.iload_n 1, 1) := by decide +kernel
theorem dX1_findNeighbours_1 : decode cX1_findNeighbours 1 = .ok (.bipush 7, 2) := by decide +kernel
theorem dX1_findNeighbours_3 : decode cX1_findNeighbours 3 = .ok (.idiv, 1) := by decide +kernel
theorem dX1_findNeighbours_4 : decode cX1_findNeighbours 4 = .ok (.istore_n 2, 1) := by decide +kernel
theorem dX1_findNeighbours_5 : decode cX1_findNeighbours 5 = .ok (.iload_n 1, 1) := by decide +kernel
theorem dX1_findNeighbours_6 : decode cX1_findNeighbours 6 = .ok (.bipush 7, 2) := by decide +kernel
theorem dX1_findNeighbours_8 : decode cX1_findNeighbours 8 = .ok (.irem, 1) := by decide +kernel
theorem dX1_findNeighbours_9 : decode cX1_findNeighbours 9 = .ok (.istore_n 3, 1) := by decide +kernel
theorem dX1_findNeighbours_10 : decode cX1_findNeighbours 10 = .ok (.iload_n 2, 1) := by decide +kernel
theorem dX1_findNeighbours_11 : decode cX1_findNeighbours 11 = .ok (.iconst 2, 1) := by decide +kernel
theorem dX1_findNeighbours_12 : decode cX1_findNeighbours 12 = .ok (.irem, 1) := by decide +kernel
theorem dX1_findNeighbours_13 : decode cX1_findNeighbours 13 = .ok (.ifCond .ne 9, 3) := by decide +kernel
theorem dX1_findNeighbours_16 : decode cX1_findNeighbours 16 = .ok (.iload_n 3, 1) := by decide +kernel
theorem dX1_findNeighbours_17 : decode cX1_findNeighbours 17 = .ok (.iconst 1, 1) := by decide +kernel
theorem dX1_findNeighbours_18 : decode cX1_findNeighbours 18 = .ok (.isub, 1) := by decide +kernel
theorem dX1_findNeighbours_19 : decode cX1_findNeighbours 19 = .ok (.goto 4, 3) := by decide +kernel
theorem dX1_findNeighbours_22 : decode cX1_findNeighbours 22 = .ok (.iload_n 3, 1) := by decide +kernel
theorem dX1_findNeighbours_23 : decode cX1_findNeighbours 23 = .ok (.istore 4, 2) := by decide +kernel
theorem dX1_findNeighbours_25 : decode cX1_findNeighbours 25 = .ok (.aload_n 0, 1) := by decide +kernel
theorem dX1_findNeighbours_26 : decode cX1_findNeighbours 26 = .ok (.iload_n 1, 1) := by decide +kernel
theorem dX1_findNeighbours_27 : decode cX1_findNeighbours 27 = .ok (.iload_n 2, 1) := by decide +kernel
theorem dX1_findNeighbours_28 : decode cX1_findNeighbours 28 = .ok (.iconst 1, 1) := by decide +kernel
theorem dX1_findNeighbours_29 : decode cX1_findNeighbours 29 = .ok (.isub, 1) := by decide +kernel
theorem dX1_findNeighbours_30 : decode cX1_findNeighbours 30 = .ok (.iload 4, 2) := by decide +kernel
theorem dX1_findNeighbours_32 : decode cX1_findNeighbours 32 = .ok (.invokevirtual 29, 3) := by decide +kernel
theorem dX1_findNeighbours_35 : decode cX1_findNeighbours 35 = .ok (.aload_n 0, 1) := by decide +kernel
theorem dX1_findNeighbours_36 : decode cX1_findNeighbours 36 = .ok (.iload_n 1, 1) := by decide +kernel
theorem dX1_findNeighbours_37 : decode cX1_findNeighbours 37 = .ok (.iload_n 2, 1) := by decide +kernel
theorem dX1_findNeighbours_38 : decode cX1_findNeighbours 38 = .ok (.iconst 1, 1) := by decide +kernel
theorem dX1_findNeighbours_39 : decode cX1_findNeighbours 39 = .ok (.isub, 1) := by decide +kernel
theorem dX1_findNeighbours_40 : decode cX1_findNeighbours 40 = .ok (.iload 4, 2) := by decide +kernel
theorem dX1_findNeighbours_42 : decode cX1_findNeighbours 42 = .ok (.iconst 1, 1) := by decide +kernel
theorem dX1_findNeighbours_43 : decode cX1_findNeighbours 43 = .ok (.iadd, 1) := by decide +kernel
theorem dX1_findNeighbours_44 : decode cX1_findNeighbours 44 = .ok (.invokevirtual 29, 3) := by decide +kernel
theorem dX1_findNeighbours_47 : decode cX1_findNeighbours 47 = .ok (.aload_n 0, 1) := by decide +kernel
theorem dX1_findNeighbours_48 : decode cX1_findNeighbours 48 = .ok (.iload_n 1, 1) := by decide +kernel
theorem dX1_findNeighbours_49 : decode cX1_findNeighbours 49 = .ok (.iload_n 2, 1) := by decide +kernel
theorem dX1_findNeighbours_50 : decode cX1_findNeighbours 50 = .ok (.iload_n 3, 1) := by decide +kernel
theorem dX1_findNeighbours_51 : decode cX1_findNeighbours 51 = .ok (.iconst 1, 1) := by decide +kernel
theorem dX1_findNeighbours_52 : decode cX1_findNeighbours 52 = .ok (.isub, 1) := by decide +kernel
theorem dX1_findNeighbours_53 : decode cX1_findNeighbours 53 = .ok (.invokevirtual 29, 3) := by decide +kernel
theorem dX1_findNeighbours_56 : decode cX1_findNeighbours 56 = .ok (.aload_n 0, 1) := by decide +kernel
theorem dX1_findNeighbours_57 : decode cX1_findNeighbours 57 = .ok (.iload_n 1, 1) := by decide +kernel
theorem dX1_findNeighbours_58 : decode cX1_findNeighbours 58 = .ok (.iload_n 2, 1) := by decide +kernel
theorem dX1_findNeighbours_59 : decode cX1_findNeighbours 59 = .ok (.iload_n 3, 1) := by decide +kernel
theorem dX1_findNeighbours_60 : decode cX1_findNeighbours 60 = .ok (.iconst 1, 1) := by decide +kernel
theorem dX1_findNeighbours_61 : decode cX1_findNeighbours 61 = .ok (.iadd, 1) := by decide +kernel
theorem dX1_findNeighbours_62 : decode cX1_findNeighbours 62 = .ok (.invokevirtual 29, 3) := by decide +kernel
theorem dX1_findNeighbours_65 : decode cX1_findNeighbours 65 = .ok (.aload_n 0, 1) := by decide +kernel
theorem dX1_findNeighbours_66 : decode cX1_findNeighbours 66 = .ok (.iload_n 1, 1) := by decide +kernel
theorem dX1_findNeighbours_67 : decode cX1_findNeighbours 67 = .ok (.iload_n 2, 1) := by decide +kernel
theorem dX1_findNeighbours_68 : decode cX1_findNeighbours 68 = .ok (.iconst 1, 1) := by decide +kernel
theorem dX1_findNeighbours_69 : decode cX1_findNeighbours 69 = .ok (.iadd, 1) := by decide +kernel
theorem dX1_findNeighbours_70 : decode cX1_findNeighbours 70 = .ok (.iload 4, 2) := by decide +kernel
theorem dX1_findNeighbours_72 : decode cX1_findNeighbours 72 = .ok (.invokevirtual 29, 3) := by decide +kernel
theorem dX1_findNeighbours_75 : decode cX1_findNeighbours 75 = .ok (.aload_n 0, 1) := by decide +kernel
theorem dX1_findNeighbours_76 : decode cX1_findNeighbours 76 = .ok (.iload_n 1, 1) := by decide +kernel
theorem dX1_findNeighbours_77 : decode cX1_findNeighbours 77 = .ok (.iload_n 2, 1) := by decide +kernel
theorem dX1_findNeighbours_78 : decode cX1_findNeighbours 78 = .ok (.iconst 1, 1) := by decide +kernel
theorem dX1_findNeighbours_79 : decode cX1_findNeighbours 79 = .ok (.iadd, 1) := by decide +kernel
theorem dX1_findNeighbours_80 : decode cX1_findNeighbours 80 = .ok (.iload 4, 2) := by decide +kernel
theorem dX1_findNeighbours_82 : decode cX1_findNeighbours 82 = .ok (.iconst 1, 1) := by decide +kernel
theorem dX1_findNeighbours_83 : decode cX1_findNeighbours 83 = .ok (.iadd, 1) := by decide +kernel
theorem dX1_findNeighbours_84 : decode cX1_findNeighbours 84 = .ok (.invokevirtual 29, 3) := by decide +kernel
theorem dX1_findNeighbours_87 : decode cX1_findNeighbours 87 = .ok (.return_, 1) := by decide +kernel
theorem dX1_addNeighbour_0 : decode cX1_addNeighbour 0 = .ok (.iload_n 2, 1) := by decide +kernel
theorem dX1_addNeighbour_1 : decode cX1_addNeighbour 1 = .ok (.ifCond .lt 62, 3) := by decide +kernel
theorem dX1_addNeighbour_4 : decode cX1_addNeighbour 4 = .ok (.iload_n 2, 1) := by decide +kernel
theorem dX1_addNeighbour_5 : decode cX1_addNeighbour 5 = .ok (.bipush 7, 2) := by decide +kernel
theorem dX1_addNeighbour_7 : decode cX1_addNeighbour 7 = .ok (.if_icmp .ge 56, 3) := by decide +kernel
theorem dX1_addNeighbour_10 : decode cX1_addNeighbour 10 = .ok (.iload_n 3, 1) := by decide +kernel
theorem dX1_addNeighbour_11 : decode cX1_addNeighbour 11 = .ok (.ifCond .lt 52, 3) := by decide +kernel
theorem dX1_addNeighbour_14 : decode cX1_addNeighbour 14 = .ok (.iload_n 3, 1) := by decide +kernel
theorem dX1_addNeighbour_15 : decode cX1_addNeighbour 15 = .ok (.bipush 7, 2) := by decide +kernel
theorem dX1_addNeighbour_17 : decode cX1_addNeighbour 17 = .ok (.if_icmp .ge 46, 3) := by decide +kernel
theorem dX1_addNeighbour_20 : decode cX1_addNeighbour 20 = .ok (.aload_n 0, 1) := by decide +kernel
theorem dX1_addNeighbour_21 : decode cX1_addNeighbour 21 = .ok (.getfield 15, 3) := by decide +kernel
theorem dX1_addNeighbour_24 : decode cX1_addNeighbour 24 = .ok (.iload_n 1, 1) := by decide +kernel
theorem dX1_addNeighbour_25 : decode cX1_addNeighbour 25 = .ok (.iaload, 1) := by decide +kernel
theorem dX1_addNeighbour_26 : decode cX1_addNeighbour 26 = .ok (.bipush 6, 2) := by decide +kernel
theorem dX1_addNeighbour_28 : decode cX1_addNeighbour 28 = .ok (.if_icmp .ge 35, 3) := by decide +kernel
theorem dX1_addNeighbour_31 : decode cX1_addNeighbour 31 = .ok (.aload_n 0, 1) := by decide +kernel
theorem dX1_addNeighbour_32 : decode cX1_addNeighbour 32 = .ok (.getfield 11, 3) := by decide +kernel
theorem dX1_addNeighbour_35 : decode cX1_addNeighbour 35 = .ok (.iload_n 1, 1) := by decide +kernel
theorem dX1_addNeighbour_36 : decode cX1_addNeighbour 36 = .ok (.bipush 6, 2) := by decide +kernel
theorem dX1_addNeighbour_38 : decode cX1_addNeighbour 38 = .ok (.imul, 1) := by decide +kernel
theorem dX1_addNeighbour_39 : decode cX1_addNeighbour 39 = .ok (.aload_n 0, 1) := by decide +kernel
theorem dX1_addNeighbour_40 : decode cX1_addNeighbour 40 = .ok (.getfield 15, 3) := by decide +kernel
theorem dX1_addNeighbour_43 : decode cX1_addNeighbour 43 = .ok (.iload_n 1, 1) := by decide +kernel
theorem dX1_addNeighbour_44 : decode cX1_addNeighbour 44 = .ok (.iaload, 1) := by decide +kernel
theorem dX1_addNeighbour_45 : decode cX1_addNeighbour 45 = .ok (.iadd, 1) := by decide +kernel
theorem dX1_addNeighbour_46 : decode cX1_addNeighbour 46 = .ok (.iload_n 2, 1) := by decide +kernel
theorem dX1_addNeighbour_47 : decode cX1_addNeighbour 47 = .ok (.bipush 7, 2) := by decide +kernel
theorem dX1_addNeighbour_49 : decode cX1_addNeighbour 49 = .ok (.imul, 1) := by decide +kernel
theorem dX1_addNeighbour_50 : decode cX1_addNeighbour 50 = .ok (.iload_n 3, 1) := by decide +kernel
theorem dX1_addNeighbour_51 : decode cX1_addNeighbour 51 = .ok (.iadd, 1) := by decide +kernel
theorem dX1_addNeighbour_52 : decode cX1_addNeighbour 52 = .ok (.iastore, 1) := by decide +kernel
theorem dX1_addNeighbour_53 : decode cX1_addNeighbour 53 = .ok (.aload_n 0, 1) := by decide +kernel
theorem dX1_addNeighbour_54 : decode cX1_addNeighbour 54 = .ok (.getfield 15, 3) := by decide +kernel
theorem dX1_addNeighbour_57 : decode cX1_addNeighbour 57 = .ok (.iload_n 1, 1) := by decide +kernel
theorem dX1_addNeighbour_58 : decode cX1_addNeighbour 58 = .ok (.dup2, 1) := by decide +kernel
theorem dX1_addNeighbour_59 : decode cX1_addNeighbour 59 = .ok (.iaload, 1) := by decide +kernel
theorem dX1_addNeighbour_60 : decode cX1_addNeighbour 60 = .ok (.iconst 1, 1) := by decide +kernel
theorem dX1_addNeighbour_61 : decode cX1_addNeighbour 61 = .ok (.iadd, 1) := by decide +kernel
theorem dX1_addNeighbour_62 : decode cX1_addNeighbour 62 = .ok (.iastore, 1) := by decide +kernel
theorem dX1_addNeighbour_63 : decode cX1_addNeighbour 63 = .ok (.return_, 1) := by decide +kernel
theorem dX1_measureFrom_0 : decode cX1_measureFrom 0 = .ok (.iconst 0, 1) := by decide +kernel
theorem dX1_measureFrom_1 : decode cX1_measureFrom 1 = .ok (.istore_n 3, 1) := by decide +kernel
theorem dX1_measureFrom_2 : decode cX1_measureFrom 2 = .ok (.iload_n 3, 1) := by decide +kernel
theorem dX1_measureFrom_3 : decode cX1_measureFrom 3 = .ok (.bipush 49, 2) := by decide +kernel
theorem dX1_measureFrom_5 : decode cX1_measureFrom 5 = .ok (.if_icmp .ge 30, 3) := by decide +kernel
theorem dX1_measureFrom_8 : decode cX1_measureFrom 8 = .ok (.aload_n 0, 1) := by decide +kernel
theorem dX1_measureFrom_9 : decode cX1_measureFrom 9 = .ok (.getfield 18, 3) := by decide +kernel
theorem dX1_measureFrom_12 : decode cX1_measureFrom 12 = .ok (.iload_n 1, 1) := by decide +kernel
theorem dX1_measureFrom_13 : decode cX1_measureFrom 13 = .ok (.bipush 49, 2) := by decide +kernel
theorem dX1_measureFrom_15 : decode cX1_measureFrom 15 = .ok (.imul, 1) := by decide +kernel
theorem dX1_measureFrom_16 : decode cX1_measureFrom 16 = .ok (.iload_n 3, 1) := by decide +kernel
theorem dX1_measureFrom_17 : decode cX1_measureFrom 17 = .ok (.iadd, 1) := by decide +kernel
theorem dX1_measureFrom_18 : decode cX1_measureFrom 18 = .ok (.iload_n 3, 1) := by decide +kernel
theorem dX1_measureFrom_19 : decode cX1_measureFrom 19 = .ok (.iload_n 1, 1) := by decide +kernel
theorem dX1_measureFrom_20 : decode cX1_measureFrom 20 = .ok (.if_icmp .ne 7, 3) := by decide +kernel
theorem dX1_measureFrom_23 : decode cX1_measureFrom 23 = .ok (.iconst 0, 1) := by decide +kernel
theorem dX1_measureFrom_24 : decode cX1_measureFrom 24 = .ok (.goto 4, 3) := by decide +kernel
theorem dX1_measureFrom_27 : decode cX1_measureFrom 27 = .ok (.iconst (-1), 1) := by decide +kernel
theorem dX1_measureFrom_28 : decode cX1_measureFrom 28 = .ok (.iastore, 1) := by decide +kernel
theorem dX1_measureFrom_29 : decode cX1_measureFrom 29 = .ok (.iinc 3 1, 3) := by decide +kernel
theorem dX1_measureFrom_32 : decode cX1_measureFrom 32 = .ok (.goto (-30), 3) := by decide +kernel
theorem dX1_measureFrom_35 : decode cX1_measureFrom 35 = .ok (.aload_n 2, 1) := by decide +kernel
theorem dX1_measureFrom_36 : decode cX1_measureFrom 36 = .ok (.iconst 0, 1) := by decide +kernel
theorem dX1_measureFrom_37 : decode cX1_measureFrom 37 = .ok (.iload_n 1, 1) := by decide +kernel
theorem dX1_measureFrom_38 : decode cX1_measureFrom 38 = .ok (.iastore, 1) := by decide +kernel
theorem dX1_measureFrom_39 : decode cX1_measureFrom 39 = .ok (.iconst 1, 1) := by decide +kernel
theorem dX1_measureFrom_40 : decode cX1_measureFrom 40 = .ok (.istore_n 3, 1) := by decide +kernel
theorem dX1_measureFrom_41 : decode cX1_measureFrom 41 = .ok (.iconst 0, 1) := by decide +kernel
theorem dX1_measureFrom_42 : decode cX1_measureFrom 42 = .ok (.istore 4, 2) := by decide +kernel
theorem dX1_measureFrom_44 : decode cX1_measureFrom 44 = .ok (.iload 4, 2) := by decide +kernel
theorem dX1_measureFrom_46 : decode cX1_measureFrom 46 = .ok (.iload_n 3, 1) := by decide +kernel
theorem dX1_measureFrom_47 : decode cX1_measureFrom 47 = .ok (.if_icmp .ge 113, 3) := by decide +kernel
theorem dX1_measureFrom_50 : decode cX1_measureFrom 50 = .ok (.iload 4, 2) := by decide +kernel
theorem dX1_measureFrom_52 : decode cX1_measureFrom 52 = .ok (.bipush 49, 2) := by decide +kernel
theorem dX1_measureFrom_54 : decode cX1_measureFrom 54 = .ok (.if_icmp .ge 106, 3) := by decide +kernel
theorem dX1_measureFrom_57 : decode cX1_measureFrom 57 = .ok (.aload_n 2, 1) := by decide +kernel
theorem dX1_measureFrom_58 : decode cX1_measureFrom 58 = .ok (.iload 4, 2) := by decide +kernel
theorem dX1_measureFrom_60 : decode cX1_measureFrom 60 = .ok (.iaload, 1) := by decide +kernel
theorem dX1_measureFrom_61 : decode cX1_measureFrom 61 = .ok (.istore 5, 2) := by decide +kernel
theorem dX1_measureFrom_63 : decode cX1_measureFrom 63 = .ok (.iconst 0, 1) := by decide +kernel
theorem dX1_measureFrom_64 : decode cX1_measureFrom 64 = .ok (.istore 6, 2) := by decide +kernel
theorem dX1_measureFrom_66 : decode cX1_measureFrom 66 = .ok (.iload 6, 2) := by decide +kernel
theorem dX1_measureFrom_68 : decode cX1_measureFrom 68 = .ok (.aload_n 0, 1) := by decide +kernel
theorem dX1_measureFrom_69 : decode cX1_measureFrom 69 = .ok (.getfield 15, 3) := by decide +kernel
theorem dX1_measureFrom_72 : decode cX1_measureFrom 72 = .ok (.iload 5, 2) := by decide +kernel
theorem dX1_measureFrom_74 : decode cX1_measureFrom 74 = .ok (.iaload, 1) := by decide +kernel
theorem dX1_measureFrom_75 : decode cX1_measureFrom 75 = .ok (.if_icmp .ge 79, 3) := by decide +kernel
theorem dX1_measureFrom_78 : decode cX1_measureFrom 78 = .ok (.aload_n 0, 1) := by decide +kernel
theorem dX1_measureFrom_79 : decode cX1_measureFrom 79 = .ok (.getfield 11, 3) := by decide +kernel
theorem dX1_measureFrom_82 : decode cX1_measureFrom 82 = .ok (.iload 5, 2) := by decide +kernel
theorem dX1_measureFrom_84 : decode cX1_measureFrom 84 = .ok (.bipush 6, 2) := by decide +kernel
theorem dX1_measureFrom_86 : decode cX1_measureFrom 86 = .ok (.imul, 1) := by decide +kernel
theorem dX1_measureFrom_87 : decode cX1_measureFrom 87 = .ok (.iload 6, 2) := by decide +kernel
theorem dX1_measureFrom_89 : decode cX1_measureFrom 89 = .ok (.iadd, 1) := by decide +kernel
theorem dX1_measureFrom_90 : decode cX1_measureFrom 90 = .ok (.iaload, 1) := by decide +kernel
theorem dX1_measureFrom_91 : decode cX1_measureFrom 91 = .ok (.istore 7, 2) := by decide +kernel
theorem dX1_measureFrom_93 : decode cX1_measureFrom 93 = .ok (.aload_n 0, 1) := by decide +kernel
theorem dX1_measureFrom_94 : decode cX1_measureFrom 94 = .ok (.getfield 18, 3) := by decide +kernel
theorem dX1_measureFrom_97 : decode cX1_measureFrom 97 = .ok (.iload_n 1, 1) := by decide +kernel
theorem dX1_measureFrom_98 : decode cX1_measureFrom 98 = .ok (.bipush 49, 2) := by decide +kernel
theorem dX1_measureFrom_100 : decode cX1_measureFrom 100 = .ok (.imul, 1) := by decide +kernel
theorem dX1_measureFrom_101 : decode cX1_measureFrom 101 = .ok (.iload 7, 2) := by decide +kernel
theorem dX1_measureFrom_103 : decode cX1_measureFrom 103 = .ok (.iadd, 1) := by decide +kernel
theorem dX1_measureFrom_104 : decode cX1_measureFrom 104 = .ok (.iaload, 1) := by decide +kernel
theorem dX1_measureFrom_105 : decode cX1_measureFrom 105 = .ok (.ifCond .ge 43, 3) := by decide +kernel
theorem dX1_measureFrom_108 : decode cX1_measureFrom 108 = .ok (.iload_n 3, 1) := by decide +kernel
theorem dX1_measureFrom_109 : decode cX1_measureFrom 109 = .ok (.bipush 49, 2) := by decide +kernel
theorem dX1_measureFrom_111 : decode cX1_measureFrom 111 = .ok (.if_icmp .ge 37, 3) := by decide +kernel
theorem dX1_measureFrom_114 : decode cX1_measureFrom 114 = .ok (.aload_n 0, 1) := by decide +kernel
theorem dX1_measureFrom_115 : decode cX1_measureFrom 115 = .ok (.getfield 18, 3) := by decide +kernel
theorem dX1_measureFrom_118 : decode cX1_measureFrom 118 = .ok (.iload_n 1, 1) := by decide +kernel
theorem dX1_measureFrom_119 : decode cX1_measureFrom 119 = .ok (.bipush 49, 2) := by decide +kernel
theorem dX1_measureFrom_121 : decode cX1_measureFrom 121 = .ok (.imul, 1) := by decide +kernel
theorem dX1_measureFrom_122 : decode cX1_measureFrom 122 = .ok (.iload 7, 2) := by decide +kernel
theorem dX1_measureFrom_124 : decode cX1_measureFrom 124 = .ok (.iadd, 1) := by decide +kernel
theorem dX1_measureFrom_125 : decode cX1_measureFrom 125 = .ok (.aload_n 0, 1) := by decide +kernel
theorem dX1_measureFrom_126 : decode cX1_measureFrom 126 = .ok (.getfield 18, 3) := by decide +kernel
theorem dX1_measureFrom_129 : decode cX1_measureFrom 129 = .ok (.iload_n 1, 1) := by decide +kernel
theorem dX1_measureFrom_130 : decode cX1_measureFrom 130 = .ok (.bipush 49, 2) := by decide +kernel
theorem dX1_measureFrom_132 : decode cX1_measureFrom 132 = .ok (.imul, 1) := by decide +kernel
theorem dX1_measureFrom_133 : decode cX1_measureFrom 133 = .ok (.iload 5, 2) := by decide +kernel
theorem dX1_measureFrom_135 : decode cX1_measureFrom 135 = .ok (.iadd, 1) := by decide +kernel
theorem dX1_measureFrom_136 : decode cX1_measureFrom 136 = .ok (.iaload, 1) := by decide +kernel
theorem dX1_measureFrom_137 : decode cX1_measureFrom 137 = .ok (.iconst 1, 1) := by decide +kernel
theorem dX1_measureFrom_138 : decode cX1_measureFrom 138 = .ok (.iadd, 1) := by decide +kernel
theorem dX1_measureFrom_139 : decode cX1_measureFrom 139 = .ok (.iastore, 1) := by decide +kernel
theorem dX1_measureFrom_140 : decode cX1_measureFrom 140 = .ok (.aload_n 2, 1) := by decide +kernel
theorem dX1_measureFrom_141 : decode cX1_measureFrom 141 = .ok (.iload_n 3, 1) := by decide +kernel
theorem dX1_measureFrom_142 : decode cX1_measureFrom 142 = .ok (.iload 7, 2) := by decide +kernel
theorem dX1_measureFrom_144 : decode cX1_measureFrom 144 = .ok (.iastore, 1) := by decide +kernel
theorem dX1_measureFrom_145 : decode cX1_measureFrom 145 = .ok (.iinc 3 1, 3) := by decide +kernel
theorem dX1_measureFrom_148 : decode cX1_measureFrom 148 = .ok (.iinc 6 1, 3) := by decide +kernel
theorem dX1_measureFrom_151 : decode cX1_measureFrom 151 = .ok (.goto (-85), 3) := by decide +kernel
theorem dX1_measureFrom_154 : decode cX1_measureFrom 154 = .ok (.iinc 4 1, 3) := by decide +kernel
theorem dX1_measureFrom_157 : decode cX1_measureFrom 157 = .ok (.goto (-113), 3) := by decide +kernel
theorem dX1_measureFrom_160 : decode cX1_measureFrom 160 = .ok (.return_, 1) := by decide +kernel
theorem dX1_degree_0 : decode cX1_degree 0 = .ok (.iload_n 1, 1) := by decide +kernel
theorem dX1_degree_1 : decode cX1_degree 1 = .ok (.invokestatic 33, 3) := by decide +kernel
theorem dX1_degree_4 : decode cX1_degree 4 = .ok (.ifCond .eq 12, 3) := by decide +kernel
theorem dX1_degree_7 : decode cX1_degree 7 = .ok (.aload_n 0, 1) := by decide +kernel
theorem dX1_degree_8 : decode cX1_degree 8 = .ok (.getfield 15, 3) := by decide +kernel
theorem dX1_degree_11 : decode cX1_degree 11 = .ok (.iload_n 1, 1) := by decide +kernel
theorem dX1_degree_12 : decode cX1_degree 12 = .ok (.iaload, 1) := by decide +kernel
theorem dX1_degree_13 : decode cX1_degree 13 = .ok (.goto 4, 3) := by decide +kernel
theorem dX1_degree_16 : decode cX1_degree 16 = .ok (.iconst 0, 1) := by decide +kernel
theorem dX1_degree_17 : decode cX1_degree 17 = .ok (.ireturn, 1) := by decide +kernel
theorem dX1_neighbour_0 : decode cX1_neighbour 0 = .ok (.iload_n 1, 1) := by decide +kernel
theorem dX1_neighbour_1 : decode cX1_neighbour 1 = .ok (.invokestatic 33, 3) := by decide +kernel
theorem dX1_neighbour_4 : decode cX1_neighbour 4 = .ok (.ifCond .eq 31, 3) := by decide +kernel
theorem dX1_neighbour_7 : decode cX1_neighbour 7 = .ok (.iload_n 2, 1) := by decide +kernel
theorem dX1_neighbour_8 : decode cX1_neighbour 8 = .ok (.ifCond .lt 27, 3) := by decide +kernel
theorem dX1_neighbour_11 : decode cX1_neighbour 11 = .ok (.iload_n 2, 1) := by decide +kernel
theorem dX1_neighbour_12 : decode cX1_neighbour 12 = .ok (.aload_n 0, 1) := by decide +kernel
theorem dX1_neighbour_13 : decode cX1_neighbour 13 = .ok (.getfield 15, 3) := by decide +kernel
theorem dX1_neighbour_16 : decode cX1_neighbour 16 = .ok (.iload_n 1, 1) := by decide +kernel
theorem dX1_neighbour_17 : decode cX1_neighbour 17 = .ok (.iaload, 1) := by decide +kernel
theorem dX1_neighbour_18 : decode cX1_neighbour 18 = .ok (.if_icmp .ge 17, 3) := by decide +kernel
theorem dX1_neighbour_21 : decode cX1_neighbour 21 = .ok (.aload_n 0, 1) := by decide +kernel
theorem dX1_neighbour_22 : decode cX1_neighbour 22 = .ok (.getfield 11, 3) := by decide +kernel
theorem dX1_neighbour_25 : decode cX1_neighbour 25 = .ok (.iload_n 1, 1) := by decide +kernel
theorem dX1_neighbour_26 : decode cX1_neighbour 26 = .ok (.bipush 6, 2) := by decide +kernel
theorem dX1_neighbour_28 : decode cX1_neighbour 28 = .ok (.imul, 1) := by decide +kernel
theorem dX1_neighbour_29 : decode cX1_neighbour 29 = .ok (.iload_n 2, 1) := by decide +kernel
theorem dX1_neighbour_30 : decode cX1_neighbour 30 = .ok (.iadd, 1) := by decide +kernel
theorem dX1_neighbour_31 : decode cX1_neighbour 31 = .ok (.iaload, 1) := by decide +kernel
theorem dX1_neighbour_32 : decode cX1_neighbour 32 = .ok (.goto 5, 3) := by decide +kernel
theorem dX1_neighbour_35 : decode cX1_neighbour 35 = .ok (.bipush (-2), 2) := by decide +kernel
theorem dX1_neighbour_37 : decode cX1_neighbour 37 = .ok (.ireturn, 1) := by decide +kernel
theorem dX1_distance_0 : decode cX1_distance 0 = .ok (.iload_n 1, 1) := by decide +kernel
theorem dX1_distance_1 : decode cX1_distance 1 = .ok (.invokestatic 33, 3) := by decide +kernel
theorem dX1_distance_4 : decode cX1_distance 4 = .ok (.ifCond .eq 24, 3) := by decide +kernel
theorem dX1_distance_7 : decode cX1_distance 7 = .ok (.iload_n 2, 1) := by decide +kernel
theorem dX1_distance_8 : decode cX1_distance 8 = .ok (.invokestatic 33, 3) := by decide +kernel
theorem dX1_distance_11 : decode cX1_distance 11 = .ok (.ifCond .eq 17, 3) := by decide +kernel
theorem dX1_distance_14 : decode cX1_distance 14 = .ok (.aload_n 0, 1) := by decide +kernel
theorem dX1_distance_15 : decode cX1_distance 15 = .ok (.getfield 18, 3) := by decide +kernel
theorem dX1_distance_18 : decode cX1_distance 18 = .ok (.iload_n 1, 1) := by decide +kernel
theorem dX1_distance_19 : decode cX1_distance 19 = .ok (.bipush 49, 2) := by decide +kernel
theorem dX1_distance_21 : decode cX1_distance 21 = .ok (.imul, 1) := by decide +kernel
theorem dX1_distance_22 : decode cX1_distance 22 = .ok (.iload_n 2, 1) := by decide +kernel
theorem dX1_distance_23 : decode cX1_distance 23 = .ok (.iadd, 1) := by decide +kernel
theorem dX1_distance_24 : decode cX1_distance 24 = .ok (.iaload, 1) := by decide +kernel
theorem dX1_distance_25 : decode cX1_distance 25 = .ok (.goto 4, 3) := by decide +kernel
theorem dX1_distance_28 : decode cX1_distance 28 = .ok (.iconst 0, 1) := by decide +kernel
theorem dX1_distance_29 : decode cX1_distance 29 = .ok (.ireturn, 1) := by decide +kernel
theorem dX2_init_0 : decode cX2_init 0 = .ok (.aload_n 0, 1) := by decide +kernel
theorem dX2_init_1 : decode cX2_init 1 = .ok (.invokespecial 3, 3) := by decide +kernel
theorem dX2_init_4 : decode cX2_init 4 = .ok (.aload_n 0, 1) := by decide +kernel
theorem dX2_init_5 : decode cX2_init 5 = .ok (.bipush 50, 2) := by decide +kernel
theorem dX2_init_7 : decode cX2_init 7 = .ok (.newarray .int, 2) := by decide +kernel
theorem dX2_init_9 : decode cX2_init 9 = .ok (.putfield 11, 3) := by decide +kernel
theorem dX2_init_12 : decode cX2_init 12 = .ok (.aload_n 0, 1) := by decide +kernel
theorem dX2_init_13 : decode cX2_init 13 = .ok (.iconst 0, 1) := by decide +kernel
theorem dX2_init_14 : decode cX2_init 14 = .ok (.putfield 15, 3) := by decide +kernel
theorem dX2_init_17 : decode cX2_init 17 = .ok (.aload_n 0, 1) := by decide +kernel
theorem dX2_init_18 : decode cX2_init 18 = .ok (.bipush 24, 2) := by decide +kernel
theorem dX2_init_20 : decode cX2_init 20 = .ok (.newarray .int, 2) := by decide +kernel
theorem dX2_init_22 : decode cX2_init 22 = .ok (.putfield 19, 3) := by decide +kernel
theorem dX2_init_25 : decode cX2_init 25 = .ok (.aload_n 0, 1) := by decide +kernel
theorem dX2_init_26 : decode cX2_init 26 = .ok (.iconst 0, 1) := by decide +kernel
theorem dX2_init_27 : decode cX2_init 27 = .ok (.putfield 22, 3) := by decide +kernel
theorem dX2_init_30 : decode cX2_init 30 = .ok (.aload_n 0, 1) := by decide +kernel
theorem dX2_init_31 : decode cX2_init 31 = .ok (.iconst 0, 1) := by decide +kernel
theorem dX2_init_32 : decode cX2_init 32 = .ok (.putfield 25, 3) := by decide +kernel
theorem dX2_init_35 : decode cX2_init 35 = .ok (.return_, 1) := by decide +kernel
theorem dX2_isKind_0 : decode cX2_isKind 0 = .ok (.iload_n 0, 1) := by decide +kernel
theorem dX2_isKind_1 : decode cX2_isKind 1 = .ok (.ifCond .lt 13, 3) := by decide +kernel
theorem dX2_isKind_4 : decode cX2_isKind 4 = .ok (.iload_n 0, 1) := by decide +kernel
theorem dX2_isKind_5 : decode cX2_isKind 5 = .ok (.bipush 8, 2) := by decide +kernel
theorem dX2_isKind_7 : decode cX2_isKind 7 = .ok (.if_icmp .ge 7, 3) := by decide +kernel
theorem dX2_isKind_10 : decode cX2_isKind 10 = .ok (.iconst 1, 1) := by decide +kernel
theorem dX2_isKind_11 : decode cX2_isKind 11 = .ok (.goto 4, 3) := by decide +kernel
theorem dX2_isKind_14 : decode cX2_isKind 14 = .ok (.iconst 0, 1) := by decide +kernel
theorem dX2_isKind_15 : decode cX2_isKind 15 = .ok (.ireturn, 1) := by decide +kernel
theorem dX2_isBody_0 : decode cX2_isBody 0 = .ok (.iload_n 1, 1) := by decide +kernel
theorem dX2_isBody_1 : decode cX2_isBody 1 = .ok (.ifCond .lt 15, 3) := by decide +kernel
theorem dX2_isBody_4 : decode cX2_isBody 4 = .ok (.iload_n 1, 1) := by decide +kernel
theorem dX2_isBody_5 : decode cX2_isBody 5 = .ok (.aload_n 0, 1) := by decide +kernel
theorem dX2_isBody_6 : decode cX2_isBody 6 = .ok (.getfield 15, 3) := by decide +kernel
theorem dX2_isBody_9 : decode cX2_isBody 9 = .ok (.if_icmp .ge 7, 3) := by decide +kernel
theorem dX2_isBody_12 : decode cX2_isBody 12 = .ok (.iconst 1, 1) := by decide +kernel
theorem dX2_isBody_13 : decode cX2_isBody 13 = .ok (.goto 4, 3) := by decide +kernel
theorem dX2_isBody_16 : decode cX2_isBody 16 = .ok (.iconst 0, 1) := by decide +kernel
theorem dX2_isBody_17 : decode cX2_isBody 17 = .ok (.ireturn, 1) := by decide +kernel
theorem dX2_bodyCount_0 : decode cX2_bodyCount 0 = .ok (.aload_n 0, 1) := by decide +kernel
theorem dX2_bodyCount_1 : decode cX2_bodyCount 1 = .ok (.getfield 15, 3) := by decide +kernel
theorem dX2_bodyCount_4 : decode cX2_bodyCount 4 = .ok (.ireturn, 1) := by decide +kernel
theorem dX2_ranCount_0 : decode cX2_ranCount 0 = .ok (.aload_n 0, 1) := by decide +kernel
theorem dX2_ranCount_1 : decode cX2_ranCount 1 = .ok (.getfield 22, 3) := by decide +kernel
theorem dX2_ranCount_4 : decode cX2_ranCount 4 = .ok (.ireturn, 1) := by decide +kernel
theorem dX2_kindOf_0 : decode cX2_kindOf 0 = .ok (.aload_n 0, 1) := by decide +kernel
theorem dX2_kindOf_1 : decode cX2_kindOf 1 = .ok (.iload_n 1, 1) := by decide +kernel
theorem dX2_kindOf_2 : decode cX2_kindOf 2 = .ok (.invokevirtual 28, 3) := by decide +kernel
theorem dX2_kindOf_5 : decode cX2_kindOf 5 = .ok (.ifCond .eq 12, 3) := by decide +kernel
theorem dX2_kindOf_8 : decode cX2_kindOf 8 = .ok (.aload_n 0, 1) := by decide +kernel
theorem dX2_kindOf_9 : decode cX2_kindOf 9 = .ok (.getfield 11, 3) := by decide +kernel
theorem dX2_kindOf_12 : decode cX2_kindOf 12 = .ok (.iload_n 1, 1) := by decide +kernel
theorem dX2_kindOf_13 : decode cX2_kindOf 13 = .ok (.iaload, 1) := by decide +kernel
theorem dX2_kindOf_14 : decode cX2_kindOf 14 = .ok (.goto 5, 3) := by decide +kernel
theorem dX2_kindOf_17 : decode cX2_kindOf 17 = .ok (.bipush (-2), 2) := by decide +kernel
theorem dX2_kindOf_19 : decode cX2_kindOf 19 = .ok (.ireturn, 1) := by decide +kernel
theorem dX2_isUnder_0 : decode cX2_isUnder 0 = .ok (.iload_n 0, 1) := by decide +kernel
theorem dX2_isUnder_1 : decode cX2_isUnder 1 = .ok (.istore_n 2, 1) := by decide +kernel
theorem dX2_isUnder_2 : decode cX2_isUnder 2 = .ok (.iconst 0, 1) := by decide +kernel
theorem dX2_isUnder_3 : decode cX2_isUnder 3 = .ok (.istore_n 3, 1) := by decide +kernel
theorem dX2_isUnder_4 : decode cX2_isUnder 4 = .ok (.iload_n 3, 1) := by decide +kernel
theorem dX2_isUnder_5 : decode cX2_isUnder 5 = .ok (.bipush 8, 2) := by decide +kernel
theorem dX2_isUnder_7 : decode cX2_isUnder 7 = .ok (.if_icmp .ge 29, 3) := by decide +kernel
theorem dX2_isUnder_10 : decode cX2_isUnder 10 = .ok (.iload_n 2, 1) := by decide +kernel
theorem dX2_isUnder_11 : decode cX2_isUnder 11 = .ok (.invokestatic 32, 3) := by decide +kernel
theorem dX2_isUnder_14 : decode cX2_isUnder 14 = .ok (.ifCond .eq 22, 3) := by decide +kernel
theorem dX2_isUnder_17 : decode cX2_isUnder 17 = .ok (.iload_n 2, 1) := by decide +kernel
theorem dX2_isUnder_18 : decode cX2_isUnder 18 = .ok (.iload_n 1, 1) := by decide +kernel
theorem dX2_isUnder_19 : decode cX2_isUnder 19 = .ok (.if_icmp .ne 5, 3) := by decide +kernel
theorem dX2_isUnder_22 : decode cX2_isUnder 22 = .ok (.iconst 1, 1) := by decide +kernel
theorem dX2_isUnder_23 : decode cX2_isUnder 23 = .ok (.ireturn, 1) := by decide +kernel
theorem dX2_isUnder_24 : decode cX2_isUnder 24 = .ok (.getstatic 35, 3) := by decide +kernel
theorem dX2_isUnder_27 : decode cX2_isUnder 27 = .ok (.iload_n 2, 1) := by decide +kernel
theorem dX2_isUnder_28 : decode cX2_isUnder 28 = .ok (.iaload, 1) := by decide +kernel
theorem dX2_isUnder_29 : decode cX2_isUnder 29 = .ok (.istore_n 2, 1) := by decide +kernel
theorem dX2_isUnder_30 : decode cX2_isUnder 30 = .ok (.iinc 3 1, 3) := by decide +kernel
theorem dX2_isUnder_33 : decode cX2_isUnder 33 = .ok (.goto (-29), 3) := by decide +kernel
theorem dX2_isUnder_36 : decode cX2_isUnder 36 = .ok (.iconst 0, 1) := by decide +kernel
theorem dX2_isUnder_37 : decode cX2_isUnder 37 = .ok (.ireturn, 1) := by decide +kernel
theorem dX2_add_0 : decode cX2_add 0 = .ok (.aload_n 0, 1) := by decide +kernel
theorem dX2_add_1 : decode cX2_add 1 = .ok (.getfield 15, 3) := by decide +kernel
theorem dX2_add_4 : decode cX2_add 4 = .ok (.bipush 50, 2) := by decide +kernel
theorem dX2_add_6 : decode cX2_add 6 = .ok (.if_icmp .lt 6, 3) := by decide +kernel
theorem dX2_add_9 : decode cX2_add 9 = .ok (.bipush (-3), 2) := by decide +kernel
theorem dX2_add_11 : decode cX2_add 11 = .ok (.ireturn, 1) := by decide +kernel
theorem dX2_add_12 : decode cX2_add 12 = .ok (.aload_n 0, 1) := by decide +kernel
theorem dX2_add_13 : decode cX2_add 13 = .ok (.getfield 11, 3) := by decide +kernel
theorem dX2_add_16 : decode cX2_add 16 = .ok (.aload_n 0, 1) := by decide +kernel
theorem dX2_add_17 : decode cX2_add 17 = .ok (.getfield 15, 3) := by decide +kernel
theorem dX2_add_20 : decode cX2_add 20 = .ok (.iload_n 1, 1) := by decide +kernel
theorem dX2_add_21 : decode cX2_add 21 = .ok (.iastore, 1) := by decide +kernel
theorem dX2_add_22 : decode cX2_add 22 = .ok (.aload_n 0, 1) := by decide +kernel
theorem dX2_add_23 : decode cX2_add 23 = .ok (.dup, 1) := by decide +kernel
theorem dX2_add_24 : decode cX2_add 24 = .ok (.getfield 15, 3) := by decide +kernel
theorem dX2_add_27 : decode cX2_add 27 = .ok (.iconst 1, 1) := by decide +kernel
theorem dX2_add_28 : decode cX2_add 28 = .ok (.iadd, 1) := by decide +kernel
theorem dX2_add_29 : decode cX2_add 29 = .ok (.putfield 15, 3) := by decide +kernel
theorem dX2_add_32 : decode cX2_add 32 = .ok (.aload_n 0, 1) := by decide +kernel
theorem dX2_add_33 : decode cX2_add 33 = .ok (.getfield 15, 3) := by decide +kernel
theorem dX2_add_36 : decode cX2_add 36 = .ok (.iconst 1, 1) := by decide +kernel
theorem dX2_add_37 : decode cX2_add 37 = .ok (.isub, 1) := by decide +kernel
theorem dX2_add_38 : decode cX2_add 38 = .ok (.ireturn, 1) := by decide +kernel
theorem dX2_traced_0 : decode cX2_traced 0 = .ok (.iload_n 1, 1) := by decide +kernel
theorem dX2_traced_1 : decode cX2_traced 1 = .ok (.ifCond .lt 26, 3) := by decide +kernel
theorem dX2_traced_4 : decode cX2_traced 4 = .ok (.iload_n 1, 1) := by decide +kernel
theorem dX2_traced_5 : decode cX2_traced 5 = .ok (.bipush 24, 2) := by decide +kernel
theorem dX2_traced_7 : decode cX2_traced 7 = .ok (.if_icmp .ge 20, 3) := by decide +kernel
theorem dX2_traced_10 : decode cX2_traced 10 = .ok (.iload_n 1, 1) := by decide +kernel
theorem dX2_traced_11 : decode cX2_traced 11 = .ok (.aload_n 0, 1) := by decide +kernel
theorem dX2_traced_12 : decode cX2_traced 12 = .ok (.getfield 22, 3) := by decide +kernel
theorem dX2_traced_15 : decode cX2_traced 15 = .ok (.if_icmp .ge 12, 3) := by decide +kernel
theorem dX2_traced_18 : decode cX2_traced 18 = .ok (.aload_n 0, 1) := by decide +kernel
theorem dX2_traced_19 : decode cX2_traced 19 = .ok (.getfield 19, 3) := by decide +kernel
theorem dX2_traced_22 : decode cX2_traced 22 = .ok (.iload_n 1, 1) := by decide +kernel
theorem dX2_traced_23 : decode cX2_traced 23 = .ok (.iaload, 1) := by decide +kernel
theorem dX2_traced_24 : decode cX2_traced 24 = .ok (.goto 4, 3) := by decide +kernel
theorem dX2_traced_27 : decode cX2_traced 27 = .ok (.iconst (-1), 1) := by decide +kernel
theorem dX2_traced_28 : decode cX2_traced 28 = .ok (.ireturn, 1) := by decide +kernel
theorem dX2_perform_0 : decode cX2_perform 0 = .ok (.aload_n 0, 1) := by decide +kernel
theorem dX2_perform_1 : decode cX2_perform 1 = .ok (.iconst 0, 1) := by decide +kernel
theorem dX2_perform_2 : decode cX2_perform 2 = .ok (.putfield 22, 3) := by decide +kernel
theorem dX2_perform_5 : decode cX2_perform 5 = .ok (.aload_n 0, 1) := by decide +kernel
theorem dX2_perform_6 : decode cX2_perform 6 = .ok (.iload_n 1, 1) := by decide +kernel
theorem dX2_perform_7 : decode cX2_perform 7 = .ok (.invokevirtual 28, 3) := by decide +kernel
theorem dX2_perform_10 : decode cX2_perform 10 = .ok (.ifCond .eq 12, 3) := by decide +kernel
theorem dX2_perform_13 : decode cX2_perform 13 = .ok (.iload_n 2, 1) := by decide +kernel
theorem dX2_perform_14 : decode cX2_perform 14 = .ok (.ifCond .lt 8, 3) := by decide +kernel
theorem dX2_perform_17 : decode cX2_perform 17 = .ok (.iload_n 2, 1) := by decide +kernel
theorem dX2_perform_18 : decode cX2_perform 18 = .ok (.iconst 4, 1) := by decide +kernel
theorem dX2_perform_19 : decode cX2_perform 19 = .ok (.if_icmp .lt 5, 3) := by decide +kernel
theorem dX2_perform_22 : decode cX2_perform 22 = .ok (.iconst 0, 1) := by decide +kernel
theorem dX2_perform_23 : decode cX2_perform 23 = .ok (.ireturn, 1) := by decide +kernel
theorem dX2_perform_24 : decode cX2_perform 24 = .ok (.aload_n 0, 1) := by decide +kernel
theorem dX2_perform_25 : decode cX2_perform 25 = .ok (.iload_n 1, 1) := by decide +kernel
theorem dX2_perform_26 : decode cX2_perform 26 = .ok (.putfield 25, 3) := by decide +kernel
theorem dX2_perform_29 : decode cX2_perform 29 = .ok (.aload_n 0, 1) := by decide +kernel
theorem dX2_perform_30 : decode cX2_perform 30 = .ok (.aload_n 0, 1) := by decide +kernel
theorem dX2_perform_31 : decode cX2_perform 31 = .ok (.getfield 11, 3) := by decide +kernel
theorem dX2_perform_34 : decode cX2_perform 34 = .ok (.iload_n 1, 1) := by decide +kernel
theorem dX2_perform_35 : decode cX2_perform 35 = .ok (.iaload, 1) := by decide +kernel
theorem dX2_perform_36 : decode cX2_perform 36 = .ok (.iload_n 2, 1) := by decide +kernel
theorem dX2_perform_37 : decode cX2_perform 37 = .ok (.iload_n 3, 1) := by decide +kernel
theorem dX2_perform_38 : decode cX2_perform 38 = .ok (.iconst 0, 1) := by decide +kernel
theorem dX2_perform_39 : decode cX2_perform 39 = .ok (.invokevirtual 38, 3) := by decide +kernel
theorem dX2_perform_42 : decode cX2_perform 42 = .ok (.ireturn, 1) := by decide +kernel
theorem dX2_kindActing_0 : decode cX2_kindActing 0 = .ok (.iload_n 0, 1) := by decide +kernel
theorem dX2_kindActing_1 : decode cX2_kindActing 1 = .ok (.istore_n 2, 1) := by decide +kernel
theorem dX2_kindActing_2 : decode cX2_kindActing 2 = .ok (.iconst 0, 1) := by decide +kernel
theorem dX2_kindActing_3 : decode cX2_kindActing 3 = .ok (.istore_n 3, 1) := by decide +kernel
theorem dX2_kindActing_4 : decode cX2_kindActing 4 = .ok (.iload_n 3, 1) := by decide +kernel
theorem dX2_kindActing_5 : decode cX2_kindActing 5 = .ok (.bipush 8, 2) := by decide +kernel
theorem dX2_kindActing_7 : decode cX2_kindActing 7 = .ok (.if_icmp .ge 36, 3) := by decide +kernel
theorem dX2_kindActing_10 : decode cX2_kindActing 10 = .ok (.iload_n 2, 1) := by decide +kernel
theorem dX2_kindActing_11 : decode cX2_kindActing 11 = .ok (.invokestatic 32, 3) := by decide +kernel
theorem dX2_kindActing_14 : decode cX2_kindActing 14 = .ok (.ifCond .eq 29, 3) := by decide +kernel
theorem dX2_kindActing_17 : decode cX2_kindActing 17 = .ok (.getstatic 42, 3) := by decide +kernel
theorem dX2_kindActing_20 : decode cX2_kindActing 20 = .ok (.iload_n 2, 1) := by decide +kernel
theorem dX2_kindActing_21 : decode cX2_kindActing 21 = .ok (.iconst 4, 1) := by decide +kernel
theorem dX2_kindActing_22 : decode cX2_kindActing 22 = .ok (.imul, 1) := by decide +kernel
theorem dX2_kindActing_23 : decode cX2_kindActing 23 = .ok (.iload_n 1, 1) := by decide +kernel
theorem dX2_kindActing_24 : decode cX2_kindActing 24 = .ok (.iadd, 1) := by decide +kernel
theorem dX2_kindActing_25 : decode cX2_kindActing 25 = .ok (.iaload, 1) := by decide +kernel
theorem dX2_kindActing_26 : decode cX2_kindActing 26 = .ok (.ifCond .eq 5, 3) := by decide +kernel
theorem dX2_kindActing_29 : decode cX2_kindActing 29 = .ok (.iload_n 2, 1) := by decide +kernel
theorem dX2_kindActing_30 : decode cX2_kindActing 30 = .ok (.ireturn, 1) := by decide +kernel
theorem dX2_kindActing_31 : decode cX2_kindActing 31 = .ok (.getstatic 35, 3) := by decide +kernel
theorem dX2_kindActing_34 : decode cX2_kindActing 34 = .ok (.iload_n 2, 1) := by decide +kernel
theorem dX2_kindActing_35 : decode cX2_kindActing 35 = .ok (.iaload, 1) := by decide +kernel
theorem dX2_kindActing_36 : decode cX2_kindActing 36 = .ok (.istore_n 2, 1) := by decide +kernel
theorem dX2_kindActing_37 : decode cX2_kindActing 37 = .ok (.iinc 3 1, 3) := by decide +kernel
theorem dX2_kindActing_40 : decode cX2_kindActing 40 = .ok (.goto (-36), 3) := by decide +kernel
theorem dX2_kindActing_43 : decode cX2_kindActing 43 = .ok (.bipush (-2), 2) := by decide +kernel
theorem dX2_kindActing_45 : decode cX2_kindActing 45 = .ok (.ireturn, 1) := by decide +kernel
theorem dX2_note_0 : decode cX2_note 0 = .ok (.aload_n 0, 1) := by decide +kernel
theorem dX2_note_1 : decode cX2_note 1 = .ok (.getfield 22, 3) := by decide +kernel
theorem dX2_note_4 : decode cX2_note 4 = .ok (.bipush 24, 2) := by decide +kernel
theorem dX2_note_6 : decode cX2_note 6 = .ok (.if_icmp .ge 13, 3) := by decide +kernel
theorem dX2_note_9 : decode cX2_note 9 = .ok (.aload_n 0, 1) := by decide +kernel
theorem dX2_note_10 : decode cX2_note 10 = .ok (.getfield 19, 3) := by decide +kernel
theorem dX2_note_13 : decode cX2_note 13 = .ok (.aload_n 0, 1) := by decide +kernel
theorem dX2_note_14 : decode cX2_note 14 = .ok (.getfield 22, 3) := by decide +kernel
theorem dX2_note_17 : decode cX2_note 17 = .ok (.iload_n 1, 1) := by decide +kernel
theorem dX2_note_18 : decode cX2_note 18 = .ok (.iastore, 1) := by decide +kernel
theorem dX2_note_19 : decode cX2_note 19 = .ok (.aload_n 0, 1) := by decide +kernel
theorem dX2_note_20 : decode cX2_note 20 = .ok (.dup, 1) := by decide +kernel
theorem dX2_note_21 : decode cX2_note 21 = .ok (.getfield 22, 3) := by decide +kernel
theorem dX2_note_24 : decode cX2_note 24 = .ok (.iconst 1, 1) := by decide +kernel
theorem dX2_note_25 : decode cX2_note 25 = .ok (.iadd, 1) := by decide +kernel
theorem dX2_note_26 : decode cX2_note 26 = .ok (.putfield 22, 3) := by decide +kernel
theorem dX2_note_29 : decode cX2_note 29 = .ok (.return_, 1) := by decide +kernel
theorem dX2_acted_0 : decode cX2_acted 0 = .ok (.iload_n 1, 1) := by decide +kernel
theorem dX2_acted_1 : decode cX2_acted 1 = .ok (.iload_n 2, 1) := by decide +kernel
theorem dX2_acted_2 : decode cX2_acted 2 = .ok (.invokestatic 45, 3) := by decide +kernel
theorem dX2_acted_5 : decode cX2_acted 5 = .ok (.istore 5, 2) := by decide +kernel
theorem dX2_acted_7 : decode cX2_acted 7 = .ok (.iload 5, 2) := by decide +kernel
theorem dX2_acted_9 : decode cX2_acted 9 = .ok (.ifCond .lt 10, 3) := by decide +kernel
theorem dX2_acted_12 : decode cX2_acted 12 = .ok (.iload 4, 2) := by decide +kernel
theorem dX2_acted_14 : decode cX2_acted 14 = .ok (.bipush 40, 2) := by decide +kernel
theorem dX2_acted_16 : decode cX2_acted 16 = .ok (.if_icmp .le 5, 3) := by decide +kernel
theorem dX2_acted_19 : decode cX2_acted 19 = .ok (.iconst 0, 1) := by decide +kernel
theorem dX2_acted_20 : decode cX2_acted 20 = .ok (.ireturn, 1) := by decide +kernel
theorem dX2_acted_21 : decode cX2_acted 21 = .ok (.getstatic 42, 3) := by decide +kernel
theorem dX2_acted_24 : decode cX2_acted 24 = .ok (.iload 5, 2) := by decide +kernel
theorem dX2_acted_26 : decode cX2_acted 26 = .ok (.iconst 4, 1) := by decide +kernel
theorem dX2_acted_27 : decode cX2_acted 27 = .ok (.imul, 1) := by decide +kernel
theorem dX2_acted_28 : decode cX2_acted 28 = .ok (.iload_n 2, 1) := by decide +kernel
theorem dX2_acted_29 : decode cX2_acted 29 = .ok (.iadd, 1) := by decide +kernel
theorem dX2_acted_30 : decode cX2_acted 30 = .ok (.iaload, 1) := by decide +kernel
theorem dX2_acted_31 : decode cX2_acted 31 = .ok (.istore 6, 2) := by decide +kernel
theorem dX2_acted_33 : decode cX2_acted 33 = .ok (.aload_n 0, 1) := by decide +kernel
theorem dX2_acted_34 : decode cX2_acted 34 = .ok (.aload_n 0, 1) := by decide +kernel
theorem dX2_acted_35 : decode cX2_acted 35 = .ok (.getfield 25, 3) := by decide +kernel
theorem dX2_acted_38 : decode cX2_acted 38 = .ok (.invokevirtual 49, 3) := by decide +kernel
theorem dX2_acted_41 : decode cX2_acted 41 = .ok (.istore 7, 2) := by decide +kernel
theorem dX2_acted_43 : decode cX2_acted 43 = .ok (.getstatic 35, 3) := by decide +kernel
theorem dX2_acted_46 : decode cX2_acted 46 = .ok (.iload 5, 2) := by decide +kernel
theorem dX2_acted_48 : decode cX2_acted 48 = .ok (.iaload, 1) := by decide +kernel
theorem dX2_acted_49 : decode cX2_acted 49 = .ok (.istore 8, 2) := by decide +kernel
theorem dX2_acted_51 : decode cX2_acted 51 = .ok (.iload 4, 2) := by decide +kernel
theorem dX2_acted_53 : decode cX2_acted 53 = .ok (.iconst 1, 1) := by decide +kernel
theorem dX2_acted_54 : decode cX2_acted 54 = .ok (.iadd, 1) := by decide +kernel
theorem dX2_acted_55 : decode cX2_acted 55 = .ok (.istore 9, 2) := by decide +kernel
theorem dX2_acted_57 : decode cX2_acted 57 = .ok (.aload_n 0, 1) := by decide +kernel
theorem dX2_acted_58 : decode cX2_acted 58 = .ok (.iload 6, 2) := by decide +kernel
theorem dX2_acted_60 : decode cX2_acted 60 = .ok (.invokevirtual 53, 3) := by decide +kernel
theorem dX2_acted_63 : decode cX2_acted 63 = .ok (.iload 6, 2) := by decide +kernel
theorem dX2_acted_65 : decode cX2_acted 65 = .ok (.lookupswitch 277 #[(1, 107), (2, 114), (10, 136), (11, 149), (20, 156), (30, 169), (40, 181), (41, 194), (50, 207), (60, 229), (70, 242), (80, 255)], 107) := by decide +kernel
theorem dX2_acted_172 : decode cX2_acted 172 = .ok (.iload_n 3, 1) := by decide +kernel
theorem dX2_acted_173 : decode cX2_acted 173 = .ok (.aload_n 0, 1) := by decide +kernel
theorem dX2_acted_174 : decode cX2_acted 174 = .ok (.getfield 25, 3) := by decide +kernel
theorem dX2_acted_177 : decode cX2_acted 177 = .ok (.iadd, 1) := by decide +kernel
theorem dX2_acted_178 : decode cX2_acted 178 = .ok (.ireturn, 1) := by decide +kernel
theorem dX2_acted_179 : decode cX2_acted 179 = .ok (.aload_n 0, 1) := by decide +kernel
theorem dX2_acted_180 : decode cX2_acted 180 = .ok (.iload 7, 2) := by decide +kernel
theorem dX2_acted_182 : decode cX2_acted 182 = .ok (.iconst 1, 1) := by decide +kernel
theorem dX2_acted_183 : decode cX2_acted 183 = .ok (.iload_n 3, 1) := by decide +kernel
theorem dX2_acted_184 : decode cX2_acted 184 = .ok (.iload 9, 2) := by decide +kernel
theorem dX2_acted_186 : decode cX2_acted 186 = .ok (.invokevirtual 38, 3) := by decide +kernel
theorem dX2_acted_189 : decode cX2_acted 189 = .ok (.aload_n 0, 1) := by decide +kernel
theorem dX2_acted_190 : decode cX2_acted 190 = .ok (.iload 7, 2) := by decide +kernel
theorem dX2_acted_192 : decode cX2_acted 192 = .ok (.iconst 2, 1) := by decide +kernel
theorem dX2_acted_193 : decode cX2_acted 193 = .ok (.iconst 1, 1) := by decide +kernel
theorem dX2_acted_194 : decode cX2_acted 194 = .ok (.iload 9, 2) := by decide +kernel
theorem dX2_acted_196 : decode cX2_acted 196 = .ok (.invokevirtual 38, 3) := by decide +kernel
theorem dX2_acted_199 : decode cX2_acted 199 = .ok (.isub, 1) := by decide +kernel
theorem dX2_acted_200 : decode cX2_acted 200 = .ok (.ireturn, 1) := by decide +kernel
theorem dX2_acted_201 : decode cX2_acted 201 = .ok (.aload_n 0, 1) := by decide +kernel
theorem dX2_acted_202 : decode cX2_acted 202 = .ok (.iload 7, 2) := by decide +kernel
theorem dX2_acted_204 : decode cX2_acted 204 = .ok (.iconst 0, 1) := by decide +kernel
theorem dX2_acted_205 : decode cX2_acted 205 = .ok (.iload_n 3, 1) := by decide +kernel
theorem dX2_acted_206 : decode cX2_acted 206 = .ok (.iload 9, 2) := by decide +kernel
theorem dX2_acted_208 : decode cX2_acted 208 = .ok (.invokevirtual 38, 3) := by decide +kernel
theorem dX2_acted_211 : decode cX2_acted 211 = .ok (.iconst 2, 1) := by decide +kernel
theorem dX2_acted_212 : decode cX2_acted 212 = .ok (.imul, 1) := by decide +kernel
theorem dX2_acted_213 : decode cX2_acted 213 = .ok (.ireturn, 1) := by decide +kernel
theorem dX2_acted_214 : decode cX2_acted 214 = .ok (.iload_n 3, 1) := by decide +kernel
theorem dX2_acted_215 : decode cX2_acted 215 = .ok (.aload_n 0, 1) := by decide +kernel
theorem dX2_acted_216 : decode cX2_acted 216 = .ok (.getfield 25, 3) := by decide +kernel
theorem dX2_acted_219 : decode cX2_acted 219 = .ok (.ixor, 1) := by decide +kernel
theorem dX2_acted_220 : decode cX2_acted 220 = .ok (.ireturn, 1) := by decide +kernel
theorem dX2_acted_221 : decode cX2_acted 221 = .ok (.aload_n 0, 1) := by decide +kernel
theorem dX2_acted_222 : decode cX2_acted 222 = .ok (.iload 8, 2) := by decide +kernel
theorem dX2_acted_224 : decode cX2_acted 224 = .ok (.iconst 0, 1) := by decide +kernel
theorem dX2_acted_225 : decode cX2_acted 225 = .ok (.iload_n 3, 1) := by decide +kernel
theorem dX2_acted_226 : decode cX2_acted 226 = .ok (.iload 9, 2) := by decide +kernel
theorem dX2_acted_228 : decode cX2_acted 228 = .ok (.invokevirtual 38, 3) := by decide +kernel
theorem dX2_acted_231 : decode cX2_acted 231 = .ok (.iconst 3, 1) := by decide +kernel
theorem dX2_acted_232 : decode cX2_acted 232 = .ok (.iadd, 1) := by decide +kernel
theorem dX2_acted_233 : decode cX2_acted 233 = .ok (.ireturn, 1) := by decide +kernel
theorem dX2_acted_234 : decode cX2_acted 234 = .ok (.aload_n 0, 1) := by decide +kernel
theorem dX2_acted_235 : decode cX2_acted 235 = .ok (.iload 8, 2) := by decide +kernel
theorem dX2_acted_237 : decode cX2_acted 237 = .ok (.iconst 1, 1) := by decide +kernel
theorem dX2_acted_238 : decode cX2_acted 238 = .ok (.iload_n 3, 1) := by decide +kernel
theorem dX2_acted_239 : decode cX2_acted 239 = .ok (.iload 9, 2) := by decide +kernel
theorem dX2_acted_241 : decode cX2_acted 241 = .ok (.invokevirtual 38, 3) := by decide +kernel
theorem dX2_acted_244 : decode cX2_acted 244 = .ok (.ineg, 1) := by decide +kernel
theorem dX2_acted_245 : decode cX2_acted 245 = .ok (.ireturn, 1) := by decide +kernel
theorem dX2_acted_246 : decode cX2_acted 246 = .ok (.aload_n 0, 1) := by decide +kernel
theorem dX2_acted_247 : decode cX2_acted 247 = .ok (.iload 8, 2) := by decide +kernel
theorem dX2_acted_249 : decode cX2_acted 249 = .ok (.iconst 2, 1) := by decide +kernel
theorem dX2_acted_250 : decode cX2_acted 250 = .ok (.iload_n 3, 1) := by decide +kernel
theorem dX2_acted_251 : decode cX2_acted 251 = .ok (.iload 9, 2) := by decide +kernel
theorem dX2_acted_253 : decode cX2_acted 253 = .ok (.invokevirtual 38, 3) := by decide +kernel
theorem dX2_acted_256 : decode cX2_acted 256 = .ok (.iconst 3, 1) := by decide +kernel
theorem dX2_acted_257 : decode cX2_acted 257 = .ok (.imul, 1) := by decide +kernel
theorem dX2_acted_258 : decode cX2_acted 258 = .ok (.ireturn, 1) := by decide +kernel
theorem dX2_acted_259 : decode cX2_acted 259 = .ok (.aload_n 0, 1) := by decide +kernel
theorem dX2_acted_260 : decode cX2_acted 260 = .ok (.iload 8, 2) := by decide +kernel
theorem dX2_acted_262 : decode cX2_acted 262 = .ok (.iconst 1, 1) := by decide +kernel
theorem dX2_acted_263 : decode cX2_acted 263 = .ok (.iload_n 3, 1) := by decide +kernel
theorem dX2_acted_264 : decode cX2_acted 264 = .ok (.iconst 1, 1) := by decide +kernel
theorem dX2_acted_265 : decode cX2_acted 265 = .ok (.iadd, 1) := by decide +kernel
theorem dX2_acted_266 : decode cX2_acted 266 = .ok (.iload 9, 2) := by decide +kernel
theorem dX2_acted_268 : decode cX2_acted 268 = .ok (.invokevirtual 38, 3) := by decide +kernel
theorem dX2_acted_271 : decode cX2_acted 271 = .ok (.ireturn, 1) := by decide +kernel
theorem dX2_acted_272 : decode cX2_acted 272 = .ok (.aload_n 0, 1) := by decide +kernel
theorem dX2_acted_273 : decode cX2_acted 273 = .ok (.iload 8, 2) := by decide +kernel
theorem dX2_acted_275 : decode cX2_acted 275 = .ok (.iconst 2, 1) := by decide +kernel
theorem dX2_acted_276 : decode cX2_acted 276 = .ok (.iload_n 3, 1) := by decide +kernel
theorem dX2_acted_277 : decode cX2_acted 277 = .ok (.iload 9, 2) := by decide +kernel
theorem dX2_acted_279 : decode cX2_acted 279 = .ok (.invokevirtual 38, 3) := by decide +kernel
theorem dX2_acted_282 : decode cX2_acted 282 = .ok (.aload_n 0, 1) := by decide +kernel
theorem dX2_acted_283 : decode cX2_acted 283 = .ok (.iload 7, 2) := by decide +kernel
theorem dX2_acted_285 : decode cX2_acted 285 = .ok (.iconst 0, 1) := by decide +kernel
theorem dX2_acted_286 : decode cX2_acted 286 = .ok (.iconst 2, 1) := by decide +kernel
theorem dX2_acted_287 : decode cX2_acted 287 = .ok (.iload 9, 2) := by decide +kernel
theorem dX2_acted_289 : decode cX2_acted 289 = .ok (.invokevirtual 38, 3) := by decide +kernel
theorem dX2_acted_292 : decode cX2_acted 292 = .ok (.isub, 1) := by decide +kernel
theorem dX2_acted_293 : decode cX2_acted 293 = .ok (.ireturn, 1) := by decide +kernel
theorem dX2_acted_294 : decode cX2_acted 294 = .ok (.aload_n 0, 1) := by decide +kernel
theorem dX2_acted_295 : decode cX2_acted 295 = .ok (.iload 8, 2) := by decide +kernel
theorem dX2_acted_297 : decode cX2_acted 297 = .ok (.iconst 3, 1) := by decide +kernel
theorem dX2_acted_298 : decode cX2_acted 298 = .ok (.iload_n 3, 1) := by decide +kernel
theorem dX2_acted_299 : decode cX2_acted 299 = .ok (.iload 9, 2) := by decide +kernel
theorem dX2_acted_301 : decode cX2_acted 301 = .ok (.invokevirtual 38, 3) := by decide +kernel
theorem dX2_acted_304 : decode cX2_acted 304 = .ok (.iconst 5, 1) := by decide +kernel
theorem dX2_acted_305 : decode cX2_acted 305 = .ok (.ixor, 1) := by decide +kernel
theorem dX2_acted_306 : decode cX2_acted 306 = .ok (.ireturn, 1) := by decide +kernel
theorem dX2_acted_307 : decode cX2_acted 307 = .ok (.aload_n 0, 1) := by decide +kernel
theorem dX2_acted_308 : decode cX2_acted 308 = .ok (.iload 8, 2) := by decide +kernel
theorem dX2_acted_310 : decode cX2_acted 310 = .ok (.iconst 0, 1) := by decide +kernel
theorem dX2_acted_311 : decode cX2_acted 311 = .ok (.iload_n 3, 1) := by decide +kernel
theorem dX2_acted_312 : decode cX2_acted 312 = .ok (.iload 9, 2) := by decide +kernel
theorem dX2_acted_314 : decode cX2_acted 314 = .ok (.invokevirtual 38, 3) := by decide +kernel
theorem dX2_acted_317 : decode cX2_acted 317 = .ok (.iconst 2, 1) := by decide +kernel
theorem dX2_acted_318 : decode cX2_acted 318 = .ok (.imul, 1) := by decide +kernel
theorem dX2_acted_319 : decode cX2_acted 319 = .ok (.ireturn, 1) := by decide +kernel
theorem dX2_acted_320 : decode cX2_acted 320 = .ok (.aload_n 0, 1) := by decide +kernel
theorem dX2_acted_321 : decode cX2_acted 321 = .ok (.iload 8, 2) := by decide +kernel
theorem dX2_acted_323 : decode cX2_acted 323 = .ok (.iconst 1, 1) := by decide +kernel
theorem dX2_acted_324 : decode cX2_acted 324 = .ok (.iload_n 3, 1) := by decide +kernel
theorem dX2_acted_325 : decode cX2_acted 325 = .ok (.iload 9, 2) := by decide +kernel
theorem dX2_acted_327 : decode cX2_acted 327 = .ok (.invokevirtual 38, 3) := by decide +kernel
theorem dX2_acted_330 : decode cX2_acted 330 = .ok (.aload_n 0, 1) := by decide +kernel
theorem dX2_acted_331 : decode cX2_acted 331 = .ok (.iload 7, 2) := by decide +kernel
theorem dX2_acted_333 : decode cX2_acted 333 = .ok (.iconst 2, 1) := by decide +kernel
theorem dX2_acted_334 : decode cX2_acted 334 = .ok (.iconst 2, 1) := by decide +kernel
theorem dX2_acted_335 : decode cX2_acted 335 = .ok (.iload 9, 2) := by decide +kernel
theorem dX2_acted_337 : decode cX2_acted 337 = .ok (.invokevirtual 38, 3) := by decide +kernel
theorem dX2_acted_340 : decode cX2_acted 340 = .ok (.iadd, 1) := by decide +kernel
theorem dX2_acted_341 : decode cX2_acted 341 = .ok (.ireturn, 1) := by decide +kernel
theorem dX2_acted_342 : decode cX2_acted 342 = .ok (.aload_n 0, 1) := by decide +kernel
theorem dX2_acted_343 : decode cX2_acted 343 = .ok (.iload 8, 2) := by decide +kernel
theorem dX2_acted_345 : decode cX2_acted 345 = .ok (.iconst 3, 1) := by decide +kernel
theorem dX2_acted_346 : decode cX2_acted 346 = .ok (.iload_n 3, 1) := by decide +kernel
theorem dX2_acted_347 : decode cX2_acted 347 = .ok (.iload 9, 2) := by decide +kernel
theorem dX2_acted_349 : decode cX2_acted 349 = .ok (.invokevirtual 38, 3) := by decide +kernel
theorem dX2_acted_352 : decode cX2_acted 352 = .ok (.iconst 1, 1) := by decide +kernel
theorem dX2_acted_353 : decode cX2_acted 353 = .ok (.isub, 1) := by decide +kernel
theorem dX2_acted_354 : decode cX2_acted 354 = .ok (.ireturn, 1) := by decide +kernel
theorem dX3_init_0 : decode cX3_init 0 = .ok (.aload_n 0, 1) := by decide +kernel
theorem dX3_init_1 : decode cX3_init 1 = .ok (.invokespecial 1, 3) := by decide +kernel
theorem dX3_init_4 : decode cX3_init 4 = .ok (.aload_n 0, 1) := by decide +kernel
theorem dX3_init_5 : decode cX3_init 5 = .ok (.bipush 120, 2) := by decide +kernel
theorem dX3_init_7 : decode cX3_init 7 = .ok (.newarray .int, 2) := by decide +kernel
theorem dX3_init_9 : decode cX3_init 9 = .ok (.putfield 9, 3) := by decide +kernel
theorem dX3_init_12 : decode cX3_init 12 = .ok (.aload_n 0, 1) := by decide +kernel
theorem dX3_init_13 : decode cX3_init 13 = .ok (.bipush 120, 2) := by decide +kernel
theorem dX3_init_15 : decode cX3_init 15 = .ok (.newarray .int, 2) := by decide +kernel
theorem dX3_init_17 : decode cX3_init 17 = .ok (.putfield 13, 3) := by decide +kernel
theorem dX3_init_20 : decode cX3_init 20 = .ok (.aload_n 0, 1) := by decide +kernel
theorem dX3_init_21 : decode cX3_init 21 = .ok (.iconst 0, 1) := by decide +kernel
theorem dX3_init_22 : decode cX3_init 22 = .ok (.putfield 16, 3) := by decide +kernel
theorem dX3_init_25 : decode cX3_init 25 = .ok (.aload_n 0, 1) := by decide +kernel
theorem dX3_init_26 : decode cX3_init 26 = .ok (.bipush 61, 2) := by decide +kernel
theorem dX3_init_28 : decode cX3_init 28 = .ok (.newarray .int, 2) := by decide +kernel
theorem dX3_init_30 : decode cX3_init 30 = .ok (.putfield 20, 3) := by decide +kernel
theorem dX3_init_33 : decode cX3_init 33 = .ok (.aload_n 0, 1) := by decide +kernel
theorem dX3_init_34 : decode cX3_init 34 = .ok (.bipush 61, 2) := by decide +kernel
theorem dX3_init_36 : decode cX3_init 36 = .ok (.newarray .int, 2) := by decide +kernel
theorem dX3_init_38 : decode cX3_init 38 = .ok (.putfield 23, 3) := by decide +kernel
theorem dX3_init_41 : decode cX3_init 41 = .ok (.aload_n 0, 1) := by decide +kernel
theorem dX3_init_42 : decode cX3_init 42 = .ok (.bipush 61, 2) := by decide +kernel
theorem dX3_init_44 : decode cX3_init 44 = .ok (.newarray .int, 2) := by decide +kernel
theorem dX3_init_46 : decode cX3_init 46 = .ok (.putfield 26, 3) := by decide +kernel
theorem dX3_init_49 : decode cX3_init 49 = .ok (.aload_n 0, 1) := by decide +kernel
theorem dX3_init_50 : decode cX3_init 50 = .ok (.iconst 0, 1) := by decide +kernel
theorem dX3_init_51 : decode cX3_init 51 = .ok (.putfield 29, 3) := by decide +kernel
theorem dX3_init_54 : decode cX3_init 54 = .ok (.aload_n 0, 1) := by decide +kernel
theorem dX3_init_55 : decode cX3_init 55 = .ok (.iconst 0, 1) := by decide +kernel
theorem dX3_init_56 : decode cX3_init 56 = .ok (.putfield 32, 3) := by decide +kernel
theorem dX3_init_59 : decode cX3_init 59 = .ok (.aload_n 0, 1) := by decide +kernel
theorem dX3_init_60 : decode cX3_init 60 = .ok (.iconst 0, 1) := by decide +kernel
theorem dX3_init_61 : decode cX3_init 61 = .ok (.putfield 35, 3) := by decide +kernel
theorem dX3_init_64 : decode cX3_init 64 = .ok (.aload_n 0, 1) := by decide +kernel
theorem dX3_init_65 : decode cX3_init 65 = .ok (.bipush 6, 2) := by decide +kernel
theorem dX3_init_67 : decode cX3_init 67 = .ok (.newarray .int, 2) := by decide +kernel
theorem dX3_init_69 : decode cX3_init 69 = .ok (.putfield 38, 3) := by decide +kernel
theorem dX3_init_72 : decode cX3_init 72 = .ok (.aload_n 0, 1) := by decide +kernel
theorem dX3_init_73 : decode cX3_init 73 = .ok (.bipush 120, 2) := by decide +kernel
theorem dX3_init_75 : decode cX3_init 75 = .ok (.newarray .int, 2) := by decide +kernel
theorem dX3_init_77 : decode cX3_init 77 = .ok (.putfield 41, 3) := by decide +kernel
theorem dX3_init_80 : decode cX3_init 80 = .ok (.return_, 1) := by decide +kernel
theorem dX3_clear_0 : decode cX3_clear 0 = .ok (.aload_n 0, 1) := by decide +kernel
theorem dX3_clear_1 : decode cX3_clear 1 = .ok (.iconst 0, 1) := by decide +kernel
theorem dX3_clear_2 : decode cX3_clear 2 = .ok (.putfield 16, 3) := by decide +kernel
theorem dX3_clear_5 : decode cX3_clear 5 = .ok (.aload_n 0, 1) := by decide +kernel
theorem dX3_clear_6 : decode cX3_clear 6 = .ok (.iconst 0, 1) := by decide +kernel
theorem dX3_clear_7 : decode cX3_clear 7 = .ok (.putfield 29, 3) := by decide +kernel
theorem dX3_clear_10 : decode cX3_clear 10 = .ok (.aload_n 0, 1) := by decide +kernel
theorem dX3_clear_11 : decode cX3_clear 11 = .ok (.iconst 0, 1) := by decide +kernel
theorem dX3_clear_12 : decode cX3_clear 12 = .ok (.putfield 32, 3) := by decide +kernel
theorem dX3_clear_15 : decode cX3_clear 15 = .ok (.aload_n 0, 1) := by decide +kernel
theorem dX3_clear_16 : decode cX3_clear 16 = .ok (.iconst 0, 1) := by decide +kernel
theorem dX3_clear_17 : decode cX3_clear 17 = .ok (.putfield 35, 3) := by decide +kernel
theorem dX3_clear_20 : decode cX3_clear 20 = .ok (.return_, 1) := by decide +kernel
theorem dX3_add_0 : decode cX3_add 0 = .ok (.aload_n 0, 1) := by decide +kernel
theorem dX3_add_1 : decode cX3_add 1 = .ok (.getfield 16, 3) := by decide +kernel
theorem dX3_add_4 : decode cX3_add 4 = .ok (.bipush 120, 2) := by decide +kernel
theorem dX3_add_6 : decode cX3_add 6 = .ok (.if_icmp .ge 33, 3) := by decide +kernel
theorem dX3_add_9 : decode cX3_add 9 = .ok (.aload_n 0, 1) := by decide +kernel
theorem dX3_add_10 : decode cX3_add 10 = .ok (.getfield 9, 3) := by decide +kernel
theorem dX3_add_13 : decode cX3_add 13 = .ok (.aload_n 0, 1) := by decide +kernel
theorem dX3_add_14 : decode cX3_add 14 = .ok (.getfield 16, 3) := by decide +kernel
theorem dX3_add_17 : decode cX3_add 17 = .ok (.iload_n 1, 1) := by decide +kernel
theorem dX3_add_18 : decode cX3_add 18 = .ok (.iastore, 1) := by decide +kernel
theorem dX3_add_19 : decode cX3_add 19 = .ok (.aload_n 0, 1) := by decide +kernel
theorem dX3_add_20 : decode cX3_add 20 = .ok (.getfield 13, 3) := by decide +kernel
theorem dX3_add_23 : decode cX3_add 23 = .ok (.aload_n 0, 1) := by decide +kernel
theorem dX3_add_24 : decode cX3_add 24 = .ok (.getfield 16, 3) := by decide +kernel
theorem dX3_add_27 : decode cX3_add 27 = .ok (.iload_n 2, 1) := by decide +kernel
theorem dX3_add_28 : decode cX3_add 28 = .ok (.iastore, 1) := by decide +kernel
theorem dX3_add_29 : decode cX3_add 29 = .ok (.aload_n 0, 1) := by decide +kernel
theorem dX3_add_30 : decode cX3_add 30 = .ok (.dup, 1) := by decide +kernel
theorem dX3_add_31 : decode cX3_add 31 = .ok (.getfield 16, 3) := by decide +kernel
theorem dX3_add_34 : decode cX3_add 34 = .ok (.iconst 1, 1) := by decide +kernel
theorem dX3_add_35 : decode cX3_add 35 = .ok (.iadd, 1) := by decide +kernel
theorem dX3_add_36 : decode cX3_add 36 = .ok (.putfield 16, 3) := by decide +kernel
theorem dX3_add_39 : decode cX3_add 39 = .ok (.return_, 1) := by decide +kernel
theorem dX3_endCondition_0 : decode cX3_endCondition 0 = .ok (.aload_n 0, 1) := by decide +kernel
theorem dX3_endCondition_1 : decode cX3_endCondition 1 = .ok (.aload_n 0, 1) := by decide +kernel
theorem dX3_endCondition_2 : decode cX3_endCondition 2 = .ok (.getfield 16, 3) := by decide +kernel
theorem dX3_endCondition_5 : decode cX3_endCondition 5 = .ok (.putfield 35, 3) := by decide +kernel
theorem dX3_endCondition_8 : decode cX3_endCondition 8 = .ok (.return_, 1) := by decide +kernel
theorem dX3_endLine_0 : decode cX3_endLine 0 = .ok (.aload_n 0, 1) := by decide +kernel
theorem dX3_endLine_1 : decode cX3_endLine 1 = .ok (.getfield 29, 3) := by decide +kernel
theorem dX3_endLine_4 : decode cX3_endLine 4 = .ok (.bipush 61, 2) := by decide +kernel
theorem dX3_endLine_6 : decode cX3_endLine 6 = .ok (.if_icmp .ge 52, 3) := by decide +kernel
theorem dX3_endLine_9 : decode cX3_endLine 9 = .ok (.aload_n 0, 1) := by decide +kernel
theorem dX3_endLine_10 : decode cX3_endLine 10 = .ok (.getfield 20, 3) := by decide +kernel
theorem dX3_endLine_13 : decode cX3_endLine 13 = .ok (.aload_n 0, 1) := by decide +kernel
theorem dX3_endLine_14 : decode cX3_endLine 14 = .ok (.getfield 29, 3) := by decide +kernel
theorem dX3_endLine_17 : decode cX3_endLine 17 = .ok (.aload_n 0, 1) := by decide +kernel
theorem dX3_endLine_18 : decode cX3_endLine 18 = .ok (.getfield 32, 3) := by decide +kernel
theorem dX3_endLine_21 : decode cX3_endLine 21 = .ok (.iastore, 1) := by decide +kernel
theorem dX3_endLine_22 : decode cX3_endLine 22 = .ok (.aload_n 0, 1) := by decide +kernel
theorem dX3_endLine_23 : decode cX3_endLine 23 = .ok (.getfield 23, 3) := by decide +kernel
theorem dX3_endLine_26 : decode cX3_endLine 26 = .ok (.aload_n 0, 1) := by decide +kernel
theorem dX3_endLine_27 : decode cX3_endLine 27 = .ok (.getfield 29, 3) := by decide +kernel
theorem dX3_endLine_30 : decode cX3_endLine 30 = .ok (.aload_n 0, 1) := by decide +kernel
theorem dX3_endLine_31 : decode cX3_endLine 31 = .ok (.getfield 35, 3) := by decide +kernel
theorem dX3_endLine_34 : decode cX3_endLine 34 = .ok (.iastore, 1) := by decide +kernel
theorem dX3_endLine_35 : decode cX3_endLine 35 = .ok (.aload_n 0, 1) := by decide +kernel
theorem dX3_endLine_36 : decode cX3_endLine 36 = .ok (.getfield 26, 3) := by decide +kernel
theorem dX3_endLine_39 : decode cX3_endLine 39 = .ok (.aload_n 0, 1) := by decide +kernel
theorem dX3_endLine_40 : decode cX3_endLine 40 = .ok (.getfield 29, 3) := by decide +kernel
theorem dX3_endLine_43 : decode cX3_endLine 43 = .ok (.aload_n 0, 1) := by decide +kernel
theorem dX3_endLine_44 : decode cX3_endLine 44 = .ok (.getfield 16, 3) := by decide +kernel
theorem dX3_endLine_47 : decode cX3_endLine 47 = .ok (.iastore, 1) := by decide +kernel
theorem dX3_endLine_48 : decode cX3_endLine 48 = .ok (.aload_n 0, 1) := by decide +kernel
theorem dX3_endLine_49 : decode cX3_endLine 49 = .ok (.dup, 1) := by decide +kernel
theorem dX3_endLine_50 : decode cX3_endLine 50 = .ok (.getfield 29, 3) := by decide +kernel
theorem dX3_endLine_53 : decode cX3_endLine 53 = .ok (.iconst 1, 1) := by decide +kernel
theorem dX3_endLine_54 : decode cX3_endLine 54 = .ok (.iadd, 1) := by decide +kernel
theorem dX3_endLine_55 : decode cX3_endLine 55 = .ok (.putfield 29, 3) := by decide +kernel
theorem dX3_endLine_58 : decode cX3_endLine 58 = .ok (.aload_n 0, 1) := by decide +kernel
theorem dX3_endLine_59 : decode cX3_endLine 59 = .ok (.aload_n 0, 1) := by decide +kernel
theorem dX3_endLine_60 : decode cX3_endLine 60 = .ok (.getfield 16, 3) := by decide +kernel
theorem dX3_endLine_63 : decode cX3_endLine 63 = .ok (.putfield 32, 3) := by decide +kernel
theorem dX3_endLine_66 : decode cX3_endLine 66 = .ok (.aload_n 0, 1) := by decide +kernel
theorem dX3_endLine_67 : decode cX3_endLine 67 = .ok (.aload_n 0, 1) := by decide +kernel
theorem dX3_endLine_68 : decode cX3_endLine 68 = .ok (.getfield 16, 3) := by decide +kernel
theorem dX3_endLine_71 : decode cX3_endLine 71 = .ok (.putfield 35, 3) := by decide +kernel
theorem dX3_endLine_74 : decode cX3_endLine 74 = .ok (.return_, 1) := by decide +kernel
theorem dX3_isTold_0 : decode cX3_isTold 0 = .ok (.aload_n 0, 1) := by decide +kernel
theorem dX3_isTold_1 : decode cX3_isTold 1 = .ok (.getfield 29, 3) := by decide +kernel
theorem dX3_isTold_4 : decode cX3_isTold 4 = .ok (.ifCond .le 7, 3) := by decide +kernel
theorem dX3_isTold_7 : decode cX3_isTold 7 = .ok (.iconst 1, 1) := by decide +kernel
theorem dX3_isTold_8 : decode cX3_isTold 8 = .ok (.goto 4, 3) := by decide +kernel
theorem dX3_isTold_11 : decode cX3_isTold 11 = .ok (.iconst 0, 1) := by decide +kernel
theorem dX3_isTold_12 : decode cX3_isTold 12 = .ok (.ireturn, 1) := by decide +kernel
theorem dX3_rank_0 : decode cX3_rank 0 = .ok (.aload_n 0, 1) := by decide +kernel
theorem dX3_rank_1 : decode cX3_rank 1 = .ok (.getfield 38, 3) := by decide +kernel
theorem dX3_rank_4 : decode cX3_rank 4 = .ok (.iconst 0, 1) := by decide +kernel
theorem dX3_rank_5 : decode cX3_rank 5 = .ok (.iload_n 1, 1) := by decide +kernel
theorem dX3_rank_6 : decode cX3_rank 6 = .ok (.iastore, 1) := by decide +kernel
theorem dX3_rank_7 : decode cX3_rank 7 = .ok (.aload_n 0, 1) := by decide +kernel
theorem dX3_rank_8 : decode cX3_rank 8 = .ok (.getfield 38, 3) := by decide +kernel
theorem dX3_rank_11 : decode cX3_rank 11 = .ok (.iconst 1, 1) := by decide +kernel
theorem dX3_rank_12 : decode cX3_rank 12 = .ok (.iload_n 2, 1) := by decide +kernel
theorem dX3_rank_13 : decode cX3_rank 13 = .ok (.iastore, 1) := by decide +kernel
theorem dX3_rank_14 : decode cX3_rank 14 = .ok (.aload_n 0, 1) := by decide +kernel
theorem dX3_rank_15 : decode cX3_rank 15 = .ok (.getfield 38, 3) := by decide +kernel
theorem dX3_rank_18 : decode cX3_rank 18 = .ok (.iconst 2, 1) := by decide +kernel
theorem dX3_rank_19 : decode cX3_rank 19 = .ok (.iload_n 3, 1) := by decide +kernel
theorem dX3_rank_20 : decode cX3_rank 20 = .ok (.iastore, 1) := by decide +kernel
theorem dX3_rank_21 : decode cX3_rank 21 = .ok (.aload_n 0, 1) := by decide +kernel
theorem dX3_rank_22 : decode cX3_rank 22 = .ok (.getfield 38, 3) := by decide +kernel
theorem dX3_rank_25 : decode cX3_rank 25 = .ok (.iconst 3, 1) := by decide +kernel
theorem dX3_rank_26 : decode cX3_rank 26 = .ok (.iload 4, 2) := by decide +kernel
theorem dX3_rank_28 : decode cX3_rank 28 = .ok (.iastore, 1) := by decide +kernel
theorem dX3_rank_29 : decode cX3_rank 29 = .ok (.aload_n 0, 1) := by decide +kernel
theorem dX3_rank_30 : decode cX3_rank 30 = .ok (.getfield 38, 3) := by decide +kernel
theorem dX3_rank_33 : decode cX3_rank 33 = .ok (.iconst 4, 1) := by decide +kernel
theorem dX3_rank_34 : decode cX3_rank 34 = .ok (.iload 5, 2) := by decide +kernel
theorem dX3_rank_36 : decode cX3_rank 36 = .ok (.iastore, 1) := by decide +kernel
theorem dX3_rank_37 : decode cX3_rank 37 = .ok (.aload_n 0, 1) := by decide +kernel
theorem dX3_rank_38 : decode cX3_rank 38 = .ok (.getfield 38, 3) := by decide +kernel
theorem dX3_rank_41 : decode cX3_rank 41 = .ok (.iconst 5, 1) := by decide +kernel
theorem dX3_rank_42 : decode cX3_rank 42 = .ok (.iload 6, 2) := by decide +kernel
theorem dX3_rank_44 : decode cX3_rank 44 = .ok (.iastore, 1) := by decide +kernel
theorem dX3_rank_45 : decode cX3_rank 45 = .ok (.iconst 0, 1) := by decide +kernel
theorem dX3_rank_46 : decode cX3_rank 46 = .ok (.istore 7, 2) := by decide +kernel
theorem dX3_rank_48 : decode cX3_rank 48 = .ok (.iload 7, 2) := by decide +kernel
theorem dX3_rank_50 : decode cX3_rank 50 = .ok (.aload_n 0, 1) := by decide +kernel
theorem dX3_rank_51 : decode cX3_rank 51 = .ok (.getfield 29, 3) := by decide +kernel
theorem dX3_rank_54 : decode cX3_rank 54 = .ok (.if_icmp .ge 78, 3) := by decide +kernel
theorem dX3_rank_57 : decode cX3_rank 57 = .ok (.aload_n 0, 1) := by decide +kernel
theorem dX3_rank_58 : decode cX3_rank 58 = .ok (.getfield 20, 3) := by decide +kernel
theorem dX3_rank_61 : decode cX3_rank 61 = .ok (.iload 7, 2) := by decide +kernel
theorem dX3_rank_63 : decode cX3_rank 63 = .ok (.iaload, 1) := by decide +kernel
theorem dX3_rank_64 : decode cX3_rank 64 = .ok (.aload_n 0, 1) := by decide +kernel
theorem dX3_rank_65 : decode cX3_rank 65 = .ok (.getfield 23, 3) := by decide +kernel
theorem dX3_rank_68 : decode cX3_rank 68 = .ok (.iload 7, 2) := by decide +kernel
theorem dX3_rank_70 : decode cX3_rank 70 = .ok (.iaload, 1) := by decide +kernel
theorem dX3_rank_71 : decode cX3_rank 71 = .ok (.if_icmp .ne 7, 3) := by decide +kernel
theorem dX3_rank_74 : decode cX3_rank 74 = .ok (.iconst 1, 1) := by decide +kernel
theorem dX3_rank_75 : decode cX3_rank 75 = .ok (.goto 4, 3) := by decide +kernel
theorem dX3_rank_78 : decode cX3_rank 78 = .ok (.iconst 0, 1) := by decide +kernel
theorem dX3_rank_79 : decode cX3_rank 79 = .ok (.istore 8, 2) := by decide +kernel
theorem dX3_rank_81 : decode cX3_rank 81 = .ok (.iload 8, 2) := by decide +kernel
theorem dX3_rank_83 : decode cX3_rank 83 = .ok (.ifCond .ne 24, 3) := by decide +kernel
theorem dX3_rank_86 : decode cX3_rank 86 = .ok (.aload_n 0, 1) := by decide +kernel
theorem dX3_rank_87 : decode cX3_rank 87 = .ok (.aload_n 0, 1) := by decide +kernel
theorem dX3_rank_88 : decode cX3_rank 88 = .ok (.getfield 20, 3) := by decide +kernel
theorem dX3_rank_91 : decode cX3_rank 91 = .ok (.iload 7, 2) := by decide +kernel
theorem dX3_rank_93 : decode cX3_rank 93 = .ok (.iaload, 1) := by decide +kernel
theorem dX3_rank_94 : decode cX3_rank 94 = .ok (.aload_n 0, 1) := by decide +kernel
theorem dX3_rank_95 : decode cX3_rank 95 = .ok (.getfield 23, 3) := by decide +kernel
theorem dX3_rank_98 : decode cX3_rank 98 = .ok (.iload 7, 2) := by decide +kernel
theorem dX3_rank_100 : decode cX3_rank 100 = .ok (.iaload, 1) := by decide +kernel
theorem dX3_rank_101 : decode cX3_rank 101 = .ok (.invokevirtual 44, 3) := by decide +kernel
theorem dX3_rank_104 : decode cX3_rank 104 = .ok (.ifCond .eq 22, 3) := by decide +kernel
theorem dX3_rank_107 : decode cX3_rank 107 = .ok (.aload_n 0, 1) := by decide +kernel
theorem dX3_rank_108 : decode cX3_rank 108 = .ok (.aload_n 0, 1) := by decide +kernel
theorem dX3_rank_109 : decode cX3_rank 109 = .ok (.getfield 23, 3) := by decide +kernel
theorem dX3_rank_112 : decode cX3_rank 112 = .ok (.iload 7, 2) := by decide +kernel
theorem dX3_rank_114 : decode cX3_rank 114 = .ok (.iaload, 1) := by decide +kernel
theorem dX3_rank_115 : decode cX3_rank 115 = .ok (.aload_n 0, 1) := by decide +kernel
theorem dX3_rank_116 : decode cX3_rank 116 = .ok (.getfield 26, 3) := by decide +kernel
theorem dX3_rank_119 : decode cX3_rank 119 = .ok (.iload 7, 2) := by decide +kernel
theorem dX3_rank_121 : decode cX3_rank 121 = .ok (.iaload, 1) := by decide +kernel
theorem dX3_rank_122 : decode cX3_rank 122 = .ok (.invokevirtual 44, 3) := by decide +kernel
theorem dX3_rank_125 : decode cX3_rank 125 = .ok (.ireturn, 1) := by decide +kernel
theorem dX3_rank_126 : decode cX3_rank 126 = .ok (.iinc 7 1, 3) := by decide +kernel
theorem dX3_rank_129 : decode cX3_rank 129 = .ok (.goto (-81), 3) := by decide +kernel
theorem dX3_rank_132 : decode cX3_rank 132 = .ok (.iconst 0, 1) := by decide +kernel
theorem dX3_rank_133 : decode cX3_rank 133 = .ok (.ireturn, 1) := by decide +kernel
theorem dX3_workedOut_0 : decode cX3_workedOut 0 = .ok (.iconst 0, 1) := by decide +kernel
theorem dX3_workedOut_1 : decode cX3_workedOut 1 = .ok (.istore_n 3, 1) := by decide +kernel
theorem dX3_workedOut_2 : decode cX3_workedOut 2 = .ok (.iload_n 1, 1) := by decide +kernel
theorem dX3_workedOut_3 : decode cX3_workedOut 3 = .ok (.istore 4, 2) := by decide +kernel
theorem dX3_workedOut_5 : decode cX3_workedOut 5 = .ok (.iload 4, 2) := by decide +kernel
theorem dX3_workedOut_7 : decode cX3_workedOut 7 = .ok (.iload_n 2, 1) := by decide +kernel
theorem dX3_workedOut_8 : decode cX3_workedOut 8 = .ok (.if_icmp .ge 210, 3) := by decide +kernel
theorem dX3_workedOut_11 : decode cX3_workedOut 11 = .ok (.iload 4, 2) := by decide +kernel
theorem dX3_workedOut_13 : decode cX3_workedOut 13 = .ok (.bipush 120, 2) := by decide +kernel
theorem dX3_workedOut_15 : decode cX3_workedOut 15 = .ok (.if_icmp .ge 203, 3) := by decide +kernel
theorem dX3_workedOut_18 : decode cX3_workedOut 18 = .ok (.aload_n 0, 1) := by decide +kernel
theorem dX3_workedOut_19 : decode cX3_workedOut 19 = .ok (.getfield 9, 3) := by decide +kernel
theorem dX3_workedOut_22 : decode cX3_workedOut 22 = .ok (.iload 4, 2) := by decide +kernel
theorem dX3_workedOut_24 : decode cX3_workedOut 24 = .ok (.iaload, 1) := by decide +kernel
theorem dX3_workedOut_25 : decode cX3_workedOut 25 = .ok (.istore 5, 2) := by decide +kernel
theorem dX3_workedOut_27 : decode cX3_workedOut 27 = .ok (.aload_n 0, 1) := by decide +kernel
theorem dX3_workedOut_28 : decode cX3_workedOut 28 = .ok (.getfield 13, 3) := by decide +kernel
theorem dX3_workedOut_31 : decode cX3_workedOut 31 = .ok (.iload 4, 2) := by decide +kernel
theorem dX3_workedOut_33 : decode cX3_workedOut 33 = .ok (.iaload, 1) := by decide +kernel
theorem dX3_workedOut_34 : decode cX3_workedOut 34 = .ok (.istore 6, 2) := by decide +kernel
theorem dX3_workedOut_36 : decode cX3_workedOut 36 = .ok (.iload 5, 2) := by decide +kernel
theorem dX3_workedOut_38 : decode cX3_workedOut 38 = .ok (.iconst 1, 1) := by decide +kernel
theorem dX3_workedOut_39 : decode cX3_workedOut 39 = .ok (.if_icmp .ne 23, 3) := by decide +kernel
theorem dX3_workedOut_42 : decode cX3_workedOut 42 = .ok (.iload_n 3, 1) := by decide +kernel
theorem dX3_workedOut_43 : decode cX3_workedOut 43 = .ok (.bipush 120, 2) := by decide +kernel
theorem dX3_workedOut_45 : decode cX3_workedOut 45 = .ok (.if_icmp .ge 17, 3) := by decide +kernel
theorem dX3_workedOut_48 : decode cX3_workedOut 48 = .ok (.aload_n 0, 1) := by decide +kernel
theorem dX3_workedOut_49 : decode cX3_workedOut 49 = .ok (.getfield 41, 3) := by decide +kernel
theorem dX3_workedOut_52 : decode cX3_workedOut 52 = .ok (.iload_n 3, 1) := by decide +kernel
theorem dX3_workedOut_53 : decode cX3_workedOut 53 = .ok (.iload 6, 2) := by decide +kernel
theorem dX3_workedOut_55 : decode cX3_workedOut 55 = .ok (.iastore, 1) := by decide +kernel
theorem dX3_workedOut_56 : decode cX3_workedOut 56 = .ok (.iinc 3 1, 3) := by decide +kernel
theorem dX3_workedOut_59 : decode cX3_workedOut 59 = .ok (.goto 153, 3) := by decide +kernel
theorem dX3_workedOut_62 : decode cX3_workedOut 62 = .ok (.iload 5, 2) := by decide +kernel
theorem dX3_workedOut_64 : decode cX3_workedOut 64 = .ok (.iconst 2, 1) := by decide +kernel
theorem dX3_workedOut_65 : decode cX3_workedOut 65 = .ok (.if_icmp .ne 40, 3) := by decide +kernel
theorem dX3_workedOut_68 : decode cX3_workedOut 68 = .ok (.iload_n 3, 1) := by decide +kernel
theorem dX3_workedOut_69 : decode cX3_workedOut 69 = .ok (.bipush 120, 2) := by decide +kernel
theorem dX3_workedOut_71 : decode cX3_workedOut 71 = .ok (.if_icmp .ge 34, 3) := by decide +kernel
theorem dX3_workedOut_74 : decode cX3_workedOut 74 = .ok (.iload 6, 2) := by decide +kernel
theorem dX3_workedOut_76 : decode cX3_workedOut 76 = .ok (.ifCond .lt 29, 3) := by decide +kernel
theorem dX3_workedOut_79 : decode cX3_workedOut 79 = .ok (.iload 6, 2) := by decide +kernel
theorem dX3_workedOut_81 : decode cX3_workedOut 81 = .ok (.bipush 6, 2) := by decide +kernel
theorem dX3_workedOut_83 : decode cX3_workedOut 83 = .ok (.if_icmp .ge 22, 3) := by decide +kernel
theorem dX3_workedOut_86 : decode cX3_workedOut 86 = .ok (.aload_n 0, 1) := by decide +kernel
theorem dX3_workedOut_87 : decode cX3_workedOut 87 = .ok (.getfield 41, 3) := by decide +kernel
theorem dX3_workedOut_90 : decode cX3_workedOut 90 = .ok (.iload_n 3, 1) := by decide +kernel
theorem dX3_workedOut_91 : decode cX3_workedOut 91 = .ok (.aload_n 0, 1) := by decide +kernel
theorem dX3_workedOut_92 : decode cX3_workedOut 92 = .ok (.getfield 38, 3) := by decide +kernel
theorem dX3_workedOut_95 : decode cX3_workedOut 95 = .ok (.iload 6, 2) := by decide +kernel
theorem dX3_workedOut_97 : decode cX3_workedOut 97 = .ok (.iaload, 1) := by decide +kernel
theorem dX3_workedOut_98 : decode cX3_workedOut 98 = .ok (.iastore, 1) := by decide +kernel
theorem dX3_workedOut_99 : decode cX3_workedOut 99 = .ok (.iinc 3 1, 3) := by decide +kernel
theorem dX3_workedOut_102 : decode cX3_workedOut 102 = .ok (.goto 110, 3) := by decide +kernel
theorem dX3_workedOut_105 : decode cX3_workedOut 105 = .ok (.iload 5, 2) := by decide +kernel
theorem dX3_workedOut_107 : decode cX3_workedOut 107 = .ok (.iconst 3, 1) := by decide +kernel
theorem dX3_workedOut_108 : decode cX3_workedOut 108 = .ok (.if_icmp .ne 28, 3) := by decide +kernel
theorem dX3_workedOut_111 : decode cX3_workedOut 111 = .ok (.iload_n 3, 1) := by decide +kernel
theorem dX3_workedOut_112 : decode cX3_workedOut 112 = .ok (.iconst 1, 1) := by decide +kernel
theorem dX3_workedOut_113 : decode cX3_workedOut 113 = .ok (.if_icmp .lt 23, 3) := by decide +kernel
theorem dX3_workedOut_116 : decode cX3_workedOut 116 = .ok (.aload_n 0, 1) := by decide +kernel
theorem dX3_workedOut_117 : decode cX3_workedOut 117 = .ok (.getfield 41, 3) := by decide +kernel
theorem dX3_workedOut_120 : decode cX3_workedOut 120 = .ok (.iload_n 3, 1) := by decide +kernel
theorem dX3_workedOut_121 : decode cX3_workedOut 121 = .ok (.iconst 1, 1) := by decide +kernel
theorem dX3_workedOut_122 : decode cX3_workedOut 122 = .ok (.isub, 1) := by decide +kernel
theorem dX3_workedOut_123 : decode cX3_workedOut 123 = .ok (.aload_n 0, 1) := by decide +kernel
theorem dX3_workedOut_124 : decode cX3_workedOut 124 = .ok (.getfield 41, 3) := by decide +kernel
theorem dX3_workedOut_127 : decode cX3_workedOut 127 = .ok (.iload_n 3, 1) := by decide +kernel
theorem dX3_workedOut_128 : decode cX3_workedOut 128 = .ok (.iconst 1, 1) := by decide +kernel
theorem dX3_workedOut_129 : decode cX3_workedOut 129 = .ok (.isub, 1) := by decide +kernel
theorem dX3_workedOut_130 : decode cX3_workedOut 130 = .ok (.iaload, 1) := by decide +kernel
theorem dX3_workedOut_131 : decode cX3_workedOut 131 = .ok (.ineg, 1) := by decide +kernel
theorem dX3_workedOut_132 : decode cX3_workedOut 132 = .ok (.iastore, 1) := by decide +kernel
theorem dX3_workedOut_133 : decode cX3_workedOut 133 = .ok (.goto 79, 3) := by decide +kernel
theorem dX3_workedOut_136 : decode cX3_workedOut 136 = .ok (.iload 5, 2) := by decide +kernel
theorem dX3_workedOut_138 : decode cX3_workedOut 138 = .ok (.bipush 33, 2) := by decide +kernel
theorem dX3_workedOut_140 : decode cX3_workedOut 140 = .ok (.if_icmp .ne 35, 3) := by decide +kernel
theorem dX3_workedOut_143 : decode cX3_workedOut 143 = .ok (.iload_n 3, 1) := by decide +kernel
theorem dX3_workedOut_144 : decode cX3_workedOut 144 = .ok (.iconst 1, 1) := by decide +kernel
theorem dX3_workedOut_145 : decode cX3_workedOut 145 = .ok (.if_icmp .lt 30, 3) := by decide +kernel
theorem dX3_workedOut_148 : decode cX3_workedOut 148 = .ok (.aload_n 0, 1) := by decide +kernel
theorem dX3_workedOut_149 : decode cX3_workedOut 149 = .ok (.getfield 41, 3) := by decide +kernel
theorem dX3_workedOut_152 : decode cX3_workedOut 152 = .ok (.iload_n 3, 1) := by decide +kernel
theorem dX3_workedOut_153 : decode cX3_workedOut 153 = .ok (.iconst 1, 1) := by decide +kernel
theorem dX3_workedOut_154 : decode cX3_workedOut 154 = .ok (.isub, 1) := by decide +kernel
theorem dX3_workedOut_155 : decode cX3_workedOut 155 = .ok (.aload_n 0, 1) := by decide +kernel
theorem dX3_workedOut_156 : decode cX3_workedOut 156 = .ok (.getfield 41, 3) := by decide +kernel
theorem dX3_workedOut_159 : decode cX3_workedOut 159 = .ok (.iload_n 3, 1) := by decide +kernel
theorem dX3_workedOut_160 : decode cX3_workedOut 160 = .ok (.iconst 1, 1) := by decide +kernel
theorem dX3_workedOut_161 : decode cX3_workedOut 161 = .ok (.isub, 1) := by decide +kernel
theorem dX3_workedOut_162 : decode cX3_workedOut 162 = .ok (.iaload, 1) := by decide +kernel
theorem dX3_workedOut_163 : decode cX3_workedOut 163 = .ok (.ifCond .ne 7, 3) := by decide +kernel
theorem dX3_workedOut_166 : decode cX3_workedOut 166 = .ok (.iconst 1, 1) := by decide +kernel
theorem dX3_workedOut_167 : decode cX3_workedOut 167 = .ok (.goto 4, 3) := by decide +kernel
theorem dX3_workedOut_170 : decode cX3_workedOut 170 = .ok (.iconst 0, 1) := by decide +kernel
theorem dX3_workedOut_171 : decode cX3_workedOut 171 = .ok (.iastore, 1) := by decide +kernel
theorem dX3_workedOut_172 : decode cX3_workedOut 172 = .ok (.goto 40, 3) := by decide +kernel
theorem dX3_workedOut_175 : decode cX3_workedOut 175 = .ok (.iload_n 3, 1) := by decide +kernel
theorem dX3_workedOut_176 : decode cX3_workedOut 176 = .ok (.iconst 2, 1) := by decide +kernel
theorem dX3_workedOut_177 : decode cX3_workedOut 177 = .ok (.if_icmp .lt 35, 3) := by decide +kernel
theorem dX3_workedOut_180 : decode cX3_workedOut 180 = .ok (.aload_n 0, 1) := by decide +kernel
theorem dX3_workedOut_181 : decode cX3_workedOut 181 = .ok (.getfield 41, 3) := by decide +kernel
theorem dX3_workedOut_184 : decode cX3_workedOut 184 = .ok (.iload_n 3, 1) := by decide +kernel
theorem dX3_workedOut_185 : decode cX3_workedOut 185 = .ok (.iconst 2, 1) := by decide +kernel
theorem dX3_workedOut_186 : decode cX3_workedOut 186 = .ok (.isub, 1) := by decide +kernel
theorem dX3_workedOut_187 : decode cX3_workedOut 187 = .ok (.iload 5, 2) := by decide +kernel
theorem dX3_workedOut_189 : decode cX3_workedOut 189 = .ok (.aload_n 0, 1) := by decide +kernel
theorem dX3_workedOut_190 : decode cX3_workedOut 190 = .ok (.getfield 41, 3) := by decide +kernel
theorem dX3_workedOut_193 : decode cX3_workedOut 193 = .ok (.iload_n 3, 1) := by decide +kernel
theorem dX3_workedOut_194 : decode cX3_workedOut 194 = .ok (.iconst 2, 1) := by decide +kernel
theorem dX3_workedOut_195 : decode cX3_workedOut 195 = .ok (.isub, 1) := by decide +kernel
theorem dX3_workedOut_196 : decode cX3_workedOut 196 = .ok (.iaload, 1) := by decide +kernel
theorem dX3_workedOut_197 : decode cX3_workedOut 197 = .ok (.aload_n 0, 1) := by decide +kernel
theorem dX3_workedOut_198 : decode cX3_workedOut 198 = .ok (.getfield 41, 3) := by decide +kernel
theorem dX3_workedOut_201 : decode cX3_workedOut 201 = .ok (.iload_n 3, 1) := by decide +kernel
theorem dX3_workedOut_202 : decode cX3_workedOut 202 = .ok (.iconst 1, 1) := by decide +kernel
theorem dX3_workedOut_203 : decode cX3_workedOut 203 = .ok (.isub, 1) := by decide +kernel
theorem dX3_workedOut_204 : decode cX3_workedOut 204 = .ok (.iaload, 1) := by decide +kernel
theorem dX3_workedOut_205 : decode cX3_workedOut 205 = .ok (.invokestatic 48, 3) := by decide +kernel
theorem dX3_workedOut_208 : decode cX3_workedOut 208 = .ok (.iastore, 1) := by decide +kernel
theorem dX3_workedOut_209 : decode cX3_workedOut 209 = .ok (.iinc 3 (-1), 3) := by decide +kernel
theorem dX3_workedOut_212 : decode cX3_workedOut 212 = .ok (.iinc 4 1, 3) := by decide +kernel
theorem dX3_workedOut_215 : decode cX3_workedOut 215 = .ok (.goto (-210), 3) := by decide +kernel
theorem dX3_workedOut_218 : decode cX3_workedOut 218 = .ok (.iload_n 3, 1) := by decide +kernel
theorem dX3_workedOut_219 : decode cX3_workedOut 219 = .ok (.iconst 1, 1) := by decide +kernel
theorem dX3_workedOut_220 : decode cX3_workedOut 220 = .ok (.if_icmp .lt 14, 3) := by decide +kernel
theorem dX3_workedOut_223 : decode cX3_workedOut 223 = .ok (.aload_n 0, 1) := by decide +kernel
theorem dX3_workedOut_224 : decode cX3_workedOut 224 = .ok (.getfield 41, 3) := by decide +kernel
theorem dX3_workedOut_227 : decode cX3_workedOut 227 = .ok (.iload_n 3, 1) := by decide +kernel
theorem dX3_workedOut_228 : decode cX3_workedOut 228 = .ok (.iconst 1, 1) := by decide +kernel
theorem dX3_workedOut_229 : decode cX3_workedOut 229 = .ok (.isub, 1) := by decide +kernel
theorem dX3_workedOut_230 : decode cX3_workedOut 230 = .ok (.iaload, 1) := by decide +kernel
theorem dX3_workedOut_231 : decode cX3_workedOut 231 = .ok (.goto 4, 3) := by decide +kernel
theorem dX3_workedOut_234 : decode cX3_workedOut 234 = .ok (.iconst 0, 1) := by decide +kernel
theorem dX3_workedOut_235 : decode cX3_workedOut 235 = .ok (.ireturn, 1) := by decide +kernel
theorem dX3_joined_0 : decode cX3_joined 0 = .ok (.iload_n 0, 1) := by decide +kernel
theorem dX3_joined_1 : decode cX3_joined 1 = .ok (.lookupswitch 188 #[(37, 176), (38, 105), (42, 160), (43, 152), (45, 156), (47, 164), (60, 119), (61, 130), (62, 141), (124, 91)], 91) := by decide +kernel
theorem dX3_joined_92 : decode cX3_joined 92 = .ok (.iload_n 1, 1) := by decide +kernel
theorem dX3_joined_93 : decode cX3_joined 93 = .ok (.ifCond .ne 7, 3) := by decide +kernel
theorem dX3_joined_96 : decode cX3_joined 96 = .ok (.iload_n 2, 1) := by decide +kernel
theorem dX3_joined_97 : decode cX3_joined 97 = .ok (.ifCond .eq 7, 3) := by decide +kernel
theorem dX3_joined_100 : decode cX3_joined 100 = .ok (.iconst 1, 1) := by decide +kernel
theorem dX3_joined_101 : decode cX3_joined 101 = .ok (.goto 4, 3) := by decide +kernel
theorem dX3_joined_104 : decode cX3_joined 104 = .ok (.iconst 0, 1) := by decide +kernel
theorem dX3_joined_105 : decode cX3_joined 105 = .ok (.ireturn, 1) := by decide +kernel
theorem dX3_joined_106 : decode cX3_joined 106 = .ok (.iload_n 1, 1) := by decide +kernel
theorem dX3_joined_107 : decode cX3_joined 107 = .ok (.ifCond .eq 11, 3) := by decide +kernel
theorem dX3_joined_110 : decode cX3_joined 110 = .ok (.iload_n 2, 1) := by decide +kernel
theorem dX3_joined_111 : decode cX3_joined 111 = .ok (.ifCond .eq 7, 3) := by decide +kernel
theorem dX3_joined_114 : decode cX3_joined 114 = .ok (.iconst 1, 1) := by decide +kernel
theorem dX3_joined_115 : decode cX3_joined 115 = .ok (.goto 4, 3) := by decide +kernel
theorem dX3_joined_118 : decode cX3_joined 118 = .ok (.iconst 0, 1) := by decide +kernel
theorem dX3_joined_119 : decode cX3_joined 119 = .ok (.ireturn, 1) := by decide +kernel
theorem dX3_joined_120 : decode cX3_joined 120 = .ok (.iload_n 1, 1) := by decide +kernel
theorem dX3_joined_121 : decode cX3_joined 121 = .ok (.iload_n 2, 1) := by decide +kernel
theorem dX3_joined_122 : decode cX3_joined 122 = .ok (.if_icmp .ge 7, 3) := by decide +kernel
theorem dX3_joined_125 : decode cX3_joined 125 = .ok (.iconst 1, 1) := by decide +kernel
theorem dX3_joined_126 : decode cX3_joined 126 = .ok (.goto 4, 3) := by decide +kernel
theorem dX3_joined_129 : decode cX3_joined 129 = .ok (.iconst 0, 1) := by decide +kernel
theorem dX3_joined_130 : decode cX3_joined 130 = .ok (.ireturn, 1) := by decide +kernel
theorem dX3_joined_131 : decode cX3_joined 131 = .ok (.iload_n 1, 1) := by decide +kernel
theorem dX3_joined_132 : decode cX3_joined 132 = .ok (.iload_n 2, 1) := by decide +kernel
theorem dX3_joined_133 : decode cX3_joined 133 = .ok (.if_icmp .ne 7, 3) := by decide +kernel
theorem dX3_joined_136 : decode cX3_joined 136 = .ok (.iconst 1, 1) := by decide +kernel
theorem dX3_joined_137 : decode cX3_joined 137 = .ok (.goto 4, 3) := by decide +kernel
theorem dX3_joined_140 : decode cX3_joined 140 = .ok (.iconst 0, 1) := by decide +kernel
theorem dX3_joined_141 : decode cX3_joined 141 = .ok (.ireturn, 1) := by decide +kernel
theorem dX3_joined_142 : decode cX3_joined 142 = .ok (.iload_n 1, 1) := by decide +kernel
theorem dX3_joined_143 : decode cX3_joined 143 = .ok (.iload_n 2, 1) := by decide +kernel
theorem dX3_joined_144 : decode cX3_joined 144 = .ok (.if_icmp .le 7, 3) := by decide +kernel
theorem dX3_joined_147 : decode cX3_joined 147 = .ok (.iconst 1, 1) := by decide +kernel
theorem dX3_joined_148 : decode cX3_joined 148 = .ok (.goto 4, 3) := by decide +kernel
theorem dX3_joined_151 : decode cX3_joined 151 = .ok (.iconst 0, 1) := by decide +kernel
theorem dX3_joined_152 : decode cX3_joined 152 = .ok (.ireturn, 1) := by decide +kernel
theorem dX3_joined_153 : decode cX3_joined 153 = .ok (.iload_n 1, 1) := by decide +kernel
theorem dX3_joined_154 : decode cX3_joined 154 = .ok (.iload_n 2, 1) := by decide +kernel
theorem dX3_joined_155 : decode cX3_joined 155 = .ok (.iadd, 1) := by decide +kernel
theorem dX3_joined_156 : decode cX3_joined 156 = .ok (.ireturn, 1) := by decide +kernel
theorem dX3_joined_157 : decode cX3_joined 157 = .ok (.iload_n 1, 1) := by decide +kernel
theorem dX3_joined_158 : decode cX3_joined 158 = .ok (.iload_n 2, 1) := by decide +kernel
theorem dX3_joined_159 : decode cX3_joined 159 = .ok (.isub, 1) := by decide +kernel
theorem dX3_joined_160 : decode cX3_joined 160 = .ok (.ireturn, 1) := by decide +kernel
theorem dX3_joined_161 : decode cX3_joined 161 = .ok (.iload_n 1, 1) := by decide +kernel
theorem dX3_joined_162 : decode cX3_joined 162 = .ok (.iload_n 2, 1) := by decide +kernel
theorem dX3_joined_163 : decode cX3_joined 163 = .ok (.imul, 1) := by decide +kernel
theorem dX3_joined_164 : decode cX3_joined 164 = .ok (.ireturn, 1) := by decide +kernel
theorem dX3_joined_165 : decode cX3_joined 165 = .ok (.iload_n 2, 1) := by decide +kernel
theorem dX3_joined_166 : decode cX3_joined 166 = .ok (.ifCond .ne 7, 3) := by decide +kernel
theorem dX3_joined_169 : decode cX3_joined 169 = .ok (.iconst 0, 1) := by decide +kernel
theorem dX3_joined_170 : decode cX3_joined 170 = .ok (.goto 6, 3) := by decide +kernel
theorem dX3_joined_173 : decode cX3_joined 173 = .ok (.iload_n 1, 1) := by decide +kernel
theorem dX3_joined_174 : decode cX3_joined 174 = .ok (.iload_n 2, 1) := by decide +kernel
theorem dX3_joined_175 : decode cX3_joined 175 = .ok (.idiv, 1) := by decide +kernel
theorem dX3_joined_176 : decode cX3_joined 176 = .ok (.ireturn, 1) := by decide +kernel
theorem dX3_joined_177 : decode cX3_joined 177 = .ok (.iload_n 2, 1) := by decide +kernel
theorem dX3_joined_178 : decode cX3_joined 178 = .ok (.ifCond .ne 7, 3) := by decide +kernel
theorem dX3_joined_181 : decode cX3_joined 181 = .ok (.iconst 0, 1) := by decide +kernel
theorem dX3_joined_182 : decode cX3_joined 182 = .ok (.goto 6, 3) := by decide +kernel
theorem dX3_joined_185 : decode cX3_joined 185 = .ok (.iload_n 1, 1) := by decide +kernel
theorem dX3_joined_186 : decode cX3_joined 186 = .ok (.iload_n 2, 1) := by decide +kernel
theorem dX3_joined_187 : decode cX3_joined 187 = .ok (.irem, 1) := by decide +kernel
theorem dX3_joined_188 : decode cX3_joined 188 = .ok (.ireturn, 1) := by decide +kernel
theorem dX3_joined_189 : decode cX3_joined 189 = .ok (.iconst 0, 1) := by decide +kernel
theorem dX3_joined_190 : decode cX3_joined 190 = .ok (.ireturn, 1) := by decide +kernel
theorem dX4_init_0 : decode cX4_init 0 = .ok (.aload_n 0, 1) := by decide +kernel
theorem dX4_init_1 : decode cX4_init 1 = .ok (.invokespecial 3, 3) := by decide +kernel
theorem dX4_init_4 : decode cX4_init 4 = .ok (.aload_n 0, 1) := by decide +kernel
theorem dX4_init_5 : decode cX4_init 5 = .ok (.bipush 120, 2) := by decide +kernel
theorem dX4_init_7 : decode cX4_init 7 = .ok (.newarray .int, 2) := by decide +kernel
theorem dX4_init_9 : decode cX4_init 9 = .ok (.putfield 11, 3) := by decide +kernel
theorem dX4_init_12 : decode cX4_init 12 = .ok (.aload_n 0, 1) := by decide +kernel
theorem dX4_init_13 : decode cX4_init 13 = .ok (.iconst 0, 1) := by decide +kernel
theorem dX4_init_14 : decode cX4_init 14 = .ok (.putfield 17, 3) := by decide +kernel
theorem dX4_init_17 : decode cX4_init 17 = .ok (.aload_n 0, 1) := by decide +kernel
theorem dX4_init_18 : decode cX4_init 18 = .ok (.bipush 120, 2) := by decide +kernel
theorem dX4_init_20 : decode cX4_init 20 = .ok (.newarray .int, 2) := by decide +kernel
theorem dX4_init_22 : decode cX4_init 22 = .ok (.putfield 21, 3) := by decide +kernel
theorem dX4_init_25 : decode cX4_init 25 = .ok (.aload_n 0, 1) := by decide +kernel
theorem dX4_init_26 : decode cX4_init 26 = .ok (.iconst 0, 1) := by decide +kernel
theorem dX4_init_27 : decode cX4_init 27 = .ok (.putfield 24, 3) := by decide +kernel
theorem dX4_init_30 : decode cX4_init 30 = .ok (.aload_n 0, 1) := by decide +kernel
theorem dX4_init_31 : decode cX4_init 31 = .ok (.iconst 0, 1) := by decide +kernel
theorem dX4_init_32 : decode cX4_init 32 = .ok (.putfield 27, 3) := by decide +kernel
theorem dX4_init_35 : decode cX4_init 35 = .ok (.aload_n 0, 1) := by decide +kernel
theorem dX4_init_36 : decode cX4_init 36 = .ok (.iconst 1, 1) := by decide +kernel
theorem dX4_init_37 : decode cX4_init 37 = .ok (.putfield 30, 3) := by decide +kernel
theorem dX4_init_40 : decode cX4_init 40 = .ok (.aload_n 0, 1) := by decide +kernel
theorem dX4_init_41 : decode cX4_init 41 = .ok (.iconst 0, 1) := by decide +kernel
theorem dX4_init_42 : decode cX4_init 42 = .ok (.putfield 34, 3) := by decide +kernel
theorem dX4_init_45 : decode cX4_init 45 = .ok (.return_, 1) := by decide +kernel
theorem dX4_tapeLength_0 : decode cX4_tapeLength 0 = .ok (.aload_n 0, 1) := by decide +kernel
theorem dX4_tapeLength_1 : decode cX4_tapeLength 1 = .ok (.getfield 17, 3) := by decide +kernel
theorem dX4_tapeLength_4 : decode cX4_tapeLength 4 = .ok (.ireturn, 1) := by decide +kernel
theorem dX4_feedLetter_0 : decode cX4_feedLetter 0 = .ok (.aload_n 0, 1) := by decide +kernel
theorem dX4_feedLetter_1 : decode cX4_feedLetter 1 = .ok (.getfield 17, 3) := by decide +kernel
theorem dX4_feedLetter_4 : decode cX4_feedLetter 4 = .ok (.bipush 120, 2) := by decide +kernel
theorem dX4_feedLetter_6 : decode cX4_feedLetter 6 = .ok (.if_icmp .lt 6, 3) := by decide +kernel
theorem dX4_feedLetter_9 : decode cX4_feedLetter 9 = .ok (.bipush (-3), 2) := by decide +kernel
theorem dX4_feedLetter_11 : decode cX4_feedLetter 11 = .ok (.ireturn, 1) := by decide +kernel
theorem dX4_feedLetter_12 : decode cX4_feedLetter 12 = .ok (.aload_n 0, 1) := by decide +kernel
theorem dX4_feedLetter_13 : decode cX4_feedLetter 13 = .ok (.getfield 11, 3) := by decide +kernel
theorem dX4_feedLetter_16 : decode cX4_feedLetter 16 = .ok (.aload_n 0, 1) := by decide +kernel
theorem dX4_feedLetter_17 : decode cX4_feedLetter 17 = .ok (.getfield 17, 3) := by decide +kernel
theorem dX4_feedLetter_20 : decode cX4_feedLetter 20 = .ok (.iload_n 1, 1) := by decide +kernel
theorem dX4_feedLetter_21 : decode cX4_feedLetter 21 = .ok (.iastore, 1) := by decide +kernel
theorem dX4_feedLetter_22 : decode cX4_feedLetter 22 = .ok (.aload_n 0, 1) := by decide +kernel
theorem dX4_feedLetter_23 : decode cX4_feedLetter 23 = .ok (.dup, 1) := by decide +kernel
theorem dX4_feedLetter_24 : decode cX4_feedLetter 24 = .ok (.getfield 17, 3) := by decide +kernel
theorem dX4_feedLetter_27 : decode cX4_feedLetter 27 = .ok (.iconst 1, 1) := by decide +kernel
theorem dX4_feedLetter_28 : decode cX4_feedLetter 28 = .ok (.iadd, 1) := by decide +kernel
theorem dX4_feedLetter_29 : decode cX4_feedLetter 29 = .ok (.putfield 17, 3) := by decide +kernel
theorem dX4_feedLetter_32 : decode cX4_feedLetter 32 = .ok (.aload_n 0, 1) := by decide +kernel
theorem dX4_feedLetter_33 : decode cX4_feedLetter 33 = .ok (.getfield 17, 3) := by decide +kernel
theorem dX4_feedLetter_36 : decode cX4_feedLetter 36 = .ok (.ireturn, 1) := by decide +kernel
theorem dX4_clearTape_0 : decode cX4_clearTape 0 = .ok (.aload_n 0, 1) := by decide +kernel
theorem dX4_clearTape_1 : decode cX4_clearTape 1 = .ok (.iconst 0, 1) := by decide +kernel
theorem dX4_clearTape_2 : decode cX4_clearTape 2 = .ok (.putfield 17, 3) := by decide +kernel
theorem dX4_clearTape_5 : decode cX4_clearTape 5 = .ok (.return_, 1) := by decide +kernel
theorem dX4_readInto_0 : decode cX4_readInto 0 = .ok (.aload_n 1, 1) := by decide +kernel
theorem dX4_readInto_1 : decode cX4_readInto 1 = .ok (.invokevirtual 37, 3) := by decide +kernel
theorem dX4_readInto_4 : decode cX4_readInto 4 = .ok (.aload_n 0, 1) := by decide +kernel
theorem dX4_readInto_5 : decode cX4_readInto 5 = .ok (.iconst 0, 1) := by decide +kernel
theorem dX4_readInto_6 : decode cX4_readInto 6 = .ok (.putfield 24, 3) := by decide +kernel
theorem dX4_readInto_9 : decode cX4_readInto 9 = .ok (.aload_n 0, 1) := by decide +kernel
theorem dX4_readInto_10 : decode cX4_readInto 10 = .ok (.iconst 0, 1) := by decide +kernel
theorem dX4_readInto_11 : decode cX4_readInto 11 = .ok (.putfield 27, 3) := by decide +kernel
theorem dX4_readInto_14 : decode cX4_readInto 14 = .ok (.aload_n 0, 1) := by decide +kernel
theorem dX4_readInto_15 : decode cX4_readInto 15 = .ok (.iconst 1, 1) := by decide +kernel
theorem dX4_readInto_16 : decode cX4_readInto 16 = .ok (.putfield 30, 3) := by decide +kernel
theorem dX4_readInto_19 : decode cX4_readInto 19 = .ok (.aload_n 0, 1) := by decide +kernel
theorem dX4_readInto_20 : decode cX4_readInto 20 = .ok (.iconst 0, 1) := by decide +kernel
theorem dX4_readInto_21 : decode cX4_readInto 21 = .ok (.putfield 34, 3) := by decide +kernel
theorem dX4_readInto_24 : decode cX4_readInto 24 = .ok (.iconst 0, 1) := by decide +kernel
theorem dX4_readInto_25 : decode cX4_readInto 25 = .ok (.istore_n 2, 1) := by decide +kernel
theorem dX4_readInto_26 : decode cX4_readInto 26 = .ok (.iload_n 2, 1) := by decide +kernel
theorem dX4_readInto_27 : decode cX4_readInto 27 = .ok (.aload_n 0, 1) := by decide +kernel
theorem dX4_readInto_28 : decode cX4_readInto 28 = .ok (.getfield 17, 3) := by decide +kernel
theorem dX4_readInto_31 : decode cX4_readInto 31 = .ok (.if_icmp .ge 40, 3) := by decide +kernel
theorem dX4_readInto_34 : decode cX4_readInto 34 = .ok (.aload_n 0, 1) := by decide +kernel
theorem dX4_readInto_35 : decode cX4_readInto 35 = .ok (.getfield 30, 3) := by decide +kernel
theorem dX4_readInto_38 : decode cX4_readInto 38 = .ok (.ifCond .eq 12, 3) := by decide +kernel
theorem dX4_readInto_41 : decode cX4_readInto 41 = .ok (.aload_n 0, 1) := by decide +kernel
theorem dX4_readInto_42 : decode cX4_readInto 42 = .ok (.iload_n 2, 1) := by decide +kernel
theorem dX4_readInto_43 : decode cX4_readInto 43 = .ok (.aload_n 1, 1) := by decide +kernel
theorem dX4_readInto_44 : decode cX4_readInto 44 = .ok (.invokevirtual 40, 3) := by decide +kernel
theorem dX4_readInto_47 : decode cX4_readInto 47 = .ok (.goto 9, 3) := by decide +kernel
theorem dX4_readInto_50 : decode cX4_readInto 50 = .ok (.aload_n 0, 1) := by decide +kernel
theorem dX4_readInto_51 : decode cX4_readInto 51 = .ok (.iload_n 2, 1) := by decide +kernel
theorem dX4_readInto_52 : decode cX4_readInto 52 = .ok (.aload_n 1, 1) := by decide +kernel
theorem dX4_readInto_53 : decode cX4_readInto 53 = .ok (.invokevirtual 44, 3) := by decide +kernel
theorem dX4_readInto_56 : decode cX4_readInto 56 = .ok (.istore_n 3, 1) := by decide +kernel
theorem dX4_readInto_57 : decode cX4_readInto 57 = .ok (.iload_n 3, 1) := by decide +kernel
theorem dX4_readInto_58 : decode cX4_readInto 58 = .ok (.iconst 1, 1) := by decide +kernel
theorem dX4_readInto_59 : decode cX4_readInto 59 = .ok (.if_icmp .ge 5, 3) := by decide +kernel
theorem dX4_readInto_62 : decode cX4_readInto 62 = .ok (.iload_n 2, 1) := by decide +kernel
theorem dX4_readInto_63 : decode cX4_readInto 63 = .ok (.ireturn, 1) := by decide +kernel
theorem dX4_readInto_64 : decode cX4_readInto 64 = .ok (.iload_n 2, 1) := by decide +kernel
theorem dX4_readInto_65 : decode cX4_readInto 65 = .ok (.iload_n 3, 1) := by decide +kernel
theorem dX4_readInto_66 : decode cX4_readInto 66 = .ok (.iadd, 1) := by decide +kernel
theorem dX4_readInto_67 : decode cX4_readInto 67 = .ok (.istore_n 2, 1) := by decide +kernel
theorem dX4_readInto_68 : decode cX4_readInto 68 = .ok (.goto (-42), 3) := by decide +kernel
theorem dX4_readInto_71 : decode cX4_readInto 71 = .ok (.aload_n 0, 1) := by decide +kernel
theorem dX4_readInto_72 : decode cX4_readInto 72 = .ok (.getfield 30, 3) := by decide +kernel
theorem dX4_readInto_75 : decode cX4_readInto 75 = .ok (.ifCond .ne 10, 3) := by decide +kernel
theorem dX4_readInto_78 : decode cX4_readInto 78 = .ok (.aload_n 0, 1) := by decide +kernel
theorem dX4_readInto_79 : decode cX4_readInto 79 = .ok (.getfield 27, 3) := by decide +kernel
theorem dX4_readInto_82 : decode cX4_readInto 82 = .ok (.ifCond .le 8, 3) := by decide +kernel
theorem dX4_readInto_85 : decode cX4_readInto 85 = .ok (.aload_n 0, 1) := by decide +kernel
theorem dX4_readInto_86 : decode cX4_readInto 86 = .ok (.getfield 17, 3) := by decide +kernel
theorem dX4_readInto_89 : decode cX4_readInto 89 = .ok (.ireturn, 1) := by decide +kernel
theorem dX4_readInto_90 : decode cX4_readInto 90 = .ok (.aload_n 0, 1) := by decide +kernel
theorem dX4_readInto_91 : decode cX4_readInto 91 = .ok (.iconst 1, 1) := by decide +kernel
theorem dX4_readInto_92 : decode cX4_readInto 92 = .ok (.aload_n 1, 1) := by decide +kernel
theorem dX4_readInto_93 : decode cX4_readInto 93 = .ok (.invokevirtual 47, 3) := by decide +kernel
theorem dX4_readInto_96 : decode cX4_readInto 96 = .ok (.aload_n 1, 1) := by decide +kernel
theorem dX4_readInto_97 : decode cX4_readInto 97 = .ok (.invokevirtual 51, 3) := by decide +kernel
theorem dX4_readInto_100 : decode cX4_readInto 100 = .ok (.iconst (-1), 1) := by decide +kernel
theorem dX4_readInto_101 : decode cX4_readInto 101 = .ok (.ireturn, 1) := by decide +kernel
theorem dX4_letterAt_0 : decode cX4_letterAt 0 = .ok (.iload_n 1, 1) := by decide +kernel
theorem dX4_letterAt_1 : decode cX4_letterAt 1 = .ok (.ifCond .lt 20, 3) := by decide +kernel
theorem dX4_letterAt_4 : decode cX4_letterAt 4 = .ok (.iload_n 1, 1) := by decide +kernel
theorem dX4_letterAt_5 : decode cX4_letterAt 5 = .ok (.aload_n 0, 1) := by decide +kernel
theorem dX4_letterAt_6 : decode cX4_letterAt 6 = .ok (.getfield 17, 3) := by decide +kernel
theorem dX4_letterAt_9 : decode cX4_letterAt 9 = .ok (.if_icmp .ge 12, 3) := by decide +kernel
theorem dX4_letterAt_12 : decode cX4_letterAt 12 = .ok (.aload_n 0, 1) := by decide +kernel
theorem dX4_letterAt_13 : decode cX4_letterAt 13 = .ok (.getfield 11, 3) := by decide +kernel
theorem dX4_letterAt_16 : decode cX4_letterAt 16 = .ok (.iload_n 1, 1) := by decide +kernel
theorem dX4_letterAt_17 : decode cX4_letterAt 17 = .ok (.iaload, 1) := by decide +kernel
theorem dX4_letterAt_18 : decode cX4_letterAt 18 = .ok (.goto 4, 3) := by decide +kernel
theorem dX4_letterAt_21 : decode cX4_letterAt 21 = .ok (.iconst (-1), 1) := by decide +kernel
theorem dX4_letterAt_22 : decode cX4_letterAt 22 = .ok (.ireturn, 1) := by decide +kernel
theorem dX4_isDigit_0 : decode cX4_isDigit 0 = .ok (.iload_n 0, 1) := by decide +kernel
theorem dX4_isDigit_1 : decode cX4_isDigit 1 = .ok (.bipush 48, 2) := by decide +kernel
theorem dX4_isDigit_3 : decode cX4_isDigit 3 = .ok (.if_icmp .lt 13, 3) := by decide +kernel
theorem dX4_isDigit_6 : decode cX4_isDigit 6 = .ok (.iload_n 0, 1) := by decide +kernel
theorem dX4_isDigit_7 : decode cX4_isDigit 7 = .ok (.bipush 57, 2) := by decide +kernel
theorem dX4_isDigit_9 : decode cX4_isDigit 9 = .ok (.if_icmp .gt 7, 3) := by decide +kernel
theorem dX4_isDigit_12 : decode cX4_isDigit 12 = .ok (.iconst 1, 1) := by decide +kernel
theorem dX4_isDigit_13 : decode cX4_isDigit 13 = .ok (.goto 4, 3) := by decide +kernel
theorem dX4_isDigit_16 : decode cX4_isDigit 16 = .ok (.iconst 0, 1) := by decide +kernel
theorem dX4_isDigit_17 : decode cX4_isDigit 17 = .ok (.ireturn, 1) := by decide +kernel
theorem dX4_operandAt_0 : decode cX4_operandAt 0 = .ok (.aload_n 0, 1) := by decide +kernel
theorem dX4_operandAt_1 : decode cX4_operandAt 1 = .ok (.iload_n 1, 1) := by decide +kernel
theorem dX4_operandAt_2 : decode cX4_operandAt 2 = .ok (.invokevirtual 54, 3) := by decide +kernel
theorem dX4_operandAt_5 : decode cX4_operandAt 5 = .ok (.istore_n 3, 1) := by decide +kernel
theorem dX4_operandAt_6 : decode cX4_operandAt 6 = .ok (.ldc 58, 2) := by decide +kernel
theorem dX4_operandAt_8 : decode cX4_operandAt 8 = .ok (.iload_n 3, 1) := by decide +kernel
theorem dX4_operandAt_9 : decode cX4_operandAt 9 = .ok (.i2c, 1) := by decide +kernel
theorem dX4_operandAt_10 : decode cX4_operandAt 10 = .ok (.invokevirtual 60, 3) := by decide +kernel
theorem dX4_operandAt_13 : decode cX4_operandAt 13 = .ok (.istore 4, 2) := by decide +kernel
theorem dX4_operandAt_15 : decode cX4_operandAt 15 = .ok (.iload_n 3, 1) := by decide +kernel
theorem dX4_operandAt_16 : decode cX4_operandAt 16 = .ok (.invokestatic 65, 3) := by decide +kernel
theorem dX4_operandAt_19 : decode cX4_operandAt 19 = .ok (.ifCond .eq 10, 3) := by decide +kernel
theorem dX4_operandAt_22 : decode cX4_operandAt 22 = .ok (.aload_n 0, 1) := by decide +kernel
theorem dX4_operandAt_23 : decode cX4_operandAt 23 = .ok (.iload_n 1, 1) := by decide +kernel
theorem dX4_operandAt_24 : decode cX4_operandAt 24 = .ok (.aload_n 2, 1) := by decide +kernel
theorem dX4_operandAt_25 : decode cX4_operandAt 25 = .ok (.invokevirtual 69, 3) := by decide +kernel
theorem dX4_operandAt_28 : decode cX4_operandAt 28 = .ok (.ireturn, 1) := by decide +kernel
theorem dX4_operandAt_29 : decode cX4_operandAt 29 = .ok (.iload 4, 2) := by decide +kernel
theorem dX4_operandAt_31 : decode cX4_operandAt 31 = .ok (.ifCond .lt 17, 3) := by decide +kernel
theorem dX4_operandAt_34 : decode cX4_operandAt 34 = .ok (.aload_n 2, 1) := by decide +kernel
theorem dX4_operandAt_35 : decode cX4_operandAt 35 = .ok (.iconst 2, 1) := by decide +kernel
theorem dX4_operandAt_36 : decode cX4_operandAt 36 = .ok (.iload 4, 2) := by decide +kernel
theorem dX4_operandAt_38 : decode cX4_operandAt 38 = .ok (.invokevirtual 72, 3) := by decide +kernel
theorem dX4_operandAt_41 : decode cX4_operandAt 41 = .ok (.aload_n 0, 1) := by decide +kernel
theorem dX4_operandAt_42 : decode cX4_operandAt 42 = .ok (.aload_n 2, 1) := by decide +kernel
theorem dX4_operandAt_43 : decode cX4_operandAt 43 = .ok (.invokevirtual 76, 3) := by decide +kernel
theorem dX4_operandAt_46 : decode cX4_operandAt 46 = .ok (.iconst 1, 1) := by decide +kernel
theorem dX4_operandAt_47 : decode cX4_operandAt 47 = .ok (.ireturn, 1) := by decide +kernel
theorem dX4_operandAt_48 : decode cX4_operandAt 48 = .ok (.iload_n 3, 1) := by decide +kernel
theorem dX4_operandAt_49 : decode cX4_operandAt 49 = .ok (.bipush 40, 2) := by decide +kernel
theorem dX4_operandAt_51 : decode cX4_operandAt 51 = .ok (.if_icmp .eq 15, 3) := by decide +kernel
theorem dX4_operandAt_54 : decode cX4_operandAt 54 = .ok (.iload_n 3, 1) := by decide +kernel
theorem dX4_operandAt_55 : decode cX4_operandAt 55 = .ok (.bipush 33, 2) := by decide +kernel
theorem dX4_operandAt_57 : decode cX4_operandAt 57 = .ok (.if_icmp .eq 9, 3) := by decide +kernel
theorem dX4_operandAt_60 : decode cX4_operandAt 60 = .ok (.iload_n 3, 1) := by decide +kernel
theorem dX4_operandAt_61 : decode cX4_operandAt 61 = .ok (.bipush 45, 2) := by decide +kernel
theorem dX4_operandAt_63 : decode cX4_operandAt 63 = .ok (.if_icmp .ne 39, 3) := by decide +kernel
theorem dX4_operandAt_66 : decode cX4_operandAt 66 = .ok (.aload_n 0, 1) := by decide +kernel
theorem dX4_operandAt_67 : decode cX4_operandAt 67 = .ok (.getfield 27, 3) := by decide +kernel
theorem dX4_operandAt_70 : decode cX4_operandAt 70 = .ok (.bipush 6, 2) := by decide +kernel
theorem dX4_operandAt_72 : decode cX4_operandAt 72 = .ok (.if_icmp .ge 30, 3) := by decide +kernel
theorem dX4_operandAt_75 : decode cX4_operandAt 75 = .ok (.aload_n 0, 1) := by decide +kernel
theorem dX4_operandAt_76 : decode cX4_operandAt 76 = .ok (.dup, 1) := by decide +kernel
theorem dX4_operandAt_77 : decode cX4_operandAt 77 = .ok (.getfield 27, 3) := by decide +kernel
theorem dX4_operandAt_80 : decode cX4_operandAt 80 = .ok (.iconst 1, 1) := by decide +kernel
theorem dX4_operandAt_81 : decode cX4_operandAt 81 = .ok (.iadd, 1) := by decide +kernel
theorem dX4_operandAt_82 : decode cX4_operandAt 82 = .ok (.putfield 27, 3) := by decide +kernel
theorem dX4_operandAt_85 : decode cX4_operandAt 85 = .ok (.aload_n 0, 1) := by decide +kernel
theorem dX4_operandAt_86 : decode cX4_operandAt 86 = .ok (.iload_n 3, 1) := by decide +kernel
theorem dX4_operandAt_87 : decode cX4_operandAt 87 = .ok (.bipush 45, 2) := by decide +kernel
theorem dX4_operandAt_89 : decode cX4_operandAt 89 = .ok (.if_icmp .ne 7, 3) := by decide +kernel
theorem dX4_operandAt_92 : decode cX4_operandAt 92 = .ok (.iconst 3, 1) := by decide +kernel
theorem dX4_operandAt_93 : decode cX4_operandAt 93 = .ok (.goto 4, 3) := by decide +kernel
theorem dX4_operandAt_96 : decode cX4_operandAt 96 = .ok (.iload_n 3, 1) := by decide +kernel
theorem dX4_operandAt_97 : decode cX4_operandAt 97 = .ok (.invokevirtual 80, 3) := by decide +kernel
theorem dX4_operandAt_100 : decode cX4_operandAt 100 = .ok (.iconst 1, 1) := by decide +kernel
theorem dX4_operandAt_101 : decode cX4_operandAt 101 = .ok (.ireturn, 1) := by decide +kernel
theorem dX4_operandAt_102 : decode cX4_operandAt 102 = .ok (.iconst 0, 1) := by decide +kernel
theorem dX4_operandAt_103 : decode cX4_operandAt 103 = .ok (.ireturn, 1) := by decide +kernel
theorem dX4_numberAt_0 : decode cX4_numberAt 0 = .ok (.iconst 0, 1) := by decide +kernel
theorem dX4_numberAt_1 : decode cX4_numberAt 1 = .ok (.istore_n 3, 1) := by decide +kernel
theorem dX4_numberAt_2 : decode cX4_numberAt 2 = .ok (.iconst 0, 1) := by decide +kernel
theorem dX4_numberAt_3 : decode cX4_numberAt 3 = .ok (.istore 4, 2) := by decide +kernel
theorem dX4_numberAt_5 : decode cX4_numberAt 5 = .ok (.iload 4, 2) := by decide +kernel
theorem dX4_numberAt_7 : decode cX4_numberAt 7 = .ok (.iconst 4, 1) := by decide +kernel
theorem dX4_numberAt_8 : decode cX4_numberAt 8 = .ok (.if_icmp .ge 40, 3) := by decide +kernel
theorem dX4_numberAt_11 : decode cX4_numberAt 11 = .ok (.aload_n 0, 1) := by decide +kernel
theorem dX4_numberAt_12 : decode cX4_numberAt 12 = .ok (.iload_n 1, 1) := by decide +kernel
theorem dX4_numberAt_13 : decode cX4_numberAt 13 = .ok (.iload 4, 2) := by decide +kernel
theorem dX4_numberAt_15 : decode cX4_numberAt 15 = .ok (.iadd, 1) := by decide +kernel
theorem dX4_numberAt_16 : decode cX4_numberAt 16 = .ok (.invokevirtual 54, 3) := by decide +kernel
theorem dX4_numberAt_19 : decode cX4_numberAt 19 = .ok (.invokestatic 65, 3) := by decide +kernel
theorem dX4_numberAt_22 : decode cX4_numberAt 22 = .ok (.ifCond .eq 26, 3) := by decide +kernel
theorem dX4_numberAt_25 : decode cX4_numberAt 25 = .ok (.iload_n 3, 1) := by decide +kernel
theorem dX4_numberAt_26 : decode cX4_numberAt 26 = .ok (.bipush 10, 2) := by decide +kernel
theorem dX4_numberAt_28 : decode cX4_numberAt 28 = .ok (.imul, 1) := by decide +kernel
theorem dX4_numberAt_29 : decode cX4_numberAt 29 = .ok (.aload_n 0, 1) := by decide +kernel
theorem dX4_numberAt_30 : decode cX4_numberAt 30 = .ok (.iload_n 1, 1) := by decide +kernel
theorem dX4_numberAt_31 : decode cX4_numberAt 31 = .ok (.iload 4, 2) := by decide +kernel
theorem dX4_numberAt_33 : decode cX4_numberAt 33 = .ok (.iadd, 1) := by decide +kernel
theorem dX4_numberAt_34 : decode cX4_numberAt 34 = .ok (.invokevirtual 54, 3) := by decide +kernel
theorem dX4_numberAt_37 : decode cX4_numberAt 37 = .ok (.iadd, 1) := by decide +kernel
theorem dX4_numberAt_38 : decode cX4_numberAt 38 = .ok (.bipush 48, 2) := by decide +kernel
theorem dX4_numberAt_40 : decode cX4_numberAt 40 = .ok (.isub, 1) := by decide +kernel
theorem dX4_numberAt_41 : decode cX4_numberAt 41 = .ok (.istore_n 3, 1) := by decide +kernel
theorem dX4_numberAt_42 : decode cX4_numberAt 42 = .ok (.iinc 4 1, 3) := by decide +kernel
theorem dX4_numberAt_45 : decode cX4_numberAt 45 = .ok (.goto (-40), 3) := by decide +kernel
theorem dX4_numberAt_48 : decode cX4_numberAt 48 = .ok (.aload_n 2, 1) := by decide +kernel
theorem dX4_numberAt_49 : decode cX4_numberAt 49 = .ok (.iconst 1, 1) := by decide +kernel
theorem dX4_numberAt_50 : decode cX4_numberAt 50 = .ok (.iload_n 3, 1) := by decide +kernel
theorem dX4_numberAt_51 : decode cX4_numberAt 51 = .ok (.invokevirtual 72, 3) := by decide +kernel
theorem dX4_numberAt_54 : decode cX4_numberAt 54 = .ok (.aload_n 0, 1) := by decide +kernel
theorem dX4_numberAt_55 : decode cX4_numberAt 55 = .ok (.aload_n 2, 1) := by decide +kernel
theorem dX4_numberAt_56 : decode cX4_numberAt 56 = .ok (.invokevirtual 76, 3) := by decide +kernel
theorem dX4_numberAt_59 : decode cX4_numberAt 59 = .ok (.iload 4, 2) := by decide +kernel
theorem dX4_numberAt_61 : decode cX4_numberAt 61 = .ok (.ireturn, 1) := by decide +kernel
theorem dX4_endOperand_0 : decode cX4_endOperand 0 = .ok (.aload_n 0, 1) := by decide +kernel
theorem dX4_endOperand_1 : decode cX4_endOperand 1 = .ok (.iconst 0, 1) := by decide +kernel
theorem dX4_endOperand_2 : decode cX4_endOperand 2 = .ok (.putfield 30, 3) := by decide +kernel
theorem dX4_endOperand_5 : decode cX4_endOperand 5 = .ok (.aload_n 0, 1) := by decide +kernel
theorem dX4_endOperand_6 : decode cX4_endOperand 6 = .ok (.getfield 24, 3) := by decide +kernel
theorem dX4_endOperand_9 : decode cX4_endOperand 9 = .ok (.ifCond .le 71, 3) := by decide +kernel
theorem dX4_endOperand_12 : decode cX4_endOperand 12 = .ok (.aload_n 0, 1) := by decide +kernel
theorem dX4_endOperand_13 : decode cX4_endOperand 13 = .ok (.getfield 21, 3) := by decide +kernel
theorem dX4_endOperand_16 : decode cX4_endOperand 16 = .ok (.aload_n 0, 1) := by decide +kernel
theorem dX4_endOperand_17 : decode cX4_endOperand 17 = .ok (.getfield 24, 3) := by decide +kernel
theorem dX4_endOperand_20 : decode cX4_endOperand 20 = .ok (.iconst 1, 1) := by decide +kernel
theorem dX4_endOperand_21 : decode cX4_endOperand 21 = .ok (.isub, 1) := by decide +kernel
theorem dX4_endOperand_22 : decode cX4_endOperand 22 = .ok (.iaload, 1) := by decide +kernel
theorem dX4_endOperand_23 : decode cX4_endOperand 23 = .ok (.bipush 33, 2) := by decide +kernel
theorem dX4_endOperand_25 : decode cX4_endOperand 25 = .ok (.if_icmp .eq 18, 3) := by decide +kernel
theorem dX4_endOperand_28 : decode cX4_endOperand 28 = .ok (.aload_n 0, 1) := by decide +kernel
theorem dX4_endOperand_29 : decode cX4_endOperand 29 = .ok (.getfield 21, 3) := by decide +kernel
theorem dX4_endOperand_32 : decode cX4_endOperand 32 = .ok (.aload_n 0, 1) := by decide +kernel
theorem dX4_endOperand_33 : decode cX4_endOperand 33 = .ok (.getfield 24, 3) := by decide +kernel
theorem dX4_endOperand_36 : decode cX4_endOperand 36 = .ok (.iconst 1, 1) := by decide +kernel
theorem dX4_endOperand_37 : decode cX4_endOperand 37 = .ok (.isub, 1) := by decide +kernel
theorem dX4_endOperand_38 : decode cX4_endOperand 38 = .ok (.iaload, 1) := by decide +kernel
theorem dX4_endOperand_39 : decode cX4_endOperand 39 = .ok (.iconst 3, 1) := by decide +kernel
theorem dX4_endOperand_40 : decode cX4_endOperand 40 = .ok (.if_icmp .ne 40, 3) := by decide +kernel
theorem dX4_endOperand_43 : decode cX4_endOperand 43 = .ok (.aload_n 0, 1) := by decide +kernel
theorem dX4_endOperand_44 : decode cX4_endOperand 44 = .ok (.dup, 1) := by decide +kernel
theorem dX4_endOperand_45 : decode cX4_endOperand 45 = .ok (.getfield 24, 3) := by decide +kernel
theorem dX4_endOperand_48 : decode cX4_endOperand 48 = .ok (.iconst 1, 1) := by decide +kernel
theorem dX4_endOperand_49 : decode cX4_endOperand 49 = .ok (.isub, 1) := by decide +kernel
theorem dX4_endOperand_50 : decode cX4_endOperand 50 = .ok (.putfield 24, 3) := by decide +kernel
theorem dX4_endOperand_53 : decode cX4_endOperand 53 = .ok (.aload_n 1, 1) := by decide +kernel
theorem dX4_endOperand_54 : decode cX4_endOperand 54 = .ok (.aload_n 0, 1) := by decide +kernel
theorem dX4_endOperand_55 : decode cX4_endOperand 55 = .ok (.getfield 21, 3) := by decide +kernel
theorem dX4_endOperand_58 : decode cX4_endOperand 58 = .ok (.aload_n 0, 1) := by decide +kernel
theorem dX4_endOperand_59 : decode cX4_endOperand 59 = .ok (.getfield 24, 3) := by decide +kernel
theorem dX4_endOperand_62 : decode cX4_endOperand 62 = .ok (.iaload, 1) := by decide +kernel
theorem dX4_endOperand_63 : decode cX4_endOperand 63 = .ok (.iconst 0, 1) := by decide +kernel
theorem dX4_endOperand_64 : decode cX4_endOperand 64 = .ok (.invokevirtual 72, 3) := by decide +kernel
theorem dX4_endOperand_67 : decode cX4_endOperand 67 = .ok (.aload_n 0, 1) := by decide +kernel
theorem dX4_endOperand_68 : decode cX4_endOperand 68 = .ok (.dup, 1) := by decide +kernel
theorem dX4_endOperand_69 : decode cX4_endOperand 69 = .ok (.getfield 27, 3) := by decide +kernel
theorem dX4_endOperand_72 : decode cX4_endOperand 72 = .ok (.iconst 1, 1) := by decide +kernel
theorem dX4_endOperand_73 : decode cX4_endOperand 73 = .ok (.isub, 1) := by decide +kernel
theorem dX4_endOperand_74 : decode cX4_endOperand 74 = .ok (.putfield 27, 3) := by decide +kernel
theorem dX4_endOperand_77 : decode cX4_endOperand 77 = .ok (.goto (-72), 3) := by decide +kernel
theorem dX4_endOperand_80 : decode cX4_endOperand 80 = .ok (.return_, 1) := by decide +kernel
theorem dX4_signAt_0 : decode cX4_signAt 0 = .ok (.aload_n 0, 1) := by decide +kernel
theorem dX4_signAt_1 : decode cX4_signAt 1 = .ok (.iload_n 1, 1) := by decide +kernel
theorem dX4_signAt_2 : decode cX4_signAt 2 = .ok (.invokevirtual 54, 3) := by decide +kernel
theorem dX4_signAt_5 : decode cX4_signAt 5 = .ok (.istore_n 3, 1) := by decide +kernel
theorem dX4_signAt_6 : decode cX4_signAt 6 = .ok (.iload_n 3, 1) := by decide +kernel
theorem dX4_signAt_7 : decode cX4_signAt 7 = .ok (.invokestatic 84, 3) := by decide +kernel
theorem dX4_signAt_10 : decode cX4_signAt 10 = .ok (.ifCond .le 18, 3) := by decide +kernel
theorem dX4_signAt_13 : decode cX4_signAt 13 = .ok (.aload_n 0, 1) := by decide +kernel
theorem dX4_signAt_14 : decode cX4_signAt 14 = .ok (.iload_n 3, 1) := by decide +kernel
theorem dX4_signAt_15 : decode cX4_signAt 15 = .ok (.aload_n 2, 1) := by decide +kernel
theorem dX4_signAt_16 : decode cX4_signAt 16 = .ok (.invokevirtual 87, 3) := by decide +kernel
theorem dX4_signAt_19 : decode cX4_signAt 19 = .ok (.ifCond .eq 7, 3) := by decide +kernel
theorem dX4_signAt_22 : decode cX4_signAt 22 = .ok (.iconst 1, 1) := by decide +kernel
theorem dX4_signAt_23 : decode cX4_signAt 23 = .ok (.goto 4, 3) := by decide +kernel
theorem dX4_signAt_26 : decode cX4_signAt 26 = .ok (.iconst 0, 1) := by decide +kernel
theorem dX4_signAt_27 : decode cX4_signAt 27 = .ok (.ireturn, 1) := by decide +kernel
theorem dX4_signAt_28 : decode cX4_signAt 28 = .ok (.iload_n 3, 1) := by decide +kernel
theorem dX4_signAt_29 : decode cX4_signAt 29 = .ok (.bipush 41, 2) := by decide +kernel
theorem dX4_signAt_31 : decode cX4_signAt 31 = .ok (.if_icmp .ne 43, 3) := by decide +kernel
theorem dX4_signAt_34 : decode cX4_signAt 34 = .ok (.aload_n 0, 1) := by decide +kernel
theorem dX4_signAt_35 : decode cX4_signAt 35 = .ok (.getfield 27, 3) := by decide +kernel
theorem dX4_signAt_38 : decode cX4_signAt 38 = .ok (.ifCond .le 36, 3) := by decide +kernel
theorem dX4_signAt_41 : decode cX4_signAt 41 = .ok (.aload_n 0, 1) := by decide +kernel
theorem dX4_signAt_42 : decode cX4_signAt 42 = .ok (.iconst 1, 1) := by decide +kernel
theorem dX4_signAt_43 : decode cX4_signAt 43 = .ok (.aload_n 2, 1) := by decide +kernel
theorem dX4_signAt_44 : decode cX4_signAt 44 = .ok (.invokevirtual 47, 3) := by decide +kernel
theorem dX4_signAt_47 : decode cX4_signAt 47 = .ok (.aload_n 0, 1) := by decide +kernel
theorem dX4_signAt_48 : decode cX4_signAt 48 = .ok (.dup, 1) := by decide +kernel
theorem dX4_signAt_49 : decode cX4_signAt 49 = .ok (.getfield 24, 3) := by decide +kernel
theorem dX4_signAt_52 : decode cX4_signAt 52 = .ok (.iconst 1, 1) := by decide +kernel
theorem dX4_signAt_53 : decode cX4_signAt 53 = .ok (.isub, 1) := by decide +kernel
theorem dX4_signAt_54 : decode cX4_signAt 54 = .ok (.putfield 24, 3) := by decide +kernel
theorem dX4_signAt_57 : decode cX4_signAt 57 = .ok (.aload_n 0, 1) := by decide +kernel
theorem dX4_signAt_58 : decode cX4_signAt 58 = .ok (.dup, 1) := by decide +kernel
theorem dX4_signAt_59 : decode cX4_signAt 59 = .ok (.getfield 27, 3) := by decide +kernel
theorem dX4_signAt_62 : decode cX4_signAt 62 = .ok (.iconst 1, 1) := by decide +kernel
theorem dX4_signAt_63 : decode cX4_signAt 63 = .ok (.isub, 1) := by decide +kernel
theorem dX4_signAt_64 : decode cX4_signAt 64 = .ok (.putfield 27, 3) := by decide +kernel
theorem dX4_signAt_67 : decode cX4_signAt 67 = .ok (.aload_n 0, 1) := by decide +kernel
theorem dX4_signAt_68 : decode cX4_signAt 68 = .ok (.aload_n 2, 1) := by decide +kernel
theorem dX4_signAt_69 : decode cX4_signAt 69 = .ok (.invokevirtual 76, 3) := by decide +kernel
theorem dX4_signAt_72 : decode cX4_signAt 72 = .ok (.iconst 1, 1) := by decide +kernel
theorem dX4_signAt_73 : decode cX4_signAt 73 = .ok (.ireturn, 1) := by decide +kernel
theorem dX4_signAt_74 : decode cX4_signAt 74 = .ok (.iload_n 3, 1) := by decide +kernel
theorem dX4_signAt_75 : decode cX4_signAt 75 = .ok (.bipush 63, 2) := by decide +kernel
theorem dX4_signAt_77 : decode cX4_signAt 77 = .ok (.if_icmp .ne 39, 3) := by decide +kernel
theorem dX4_signAt_80 : decode cX4_signAt 80 = .ok (.aload_n 0, 1) := by decide +kernel
theorem dX4_signAt_81 : decode cX4_signAt 81 = .ok (.getfield 27, 3) := by decide +kernel
theorem dX4_signAt_84 : decode cX4_signAt 84 = .ok (.ifCond .ne 32, 3) := by decide +kernel
theorem dX4_signAt_87 : decode cX4_signAt 87 = .ok (.aload_n 0, 1) := by decide +kernel
theorem dX4_signAt_88 : decode cX4_signAt 88 = .ok (.getfield 34, 3) := by decide +kernel
theorem dX4_signAt_91 : decode cX4_signAt 91 = .ok (.ifCond .ne 25, 3) := by decide +kernel
theorem dX4_signAt_94 : decode cX4_signAt 94 = .ok (.aload_n 0, 1) := by decide +kernel
theorem dX4_signAt_95 : decode cX4_signAt 95 = .ok (.iconst 1, 1) := by decide +kernel
theorem dX4_signAt_96 : decode cX4_signAt 96 = .ok (.aload_n 2, 1) := by decide +kernel
theorem dX4_signAt_97 : decode cX4_signAt 97 = .ok (.invokevirtual 47, 3) := by decide +kernel
theorem dX4_signAt_100 : decode cX4_signAt 100 = .ok (.aload_n 2, 1) := by decide +kernel
theorem dX4_signAt_101 : decode cX4_signAt 101 = .ok (.invokevirtual 91, 3) := by decide +kernel
theorem dX4_signAt_104 : decode cX4_signAt 104 = .ok (.aload_n 0, 1) := by decide +kernel
theorem dX4_signAt_105 : decode cX4_signAt 105 = .ok (.iconst 1, 1) := by decide +kernel
theorem dX4_signAt_106 : decode cX4_signAt 106 = .ok (.putfield 34, 3) := by decide +kernel
theorem dX4_signAt_109 : decode cX4_signAt 109 = .ok (.aload_n 0, 1) := by decide +kernel
theorem dX4_signAt_110 : decode cX4_signAt 110 = .ok (.iconst 1, 1) := by decide +kernel
theorem dX4_signAt_111 : decode cX4_signAt 111 = .ok (.putfield 30, 3) := by decide +kernel
theorem dX4_signAt_114 : decode cX4_signAt 114 = .ok (.iconst 1, 1) := by decide +kernel
theorem dX4_signAt_115 : decode cX4_signAt 115 = .ok (.ireturn, 1) := by decide +kernel
theorem dX4_signAt_116 : decode cX4_signAt 116 = .ok (.iload_n 3, 1) := by decide +kernel
theorem dX4_signAt_117 : decode cX4_signAt 117 = .ok (.bipush 59, 2) := by decide +kernel
theorem dX4_signAt_119 : decode cX4_signAt 119 = .ok (.if_icmp .ne 32, 3) := by decide +kernel
theorem dX4_signAt_122 : decode cX4_signAt 122 = .ok (.aload_n 0, 1) := by decide +kernel
theorem dX4_signAt_123 : decode cX4_signAt 123 = .ok (.getfield 27, 3) := by decide +kernel
theorem dX4_signAt_126 : decode cX4_signAt 126 = .ok (.ifCond .ne 25, 3) := by decide +kernel
theorem dX4_signAt_129 : decode cX4_signAt 129 = .ok (.aload_n 0, 1) := by decide +kernel
theorem dX4_signAt_130 : decode cX4_signAt 130 = .ok (.iconst 1, 1) := by decide +kernel
theorem dX4_signAt_131 : decode cX4_signAt 131 = .ok (.aload_n 2, 1) := by decide +kernel
theorem dX4_signAt_132 : decode cX4_signAt 132 = .ok (.invokevirtual 47, 3) := by decide +kernel
theorem dX4_signAt_135 : decode cX4_signAt 135 = .ok (.aload_n 2, 1) := by decide +kernel
theorem dX4_signAt_136 : decode cX4_signAt 136 = .ok (.invokevirtual 51, 3) := by decide +kernel
theorem dX4_signAt_139 : decode cX4_signAt 139 = .ok (.aload_n 0, 1) := by decide +kernel
theorem dX4_signAt_140 : decode cX4_signAt 140 = .ok (.iconst 0, 1) := by decide +kernel
theorem dX4_signAt_141 : decode cX4_signAt 141 = .ok (.putfield 34, 3) := by decide +kernel
theorem dX4_signAt_144 : decode cX4_signAt 144 = .ok (.aload_n 0, 1) := by decide +kernel
theorem dX4_signAt_145 : decode cX4_signAt 145 = .ok (.iconst 1, 1) := by decide +kernel
theorem dX4_signAt_146 : decode cX4_signAt 146 = .ok (.putfield 30, 3) := by decide +kernel
theorem dX4_signAt_149 : decode cX4_signAt 149 = .ok (.iconst 1, 1) := by decide +kernel
theorem dX4_signAt_150 : decode cX4_signAt 150 = .ok (.ireturn, 1) := by decide +kernel
theorem dX4_signAt_151 : decode cX4_signAt 151 = .ok (.iconst 0, 1) := by decide +kernel
theorem dX4_signAt_152 : decode cX4_signAt 152 = .ok (.ireturn, 1) := by decide +kernel
theorem dX4_joinAt_0 : decode cX4_joinAt 0 = .ok (.iload_n 1, 1) := by decide +kernel
theorem dX4_joinAt_1 : decode cX4_joinAt 1 = .ok (.invokestatic 84, 3) := by decide +kernel
theorem dX4_joinAt_4 : decode cX4_joinAt 4 = .ok (.istore_n 3, 1) := by decide +kernel
theorem dX4_joinAt_5 : decode cX4_joinAt 5 = .ok (.aload_n 0, 1) := by decide +kernel
theorem dX4_joinAt_6 : decode cX4_joinAt 6 = .ok (.iload_n 3, 1) := by decide +kernel
theorem dX4_joinAt_7 : decode cX4_joinAt 7 = .ok (.iconst 3, 1) := by decide +kernel
theorem dX4_joinAt_8 : decode cX4_joinAt 8 = .ok (.if_icmp .ne 7, 3) := by decide +kernel
theorem dX4_joinAt_11 : decode cX4_joinAt 11 = .ok (.iconst 4, 1) := by decide +kernel
theorem dX4_joinAt_12 : decode cX4_joinAt 12 = .ok (.goto 4, 3) := by decide +kernel
theorem dX4_joinAt_15 : decode cX4_joinAt 15 = .ok (.iload_n 3, 1) := by decide +kernel
theorem dX4_joinAt_16 : decode cX4_joinAt 16 = .ok (.aload_n 2, 1) := by decide +kernel
theorem dX4_joinAt_17 : decode cX4_joinAt 17 = .ok (.invokevirtual 47, 3) := by decide +kernel
theorem dX4_joinAt_20 : decode cX4_joinAt 20 = .ok (.iload_n 3, 1) := by decide +kernel
theorem dX4_joinAt_21 : decode cX4_joinAt 21 = .ok (.iconst 3, 1) := by decide +kernel
theorem dX4_joinAt_22 : decode cX4_joinAt 22 = .ok (.if_icmp .ne 30, 3) := by decide +kernel
theorem dX4_joinAt_25 : decode cX4_joinAt 25 = .ok (.aload_n 0, 1) := by decide +kernel
theorem dX4_joinAt_26 : decode cX4_joinAt 26 = .ok (.getfield 24, 3) := by decide +kernel
theorem dX4_joinAt_29 : decode cX4_joinAt 29 = .ok (.ifCond .le 23, 3) := by decide +kernel
theorem dX4_joinAt_32 : decode cX4_joinAt 32 = .ok (.aload_n 0, 1) := by decide +kernel
theorem dX4_joinAt_33 : decode cX4_joinAt 33 = .ok (.getfield 21, 3) := by decide +kernel
theorem dX4_joinAt_36 : decode cX4_joinAt 36 = .ok (.aload_n 0, 1) := by decide +kernel
theorem dX4_joinAt_37 : decode cX4_joinAt 37 = .ok (.getfield 24, 3) := by decide +kernel
theorem dX4_joinAt_40 : decode cX4_joinAt 40 = .ok (.iconst 1, 1) := by decide +kernel
theorem dX4_joinAt_41 : decode cX4_joinAt 41 = .ok (.isub, 1) := by decide +kernel
theorem dX4_joinAt_42 : decode cX4_joinAt 42 = .ok (.iaload, 1) := by decide +kernel
theorem dX4_joinAt_43 : decode cX4_joinAt 43 = .ok (.invokestatic 84, 3) := by decide +kernel
theorem dX4_joinAt_46 : decode cX4_joinAt 46 = .ok (.iconst 3, 1) := by decide +kernel
theorem dX4_joinAt_47 : decode cX4_joinAt 47 = .ok (.if_icmp .ne 5, 3) := by decide +kernel
theorem dX4_joinAt_50 : decode cX4_joinAt 50 = .ok (.iconst 0, 1) := by decide +kernel
theorem dX4_joinAt_51 : decode cX4_joinAt 51 = .ok (.ireturn, 1) := by decide +kernel
theorem dX4_joinAt_52 : decode cX4_joinAt 52 = .ok (.aload_n 0, 1) := by decide +kernel
theorem dX4_joinAt_53 : decode cX4_joinAt 53 = .ok (.iload_n 1, 1) := by decide +kernel
theorem dX4_joinAt_54 : decode cX4_joinAt 54 = .ok (.invokevirtual 80, 3) := by decide +kernel
theorem dX4_joinAt_57 : decode cX4_joinAt 57 = .ok (.aload_n 0, 1) := by decide +kernel
theorem dX4_joinAt_58 : decode cX4_joinAt 58 = .ok (.iconst 1, 1) := by decide +kernel
theorem dX4_joinAt_59 : decode cX4_joinAt 59 = .ok (.putfield 30, 3) := by decide +kernel
theorem dX4_joinAt_62 : decode cX4_joinAt 62 = .ok (.iconst 1, 1) := by decide +kernel
theorem dX4_joinAt_63 : decode cX4_joinAt 63 = .ok (.ireturn, 1) := by decide +kernel
theorem dX4_await_0 : decode cX4_await 0 = .ok (.aload_n 0, 1) := by decide +kernel
theorem dX4_await_1 : decode cX4_await 1 = .ok (.getfield 24, 3) := by decide +kernel
theorem dX4_await_4 : decode cX4_await 4 = .ok (.bipush 120, 2) := by decide +kernel
theorem dX4_await_6 : decode cX4_await 6 = .ok (.if_icmp .ge 23, 3) := by decide +kernel
theorem dX4_await_9 : decode cX4_await 9 = .ok (.aload_n 0, 1) := by decide +kernel
theorem dX4_await_10 : decode cX4_await 10 = .ok (.getfield 21, 3) := by decide +kernel
theorem dX4_await_13 : decode cX4_await 13 = .ok (.aload_n 0, 1) := by decide +kernel
theorem dX4_await_14 : decode cX4_await 14 = .ok (.getfield 24, 3) := by decide +kernel
theorem dX4_await_17 : decode cX4_await 17 = .ok (.iload_n 1, 1) := by decide +kernel
theorem dX4_await_18 : decode cX4_await 18 = .ok (.iastore, 1) := by decide +kernel
theorem dX4_await_19 : decode cX4_await 19 = .ok (.aload_n 0, 1) := by decide +kernel
theorem dX4_await_20 : decode cX4_await 20 = .ok (.dup, 1) := by decide +kernel
theorem dX4_await_21 : decode cX4_await 21 = .ok (.getfield 24, 3) := by decide +kernel
theorem dX4_await_24 : decode cX4_await 24 = .ok (.iconst 1, 1) := by decide +kernel
theorem dX4_await_25 : decode cX4_await 25 = .ok (.iadd, 1) := by decide +kernel
theorem dX4_await_26 : decode cX4_await 26 = .ok (.putfield 24, 3) := by decide +kernel
theorem dX4_await_29 : decode cX4_await 29 = .ok (.return_, 1) := by decide +kernel
theorem dX4_release_0 : decode cX4_release 0 = .ok (.aload_n 0, 1) := by decide +kernel
theorem dX4_release_1 : decode cX4_release 1 = .ok (.getfield 24, 3) := by decide +kernel
theorem dX4_release_4 : decode cX4_release 4 = .ok (.ifCond .le 48, 3) := by decide +kernel
theorem dX4_release_7 : decode cX4_release 7 = .ok (.aload_n 0, 1) := by decide +kernel
theorem dX4_release_8 : decode cX4_release 8 = .ok (.getfield 21, 3) := by decide +kernel
theorem dX4_release_11 : decode cX4_release 11 = .ok (.aload_n 0, 1) := by decide +kernel
theorem dX4_release_12 : decode cX4_release 12 = .ok (.getfield 24, 3) := by decide +kernel
theorem dX4_release_15 : decode cX4_release 15 = .ok (.iconst 1, 1) := by decide +kernel
theorem dX4_release_16 : decode cX4_release 16 = .ok (.isub, 1) := by decide +kernel
theorem dX4_release_17 : decode cX4_release 17 = .ok (.iaload, 1) := by decide +kernel
theorem dX4_release_18 : decode cX4_release 18 = .ok (.invokestatic 84, 3) := by decide +kernel
theorem dX4_release_21 : decode cX4_release 21 = .ok (.iload_n 1, 1) := by decide +kernel
theorem dX4_release_22 : decode cX4_release 22 = .ok (.if_icmp .lt 30, 3) := by decide +kernel
theorem dX4_release_25 : decode cX4_release 25 = .ok (.aload_n 0, 1) := by decide +kernel
theorem dX4_release_26 : decode cX4_release 26 = .ok (.dup, 1) := by decide +kernel
theorem dX4_release_27 : decode cX4_release 27 = .ok (.getfield 24, 3) := by decide +kernel
theorem dX4_release_30 : decode cX4_release 30 = .ok (.iconst 1, 1) := by decide +kernel
theorem dX4_release_31 : decode cX4_release 31 = .ok (.isub, 1) := by decide +kernel
theorem dX4_release_32 : decode cX4_release 32 = .ok (.putfield 24, 3) := by decide +kernel
theorem dX4_release_35 : decode cX4_release 35 = .ok (.aload_n 2, 1) := by decide +kernel
theorem dX4_release_36 : decode cX4_release 36 = .ok (.aload_n 0, 1) := by decide +kernel
theorem dX4_release_37 : decode cX4_release 37 = .ok (.getfield 21, 3) := by decide +kernel
theorem dX4_release_40 : decode cX4_release 40 = .ok (.aload_n 0, 1) := by decide +kernel
theorem dX4_release_41 : decode cX4_release 41 = .ok (.getfield 24, 3) := by decide +kernel
theorem dX4_release_44 : decode cX4_release 44 = .ok (.iaload, 1) := by decide +kernel
theorem dX4_release_45 : decode cX4_release 45 = .ok (.iconst 0, 1) := by decide +kernel
theorem dX4_release_46 : decode cX4_release 46 = .ok (.invokevirtual 72, 3) := by decide +kernel
theorem dX4_release_49 : decode cX4_release 49 = .ok (.goto (-49), 3) := by decide +kernel
theorem dX4_release_52 : decode cX4_release 52 = .ok (.return_, 1) := by decide +kernel
theorem dX4_strengthOf_0 : decode cX4_strengthOf 0 = .ok (.iload_n 0, 1) := by decide +kernel
theorem dX4_strengthOf_1 : decode cX4_strengthOf 1 = .ok (.lookupswitch 101 #[(37, 99), (38, 93), (42, 99), (43, 97), (45, 97), (47, 99), (60, 95), (61, 95), (62, 95), (124, 91)], 91) := by decide +kernel
theorem dX4_strengthOf_92 : decode cX4_strengthOf 92 = .ok (.iconst 1, 1) := by decide +kernel
theorem dX4_strengthOf_93 : decode cX4_strengthOf 93 = .ok (.ireturn, 1) := by decide +kernel
theorem dX4_strengthOf_94 : decode cX4_strengthOf 94 = .ok (.iconst 2, 1) := by decide +kernel
theorem dX4_strengthOf_95 : decode cX4_strengthOf 95 = .ok (.ireturn, 1) := by decide +kernel
theorem dX4_strengthOf_96 : decode cX4_strengthOf 96 = .ok (.iconst 3, 1) := by decide +kernel
theorem dX4_strengthOf_97 : decode cX4_strengthOf 97 = .ok (.ireturn, 1) := by decide +kernel
theorem dX4_strengthOf_98 : decode cX4_strengthOf 98 = .ok (.iconst 4, 1) := by decide +kernel
theorem dX4_strengthOf_99 : decode cX4_strengthOf 99 = .ok (.ireturn, 1) := by decide +kernel
theorem dX4_strengthOf_100 : decode cX4_strengthOf 100 = .ok (.iconst 5, 1) := by decide +kernel
theorem dX4_strengthOf_101 : decode cX4_strengthOf 101 = .ok (.ireturn, 1) := by decide +kernel
theorem dX4_strengthOf_102 : decode cX4_strengthOf 102 = .ok (.iconst 0, 1) := by decide +kernel
theorem dX4_strengthOf_103 : decode cX4_strengthOf 103 = .ok (.ireturn, 1) := by decide +kernel
theorem dX5_init_0 : decode cX5_init 0 = .ok (.aload_n 0, 1) := by decide +kernel
theorem dX5_init_1 : decode cX5_init 1 = .ok (.invokespecial 3, 3) := by decide +kernel
theorem dX5_init_4 : decode cX5_init 4 = .ok (.aload_n 0, 1) := by decide +kernel
theorem dX5_init_5 : decode cX5_init 5 = .ok (.bipush 10, 2) := by decide +kernel
theorem dX5_init_7 : decode cX5_init 7 = .ok (.newarray .int, 2) := by decide +kernel
theorem dX5_init_9 : decode cX5_init 9 = .ok (.putfield 11, 3) := by decide +kernel
theorem dX5_init_12 : decode cX5_init 12 = .ok (.aload_n 0, 1) := by decide +kernel
theorem dX5_init_13 : decode cX5_init 13 = .ok (.iconst 0, 1) := by decide +kernel
theorem dX5_init_14 : decode cX5_init 14 = .ok (.putfield 15, 3) := by decide +kernel
theorem dX5_init_17 : decode cX5_init 17 = .ok (.aload_n 0, 1) := by decide +kernel
theorem dX5_init_18 : decode cX5_init 18 = .ok (.sipush 1024, 3) := by decide +kernel
theorem dX5_init_21 : decode cX5_init 21 = .ok (.newarray .int, 2) := by decide +kernel
theorem dX5_init_23 : decode cX5_init 23 = .ok (.putfield 19, 3) := by decide +kernel
theorem dX5_init_26 : decode cX5_init 26 = .ok (.aload_n 0, 1) := by decide +kernel
theorem dX5_init_27 : decode cX5_init 27 = .ok (.iconst 1, 1) := by decide +kernel
theorem dX5_init_28 : decode cX5_init 28 = .ok (.putfield 22, 3) := by decide +kernel
theorem dX5_init_31 : decode cX5_init 31 = .ok (.aload_n 0, 1) := by decide +kernel
theorem dX5_init_32 : decode cX5_init 32 = .ok (.iconst 0, 1) := by decide +kernel
theorem dX5_init_33 : decode cX5_init 33 = .ok (.putfield 25, 3) := by decide +kernel
theorem dX5_init_36 : decode cX5_init 36 = .ok (.aload_n 0, 1) := by decide +kernel
theorem dX5_init_37 : decode cX5_init 37 = .ok (.iconst 0, 1) := by decide +kernel
theorem dX5_init_38 : decode cX5_init 38 = .ok (.putfield 28, 3) := by decide +kernel
theorem dX5_init_41 : decode cX5_init 41 = .ok (.return_, 1) := by decide +kernel
theorem dX5_take_0 : decode cX5_take 0 = .ok (.aload_n 0, 1) := by decide +kernel
theorem dX5_take_1 : decode cX5_take 1 = .ok (.iconst 0, 1) := by decide +kernel
theorem dX5_take_2 : decode cX5_take 2 = .ok (.putfield 15, 3) := by decide +kernel
theorem dX5_take_5 : decode cX5_take 5 = .ok (.aload_n 0, 1) := by decide +kernel
theorem dX5_take_6 : decode cX5_take 6 = .ok (.iconst 1, 1) := by decide +kernel
theorem dX5_take_7 : decode cX5_take 7 = .ok (.putfield 22, 3) := by decide +kernel
theorem dX5_take_10 : decode cX5_take 10 = .ok (.aload_n 0, 1) := by decide +kernel
theorem dX5_take_11 : decode cX5_take 11 = .ok (.iconst 0, 1) := by decide +kernel
theorem dX5_take_12 : decode cX5_take 12 = .ok (.putfield 28, 3) := by decide +kernel
theorem dX5_take_15 : decode cX5_take 15 = .ok (.aload_n 0, 1) := by decide +kernel
theorem dX5_take_16 : decode cX5_take 16 = .ok (.getfield 19, 3) := by decide +kernel
theorem dX5_take_19 : decode cX5_take 19 = .ok (.iconst 0, 1) := by decide +kernel
theorem dX5_take_20 : decode cX5_take 20 = .ok (.iconst 0, 1) := by decide +kernel
theorem dX5_take_21 : decode cX5_take 21 = .ok (.iastore, 1) := by decide +kernel
theorem dX5_take_22 : decode cX5_take 22 = .ok (.aload_n 0, 1) := by decide +kernel
theorem dX5_take_23 : decode cX5_take 23 = .ok (.aload_n 2, 1) := by decide +kernel
theorem dX5_take_24 : decode cX5_take 24 = .ok (.iload_n 3, 1) := by decide +kernel
theorem dX5_take_25 : decode cX5_take 25 = .ok (.invokevirtual 31, 3) := by decide +kernel
theorem dX5_take_28 : decode cX5_take 28 = .ok (.putfield 25, 3) := by decide +kernel
theorem dX5_take_31 : decode cX5_take 31 = .ok (.iconst 0, 1) := by decide +kernel
theorem dX5_take_32 : decode cX5_take 32 = .ok (.istore 4, 2) := by decide +kernel
theorem dX5_take_34 : decode cX5_take 34 = .ok (.iload 4, 2) := by decide +kernel
theorem dX5_take_36 : decode cX5_take 36 = .ok (.bipush 10, 2) := by decide +kernel
theorem dX5_take_38 : decode cX5_take 38 = .ok (.if_icmp .ge 44, 3) := by decide +kernel
theorem dX5_take_41 : decode cX5_take 41 = .ok (.aload_n 1, 1) := by decide +kernel
theorem dX5_take_42 : decode cX5_take 42 = .ok (.iload 4, 2) := by decide +kernel
theorem dX5_take_44 : decode cX5_take 44 = .ok (.invokevirtual 37, 3) := by decide +kernel
theorem dX5_take_47 : decode cX5_take 47 = .ok (.ifCond .eq 35, 3) := by decide +kernel
theorem dX5_take_50 : decode cX5_take 50 = .ok (.aload_n 0, 1) := by decide +kernel
theorem dX5_take_51 : decode cX5_take 51 = .ok (.aload_n 1, 1) := by decide +kernel
theorem dX5_take_52 : decode cX5_take 52 = .ok (.iload 4, 2) := by decide +kernel
theorem dX5_take_54 : decode cX5_take 54 = .ok (.invokevirtual 43, 3) := by decide +kernel
theorem dX5_take_57 : decode cX5_take 57 = .ok (.aload_n 2, 1) := by decide +kernel
theorem dX5_take_58 : decode cX5_take 58 = .ok (.invokevirtual 46, 3) := by decide +kernel
theorem dX5_take_61 : decode cX5_take 61 = .ok (.ifCond .eq 21, 3) := by decide +kernel
theorem dX5_take_64 : decode cX5_take 64 = .ok (.aload_n 0, 1) := by decide +kernel
theorem dX5_take_65 : decode cX5_take 65 = .ok (.aload_n 1, 1) := by decide +kernel
theorem dX5_take_66 : decode cX5_take 66 = .ok (.iload 4, 2) := by decide +kernel
theorem dX5_take_68 : decode cX5_take 68 = .ok (.invokevirtual 43, 3) := by decide +kernel
theorem dX5_take_71 : decode cX5_take 71 = .ok (.aload_n 2, 1) := by decide +kernel
theorem dX5_take_72 : decode cX5_take 72 = .ok (.iload_n 3, 1) := by decide +kernel
theorem dX5_take_73 : decode cX5_take 73 = .ok (.invokevirtual 50, 3) := by decide +kernel
theorem dX5_take_76 : decode cX5_take 76 = .ok (.iinc 4 1, 3) := by decide +kernel
theorem dX5_take_79 : decode cX5_take 79 = .ok (.goto (-45), 3) := by decide +kernel
theorem dX5_take_82 : decode cX5_take 82 = .ok (.return_, 1) := by decide +kernel
theorem dX5_isUnread_0 : decode cX5_isUnread 0 = .ok (.iconst 0, 1) := by decide +kernel
theorem dX5_isUnread_1 : decode cX5_isUnread 1 = .ok (.istore_n 3, 1) := by decide +kernel
theorem dX5_isUnread_2 : decode cX5_isUnread 2 = .ok (.iconst 0, 1) := by decide +kernel
theorem dX5_isUnread_3 : decode cX5_isUnread 3 = .ok (.istore 4, 2) := by decide +kernel
theorem dX5_isUnread_5 : decode cX5_isUnread 5 = .ok (.iload 4, 2) := by decide +kernel
theorem dX5_isUnread_7 : decode cX5_isUnread 7 = .ok (.aload_n 0, 1) := by decide +kernel
theorem dX5_isUnread_8 : decode cX5_isUnread 8 = .ok (.getfield 15, 3) := by decide +kernel
theorem dX5_isUnread_11 : decode cX5_isUnread 11 = .ok (.if_icmp .ge 28, 3) := by decide +kernel
theorem dX5_isUnread_14 : decode cX5_isUnread 14 = .ok (.iload_n 3, 1) := by decide +kernel
theorem dX5_isUnread_15 : decode cX5_isUnread 15 = .ok (.aload_n 0, 1) := by decide +kernel
theorem dX5_isUnread_16 : decode cX5_isUnread 16 = .ok (.getfield 11, 3) := by decide +kernel
theorem dX5_isUnread_19 : decode cX5_isUnread 19 = .ok (.iload 4, 2) := by decide +kernel
theorem dX5_isUnread_21 : decode cX5_isUnread 21 = .ok (.iaload, 1) := by decide +kernel
theorem dX5_isUnread_22 : decode cX5_isUnread 22 = .ok (.iload_n 1, 1) := by decide +kernel
theorem dX5_isUnread_23 : decode cX5_isUnread 23 = .ok (.if_icmp .ne 7, 3) := by decide +kernel
theorem dX5_isUnread_26 : decode cX5_isUnread 26 = .ok (.iconst 1, 1) := by decide +kernel
theorem dX5_isUnread_27 : decode cX5_isUnread 27 = .ok (.goto 4, 3) := by decide +kernel
theorem dX5_isUnread_30 : decode cX5_isUnread 30 = .ok (.iconst 0, 1) := by decide +kernel
theorem dX5_isUnread_31 : decode cX5_isUnread 31 = .ok (.ior, 1) := by decide +kernel
theorem dX5_isUnread_32 : decode cX5_isUnread 32 = .ok (.istore_n 3, 1) := by decide +kernel
theorem dX5_isUnread_33 : decode cX5_isUnread 33 = .ok (.iinc 4 1, 3) := by decide +kernel
theorem dX5_isUnread_36 : decode cX5_isUnread 36 = .ok (.goto (-31), 3) := by decide +kernel
theorem dX5_isUnread_39 : decode cX5_isUnread 39 = .ok (.aload_n 2, 1) := by decide +kernel
theorem dX5_isUnread_40 : decode cX5_isUnread 40 = .ok (.iload_n 1, 1) := by decide +kernel
theorem dX5_isUnread_41 : decode cX5_isUnread 41 = .ok (.invokevirtual 54, 3) := by decide +kernel
theorem dX5_isUnread_44 : decode cX5_isUnread 44 = .ok (.ifCond .eq 11, 3) := by decide +kernel
theorem dX5_isUnread_47 : decode cX5_isUnread 47 = .ok (.iload_n 3, 1) := by decide +kernel
theorem dX5_isUnread_48 : decode cX5_isUnread 48 = .ok (.ifCond .ne 7, 3) := by decide +kernel
theorem dX5_isUnread_51 : decode cX5_isUnread 51 = .ok (.iconst 1, 1) := by decide +kernel
theorem dX5_isUnread_52 : decode cX5_isUnread 52 = .ok (.goto 4, 3) := by decide +kernel
theorem dX5_isUnread_55 : decode cX5_isUnread 55 = .ok (.iconst 0, 1) := by decide +kernel
theorem dX5_isUnread_56 : decode cX5_isUnread 56 = .ok (.ireturn, 1) := by decide +kernel
theorem dX5_addCell_0 : decode cX5_addCell 0 = .ok (.aload_n 2, 1) := by decide +kernel
theorem dX5_addCell_1 : decode cX5_addCell 1 = .ok (.iload_n 1, 1) := by decide +kernel
theorem dX5_addCell_2 : decode cX5_addCell 2 = .ok (.invokevirtual 57, 3) := by decide +kernel
theorem dX5_addCell_5 : decode cX5_addCell 5 = .ok (.istore 4, 2) := by decide +kernel
theorem dX5_addCell_7 : decode cX5_addCell 7 = .ok (.iconst 0, 1) := by decide +kernel
theorem dX5_addCell_8 : decode cX5_addCell 8 = .ok (.istore 5, 2) := by decide +kernel
theorem dX5_addCell_10 : decode cX5_addCell 10 = .ok (.iload 5, 2) := by decide +kernel
theorem dX5_addCell_12 : decode cX5_addCell 12 = .ok (.aload_n 0, 1) := by decide +kernel
theorem dX5_addCell_13 : decode cX5_addCell 13 = .ok (.getfield 22, 3) := by decide +kernel
theorem dX5_addCell_16 : decode cX5_addCell 16 = .ok (.if_icmp .ge 31, 3) := by decide +kernel
theorem dX5_addCell_19 : decode cX5_addCell 19 = .ok (.aload_n 0, 1) := by decide +kernel
theorem dX5_addCell_20 : decode cX5_addCell 20 = .ok (.getfield 19, 3) := by decide +kernel
theorem dX5_addCell_23 : decode cX5_addCell 23 = .ok (.iload 5, 2) := by decide +kernel
theorem dX5_addCell_25 : decode cX5_addCell 25 = .ok (.aload_n 0, 1) := by decide +kernel
theorem dX5_addCell_26 : decode cX5_addCell 26 = .ok (.getfield 22, 3) := by decide +kernel
theorem dX5_addCell_29 : decode cX5_addCell 29 = .ok (.iadd, 1) := by decide +kernel
theorem dX5_addCell_30 : decode cX5_addCell 30 = .ok (.aload_n 0, 1) := by decide +kernel
theorem dX5_addCell_31 : decode cX5_addCell 31 = .ok (.getfield 19, 3) := by decide +kernel
theorem dX5_addCell_34 : decode cX5_addCell 34 = .ok (.iload 5, 2) := by decide +kernel
theorem dX5_addCell_36 : decode cX5_addCell 36 = .ok (.iaload, 1) := by decide +kernel
theorem dX5_addCell_37 : decode cX5_addCell 37 = .ok (.iload 4, 2) := by decide +kernel
theorem dX5_addCell_39 : decode cX5_addCell 39 = .ok (.iadd, 1) := by decide +kernel
theorem dX5_addCell_40 : decode cX5_addCell 40 = .ok (.iastore, 1) := by decide +kernel
theorem dX5_addCell_41 : decode cX5_addCell 41 = .ok (.iinc 5 1, 3) := by decide +kernel
theorem dX5_addCell_44 : decode cX5_addCell 44 = .ok (.goto (-34), 3) := by decide +kernel
theorem dX5_addCell_47 : decode cX5_addCell 47 = .ok (.aload_n 2, 1) := by decide +kernel
theorem dX5_addCell_48 : decode cX5_addCell 48 = .ok (.iload_n 1, 1) := by decide +kernel
theorem dX5_addCell_49 : decode cX5_addCell 49 = .ok (.invokevirtual 60, 3) := by decide +kernel
theorem dX5_addCell_52 : decode cX5_addCell 52 = .ok (.iload_n 3, 1) := by decide +kernel
theorem dX5_addCell_53 : decode cX5_addCell 53 = .ok (.if_icmp .ne 27, 3) := by decide +kernel
theorem dX5_addCell_56 : decode cX5_addCell 56 = .ok (.aload_n 0, 1) := by decide +kernel
theorem dX5_addCell_57 : decode cX5_addCell 57 = .ok (.dup, 1) := by decide +kernel
theorem dX5_addCell_58 : decode cX5_addCell 58 = .ok (.getfield 25, 3) := by decide +kernel
theorem dX5_addCell_61 : decode cX5_addCell 61 = .ok (.iload 4, 2) := by decide +kernel
theorem dX5_addCell_63 : decode cX5_addCell 63 = .ok (.isub, 1) := by decide +kernel
theorem dX5_addCell_64 : decode cX5_addCell 64 = .ok (.putfield 25, 3) := by decide +kernel

theorem dX4_init_86 : decode cX4_init 86 = .ok (.newarray .int, 2) := by decide +kernel
theorem dX4_init_88 : decode cX4_init 88 = .ok (.putfield 40, 3) := by decide +kernel
theorem dX4_init_91 : decode cX4_init 91 = .ok (.aload_n 0, 1) := by decide +kernel
theorem dX4_init_92 : decode cX4_init 92 = .ok (.bipush 8, 2) := by decide +kernel
theorem dX4_init_94 : decode cX4_init 94 = .ok (.newarray .int, 2) := by decide +kernel
theorem dX4_init_96 : decode cX4_init 96 = .ok (.putfield 43, 3) := by decide +kernel
theorem dX4_init_99 : decode cX4_init 99 = .ok (.aload_n 0, 1) := by decide +kernel
theorem dX4_init_100 : decode cX4_init 100 = .ok (.iconst 5, 1) := by decide +kernel
theorem dX4_init_101 : decode cX4_init 101 = .ok (.newarray .int, 2) := by decide +kernel
theorem dX4_init_103 : decode cX4_init 103 = .ok (.putfield 46, 3) := by decide +kernel
theorem dX4_init_106 : decode cX4_init 106 = .ok (.iconst 0, 1) := by decide +kernel
theorem dX4_init_107 : decode cX4_init 107 = .ok (.istore_n 1, 1) := by decide +kernel
theorem dX4_init_108 : decode cX4_init 108 = .ok (.iload_n 1, 1) := by decide +kernel
theorem dX4_init_109 : decode cX4_init 109 = .ok (.iconst 5, 1) := by decide +kernel
theorem dX4_init_110 : decode cX4_init 110 = .ok (.if_icmp .ge 17, 3) := by decide +kernel
theorem dX4_init_113 : decode cX4_init 113 = .ok (.aload_n 0, 1) := by decide +kernel
theorem dX4_init_114 : decode cX4_init 114 = .ok (.getfield 7, 3) := by decide +kernel
theorem dX4_init_117 : decode cX4_init 117 = .ok (.iload_n 1, 1) := by decide +kernel
theorem dX4_init_118 : decode cX4_init 118 = .ok (.bipush 100, 2) := by decide +kernel
theorem dX4_init_120 : decode cX4_init 120 = .ok (.iastore, 1) := by decide +kernel
theorem dX4_init_121 : decode cX4_init 121 = .ok (.iinc 1 1, 3) := by decide +kernel
theorem dX4_init_124 : decode cX4_init 124 = .ok (.goto (-16), 3) := by decide +kernel
theorem dX4_init_127 : decode cX4_init 127 = .ok (.iconst 0, 1) := by decide +kernel
theorem dX4_init_128 : decode cX4_init 128 = .ok (.istore_n 1, 1) := by decide +kernel
theorem dX4_init_129 : decode cX4_init 129 = .ok (.iload_n 1, 1) := by decide +kernel
theorem dX4_init_130 : decode cX4_init 130 = .ok (.bipush 8, 2) := by decide +kernel
theorem dX4_init_132 : decode cX4_init 132 = .ok (.if_icmp .ge 17, 3) := by decide +kernel
theorem dX4_init_135 : decode cX4_init 135 = .ok (.aload_n 0, 1) := by decide +kernel
theorem dX4_init_136 : decode cX4_init 136 = .ok (.getfield 43, 3) := by decide +kernel
theorem dX4_init_139 : decode cX4_init 139 = .ok (.iload_n 1, 1) := by decide +kernel
theorem dX4_init_140 : decode cX4_init 140 = .ok (.ldc 49, 2) := by decide +kernel
theorem dX4_init_142 : decode cX4_init 142 = .ok (.iastore, 1) := by decide +kernel
theorem dX4_init_143 : decode cX4_init 143 = .ok (.iinc 1 1, 3) := by decide +kernel
theorem dX4_init_146 : decode cX4_init 146 = .ok (.goto (-17), 3) := by decide +kernel
theorem dX4_init_149 : decode cX4_init 149 = .ok (.return_, 1) := by decide +kernel
theorem dX4_thrown_0 : decode cX4_thrown 0 = .ok (.aload_n 0, 1) := by decide +kernel
theorem dX4_thrown_1 : decode cX4_thrown 1 = .ok (.getfield 50, 3) := by decide +kernel
theorem dX4_thrown_4 : decode cX4_thrown 4 = .ok (.ireturn, 1) := by decide +kernel
theorem dX4_in_0 : decode cX4_in 0 = .ok (.iload_n 0, 1) := by decide +kernel
theorem dX4_in_1 : decode cX4_in 1 = .ok (.iload_n 1, 1) := by decide +kernel
theorem dX4_in_2 : decode cX4_in 2 = .ok (.if_icmp .lt 12, 3) := by decide +kernel
theorem dX4_in_5 : decode cX4_in 5 = .ok (.iload_n 0, 1) := by decide +kernel
theorem dX4_in_6 : decode cX4_in 6 = .ok (.iload_n 2, 1) := by decide +kernel
theorem dX4_in_7 : decode cX4_in 7 = .ok (.if_icmp .gt 7, 3) := by decide +kernel
theorem dX4_in_10 : decode cX4_in 10 = .ok (.iconst 1, 1) := by decide +kernel
theorem dX4_in_11 : decode cX4_in 11 = .ok (.goto 4, 3) := by decide +kernel
theorem dX4_in_14 : decode cX4_in 14 = .ok (.iconst 0, 1) := by decide +kernel
theorem dX4_in_15 : decode cX4_in 15 = .ok (.ireturn, 1) := by decide +kernel
theorem dX4_asked_0 : decode cX4_asked 0 = .ok (.aload_n 0, 1) := by decide +kernel
theorem dX4_asked_1 : decode cX4_asked 1 = .ok (.iload_n 1, 1) := by decide +kernel
theorem dX4_asked_2 : decode cX4_asked 2 = .ok (.ifCond .eq 7, 3) := by decide +kernel
theorem dX4_asked_5 : decode cX4_asked 5 = .ok (.iconst 0, 1) := by decide +kernel
theorem dX4_asked_6 : decode cX4_asked 6 = .ok (.goto 4, 3) := by decide +kernel
theorem dX4_asked_9 : decode cX4_asked 9 = .ok (.iconst 1, 1) := by decide +kernel
theorem dX4_asked_10 : decode cX4_asked 10 = .ok (.putfield 50, 3) := by decide +kernel
theorem dX4_asked_13 : decode cX4_asked 13 = .ok (.iload_n 1, 1) := by decide +kernel
theorem dX4_asked_14 : decode cX4_asked 14 = .ok (.ireturn, 1) := by decide +kernel
theorem dX4_asked__0 : decode cX4_asked_ 0 = .ok (.aload_n 0, 1) := by decide +kernel
theorem dX4_asked__1 : decode cX4_asked_ 1 = .ok (.iload_n 1, 1) := by decide +kernel
theorem dX4_asked__2 : decode cX4_asked_ 2 = .ok (.ifCond .ne 7, 3) := by decide +kernel
theorem dX4_asked__5 : decode cX4_asked_ 5 = .ok (.iconst 1, 1) := by decide +kernel
theorem dX4_asked__6 : decode cX4_asked_ 6 = .ok (.goto 12, 3) := by decide +kernel
theorem dX4_asked__9 : decode cX4_asked_ 9 = .ok (.iload_n 2, 1) := by decide +kernel
theorem dX4_asked__10 : decode cX4_asked_ 10 = .ok (.ifCond .eq 7, 3) := by decide +kernel
theorem dX4_asked__13 : decode cX4_asked_ 13 = .ok (.iconst 0, 1) := by decide +kernel
theorem dX4_asked__14 : decode cX4_asked_ 14 = .ok (.goto 4, 3) := by decide +kernel
theorem dX4_asked__17 : decode cX4_asked_ 17 = .ok (.iconst 2, 1) := by decide +kernel
theorem dX4_asked__18 : decode cX4_asked_ 18 = .ok (.putfield 50, 3) := by decide +kernel
theorem dX4_asked__21 : decode cX4_asked_ 21 = .ok (.aload_n 0, 1) := by decide +kernel
theorem dX4_asked__22 : decode cX4_asked_ 22 = .ok (.getfield 50, 3) := by decide +kernel
theorem dX4_asked__25 : decode cX4_asked_ 25 = .ok (.ifCond .ne 7, 3) := by decide +kernel
theorem dX4_asked__28 : decode cX4_asked_ 28 = .ok (.iconst 1, 1) := by decide +kernel
theorem dX4_asked__29 : decode cX4_asked_ 29 = .ok (.goto 4, 3) := by decide +kernel
theorem dX4_asked__32 : decode cX4_asked_ 32 = .ok (.iconst 0, 1) := by decide +kernel
theorem dX4_asked__33 : decode cX4_asked_ 33 = .ok (.ireturn, 1) := by decide +kernel
theorem dX4_asked___0 : decode cX4_asked__ 0 = .ok (.aload_n 0, 1) := by decide +kernel
theorem dX4_asked___1 : decode cX4_asked__ 1 = .ok (.iload_n 1, 1) := by decide +kernel
theorem dX4_asked___2 : decode cX4_asked__ 2 = .ok (.ifCond .ne 7, 3) := by decide +kernel
theorem dX4_asked___5 : decode cX4_asked__ 5 = .ok (.iconst 1, 1) := by decide +kernel
theorem dX4_asked___6 : decode cX4_asked__ 6 = .ok (.goto 20, 3) := by decide +kernel
theorem dX4_asked___9 : decode cX4_asked__ 9 = .ok (.iload_n 2, 1) := by decide +kernel
theorem dX4_asked___10 : decode cX4_asked__ 10 = .ok (.ifCond .ne 7, 3) := by decide +kernel
theorem dX4_asked___13 : decode cX4_asked__ 13 = .ok (.iconst 2, 1) := by decide +kernel
theorem dX4_asked___14 : decode cX4_asked__ 14 = .ok (.goto 12, 3) := by decide +kernel
theorem dX4_asked___17 : decode cX4_asked__ 17 = .ok (.iload_n 3, 1) := by decide +kernel
theorem dX4_asked___18 : decode cX4_asked__ 18 = .ok (.ifCond .eq 7, 3) := by decide +kernel
theorem dX4_asked___21 : decode cX4_asked__ 21 = .ok (.iconst 0, 1) := by decide +kernel
theorem dX4_asked___22 : decode cX4_asked__ 22 = .ok (.goto 4, 3) := by decide +kernel
theorem dX4_asked___25 : decode cX4_asked__ 25 = .ok (.iconst 3, 1) := by decide +kernel
theorem dX4_asked___26 : decode cX4_asked__ 26 = .ok (.putfield 50, 3) := by decide +kernel
theorem dX4_asked___29 : decode cX4_asked__ 29 = .ok (.aload_n 0, 1) := by decide +kernel
theorem dX4_asked___30 : decode cX4_asked__ 30 = .ok (.getfield 50, 3) := by decide +kernel
theorem dX4_asked___33 : decode cX4_asked__ 33 = .ok (.ifCond .ne 7, 3) := by decide +kernel
theorem dX4_asked___36 : decode cX4_asked__ 36 = .ok (.iconst 1, 1) := by decide +kernel
theorem dX4_asked___37 : decode cX4_asked__ 37 = .ok (.goto 4, 3) := by decide +kernel
theorem dX4_asked___40 : decode cX4_asked__ 40 = .ok (.iconst 0, 1) := by decide +kernel
theorem dX4_asked___41 : decode cX4_asked__ 41 = .ok (.ireturn, 1) := by decide +kernel
theorem dX4_isPlayer_0 : decode cX4_isPlayer 0 = .ok (.iload_n 0, 1) := by decide +kernel
theorem dX4_isPlayer_1 : decode cX4_isPlayer 1 = .ok (.iconst 0, 1) := by decide +kernel
theorem dX4_isPlayer_2 : decode cX4_isPlayer 2 = .ok (.iconst 4, 1) := by decide +kernel
theorem dX4_isPlayer_3 : decode cX4_isPlayer 3 = .ok (.invokestatic 54, 3) := by decide +kernel
theorem dX4_isPlayer_6 : decode cX4_isPlayer 6 = .ok (.ireturn, 1) := by decide +kernel
theorem dX4_isKind_0 : decode cX4_isKind 0 = .ok (.iload_n 0, 1) := by decide +kernel
theorem dX4_isKind_1 : decode cX4_isKind 1 = .ok (.iconst 0, 1) := by decide +kernel
theorem dX4_isKind_2 : decode cX4_isKind 2 = .ok (.bipush 7, 2) := by decide +kernel
theorem dX4_isKind_4 : decode cX4_isKind 4 = .ok (.invokestatic 54, 3) := by decide +kernel
theorem dX4_isKind_7 : decode cX4_isKind 7 = .ok (.ireturn, 1) := by decide +kernel
theorem dX4_isCard_0 : decode cX4_isCard 0 = .ok (.iload_n 1, 1) := by decide +kernel
theorem dX4_isCard_1 : decode cX4_isCard 1 = .ok (.iconst 0, 1) := by decide +kernel
theorem dX4_isCard_2 : decode cX4_isCard 2 = .ok (.aload_n 0, 1) := by decide +kernel
theorem dX4_isCard_3 : decode cX4_isCard 3 = .ok (.getfield 58, 3) := by decide +kernel
theorem dX4_isCard_6 : decode cX4_isCard 6 = .ok (.iconst 1, 1) := by decide +kernel
theorem dX4_isCard_7 : decode cX4_isCard 7 = .ok (.isub, 1) := by decide +kernel
theorem dX4_isCard_8 : decode cX4_isCard 8 = .ok (.invokestatic 54, 3) := by decide +kernel
theorem dX4_isCard_11 : decode cX4_isCard 11 = .ok (.ireturn, 1) := by decide +kernel
theorem dX4_banned_0 : decode cX4_banned 0 = .ok (.aload_n 0, 1) := by decide +kernel
theorem dX4_banned_1 : decode cX4_banned 1 = .ok (.getfield 43, 3) := by decide +kernel
theorem dX4_banned_4 : decode cX4_banned 4 = .ok (.iload_n 1, 1) := by decide +kernel
theorem dX4_banned_5 : decode cX4_banned 5 = .ok (.iaload, 1) := by decide +kernel
theorem dX4_banned_6 : decode cX4_banned 6 = .ok (.aload_n 0, 1) := by decide +kernel
theorem dX4_banned_7 : decode cX4_banned 7 = .ok (.getfield 61, 3) := by decide +kernel
theorem dX4_banned_10 : decode cX4_banned 10 = .ok (.if_icmp .gt 7, 3) := by decide +kernel
theorem dX4_banned_13 : decode cX4_banned 13 = .ok (.iconst 1, 1) := by decide +kernel
theorem dX4_banned_14 : decode cX4_banned 14 = .ok (.goto 4, 3) := by decide +kernel
theorem dX4_banned_17 : decode cX4_banned 17 = .ok (.iconst 0, 1) := by decide +kernel
theorem dX4_banned_18 : decode cX4_banned 18 = .ok (.ireturn, 1) := by decide +kernel
theorem dX4_mint_0 : decode cX4_mint 0 = .ok (.aload_n 0, 1) := by decide +kernel
theorem dX4_mint_1 : decode cX4_mint 1 = .ok (.iload_n 1, 1) := by decide +kernel
theorem dX4_mint_2 : decode cX4_mint 2 = .ok (.invokestatic 64, 3) := by decide +kernel
theorem dX4_mint_5 : decode cX4_mint 5 = .ok (.ifCond .eq 14, 3) := by decide +kernel
theorem dX4_mint_8 : decode cX4_mint 8 = .ok (.iload_n 2, 1) := by decide +kernel
theorem dX4_mint_9 : decode cX4_mint 9 = .ok (.invokestatic 68, 3) := by decide +kernel
theorem dX4_mint_12 : decode cX4_mint 12 = .ok (.ifCond .eq 7, 3) := by decide +kernel
theorem dX4_mint_15 : decode cX4_mint 15 = .ok (.iconst 1, 1) := by decide +kernel
theorem dX4_mint_16 : decode cX4_mint 16 = .ok (.goto 4, 3) := by decide +kernel
theorem dX4_mint_19 : decode cX4_mint 19 = .ok (.iconst 0, 1) := by decide +kernel
theorem dX4_mint_20 : decode cX4_mint 20 = .ok (.aload_n 0, 1) := by decide +kernel
theorem dX4_mint_21 : decode cX4_mint 21 = .ok (.getfield 58, 3) := by decide +kernel
theorem dX4_mint_24 : decode cX4_mint 24 = .ok (.bipush 30, 2) := by decide +kernel
theorem dX4_mint_26 : decode cX4_mint 26 = .ok (.if_icmp .ge 7, 3) := by decide +kernel
theorem dX4_mint_29 : decode cX4_mint 29 = .ok (.iconst 1, 1) := by decide +kernel
theorem dX4_mint_30 : decode cX4_mint 30 = .ok (.goto 4, 3) := by decide +kernel
theorem dX4_mint_33 : decode cX4_mint 33 = .ok (.iconst 0, 1) := by decide +kernel
theorem dX4_mint_34 : decode cX4_mint 34 = .ok (.invokevirtual 71, 3) := by decide +kernel
theorem dX4_mint_37 : decode cX4_mint 37 = .ok (.ifCond .ne 5, 3) := by decide +kernel
theorem dX4_mint_40 : decode cX4_mint 40 = .ok (.iconst 0, 1) := by decide +kernel
theorem dX4_mint_41 : decode cX4_mint 41 = .ok (.ireturn, 1) := by decide +kernel
theorem dX4_mint_42 : decode cX4_mint 42 = .ok (.aload_n 0, 1) := by decide +kernel
theorem dX4_mint_43 : decode cX4_mint 43 = .ok (.getfield 13, 3) := by decide +kernel
theorem dX4_mint_46 : decode cX4_mint 46 = .ok (.aload_n 0, 1) := by decide +kernel
theorem dX4_mint_47 : decode cX4_mint 47 = .ok (.getfield 58, 3) := by decide +kernel
theorem dX4_mint_50 : decode cX4_mint 50 = .ok (.iload_n 2, 1) := by decide +kernel
theorem dX4_mint_51 : decode cX4_mint 51 = .ok (.iastore, 1) := by decide +kernel
theorem dX4_mint_52 : decode cX4_mint 52 = .ok (.aload_n 0, 1) := by decide +kernel
theorem dX4_mint_53 : decode cX4_mint 53 = .ok (.getfield 16, 3) := by decide +kernel
theorem dX4_mint_56 : decode cX4_mint 56 = .ok (.aload_n 0, 1) := by decide +kernel
theorem dX4_mint_57 : decode cX4_mint 57 = .ok (.getfield 58, 3) := by decide +kernel
theorem dX4_mint_60 : decode cX4_mint 60 = .ok (.iload_n 1, 1) := by decide +kernel
theorem dX4_mint_61 : decode cX4_mint 61 = .ok (.iastore, 1) := by decide +kernel
theorem dX4_mint_62 : decode cX4_mint 62 = .ok (.aload_n 0, 1) := by decide +kernel
theorem dX4_mint_63 : decode cX4_mint 63 = .ok (.getfield 19, 3) := by decide +kernel
theorem dX4_mint_66 : decode cX4_mint 66 = .ok (.aload_n 0, 1) := by decide +kernel
theorem dX4_mint_67 : decode cX4_mint 67 = .ok (.getfield 58, 3) := by decide +kernel
theorem dX4_mint_70 : decode cX4_mint 70 = .ok (.iconst 0, 1) := by decide +kernel
theorem dX4_mint_71 : decode cX4_mint 71 = .ok (.iastore, 1) := by decide +kernel
theorem dX4_mint_72 : decode cX4_mint 72 = .ok (.aload_n 0, 1) := by decide +kernel
theorem dX4_mint_73 : decode cX4_mint 73 = .ok (.dup, 1) := by decide +kernel
theorem dX4_mint_74 : decode cX4_mint 74 = .ok (.getfield 58, 3) := by decide +kernel
theorem dX4_mint_77 : decode cX4_mint 77 = .ok (.iconst 1, 1) := by decide +kernel
theorem dX4_mint_78 : decode cX4_mint 78 = .ok (.iadd, 1) := by decide +kernel
theorem dX4_mint_79 : decode cX4_mint 79 = .ok (.putfield 58, 3) := by decide +kernel
theorem dX4_mint_82 : decode cX4_mint 82 = .ok (.aload_n 0, 1) := by decide +kernel
theorem dX4_mint_83 : decode cX4_mint 83 = .ok (.getfield 58, 3) := by decide +kernel
theorem dX4_mint_86 : decode cX4_mint 86 = .ok (.iconst 1, 1) := by decide +kernel
theorem dX4_mint_87 : decode cX4_mint 87 = .ok (.isub, 1) := by decide +kernel
theorem dX4_mint_88 : decode cX4_mint 88 = .ok (.ireturn, 1) := by decide +kernel
theorem dX4_owner_0 : decode cX4_owner 0 = .ok (.aload_n 0, 1) := by decide +kernel
theorem dX4_owner_1 : decode cX4_owner 1 = .ok (.aload_n 0, 1) := by decide +kernel
theorem dX4_owner_2 : decode cX4_owner 2 = .ok (.iload_n 1, 1) := by decide +kernel
theorem dX4_owner_3 : decode cX4_owner 3 = .ok (.invokevirtual 75, 3) := by decide +kernel
theorem dX4_owner_6 : decode cX4_owner 6 = .ok (.invokevirtual 78, 3) := by decide +kernel
theorem dX4_owner_9 : decode cX4_owner 9 = .ok (.ifCond .eq 12, 3) := by decide +kernel
theorem dX4_owner_12 : decode cX4_owner 12 = .ok (.aload_n 0, 1) := by decide +kernel
theorem dX4_owner_13 : decode cX4_owner 13 = .ok (.getfield 16, 3) := by decide +kernel
theorem dX4_owner_16 : decode cX4_owner 16 = .ok (.iload_n 1, 1) := by decide +kernel
theorem dX4_owner_17 : decode cX4_owner 17 = .ok (.iaload, 1) := by decide +kernel
theorem dX4_owner_18 : decode cX4_owner 18 = .ok (.goto 4, 3) := by decide +kernel
theorem dX4_owner_21 : decode cX4_owner 21 = .ok (.iconst 0, 1) := by decide +kernel
theorem dX4_owner_22 : decode cX4_owner 22 = .ok (.ireturn, 1) := by decide +kernel
theorem dX4_ownerByHistory_0 : decode cX4_ownerByHistory 0 = .ok (.aload_n 0, 1) := by decide +kernel
theorem dX4_ownerByHistory_1 : decode cX4_ownerByHistory 1 = .ok (.iload_n 1, 1) := by decide +kernel
theorem dX4_ownerByHistory_2 : decode cX4_ownerByHistory 2 = .ok (.invokevirtual 81, 3) := by decide +kernel
theorem dX4_ownerByHistory_5 : decode cX4_ownerByHistory 5 = .ok (.ireturn, 1) := by decide +kernel
theorem dX4_holds_0 : decode cX4_holds 0 = .ok (.aload_n 0, 1) := by decide +kernel
theorem dX4_holds_1 : decode cX4_holds 1 = .ok (.getfield 19, 3) := by decide +kernel
theorem dX4_holds_4 : decode cX4_holds 4 = .ok (.iload_n 1, 1) := by decide +kernel
theorem dX4_holds_5 : decode cX4_holds 5 = .ok (.iaload, 1) := by decide +kernel
theorem dX4_holds_6 : decode cX4_holds 6 = .ok (.iconst 3, 1) := by decide +kernel
theorem dX4_holds_7 : decode cX4_holds 7 = .ok (.if_icmp .ne 12, 3) := by decide +kernel
theorem dX4_holds_10 : decode cX4_holds 10 = .ok (.aload_n 0, 1) := by decide +kernel
theorem dX4_holds_11 : decode cX4_holds 11 = .ok (.getfield 31, 3) := by decide +kernel
theorem dX4_holds_14 : decode cX4_holds 14 = .ok (.iload_n 1, 1) := by decide +kernel
theorem dX4_holds_15 : decode cX4_holds 15 = .ok (.iaload, 1) := by decide +kernel
theorem dX4_holds_16 : decode cX4_holds 16 = .ok (.goto 9, 3) := by decide +kernel
theorem dX4_holds_19 : decode cX4_holds 19 = .ok (.aload_n 0, 1) := by decide +kernel
theorem dX4_holds_20 : decode cX4_holds 20 = .ok (.getfield 16, 3) := by decide +kernel
theorem dX4_holds_23 : decode cX4_holds 23 = .ok (.iload_n 1, 1) := by decide +kernel
theorem dX4_holds_24 : decode cX4_holds 24 = .ok (.iaload, 1) := by decide +kernel
theorem dX4_holds_25 : decode cX4_holds 25 = .ok (.ireturn, 1) := by decide +kernel
theorem dX4_holder_0 : decode cX4_holder 0 = .ok (.aload_n 0, 1) := by decide +kernel
theorem dX4_holder_1 : decode cX4_holder 1 = .ok (.aload_n 0, 1) := by decide +kernel
theorem dX4_holder_2 : decode cX4_holder 2 = .ok (.iload_n 1, 1) := by decide +kernel
theorem dX4_holder_3 : decode cX4_holder 3 = .ok (.invokevirtual 75, 3) := by decide +kernel
theorem dX4_holder_6 : decode cX4_holder 6 = .ok (.invokevirtual 78, 3) := by decide +kernel
theorem dX4_holder_9 : decode cX4_holder 9 = .ok (.ifCond .eq 11, 3) := by decide +kernel
theorem dX4_holder_12 : decode cX4_holder 12 = .ok (.aload_n 0, 1) := by decide +kernel
theorem dX4_holder_13 : decode cX4_holder 13 = .ok (.iload_n 1, 1) := by decide +kernel
theorem dX4_holder_14 : decode cX4_holder 14 = .ok (.invokevirtual 84, 3) := by decide +kernel
theorem dX4_holder_17 : decode cX4_holder 17 = .ok (.goto 4, 3) := by decide +kernel
theorem dX4_holder_20 : decode cX4_holder 20 = .ok (.iconst 0, 1) := by decide +kernel
theorem dX4_holder_21 : decode cX4_holder 21 = .ok (.ireturn, 1) := by decide +kernel
theorem dX4_stateOf_0 : decode cX4_stateOf 0 = .ok (.aload_n 0, 1) := by decide +kernel
theorem dX4_stateOf_1 : decode cX4_stateOf 1 = .ok (.aload_n 0, 1) := by decide +kernel
theorem dX4_stateOf_2 : decode cX4_stateOf 2 = .ok (.iload_n 1, 1) := by decide +kernel
theorem dX4_stateOf_3 : decode cX4_stateOf 3 = .ok (.invokevirtual 75, 3) := by decide +kernel
theorem dX4_stateOf_6 : decode cX4_stateOf 6 = .ok (.invokevirtual 78, 3) := by decide +kernel
theorem dX4_stateOf_9 : decode cX4_stateOf 9 = .ok (.ifCond .eq 12, 3) := by decide +kernel
theorem dX4_stateOf_12 : decode cX4_stateOf 12 = .ok (.aload_n 0, 1) := by decide +kernel
theorem dX4_stateOf_13 : decode cX4_stateOf 13 = .ok (.getfield 19, 3) := by decide +kernel
theorem dX4_stateOf_16 : decode cX4_stateOf 16 = .ok (.iload_n 1, 1) := by decide +kernel
theorem dX4_stateOf_17 : decode cX4_stateOf 17 = .ok (.iaload, 1) := by decide +kernel
theorem dX4_stateOf_18 : decode cX4_stateOf 18 = .ok (.goto 4, 3) := by decide +kernel
theorem dX4_stateOf_21 : decode cX4_stateOf 21 = .ok (.iconst 0, 1) := by decide +kernel
theorem dX4_stateOf_22 : decode cX4_stateOf 22 = .ok (.ireturn, 1) := by decide +kernel
theorem dX4_coins_0 : decode cX4_coins 0 = .ok (.aload_n 0, 1) := by decide +kernel
theorem dX4_coins_1 : decode cX4_coins 1 = .ok (.iload_n 1, 1) := by decide +kernel
theorem dX4_coins_2 : decode cX4_coins 2 = .ok (.invokestatic 64, 3) := by decide +kernel
theorem dX4_coins_5 : decode cX4_coins 5 = .ok (.invokevirtual 78, 3) := by decide +kernel
theorem dX4_coins_8 : decode cX4_coins 8 = .ok (.ifCond .eq 12, 3) := by decide +kernel
theorem dX4_coins_11 : decode cX4_coins 11 = .ok (.aload_n 0, 1) := by decide +kernel
theorem dX4_coins_12 : decode cX4_coins 12 = .ok (.getfield 7, 3) := by decide +kernel
theorem dX4_coins_15 : decode cX4_coins 15 = .ok (.iload_n 1, 1) := by decide +kernel
theorem dX4_coins_16 : decode cX4_coins 16 = .ok (.iaload, 1) := by decide +kernel
theorem dX4_coins_17 : decode cX4_coins 17 = .ok (.goto 4, 3) := by decide +kernel
theorem dX4_coins_20 : decode cX4_coins 20 = .ok (.iconst 0, 1) := by decide +kernel
theorem dX4_coins_21 : decode cX4_coins 21 = .ok (.ireturn, 1) := by decide +kernel
theorem dX4_bidder_0 : decode cX4_bidder 0 = .ok (.iconst (-1), 1) := by decide +kernel
theorem dX4_bidder_1 : decode cX4_bidder 1 = .ok (.istore_n 3, 1) := by decide +kernel
theorem dX4_bidder_2 : decode cX4_bidder 2 = .ok (.iconst 0, 1) := by decide +kernel
theorem dX4_bidder_3 : decode cX4_bidder 3 = .ok (.istore 4, 2) := by decide +kernel
theorem dX4_bidder_5 : decode cX4_bidder 5 = .ok (.iload 4, 2) := by decide +kernel
theorem dX4_bidder_7 : decode cX4_bidder 7 = .ok (.iconst 5, 1) := by decide +kernel
theorem dX4_bidder_8 : decode cX4_bidder 8 = .ok (.if_icmp .ge 102, 3) := by decide +kernel
theorem dX4_bidder_11 : decode cX4_bidder 11 = .ok (.bipush 8, 2) := by decide +kernel
theorem dX4_bidder_13 : decode cX4_bidder 13 = .ok (.iload 4, 2) := by decide +kernel
theorem dX4_bidder_15 : decode cX4_bidder 15 = .ok (.imul, 1) := by decide +kernel
theorem dX4_bidder_16 : decode cX4_bidder 16 = .ok (.iload_n 1, 1) := by decide +kernel
theorem dX4_bidder_17 : decode cX4_bidder 17 = .ok (.iadd, 1) := by decide +kernel
theorem dX4_bidder_18 : decode cX4_bidder 18 = .ok (.istore 5, 2) := by decide +kernel
theorem dX4_bidder_20 : decode cX4_bidder 20 = .ok (.iload 4, 2) := by decide +kernel
theorem dX4_bidder_22 : decode cX4_bidder 22 = .ok (.iload_n 2, 1) := by decide +kernel
theorem dX4_bidder_23 : decode cX4_bidder 23 = .ok (.if_icmp .eq 81, 3) := by decide +kernel
theorem dX4_bidder_26 : decode cX4_bidder 26 = .ok (.aload_n 0, 1) := by decide +kernel
theorem dX4_bidder_27 : decode cX4_bidder 27 = .ok (.getfield 37, 3) := by decide +kernel
theorem dX4_bidder_30 : decode cX4_bidder 30 = .ok (.iload 5, 2) := by decide +kernel
theorem dX4_bidder_32 : decode cX4_bidder 32 = .ok (.iaload, 1) := by decide +kernel
theorem dX4_bidder_33 : decode cX4_bidder 33 = .ok (.ifCond .le 71, 3) := by decide +kernel
theorem dX4_bidder_36 : decode cX4_bidder 36 = .ok (.iload_n 3, 1) := by decide +kernel
theorem dX4_bidder_37 : decode cX4_bidder 37 = .ok (.iconst (-1), 1) := by decide +kernel
theorem dX4_bidder_38 : decode cX4_bidder 38 = .ok (.if_icmp .ne 7, 3) := by decide +kernel
theorem dX4_bidder_41 : decode cX4_bidder 41 = .ok (.iconst 1, 1) := by decide +kernel
theorem dX4_bidder_42 : decode cX4_bidder 42 = .ok (.goto 22, 3) := by decide +kernel
theorem dX4_bidder_45 : decode cX4_bidder 45 = .ok (.aload_n 0, 1) := by decide +kernel
theorem dX4_bidder_46 : decode cX4_bidder 46 = .ok (.getfield 37, 3) := by decide +kernel
theorem dX4_bidder_49 : decode cX4_bidder 49 = .ok (.iload 5, 2) := by decide +kernel
theorem dX4_bidder_51 : decode cX4_bidder 51 = .ok (.iaload, 1) := by decide +kernel
theorem dX4_bidder_52 : decode cX4_bidder 52 = .ok (.aload_n 0, 1) := by decide +kernel
theorem dX4_bidder_53 : decode cX4_bidder 53 = .ok (.getfield 37, 3) := by decide +kernel
theorem dX4_bidder_56 : decode cX4_bidder 56 = .ok (.bipush 8, 2) := by decide +kernel
theorem dX4_bidder_58 : decode cX4_bidder 58 = .ok (.iload_n 3, 1) := by decide +kernel
theorem dX4_bidder_59 : decode cX4_bidder 59 = .ok (.imul, 1) := by decide +kernel
theorem dX4_bidder_60 : decode cX4_bidder 60 = .ok (.iload_n 1, 1) := by decide +kernel
theorem dX4_bidder_61 : decode cX4_bidder 61 = .ok (.iadd, 1) := by decide +kernel
theorem dX4_bidder_62 : decode cX4_bidder 62 = .ok (.iaload, 1) := by decide +kernel
theorem dX4_bidder_63 : decode cX4_bidder 63 = .ok (.isub, 1) := by decide +kernel
theorem dX4_bidder_64 : decode cX4_bidder 64 = .ok (.istore 6, 2) := by decide +kernel
theorem dX4_bidder_66 : decode cX4_bidder 66 = .ok (.iload 6, 2) := by decide +kernel
theorem dX4_bidder_68 : decode cX4_bidder 68 = .ok (.ifCond .gt 29, 3) := by decide +kernel
theorem dX4_bidder_71 : decode cX4_bidder 71 = .ok (.iload 6, 2) := by decide +kernel
theorem dX4_bidder_73 : decode cX4_bidder 73 = .ok (.ifCond .ne 29, 3) := by decide +kernel
theorem dX4_bidder_76 : decode cX4_bidder 76 = .ok (.aload_n 0, 1) := by decide +kernel
theorem dX4_bidder_77 : decode cX4_bidder 77 = .ok (.getfield 40, 3) := by decide +kernel
theorem dX4_bidder_80 : decode cX4_bidder 80 = .ok (.iload 5, 2) := by decide +kernel
theorem dX4_bidder_82 : decode cX4_bidder 82 = .ok (.iaload, 1) := by decide +kernel
theorem dX4_bidder_83 : decode cX4_bidder 83 = .ok (.aload_n 0, 1) := by decide +kernel
theorem dX4_bidder_84 : decode cX4_bidder 84 = .ok (.getfield 40, 3) := by decide +kernel
theorem dX4_bidder_87 : decode cX4_bidder 87 = .ok (.bipush 8, 2) := by decide +kernel
theorem dX4_bidder_89 : decode cX4_bidder 89 = .ok (.iload_n 3, 1) := by decide +kernel
theorem dX4_bidder_90 : decode cX4_bidder 90 = .ok (.imul, 1) := by decide +kernel
theorem dX4_bidder_91 : decode cX4_bidder 91 = .ok (.iload_n 1, 1) := by decide +kernel
theorem dX4_bidder_92 : decode cX4_bidder 92 = .ok (.iadd, 1) := by decide +kernel
theorem dX4_bidder_93 : decode cX4_bidder 93 = .ok (.iaload, 1) := by decide +kernel
theorem dX4_bidder_94 : decode cX4_bidder 94 = .ok (.if_icmp .ge 8, 3) := by decide +kernel
theorem dX4_bidder_97 : decode cX4_bidder 97 = .ok (.iload 4, 2) := by decide +kernel
theorem dX4_bidder_99 : decode cX4_bidder 99 = .ok (.goto 4, 3) := by decide +kernel
theorem dX4_bidder_102 : decode cX4_bidder 102 = .ok (.iload_n 3, 1) := by decide +kernel
theorem dX4_bidder_103 : decode cX4_bidder 103 = .ok (.istore_n 3, 1) := by decide +kernel
theorem dX4_bidder_104 : decode cX4_bidder 104 = .ok (.iinc 4 1, 3) := by decide +kernel
theorem dX4_bidder_107 : decode cX4_bidder 107 = .ok (.goto (-102), 3) := by decide +kernel
theorem dX4_bidder_110 : decode cX4_bidder 110 = .ok (.iload_n 3, 1) := by decide +kernel
theorem dX4_bidder_111 : decode cX4_bidder 111 = .ok (.ireturn, 1) := by decide +kernel
theorem dX4_offer_0 : decode cX4_offer 0 = .ok (.iconst (-1), 1) := by decide +kernel
theorem dX4_offer_1 : decode cX4_offer 1 = .ok (.istore_n 3, 1) := by decide +kernel
theorem dX4_offer_2 : decode cX4_offer 2 = .ok (.iconst 0, 1) := by decide +kernel
theorem dX4_offer_3 : decode cX4_offer 3 = .ok (.istore 4, 2) := by decide +kernel
theorem dX4_offer_5 : decode cX4_offer 5 = .ok (.iload 4, 2) := by decide +kernel
theorem dX4_offer_7 : decode cX4_offer 7 = .ok (.aload_n 0, 1) := by decide +kernel
theorem dX4_offer_8 : decode cX4_offer 8 = .ok (.getfield 58, 3) := by decide +kernel
theorem dX4_offer_11 : decode cX4_offer 11 = .ok (.if_icmp .ge 100, 3) := by decide +kernel
theorem dX4_offer_14 : decode cX4_offer 14 = .ok (.aload_n 0, 1) := by decide +kernel
theorem dX4_offer_15 : decode cX4_offer 15 = .ok (.getfield 19, 3) := by decide +kernel
theorem dX4_offer_18 : decode cX4_offer 18 = .ok (.iload 4, 2) := by decide +kernel
theorem dX4_offer_20 : decode cX4_offer 20 = .ok (.iaload, 1) := by decide +kernel
theorem dX4_offer_21 : decode cX4_offer 21 = .ok (.iconst 1, 1) := by decide +kernel
theorem dX4_offer_22 : decode cX4_offer 22 = .ok (.if_icmp .ne 83, 3) := by decide +kernel
theorem dX4_offer_25 : decode cX4_offer 25 = .ok (.aload_n 0, 1) := by decide +kernel
theorem dX4_offer_26 : decode cX4_offer 26 = .ok (.getfield 13, 3) := by decide +kernel
theorem dX4_offer_29 : decode cX4_offer 29 = .ok (.iload 4, 2) := by decide +kernel
theorem dX4_offer_31 : decode cX4_offer 31 = .ok (.iaload, 1) := by decide +kernel
theorem dX4_offer_32 : decode cX4_offer 32 = .ok (.iload_n 1, 1) := by decide +kernel
theorem dX4_offer_33 : decode cX4_offer 33 = .ok (.if_icmp .ne 72, 3) := by decide +kernel
theorem dX4_offer_36 : decode cX4_offer 36 = .ok (.aload_n 0, 1) := by decide +kernel
theorem dX4_offer_37 : decode cX4_offer 37 = .ok (.getfield 16, 3) := by decide +kernel
theorem dX4_offer_40 : decode cX4_offer 40 = .ok (.iload 4, 2) := by decide +kernel
theorem dX4_offer_42 : decode cX4_offer 42 = .ok (.iaload, 1) := by decide +kernel
theorem dX4_offer_43 : decode cX4_offer 43 = .ok (.iload_n 2, 1) := by decide +kernel
theorem dX4_offer_44 : decode cX4_offer 44 = .ok (.if_icmp .eq 61, 3) := by decide +kernel
theorem dX4_offer_47 : decode cX4_offer 47 = .ok (.iload_n 3, 1) := by decide +kernel
theorem dX4_offer_48 : decode cX4_offer 48 = .ok (.iconst (-1), 1) := by decide +kernel
theorem dX4_offer_49 : decode cX4_offer 49 = .ok (.if_icmp .ne 7, 3) := by decide +kernel
theorem dX4_offer_52 : decode cX4_offer 52 = .ok (.iconst 1, 1) := by decide +kernel
theorem dX4_offer_53 : decode cX4_offer 53 = .ok (.goto 17, 3) := by decide +kernel
theorem dX4_offer_56 : decode cX4_offer 56 = .ok (.aload_n 0, 1) := by decide +kernel
theorem dX4_offer_57 : decode cX4_offer 57 = .ok (.getfield 22, 3) := by decide +kernel
theorem dX4_offer_60 : decode cX4_offer 60 = .ok (.iload_n 3, 1) := by decide +kernel
theorem dX4_offer_61 : decode cX4_offer 61 = .ok (.iaload, 1) := by decide +kernel
theorem dX4_offer_62 : decode cX4_offer 62 = .ok (.aload_n 0, 1) := by decide +kernel
theorem dX4_offer_63 : decode cX4_offer 63 = .ok (.getfield 22, 3) := by decide +kernel
theorem dX4_offer_66 : decode cX4_offer 66 = .ok (.iload 4, 2) := by decide +kernel
theorem dX4_offer_68 : decode cX4_offer 68 = .ok (.iaload, 1) := by decide +kernel
theorem dX4_offer_69 : decode cX4_offer 69 = .ok (.isub, 1) := by decide +kernel
theorem dX4_offer_70 : decode cX4_offer 70 = .ok (.istore 5, 2) := by decide +kernel
theorem dX4_offer_72 : decode cX4_offer 72 = .ok (.iload 5, 2) := by decide +kernel
theorem dX4_offer_74 : decode cX4_offer 74 = .ok (.ifCond .gt 24, 3) := by decide +kernel
theorem dX4_offer_77 : decode cX4_offer 77 = .ok (.iload 5, 2) := by decide +kernel
theorem dX4_offer_79 : decode cX4_offer 79 = .ok (.ifCond .ne 24, 3) := by decide +kernel
theorem dX4_offer_82 : decode cX4_offer 82 = .ok (.aload_n 0, 1) := by decide +kernel
theorem dX4_offer_83 : decode cX4_offer 83 = .ok (.getfield 25, 3) := by decide +kernel
theorem dX4_offer_86 : decode cX4_offer 86 = .ok (.iload 4, 2) := by decide +kernel
theorem dX4_offer_88 : decode cX4_offer 88 = .ok (.iaload, 1) := by decide +kernel
theorem dX4_offer_89 : decode cX4_offer 89 = .ok (.aload_n 0, 1) := by decide +kernel
theorem dX4_offer_90 : decode cX4_offer 90 = .ok (.getfield 25, 3) := by decide +kernel
theorem dX4_offer_93 : decode cX4_offer 93 = .ok (.iload_n 3, 1) := by decide +kernel
theorem dX4_offer_94 : decode cX4_offer 94 = .ok (.iaload, 1) := by decide +kernel
theorem dX4_offer_95 : decode cX4_offer 95 = .ok (.if_icmp .ge 8, 3) := by decide +kernel
theorem dX4_offer_98 : decode cX4_offer 98 = .ok (.iload 4, 2) := by decide +kernel
theorem dX4_offer_100 : decode cX4_offer 100 = .ok (.goto 4, 3) := by decide +kernel
theorem dX4_offer_103 : decode cX4_offer 103 = .ok (.iload_n 3, 1) := by decide +kernel
theorem dX4_offer_104 : decode cX4_offer 104 = .ok (.istore_n 3, 1) := by decide +kernel
theorem dX4_offer_105 : decode cX4_offer 105 = .ok (.iinc 4 1, 3) := by decide +kernel
theorem dX4_offer_108 : decode cX4_offer 108 = .ok (.goto (-103), 3) := by decide +kernel
theorem dX4_offer_111 : decode cX4_offer 111 = .ok (.iload_n 3, 1) := by decide +kernel
theorem dX4_offer_112 : decode cX4_offer 112 = .ok (.ireturn, 1) := by decide +kernel
theorem dX4_sell_0 : decode cX4_sell 0 = .ok (.aload_n 0, 1) := by decide +kernel
theorem dX4_sell_1 : decode cX4_sell 1 = .ok (.iload_n 1, 1) := by decide +kernel
theorem dX4_sell_2 : decode cX4_sell 2 = .ok (.invokevirtual 75, 3) := by decide +kernel
theorem dX4_sell_5 : decode cX4_sell 5 = .ok (.istore_n 3, 1) := by decide +kernel
theorem dX4_sell_6 : decode cX4_sell 6 = .ok (.aload_n 0, 1) := by decide +kernel
theorem dX4_sell_7 : decode cX4_sell 7 = .ok (.iload_n 3, 1) := by decide +kernel
theorem dX4_sell_8 : decode cX4_sell 8 = .ok (.iload_n 2, 1) := by decide +kernel
theorem dX4_sell_9 : decode cX4_sell 9 = .ok (.iconst 1, 1) := by decide +kernel
theorem dX4_sell_10 : decode cX4_sell 10 = .ok (.sipush 1000, 3) := by decide +kernel
theorem dX4_sell_13 : decode cX4_sell 13 = .ok (.invokestatic 54, 3) := by decide +kernel
theorem dX4_sell_16 : decode cX4_sell 16 = .ok (.iload_n 3, 1) := by decide +kernel
theorem dX4_sell_17 : decode cX4_sell 17 = .ok (.ifCond .eq 29, 3) := by decide +kernel
theorem dX4_sell_20 : decode cX4_sell 20 = .ok (.aload_n 0, 1) := by decide +kernel
theorem dX4_sell_21 : decode cX4_sell 21 = .ok (.getfield 19, 3) := by decide +kernel
theorem dX4_sell_24 : decode cX4_sell 24 = .ok (.iload_n 1, 1) := by decide +kernel
theorem dX4_sell_25 : decode cX4_sell 25 = .ok (.iaload, 1) := by decide +kernel
theorem dX4_sell_26 : decode cX4_sell 26 = .ok (.ifCond .ne 20, 3) := by decide +kernel
theorem dX4_sell_29 : decode cX4_sell 29 = .ok (.aload_n 0, 1) := by decide +kernel
theorem dX4_sell_30 : decode cX4_sell 30 = .ok (.aload_n 0, 1) := by decide +kernel
theorem dX4_sell_31 : decode cX4_sell 31 = .ok (.getfield 13, 3) := by decide +kernel
theorem dX4_sell_34 : decode cX4_sell 34 = .ok (.iload_n 1, 1) := by decide +kernel
theorem dX4_sell_35 : decode cX4_sell 35 = .ok (.iaload, 1) := by decide +kernel
theorem dX4_sell_36 : decode cX4_sell 36 = .ok (.invokevirtual 87, 3) := by decide +kernel
theorem dX4_sell_39 : decode cX4_sell 39 = .ok (.ifCond .ne 7, 3) := by decide +kernel
theorem dX4_sell_42 : decode cX4_sell 42 = .ok (.iconst 1, 1) := by decide +kernel
theorem dX4_sell_43 : decode cX4_sell 43 = .ok (.goto 4, 3) := by decide +kernel
theorem dX4_sell_46 : decode cX4_sell 46 = .ok (.iconst 0, 1) := by decide +kernel
theorem dX4_sell_47 : decode cX4_sell 47 = .ok (.invokevirtual 90, 3) := by decide +kernel
theorem dX4_sell_50 : decode cX4_sell 50 = .ok (.ifCond .ne 5, 3) := by decide +kernel
theorem dX4_sell_53 : decode cX4_sell 53 = .ok (.iconst 0, 1) := by decide +kernel
theorem dX4_sell_54 : decode cX4_sell 54 = .ok (.ireturn, 1) := by decide +kernel
theorem dX4_sell_55 : decode cX4_sell 55 = .ok (.aload_n 0, 1) := by decide +kernel
theorem dX4_sell_56 : decode cX4_sell 56 = .ok (.dup, 1) := by decide +kernel
theorem dX4_sell_57 : decode cX4_sell 57 = .ok (.getfield 93, 3) := by decide +kernel
theorem dX4_sell_60 : decode cX4_sell 60 = .ok (.iconst 1, 1) := by decide +kernel
theorem dX4_sell_61 : decode cX4_sell 61 = .ok (.iadd, 1) := by decide +kernel
theorem dX4_sell_62 : decode cX4_sell 62 = .ok (.putfield 93, 3) := by decide +kernel
theorem dX4_sell_65 : decode cX4_sell 65 = .ok (.aload_n 0, 1) := by decide +kernel
theorem dX4_sell_66 : decode cX4_sell 66 = .ok (.aload_n 0, 1) := by decide +kernel
theorem dX4_sell_67 : decode cX4_sell 67 = .ok (.getfield 13, 3) := by decide +kernel
theorem dX4_sell_70 : decode cX4_sell 70 = .ok (.iload_n 1, 1) := by decide +kernel
theorem dX4_sell_71 : decode cX4_sell 71 = .ok (.iaload, 1) := by decide +kernel
theorem dX4_sell_72 : decode cX4_sell 72 = .ok (.aload_n 0, 1) := by decide +kernel
theorem dX4_sell_73 : decode cX4_sell 73 = .ok (.getfield 16, 3) := by decide +kernel
theorem dX4_sell_76 : decode cX4_sell 76 = .ok (.iload_n 1, 1) := by decide +kernel
theorem dX4_sell_77 : decode cX4_sell 77 = .ok (.iaload, 1) := by decide +kernel
theorem dX4_sell_78 : decode cX4_sell 78 = .ok (.invokevirtual 96, 3) := by decide +kernel
theorem dX4_sell_81 : decode cX4_sell 81 = .ok (.istore 4, 2) := by decide +kernel
theorem dX4_sell_83 : decode cX4_sell 83 = .ok (.iload 4, 2) := by decide +kernel
theorem dX4_sell_85 : decode cX4_sell 85 = .ok (.iconst (-1), 1) := by decide +kernel
theorem dX4_sell_86 : decode cX4_sell 86 = .ok (.if_icmp .ne 7, 3) := by decide +kernel
theorem dX4_sell_89 : decode cX4_sell 89 = .ok (.iconst 0, 1) := by decide +kernel
theorem dX4_sell_90 : decode cX4_sell 90 = .ok (.goto 15, 3) := by decide +kernel
theorem dX4_sell_93 : decode cX4_sell 93 = .ok (.bipush 8, 2) := by decide +kernel
theorem dX4_sell_95 : decode cX4_sell 95 = .ok (.iload 4, 2) := by decide +kernel
theorem dX4_sell_97 : decode cX4_sell 97 = .ok (.imul, 1) := by decide +kernel
theorem dX4_sell_98 : decode cX4_sell 98 = .ok (.aload_n 0, 1) := by decide +kernel
theorem dX4_sell_99 : decode cX4_sell 99 = .ok (.getfield 13, 3) := by decide +kernel
theorem dX4_sell_102 : decode cX4_sell 102 = .ok (.iload_n 1, 1) := by decide +kernel
theorem dX4_sell_103 : decode cX4_sell 103 = .ok (.iaload, 1) := by decide +kernel
theorem dX4_sell_104 : decode cX4_sell 104 = .ok (.iadd, 1) := by decide +kernel
theorem dX4_sell_105 : decode cX4_sell 105 = .ok (.istore 5, 2) := by decide +kernel
theorem dX4_sell_107 : decode cX4_sell 107 = .ok (.iload 4, 2) := by decide +kernel
theorem dX4_sell_109 : decode cX4_sell 109 = .ok (.iconst (-1), 1) := by decide +kernel
theorem dX4_sell_110 : decode cX4_sell 110 = .ok (.if_icmp .eq 58, 3) := by decide +kernel
theorem dX4_sell_113 : decode cX4_sell 113 = .ok (.aload_n 0, 1) := by decide +kernel
theorem dX4_sell_114 : decode cX4_sell 114 = .ok (.getfield 37, 3) := by decide +kernel
theorem dX4_sell_117 : decode cX4_sell 117 = .ok (.iload 5, 2) := by decide +kernel
theorem dX4_sell_119 : decode cX4_sell 119 = .ok (.iaload, 1) := by decide +kernel
theorem dX4_sell_120 : decode cX4_sell 120 = .ok (.iload_n 2, 1) := by decide +kernel
theorem dX4_sell_121 : decode cX4_sell 121 = .ok (.if_icmp .lt 47, 3) := by decide +kernel
theorem dX4_sell_124 : decode cX4_sell 124 = .ok (.aload_n 0, 1) := by decide +kernel
theorem dX4_sell_125 : decode cX4_sell 125 = .ok (.getfield 37, 3) := by decide +kernel
theorem dX4_sell_128 : decode cX4_sell 128 = .ok (.iload 5, 2) := by decide +kernel
theorem dX4_sell_130 : decode cX4_sell 130 = .ok (.iaload, 1) := by decide +kernel
theorem dX4_sell_131 : decode cX4_sell 131 = .ok (.istore 6, 2) := by decide +kernel
theorem dX4_sell_133 : decode cX4_sell 133 = .ok (.aload_n 0, 1) := by decide +kernel
theorem dX4_sell_134 : decode cX4_sell 134 = .ok (.getfield 7, 3) := by decide +kernel
theorem dX4_sell_137 : decode cX4_sell 137 = .ok (.aload_n 0, 1) := by decide +kernel
theorem dX4_sell_138 : decode cX4_sell 138 = .ok (.getfield 16, 3) := by decide +kernel
theorem dX4_sell_141 : decode cX4_sell 141 = .ok (.iload_n 1, 1) := by decide +kernel
theorem dX4_sell_142 : decode cX4_sell 142 = .ok (.iaload, 1) := by decide +kernel
theorem dX4_sell_143 : decode cX4_sell 143 = .ok (.dup2, 1) := by decide +kernel
theorem dX4_sell_144 : decode cX4_sell 144 = .ok (.iaload, 1) := by decide +kernel
theorem dX4_sell_145 : decode cX4_sell 145 = .ok (.iload 6, 2) := by decide +kernel
theorem dX4_sell_147 : decode cX4_sell 147 = .ok (.iadd, 1) := by decide +kernel
theorem dX4_sell_148 : decode cX4_sell 148 = .ok (.iastore, 1) := by decide +kernel
theorem dX4_sell_149 : decode cX4_sell 149 = .ok (.aload_n 0, 1) := by decide +kernel
theorem dX4_sell_150 : decode cX4_sell 150 = .ok (.getfield 16, 3) := by decide +kernel
theorem dX4_sell_153 : decode cX4_sell 153 = .ok (.iload_n 1, 1) := by decide +kernel
theorem dX4_sell_154 : decode cX4_sell 154 = .ok (.iload 4, 2) := by decide +kernel
theorem dX4_sell_156 : decode cX4_sell 156 = .ok (.iastore, 1) := by decide +kernel
theorem dX4_sell_157 : decode cX4_sell 157 = .ok (.aload_n 0, 1) := by decide +kernel
theorem dX4_sell_158 : decode cX4_sell 158 = .ok (.getfield 37, 3) := by decide +kernel
theorem dX4_sell_161 : decode cX4_sell 161 = .ok (.iload 5, 2) := by decide +kernel
theorem dX4_sell_163 : decode cX4_sell 163 = .ok (.iconst 0, 1) := by decide +kernel
theorem dX4_sell_164 : decode cX4_sell 164 = .ok (.iastore, 1) := by decide +kernel
theorem dX4_sell_165 : decode cX4_sell 165 = .ok (.iload 6, 2) := by decide +kernel
theorem dX4_sell_167 : decode cX4_sell 167 = .ok (.ireturn, 1) := by decide +kernel
theorem dX4_sell_168 : decode cX4_sell 168 = .ok (.aload_n 0, 1) := by decide +kernel
theorem dX4_sell_169 : decode cX4_sell 169 = .ok (.getfield 19, 3) := by decide +kernel
theorem dX4_sell_172 : decode cX4_sell 172 = .ok (.iload_n 1, 1) := by decide +kernel
theorem dX4_sell_173 : decode cX4_sell 173 = .ok (.iconst 1, 1) := by decide +kernel
theorem dX4_sell_174 : decode cX4_sell 174 = .ok (.iastore, 1) := by decide +kernel
theorem dX4_sell_175 : decode cX4_sell 175 = .ok (.aload_n 0, 1) := by decide +kernel
theorem dX4_sell_176 : decode cX4_sell 176 = .ok (.getfield 22, 3) := by decide +kernel
theorem dX4_sell_179 : decode cX4_sell 179 = .ok (.iload_n 1, 1) := by decide +kernel
theorem dX4_sell_180 : decode cX4_sell 180 = .ok (.iload_n 2, 1) := by decide +kernel
theorem dX4_sell_181 : decode cX4_sell 181 = .ok (.iastore, 1) := by decide +kernel
theorem dX4_sell_182 : decode cX4_sell 182 = .ok (.aload_n 0, 1) := by decide +kernel
theorem dX4_sell_183 : decode cX4_sell 183 = .ok (.getfield 25, 3) := by decide +kernel
theorem dX4_sell_186 : decode cX4_sell 186 = .ok (.iload_n 1, 1) := by decide +kernel
theorem dX4_sell_187 : decode cX4_sell 187 = .ok (.aload_n 0, 1) := by decide +kernel
theorem dX4_sell_188 : decode cX4_sell 188 = .ok (.getfield 93, 3) := by decide +kernel
theorem dX4_sell_191 : decode cX4_sell 191 = .ok (.iastore, 1) := by decide +kernel
theorem dX4_sell_192 : decode cX4_sell 192 = .ok (.iconst 0, 1) := by decide +kernel
theorem dX4_sell_193 : decode cX4_sell 193 = .ok (.ireturn, 1) := by decide +kernel
theorem dX4_bid_0 : decode cX4_bid 0 = .ok (.iload_n 1, 1) := by decide +kernel
theorem dX4_bid_1 : decode cX4_bid 1 = .ok (.invokestatic 64, 3) := by decide +kernel
theorem dX4_bid_4 : decode cX4_bid 4 = .ok (.ifCond .eq 14, 3) := by decide +kernel
theorem dX4_bid_7 : decode cX4_bid 7 = .ok (.iload_n 2, 1) := by decide +kernel
theorem dX4_bid_8 : decode cX4_bid 8 = .ok (.invokestatic 68, 3) := by decide +kernel
theorem dX4_bid_11 : decode cX4_bid 11 = .ok (.ifCond .eq 7, 3) := by decide +kernel
theorem dX4_bid_14 : decode cX4_bid 14 = .ok (.iconst 1, 1) := by decide +kernel
theorem dX4_bid_15 : decode cX4_bid 15 = .ok (.goto 4, 3) := by decide +kernel
theorem dX4_bid_18 : decode cX4_bid 18 = .ok (.iconst 0, 1) := by decide +kernel
theorem dX4_bid_19 : decode cX4_bid 19 = .ok (.istore 4, 2) := by decide +kernel
theorem dX4_bid_21 : decode cX4_bid 21 = .ok (.aload_n 0, 1) := by decide +kernel
theorem dX4_bid_22 : decode cX4_bid 22 = .ok (.iload 4, 2) := by decide +kernel
theorem dX4_bid_24 : decode cX4_bid 24 = .ok (.iload_n 3, 1) := by decide +kernel
theorem dX4_bid_25 : decode cX4_bid 25 = .ok (.iconst 1, 1) := by decide +kernel
theorem dX4_bid_26 : decode cX4_bid 26 = .ok (.sipush 1000, 3) := by decide +kernel
theorem dX4_bid_29 : decode cX4_bid 29 = .ok (.invokestatic 54, 3) := by decide +kernel
theorem dX4_bid_32 : decode cX4_bid 32 = .ok (.iload 4, 2) := by decide +kernel
theorem dX4_bid_34 : decode cX4_bid 34 = .ok (.ifCond .eq 39, 3) := by decide +kernel
theorem dX4_bid_37 : decode cX4_bid 37 = .ok (.aload_n 0, 1) := by decide +kernel
theorem dX4_bid_38 : decode cX4_bid 38 = .ok (.getfield 7, 3) := by decide +kernel
theorem dX4_bid_41 : decode cX4_bid 41 = .ok (.iload_n 1, 1) := by decide +kernel
theorem dX4_bid_42 : decode cX4_bid 42 = .ok (.iaload, 1) := by decide +kernel
theorem dX4_bid_43 : decode cX4_bid 43 = .ok (.iload_n 3, 1) := by decide +kernel
theorem dX4_bid_44 : decode cX4_bid 44 = .ok (.if_icmp .lt 29, 3) := by decide +kernel
theorem dX4_bid_47 : decode cX4_bid 47 = .ok (.aload_n 0, 1) := by decide +kernel
theorem dX4_bid_48 : decode cX4_bid 48 = .ok (.getfield 37, 3) := by decide +kernel
theorem dX4_bid_51 : decode cX4_bid 51 = .ok (.bipush 8, 2) := by decide +kernel
theorem dX4_bid_53 : decode cX4_bid 53 = .ok (.iload_n 1, 1) := by decide +kernel
theorem dX4_bid_54 : decode cX4_bid 54 = .ok (.imul, 1) := by decide +kernel
theorem dX4_bid_55 : decode cX4_bid 55 = .ok (.iload_n 2, 1) := by decide +kernel
theorem dX4_bid_56 : decode cX4_bid 56 = .ok (.iadd, 1) := by decide +kernel
theorem dX4_bid_57 : decode cX4_bid 57 = .ok (.iaload, 1) := by decide +kernel
theorem dX4_bid_58 : decode cX4_bid 58 = .ok (.ifCond .ne 15, 3) := by decide +kernel
theorem dX4_bid_61 : decode cX4_bid 61 = .ok (.aload_n 0, 1) := by decide +kernel
theorem dX4_bid_62 : decode cX4_bid 62 = .ok (.iload_n 2, 1) := by decide +kernel
theorem dX4_bid_63 : decode cX4_bid 63 = .ok (.invokevirtual 87, 3) := by decide +kernel
theorem dX4_bid_66 : decode cX4_bid 66 = .ok (.ifCond .ne 7, 3) := by decide +kernel
theorem dX4_bid_69 : decode cX4_bid 69 = .ok (.iconst 1, 1) := by decide +kernel
theorem dX4_bid_70 : decode cX4_bid 70 = .ok (.goto 4, 3) := by decide +kernel
theorem dX4_bid_73 : decode cX4_bid 73 = .ok (.iconst 0, 1) := by decide +kernel
theorem dX4_bid_74 : decode cX4_bid 74 = .ok (.invokevirtual 90, 3) := by decide +kernel
theorem dX4_bid_77 : decode cX4_bid 77 = .ok (.ifCond .ne 5, 3) := by decide +kernel
theorem dX4_bid_80 : decode cX4_bid 80 = .ok (.iconst 0, 1) := by decide +kernel
theorem dX4_bid_81 : decode cX4_bid 81 = .ok (.ireturn, 1) := by decide +kernel
theorem dX4_bid_82 : decode cX4_bid 82 = .ok (.aload_n 0, 1) := by decide +kernel
theorem dX4_bid_83 : decode cX4_bid 83 = .ok (.dup, 1) := by decide +kernel
theorem dX4_bid_84 : decode cX4_bid 84 = .ok (.getfield 93, 3) := by decide +kernel
theorem dX4_bid_87 : decode cX4_bid 87 = .ok (.iconst 1, 1) := by decide +kernel
theorem dX4_bid_88 : decode cX4_bid 88 = .ok (.iadd, 1) := by decide +kernel
theorem dX4_bid_89 : decode cX4_bid 89 = .ok (.putfield 93, 3) := by decide +kernel
theorem dX4_bid_92 : decode cX4_bid 92 = .ok (.aload_n 0, 1) := by decide +kernel
theorem dX4_bid_93 : decode cX4_bid 93 = .ok (.iload_n 2, 1) := by decide +kernel
theorem dX4_bid_94 : decode cX4_bid 94 = .ok (.iload_n 1, 1) := by decide +kernel
theorem dX4_bid_95 : decode cX4_bid 95 = .ok (.invokevirtual 100, 3) := by decide +kernel
theorem dX4_bid_98 : decode cX4_bid 98 = .ok (.istore 5, 2) := by decide +kernel
theorem dX4_bid_100 : decode cX4_bid 100 = .ok (.iload 5, 2) := by decide +kernel
theorem dX4_bid_102 : decode cX4_bid 102 = .ok (.iconst (-1), 1) := by decide +kernel
theorem dX4_bid_103 : decode cX4_bid 103 = .ok (.if_icmp .eq 71, 3) := by decide +kernel
theorem dX4_bid_106 : decode cX4_bid 106 = .ok (.aload_n 0, 1) := by decide +kernel
theorem dX4_bid_107 : decode cX4_bid 107 = .ok (.getfield 22, 3) := by decide +kernel
theorem dX4_bid_110 : decode cX4_bid 110 = .ok (.iload 5, 2) := by decide +kernel
theorem dX4_bid_112 : decode cX4_bid 112 = .ok (.iaload, 1) := by decide +kernel
theorem dX4_bid_113 : decode cX4_bid 113 = .ok (.iload_n 3, 1) := by decide +kernel
theorem dX4_bid_114 : decode cX4_bid 114 = .ok (.if_icmp .gt 60, 3) := by decide +kernel
theorem dX4_bid_117 : decode cX4_bid 117 = .ok (.aload_n 0, 1) := by decide +kernel
theorem dX4_bid_118 : decode cX4_bid 118 = .ok (.getfield 7, 3) := by decide +kernel
theorem dX4_bid_121 : decode cX4_bid 121 = .ok (.iload_n 1, 1) := by decide +kernel
theorem dX4_bid_122 : decode cX4_bid 122 = .ok (.dup2, 1) := by decide +kernel
theorem dX4_bid_123 : decode cX4_bid 123 = .ok (.iaload, 1) := by decide +kernel
theorem dX4_bid_124 : decode cX4_bid 124 = .ok (.aload_n 0, 1) := by decide +kernel
theorem dX4_bid_125 : decode cX4_bid 125 = .ok (.getfield 22, 3) := by decide +kernel
theorem dX4_bid_128 : decode cX4_bid 128 = .ok (.iload 5, 2) := by decide +kernel
theorem dX4_bid_130 : decode cX4_bid 130 = .ok (.iaload, 1) := by decide +kernel
theorem dX4_bid_131 : decode cX4_bid 131 = .ok (.isub, 1) := by decide +kernel
theorem dX4_bid_132 : decode cX4_bid 132 = .ok (.iastore, 1) := by decide +kernel
theorem dX4_bid_133 : decode cX4_bid 133 = .ok (.aload_n 0, 1) := by decide +kernel
theorem dX4_bid_134 : decode cX4_bid 134 = .ok (.getfield 7, 3) := by decide +kernel
theorem dX4_bid_137 : decode cX4_bid 137 = .ok (.aload_n 0, 1) := by decide +kernel
theorem dX4_bid_138 : decode cX4_bid 138 = .ok (.getfield 16, 3) := by decide +kernel
theorem dX4_bid_141 : decode cX4_bid 141 = .ok (.iload 5, 2) := by decide +kernel
theorem dX4_bid_143 : decode cX4_bid 143 = .ok (.iaload, 1) := by decide +kernel
theorem dX4_bid_144 : decode cX4_bid 144 = .ok (.dup2, 1) := by decide +kernel
theorem dX4_bid_145 : decode cX4_bid 145 = .ok (.iaload, 1) := by decide +kernel
theorem dX4_bid_146 : decode cX4_bid 146 = .ok (.aload_n 0, 1) := by decide +kernel
theorem dX4_bid_147 : decode cX4_bid 147 = .ok (.getfield 22, 3) := by decide +kernel
theorem dX4_bid_150 : decode cX4_bid 150 = .ok (.iload 5, 2) := by decide +kernel
theorem dX4_bid_152 : decode cX4_bid 152 = .ok (.iaload, 1) := by decide +kernel
theorem dX4_bid_153 : decode cX4_bid 153 = .ok (.iadd, 1) := by decide +kernel
theorem dX4_bid_154 : decode cX4_bid 154 = .ok (.iastore, 1) := by decide +kernel
theorem dX4_bid_155 : decode cX4_bid 155 = .ok (.aload_n 0, 1) := by decide +kernel
theorem dX4_bid_156 : decode cX4_bid 156 = .ok (.getfield 16, 3) := by decide +kernel
theorem dX4_bid_159 : decode cX4_bid 159 = .ok (.iload 5, 2) := by decide +kernel
theorem dX4_bid_161 : decode cX4_bid 161 = .ok (.iload_n 1, 1) := by decide +kernel
theorem dX4_bid_162 : decode cX4_bid 162 = .ok (.iastore, 1) := by decide +kernel
theorem dX4_bid_163 : decode cX4_bid 163 = .ok (.aload_n 0, 1) := by decide +kernel
theorem dX4_bid_164 : decode cX4_bid 164 = .ok (.getfield 19, 3) := by decide +kernel
theorem dX4_bid_167 : decode cX4_bid 167 = .ok (.iload 5, 2) := by decide +kernel
theorem dX4_bid_169 : decode cX4_bid 169 = .ok (.iconst 0, 1) := by decide +kernel
theorem dX4_bid_170 : decode cX4_bid 170 = .ok (.iastore, 1) := by decide +kernel
theorem dX4_bid_171 : decode cX4_bid 171 = .ok (.iload 5, 2) := by decide +kernel
theorem dX4_bid_173 : decode cX4_bid 173 = .ok (.ireturn, 1) := by decide +kernel
theorem dX4_bid_174 : decode cX4_bid 174 = .ok (.aload_n 0, 1) := by decide +kernel
theorem dX4_bid_175 : decode cX4_bid 175 = .ok (.getfield 7, 3) := by decide +kernel
theorem dX4_bid_178 : decode cX4_bid 178 = .ok (.iload_n 1, 1) := by decide +kernel
theorem dX4_bid_179 : decode cX4_bid 179 = .ok (.dup2, 1) := by decide +kernel
theorem dX4_bid_180 : decode cX4_bid 180 = .ok (.iaload, 1) := by decide +kernel
theorem dX4_bid_181 : decode cX4_bid 181 = .ok (.iload_n 3, 1) := by decide +kernel
theorem dX4_bid_182 : decode cX4_bid 182 = .ok (.isub, 1) := by decide +kernel
theorem dX4_bid_183 : decode cX4_bid 183 = .ok (.iastore, 1) := by decide +kernel
theorem dX4_bid_184 : decode cX4_bid 184 = .ok (.aload_n 0, 1) := by decide +kernel
theorem dX4_bid_185 : decode cX4_bid 185 = .ok (.getfield 37, 3) := by decide +kernel
theorem dX4_bid_188 : decode cX4_bid 188 = .ok (.bipush 8, 2) := by decide +kernel
theorem dX4_bid_190 : decode cX4_bid 190 = .ok (.iload_n 1, 1) := by decide +kernel
theorem dX4_bid_191 : decode cX4_bid 191 = .ok (.imul, 1) := by decide +kernel
theorem dX4_bid_192 : decode cX4_bid 192 = .ok (.iload_n 2, 1) := by decide +kernel
theorem dX4_bid_193 : decode cX4_bid 193 = .ok (.iadd, 1) := by decide +kernel
theorem dX4_bid_194 : decode cX4_bid 194 = .ok (.iload_n 3, 1) := by decide +kernel
theorem dX4_bid_195 : decode cX4_bid 195 = .ok (.iastore, 1) := by decide +kernel
theorem dX4_bid_196 : decode cX4_bid 196 = .ok (.aload_n 0, 1) := by decide +kernel
theorem dX4_bid_197 : decode cX4_bid 197 = .ok (.getfield 40, 3) := by decide +kernel
theorem dX4_bid_200 : decode cX4_bid 200 = .ok (.bipush 8, 2) := by decide +kernel
theorem dX4_bid_202 : decode cX4_bid 202 = .ok (.iload_n 1, 1) := by decide +kernel
theorem dX4_bid_203 : decode cX4_bid 203 = .ok (.imul, 1) := by decide +kernel
theorem dX4_bid_204 : decode cX4_bid 204 = .ok (.iload_n 2, 1) := by decide +kernel
theorem dX4_bid_205 : decode cX4_bid 205 = .ok (.iadd, 1) := by decide +kernel
theorem dX4_bid_206 : decode cX4_bid 206 = .ok (.aload_n 0, 1) := by decide +kernel
theorem dX4_bid_207 : decode cX4_bid 207 = .ok (.getfield 93, 3) := by decide +kernel
theorem dX4_bid_210 : decode cX4_bid 210 = .ok (.iastore, 1) := by decide +kernel
theorem dX4_bid_211 : decode cX4_bid 211 = .ok (.iconst (-1), 1) := by decide +kernel
theorem dX4_bid_212 : decode cX4_bid 212 = .ok (.ireturn, 1) := by decide +kernel
theorem dX4_cancelSale_0 : decode cX4_cancelSale 0 = .ok (.aload_n 0, 1) := by decide +kernel
theorem dX4_cancelSale_1 : decode cX4_cancelSale 1 = .ok (.iload_n 1, 1) := by decide +kernel
theorem dX4_cancelSale_2 : decode cX4_cancelSale 2 = .ok (.invokevirtual 75, 3) := by decide +kernel
theorem dX4_cancelSale_5 : decode cX4_cancelSale 5 = .ok (.istore_n 2, 1) := by decide +kernel
theorem dX4_cancelSale_6 : decode cX4_cancelSale 6 = .ok (.aload_n 0, 1) := by decide +kernel
theorem dX4_cancelSale_7 : decode cX4_cancelSale 7 = .ok (.iload_n 2, 1) := by decide +kernel
theorem dX4_cancelSale_8 : decode cX4_cancelSale 8 = .ok (.iload_n 2, 1) := by decide +kernel
theorem dX4_cancelSale_9 : decode cX4_cancelSale 9 = .ok (.ifCond .eq 17, 3) := by decide +kernel
theorem dX4_cancelSale_12 : decode cX4_cancelSale 12 = .ok (.aload_n 0, 1) := by decide +kernel
theorem dX4_cancelSale_13 : decode cX4_cancelSale 13 = .ok (.getfield 19, 3) := by decide +kernel
theorem dX4_cancelSale_16 : decode cX4_cancelSale 16 = .ok (.iload_n 1, 1) := by decide +kernel
theorem dX4_cancelSale_17 : decode cX4_cancelSale 17 = .ok (.iaload, 1) := by decide +kernel
theorem dX4_cancelSale_18 : decode cX4_cancelSale 18 = .ok (.iconst 1, 1) := by decide +kernel
theorem dX4_cancelSale_19 : decode cX4_cancelSale 19 = .ok (.if_icmp .ne 7, 3) := by decide +kernel
theorem dX4_cancelSale_22 : decode cX4_cancelSale 22 = .ok (.iconst 1, 1) := by decide +kernel
theorem dX4_cancelSale_23 : decode cX4_cancelSale 23 = .ok (.goto 4, 3) := by decide +kernel
theorem dX4_cancelSale_26 : decode cX4_cancelSale 26 = .ok (.iconst 0, 1) := by decide +kernel
theorem dX4_cancelSale_27 : decode cX4_cancelSale 27 = .ok (.invokevirtual 71, 3) := by decide +kernel
theorem dX4_cancelSale_30 : decode cX4_cancelSale 30 = .ok (.ifCond .ne 5, 3) := by decide +kernel
theorem dX4_cancelSale_33 : decode cX4_cancelSale 33 = .ok (.iconst 0, 1) := by decide +kernel
theorem dX4_cancelSale_34 : decode cX4_cancelSale 34 = .ok (.ireturn, 1) := by decide +kernel
theorem dX4_cancelSale_35 : decode cX4_cancelSale 35 = .ok (.aload_n 0, 1) := by decide +kernel
theorem dX4_cancelSale_36 : decode cX4_cancelSale 36 = .ok (.getfield 19, 3) := by decide +kernel
theorem dX4_cancelSale_39 : decode cX4_cancelSale 39 = .ok (.iload_n 1, 1) := by decide +kernel
theorem dX4_cancelSale_40 : decode cX4_cancelSale 40 = .ok (.iconst 0, 1) := by decide +kernel
theorem dX4_cancelSale_41 : decode cX4_cancelSale 41 = .ok (.iastore, 1) := by decide +kernel
theorem dX4_cancelSale_42 : decode cX4_cancelSale 42 = .ok (.aload_n 0, 1) := by decide +kernel
theorem dX4_cancelSale_43 : decode cX4_cancelSale 43 = .ok (.getfield 22, 3) := by decide +kernel
theorem dX4_cancelSale_46 : decode cX4_cancelSale 46 = .ok (.iload_n 1, 1) := by decide +kernel
theorem dX4_cancelSale_47 : decode cX4_cancelSale 47 = .ok (.iaload, 1) := by decide +kernel
theorem dX4_cancelSale_48 : decode cX4_cancelSale 48 = .ok (.ireturn, 1) := by decide +kernel
theorem dX4_cancelBid_0 : decode cX4_cancelBid 0 = .ok (.iload_n 1, 1) := by decide +kernel
theorem dX4_cancelBid_1 : decode cX4_cancelBid 1 = .ok (.invokestatic 64, 3) := by decide +kernel
theorem dX4_cancelBid_4 : decode cX4_cancelBid 4 = .ok (.ifCond .eq 14, 3) := by decide +kernel
theorem dX4_cancelBid_7 : decode cX4_cancelBid 7 = .ok (.iload_n 2, 1) := by decide +kernel
theorem dX4_cancelBid_8 : decode cX4_cancelBid 8 = .ok (.invokestatic 68, 3) := by decide +kernel
theorem dX4_cancelBid_11 : decode cX4_cancelBid 11 = .ok (.ifCond .eq 7, 3) := by decide +kernel
theorem dX4_cancelBid_14 : decode cX4_cancelBid 14 = .ok (.iconst 1, 1) := by decide +kernel
theorem dX4_cancelBid_15 : decode cX4_cancelBid 15 = .ok (.goto 4, 3) := by decide +kernel
theorem dX4_cancelBid_18 : decode cX4_cancelBid 18 = .ok (.iconst 0, 1) := by decide +kernel
theorem dX4_cancelBid_19 : decode cX4_cancelBid 19 = .ok (.istore_n 3, 1) := by decide +kernel
theorem dX4_cancelBid_20 : decode cX4_cancelBid 20 = .ok (.aload_n 0, 1) := by decide +kernel
theorem dX4_cancelBid_21 : decode cX4_cancelBid 21 = .ok (.iload_n 3, 1) := by decide +kernel
theorem dX4_cancelBid_22 : decode cX4_cancelBid 22 = .ok (.iload_n 3, 1) := by decide +kernel
theorem dX4_cancelBid_23 : decode cX4_cancelBid 23 = .ok (.ifCond .eq 21, 3) := by decide +kernel
theorem dX4_cancelBid_26 : decode cX4_cancelBid 26 = .ok (.aload_n 0, 1) := by decide +kernel
theorem dX4_cancelBid_27 : decode cX4_cancelBid 27 = .ok (.getfield 37, 3) := by decide +kernel
theorem dX4_cancelBid_30 : decode cX4_cancelBid 30 = .ok (.bipush 8, 2) := by decide +kernel
theorem dX4_cancelBid_32 : decode cX4_cancelBid 32 = .ok (.iload_n 1, 1) := by decide +kernel
theorem dX4_cancelBid_33 : decode cX4_cancelBid 33 = .ok (.imul, 1) := by decide +kernel
theorem dX4_cancelBid_34 : decode cX4_cancelBid 34 = .ok (.iload_n 2, 1) := by decide +kernel
theorem dX4_cancelBid_35 : decode cX4_cancelBid 35 = .ok (.iadd, 1) := by decide +kernel
theorem dX4_cancelBid_36 : decode cX4_cancelBid 36 = .ok (.iaload, 1) := by decide +kernel
theorem dX4_cancelBid_37 : decode cX4_cancelBid 37 = .ok (.ifCond .le 7, 3) := by decide +kernel
theorem dX4_cancelBid_40 : decode cX4_cancelBid 40 = .ok (.iconst 1, 1) := by decide +kernel
theorem dX4_cancelBid_41 : decode cX4_cancelBid 41 = .ok (.goto 4, 3) := by decide +kernel
theorem dX4_cancelBid_44 : decode cX4_cancelBid 44 = .ok (.iconst 0, 1) := by decide +kernel
theorem dX4_cancelBid_45 : decode cX4_cancelBid 45 = .ok (.invokevirtual 71, 3) := by decide +kernel
theorem dX4_cancelBid_48 : decode cX4_cancelBid 48 = .ok (.ifCond .ne 5, 3) := by decide +kernel
theorem dX4_cancelBid_51 : decode cX4_cancelBid 51 = .ok (.iconst 0, 1) := by decide +kernel
theorem dX4_cancelBid_52 : decode cX4_cancelBid 52 = .ok (.ireturn, 1) := by decide +kernel
theorem dX4_cancelBid_53 : decode cX4_cancelBid 53 = .ok (.aload_n 0, 1) := by decide +kernel
theorem dX4_cancelBid_54 : decode cX4_cancelBid 54 = .ok (.getfield 37, 3) := by decide +kernel
theorem dX4_cancelBid_57 : decode cX4_cancelBid 57 = .ok (.bipush 8, 2) := by decide +kernel
theorem dX4_cancelBid_59 : decode cX4_cancelBid 59 = .ok (.iload_n 1, 1) := by decide +kernel
theorem dX4_cancelBid_60 : decode cX4_cancelBid 60 = .ok (.imul, 1) := by decide +kernel
theorem dX4_cancelBid_61 : decode cX4_cancelBid 61 = .ok (.iload_n 2, 1) := by decide +kernel
theorem dX4_cancelBid_62 : decode cX4_cancelBid 62 = .ok (.iadd, 1) := by decide +kernel
theorem dX4_cancelBid_63 : decode cX4_cancelBid 63 = .ok (.iaload, 1) := by decide +kernel
theorem dX4_cancelBid_64 : decode cX4_cancelBid 64 = .ok (.istore 4, 2) := by decide +kernel
theorem dX4_cancelBid_66 : decode cX4_cancelBid 66 = .ok (.aload_n 0, 1) := by decide +kernel
theorem dX4_cancelBid_67 : decode cX4_cancelBid 67 = .ok (.getfield 7, 3) := by decide +kernel
theorem dX4_cancelBid_70 : decode cX4_cancelBid 70 = .ok (.iload_n 1, 1) := by decide +kernel
theorem dX4_cancelBid_71 : decode cX4_cancelBid 71 = .ok (.dup2, 1) := by decide +kernel
theorem dX4_cancelBid_72 : decode cX4_cancelBid 72 = .ok (.iaload, 1) := by decide +kernel
theorem dX4_cancelBid_73 : decode cX4_cancelBid 73 = .ok (.iload 4, 2) := by decide +kernel
theorem dX4_cancelBid_75 : decode cX4_cancelBid 75 = .ok (.iadd, 1) := by decide +kernel
theorem dX4_cancelBid_76 : decode cX4_cancelBid 76 = .ok (.iastore, 1) := by decide +kernel
theorem dX4_cancelBid_77 : decode cX4_cancelBid 77 = .ok (.aload_n 0, 1) := by decide +kernel
theorem dX4_cancelBid_78 : decode cX4_cancelBid 78 = .ok (.getfield 37, 3) := by decide +kernel
theorem dX4_cancelBid_81 : decode cX4_cancelBid 81 = .ok (.bipush 8, 2) := by decide +kernel
theorem dX4_cancelBid_83 : decode cX4_cancelBid 83 = .ok (.iload_n 1, 1) := by decide +kernel
theorem dX4_cancelBid_84 : decode cX4_cancelBid 84 = .ok (.imul, 1) := by decide +kernel
theorem dX4_cancelBid_85 : decode cX4_cancelBid 85 = .ok (.iload_n 2, 1) := by decide +kernel
theorem dX4_cancelBid_86 : decode cX4_cancelBid 86 = .ok (.iadd, 1) := by decide +kernel
theorem dX4_cancelBid_87 : decode cX4_cancelBid 87 = .ok (.iconst 0, 1) := by decide +kernel
theorem dX4_cancelBid_88 : decode cX4_cancelBid 88 = .ok (.iastore, 1) := by decide +kernel
theorem dX4_cancelBid_89 : decode cX4_cancelBid 89 = .ok (.iload 4, 2) := by decide +kernel
theorem dX4_cancelBid_91 : decode cX4_cancelBid 91 = .ok (.ireturn, 1) := by decide +kernel
theorem dX4_leastSale_0 : decode cX4_leastSale 0 = .ok (.aload_n 0, 1) := by decide +kernel
theorem dX4_leastSale_1 : decode cX4_leastSale 1 = .ok (.iload_n 1, 1) := by decide +kernel
theorem dX4_leastSale_2 : decode cX4_leastSale 2 = .ok (.invokestatic 68, 3) := by decide +kernel
theorem dX4_leastSale_5 : decode cX4_leastSale 5 = .ok (.invokevirtual 78, 3) := by decide +kernel
theorem dX4_leastSale_8 : decode cX4_leastSale 8 = .ok (.ifCond .ne 5, 3) := by decide +kernel
theorem dX4_leastSale_11 : decode cX4_leastSale 11 = .ok (.iconst 0, 1) := by decide +kernel
theorem dX4_leastSale_12 : decode cX4_leastSale 12 = .ok (.ireturn, 1) := by decide +kernel
theorem dX4_leastSale_13 : decode cX4_leastSale 13 = .ok (.aload_n 0, 1) := by decide +kernel
theorem dX4_leastSale_14 : decode cX4_leastSale 14 = .ok (.iload_n 1, 1) := by decide +kernel
theorem dX4_leastSale_15 : decode cX4_leastSale 15 = .ok (.iconst (-1), 1) := by decide +kernel
theorem dX4_leastSale_16 : decode cX4_leastSale 16 = .ok (.invokevirtual 100, 3) := by decide +kernel
theorem dX4_leastSale_19 : decode cX4_leastSale 19 = .ok (.istore_n 2, 1) := by decide +kernel
theorem dX4_leastSale_20 : decode cX4_leastSale 20 = .ok (.iload_n 2, 1) := by decide +kernel
theorem dX4_leastSale_21 : decode cX4_leastSale 21 = .ok (.iconst (-1), 1) := by decide +kernel
theorem dX4_leastSale_22 : decode cX4_leastSale 22 = .ok (.if_icmp .ne 7, 3) := by decide +kernel
theorem dX4_leastSale_25 : decode cX4_leastSale 25 = .ok (.iconst (-1), 1) := by decide +kernel
theorem dX4_leastSale_26 : decode cX4_leastSale 26 = .ok (.goto 9, 3) := by decide +kernel
theorem dX4_leastSale_29 : decode cX4_leastSale 29 = .ok (.aload_n 0, 1) := by decide +kernel
theorem dX4_leastSale_30 : decode cX4_leastSale 30 = .ok (.getfield 22, 3) := by decide +kernel
theorem dX4_leastSale_33 : decode cX4_leastSale 33 = .ok (.iload_n 2, 1) := by decide +kernel
theorem dX4_leastSale_34 : decode cX4_leastSale 34 = .ok (.iaload, 1) := by decide +kernel
theorem dX4_leastSale_35 : decode cX4_leastSale 35 = .ok (.ireturn, 1) := by decide +kernel
theorem dX4_greatestBid_0 : decode cX4_greatestBid 0 = .ok (.aload_n 0, 1) := by decide +kernel
theorem dX4_greatestBid_1 : decode cX4_greatestBid 1 = .ok (.iload_n 1, 1) := by decide +kernel
theorem dX4_greatestBid_2 : decode cX4_greatestBid 2 = .ok (.invokestatic 68, 3) := by decide +kernel
theorem dX4_greatestBid_5 : decode cX4_greatestBid 5 = .ok (.invokevirtual 78, 3) := by decide +kernel
theorem dX4_greatestBid_8 : decode cX4_greatestBid 8 = .ok (.ifCond .ne 5, 3) := by decide +kernel
theorem dX4_greatestBid_11 : decode cX4_greatestBid 11 = .ok (.iconst 0, 1) := by decide +kernel
theorem dX4_greatestBid_12 : decode cX4_greatestBid 12 = .ok (.ireturn, 1) := by decide +kernel
theorem dX4_greatestBid_13 : decode cX4_greatestBid 13 = .ok (.aload_n 0, 1) := by decide +kernel
theorem dX4_greatestBid_14 : decode cX4_greatestBid 14 = .ok (.iload_n 1, 1) := by decide +kernel
theorem dX4_greatestBid_15 : decode cX4_greatestBid 15 = .ok (.iconst (-1), 1) := by decide +kernel
theorem dX4_greatestBid_16 : decode cX4_greatestBid 16 = .ok (.invokevirtual 96, 3) := by decide +kernel
theorem dX4_greatestBid_19 : decode cX4_greatestBid 19 = .ok (.istore_n 2, 1) := by decide +kernel
theorem dX4_greatestBid_20 : decode cX4_greatestBid 20 = .ok (.iload_n 2, 1) := by decide +kernel
theorem dX4_greatestBid_21 : decode cX4_greatestBid 21 = .ok (.iconst (-1), 1) := by decide +kernel
theorem dX4_greatestBid_22 : decode cX4_greatestBid 22 = .ok (.if_icmp .ne 7, 3) := by decide +kernel
theorem dX4_greatestBid_25 : decode cX4_greatestBid 25 = .ok (.iconst (-1), 1) := by decide +kernel
theorem dX4_greatestBid_26 : decode cX4_greatestBid 26 = .ok (.goto 14, 3) := by decide +kernel
theorem dX4_greatestBid_29 : decode cX4_greatestBid 29 = .ok (.aload_n 0, 1) := by decide +kernel
theorem dX4_greatestBid_30 : decode cX4_greatestBid 30 = .ok (.getfield 37, 3) := by decide +kernel
theorem dX4_greatestBid_33 : decode cX4_greatestBid 33 = .ok (.bipush 8, 2) := by decide +kernel
theorem dX4_greatestBid_35 : decode cX4_greatestBid 35 = .ok (.iload_n 2, 1) := by decide +kernel
theorem dX4_greatestBid_36 : decode cX4_greatestBid 36 = .ok (.imul, 1) := by decide +kernel
theorem dX4_greatestBid_37 : decode cX4_greatestBid 37 = .ok (.iload_n 1, 1) := by decide +kernel
theorem dX4_greatestBid_38 : decode cX4_greatestBid 38 = .ok (.iadd, 1) := by decide +kernel
theorem dX4_greatestBid_39 : decode cX4_greatestBid 39 = .ok (.iaload, 1) := by decide +kernel
theorem dX4_greatestBid_40 : decode cX4_greatestBid 40 = .ok (.ireturn, 1) := by decide +kernel
theorem dX4_swap_0 : decode cX4_swap 0 = .ok (.aload_n 0, 1) := by decide +kernel
theorem dX4_swap_1 : decode cX4_swap 1 = .ok (.iload_n 1, 1) := by decide +kernel
theorem dX4_swap_2 : decode cX4_swap 2 = .ok (.invokevirtual 75, 3) := by decide +kernel
theorem dX4_swap_5 : decode cX4_swap 5 = .ok (.ifCond .eq 15, 3) := by decide +kernel
theorem dX4_swap_8 : decode cX4_swap 8 = .ok (.aload_n 0, 1) := by decide +kernel
theorem dX4_swap_9 : decode cX4_swap 9 = .ok (.iload_n 2, 1) := by decide +kernel
theorem dX4_swap_10 : decode cX4_swap 10 = .ok (.invokevirtual 75, 3) := by decide +kernel
theorem dX4_swap_13 : decode cX4_swap 13 = .ok (.ifCond .eq 7, 3) := by decide +kernel
theorem dX4_swap_16 : decode cX4_swap 16 = .ok (.iconst 1, 1) := by decide +kernel
theorem dX4_swap_17 : decode cX4_swap 17 = .ok (.goto 4, 3) := by decide +kernel
theorem dX4_swap_20 : decode cX4_swap 20 = .ok (.iconst 0, 1) := by decide +kernel
theorem dX4_swap_21 : decode cX4_swap 21 = .ok (.istore_n 3, 1) := by decide +kernel
theorem dX4_swap_22 : decode cX4_swap 22 = .ok (.aload_n 0, 1) := by decide +kernel
theorem dX4_swap_23 : decode cX4_swap 23 = .ok (.iload_n 3, 1) := by decide +kernel
theorem dX4_swap_24 : decode cX4_swap 24 = .ok (.iload_n 3, 1) := by decide +kernel
theorem dX4_swap_25 : decode cX4_swap 25 = .ok (.ifCond .eq 22, 3) := by decide +kernel
theorem dX4_swap_28 : decode cX4_swap 28 = .ok (.aload_n 0, 1) := by decide +kernel
theorem dX4_swap_29 : decode cX4_swap 29 = .ok (.getfield 16, 3) := by decide +kernel
theorem dX4_swap_32 : decode cX4_swap 32 = .ok (.iload_n 1, 1) := by decide +kernel
theorem dX4_swap_33 : decode cX4_swap 33 = .ok (.iaload, 1) := by decide +kernel
theorem dX4_swap_34 : decode cX4_swap 34 = .ok (.aload_n 0, 1) := by decide +kernel
theorem dX4_swap_35 : decode cX4_swap 35 = .ok (.getfield 16, 3) := by decide +kernel
theorem dX4_swap_38 : decode cX4_swap 38 = .ok (.iload_n 2, 1) := by decide +kernel
theorem dX4_swap_39 : decode cX4_swap 39 = .ok (.iaload, 1) := by decide +kernel
theorem dX4_swap_40 : decode cX4_swap 40 = .ok (.if_icmp .eq 7, 3) := by decide +kernel
theorem dX4_swap_43 : decode cX4_swap 43 = .ok (.iconst 1, 1) := by decide +kernel
theorem dX4_swap_44 : decode cX4_swap 44 = .ok (.goto 4, 3) := by decide +kernel
theorem dX4_swap_47 : decode cX4_swap 47 = .ok (.iconst 0, 1) := by decide +kernel
theorem dX4_swap_48 : decode cX4_swap 48 = .ok (.iload_n 3, 1) := by decide +kernel
theorem dX4_swap_49 : decode cX4_swap 49 = .ok (.ifCond .eq 16, 3) := by decide +kernel
theorem dX4_swap_52 : decode cX4_swap 52 = .ok (.aload_n 0, 1) := by decide +kernel
theorem dX4_swap_53 : decode cX4_swap 53 = .ok (.getfield 19, 3) := by decide +kernel
theorem dX4_swap_56 : decode cX4_swap 56 = .ok (.iload_n 1, 1) := by decide +kernel
theorem dX4_swap_57 : decode cX4_swap 57 = .ok (.iaload, 1) := by decide +kernel
theorem dX4_swap_58 : decode cX4_swap 58 = .ok (.ifCond .ne 7, 3) := by decide +kernel
theorem dX4_swap_61 : decode cX4_swap 61 = .ok (.iconst 1, 1) := by decide +kernel
theorem dX4_swap_62 : decode cX4_swap 62 = .ok (.goto 4, 3) := by decide +kernel
theorem dX4_swap_65 : decode cX4_swap 65 = .ok (.iconst 0, 1) := by decide +kernel
theorem dX4_swap_66 : decode cX4_swap 66 = .ok (.invokevirtual 90, 3) := by decide +kernel
theorem dX4_swap_69 : decode cX4_swap 69 = .ok (.ifCond .eq 17, 3) := by decide +kernel
theorem dX4_swap_72 : decode cX4_swap 72 = .ok (.aload_n 0, 1) := by decide +kernel
theorem dX4_swap_73 : decode cX4_swap 73 = .ok (.getfield 19, 3) := by decide +kernel
theorem dX4_swap_76 : decode cX4_swap 76 = .ok (.iload_n 1, 1) := by decide +kernel
theorem dX4_swap_77 : decode cX4_swap 77 = .ok (.iconst 2, 1) := by decide +kernel
theorem dX4_swap_78 : decode cX4_swap 78 = .ok (.iastore, 1) := by decide +kernel
theorem dX4_swap_79 : decode cX4_swap 79 = .ok (.aload_n 0, 1) := by decide +kernel
theorem dX4_swap_80 : decode cX4_swap 80 = .ok (.getfield 28, 3) := by decide +kernel
theorem dX4_swap_83 : decode cX4_swap 83 = .ok (.iload_n 1, 1) := by decide +kernel
theorem dX4_swap_84 : decode cX4_swap 84 = .ok (.iload_n 2, 1) := by decide +kernel
theorem dX4_swap_85 : decode cX4_swap 85 = .ok (.iastore, 1) := by decide +kernel
theorem dX4_swap_86 : decode cX4_swap 86 = .ok (.return_, 1) := by decide +kernel
theorem dX4_agree_0 : decode cX4_agree 0 = .ok (.aload_n 0, 1) := by decide +kernel
theorem dX4_agree_1 : decode cX4_agree 1 = .ok (.iload_n 1, 1) := by decide +kernel
theorem dX4_agree_2 : decode cX4_agree 2 = .ok (.invokevirtual 75, 3) := by decide +kernel
theorem dX4_agree_5 : decode cX4_agree 5 = .ok (.istore_n 2, 1) := by decide +kernel
theorem dX4_agree_6 : decode cX4_agree 6 = .ok (.iload_n 2, 1) := by decide +kernel
theorem dX4_agree_7 : decode cX4_agree 7 = .ok (.ifCond .eq 17, 3) := by decide +kernel
theorem dX4_agree_10 : decode cX4_agree 10 = .ok (.aload_n 0, 1) := by decide +kernel
theorem dX4_agree_11 : decode cX4_agree 11 = .ok (.getfield 19, 3) := by decide +kernel
theorem dX4_agree_14 : decode cX4_agree 14 = .ok (.iload_n 1, 1) := by decide +kernel
theorem dX4_agree_15 : decode cX4_agree 15 = .ok (.iaload, 1) := by decide +kernel
theorem dX4_agree_16 : decode cX4_agree 16 = .ok (.iconst 2, 1) := by decide +kernel
theorem dX4_agree_17 : decode cX4_agree 17 = .ok (.if_icmp .ne 7, 3) := by decide +kernel
theorem dX4_agree_20 : decode cX4_agree 20 = .ok (.iconst 1, 1) := by decide +kernel
theorem dX4_agree_21 : decode cX4_agree 21 = .ok (.goto 4, 3) := by decide +kernel
theorem dX4_agree_24 : decode cX4_agree 24 = .ok (.iconst 0, 1) := by decide +kernel
theorem dX4_agree_25 : decode cX4_agree 25 = .ok (.istore_n 3, 1) := by decide +kernel
theorem dX4_agree_26 : decode cX4_agree 26 = .ok (.iload_n 3, 1) := by decide +kernel
theorem dX4_agree_27 : decode cX4_agree 27 = .ok (.ifCond .eq 12, 3) := by decide +kernel
theorem dX4_agree_30 : decode cX4_agree 30 = .ok (.aload_n 0, 1) := by decide +kernel
theorem dX4_agree_31 : decode cX4_agree 31 = .ok (.getfield 28, 3) := by decide +kernel
theorem dX4_agree_34 : decode cX4_agree 34 = .ok (.iload_n 1, 1) := by decide +kernel
theorem dX4_agree_35 : decode cX4_agree 35 = .ok (.iaload, 1) := by decide +kernel
theorem dX4_agree_36 : decode cX4_agree 36 = .ok (.goto 4, 3) := by decide +kernel
theorem dX4_agree_39 : decode cX4_agree 39 = .ok (.iconst 0, 1) := by decide +kernel
theorem dX4_agree_40 : decode cX4_agree 40 = .ok (.istore 4, 2) := by decide +kernel
theorem dX4_agree_42 : decode cX4_agree 42 = .ok (.aload_n 0, 1) := by decide +kernel
theorem dX4_agree_43 : decode cX4_agree 43 = .ok (.iload_n 2, 1) := by decide +kernel
theorem dX4_agree_44 : decode cX4_agree 44 = .ok (.iload_n 3, 1) := by decide +kernel
theorem dX4_agree_45 : decode cX4_agree 45 = .ok (.ifCond .eq 33, 3) := by decide +kernel
theorem dX4_agree_48 : decode cX4_agree 48 = .ok (.aload_n 0, 1) := by decide +kernel
theorem dX4_agree_49 : decode cX4_agree 49 = .ok (.getfield 19, 3) := by decide +kernel
theorem dX4_agree_52 : decode cX4_agree 52 = .ok (.iload 4, 2) := by decide +kernel
theorem dX4_agree_54 : decode cX4_agree 54 = .ok (.iaload, 1) := by decide +kernel
theorem dX4_agree_55 : decode cX4_agree 55 = .ok (.ifCond .ne 23, 3) := by decide +kernel
theorem dX4_agree_58 : decode cX4_agree 58 = .ok (.aload_n 0, 1) := by decide +kernel
theorem dX4_agree_59 : decode cX4_agree 59 = .ok (.getfield 16, 3) := by decide +kernel
theorem dX4_agree_62 : decode cX4_agree 62 = .ok (.iload_n 1, 1) := by decide +kernel
theorem dX4_agree_63 : decode cX4_agree 63 = .ok (.iaload, 1) := by decide +kernel
theorem dX4_agree_64 : decode cX4_agree 64 = .ok (.aload_n 0, 1) := by decide +kernel
theorem dX4_agree_65 : decode cX4_agree 65 = .ok (.getfield 16, 3) := by decide +kernel
theorem dX4_agree_68 : decode cX4_agree 68 = .ok (.iload 4, 2) := by decide +kernel
theorem dX4_agree_70 : decode cX4_agree 70 = .ok (.iaload, 1) := by decide +kernel
theorem dX4_agree_71 : decode cX4_agree 71 = .ok (.if_icmp .eq 7, 3) := by decide +kernel
theorem dX4_agree_74 : decode cX4_agree 74 = .ok (.iconst 1, 1) := by decide +kernel
theorem dX4_agree_75 : decode cX4_agree 75 = .ok (.goto 4, 3) := by decide +kernel
theorem dX4_agree_78 : decode cX4_agree 78 = .ok (.iconst 0, 1) := by decide +kernel
theorem dX4_agree_79 : decode cX4_agree 79 = .ok (.invokevirtual 71, 3) := by decide +kernel
theorem dX4_agree_82 : decode cX4_agree 82 = .ok (.ifCond .ne 5, 3) := by decide +kernel
theorem dX4_agree_85 : decode cX4_agree 85 = .ok (.iconst 0, 1) := by decide +kernel
theorem dX4_agree_86 : decode cX4_agree 86 = .ok (.ireturn, 1) := by decide +kernel
theorem dX4_agree_87 : decode cX4_agree 87 = .ok (.aload_n 0, 1) := by decide +kernel
theorem dX4_agree_88 : decode cX4_agree 88 = .ok (.getfield 16, 3) := by decide +kernel
theorem dX4_agree_91 : decode cX4_agree 91 = .ok (.iload_n 1, 1) := by decide +kernel
theorem dX4_agree_92 : decode cX4_agree 92 = .ok (.iaload, 1) := by decide +kernel
theorem dX4_agree_93 : decode cX4_agree 93 = .ok (.istore 5, 2) := by decide +kernel
theorem dX4_agree_95 : decode cX4_agree 95 = .ok (.aload_n 0, 1) := by decide +kernel
theorem dX4_agree_96 : decode cX4_agree 96 = .ok (.getfield 16, 3) := by decide +kernel
theorem dX4_agree_99 : decode cX4_agree 99 = .ok (.iload_n 1, 1) := by decide +kernel
theorem dX4_agree_100 : decode cX4_agree 100 = .ok (.aload_n 0, 1) := by decide +kernel
theorem dX4_agree_101 : decode cX4_agree 101 = .ok (.getfield 16, 3) := by decide +kernel
theorem dX4_agree_104 : decode cX4_agree 104 = .ok (.iload 4, 2) := by decide +kernel
theorem dX4_agree_106 : decode cX4_agree 106 = .ok (.iaload, 1) := by decide +kernel
theorem dX4_agree_107 : decode cX4_agree 107 = .ok (.iastore, 1) := by decide +kernel
theorem dX4_agree_108 : decode cX4_agree 108 = .ok (.aload_n 0, 1) := by decide +kernel
theorem dX4_agree_109 : decode cX4_agree 109 = .ok (.getfield 16, 3) := by decide +kernel
theorem dX4_agree_112 : decode cX4_agree 112 = .ok (.iload 4, 2) := by decide +kernel
theorem dX4_agree_114 : decode cX4_agree 114 = .ok (.iload 5, 2) := by decide +kernel
theorem dX4_agree_116 : decode cX4_agree 116 = .ok (.iastore, 1) := by decide +kernel
theorem dX4_agree_117 : decode cX4_agree 117 = .ok (.aload_n 0, 1) := by decide +kernel
theorem dX4_agree_118 : decode cX4_agree 118 = .ok (.getfield 19, 3) := by decide +kernel
theorem dX4_agree_121 : decode cX4_agree 121 = .ok (.iload_n 1, 1) := by decide +kernel
theorem dX4_agree_122 : decode cX4_agree 122 = .ok (.iconst 0, 1) := by decide +kernel
theorem dX4_agree_123 : decode cX4_agree 123 = .ok (.iastore, 1) := by decide +kernel
theorem dX4_agree_124 : decode cX4_agree 124 = .ok (.iload 4, 2) := by decide +kernel
theorem dX4_agree_126 : decode cX4_agree 126 = .ok (.ireturn, 1) := by decide +kernel
theorem dX4_cancelSwap_0 : decode cX4_cancelSwap 0 = .ok (.aload_n 0, 1) := by decide +kernel
theorem dX4_cancelSwap_1 : decode cX4_cancelSwap 1 = .ok (.iload_n 1, 1) := by decide +kernel
theorem dX4_cancelSwap_2 : decode cX4_cancelSwap 2 = .ok (.invokevirtual 75, 3) := by decide +kernel
theorem dX4_cancelSwap_5 : decode cX4_cancelSwap 5 = .ok (.istore_n 2, 1) := by decide +kernel
theorem dX4_cancelSwap_6 : decode cX4_cancelSwap 6 = .ok (.aload_n 0, 1) := by decide +kernel
theorem dX4_cancelSwap_7 : decode cX4_cancelSwap 7 = .ok (.iload_n 2, 1) := by decide +kernel
theorem dX4_cancelSwap_8 : decode cX4_cancelSwap 8 = .ok (.iload_n 2, 1) := by decide +kernel
theorem dX4_cancelSwap_9 : decode cX4_cancelSwap 9 = .ok (.ifCond .eq 17, 3) := by decide +kernel
theorem dX4_cancelSwap_12 : decode cX4_cancelSwap 12 = .ok (.aload_n 0, 1) := by decide +kernel
theorem dX4_cancelSwap_13 : decode cX4_cancelSwap 13 = .ok (.getfield 19, 3) := by decide +kernel
theorem dX4_cancelSwap_16 : decode cX4_cancelSwap 16 = .ok (.iload_n 1, 1) := by decide +kernel
theorem dX4_cancelSwap_17 : decode cX4_cancelSwap 17 = .ok (.iaload, 1) := by decide +kernel
theorem dX4_cancelSwap_18 : decode cX4_cancelSwap 18 = .ok (.iconst 2, 1) := by decide +kernel
theorem dX4_cancelSwap_19 : decode cX4_cancelSwap 19 = .ok (.if_icmp .ne 7, 3) := by decide +kernel
theorem dX4_cancelSwap_22 : decode cX4_cancelSwap 22 = .ok (.iconst 1, 1) := by decide +kernel
theorem dX4_cancelSwap_23 : decode cX4_cancelSwap 23 = .ok (.goto 4, 3) := by decide +kernel
theorem dX4_cancelSwap_26 : decode cX4_cancelSwap 26 = .ok (.iconst 0, 1) := by decide +kernel
theorem dX4_cancelSwap_27 : decode cX4_cancelSwap 27 = .ok (.invokevirtual 71, 3) := by decide +kernel
theorem dX4_cancelSwap_30 : decode cX4_cancelSwap 30 = .ok (.ifCond .eq 10, 3) := by decide +kernel
theorem dX4_cancelSwap_33 : decode cX4_cancelSwap 33 = .ok (.aload_n 0, 1) := by decide +kernel
theorem dX4_cancelSwap_34 : decode cX4_cancelSwap 34 = .ok (.getfield 19, 3) := by decide +kernel
theorem dX4_cancelSwap_37 : decode cX4_cancelSwap 37 = .ok (.iload_n 1, 1) := by decide +kernel
theorem dX4_cancelSwap_38 : decode cX4_cancelSwap 38 = .ok (.iconst 0, 1) := by decide +kernel
theorem dX4_cancelSwap_39 : decode cX4_cancelSwap 39 = .ok (.iastore, 1) := by decide +kernel
theorem dX4_cancelSwap_40 : decode cX4_cancelSwap 40 = .ok (.return_, 1) := by decide +kernel
theorem dX4_lend_0 : decode cX4_lend 0 = .ok (.aload_n 0, 1) := by decide +kernel
theorem dX4_lend_1 : decode cX4_lend 1 = .ok (.iload_n 1, 1) := by decide +kernel
theorem dX4_lend_2 : decode cX4_lend 2 = .ok (.invokevirtual 75, 3) := by decide +kernel
theorem dX4_lend_5 : decode cX4_lend 5 = .ok (.ifCond .eq 14, 3) := by decide +kernel
theorem dX4_lend_8 : decode cX4_lend 8 = .ok (.iload_n 2, 1) := by decide +kernel
theorem dX4_lend_9 : decode cX4_lend 9 = .ok (.invokestatic 64, 3) := by decide +kernel
theorem dX4_lend_12 : decode cX4_lend 12 = .ok (.ifCond .eq 7, 3) := by decide +kernel
theorem dX4_lend_15 : decode cX4_lend 15 = .ok (.iconst 1, 1) := by decide +kernel
theorem dX4_lend_16 : decode cX4_lend 16 = .ok (.goto 4, 3) := by decide +kernel
theorem dX4_lend_19 : decode cX4_lend 19 = .ok (.iconst 0, 1) := by decide +kernel
theorem dX4_lend_20 : decode cX4_lend 20 = .ok (.istore 4, 2) := by decide +kernel
theorem dX4_lend_22 : decode cX4_lend 22 = .ok (.aload_n 0, 1) := by decide +kernel
theorem dX4_lend_23 : decode cX4_lend 23 = .ok (.iload 4, 2) := by decide +kernel
theorem dX4_lend_25 : decode cX4_lend 25 = .ok (.iload 4, 2) := by decide +kernel
theorem dX4_lend_27 : decode cX4_lend 27 = .ok (.ifCond .eq 27, 3) := by decide +kernel
theorem dX4_lend_30 : decode cX4_lend 30 = .ok (.iload_n 3, 1) := by decide +kernel
theorem dX4_lend_31 : decode cX4_lend 31 = .ok (.iconst 1, 1) := by decide +kernel
theorem dX4_lend_32 : decode cX4_lend 32 = .ok (.bipush 50, 2) := by decide +kernel
theorem dX4_lend_34 : decode cX4_lend 34 = .ok (.invokestatic 54, 3) := by decide +kernel
theorem dX4_lend_37 : decode cX4_lend 37 = .ok (.ifCond .eq 17, 3) := by decide +kernel
theorem dX4_lend_40 : decode cX4_lend 40 = .ok (.aload_n 0, 1) := by decide +kernel
theorem dX4_lend_41 : decode cX4_lend 41 = .ok (.getfield 16, 3) := by decide +kernel
theorem dX4_lend_44 : decode cX4_lend 44 = .ok (.iload_n 1, 1) := by decide +kernel
theorem dX4_lend_45 : decode cX4_lend 45 = .ok (.iaload, 1) := by decide +kernel
theorem dX4_lend_46 : decode cX4_lend 46 = .ok (.iload_n 2, 1) := by decide +kernel
theorem dX4_lend_47 : decode cX4_lend 47 = .ok (.if_icmp .eq 7, 3) := by decide +kernel
theorem dX4_lend_50 : decode cX4_lend 50 = .ok (.iconst 1, 1) := by decide +kernel
theorem dX4_lend_51 : decode cX4_lend 51 = .ok (.goto 4, 3) := by decide +kernel
theorem dX4_lend_54 : decode cX4_lend 54 = .ok (.iconst 0, 1) := by decide +kernel
theorem dX4_lend_55 : decode cX4_lend 55 = .ok (.iload 4, 2) := by decide +kernel
theorem dX4_lend_57 : decode cX4_lend 57 = .ok (.ifCond .eq 16, 3) := by decide +kernel
theorem dX4_lend_60 : decode cX4_lend 60 = .ok (.aload_n 0, 1) := by decide +kernel
theorem dX4_lend_61 : decode cX4_lend 61 = .ok (.getfield 19, 3) := by decide +kernel
theorem dX4_lend_64 : decode cX4_lend 64 = .ok (.iload_n 1, 1) := by decide +kernel
theorem dX4_lend_65 : decode cX4_lend 65 = .ok (.iaload, 1) := by decide +kernel
theorem dX4_lend_66 : decode cX4_lend 66 = .ok (.ifCond .ne 7, 3) := by decide +kernel
theorem dX4_lend_69 : decode cX4_lend 69 = .ok (.iconst 1, 1) := by decide +kernel
theorem dX4_lend_70 : decode cX4_lend 70 = .ok (.goto 4, 3) := by decide +kernel
theorem dX4_lend_73 : decode cX4_lend 73 = .ok (.iconst 0, 1) := by decide +kernel
theorem dX4_lend_74 : decode cX4_lend 74 = .ok (.invokevirtual 90, 3) := by decide +kernel
theorem dX4_lend_77 : decode cX4_lend 77 = .ok (.ifCond .ne 5, 3) := by decide +kernel
theorem dX4_lend_80 : decode cX4_lend 80 = .ok (.iconst 0, 1) := by decide +kernel
theorem dX4_lend_81 : decode cX4_lend 81 = .ok (.ireturn, 1) := by decide +kernel
theorem dX4_lend_82 : decode cX4_lend 82 = .ok (.aload_n 0, 1) := by decide +kernel
theorem dX4_lend_83 : decode cX4_lend 83 = .ok (.getfield 19, 3) := by decide +kernel
theorem dX4_lend_86 : decode cX4_lend 86 = .ok (.iload_n 1, 1) := by decide +kernel
theorem dX4_lend_87 : decode cX4_lend 87 = .ok (.iconst 3, 1) := by decide +kernel
theorem dX4_lend_88 : decode cX4_lend 88 = .ok (.iastore, 1) := by decide +kernel
theorem dX4_lend_89 : decode cX4_lend 89 = .ok (.aload_n 0, 1) := by decide +kernel
theorem dX4_lend_90 : decode cX4_lend 90 = .ok (.getfield 31, 3) := by decide +kernel
theorem dX4_lend_93 : decode cX4_lend 93 = .ok (.iload_n 1, 1) := by decide +kernel
theorem dX4_lend_94 : decode cX4_lend 94 = .ok (.iload_n 2, 1) := by decide +kernel
theorem dX4_lend_95 : decode cX4_lend 95 = .ok (.iastore, 1) := by decide +kernel
theorem dX4_lend_96 : decode cX4_lend 96 = .ok (.aload_n 0, 1) := by decide +kernel
theorem dX4_lend_97 : decode cX4_lend 97 = .ok (.getfield 34, 3) := by decide +kernel
theorem dX4_lend_100 : decode cX4_lend 100 = .ok (.iload_n 1, 1) := by decide +kernel
theorem dX4_lend_101 : decode cX4_lend 101 = .ok (.aload_n 0, 1) := by decide +kernel
theorem dX4_lend_102 : decode cX4_lend 102 = .ok (.getfield 61, 3) := by decide +kernel
theorem dX4_lend_105 : decode cX4_lend 105 = .ok (.iload_n 3, 1) := by decide +kernel
theorem dX4_lend_106 : decode cX4_lend 106 = .ok (.iadd, 1) := by decide +kernel
theorem dX4_lend_107 : decode cX4_lend 107 = .ok (.iastore, 1) := by decide +kernel
theorem dX4_lend_108 : decode cX4_lend 108 = .ok (.aload_n 0, 1) := by decide +kernel
theorem dX4_lend_109 : decode cX4_lend 109 = .ok (.getfield 34, 3) := by decide +kernel
theorem dX4_lend_112 : decode cX4_lend 112 = .ok (.iload_n 1, 1) := by decide +kernel
theorem dX4_lend_113 : decode cX4_lend 113 = .ok (.iaload, 1) := by decide +kernel
theorem dX4_lend_114 : decode cX4_lend 114 = .ok (.ireturn, 1) := by decide +kernel
theorem dX4_clears_0 : decode cX4_clears 0 = .ok (.iconst 0, 1) := by decide +kernel
theorem dX4_clears_1 : decode cX4_clears 1 = .ok (.istore_n 2, 1) := by decide +kernel
theorem dX4_clears_2 : decode cX4_clears 2 = .ok (.iconst 0, 1) := by decide +kernel
theorem dX4_clears_3 : decode cX4_clears 3 = .ok (.istore_n 3, 1) := by decide +kernel
theorem dX4_clears_4 : decode cX4_clears 4 = .ok (.iload_n 3, 1) := by decide +kernel
theorem dX4_clears_5 : decode cX4_clears 5 = .ok (.aload_n 0, 1) := by decide +kernel
theorem dX4_clears_6 : decode cX4_clears 6 = .ok (.getfield 58, 3) := by decide +kernel
theorem dX4_clears_9 : decode cX4_clears 9 = .ok (.if_icmp .ge 39, 3) := by decide +kernel
theorem dX4_clears_12 : decode cX4_clears 12 = .ok (.aload_n 0, 1) := by decide +kernel
theorem dX4_clears_13 : decode cX4_clears 13 = .ok (.getfield 19, 3) := by decide +kernel
theorem dX4_clears_16 : decode cX4_clears 16 = .ok (.iload_n 3, 1) := by decide +kernel
theorem dX4_clears_17 : decode cX4_clears 17 = .ok (.iaload, 1) := by decide +kernel
theorem dX4_clears_18 : decode cX4_clears 18 = .ok (.iconst 1, 1) := by decide +kernel
theorem dX4_clears_19 : decode cX4_clears 19 = .ok (.if_icmp .ne 23, 3) := by decide +kernel
theorem dX4_clears_22 : decode cX4_clears 22 = .ok (.aload_n 0, 1) := by decide +kernel
theorem dX4_clears_23 : decode cX4_clears 23 = .ok (.getfield 13, 3) := by decide +kernel
theorem dX4_clears_26 : decode cX4_clears 26 = .ok (.iload_n 3, 1) := by decide +kernel
theorem dX4_clears_27 : decode cX4_clears 27 = .ok (.iaload, 1) := by decide +kernel
theorem dX4_clears_28 : decode cX4_clears 28 = .ok (.iload_n 1, 1) := by decide +kernel
theorem dX4_clears_29 : decode cX4_clears 29 = .ok (.if_icmp .ne 13, 3) := by decide +kernel
theorem dX4_clears_32 : decode cX4_clears 32 = .ok (.aload_n 0, 1) := by decide +kernel
theorem dX4_clears_33 : decode cX4_clears 33 = .ok (.getfield 19, 3) := by decide +kernel
theorem dX4_clears_36 : decode cX4_clears 36 = .ok (.iload_n 3, 1) := by decide +kernel
theorem dX4_clears_37 : decode cX4_clears 37 = .ok (.iconst 0, 1) := by decide +kernel
theorem dX4_clears_38 : decode cX4_clears 38 = .ok (.iastore, 1) := by decide +kernel
theorem dX4_clears_39 : decode cX4_clears 39 = .ok (.iinc 2 1, 3) := by decide +kernel
theorem dX4_clears_42 : decode cX4_clears 42 = .ok (.iinc 3 1, 3) := by decide +kernel
theorem dX4_clears_45 : decode cX4_clears 45 = .ok (.goto (-41), 3) := by decide +kernel
theorem dX4_clears_48 : decode cX4_clears 48 = .ok (.iconst 0, 1) := by decide +kernel
theorem dX4_clears_49 : decode cX4_clears 49 = .ok (.istore_n 3, 1) := by decide +kernel
theorem dX4_clears_50 : decode cX4_clears 50 = .ok (.iload_n 3, 1) := by decide +kernel
theorem dX4_clears_51 : decode cX4_clears 51 = .ok (.iconst 5, 1) := by decide +kernel
theorem dX4_clears_52 : decode cX4_clears 52 = .ok (.if_icmp .ge 59, 3) := by decide +kernel
theorem dX4_clears_55 : decode cX4_clears 55 = .ok (.bipush 8, 2) := by decide +kernel
theorem dX4_clears_57 : decode cX4_clears 57 = .ok (.iload_n 3, 1) := by decide +kernel
theorem dX4_clears_58 : decode cX4_clears 58 = .ok (.imul, 1) := by decide +kernel
theorem dX4_clears_59 : decode cX4_clears 59 = .ok (.iload_n 1, 1) := by decide +kernel
theorem dX4_clears_60 : decode cX4_clears 60 = .ok (.iadd, 1) := by decide +kernel
theorem dX4_clears_61 : decode cX4_clears 61 = .ok (.istore 4, 2) := by decide +kernel
theorem dX4_clears_63 : decode cX4_clears 63 = .ok (.iload_n 2, 1) := by decide +kernel
theorem dX4_clears_64 : decode cX4_clears 64 = .ok (.aload_n 0, 1) := by decide +kernel
theorem dX4_clears_65 : decode cX4_clears 65 = .ok (.getfield 37, 3) := by decide +kernel
theorem dX4_clears_68 : decode cX4_clears 68 = .ok (.iload 4, 2) := by decide +kernel
theorem dX4_clears_70 : decode cX4_clears 70 = .ok (.iaload, 1) := by decide +kernel
theorem dX4_clears_71 : decode cX4_clears 71 = .ok (.ifCond .le 7, 3) := by decide +kernel
theorem dX4_clears_74 : decode cX4_clears 74 = .ok (.iconst 1, 1) := by decide +kernel
theorem dX4_clears_75 : decode cX4_clears 75 = .ok (.goto 4, 3) := by decide +kernel
theorem dX4_clears_78 : decode cX4_clears 78 = .ok (.iconst 0, 1) := by decide +kernel
theorem dX4_clears_79 : decode cX4_clears 79 = .ok (.iadd, 1) := by decide +kernel
theorem dX4_clears_80 : decode cX4_clears 80 = .ok (.istore_n 2, 1) := by decide +kernel
theorem dX4_clears_81 : decode cX4_clears 81 = .ok (.aload_n 0, 1) := by decide +kernel
theorem dX4_clears_82 : decode cX4_clears 82 = .ok (.getfield 7, 3) := by decide +kernel
theorem dX4_clears_85 : decode cX4_clears 85 = .ok (.iload_n 3, 1) := by decide +kernel
theorem dX4_clears_86 : decode cX4_clears 86 = .ok (.dup2, 1) := by decide +kernel
theorem dX4_clears_87 : decode cX4_clears 87 = .ok (.iaload, 1) := by decide +kernel
theorem dX4_clears_88 : decode cX4_clears 88 = .ok (.aload_n 0, 1) := by decide +kernel
theorem dX4_clears_89 : decode cX4_clears 89 = .ok (.getfield 37, 3) := by decide +kernel
theorem dX4_clears_92 : decode cX4_clears 92 = .ok (.iload 4, 2) := by decide +kernel
theorem dX4_clears_94 : decode cX4_clears 94 = .ok (.iaload, 1) := by decide +kernel
theorem dX4_clears_95 : decode cX4_clears 95 = .ok (.iadd, 1) := by decide +kernel
theorem dX4_clears_96 : decode cX4_clears 96 = .ok (.iastore, 1) := by decide +kernel
theorem dX4_clears_97 : decode cX4_clears 97 = .ok (.aload_n 0, 1) := by decide +kernel
theorem dX4_clears_98 : decode cX4_clears 98 = .ok (.getfield 37, 3) := by decide +kernel
theorem dX4_clears_101 : decode cX4_clears 101 = .ok (.iload 4, 2) := by decide +kernel
theorem dX4_clears_103 : decode cX4_clears 103 = .ok (.iconst 0, 1) := by decide +kernel
theorem dX4_clears_104 : decode cX4_clears 104 = .ok (.iastore, 1) := by decide +kernel
theorem dX4_clears_105 : decode cX4_clears 105 = .ok (.iinc 3 1, 3) := by decide +kernel
theorem dX4_clears_108 : decode cX4_clears 108 = .ok (.goto (-58), 3) := by decide +kernel
theorem dX4_clears_111 : decode cX4_clears 111 = .ok (.iload_n 2, 1) := by decide +kernel
theorem dX4_clears_112 : decode cX4_clears 112 = .ok (.ireturn, 1) := by decide +kernel
theorem dX4_ban_0 : decode cX4_ban 0 = .ok (.aload_n 0, 1) := by decide +kernel
theorem dX4_ban_1 : decode cX4_ban 1 = .ok (.iload_n 1, 1) := by decide +kernel
theorem dX4_ban_2 : decode cX4_ban 2 = .ok (.invokestatic 68, 3) := by decide +kernel
theorem dX4_ban_5 : decode cX4_ban 5 = .ok (.iload_n 2, 1) := by decide +kernel
theorem dX4_ban_6 : decode cX4_ban 6 = .ok (.aload_n 0, 1) := by decide +kernel
theorem dX4_ban_7 : decode cX4_ban 7 = .ok (.getfield 61, 3) := by decide +kernel
theorem dX4_ban_10 : decode cX4_ban 10 = .ok (.if_icmp .lt 18, 3) := by decide +kernel
theorem dX4_ban_13 : decode cX4_ban 13 = .ok (.iload_n 2, 1) := by decide +kernel
theorem dX4_ban_14 : decode cX4_ban 14 = .ok (.aload_n 0, 1) := by decide +kernel
theorem dX4_ban_15 : decode cX4_ban 15 = .ok (.getfield 61, 3) := by decide +kernel
theorem dX4_ban_18 : decode cX4_ban 18 = .ok (.isub, 1) := by decide +kernel
theorem dX4_ban_19 : decode cX4_ban 19 = .ok (.bipush 50, 2) := by decide +kernel
theorem dX4_ban_21 : decode cX4_ban 21 = .ok (.if_icmp .gt 7, 3) := by decide +kernel
theorem dX4_ban_24 : decode cX4_ban 24 = .ok (.iconst 1, 1) := by decide +kernel
theorem dX4_ban_25 : decode cX4_ban 25 = .ok (.goto 4, 3) := by decide +kernel
theorem dX4_ban_28 : decode cX4_ban 28 = .ok (.iconst 0, 1) := by decide +kernel
theorem dX4_ban_29 : decode cX4_ban 29 = .ok (.invokevirtual 71, 3) := by decide +kernel
theorem dX4_ban_32 : decode cX4_ban 32 = .ok (.ifCond .ne 5, 3) := by decide +kernel
theorem dX4_ban_35 : decode cX4_ban 35 = .ok (.iconst 0, 1) := by decide +kernel
theorem dX4_ban_36 : decode cX4_ban 36 = .ok (.ireturn, 1) := by decide +kernel
theorem dX4_ban_37 : decode cX4_ban 37 = .ok (.aload_n 0, 1) := by decide +kernel
theorem dX4_ban_38 : decode cX4_ban 38 = .ok (.getfield 43, 3) := by decide +kernel
theorem dX4_ban_41 : decode cX4_ban 41 = .ok (.iload_n 1, 1) := by decide +kernel
theorem dX4_ban_42 : decode cX4_ban 42 = .ok (.iload_n 2, 1) := by decide +kernel
theorem dX4_ban_43 : decode cX4_ban 43 = .ok (.iastore, 1) := by decide +kernel
theorem dX4_ban_44 : decode cX4_ban 44 = .ok (.aload_n 0, 1) := by decide +kernel
theorem dX4_ban_45 : decode cX4_ban 45 = .ok (.iload_n 1, 1) := by decide +kernel
theorem dX4_ban_46 : decode cX4_ban 46 = .ok (.invokevirtual 87, 3) := by decide +kernel
theorem dX4_ban_49 : decode cX4_ban 49 = .ok (.ifCond .eq 11, 3) := by decide +kernel
theorem dX4_ban_52 : decode cX4_ban 52 = .ok (.aload_n 0, 1) := by decide +kernel
theorem dX4_ban_53 : decode cX4_ban 53 = .ok (.iload_n 1, 1) := by decide +kernel
theorem dX4_ban_54 : decode cX4_ban 54 = .ok (.invokevirtual 103, 3) := by decide +kernel
theorem dX4_ban_57 : decode cX4_ban 57 = .ok (.goto 4, 3) := by decide +kernel
theorem dX4_ban_60 : decode cX4_ban 60 = .ok (.iconst 0, 1) := by decide +kernel
theorem dX4_ban_61 : decode cX4_ban 61 = .ok (.ireturn, 1) := by decide +kernel
theorem dX4_lift_0 : decode cX4_lift 0 = .ok (.aload_n 0, 1) := by decide +kernel
theorem dX4_lift_1 : decode cX4_lift 1 = .ok (.iload_n 1, 1) := by decide +kernel
theorem dX4_lift_2 : decode cX4_lift 2 = .ok (.invokestatic 68, 3) := by decide +kernel
theorem dX4_lift_5 : decode cX4_lift 5 = .ok (.invokevirtual 78, 3) := by decide +kernel
theorem dX4_lift_8 : decode cX4_lift 8 = .ok (.ifCond .ne 5, 3) := by decide +kernel
theorem dX4_lift_11 : decode cX4_lift 11 = .ok (.iconst 0, 1) := by decide +kernel
theorem dX4_lift_12 : decode cX4_lift 12 = .ok (.ireturn, 1) := by decide +kernel
theorem dX4_lift_13 : decode cX4_lift 13 = .ok (.aload_n 0, 1) := by decide +kernel
theorem dX4_lift_14 : decode cX4_lift 14 = .ok (.getfield 43, 3) := by decide +kernel
theorem dX4_lift_17 : decode cX4_lift 17 = .ok (.iload_n 1, 1) := by decide +kernel
theorem dX4_lift_18 : decode cX4_lift 18 = .ok (.iaload, 1) := by decide +kernel
theorem dX4_lift_19 : decode cX4_lift 19 = .ok (.ldc 49, 2) := by decide +kernel
theorem dX4_lift_21 : decode cX4_lift 21 = .ok (.if_icmp .eq 7, 3) := by decide +kernel
theorem dX4_lift_24 : decode cX4_lift 24 = .ok (.iconst 1, 1) := by decide +kernel
theorem dX4_lift_25 : decode cX4_lift 25 = .ok (.goto 4, 3) := by decide +kernel
theorem dX4_lift_28 : decode cX4_lift 28 = .ok (.iconst 0, 1) := by decide +kernel
theorem dX4_lift_29 : decode cX4_lift 29 = .ok (.istore_n 2, 1) := by decide +kernel
theorem dX4_lift_30 : decode cX4_lift 30 = .ok (.aload_n 0, 1) := by decide +kernel
theorem dX4_lift_31 : decode cX4_lift 31 = .ok (.getfield 43, 3) := by decide +kernel
theorem dX4_lift_34 : decode cX4_lift 34 = .ok (.iload_n 1, 1) := by decide +kernel
theorem dX4_lift_35 : decode cX4_lift 35 = .ok (.ldc 49, 2) := by decide +kernel
theorem dX4_lift_37 : decode cX4_lift 37 = .ok (.iastore, 1) := by decide +kernel
theorem dX4_lift_38 : decode cX4_lift 38 = .ok (.iload_n 2, 1) := by decide +kernel
theorem dX4_lift_39 : decode cX4_lift 39 = .ok (.ireturn, 1) := by decide +kernel
theorem dX4_isBanned_0 : decode cX4_isBanned 0 = .ok (.aload_n 0, 1) := by decide +kernel
theorem dX4_isBanned_1 : decode cX4_isBanned 1 = .ok (.iload_n 1, 1) := by decide +kernel
theorem dX4_isBanned_2 : decode cX4_isBanned 2 = .ok (.invokestatic 68, 3) := by decide +kernel
theorem dX4_isBanned_5 : decode cX4_isBanned 5 = .ok (.invokevirtual 78, 3) := by decide +kernel
theorem dX4_isBanned_8 : decode cX4_isBanned 8 = .ok (.ifCond .eq 15, 3) := by decide +kernel
theorem dX4_isBanned_11 : decode cX4_isBanned 11 = .ok (.aload_n 0, 1) := by decide +kernel
theorem dX4_isBanned_12 : decode cX4_isBanned 12 = .ok (.iload_n 1, 1) := by decide +kernel
theorem dX4_isBanned_13 : decode cX4_isBanned 13 = .ok (.invokevirtual 87, 3) := by decide +kernel
theorem dX4_isBanned_16 : decode cX4_isBanned 16 = .ok (.ifCond .eq 7, 3) := by decide +kernel
theorem dX4_isBanned_19 : decode cX4_isBanned 19 = .ok (.iconst 1, 1) := by decide +kernel
theorem dX4_isBanned_20 : decode cX4_isBanned 20 = .ok (.goto 4, 3) := by decide +kernel
theorem dX4_isBanned_23 : decode cX4_isBanned 23 = .ok (.iconst 0, 1) := by decide +kernel
theorem dX4_isBanned_24 : decode cX4_isBanned 24 = .ok (.ireturn, 1) := by decide +kernel
theorem dX4_pass_0 : decode cX4_pass 0 = .ok (.aload_n 0, 1) := by decide +kernel
theorem dX4_pass_1 : decode cX4_pass 1 = .ok (.iload_n 1, 1) := by decide +kernel
theorem dX4_pass_2 : decode cX4_pass 2 = .ok (.iconst 1, 1) := by decide +kernel
theorem dX4_pass_3 : decode cX4_pass 3 = .ok (.bipush 100, 2) := by decide +kernel
theorem dX4_pass_5 : decode cX4_pass 5 = .ok (.invokestatic 54, 3) := by decide +kernel
theorem dX4_pass_8 : decode cX4_pass 8 = .ok (.invokevirtual 78, 3) := by decide +kernel
theorem dX4_pass_11 : decode cX4_pass 11 = .ok (.ifCond .ne 5, 3) := by decide +kernel
theorem dX4_pass_14 : decode cX4_pass 14 = .ok (.iconst 0, 1) := by decide +kernel
theorem dX4_pass_15 : decode cX4_pass 15 = .ok (.ireturn, 1) := by decide +kernel
theorem dX4_pass_16 : decode cX4_pass 16 = .ok (.aload_n 0, 1) := by decide +kernel
theorem dX4_pass_17 : decode cX4_pass 17 = .ok (.dup, 1) := by decide +kernel
theorem dX4_pass_18 : decode cX4_pass 18 = .ok (.getfield 61, 3) := by decide +kernel
theorem dX4_pass_21 : decode cX4_pass 21 = .ok (.iload_n 1, 1) := by decide +kernel
theorem dX4_pass_22 : decode cX4_pass 22 = .ok (.iadd, 1) := by decide +kernel
theorem dX4_pass_23 : decode cX4_pass 23 = .ok (.putfield 61, 3) := by decide +kernel
theorem dX4_pass_26 : decode cX4_pass 26 = .ok (.iconst 0, 1) := by decide +kernel
theorem dX4_pass_27 : decode cX4_pass 27 = .ok (.istore_n 2, 1) := by decide +kernel
theorem dX4_pass_28 : decode cX4_pass 28 = .ok (.iload_n 2, 1) := by decide +kernel
theorem dX4_pass_29 : decode cX4_pass 29 = .ok (.aload_n 0, 1) := by decide +kernel
theorem dX4_pass_30 : decode cX4_pass 30 = .ok (.getfield 58, 3) := by decide +kernel
theorem dX4_pass_33 : decode cX4_pass 33 = .ok (.if_icmp .ge 48, 3) := by decide +kernel
theorem dX4_pass_36 : decode cX4_pass 36 = .ok (.aload_n 0, 1) := by decide +kernel
theorem dX4_pass_37 : decode cX4_pass 37 = .ok (.getfield 19, 3) := by decide +kernel
theorem dX4_pass_40 : decode cX4_pass 40 = .ok (.iload_n 2, 1) := by decide +kernel
theorem dX4_pass_41 : decode cX4_pass 41 = .ok (.aload_n 0, 1) := by decide +kernel
theorem dX4_pass_42 : decode cX4_pass 42 = .ok (.getfield 19, 3) := by decide +kernel
theorem dX4_pass_45 : decode cX4_pass 45 = .ok (.iload_n 2, 1) := by decide +kernel
theorem dX4_pass_46 : decode cX4_pass 46 = .ok (.iaload, 1) := by decide +kernel
theorem dX4_pass_47 : decode cX4_pass 47 = .ok (.iconst 3, 1) := by decide +kernel
theorem dX4_pass_48 : decode cX4_pass 48 = .ok (.if_icmp .ne 20, 3) := by decide +kernel
theorem dX4_pass_51 : decode cX4_pass 51 = .ok (.aload_n 0, 1) := by decide +kernel
theorem dX4_pass_52 : decode cX4_pass 52 = .ok (.getfield 34, 3) := by decide +kernel
theorem dX4_pass_55 : decode cX4_pass 55 = .ok (.iload_n 2, 1) := by decide +kernel
theorem dX4_pass_56 : decode cX4_pass 56 = .ok (.iaload, 1) := by decide +kernel
theorem dX4_pass_57 : decode cX4_pass 57 = .ok (.aload_n 0, 1) := by decide +kernel
theorem dX4_pass_58 : decode cX4_pass 58 = .ok (.getfield 61, 3) := by decide +kernel
theorem dX4_pass_61 : decode cX4_pass 61 = .ok (.if_icmp .gt 7, 3) := by decide +kernel
theorem dX4_pass_64 : decode cX4_pass 64 = .ok (.iconst 0, 1) := by decide +kernel
theorem dX4_pass_65 : decode cX4_pass 65 = .ok (.goto 9, 3) := by decide +kernel
theorem dX4_pass_68 : decode cX4_pass 68 = .ok (.aload_n 0, 1) := by decide +kernel
theorem dX4_pass_69 : decode cX4_pass 69 = .ok (.getfield 19, 3) := by decide +kernel
theorem dX4_pass_72 : decode cX4_pass 72 = .ok (.iload_n 2, 1) := by decide +kernel
theorem dX4_pass_73 : decode cX4_pass 73 = .ok (.iaload, 1) := by decide +kernel
theorem dX4_pass_74 : decode cX4_pass 74 = .ok (.iastore, 1) := by decide +kernel
theorem dX4_pass_75 : decode cX4_pass 75 = .ok (.iinc 2 1, 3) := by decide +kernel
theorem dX4_pass_78 : decode cX4_pass 78 = .ok (.goto (-50), 3) := by decide +kernel
theorem dX4_pass_81 : decode cX4_pass 81 = .ok (.iconst 0, 1) := by decide +kernel
theorem dX4_pass_82 : decode cX4_pass 82 = .ok (.istore_n 2, 1) := by decide +kernel
theorem dX4_pass_83 : decode cX4_pass 83 = .ok (.iload_n 2, 1) := by decide +kernel
theorem dX4_pass_84 : decode cX4_pass 84 = .ok (.bipush 8, 2) := by decide +kernel
theorem dX4_pass_86 : decode cX4_pass 86 = .ok (.if_icmp .ge 23, 3) := by decide +kernel
theorem dX4_pass_89 : decode cX4_pass 89 = .ok (.aload_n 0, 1) := by decide +kernel
theorem dX4_pass_90 : decode cX4_pass 90 = .ok (.iload_n 2, 1) := by decide +kernel
theorem dX4_pass_91 : decode cX4_pass 91 = .ok (.invokevirtual 87, 3) := by decide +kernel
theorem dX4_pass_94 : decode cX4_pass 94 = .ok (.ifCond .eq 9, 3) := by decide +kernel
theorem dX4_pass_97 : decode cX4_pass 97 = .ok (.aload_n 0, 1) := by decide +kernel
theorem dX4_pass_98 : decode cX4_pass 98 = .ok (.iload_n 2, 1) := by decide +kernel
theorem dX4_pass_99 : decode cX4_pass 99 = .ok (.invokevirtual 103, 3) := by decide +kernel
theorem dX4_pass_102 : decode cX4_pass 102 = .ok (.pop, 1) := by decide +kernel
theorem dX4_pass_103 : decode cX4_pass 103 = .ok (.iinc 2 1, 3) := by decide +kernel
theorem dX4_pass_106 : decode cX4_pass 106 = .ok (.goto (-23), 3) := by decide +kernel
theorem dX4_pass_109 : decode cX4_pass 109 = .ok (.aload_n 0, 1) := by decide +kernel
theorem dX4_pass_110 : decode cX4_pass 110 = .ok (.getfield 61, 3) := by decide +kernel
theorem dX4_pass_113 : decode cX4_pass 113 = .ok (.ireturn, 1) := by decide +kernel
theorem dX4_size_0 : decode cX4_size 0 = .ok (.iconst 0, 1) := by decide +kernel
theorem dX4_size_1 : decode cX4_size 1 = .ok (.istore_n 2, 1) := by decide +kernel
theorem dX4_size_2 : decode cX4_size 2 = .ok (.iconst 0, 1) := by decide +kernel
theorem dX4_size_3 : decode cX4_size 3 = .ok (.istore_n 3, 1) := by decide +kernel
theorem dX4_size_4 : decode cX4_size 4 = .ok (.iload_n 3, 1) := by decide +kernel
theorem dX4_size_5 : decode cX4_size 5 = .ok (.aload_n 0, 1) := by decide +kernel
theorem dX4_size_6 : decode cX4_size 6 = .ok (.getfield 58, 3) := by decide +kernel
theorem dX4_size_9 : decode cX4_size 9 = .ok (.if_icmp .ge 22, 3) := by decide +kernel
theorem dX4_size_12 : decode cX4_size 12 = .ok (.iload_n 2, 1) := by decide +kernel
theorem dX4_size_13 : decode cX4_size 13 = .ok (.aload_n 0, 1) := by decide +kernel
theorem dX4_size_14 : decode cX4_size 14 = .ok (.getfield 46, 3) := by decide +kernel
theorem dX4_size_17 : decode cX4_size 17 = .ok (.iload_n 1, 1) := by decide +kernel
theorem dX4_size_18 : decode cX4_size 18 = .ok (.iaload, 1) := by decide +kernel
theorem dX4_size_19 : decode cX4_size 19 = .ok (.iload_n 3, 1) := by decide +kernel
theorem dX4_size_20 : decode cX4_size 20 = .ok (.ishr, 1) := by decide +kernel
theorem dX4_size_21 : decode cX4_size 21 = .ok (.iconst 1, 1) := by decide +kernel
theorem dX4_size_22 : decode cX4_size 22 = .ok (.iand, 1) := by decide +kernel
theorem dX4_size_23 : decode cX4_size 23 = .ok (.iadd, 1) := by decide +kernel
theorem dX4_size_24 : decode cX4_size 24 = .ok (.istore_n 2, 1) := by decide +kernel
theorem dX4_size_25 : decode cX4_size 25 = .ok (.iinc 3 1, 3) := by decide +kernel
theorem dX4_size_28 : decode cX4_size 28 = .ok (.goto (-24), 3) := by decide +kernel
theorem dX4_size_31 : decode cX4_size 31 = .ok (.iload_n 2, 1) := by decide +kernel
theorem dX4_size_32 : decode cX4_size 32 = .ok (.ireturn, 1) := by decide +kernel
theorem dX4_toggleDeck_0 : decode cX4_toggleDeck 0 = .ok (.aload_n 0, 1) := by decide +kernel
theorem dX4_toggleDeck_1 : decode cX4_toggleDeck 1 = .ok (.iload_n 1, 1) := by decide +kernel
theorem dX4_toggleDeck_2 : decode cX4_toggleDeck 2 = .ok (.invokestatic 64, 3) := by decide +kernel
theorem dX4_toggleDeck_5 : decode cX4_toggleDeck 5 = .ok (.ifCond .eq 15, 3) := by decide +kernel
theorem dX4_toggleDeck_8 : decode cX4_toggleDeck 8 = .ok (.aload_n 0, 1) := by decide +kernel
theorem dX4_toggleDeck_9 : decode cX4_toggleDeck 9 = .ok (.iload_n 2, 1) := by decide +kernel
theorem dX4_toggleDeck_10 : decode cX4_toggleDeck 10 = .ok (.invokevirtual 75, 3) := by decide +kernel
theorem dX4_toggleDeck_13 : decode cX4_toggleDeck 13 = .ok (.ifCond .eq 7, 3) := by decide +kernel
theorem dX4_toggleDeck_16 : decode cX4_toggleDeck 16 = .ok (.iconst 1, 1) := by decide +kernel
theorem dX4_toggleDeck_17 : decode cX4_toggleDeck 17 = .ok (.goto 4, 3) := by decide +kernel
theorem dX4_toggleDeck_20 : decode cX4_toggleDeck 20 = .ok (.iconst 0, 1) := by decide +kernel
theorem dX4_toggleDeck_21 : decode cX4_toggleDeck 21 = .ok (.invokevirtual 78, 3) := by decide +kernel
theorem dX4_toggleDeck_24 : decode cX4_toggleDeck 24 = .ok (.ifCond .ne 5, 3) := by decide +kernel
theorem dX4_toggleDeck_27 : decode cX4_toggleDeck 27 = .ok (.iconst 0, 1) := by decide +kernel
theorem dX4_toggleDeck_28 : decode cX4_toggleDeck 28 = .ok (.ireturn, 1) := by decide +kernel
theorem dX4_toggleDeck_29 : decode cX4_toggleDeck 29 = .ok (.aload_n 0, 1) := by decide +kernel
theorem dX4_toggleDeck_30 : decode cX4_toggleDeck 30 = .ok (.getfield 46, 3) := by decide +kernel
theorem dX4_toggleDeck_33 : decode cX4_toggleDeck 33 = .ok (.iload_n 1, 1) := by decide +kernel
theorem dX4_toggleDeck_34 : decode cX4_toggleDeck 34 = .ok (.dup2, 1) := by decide +kernel
theorem dX4_toggleDeck_35 : decode cX4_toggleDeck 35 = .ok (.iaload, 1) := by decide +kernel
theorem dX4_toggleDeck_36 : decode cX4_toggleDeck 36 = .ok (.iconst 1, 1) := by decide +kernel
theorem dX4_toggleDeck_37 : decode cX4_toggleDeck 37 = .ok (.iload_n 2, 1) := by decide +kernel
theorem dX4_toggleDeck_38 : decode cX4_toggleDeck 38 = .ok (.ishl, 1) := by decide +kernel
theorem dX4_toggleDeck_39 : decode cX4_toggleDeck 39 = .ok (.ixor, 1) := by decide +kernel
theorem dX4_toggleDeck_40 : decode cX4_toggleDeck 40 = .ok (.iastore, 1) := by decide +kernel
theorem dX4_toggleDeck_41 : decode cX4_toggleDeck 41 = .ok (.aload_n 0, 1) := by decide +kernel
theorem dX4_toggleDeck_42 : decode cX4_toggleDeck 42 = .ok (.iload_n 1, 1) := by decide +kernel
theorem dX4_toggleDeck_43 : decode cX4_toggleDeck 43 = .ok (.invokevirtual 106, 3) := by decide +kernel
theorem dX4_toggleDeck_46 : decode cX4_toggleDeck 46 = .ok (.ireturn, 1) := by decide +kernel
theorem dX4_right_0 : decode cX4_right 0 = .ok (.aload_n 0, 1) := by decide +kernel
theorem dX4_right_1 : decode cX4_right 1 = .ok (.iload_n 1, 1) := by decide +kernel
theorem dX4_right_2 : decode cX4_right 2 = .ok (.invokevirtual 106, 3) := by decide +kernel
theorem dX4_right_5 : decode cX4_right 5 = .ok (.iconst 1, 1) := by decide +kernel
theorem dX4_right_6 : decode cX4_right 6 = .ok (.iconst 5, 1) := by decide +kernel
theorem dX4_right_7 : decode cX4_right 7 = .ok (.invokestatic 54, 3) := by decide +kernel
theorem dX4_right_10 : decode cX4_right 10 = .ok (.istore_n 2, 1) := by decide +kernel
theorem dX4_right_11 : decode cX4_right 11 = .ok (.iconst 0, 1) := by decide +kernel
theorem dX4_right_12 : decode cX4_right 12 = .ok (.istore_n 3, 1) := by decide +kernel
theorem dX4_right_13 : decode cX4_right 13 = .ok (.iload_n 3, 1) := by decide +kernel
theorem dX4_right_14 : decode cX4_right 14 = .ok (.aload_n 0, 1) := by decide +kernel
theorem dX4_right_15 : decode cX4_right 15 = .ok (.getfield 58, 3) := by decide +kernel
theorem dX4_right_18 : decode cX4_right 18 = .ok (.if_icmp .ge 87, 3) := by decide +kernel
theorem dX4_right_21 : decode cX4_right 21 = .ok (.aload_n 0, 1) := by decide +kernel
theorem dX4_right_22 : decode cX4_right 22 = .ok (.getfield 46, 3) := by decide +kernel
theorem dX4_right_25 : decode cX4_right 25 = .ok (.iload_n 1, 1) := by decide +kernel
theorem dX4_right_26 : decode cX4_right 26 = .ok (.iaload, 1) := by decide +kernel
theorem dX4_right_27 : decode cX4_right 27 = .ok (.iload_n 3, 1) := by decide +kernel
theorem dX4_right_28 : decode cX4_right 28 = .ok (.ishr, 1) := by decide +kernel
theorem dX4_right_29 : decode cX4_right 29 = .ok (.iconst 1, 1) := by decide +kernel
theorem dX4_right_30 : decode cX4_right 30 = .ok (.iand, 1) := by decide +kernel
theorem dX4_right_31 : decode cX4_right 31 = .ok (.iconst 1, 1) := by decide +kernel
theorem dX4_right_32 : decode cX4_right 32 = .ok (.if_icmp .ne 7, 3) := by decide +kernel
theorem dX4_right_35 : decode cX4_right 35 = .ok (.iconst 1, 1) := by decide +kernel
theorem dX4_right_36 : decode cX4_right 36 = .ok (.goto 4, 3) := by decide +kernel
theorem dX4_right_39 : decode cX4_right 39 = .ok (.iconst 0, 1) := by decide +kernel
theorem dX4_right_40 : decode cX4_right 40 = .ok (.istore 4, 2) := by decide +kernel
theorem dX4_right_42 : decode cX4_right 42 = .ok (.iload_n 2, 1) := by decide +kernel
theorem dX4_right_43 : decode cX4_right 43 = .ok (.ifCond .eq 54, 3) := by decide +kernel
theorem dX4_right_46 : decode cX4_right 46 = .ok (.iload 4, 2) := by decide +kernel
theorem dX4_right_48 : decode cX4_right 48 = .ok (.ifCond .eq 45, 3) := by decide +kernel
theorem dX4_right_51 : decode cX4_right 51 = .ok (.aload_n 0, 1) := by decide +kernel
theorem dX4_right_52 : decode cX4_right 52 = .ok (.iload_n 3, 1) := by decide +kernel
theorem dX4_right_53 : decode cX4_right 53 = .ok (.invokevirtual 84, 3) := by decide +kernel
theorem dX4_right_56 : decode cX4_right 56 = .ok (.iload_n 1, 1) := by decide +kernel
theorem dX4_right_57 : decode cX4_right 57 = .ok (.if_icmp .ne 40, 3) := by decide +kernel
theorem dX4_right_60 : decode cX4_right 60 = .ok (.aload_n 0, 1) := by decide +kernel
theorem dX4_right_61 : decode cX4_right 61 = .ok (.getfield 19, 3) := by decide +kernel
theorem dX4_right_64 : decode cX4_right 64 = .ok (.iload_n 3, 1) := by decide +kernel
theorem dX4_right_65 : decode cX4_right 65 = .ok (.iaload, 1) := by decide +kernel
theorem dX4_right_66 : decode cX4_right 66 = .ok (.iconst 1, 1) := by decide +kernel
theorem dX4_right_67 : decode cX4_right 67 = .ok (.if_icmp .eq 30, 3) := by decide +kernel
theorem dX4_right_70 : decode cX4_right 70 = .ok (.aload_n 0, 1) := by decide +kernel
theorem dX4_right_71 : decode cX4_right 71 = .ok (.getfield 19, 3) := by decide +kernel
theorem dX4_right_74 : decode cX4_right 74 = .ok (.iload_n 3, 1) := by decide +kernel
theorem dX4_right_75 : decode cX4_right 75 = .ok (.iaload, 1) := by decide +kernel
theorem dX4_right_76 : decode cX4_right 76 = .ok (.iconst 2, 1) := by decide +kernel
theorem dX4_right_77 : decode cX4_right 77 = .ok (.if_icmp .eq 20, 3) := by decide +kernel
theorem dX4_right_80 : decode cX4_right 80 = .ok (.aload_n 0, 1) := by decide +kernel
theorem dX4_right_81 : decode cX4_right 81 = .ok (.aload_n 0, 1) := by decide +kernel
theorem dX4_right_82 : decode cX4_right 82 = .ok (.getfield 13, 3) := by decide +kernel
theorem dX4_right_85 : decode cX4_right 85 = .ok (.iload_n 3, 1) := by decide +kernel
theorem dX4_right_86 : decode cX4_right 86 = .ok (.iaload, 1) := by decide +kernel
theorem dX4_right_87 : decode cX4_right 87 = .ok (.invokevirtual 87, 3) := by decide +kernel
theorem dX4_right_90 : decode cX4_right 90 = .ok (.ifCond .ne 7, 3) := by decide +kernel
theorem dX4_right_93 : decode cX4_right 93 = .ok (.iconst 1, 1) := by decide +kernel
theorem dX4_right_94 : decode cX4_right 94 = .ok (.goto 4, 3) := by decide +kernel
theorem dX4_right_97 : decode cX4_right 97 = .ok (.iconst 0, 1) := by decide +kernel
theorem dX4_right_98 : decode cX4_right 98 = .ok (.istore_n 2, 1) := by decide +kernel
theorem dX4_right_99 : decode cX4_right 99 = .ok (.iinc 3 1, 3) := by decide +kernel
theorem dX4_right_102 : decode cX4_right 102 = .ok (.goto (-89), 3) := by decide +kernel
theorem dX4_right_105 : decode cX4_right 105 = .ok (.iload_n 2, 1) := by decide +kernel
theorem dX4_right_106 : decode cX4_right 106 = .ok (.ireturn, 1) := by decide +kernel
theorem dX4_strengthOf_0 : decode cX4_strengthOf 0 = .ok (.iconst 0, 1) := by decide +kernel
theorem dX4_strengthOf_1 : decode cX4_strengthOf 1 = .ok (.istore_n 2, 1) := by decide +kernel
theorem dX4_strengthOf_2 : decode cX4_strengthOf 2 = .ok (.iconst 0, 1) := by decide +kernel
theorem dX4_strengthOf_3 : decode cX4_strengthOf 3 = .ok (.istore_n 3, 1) := by decide +kernel
theorem dX4_strengthOf_4 : decode cX4_strengthOf 4 = .ok (.iload_n 3, 1) := by decide +kernel
theorem dX4_strengthOf_5 : decode cX4_strengthOf 5 = .ok (.aload_n 0, 1) := by decide +kernel
theorem dX4_strengthOf_6 : decode cX4_strengthOf 6 = .ok (.getfield 58, 3) := by decide +kernel
theorem dX4_strengthOf_9 : decode cX4_strengthOf 9 = .ok (.if_icmp .ge 38, 3) := by decide +kernel
theorem dX4_strengthOf_12 : decode cX4_strengthOf 12 = .ok (.iload_n 2, 1) := by decide +kernel
theorem dX4_strengthOf_13 : decode cX4_strengthOf 13 = .ok (.aload_n 0, 1) := by decide +kernel
theorem dX4_strengthOf_14 : decode cX4_strengthOf 14 = .ok (.getfield 46, 3) := by decide +kernel
theorem dX4_strengthOf_17 : decode cX4_strengthOf 17 = .ok (.iload_n 1, 1) := by decide +kernel
theorem dX4_strengthOf_18 : decode cX4_strengthOf 18 = .ok (.iaload, 1) := by decide +kernel
theorem dX4_strengthOf_19 : decode cX4_strengthOf 19 = .ok (.iload_n 3, 1) := by decide +kernel
theorem dX4_strengthOf_20 : decode cX4_strengthOf 20 = .ok (.ishr, 1) := by decide +kernel
theorem dX4_strengthOf_21 : decode cX4_strengthOf 21 = .ok (.iconst 1, 1) := by decide +kernel
theorem dX4_strengthOf_22 : decode cX4_strengthOf 22 = .ok (.iand, 1) := by decide +kernel
theorem dX4_strengthOf_23 : decode cX4_strengthOf 23 = .ok (.iconst 1, 1) := by decide +kernel
theorem dX4_strengthOf_24 : decode cX4_strengthOf 24 = .ok (.if_icmp .ne 14, 3) := by decide +kernel
theorem dX4_strengthOf_27 : decode cX4_strengthOf 27 = .ok (.aload_n 0, 1) := by decide +kernel
theorem dX4_strengthOf_28 : decode cX4_strengthOf 28 = .ok (.getfield 13, 3) := by decide +kernel
theorem dX4_strengthOf_31 : decode cX4_strengthOf 31 = .ok (.iload_n 3, 1) := by decide +kernel
theorem dX4_strengthOf_32 : decode cX4_strengthOf 32 = .ok (.iaload, 1) := by decide +kernel
theorem dX4_strengthOf_33 : decode cX4_strengthOf 33 = .ok (.iconst 1, 1) := by decide +kernel
theorem dX4_strengthOf_34 : decode cX4_strengthOf 34 = .ok (.iadd, 1) := by decide +kernel
theorem dX4_strengthOf_35 : decode cX4_strengthOf 35 = .ok (.goto 4, 3) := by decide +kernel
theorem dX4_strengthOf_38 : decode cX4_strengthOf 38 = .ok (.iconst 0, 1) := by decide +kernel
theorem dX4_strengthOf_39 : decode cX4_strengthOf 39 = .ok (.iadd, 1) := by decide +kernel
theorem dX4_strengthOf_40 : decode cX4_strengthOf 40 = .ok (.istore_n 2, 1) := by decide +kernel
theorem dX4_strengthOf_41 : decode cX4_strengthOf 41 = .ok (.iinc 3 1, 3) := by decide +kernel
theorem dX4_strengthOf_44 : decode cX4_strengthOf 44 = .ok (.goto (-40), 3) := by decide +kernel
theorem dX4_strengthOf_47 : decode cX4_strengthOf 47 = .ok (.iload_n 2, 1) := by decide +kernel
theorem dX4_strengthOf_48 : decode cX4_strengthOf 48 = .ok (.ireturn, 1) := by decide +kernel
theorem dX4_isRight_0 : decode cX4_isRight 0 = .ok (.aload_n 0, 1) := by decide +kernel
theorem dX4_isRight_1 : decode cX4_isRight 1 = .ok (.iload_n 1, 1) := by decide +kernel
theorem dX4_isRight_2 : decode cX4_isRight 2 = .ok (.invokestatic 64, 3) := by decide +kernel
theorem dX4_isRight_5 : decode cX4_isRight 5 = .ok (.invokevirtual 78, 3) := by decide +kernel
theorem dX4_isRight_8 : decode cX4_isRight 8 = .ok (.ifCond .eq 15, 3) := by decide +kernel
theorem dX4_isRight_11 : decode cX4_isRight 11 = .ok (.aload_n 0, 1) := by decide +kernel
theorem dX4_isRight_12 : decode cX4_isRight 12 = .ok (.iload_n 1, 1) := by decide +kernel
theorem dX4_isRight_13 : decode cX4_isRight 13 = .ok (.invokevirtual 109, 3) := by decide +kernel
theorem dX4_isRight_16 : decode cX4_isRight 16 = .ok (.ifCond .eq 7, 3) := by decide +kernel
theorem dX4_isRight_19 : decode cX4_isRight 19 = .ok (.iconst 1, 1) := by decide +kernel
theorem dX4_isRight_20 : decode cX4_isRight 20 = .ok (.goto 4, 3) := by decide +kernel
theorem dX4_isRight_23 : decode cX4_isRight 23 = .ok (.iconst 0, 1) := by decide +kernel
theorem dX4_isRight_24 : decode cX4_isRight 24 = .ok (.ireturn, 1) := by decide +kernel
theorem dX4_strength_0 : decode cX4_strength 0 = .ok (.aload_n 0, 1) := by decide +kernel
theorem dX4_strength_1 : decode cX4_strength 1 = .ok (.iload_n 1, 1) := by decide +kernel
theorem dX4_strength_2 : decode cX4_strength 2 = .ok (.invokestatic 64, 3) := by decide +kernel
theorem dX4_strength_5 : decode cX4_strength 5 = .ok (.invokevirtual 78, 3) := by decide +kernel
theorem dX4_strength_8 : decode cX4_strength 8 = .ok (.ifCond .eq 11, 3) := by decide +kernel
theorem dX4_strength_11 : decode cX4_strength 11 = .ok (.aload_n 0, 1) := by decide +kernel
theorem dX4_strength_12 : decode cX4_strength 12 = .ok (.iload_n 1, 1) := by decide +kernel
theorem dX4_strength_13 : decode cX4_strength 13 = .ok (.invokevirtual 112, 3) := by decide +kernel
theorem dX4_strength_16 : decode cX4_strength 16 = .ok (.goto 4, 3) := by decide +kernel
theorem dX4_strength_19 : decode cX4_strength 19 = .ok (.iconst 0, 1) := by decide +kernel
theorem dX4_strength_20 : decode cX4_strength 20 = .ok (.ireturn, 1) := by decide +kernel
theorem dX4_play_0 : decode cX4_play 0 = .ok (.iload_n 1, 1) := by decide +kernel
theorem dX4_play_1 : decode cX4_play 1 = .ok (.invokestatic 64, 3) := by decide +kernel
theorem dX4_play_4 : decode cX4_play 4 = .ok (.ifCond .eq 14, 3) := by decide +kernel
theorem dX4_play_7 : decode cX4_play 7 = .ok (.iload_n 2, 1) := by decide +kernel
theorem dX4_play_8 : decode cX4_play 8 = .ok (.invokestatic 64, 3) := by decide +kernel
theorem dX4_play_11 : decode cX4_play 11 = .ok (.ifCond .eq 7, 3) := by decide +kernel
theorem dX4_play_14 : decode cX4_play 14 = .ok (.iconst 1, 1) := by decide +kernel
theorem dX4_play_15 : decode cX4_play 15 = .ok (.goto 4, 3) := by decide +kernel
theorem dX4_play_18 : decode cX4_play 18 = .ok (.iconst 0, 1) := by decide +kernel
theorem dX4_play_19 : decode cX4_play 19 = .ok (.istore_n 3, 1) := by decide +kernel
theorem dX4_play_20 : decode cX4_play 20 = .ok (.aload_n 0, 1) := by decide +kernel
theorem dX4_play_21 : decode cX4_play 21 = .ok (.iload_n 3, 1) := by decide +kernel
theorem dX4_play_22 : decode cX4_play 22 = .ok (.iload_n 1, 1) := by decide +kernel
theorem dX4_play_23 : decode cX4_play 23 = .ok (.iload_n 2, 1) := by decide +kernel
theorem dX4_play_24 : decode cX4_play 24 = .ok (.if_icmp .eq 7, 3) := by decide +kernel
theorem dX4_play_27 : decode cX4_play 27 = .ok (.iconst 1, 1) := by decide +kernel
theorem dX4_play_28 : decode cX4_play 28 = .ok (.goto 4, 3) := by decide +kernel
theorem dX4_play_31 : decode cX4_play 31 = .ok (.iconst 0, 1) := by decide +kernel
theorem dX4_play_32 : decode cX4_play 32 = .ok (.iload_n 3, 1) := by decide +kernel
theorem dX4_play_33 : decode cX4_play 33 = .ok (.ifCond .eq 23, 3) := by decide +kernel
theorem dX4_play_36 : decode cX4_play 36 = .ok (.aload_n 0, 1) := by decide +kernel
theorem dX4_play_37 : decode cX4_play 37 = .ok (.iload_n 1, 1) := by decide +kernel
theorem dX4_play_38 : decode cX4_play 38 = .ok (.invokevirtual 109, 3) := by decide +kernel
theorem dX4_play_41 : decode cX4_play 41 = .ok (.ifCond .eq 15, 3) := by decide +kernel
theorem dX4_play_44 : decode cX4_play 44 = .ok (.aload_n 0, 1) := by decide +kernel
theorem dX4_play_45 : decode cX4_play 45 = .ok (.iload_n 2, 1) := by decide +kernel
theorem dX4_play_46 : decode cX4_play 46 = .ok (.invokevirtual 109, 3) := by decide +kernel
theorem dX4_play_49 : decode cX4_play 49 = .ok (.ifCond .eq 7, 3) := by decide +kernel
theorem dX4_play_52 : decode cX4_play 52 = .ok (.iconst 1, 1) := by decide +kernel
theorem dX4_play_53 : decode cX4_play 53 = .ok (.goto 4, 3) := by decide +kernel
theorem dX4_play_56 : decode cX4_play 56 = .ok (.iconst 0, 1) := by decide +kernel
theorem dX4_play_57 : decode cX4_play 57 = .ok (.invokevirtual 90, 3) := by decide +kernel
theorem dX4_play_60 : decode cX4_play 60 = .ok (.ifCond .ne 5, 3) := by decide +kernel
theorem dX4_play_63 : decode cX4_play 63 = .ok (.iconst 0, 1) := by decide +kernel
theorem dX4_play_64 : decode cX4_play 64 = .ok (.ireturn, 1) := by decide +kernel
theorem dX4_play_65 : decode cX4_play 65 = .ok (.aload_n 0, 1) := by decide +kernel
theorem dX4_play_66 : decode cX4_play 66 = .ok (.iload_n 2, 1) := by decide +kernel
theorem dX4_play_67 : decode cX4_play 67 = .ok (.invokevirtual 112, 3) := by decide +kernel
theorem dX4_play_70 : decode cX4_play 70 = .ok (.aload_n 0, 1) := by decide +kernel
theorem dX4_play_71 : decode cX4_play 71 = .ok (.iload_n 1, 1) := by decide +kernel
theorem dX4_play_72 : decode cX4_play 72 = .ok (.invokevirtual 112, 3) := by decide +kernel
theorem dX4_play_75 : decode cX4_play 75 = .ok (.if_icmp .le 7, 3) := by decide +kernel
theorem dX4_play_78 : decode cX4_play 78 = .ok (.iload_n 2, 1) := by decide +kernel
theorem dX4_play_79 : decode cX4_play 79 = .ok (.goto 4, 3) := by decide +kernel
theorem dX4_play_82 : decode cX4_play 82 = .ok (.iload_n 1, 1) := by decide +kernel
theorem dX4_play_83 : decode cX4_play 83 = .ok (.istore 4, 2) := by decide +kernel
theorem dX4_play_85 : decode cX4_play 85 = .ok (.aload_n 0, 1) := by decide +kernel
theorem dX4_play_86 : decode cX4_play 86 = .ok (.getfield 7, 3) := by decide +kernel
theorem dX4_play_89 : decode cX4_play 89 = .ok (.iload 4, 2) := by decide +kernel
theorem dX4_play_91 : decode cX4_play 91 = .ok (.dup2, 1) := by decide +kernel
theorem dX4_play_92 : decode cX4_play 92 = .ok (.iaload, 1) := by decide +kernel
theorem dX4_play_93 : decode cX4_play 93 = .ok (.iconst 5, 1) := by decide +kernel
theorem dX4_play_94 : decode cX4_play 94 = .ok (.iadd, 1) := by decide +kernel
theorem dX4_play_95 : decode cX4_play 95 = .ok (.iastore, 1) := by decide +kernel
theorem dX4_play_96 : decode cX4_play 96 = .ok (.iload 4, 2) := by decide +kernel
theorem dX4_play_98 : decode cX4_play 98 = .ok (.ireturn, 1) := by decide +kernel
theorem dJ6_bitCount_0f7a4_0 : decode cJ6_bitCount_0f7a4 0 = .ok (.iload_n 0, 1) := by decide +kernel
theorem dJ6_bitCount_0f7a4_1 : decode cJ6_bitCount_0f7a4 1 = .ok (.iload_n 0, 1) := by decide +kernel
theorem dJ6_bitCount_0f7a4_2 : decode cJ6_bitCount_0f7a4 2 = .ok (.iconst 1, 1) := by decide +kernel
theorem dJ6_bitCount_0f7a4_3 : decode cJ6_bitCount_0f7a4 3 = .ok (.iushr, 1) := by decide +kernel
theorem dJ6_bitCount_0f7a4_4 : decode cJ6_bitCount_0f7a4 4 = .ok (.ldc_w 265, 3) := by decide +kernel
theorem dJ6_bitCount_0f7a4_7 : decode cJ6_bitCount_0f7a4 7 = .ok (.iand, 1) := by decide +kernel
theorem dJ6_bitCount_0f7a4_8 : decode cJ6_bitCount_0f7a4 8 = .ok (.isub, 1) := by decide +kernel
theorem dJ6_bitCount_0f7a4_9 : decode cJ6_bitCount_0f7a4 9 = .ok (.istore_n 0, 1) := by decide +kernel
theorem dJ6_bitCount_0f7a4_10 : decode cJ6_bitCount_0f7a4 10 = .ok (.iload_n 0, 1) := by decide +kernel
theorem dJ6_bitCount_0f7a4_11 : decode cJ6_bitCount_0f7a4 11 = .ok (.ldc_w 266, 3) := by decide +kernel
theorem dJ6_bitCount_0f7a4_14 : decode cJ6_bitCount_0f7a4 14 = .ok (.iand, 1) := by decide +kernel
theorem dJ6_bitCount_0f7a4_15 : decode cJ6_bitCount_0f7a4 15 = .ok (.iload_n 0, 1) := by decide +kernel
theorem dJ6_bitCount_0f7a4_16 : decode cJ6_bitCount_0f7a4 16 = .ok (.iconst 2, 1) := by decide +kernel
theorem dJ6_bitCount_0f7a4_17 : decode cJ6_bitCount_0f7a4 17 = .ok (.iushr, 1) := by decide +kernel
theorem dJ6_bitCount_0f7a4_18 : decode cJ6_bitCount_0f7a4 18 = .ok (.ldc_w 266, 3) := by decide +kernel
theorem dJ6_bitCount_0f7a4_21 : decode cJ6_bitCount_0f7a4 21 = .ok (.iand, 1) := by decide +kernel
theorem dJ6_bitCount_0f7a4_22 : decode cJ6_bitCount_0f7a4 22 = .ok (.iadd, 1) := by decide +kernel
theorem dJ6_bitCount_0f7a4_23 : decode cJ6_bitCount_0f7a4 23 = .ok (.istore_n 0, 1) := by decide +kernel
theorem dJ6_bitCount_0f7a4_24 : decode cJ6_bitCount_0f7a4 24 = .ok (.iload_n 0, 1) := by decide +kernel
theorem dJ6_bitCount_0f7a4_25 : decode cJ6_bitCount_0f7a4 25 = .ok (.iload_n 0, 1) := by decide +kernel
theorem dJ6_bitCount_0f7a4_26 : decode cJ6_bitCount_0f7a4 26 = .ok (.iconst 4, 1) := by decide +kernel
theorem dJ6_bitCount_0f7a4_27 : decode cJ6_bitCount_0f7a4 27 = .ok (.iushr, 1) := by decide +kernel
theorem dJ6_bitCount_0f7a4_28 : decode cJ6_bitCount_0f7a4 28 = .ok (.iadd, 1) := by decide +kernel
theorem dJ6_bitCount_0f7a4_29 : decode cJ6_bitCount_0f7a4 29 = .ok (.ldc_w 267, 3) := by decide +kernel
theorem dJ6_bitCount_0f7a4_32 : decode cJ6_bitCount_0f7a4 32 = .ok (.iand, 1) := by decide +kernel
theorem dJ6_bitCount_0f7a4_33 : decode cJ6_bitCount_0f7a4 33 = .ok (.istore_n 0, 1) := by decide +kernel
theorem dJ6_bitCount_0f7a4_34 : decode cJ6_bitCount_0f7a4 34 = .ok (.iload_n 0, 1) := by decide +kernel
theorem dJ6_bitCount_0f7a4_35 : decode cJ6_bitCount_0f7a4 35 = .ok (.iload_n 0, 1) := by decide +kernel
theorem dJ6_bitCount_0f7a4_36 : decode cJ6_bitCount_0f7a4 36 = .ok (.bipush 8, 2) := by decide +kernel
theorem dJ6_bitCount_0f7a4_38 : decode cJ6_bitCount_0f7a4 38 = .ok (.iushr, 1) := by decide +kernel
theorem dJ6_bitCount_0f7a4_39 : decode cJ6_bitCount_0f7a4 39 = .ok (.iadd, 1) := by decide +kernel
theorem dJ6_bitCount_0f7a4_40 : decode cJ6_bitCount_0f7a4 40 = .ok (.istore_n 0, 1) := by decide +kernel
theorem dJ6_bitCount_0f7a4_41 : decode cJ6_bitCount_0f7a4 41 = .ok (.iload_n 0, 1) := by decide +kernel
theorem dJ6_bitCount_0f7a4_42 : decode cJ6_bitCount_0f7a4 42 = .ok (.iload_n 0, 1) := by decide +kernel
theorem dJ6_bitCount_0f7a4_43 : decode cJ6_bitCount_0f7a4 43 = .ok (.bipush 16, 2) := by decide +kernel
theorem dJ6_bitCount_0f7a4_45 : decode cJ6_bitCount_0f7a4 45 = .ok (.iushr, 1) := by decide +kernel
theorem dJ6_bitCount_0f7a4_46 : decode cJ6_bitCount_0f7a4 46 = .ok (.iadd, 1) := by decide +kernel
theorem dJ6_bitCount_0f7a4_47 : decode cJ6_bitCount_0f7a4 47 = .ok (.istore_n 0, 1) := by decide +kernel
theorem dJ6_bitCount_0f7a4_48 : decode cJ6_bitCount_0f7a4 48 = .ok (.iload_n 0, 1) := by decide +kernel
theorem dJ6_bitCount_0f7a4_49 : decode cJ6_bitCount_0f7a4 49 = .ok (.bipush 63, 2) := by decide +kernel
theorem dJ6_bitCount_0f7a4_51 : decode cJ6_bitCount_0f7a4 51 = .ok (.iand, 1) := by decide +kernel
theorem dJ6_bitCount_0f7a4_52 : decode cJ6_bitCount_0f7a4 52 = .ok (.ireturn, 1) := by decide +kernel
theorem dJ7_fill_53178_0 : decode cJ7_fill_53178 0 = .ok (.iconst 0, 1) := by decide +kernel
theorem dJ7_fill_53178_1 : decode cJ7_fill_53178 1 = .ok (.istore_n 2, 1) := by decide +kernel
theorem dJ7_fill_53178_2 : decode cJ7_fill_53178 2 = .ok (.aload_n 0, 1) := by decide +kernel
theorem dJ7_fill_53178_3 : decode cJ7_fill_53178 3 = .ok (.arraylength, 1) := by decide +kernel
theorem dJ7_fill_53178_4 : decode cJ7_fill_53178 4 = .ok (.istore_n 3, 1) := by decide +kernel
theorem dJ7_fill_53178_5 : decode cJ7_fill_53178 5 = .ok (.iload_n 2, 1) := by decide +kernel
theorem dJ7_fill_53178_6 : decode cJ7_fill_53178 6 = .ok (.iload_n 3, 1) := by decide +kernel
theorem dJ7_fill_53178_7 : decode cJ7_fill_53178 7 = .ok (.if_icmp .ge 13, 3) := by decide +kernel
theorem dJ7_fill_53178_10 : decode cJ7_fill_53178 10 = .ok (.aload_n 0, 1) := by decide +kernel
theorem dJ7_fill_53178_11 : decode cJ7_fill_53178 11 = .ok (.iload_n 2, 1) := by decide +kernel
theorem dJ7_fill_53178_12 : decode cJ7_fill_53178 12 = .ok (.iload_n 1, 1) := by decide +kernel
theorem dJ7_fill_53178_13 : decode cJ7_fill_53178 13 = .ok (.iastore, 1) := by decide +kernel
theorem dJ7_fill_53178_14 : decode cJ7_fill_53178 14 = .ok (.iinc 2 1, 3) := by decide +kernel
theorem dJ7_fill_53178_17 : decode cJ7_fill_53178 17 = .ok (.goto (-12), 3) := by decide +kernel
theorem dJ7_fill_53178_20 : decode cJ7_fill_53178 20 = .ok (.return_, 1) := by decide +kernel

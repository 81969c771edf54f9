theorem dX2_init_0 : decode cX2_init 0 = .ok (.aload_n 0, 1) := by decide +kernel
theorem dX2_init_1 : decode cX2_init 1 = .ok (.invokespecial 1, 3) := by decide +kernel
theorem dX2_init_4 : decode cX2_init 4 = .ok (.aload_n 0, 1) := by decide +kernel
theorem dX2_init_5 : decode cX2_init 5 = .ok (.sipush 384, 3) := by decide +kernel
theorem dX2_init_8 : decode cX2_init 8 = .ok (.newarray .byte, 2) := by decide +kernel
theorem dX2_init_10 : decode cX2_init 10 = .ok (.putfield 7, 3) := by decide +kernel
theorem dX2_init_13 : decode cX2_init 13 = .ok (.aload_n 0, 1) := by decide +kernel
theorem dX2_init_14 : decode cX2_init 14 = .ok (.bipush 24, 2) := by decide +kernel
theorem dX2_init_16 : decode cX2_init 16 = .ok (.newarray .boolean, 2) := by decide +kernel
theorem dX2_init_18 : decode cX2_init 18 = .ok (.putfield 13, 3) := by decide +kernel
theorem dX2_init_21 : decode cX2_init 21 = .ok (.aload_n 0, 1) := by decide +kernel
theorem dX2_init_22 : decode cX2_init 22 = .ok (.bipush 24, 2) := by decide +kernel
theorem dX2_init_24 : decode cX2_init 24 = .ok (.newarray .boolean, 2) := by decide +kernel
theorem dX2_init_26 : decode cX2_init 26 = .ok (.putfield 17, 3) := by decide +kernel
theorem dX2_init_29 : decode cX2_init 29 = .ok (.aload_n 0, 1) := by decide +kernel
theorem dX2_init_30 : decode cX2_init 30 = .ok (.bipush 16, 2) := by decide +kernel
theorem dX2_init_32 : decode cX2_init 32 = .ok (.newarray .byte, 2) := by decide +kernel
theorem dX2_init_34 : decode cX2_init 34 = .ok (.putfield 20, 3) := by decide +kernel
theorem dX2_init_37 : decode cX2_init 37 = .ok (.aload_n 0, 1) := by decide +kernel
theorem dX2_init_38 : decode cX2_init 38 = .ok (.bipush 16, 2) := by decide +kernel
theorem dX2_init_40 : decode cX2_init 40 = .ok (.newarray .byte, 2) := by decide +kernel
theorem dX2_init_42 : decode cX2_init 42 = .ok (.putfield 23, 3) := by decide +kernel
theorem dX2_init_45 : decode cX2_init 45 = .ok (.iconst 0, 1) := by decide +kernel
theorem dX2_init_46 : decode cX2_init 46 = .ok (.istore_n 1, 1) := by decide +kernel
theorem dX2_init_47 : decode cX2_init 47 = .ok (.iload_n 1, 1) := by decide +kernel
theorem dX2_init_48 : decode cX2_init 48 = .ok (.bipush 8, 2) := by decide +kernel
theorem dX2_init_50 : decode cX2_init 50 = .ok (.if_icmp .ge 23, 3) := by decide +kernel
theorem dX2_init_53 : decode cX2_init 53 = .ok (.aload_n 0, 1) := by decide +kernel
theorem dX2_init_54 : decode cX2_init 54 = .ok (.getfield 13, 3) := by decide +kernel
theorem dX2_init_57 : decode cX2_init 57 = .ok (.iload_n 1, 1) := by decide +kernel
theorem dX2_init_58 : decode cX2_init 58 = .ok (.iconst 1, 1) := by decide +kernel
theorem dX2_init_59 : decode cX2_init 59 = .ok (.bastore, 1) := by decide +kernel
theorem dX2_init_60 : decode cX2_init 60 = .ok (.aload_n 0, 1) := by decide +kernel
theorem dX2_init_61 : decode cX2_init 61 = .ok (.getfield 17, 3) := by decide +kernel
theorem dX2_init_64 : decode cX2_init 64 = .ok (.iload_n 1, 1) := by decide +kernel
theorem dX2_init_65 : decode cX2_init 65 = .ok (.iconst 1, 1) := by decide +kernel
theorem dX2_init_66 : decode cX2_init 66 = .ok (.bastore, 1) := by decide +kernel
theorem dX2_init_67 : decode cX2_init 67 = .ok (.iinc 1 1, 3) := by decide +kernel
theorem dX2_init_70 : decode cX2_init 70 = .ok (.goto (-23), 3) := by decide +kernel
theorem dX2_init_73 : decode cX2_init 73 = .ok (.return_, 1) := by decide +kernel
theorem dX2_deviceRead_0 : decode cX2_deviceRead 0 = .ok (.iload_n 1, 1) := by decide +kernel
theorem dX2_deviceRead_1 : decode cX2_deviceRead 1 = .ok (.ifCond .lt 22, 3) := by decide +kernel
theorem dX2_deviceRead_4 : decode cX2_deviceRead 4 = .ok (.iload_n 1, 1) := by decide +kernel
theorem dX2_deviceRead_5 : decode cX2_deviceRead 5 = .ok (.sipush 383, 3) := by decide +kernel
theorem dX2_deviceRead_8 : decode cX2_deviceRead 8 = .ok (.if_icmp .gt 15, 3) := by decide +kernel
theorem dX2_deviceRead_11 : decode cX2_deviceRead 11 = .ok (.aload_n 0, 1) := by decide +kernel
theorem dX2_deviceRead_12 : decode cX2_deviceRead 12 = .ok (.getfield 13, 3) := by decide +kernel
theorem dX2_deviceRead_15 : decode cX2_deviceRead 15 = .ok (.iload_n 1, 1) := by decide +kernel
theorem dX2_deviceRead_16 : decode cX2_deviceRead 16 = .ok (.bipush 16, 2) := by decide +kernel
theorem dX2_deviceRead_18 : decode cX2_deviceRead 18 = .ok (.idiv, 1) := by decide +kernel
theorem dX2_deviceRead_19 : decode cX2_deviceRead 19 = .ok (.baload, 1) := by decide +kernel
theorem dX2_deviceRead_20 : decode cX2_deviceRead 20 = .ok (.ifCond .ne 15, 3) := by decide +kernel
theorem dX2_deviceRead_23 : decode cX2_deviceRead 23 = .ok (.aload_n 0, 1) := by decide +kernel
theorem dX2_deviceRead_24 : decode cX2_deviceRead 24 = .ok (.aload_n 0, 1) := by decide +kernel
theorem dX2_deviceRead_25 : decode cX2_deviceRead 25 = .ok (.getfield 26, 3) := by decide +kernel
theorem dX2_deviceRead_28 : decode cX2_deviceRead 28 = .ok (.iconst 1, 1) := by decide +kernel
theorem dX2_deviceRead_29 : decode cX2_deviceRead 29 = .ok (.iadd, 1) := by decide +kernel
theorem dX2_deviceRead_30 : decode cX2_deviceRead 30 = .ok (.putfield 26, 3) := by decide +kernel
theorem dX2_deviceRead_33 : decode cX2_deviceRead 33 = .ok (.iconst (-1), 1) := by decide +kernel
theorem dX2_deviceRead_34 : decode cX2_deviceRead 34 = .ok (.ireturn, 1) := by decide +kernel
theorem dX2_deviceRead_35 : decode cX2_deviceRead 35 = .ok (.aload_n 0, 1) := by decide +kernel
theorem dX2_deviceRead_36 : decode cX2_deviceRead 36 = .ok (.getfield 7, 3) := by decide +kernel
theorem dX2_deviceRead_39 : decode cX2_deviceRead 39 = .ok (.iload_n 1, 1) := by decide +kernel
theorem dX2_deviceRead_40 : decode cX2_deviceRead 40 = .ok (.baload, 1) := by decide +kernel
theorem dX2_deviceRead_41 : decode cX2_deviceRead 41 = .ok (.sipush 255, 3) := by decide +kernel
theorem dX2_deviceRead_44 : decode cX2_deviceRead 44 = .ok (.iand, 1) := by decide +kernel
theorem dX2_deviceRead_45 : decode cX2_deviceRead 45 = .ok (.ireturn, 1) := by decide +kernel
theorem dX2_deviceWrite_0 : decode cX2_deviceWrite 0 = .ok (.iload_n 1, 1) := by decide +kernel
theorem dX2_deviceWrite_1 : decode cX2_deviceWrite 1 = .ok (.ifCond .lt 22, 3) := by decide +kernel
theorem dX2_deviceWrite_4 : decode cX2_deviceWrite 4 = .ok (.iload_n 1, 1) := by decide +kernel
theorem dX2_deviceWrite_5 : decode cX2_deviceWrite 5 = .ok (.sipush 383, 3) := by decide +kernel
theorem dX2_deviceWrite_8 : decode cX2_deviceWrite 8 = .ok (.if_icmp .gt 15, 3) := by decide +kernel
theorem dX2_deviceWrite_11 : decode cX2_deviceWrite 11 = .ok (.aload_n 0, 1) := by decide +kernel
theorem dX2_deviceWrite_12 : decode cX2_deviceWrite 12 = .ok (.getfield 17, 3) := by decide +kernel
theorem dX2_deviceWrite_15 : decode cX2_deviceWrite 15 = .ok (.iload_n 1, 1) := by decide +kernel
theorem dX2_deviceWrite_16 : decode cX2_deviceWrite 16 = .ok (.bipush 16, 2) := by decide +kernel
theorem dX2_deviceWrite_18 : decode cX2_deviceWrite 18 = .ok (.idiv, 1) := by decide +kernel
theorem dX2_deviceWrite_19 : decode cX2_deviceWrite 19 = .ok (.baload, 1) := by decide +kernel
theorem dX2_deviceWrite_20 : decode cX2_deviceWrite 20 = .ok (.ifCond .ne 15, 3) := by decide +kernel
theorem dX2_deviceWrite_23 : decode cX2_deviceWrite 23 = .ok (.aload_n 0, 1) := by decide +kernel
theorem dX2_deviceWrite_24 : decode cX2_deviceWrite 24 = .ok (.aload_n 0, 1) := by decide +kernel
theorem dX2_deviceWrite_25 : decode cX2_deviceWrite 25 = .ok (.getfield 26, 3) := by decide +kernel
theorem dX2_deviceWrite_28 : decode cX2_deviceWrite 28 = .ok (.iconst 1, 1) := by decide +kernel
theorem dX2_deviceWrite_29 : decode cX2_deviceWrite 29 = .ok (.iadd, 1) := by decide +kernel
theorem dX2_deviceWrite_30 : decode cX2_deviceWrite 30 = .ok (.putfield 26, 3) := by decide +kernel
theorem dX2_deviceWrite_33 : decode cX2_deviceWrite 33 = .ok (.iconst (-1), 1) := by decide +kernel
theorem dX2_deviceWrite_34 : decode cX2_deviceWrite 34 = .ok (.ireturn, 1) := by decide +kernel
theorem dX2_deviceWrite_35 : decode cX2_deviceWrite 35 = .ok (.aload_n 0, 1) := by decide +kernel
theorem dX2_deviceWrite_36 : decode cX2_deviceWrite 36 = .ok (.getfield 7, 3) := by decide +kernel
theorem dX2_deviceWrite_39 : decode cX2_deviceWrite 39 = .ok (.iload_n 1, 1) := by decide +kernel
theorem dX2_deviceWrite_40 : decode cX2_deviceWrite 40 = .ok (.iload_n 2, 1) := by decide +kernel
theorem dX2_deviceWrite_41 : decode cX2_deviceWrite 41 = .ok (.i2b, 1) := by decide +kernel
theorem dX2_deviceWrite_42 : decode cX2_deviceWrite 42 = .ok (.bastore, 1) := by decide +kernel
theorem dX2_deviceWrite_43 : decode cX2_deviceWrite 43 = .ok (.iconst 0, 1) := by decide +kernel
theorem dX2_deviceWrite_44 : decode cX2_deviceWrite 44 = .ok (.ireturn, 1) := by decide +kernel
theorem dX2_faults_0 : decode cX2_faults 0 = .ok (.aload_n 0, 1) := by decide +kernel
theorem dX2_faults_1 : decode cX2_faults 1 = .ok (.getfield 26, 3) := by decide +kernel
theorem dX2_faults_4 : decode cX2_faults 4 = .ok (.ireturn, 1) := by decide +kernel
theorem dX2_load_0 : decode cX2_load 0 = .ok (.iload_n 1, 1) := by decide +kernel
theorem dX2_load_1 : decode cX2_load 1 = .ok (.ifCond .lt 9, 3) := by decide +kernel
theorem dX2_load_4 : decode cX2_load 4 = .ok (.iload_n 1, 1) := by decide +kernel
theorem dX2_load_5 : decode cX2_load 5 = .ok (.bipush 15, 2) := by decide +kernel
theorem dX2_load_7 : decode cX2_load 7 = .ok (.if_icmp .le 5, 3) := by decide +kernel
theorem dX2_load_10 : decode cX2_load 10 = .ok (.iconst 0, 1) := by decide +kernel
theorem dX2_load_11 : decode cX2_load 11 = .ok (.ireturn, 1) := by decide +kernel
theorem dX2_load_12 : decode cX2_load 12 = .ok (.aload_n 0, 1) := by decide +kernel
theorem dX2_load_13 : decode cX2_load 13 = .ok (.getfield 20, 3) := by decide +kernel
theorem dX2_load_16 : decode cX2_load 16 = .ok (.iload_n 1, 1) := by decide +kernel
theorem dX2_load_17 : decode cX2_load 17 = .ok (.iload_n 2, 1) := by decide +kernel
theorem dX2_load_18 : decode cX2_load 18 = .ok (.i2b, 1) := by decide +kernel
theorem dX2_load_19 : decode cX2_load 19 = .ok (.bastore, 1) := by decide +kernel
theorem dX2_load_20 : decode cX2_load 20 = .ok (.iconst 1, 1) := by decide +kernel
theorem dX2_load_21 : decode cX2_load 21 = .ok (.ireturn, 1) := by decide +kernel
theorem dX2_describe_0 : decode cX2_describe 0 = .ok (.iconst 0, 1) := by decide +kernel
theorem dX2_describe_1 : decode cX2_describe 1 = .ok (.istore 4, 2) := by decide +kernel
theorem dX2_describe_3 : decode cX2_describe 3 = .ok (.iload 4, 2) := by decide +kernel
theorem dX2_describe_5 : decode cX2_describe 5 = .ok (.bipush 8, 2) := by decide +kernel
theorem dX2_describe_7 : decode cX2_describe 7 = .ok (.if_icmp .ge 19, 3) := by decide +kernel
theorem dX2_describe_10 : decode cX2_describe 10 = .ok (.aload_n 0, 1) := by decide +kernel
theorem dX2_describe_11 : decode cX2_describe 11 = .ok (.getfield 7, 3) := by decide +kernel
theorem dX2_describe_14 : decode cX2_describe 14 = .ok (.iload_n 1, 1) := by decide +kernel
theorem dX2_describe_15 : decode cX2_describe 15 = .ok (.iload 4, 2) := by decide +kernel
theorem dX2_describe_17 : decode cX2_describe 17 = .ok (.iadd, 1) := by decide +kernel
theorem dX2_describe_18 : decode cX2_describe 18 = .ok (.iconst 0, 1) := by decide +kernel
theorem dX2_describe_19 : decode cX2_describe 19 = .ok (.bastore, 1) := by decide +kernel
theorem dX2_describe_20 : decode cX2_describe 20 = .ok (.iinc 4 1, 3) := by decide +kernel
theorem dX2_describe_23 : decode cX2_describe 23 = .ok (.goto (-20), 3) := by decide +kernel
theorem dX2_describe_26 : decode cX2_describe 26 = .ok (.aload_n 0, 1) := by decide +kernel
theorem dX2_describe_27 : decode cX2_describe 27 = .ok (.getfield 7, 3) := by decide +kernel
theorem dX2_describe_30 : decode cX2_describe 30 = .ok (.iload_n 1, 1) := by decide +kernel
theorem dX2_describe_31 : decode cX2_describe 31 = .ok (.iload_n 2, 1) := by decide +kernel
theorem dX2_describe_32 : decode cX2_describe 32 = .ok (.i2b, 1) := by decide +kernel
theorem dX2_describe_33 : decode cX2_describe 33 = .ok (.bastore, 1) := by decide +kernel
theorem dX2_describe_34 : decode cX2_describe 34 = .ok (.aload_n 0, 1) := by decide +kernel
theorem dX2_describe_35 : decode cX2_describe 35 = .ok (.getfield 7, 3) := by decide +kernel
theorem dX2_describe_38 : decode cX2_describe 38 = .ok (.iload_n 1, 1) := by decide +kernel
theorem dX2_describe_39 : decode cX2_describe 39 = .ok (.iconst 1, 1) := by decide +kernel
theorem dX2_describe_40 : decode cX2_describe 40 = .ok (.iadd, 1) := by decide +kernel
theorem dX2_describe_41 : decode cX2_describe 41 = .ok (.iload_n 3, 1) := by decide +kernel
theorem dX2_describe_42 : decode cX2_describe 42 = .ok (.i2b, 1) := by decide +kernel
theorem dX2_describe_43 : decode cX2_describe 43 = .ok (.bastore, 1) := by decide +kernel
theorem dX2_describe_44 : decode cX2_describe 44 = .ok (.aload_n 0, 1) := by decide +kernel
theorem dX2_describe_45 : decode cX2_describe 45 = .ok (.getfield 7, 3) := by decide +kernel
theorem dX2_describe_48 : decode cX2_describe 48 = .ok (.iload_n 1, 1) := by decide +kernel
theorem dX2_describe_49 : decode cX2_describe 49 = .ok (.iconst 2, 1) := by decide +kernel
theorem dX2_describe_50 : decode cX2_describe 50 = .ok (.iadd, 1) := by decide +kernel
theorem dX2_describe_51 : decode cX2_describe 51 = .ok (.iconst 1, 1) := by decide +kernel
theorem dX2_describe_52 : decode cX2_describe 52 = .ok (.bastore, 1) := by decide +kernel
theorem dX2_describe_53 : decode cX2_describe 53 = .ok (.return_, 1) := by decide +kernel
set_option maxRecDepth 20000 in
theorem ggX2_send_X2_describe : GoodIn wsX2_send wsX2_describe := goodIn_r _ [10, 3, 11, 12, 13, 14, 15, 16, 17, 18, 19, 20] (by decide +kernel) (by decide +kernel)
set_option maxRecDepth 20000 in
theorem gX2_send_X2_describe : GoodIn wsX2_send (wsV RX2 36 RX2 yX2_describe wsX2_describe) := goodIn_app (goodIn_of _ (by decide +kernel)) ggX2_send_X2_describe
theorem dX2_send_0 : decode cX2_send 0 = .ok (.iload_n 1, 1) := by decide +kernel
theorem dX2_send_1 : decode cX2_send 1 = .ok (.iconst 1, 1) := by decide +kernel
theorem dX2_send_2 : decode cX2_send 2 = .ok (.if_icmp .lt 9, 3) := by decide +kernel
theorem dX2_send_5 : decode cX2_send 5 = .ok (.iload_n 1, 1) := by decide +kernel
theorem dX2_send_6 : decode cX2_send 6 = .ok (.bipush 16, 2) := by decide +kernel
theorem dX2_send_8 : decode cX2_send 8 = .ok (.if_icmp .le 6, 3) := by decide +kernel
theorem dX2_send_11 : decode cX2_send 11 = .ok (.bipush (-2), 2) := by decide +kernel
theorem dX2_send_13 : decode cX2_send 13 = .ok (.ireturn, 1) := by decide +kernel
theorem dX2_send_14 : decode cX2_send 14 = .ok (.aload_n 0, 1) := by decide +kernel
theorem dX2_send_15 : decode cX2_send 15 = .ok (.getfield 30, 3) := by decide +kernel
theorem dX2_send_18 : decode cX2_send 18 = .ok (.bipush 8, 2) := by decide +kernel
theorem dX2_send_20 : decode cX2_send 20 = .ok (.if_icmp .ne 5, 3) := by decide +kernel
theorem dX2_send_23 : decode cX2_send 23 = .ok (.iconst (-1), 1) := by decide +kernel
theorem dX2_send_24 : decode cX2_send 24 = .ok (.ireturn, 1) := by decide +kernel
theorem dX2_send_25 : decode cX2_send 25 = .ok (.aload_n 0, 1) := by decide +kernel
theorem dX2_send_26 : decode cX2_send 26 = .ok (.getfield 33, 3) := by decide +kernel
theorem dX2_send_29 : decode cX2_send 29 = .ok (.aload_n 0, 1) := by decide +kernel
theorem dX2_send_30 : decode cX2_send 30 = .ok (.getfield 30, 3) := by decide +kernel
theorem dX2_send_33 : decode cX2_send 33 = .ok (.iadd, 1) := by decide +kernel
theorem dX2_send_34 : decode cX2_send 34 = .ok (.bipush 8, 2) := by decide +kernel
theorem dX2_send_36 : decode cX2_send 36 = .ok (.irem, 1) := by decide +kernel
theorem dX2_send_37 : decode cX2_send 37 = .ok (.istore_n 2, 1) := by decide +kernel
theorem dX2_send_38 : decode cX2_send 38 = .ok (.iconst 0, 1) := by decide +kernel
theorem dX2_send_39 : decode cX2_send 39 = .ok (.istore_n 3, 1) := by decide +kernel
theorem dX2_send_40 : decode cX2_send 40 = .ok (.iload_n 3, 1) := by decide +kernel
theorem dX2_send_41 : decode cX2_send 41 = .ok (.bipush 16, 2) := by decide +kernel
theorem dX2_send_43 : decode cX2_send 43 = .ok (.if_icmp .ge 38, 3) := by decide +kernel
theorem dX2_send_46 : decode cX2_send 46 = .ok (.aload_n 0, 1) := by decide +kernel
theorem dX2_send_47 : decode cX2_send 47 = .ok (.getfield 7, 3) := by decide +kernel
theorem dX2_send_50 : decode cX2_send 50 = .ok (.bipush 8, 2) := by decide +kernel
theorem dX2_send_52 : decode cX2_send 52 = .ok (.iload_n 2, 1) := by decide +kernel
theorem dX2_send_53 : decode cX2_send 53 = .ok (.iadd, 1) := by decide +kernel
theorem dX2_send_54 : decode cX2_send 54 = .ok (.bipush 16, 2) := by decide +kernel
theorem dX2_send_56 : decode cX2_send 56 = .ok (.imul, 1) := by decide +kernel
theorem dX2_send_57 : decode cX2_send 57 = .ok (.iload_n 3, 1) := by decide +kernel
theorem dX2_send_58 : decode cX2_send 58 = .ok (.iadd, 1) := by decide +kernel
theorem dX2_send_59 : decode cX2_send 59 = .ok (.iload_n 3, 1) := by decide +kernel
theorem dX2_send_60 : decode cX2_send 60 = .ok (.iload_n 1, 1) := by decide +kernel
theorem dX2_send_61 : decode cX2_send 61 = .ok (.if_icmp .ge 12, 3) := by decide +kernel
theorem dX2_send_64 : decode cX2_send 64 = .ok (.aload_n 0, 1) := by decide +kernel
theorem dX2_send_65 : decode cX2_send 65 = .ok (.getfield 20, 3) := by decide +kernel
theorem dX2_send_68 : decode cX2_send 68 = .ok (.iload_n 3, 1) := by decide +kernel
theorem dX2_send_69 : decode cX2_send 69 = .ok (.baload, 1) := by decide +kernel
theorem dX2_send_70 : decode cX2_send 70 = .ok (.goto 4, 3) := by decide +kernel
theorem dX2_send_73 : decode cX2_send 73 = .ok (.iconst 0, 1) := by decide +kernel
theorem dX2_send_74 : decode cX2_send 74 = .ok (.bastore, 1) := by decide +kernel
theorem dX2_send_75 : decode cX2_send 75 = .ok (.iinc 3 1, 3) := by decide +kernel
theorem dX2_send_78 : decode cX2_send 78 = .ok (.goto (-38), 3) := by decide +kernel
theorem dX2_send_81 : decode cX2_send 81 = .ok (.aload_n 0, 1) := by decide +kernel
theorem dX2_send_82 : decode cX2_send 82 = .ok (.getfield 13, 3) := by decide +kernel
theorem dX2_send_85 : decode cX2_send 85 = .ok (.bipush 8, 2) := by decide +kernel
theorem dX2_send_87 : decode cX2_send 87 = .ok (.iload_n 2, 1) := by decide +kernel
theorem dX2_send_88 : decode cX2_send 88 = .ok (.iadd, 1) := by decide +kernel
theorem dX2_send_89 : decode cX2_send 89 = .ok (.iconst 1, 1) := by decide +kernel
theorem dX2_send_90 : decode cX2_send 90 = .ok (.bastore, 1) := by decide +kernel
theorem dX2_send_91 : decode cX2_send 91 = .ok (.aload_n 0, 1) := by decide +kernel
theorem dX2_send_92 : decode cX2_send 92 = .ok (.bipush 8, 2) := by decide +kernel
theorem dX2_send_94 : decode cX2_send 94 = .ok (.iload_n 2, 1) := by decide +kernel
theorem dX2_send_95 : decode cX2_send 95 = .ok (.imul, 1) := by decide +kernel
theorem dX2_send_96 : decode cX2_send 96 = .ok (.bipush 8, 2) := by decide +kernel
theorem dX2_send_98 : decode cX2_send 98 = .ok (.iload_n 2, 1) := by decide +kernel
theorem dX2_send_99 : decode cX2_send 99 = .ok (.iadd, 1) := by decide +kernel
theorem dX2_send_100 : decode cX2_send 100 = .ok (.iload_n 1, 1) := by decide +kernel
theorem dX2_send_101 : decode cX2_send 101 = .ok (.invokevirtual 36, 3) := by decide +kernel
theorem dX2_send_104 : decode cX2_send 104 = .ok (.aload_n 0, 1) := by decide +kernel
theorem dX2_send_105 : decode cX2_send 105 = .ok (.aload_n 0, 1) := by decide +kernel
theorem dX2_send_106 : decode cX2_send 106 = .ok (.getfield 30, 3) := by decide +kernel
theorem dX2_send_109 : decode cX2_send 109 = .ok (.iconst 1, 1) := by decide +kernel
theorem dX2_send_110 : decode cX2_send 110 = .ok (.iadd, 1) := by decide +kernel
theorem dX2_send_111 : decode cX2_send 111 = .ok (.putfield 30, 3) := by decide +kernel
theorem dX2_send_114 : decode cX2_send 114 = .ok (.iload_n 2, 1) := by decide +kernel
theorem dX2_send_115 : decode cX2_send 115 = .ok (.ireturn, 1) := by decide +kernel
theorem dX2_reclaim_0 : decode cX2_reclaim 0 = .ok (.iconst 0, 1) := by decide +kernel
theorem dX2_reclaim_1 : decode cX2_reclaim 1 = .ok (.istore_n 1, 1) := by decide +kernel
theorem dX2_reclaim_2 : decode cX2_reclaim 2 = .ok (.iconst 0, 1) := by decide +kernel
theorem dX2_reclaim_3 : decode cX2_reclaim 3 = .ok (.istore_n 2, 1) := by decide +kernel
theorem dX2_reclaim_4 : decode cX2_reclaim 4 = .ok (.iload_n 2, 1) := by decide +kernel
theorem dX2_reclaim_5 : decode cX2_reclaim 5 = .ok (.bipush 8, 2) := by decide +kernel
theorem dX2_reclaim_7 : decode cX2_reclaim 7 = .ok (.if_icmp .ge 73, 3) := by decide +kernel
theorem dX2_reclaim_10 : decode cX2_reclaim 10 = .ok (.aload_n 0, 1) := by decide +kernel
theorem dX2_reclaim_11 : decode cX2_reclaim 11 = .ok (.getfield 30, 3) := by decide +kernel
theorem dX2_reclaim_14 : decode cX2_reclaim 14 = .ok (.ifCond .le 60, 3) := by decide +kernel
theorem dX2_reclaim_17 : decode cX2_reclaim 17 = .ok (.aload_n 0, 1) := by decide +kernel
theorem dX2_reclaim_18 : decode cX2_reclaim 18 = .ok (.getfield 7, 3) := by decide +kernel
theorem dX2_reclaim_21 : decode cX2_reclaim 21 = .ok (.bipush 8, 2) := by decide +kernel
theorem dX2_reclaim_23 : decode cX2_reclaim 23 = .ok (.aload_n 0, 1) := by decide +kernel
theorem dX2_reclaim_24 : decode cX2_reclaim 24 = .ok (.getfield 33, 3) := by decide +kernel
theorem dX2_reclaim_27 : decode cX2_reclaim 27 = .ok (.imul, 1) := by decide +kernel
theorem dX2_reclaim_28 : decode cX2_reclaim 28 = .ok (.iconst 2, 1) := by decide +kernel
theorem dX2_reclaim_29 : decode cX2_reclaim 29 = .ok (.iadd, 1) := by decide +kernel
theorem dX2_reclaim_30 : decode cX2_reclaim 30 = .ok (.baload, 1) := by decide +kernel
theorem dX2_reclaim_31 : decode cX2_reclaim 31 = .ok (.ifCond .ne 43, 3) := by decide +kernel
theorem dX2_reclaim_34 : decode cX2_reclaim 34 = .ok (.aload_n 0, 1) := by decide +kernel
theorem dX2_reclaim_35 : decode cX2_reclaim 35 = .ok (.getfield 13, 3) := by decide +kernel
theorem dX2_reclaim_38 : decode cX2_reclaim 38 = .ok (.bipush 8, 2) := by decide +kernel
theorem dX2_reclaim_40 : decode cX2_reclaim 40 = .ok (.aload_n 0, 1) := by decide +kernel
theorem dX2_reclaim_41 : decode cX2_reclaim 41 = .ok (.getfield 33, 3) := by decide +kernel
theorem dX2_reclaim_44 : decode cX2_reclaim 44 = .ok (.iadd, 1) := by decide +kernel
theorem dX2_reclaim_45 : decode cX2_reclaim 45 = .ok (.iconst 0, 1) := by decide +kernel
theorem dX2_reclaim_46 : decode cX2_reclaim 46 = .ok (.bastore, 1) := by decide +kernel
theorem dX2_reclaim_47 : decode cX2_reclaim 47 = .ok (.aload_n 0, 1) := by decide +kernel
theorem dX2_reclaim_48 : decode cX2_reclaim 48 = .ok (.aload_n 0, 1) := by decide +kernel
theorem dX2_reclaim_49 : decode cX2_reclaim 49 = .ok (.getfield 33, 3) := by decide +kernel
theorem dX2_reclaim_52 : decode cX2_reclaim 52 = .ok (.iconst 1, 1) := by decide +kernel
theorem dX2_reclaim_53 : decode cX2_reclaim 53 = .ok (.iadd, 1) := by decide +kernel
theorem dX2_reclaim_54 : decode cX2_reclaim 54 = .ok (.bipush 8, 2) := by decide +kernel
theorem dX2_reclaim_56 : decode cX2_reclaim 56 = .ok (.irem, 1) := by decide +kernel
theorem dX2_reclaim_57 : decode cX2_reclaim 57 = .ok (.putfield 33, 3) := by decide +kernel
theorem dX2_reclaim_60 : decode cX2_reclaim 60 = .ok (.aload_n 0, 1) := by decide +kernel
theorem dX2_reclaim_61 : decode cX2_reclaim 61 = .ok (.aload_n 0, 1) := by decide +kernel
theorem dX2_reclaim_62 : decode cX2_reclaim 62 = .ok (.getfield 30, 3) := by decide +kernel
theorem dX2_reclaim_65 : decode cX2_reclaim 65 = .ok (.iconst 1, 1) := by decide +kernel
theorem dX2_reclaim_66 : decode cX2_reclaim 66 = .ok (.isub, 1) := by decide +kernel
theorem dX2_reclaim_67 : decode cX2_reclaim 67 = .ok (.putfield 30, 3) := by decide +kernel
theorem dX2_reclaim_70 : decode cX2_reclaim 70 = .ok (.iload_n 1, 1) := by decide +kernel
theorem dX2_reclaim_71 : decode cX2_reclaim 71 = .ok (.iconst 1, 1) := by decide +kernel
theorem dX2_reclaim_72 : decode cX2_reclaim 72 = .ok (.iadd, 1) := by decide +kernel
theorem dX2_reclaim_73 : decode cX2_reclaim 73 = .ok (.istore_n 1, 1) := by decide +kernel
theorem dX2_reclaim_74 : decode cX2_reclaim 74 = .ok (.iinc 2 1, 3) := by decide +kernel
theorem dX2_reclaim_77 : decode cX2_reclaim 77 = .ok (.goto (-73), 3) := by decide +kernel
theorem dX2_reclaim_80 : decode cX2_reclaim 80 = .ok (.iload_n 1, 1) := by decide +kernel
theorem dX2_reclaim_81 : decode cX2_reclaim 81 = .ok (.ireturn, 1) := by decide +kernel
set_option maxRecDepth 20000 in
theorem ggX2_revoke_X2_reclaim : GoodIn wsX2_revoke wsX2_reclaim := goodIn_r _ [9, 1, 4, 2, 3, 10, 11, 12, 13, 14, 15, 16, 17, 18, 19] (by decide +kernel) (by decide +kernel)
set_option maxRecDepth 20000 in
theorem gX2_revoke_X2_reclaim : GoodIn wsX2_revoke (wsV RX2 40 RX2 yX2_reclaim wsX2_reclaim) := goodIn_app (goodIn_of _ (by decide +kernel)) ggX2_revoke_X2_reclaim
theorem dX2_revoke_0 : decode cX2_revoke 0 = .ok (.aload_n 0, 1) := by decide +kernel
theorem dX2_revoke_1 : decode cX2_revoke 1 = .ok (.invokevirtual 40, 3) := by decide +kernel
theorem dX2_revoke_4 : decode cX2_revoke 4 = .ok (.istore_n 1, 1) := by decide +kernel
theorem dX2_revoke_5 : decode cX2_revoke 5 = .ok (.aload_n 0, 1) := by decide +kernel
theorem dX2_revoke_6 : decode cX2_revoke 6 = .ok (.getfield 30, 3) := by decide +kernel
theorem dX2_revoke_9 : decode cX2_revoke 9 = .ok (.istore_n 2, 1) := by decide +kernel
theorem dX2_revoke_10 : decode cX2_revoke 10 = .ok (.iconst 0, 1) := by decide +kernel
theorem dX2_revoke_11 : decode cX2_revoke 11 = .ok (.istore_n 3, 1) := by decide +kernel
theorem dX2_revoke_12 : decode cX2_revoke 12 = .ok (.iload_n 3, 1) := by decide +kernel
theorem dX2_revoke_13 : decode cX2_revoke 13 = .ok (.iload_n 2, 1) := by decide +kernel
theorem dX2_revoke_14 : decode cX2_revoke 14 = .ok (.if_icmp .ge 44, 3) := by decide +kernel
theorem dX2_revoke_17 : decode cX2_revoke 17 = .ok (.aload_n 0, 1) := by decide +kernel
theorem dX2_revoke_18 : decode cX2_revoke 18 = .ok (.getfield 33, 3) := by decide +kernel
theorem dX2_revoke_21 : decode cX2_revoke 21 = .ok (.iload_n 3, 1) := by decide +kernel
theorem dX2_revoke_22 : decode cX2_revoke 22 = .ok (.iadd, 1) := by decide +kernel
theorem dX2_revoke_23 : decode cX2_revoke 23 = .ok (.bipush 8, 2) := by decide +kernel
theorem dX2_revoke_25 : decode cX2_revoke 25 = .ok (.irem, 1) := by decide +kernel
theorem dX2_revoke_26 : decode cX2_revoke 26 = .ok (.istore 4, 2) := by decide +kernel
theorem dX2_revoke_28 : decode cX2_revoke 28 = .ok (.aload_n 0, 1) := by decide +kernel
theorem dX2_revoke_29 : decode cX2_revoke 29 = .ok (.getfield 13, 3) := by decide +kernel
theorem dX2_revoke_32 : decode cX2_revoke 32 = .ok (.bipush 8, 2) := by decide +kernel
theorem dX2_revoke_34 : decode cX2_revoke 34 = .ok (.iload 4, 2) := by decide +kernel
theorem dX2_revoke_36 : decode cX2_revoke 36 = .ok (.iadd, 1) := by decide +kernel
theorem dX2_revoke_37 : decode cX2_revoke 37 = .ok (.iconst 0, 1) := by decide +kernel
theorem dX2_revoke_38 : decode cX2_revoke 38 = .ok (.bastore, 1) := by decide +kernel
theorem dX2_revoke_39 : decode cX2_revoke 39 = .ok (.aload_n 0, 1) := by decide +kernel
theorem dX2_revoke_40 : decode cX2_revoke 40 = .ok (.getfield 7, 3) := by decide +kernel
theorem dX2_revoke_43 : decode cX2_revoke 43 = .ok (.bipush 8, 2) := by decide +kernel
theorem dX2_revoke_45 : decode cX2_revoke 45 = .ok (.iload 4, 2) := by decide +kernel
theorem dX2_revoke_47 : decode cX2_revoke 47 = .ok (.imul, 1) := by decide +kernel
theorem dX2_revoke_48 : decode cX2_revoke 48 = .ok (.iconst 2, 1) := by decide +kernel
theorem dX2_revoke_49 : decode cX2_revoke 49 = .ok (.iadd, 1) := by decide +kernel
theorem dX2_revoke_50 : decode cX2_revoke 50 = .ok (.iconst 0, 1) := by decide +kernel
theorem dX2_revoke_51 : decode cX2_revoke 51 = .ok (.bastore, 1) := by decide +kernel
theorem dX2_revoke_52 : decode cX2_revoke 52 = .ok (.iinc 3 1, 3) := by decide +kernel
theorem dX2_revoke_55 : decode cX2_revoke 55 = .ok (.goto (-43), 3) := by decide +kernel
theorem dX2_revoke_58 : decode cX2_revoke 58 = .ok (.aload_n 0, 1) := by decide +kernel
theorem dX2_revoke_59 : decode cX2_revoke 59 = .ok (.iconst 0, 1) := by decide +kernel
theorem dX2_revoke_60 : decode cX2_revoke 60 = .ok (.putfield 30, 3) := by decide +kernel
theorem dX2_revoke_63 : decode cX2_revoke 63 = .ok (.iload_n 2, 1) := by decide +kernel
theorem dX2_revoke_64 : decode cX2_revoke 64 = .ok (.ireturn, 1) := by decide +kernel
set_option maxRecDepth 20000 in
theorem ggX2_post_X2_describe : GoodIn wsX2_post wsX2_describe := goodIn_r _ [9, 3, 10, 11, 12, 13, 14, 15, 16, 17, 18, 19] (by decide +kernel) (by decide +kernel)
set_option maxRecDepth 20000 in
theorem gX2_post_X2_describe : GoodIn wsX2_post (wsV RX2 36 RX2 yX2_describe wsX2_describe) := goodIn_app (goodIn_of _ (by decide +kernel)) ggX2_post_X2_describe
theorem dX2_post_0 : decode cX2_post 0 = .ok (.aload_n 0, 1) := by decide +kernel
theorem dX2_post_1 : decode cX2_post 1 = .ok (.getfield 44, 3) := by decide +kernel
theorem dX2_post_4 : decode cX2_post 4 = .ok (.bipush 8, 2) := by decide +kernel
theorem dX2_post_6 : decode cX2_post 6 = .ok (.if_icmp .ne 5, 3) := by decide +kernel
theorem dX2_post_9 : decode cX2_post 9 = .ok (.iconst (-1), 1) := by decide +kernel
theorem dX2_post_10 : decode cX2_post 10 = .ok (.ireturn, 1) := by decide +kernel
theorem dX2_post_11 : decode cX2_post 11 = .ok (.aload_n 0, 1) := by decide +kernel
theorem dX2_post_12 : decode cX2_post 12 = .ok (.getfield 47, 3) := by decide +kernel
theorem dX2_post_15 : decode cX2_post 15 = .ok (.aload_n 0, 1) := by decide +kernel
theorem dX2_post_16 : decode cX2_post 16 = .ok (.getfield 44, 3) := by decide +kernel
theorem dX2_post_19 : decode cX2_post 19 = .ok (.iadd, 1) := by decide +kernel
theorem dX2_post_20 : decode cX2_post 20 = .ok (.bipush 8, 2) := by decide +kernel
theorem dX2_post_22 : decode cX2_post 22 = .ok (.irem, 1) := by decide +kernel
theorem dX2_post_23 : decode cX2_post 23 = .ok (.istore_n 1, 1) := by decide +kernel
theorem dX2_post_24 : decode cX2_post 24 = .ok (.iconst 0, 1) := by decide +kernel
theorem dX2_post_25 : decode cX2_post 25 = .ok (.istore_n 2, 1) := by decide +kernel
theorem dX2_post_26 : decode cX2_post 26 = .ok (.iload_n 2, 1) := by decide +kernel
theorem dX2_post_27 : decode cX2_post 27 = .ok (.bipush 16, 2) := by decide +kernel
theorem dX2_post_29 : decode cX2_post 29 = .ok (.if_icmp .ge 24, 3) := by decide +kernel
theorem dX2_post_32 : decode cX2_post 32 = .ok (.aload_n 0, 1) := by decide +kernel
theorem dX2_post_33 : decode cX2_post 33 = .ok (.getfield 7, 3) := by decide +kernel
theorem dX2_post_36 : decode cX2_post 36 = .ok (.bipush 16, 2) := by decide +kernel
theorem dX2_post_38 : decode cX2_post 38 = .ok (.iload_n 1, 1) := by decide +kernel
theorem dX2_post_39 : decode cX2_post 39 = .ok (.iadd, 1) := by decide +kernel
theorem dX2_post_40 : decode cX2_post 40 = .ok (.bipush 16, 2) := by decide +kernel
theorem dX2_post_42 : decode cX2_post 42 = .ok (.imul, 1) := by decide +kernel
theorem dX2_post_43 : decode cX2_post 43 = .ok (.iload_n 2, 1) := by decide +kernel
theorem dX2_post_44 : decode cX2_post 44 = .ok (.iadd, 1) := by decide +kernel
theorem dX2_post_45 : decode cX2_post 45 = .ok (.iconst 0, 1) := by decide +kernel
theorem dX2_post_46 : decode cX2_post 46 = .ok (.bastore, 1) := by decide +kernel
theorem dX2_post_47 : decode cX2_post 47 = .ok (.iinc 2 1, 3) := by decide +kernel
theorem dX2_post_50 : decode cX2_post 50 = .ok (.goto (-24), 3) := by decide +kernel
theorem dX2_post_53 : decode cX2_post 53 = .ok (.aload_n 0, 1) := by decide +kernel
theorem dX2_post_54 : decode cX2_post 54 = .ok (.getfield 17, 3) := by decide +kernel
theorem dX2_post_57 : decode cX2_post 57 = .ok (.bipush 16, 2) := by decide +kernel
theorem dX2_post_59 : decode cX2_post 59 = .ok (.iload_n 1, 1) := by decide +kernel
theorem dX2_post_60 : decode cX2_post 60 = .ok (.iadd, 1) := by decide +kernel
theorem dX2_post_61 : decode cX2_post 61 = .ok (.iconst 1, 1) := by decide +kernel
theorem dX2_post_62 : decode cX2_post 62 = .ok (.bastore, 1) := by decide +kernel
theorem dX2_post_63 : decode cX2_post 63 = .ok (.aload_n 0, 1) := by decide +kernel
theorem dX2_post_64 : decode cX2_post 64 = .ok (.bipush 64, 2) := by decide +kernel
theorem dX2_post_66 : decode cX2_post 66 = .ok (.bipush 8, 2) := by decide +kernel
theorem dX2_post_68 : decode cX2_post 68 = .ok (.iload_n 1, 1) := by decide +kernel
theorem dX2_post_69 : decode cX2_post 69 = .ok (.imul, 1) := by decide +kernel
theorem dX2_post_70 : decode cX2_post 70 = .ok (.iadd, 1) := by decide +kernel
theorem dX2_post_71 : decode cX2_post 71 = .ok (.bipush 16, 2) := by decide +kernel
theorem dX2_post_73 : decode cX2_post 73 = .ok (.iload_n 1, 1) := by decide +kernel
theorem dX2_post_74 : decode cX2_post 74 = .ok (.iadd, 1) := by decide +kernel
theorem dX2_post_75 : decode cX2_post 75 = .ok (.iconst 0, 1) := by decide +kernel
theorem dX2_post_76 : decode cX2_post 76 = .ok (.invokevirtual 36, 3) := by decide +kernel
theorem dX2_post_79 : decode cX2_post 79 = .ok (.aload_n 0, 1) := by decide +kernel
theorem dX2_post_80 : decode cX2_post 80 = .ok (.aload_n 0, 1) := by decide +kernel
theorem dX2_post_81 : decode cX2_post 81 = .ok (.getfield 44, 3) := by decide +kernel
theorem dX2_post_84 : decode cX2_post 84 = .ok (.iconst 1, 1) := by decide +kernel
theorem dX2_post_85 : decode cX2_post 85 = .ok (.iadd, 1) := by decide +kernel
theorem dX2_post_86 : decode cX2_post 86 = .ok (.putfield 44, 3) := by decide +kernel
theorem dX2_post_89 : decode cX2_post 89 = .ok (.iload_n 1, 1) := by decide +kernel
theorem dX2_post_90 : decode cX2_post 90 = .ok (.ireturn, 1) := by decide +kernel
theorem dX2_receive_0 : decode cX2_receive 0 = .ok (.aload_n 0, 1) := by decide +kernel
theorem dX2_receive_1 : decode cX2_receive 1 = .ok (.getfield 44, 3) := by decide +kernel
theorem dX2_receive_4 : decode cX2_receive 4 = .ok (.ifCond .eq 23, 3) := by decide +kernel
theorem dX2_receive_7 : decode cX2_receive 7 = .ok (.aload_n 0, 1) := by decide +kernel
theorem dX2_receive_8 : decode cX2_receive 8 = .ok (.getfield 7, 3) := by decide +kernel
theorem dX2_receive_11 : decode cX2_receive 11 = .ok (.bipush 64, 2) := by decide +kernel
theorem dX2_receive_13 : decode cX2_receive 13 = .ok (.bipush 8, 2) := by decide +kernel
theorem dX2_receive_15 : decode cX2_receive 15 = .ok (.aload_n 0, 1) := by decide +kernel
theorem dX2_receive_16 : decode cX2_receive 16 = .ok (.getfield 47, 3) := by decide +kernel
theorem dX2_receive_19 : decode cX2_receive 19 = .ok (.imul, 1) := by decide +kernel
theorem dX2_receive_20 : decode cX2_receive 20 = .ok (.iadd, 1) := by decide +kernel
theorem dX2_receive_21 : decode cX2_receive 21 = .ok (.iconst 2, 1) := by decide +kernel
theorem dX2_receive_22 : decode cX2_receive 22 = .ok (.iadd, 1) := by decide +kernel
theorem dX2_receive_23 : decode cX2_receive 23 = .ok (.baload, 1) := by decide +kernel
theorem dX2_receive_24 : decode cX2_receive 24 = .ok (.ifCond .eq 5, 3) := by decide +kernel
theorem dX2_receive_27 : decode cX2_receive 27 = .ok (.iconst (-1), 1) := by decide +kernel
theorem dX2_receive_28 : decode cX2_receive 28 = .ok (.ireturn, 1) := by decide +kernel
theorem dX2_receive_29 : decode cX2_receive 29 = .ok (.aload_n 0, 1) := by decide +kernel
theorem dX2_receive_30 : decode cX2_receive 30 = .ok (.getfield 47, 3) := by decide +kernel
theorem dX2_receive_33 : decode cX2_receive 33 = .ok (.istore_n 1, 1) := by decide +kernel
theorem dX2_receive_34 : decode cX2_receive 34 = .ok (.aload_n 0, 1) := by decide +kernel
theorem dX2_receive_35 : decode cX2_receive 35 = .ok (.getfield 17, 3) := by decide +kernel
theorem dX2_receive_38 : decode cX2_receive 38 = .ok (.bipush 16, 2) := by decide +kernel
theorem dX2_receive_40 : decode cX2_receive 40 = .ok (.iload_n 1, 1) := by decide +kernel
theorem dX2_receive_41 : decode cX2_receive 41 = .ok (.iadd, 1) := by decide +kernel
theorem dX2_receive_42 : decode cX2_receive 42 = .ok (.iconst 0, 1) := by decide +kernel
theorem dX2_receive_43 : decode cX2_receive 43 = .ok (.bastore, 1) := by decide +kernel
theorem dX2_receive_44 : decode cX2_receive 44 = .ok (.aload_n 0, 1) := by decide +kernel
theorem dX2_receive_45 : decode cX2_receive 45 = .ok (.aload_n 0, 1) := by decide +kernel
theorem dX2_receive_46 : decode cX2_receive 46 = .ok (.getfield 47, 3) := by decide +kernel
theorem dX2_receive_49 : decode cX2_receive 49 = .ok (.iconst 1, 1) := by decide +kernel
theorem dX2_receive_50 : decode cX2_receive 50 = .ok (.iadd, 1) := by decide +kernel
theorem dX2_receive_51 : decode cX2_receive 51 = .ok (.bipush 8, 2) := by decide +kernel
theorem dX2_receive_53 : decode cX2_receive 53 = .ok (.irem, 1) := by decide +kernel
theorem dX2_receive_54 : decode cX2_receive 54 = .ok (.putfield 47, 3) := by decide +kernel
theorem dX2_receive_57 : decode cX2_receive 57 = .ok (.aload_n 0, 1) := by decide +kernel
theorem dX2_receive_58 : decode cX2_receive 58 = .ok (.aload_n 0, 1) := by decide +kernel
theorem dX2_receive_59 : decode cX2_receive 59 = .ok (.getfield 44, 3) := by decide +kernel
theorem dX2_receive_62 : decode cX2_receive 62 = .ok (.iconst 1, 1) := by decide +kernel
theorem dX2_receive_63 : decode cX2_receive 63 = .ok (.isub, 1) := by decide +kernel
theorem dX2_receive_64 : decode cX2_receive 64 = .ok (.putfield 44, 3) := by decide +kernel
theorem dX2_receive_67 : decode cX2_receive 67 = .ok (.aload_n 0, 1) := by decide +kernel
theorem dX2_receive_68 : decode cX2_receive 68 = .ok (.getfield 7, 3) := by decide +kernel
theorem dX2_receive_71 : decode cX2_receive 71 = .ok (.bipush 64, 2) := by decide +kernel
theorem dX2_receive_73 : decode cX2_receive 73 = .ok (.bipush 8, 2) := by decide +kernel
theorem dX2_receive_75 : decode cX2_receive 75 = .ok (.iload_n 1, 1) := by decide +kernel
theorem dX2_receive_76 : decode cX2_receive 76 = .ok (.imul, 1) := by decide +kernel
theorem dX2_receive_77 : decode cX2_receive 77 = .ok (.iadd, 1) := by decide +kernel
theorem dX2_receive_78 : decode cX2_receive 78 = .ok (.iconst 1, 1) := by decide +kernel
theorem dX2_receive_79 : decode cX2_receive 79 = .ok (.iadd, 1) := by decide +kernel
theorem dX2_receive_80 : decode cX2_receive 80 = .ok (.baload, 1) := by decide +kernel
theorem dX2_receive_81 : decode cX2_receive 81 = .ok (.sipush 255, 3) := by decide +kernel
theorem dX2_receive_84 : decode cX2_receive 84 = .ok (.iand, 1) := by decide +kernel
theorem dX2_receive_85 : decode cX2_receive 85 = .ok (.istore_n 2, 1) := by decide +kernel
theorem dX2_receive_86 : decode cX2_receive 86 = .ok (.iload_n 2, 1) := by decide +kernel
theorem dX2_receive_87 : decode cX2_receive 87 = .ok (.ifCond .eq 9, 3) := by decide +kernel
theorem dX2_receive_90 : decode cX2_receive 90 = .ok (.iload_n 2, 1) := by decide +kernel
theorem dX2_receive_91 : decode cX2_receive 91 = .ok (.bipush 16, 2) := by decide +kernel
theorem dX2_receive_93 : decode cX2_receive 93 = .ok (.if_icmp .le 6, 3) := by decide +kernel
theorem dX2_receive_96 : decode cX2_receive 96 = .ok (.bipush (-3), 2) := by decide +kernel
theorem dX2_receive_98 : decode cX2_receive 98 = .ok (.ireturn, 1) := by decide +kernel
theorem dX2_receive_99 : decode cX2_receive 99 = .ok (.iconst 0, 1) := by decide +kernel
theorem dX2_receive_100 : decode cX2_receive 100 = .ok (.istore_n 3, 1) := by decide +kernel
theorem dX2_receive_101 : decode cX2_receive 101 = .ok (.iload_n 3, 1) := by decide +kernel
theorem dX2_receive_102 : decode cX2_receive 102 = .ok (.iload_n 2, 1) := by decide +kernel
theorem dX2_receive_103 : decode cX2_receive 103 = .ok (.if_icmp .ge 29, 3) := by decide +kernel
theorem dX2_receive_106 : decode cX2_receive 106 = .ok (.aload_n 0, 1) := by decide +kernel
theorem dX2_receive_107 : decode cX2_receive 107 = .ok (.getfield 23, 3) := by decide +kernel
theorem dX2_receive_110 : decode cX2_receive 110 = .ok (.iload_n 3, 1) := by decide +kernel
theorem dX2_receive_111 : decode cX2_receive 111 = .ok (.aload_n 0, 1) := by decide +kernel
theorem dX2_receive_112 : decode cX2_receive 112 = .ok (.getfield 7, 3) := by decide +kernel
theorem dX2_receive_115 : decode cX2_receive 115 = .ok (.bipush 16, 2) := by decide +kernel
theorem dX2_receive_117 : decode cX2_receive 117 = .ok (.iload_n 1, 1) := by decide +kernel
theorem dX2_receive_118 : decode cX2_receive 118 = .ok (.iadd, 1) := by decide +kernel
theorem dX2_receive_119 : decode cX2_receive 119 = .ok (.bipush 16, 2) := by decide +kernel
theorem dX2_receive_121 : decode cX2_receive 121 = .ok (.imul, 1) := by decide +kernel
theorem dX2_receive_122 : decode cX2_receive 122 = .ok (.iload_n 3, 1) := by decide +kernel
theorem dX2_receive_123 : decode cX2_receive 123 = .ok (.iadd, 1) := by decide +kernel
theorem dX2_receive_124 : decode cX2_receive 124 = .ok (.baload, 1) := by decide +kernel
theorem dX2_receive_125 : decode cX2_receive 125 = .ok (.bastore, 1) := by decide +kernel
theorem dX2_receive_126 : decode cX2_receive 126 = .ok (.iinc 3 1, 3) := by decide +kernel
theorem dX2_receive_129 : decode cX2_receive 129 = .ok (.goto (-28), 3) := by decide +kernel
theorem dX2_receive_132 : decode cX2_receive 132 = .ok (.iload_n 2, 1) := by decide +kernel
theorem dX2_receive_133 : decode cX2_receive 133 = .ok (.ireturn, 1) := by decide +kernel
theorem dX2_taken_0 : decode cX2_taken 0 = .ok (.iload_n 1, 1) := by decide +kernel
theorem dX2_taken_1 : decode cX2_taken 1 = .ok (.ifCond .lt 9, 3) := by decide +kernel
theorem dX2_taken_4 : decode cX2_taken 4 = .ok (.iload_n 1, 1) := by decide +kernel
theorem dX2_taken_5 : decode cX2_taken 5 = .ok (.bipush 15, 2) := by decide +kernel
theorem dX2_taken_7 : decode cX2_taken 7 = .ok (.if_icmp .le 7, 3) := by decide +kernel
theorem dX2_taken_10 : decode cX2_taken 10 = .ok (.iconst (-1), 1) := by decide +kernel
theorem dX2_taken_11 : decode cX2_taken 11 = .ok (.goto 13, 3) := by decide +kernel
theorem dX2_taken_14 : decode cX2_taken 14 = .ok (.aload_n 0, 1) := by decide +kernel
theorem dX2_taken_15 : decode cX2_taken 15 = .ok (.getfield 23, 3) := by decide +kernel
theorem dX2_taken_18 : decode cX2_taken 18 = .ok (.iload_n 1, 1) := by decide +kernel
theorem dX2_taken_19 : decode cX2_taken 19 = .ok (.baload, 1) := by decide +kernel
theorem dX2_taken_20 : decode cX2_taken 20 = .ok (.sipush 255, 3) := by decide +kernel
theorem dX2_taken_23 : decode cX2_taken 23 = .ok (.iand, 1) := by decide +kernel
theorem dX2_taken_24 : decode cX2_taken 24 = .ok (.ireturn, 1) := by decide +kernel
theorem dX2_withdraw_0 : decode cX2_withdraw 0 = .ok (.iconst 0, 1) := by decide +kernel
theorem dX2_withdraw_1 : decode cX2_withdraw 1 = .ok (.istore_n 1, 1) := by decide +kernel
theorem dX2_withdraw_2 : decode cX2_withdraw 2 = .ok (.iconst 0, 1) := by decide +kernel
theorem dX2_withdraw_3 : decode cX2_withdraw 3 = .ok (.istore_n 2, 1) := by decide +kernel
theorem dX2_withdraw_4 : decode cX2_withdraw 4 = .ok (.iload_n 2, 1) := by decide +kernel
theorem dX2_withdraw_5 : decode cX2_withdraw 5 = .ok (.bipush 8, 2) := by decide +kernel
theorem dX2_withdraw_7 : decode cX2_withdraw 7 = .ok (.if_icmp .ge 51, 3) := by decide +kernel
theorem dX2_withdraw_10 : decode cX2_withdraw 10 = .ok (.iload_n 1, 1) := by decide +kernel
theorem dX2_withdraw_11 : decode cX2_withdraw 11 = .ok (.iload_n 2, 1) := by decide +kernel
theorem dX2_withdraw_12 : decode cX2_withdraw 12 = .ok (.if_icmp .ne 40, 3) := by decide +kernel
theorem dX2_withdraw_15 : decode cX2_withdraw 15 = .ok (.iload_n 2, 1) := by decide +kernel
theorem dX2_withdraw_16 : decode cX2_withdraw 16 = .ok (.aload_n 0, 1) := by decide +kernel
theorem dX2_withdraw_17 : decode cX2_withdraw 17 = .ok (.getfield 44, 3) := by decide +kernel
theorem dX2_withdraw_20 : decode cX2_withdraw 20 = .ok (.if_icmp .ge 32, 3) := by decide +kernel
theorem dX2_withdraw_23 : decode cX2_withdraw 23 = .ok (.aload_n 0, 1) := by decide +kernel
theorem dX2_withdraw_24 : decode cX2_withdraw 24 = .ok (.getfield 7, 3) := by decide +kernel
theorem dX2_withdraw_27 : decode cX2_withdraw 27 = .ok (.bipush 64, 2) := by decide +kernel
theorem dX2_withdraw_29 : decode cX2_withdraw 29 = .ok (.bipush 8, 2) := by decide +kernel
theorem dX2_withdraw_31 : decode cX2_withdraw 31 = .ok (.aload_n 0, 1) := by decide +kernel
theorem dX2_withdraw_32 : decode cX2_withdraw 32 = .ok (.getfield 47, 3) := by decide +kernel
theorem dX2_withdraw_35 : decode cX2_withdraw 35 = .ok (.iload_n 2, 1) := by decide +kernel
theorem dX2_withdraw_36 : decode cX2_withdraw 36 = .ok (.iadd, 1) := by decide +kernel
theorem dX2_withdraw_37 : decode cX2_withdraw 37 = .ok (.bipush 8, 2) := by decide +kernel
theorem dX2_withdraw_39 : decode cX2_withdraw 39 = .ok (.irem, 1) := by decide +kernel
theorem dX2_withdraw_40 : decode cX2_withdraw 40 = .ok (.imul, 1) := by decide +kernel
theorem dX2_withdraw_41 : decode cX2_withdraw 41 = .ok (.iadd, 1) := by decide +kernel
theorem dX2_withdraw_42 : decode cX2_withdraw 42 = .ok (.iconst 2, 1) := by decide +kernel
theorem dX2_withdraw_43 : decode cX2_withdraw 43 = .ok (.iadd, 1) := by decide +kernel
theorem dX2_withdraw_44 : decode cX2_withdraw 44 = .ok (.baload, 1) := by decide +kernel
theorem dX2_withdraw_45 : decode cX2_withdraw 45 = .ok (.ifCond .ne 7, 3) := by decide +kernel
theorem dX2_withdraw_48 : decode cX2_withdraw 48 = .ok (.iload_n 1, 1) := by decide +kernel
theorem dX2_withdraw_49 : decode cX2_withdraw 49 = .ok (.iconst 1, 1) := by decide +kernel
theorem dX2_withdraw_50 : decode cX2_withdraw 50 = .ok (.iadd, 1) := by decide +kernel
theorem dX2_withdraw_51 : decode cX2_withdraw 51 = .ok (.istore_n 1, 1) := by decide +kernel
theorem dX2_withdraw_52 : decode cX2_withdraw 52 = .ok (.iinc 2 1, 3) := by decide +kernel
theorem dX2_withdraw_55 : decode cX2_withdraw 55 = .ok (.goto (-51), 3) := by decide +kernel
theorem dX2_withdraw_58 : decode cX2_withdraw 58 = .ok (.aload_n 0, 1) := by decide +kernel
theorem dX2_withdraw_59 : decode cX2_withdraw 59 = .ok (.getfield 44, 3) := by decide +kernel
theorem dX2_withdraw_62 : decode cX2_withdraw 62 = .ok (.iload_n 1, 1) := by decide +kernel
theorem dX2_withdraw_63 : decode cX2_withdraw 63 = .ok (.isub, 1) := by decide +kernel
theorem dX2_withdraw_64 : decode cX2_withdraw 64 = .ok (.istore_n 2, 1) := by decide +kernel
theorem dX2_withdraw_65 : decode cX2_withdraw 65 = .ok (.iload_n 1, 1) := by decide +kernel
theorem dX2_withdraw_66 : decode cX2_withdraw 66 = .ok (.istore_n 3, 1) := by decide +kernel
theorem dX2_withdraw_67 : decode cX2_withdraw 67 = .ok (.iload_n 3, 1) := by decide +kernel
theorem dX2_withdraw_68 : decode cX2_withdraw 68 = .ok (.aload_n 0, 1) := by decide +kernel
theorem dX2_withdraw_69 : decode cX2_withdraw 69 = .ok (.getfield 44, 3) := by decide +kernel
theorem dX2_withdraw_72 : decode cX2_withdraw 72 = .ok (.if_icmp .ge 47, 3) := by decide +kernel
theorem dX2_withdraw_75 : decode cX2_withdraw 75 = .ok (.aload_n 0, 1) := by decide +kernel
theorem dX2_withdraw_76 : decode cX2_withdraw 76 = .ok (.getfield 47, 3) := by decide +kernel
theorem dX2_withdraw_79 : decode cX2_withdraw 79 = .ok (.iload_n 3, 1) := by decide +kernel
theorem dX2_withdraw_80 : decode cX2_withdraw 80 = .ok (.iadd, 1) := by decide +kernel
theorem dX2_withdraw_81 : decode cX2_withdraw 81 = .ok (.bipush 8, 2) := by decide +kernel
theorem dX2_withdraw_83 : decode cX2_withdraw 83 = .ok (.irem, 1) := by decide +kernel
theorem dX2_withdraw_84 : decode cX2_withdraw 84 = .ok (.istore 4, 2) := by decide +kernel
theorem dX2_withdraw_86 : decode cX2_withdraw 86 = .ok (.aload_n 0, 1) := by decide +kernel
theorem dX2_withdraw_87 : decode cX2_withdraw 87 = .ok (.getfield 17, 3) := by decide +kernel
theorem dX2_withdraw_90 : decode cX2_withdraw 90 = .ok (.bipush 16, 2) := by decide +kernel
theorem dX2_withdraw_92 : decode cX2_withdraw 92 = .ok (.iload 4, 2) := by decide +kernel
theorem dX2_withdraw_94 : decode cX2_withdraw 94 = .ok (.iadd, 1) := by decide +kernel
theorem dX2_withdraw_95 : decode cX2_withdraw 95 = .ok (.iconst 0, 1) := by decide +kernel
theorem dX2_withdraw_96 : decode cX2_withdraw 96 = .ok (.bastore, 1) := by decide +kernel
theorem dX2_withdraw_97 : decode cX2_withdraw 97 = .ok (.aload_n 0, 1) := by decide +kernel
theorem dX2_withdraw_98 : decode cX2_withdraw 98 = .ok (.getfield 7, 3) := by decide +kernel
theorem dX2_withdraw_101 : decode cX2_withdraw 101 = .ok (.bipush 64, 2) := by decide +kernel
theorem dX2_withdraw_103 : decode cX2_withdraw 103 = .ok (.bipush 8, 2) := by decide +kernel
theorem dX2_withdraw_105 : decode cX2_withdraw 105 = .ok (.iload 4, 2) := by decide +kernel
theorem dX2_withdraw_107 : decode cX2_withdraw 107 = .ok (.imul, 1) := by decide +kernel
theorem dX2_withdraw_108 : decode cX2_withdraw 108 = .ok (.iadd, 1) := by decide +kernel
theorem dX2_withdraw_109 : decode cX2_withdraw 109 = .ok (.iconst 2, 1) := by decide +kernel
theorem dX2_withdraw_110 : decode cX2_withdraw 110 = .ok (.iadd, 1) := by decide +kernel
theorem dX2_withdraw_111 : decode cX2_withdraw 111 = .ok (.iconst 0, 1) := by decide +kernel
theorem dX2_withdraw_112 : decode cX2_withdraw 112 = .ok (.bastore, 1) := by decide +kernel
theorem dX2_withdraw_113 : decode cX2_withdraw 113 = .ok (.iinc 3 1, 3) := by decide +kernel
theorem dX2_withdraw_116 : decode cX2_withdraw 116 = .ok (.goto (-49), 3) := by decide +kernel
theorem dX2_withdraw_119 : decode cX2_withdraw 119 = .ok (.aload_n 0, 1) := by decide +kernel
theorem dX2_withdraw_120 : decode cX2_withdraw 120 = .ok (.iload_n 1, 1) := by decide +kernel
theorem dX2_withdraw_121 : decode cX2_withdraw 121 = .ok (.putfield 44, 3) := by decide +kernel
theorem dX2_withdraw_124 : decode cX2_withdraw 124 = .ok (.iload_n 2, 1) := by decide +kernel
theorem dX2_withdraw_125 : decode cX2_withdraw 125 = .ok (.ireturn, 1) := by decide +kernel
theorem dX2_sending_0 : decode cX2_sending 0 = .ok (.aload_n 0, 1) := by decide +kernel
theorem dX2_sending_1 : decode cX2_sending 1 = .ok (.getfield 30, 3) := by decide +kernel
theorem dX2_sending_4 : decode cX2_sending 4 = .ok (.ireturn, 1) := by decide +kernel
theorem dX2_receiving_0 : decode cX2_receiving 0 = .ok (.aload_n 0, 1) := by decide +kernel
theorem dX2_receiving_1 : decode cX2_receiving 1 = .ok (.getfield 44, 3) := by decide +kernel
theorem dX2_receiving_4 : decode cX2_receiving 4 = .ok (.ireturn, 1) := by decide +kernel

/-! decode rows of constructors (by program) -/
theorem d_Acts_init_0 : decode M_Acts_init.2.1 0 = .ok (.aload_n 0, 1) := by decide +kernel
theorem d_Acts_init_1 : decode M_Acts_init.2.1 1 = .ok (.invokespecial 3, 3) := by decide +kernel
theorem d_Acts_init_4 : decode M_Acts_init.2.1 4 = .ok (.aload_n 0, 1) := by decide +kernel
theorem d_Acts_init_5 : decode M_Acts_init.2.1 5 = .ok (.sipush 640, 3) := by decide +kernel
theorem d_Acts_init_8 : decode M_Acts_init.2.1 8 = .ok (.newarray .int, 2) := by decide +kernel
theorem d_Acts_init_10 : decode M_Acts_init.2.1 10 = .ok (.putfield 11, 3) := by decide +kernel
theorem d_Acts_init_13 : decode M_Acts_init.2.1 13 = .ok (.return_, 1) := by decide +kernel
theorem d_Game_init_0 : decode M_Game_init.2.1 0 = .ok (.aload_n 0, 1) := by decide +kernel
theorem d_Game_init_1 : decode M_Game_init.2.1 1 = .ok (.invokespecial 3, 3) := by decide +kernel
theorem d_Game_init_4 : decode M_Game_init.2.1 4 = .ok (.aload_n 0, 1) := by decide +kernel
theorem d_Game_init_5 : decode M_Game_init.2.1 5 = .ok (.bipush 6, 2) := by decide +kernel
theorem d_Game_init_7 : decode M_Game_init.2.1 7 = .ok (.newarray .int, 2) := by decide +kernel
theorem d_Game_init_9 : decode M_Game_init.2.1 9 = .ok (.putfield 9, 3) := by decide +kernel
theorem d_Game_init_12 : decode M_Game_init.2.1 12 = .ok (.aload_n 0, 1) := by decide +kernel
theorem d_Game_init_13 : decode M_Game_init.2.1 13 = .ok (.bipush 36, 2) := by decide +kernel
theorem d_Game_init_15 : decode M_Game_init.2.1 15 = .ok (.newarray .int, 2) := by decide +kernel
theorem d_Game_init_17 : decode M_Game_init.2.1 17 = .ok (.putfield 15, 3) := by decide +kernel
theorem d_Game_init_20 : decode M_Game_init.2.1 20 = .ok (.aload_n 0, 1) := by decide +kernel
theorem d_Game_init_21 : decode M_Game_init.2.1 21 = .ok (.bipush 36, 2) := by decide +kernel
theorem d_Game_init_23 : decode M_Game_init.2.1 23 = .ok (.newarray .int, 2) := by decide +kernel
theorem d_Game_init_25 : decode M_Game_init.2.1 25 = .ok (.putfield 18, 3) := by decide +kernel
theorem d_Game_init_28 : decode M_Game_init.2.1 28 = .ok (.aload_n 0, 1) := by decide +kernel
theorem d_Game_init_29 : decode M_Game_init.2.1 29 = .ok (.aload_n 1, 1) := by decide +kernel
theorem d_Game_init_30 : decode M_Game_init.2.1 30 = .ok (.putfield 21, 3) := by decide +kernel
theorem d_Game_init_33 : decode M_Game_init.2.1 33 = .ok (.aload_n 0, 1) := by decide +kernel
theorem d_Game_init_34 : decode M_Game_init.2.1 34 = .ok (.aload_n 1, 1) := by decide +kernel
theorem d_Game_init_35 : decode M_Game_init.2.1 35 = .ok (.getfield 25, 3) := by decide +kernel
theorem d_Game_init_38 : decode M_Game_init.2.1 38 = .ok (.putfield 31, 3) := by decide +kernel
theorem d_Game_init_41 : decode M_Game_init.2.1 41 = .ok (.return_, 1) := by decide +kernel
theorem d_Hair_init_0 : decode M_Hair_init.2.1 0 = .ok (.aload_n 0, 1) := by decide +kernel
theorem d_Hair_init_1 : decode M_Hair_init.2.1 1 = .ok (.invokespecial 3, 3) := by decide +kernel
theorem d_Hair_init_4 : decode M_Hair_init.2.1 4 = .ok (.aload_n 0, 1) := by decide +kernel
theorem d_Hair_init_5 : decode M_Hair_init.2.1 5 = .ok (.bipush 6, 2) := by decide +kernel
theorem d_Hair_init_7 : decode M_Hair_init.2.1 7 = .ok (.newarray .int, 2) := by decide +kernel
theorem d_Hair_init_9 : decode M_Hair_init.2.1 9 = .ok (.putfield 9, 3) := by decide +kernel
theorem d_Hair_init_12 : decode M_Hair_init.2.1 12 = .ok (.aload_n 0, 1) := by decide +kernel
theorem d_Hair_init_13 : decode M_Hair_init.2.1 13 = .ok (.bipush 6, 2) := by decide +kernel
theorem d_Hair_init_15 : decode M_Hair_init.2.1 15 = .ok (.newarray .int, 2) := by decide +kernel
theorem d_Hair_init_17 : decode M_Hair_init.2.1 17 = .ok (.putfield 15, 3) := by decide +kernel
theorem d_Hair_init_20 : decode M_Hair_init.2.1 20 = .ok (.aload_n 0, 1) := by decide +kernel
theorem d_Hair_init_21 : decode M_Hair_init.2.1 21 = .ok (.aload_n 1, 1) := by decide +kernel
theorem d_Hair_init_22 : decode M_Hair_init.2.1 22 = .ok (.putfield 18, 3) := by decide +kernel
theorem d_Hair_init_25 : decode M_Hair_init.2.1 25 = .ok (.return_, 1) := by decide +kernel
theorem d_Image_init_0 : decode M_Image_init.2.1 0 = .ok (.aload_n 0, 1) := by decide +kernel
theorem d_Image_init_1 : decode M_Image_init.2.1 1 = .ok (.invokespecial 3, 3) := by decide +kernel
theorem d_Image_init_4 : decode M_Image_init.2.1 4 = .ok (.aload_n 0, 1) := by decide +kernel
theorem d_Image_init_5 : decode M_Image_init.2.1 5 = .ok (.sipush 192, 3) := by decide +kernel
theorem d_Image_init_8 : decode M_Image_init.2.1 8 = .ok (.newarray .int, 2) := by decide +kernel
theorem d_Image_init_10 : decode M_Image_init.2.1 10 = .ok (.putfield 9, 3) := by decide +kernel
theorem d_Image_init_13 : decode M_Image_init.2.1 13 = .ok (.aload_n 0, 1) := by decide +kernel
theorem d_Image_init_14 : decode M_Image_init.2.1 14 = .ok (.new 15, 3) := by decide +kernel
theorem d_Image_init_17 : decode M_Image_init.2.1 17 = .ok (.dup, 1) := by decide +kernel
theorem d_Image_init_18 : decode M_Image_init.2.1 18 = .ok (.invokespecial 17, 3) := by decide +kernel
theorem d_Image_init_21 : decode M_Image_init.2.1 21 = .ok (.putfield 18, 3) := by decide +kernel
theorem d_Image_init_24 : decode M_Image_init.2.1 24 = .ok (.aload_n 0, 1) := by decide +kernel
theorem d_Image_init_25 : decode M_Image_init.2.1 25 = .ok (.new 22, 3) := by decide +kernel
theorem d_Image_init_28 : decode M_Image_init.2.1 28 = .ok (.dup, 1) := by decide +kernel
theorem d_Image_init_29 : decode M_Image_init.2.1 29 = .ok (.invokespecial 24, 3) := by decide +kernel
theorem d_Image_init_32 : decode M_Image_init.2.1 32 = .ok (.putfield 25, 3) := by decide +kernel
theorem d_Image_init_35 : decode M_Image_init.2.1 35 = .ok (.aload_n 0, 1) := by decide +kernel
theorem d_Image_init_36 : decode M_Image_init.2.1 36 = .ok (.iconst 3, 1) := by decide +kernel
theorem d_Image_init_37 : decode M_Image_init.2.1 37 = .ok (.newarray .int, 2) := by decide +kernel
theorem d_Image_init_39 : decode M_Image_init.2.1 39 = .ok (.putfield 29, 3) := by decide +kernel
theorem d_Image_init_42 : decode M_Image_init.2.1 42 = .ok (.aload_n 0, 1) := by decide +kernel
theorem d_Image_init_43 : decode M_Image_init.2.1 43 = .ok (.new 32, 3) := by decide +kernel
theorem d_Image_init_46 : decode M_Image_init.2.1 46 = .ok (.dup, 1) := by decide +kernel
theorem d_Image_init_47 : decode M_Image_init.2.1 47 = .ok (.aload_n 1, 1) := by decide +kernel
theorem d_Image_init_48 : decode M_Image_init.2.1 48 = .ok (.invokespecial 34, 3) := by decide +kernel
theorem d_Image_init_51 : decode M_Image_init.2.1 51 = .ok (.putfield 37, 3) := by decide +kernel
theorem d_Image_init_54 : decode M_Image_init.2.1 54 = .ok (.return_, 1) := by decide +kernel
theorem d_Keeping_init_0 : decode M_Keeping_init.2.1 0 = .ok (.aload_n 0, 1) := by decide +kernel
theorem d_Keeping_init_1 : decode M_Keeping_init.2.1 1 = .ok (.invokespecial 3, 3) := by decide +kernel
theorem d_Keeping_init_4 : decode M_Keeping_init.2.1 4 = .ok (.aload_n 0, 1) := by decide +kernel
theorem d_Keeping_init_5 : decode M_Keeping_init.2.1 5 = .ok (.bipush 6, 2) := by decide +kernel
theorem d_Keeping_init_7 : decode M_Keeping_init.2.1 7 = .ok (.newarray .int, 2) := by decide +kernel
theorem d_Keeping_init_9 : decode M_Keeping_init.2.1 9 = .ok (.putfield 9, 3) := by decide +kernel
theorem d_Keeping_init_12 : decode M_Keeping_init.2.1 12 = .ok (.aload_n 0, 1) := by decide +kernel
theorem d_Keeping_init_13 : decode M_Keeping_init.2.1 13 = .ok (.aload_n 1, 1) := by decide +kernel
theorem d_Keeping_init_14 : decode M_Keeping_init.2.1 14 = .ok (.putfield 15, 3) := by decide +kernel
theorem d_Keeping_init_17 : decode M_Keeping_init.2.1 17 = .ok (.aload_n 0, 1) := by decide +kernel
theorem d_Keeping_init_18 : decode M_Keeping_init.2.1 18 = .ok (.aload_n 1, 1) := by decide +kernel
theorem d_Keeping_init_19 : decode M_Keeping_init.2.1 19 = .ok (.getfield 19, 3) := by decide +kernel
theorem d_Keeping_init_22 : decode M_Keeping_init.2.1 22 = .ok (.putfield 25, 3) := by decide +kernel
theorem d_Keeping_init_25 : decode M_Keeping_init.2.1 25 = .ok (.return_, 1) := by decide +kernel
theorem d_Laws_init_0 : decode M_Laws_init.2.1 0 = .ok (.aload_n 0, 1) := by decide +kernel
theorem d_Laws_init_1 : decode M_Laws_init.2.1 1 = .ok (.invokespecial 3, 3) := by decide +kernel
theorem d_Laws_init_4 : decode M_Laws_init.2.1 4 = .ok (.aload_n 0, 1) := by decide +kernel
theorem d_Laws_init_5 : decode M_Laws_init.2.1 5 = .ok (.aload_n 1, 1) := by decide +kernel
theorem d_Laws_init_6 : decode M_Laws_init.2.1 6 = .ok (.putfield 9, 3) := by decide +kernel
theorem d_Laws_init_9 : decode M_Laws_init.2.1 9 = .ok (.aload_n 0, 1) := by decide +kernel
theorem d_Laws_init_10 : decode M_Laws_init.2.1 10 = .ok (.aload_n 1, 1) := by decide +kernel
theorem d_Laws_init_11 : decode M_Laws_init.2.1 11 = .ok (.getfield 15, 3) := by decide +kernel
theorem d_Laws_init_14 : decode M_Laws_init.2.1 14 = .ok (.putfield 21, 3) := by decide +kernel
theorem d_Laws_init_17 : decode M_Laws_init.2.1 17 = .ok (.return_, 1) := by decide +kernel
theorem d_Reader_init_0 : decode M_Reader_init.2.1 0 = .ok (.aload_n 0, 1) := by decide +kernel
theorem d_Reader_init_1 : decode M_Reader_init.2.1 1 = .ok (.invokespecial 3, 3) := by decide +kernel
theorem d_Reader_init_4 : decode M_Reader_init.2.1 4 = .ok (.aload_n 0, 1) := by decide +kernel
theorem d_Reader_init_5 : decode M_Reader_init.2.1 5 = .ok (.new 9, 3) := by decide +kernel
theorem d_Reader_init_8 : decode M_Reader_init.2.1 8 = .ok (.dup, 1) := by decide +kernel
theorem d_Reader_init_9 : decode M_Reader_init.2.1 9 = .ok (.invokespecial 11, 3) := by decide +kernel
theorem d_Reader_init_12 : decode M_Reader_init.2.1 12 = .ok (.putfield 12, 3) := by decide +kernel
theorem d_Reader_init_15 : decode M_Reader_init.2.1 15 = .ok (.aload_n 0, 1) := by decide +kernel
theorem d_Reader_init_16 : decode M_Reader_init.2.1 16 = .ok (.new 18, 3) := by decide +kernel
theorem d_Reader_init_19 : decode M_Reader_init.2.1 19 = .ok (.dup, 1) := by decide +kernel
theorem d_Reader_init_20 : decode M_Reader_init.2.1 20 = .ok (.aload_n 0, 1) := by decide +kernel
theorem d_Reader_init_21 : decode M_Reader_init.2.1 21 = .ok (.getfield 12, 3) := by decide +kernel
theorem d_Reader_init_24 : decode M_Reader_init.2.1 24 = .ok (.invokespecial 20, 3) := by decide +kernel
theorem d_Reader_init_27 : decode M_Reader_init.2.1 27 = .ok (.putfield 23, 3) := by decide +kernel
theorem d_Reader_init_30 : decode M_Reader_init.2.1 30 = .ok (.aload_n 0, 1) := by decide +kernel
theorem d_Reader_init_31 : decode M_Reader_init.2.1 31 = .ok (.aload_n 1, 1) := by decide +kernel
theorem d_Reader_init_32 : decode M_Reader_init.2.1 32 = .ok (.putfield 27, 3) := by decide +kernel
theorem d_Reader_init_35 : decode M_Reader_init.2.1 35 = .ok (.return_, 1) := by decide +kernel
theorem d_Roll_init_0 : decode M_Roll_init.2.1 0 = .ok (.aload_n 0, 1) := by decide +kernel
theorem d_Roll_init_1 : decode M_Roll_init.2.1 1 = .ok (.invokespecial 3, 3) := by decide +kernel
theorem d_Roll_init_4 : decode M_Roll_init.2.1 4 = .ok (.aload_n 0, 1) := by decide +kernel
theorem d_Roll_init_5 : decode M_Roll_init.2.1 5 = .ok (.bipush 6, 2) := by decide +kernel
theorem d_Roll_init_7 : decode M_Roll_init.2.1 7 = .ok (.newarray .int, 2) := by decide +kernel
theorem d_Roll_init_9 : decode M_Roll_init.2.1 9 = .ok (.putfield 9, 3) := by decide +kernel
theorem d_Roll_init_12 : decode M_Roll_init.2.1 12 = .ok (.aload_n 0, 1) := by decide +kernel
theorem d_Roll_init_13 : decode M_Roll_init.2.1 13 = .ok (.bipush 6, 2) := by decide +kernel
theorem d_Roll_init_15 : decode M_Roll_init.2.1 15 = .ok (.newarray .int, 2) := by decide +kernel
theorem d_Roll_init_17 : decode M_Roll_init.2.1 17 = .ok (.putfield 15, 3) := by decide +kernel
theorem d_Roll_init_20 : decode M_Roll_init.2.1 20 = .ok (.aload_n 0, 1) := by decide +kernel
theorem d_Roll_init_21 : decode M_Roll_init.2.1 21 = .ok (.sipush 192, 3) := by decide +kernel
theorem d_Roll_init_24 : decode M_Roll_init.2.1 24 = .ok (.newarray .int, 2) := by decide +kernel
theorem d_Roll_init_26 : decode M_Roll_init.2.1 26 = .ok (.putfield 18, 3) := by decide +kernel
theorem d_Roll_init_29 : decode M_Roll_init.2.1 29 = .ok (.aload_n 0, 1) := by decide +kernel
theorem d_Roll_init_30 : decode M_Roll_init.2.1 30 = .ok (.new 21, 3) := by decide +kernel
theorem d_Roll_init_33 : decode M_Roll_init.2.1 33 = .ok (.dup, 1) := by decide +kernel
theorem d_Roll_init_34 : decode M_Roll_init.2.1 34 = .ok (.invokespecial 23, 3) := by decide +kernel
theorem d_Roll_init_37 : decode M_Roll_init.2.1 37 = .ok (.putfield 24, 3) := by decide +kernel
theorem d_Roll_init_40 : decode M_Roll_init.2.1 40 = .ok (.return_, 1) := by decide +kernel
theorem d_Rule_init_0 : decode M_Rule_init.2.1 0 = .ok (.aload_n 0, 1) := by decide +kernel
theorem d_Rule_init_1 : decode M_Rule_init.2.1 1 = .ok (.invokespecial 3, 3) := by decide +kernel
theorem d_Rule_init_4 : decode M_Rule_init.2.1 4 = .ok (.aload_n 0, 1) := by decide +kernel
theorem d_Rule_init_5 : decode M_Rule_init.2.1 5 = .ok (.sipush 700, 3) := by decide +kernel
theorem d_Rule_init_8 : decode M_Rule_init.2.1 8 = .ok (.newarray .int, 2) := by decide +kernel
theorem d_Rule_init_10 : decode M_Rule_init.2.1 10 = .ok (.putfield 9, 3) := by decide +kernel
theorem d_Rule_init_13 : decode M_Rule_init.2.1 13 = .ok (.aload_n 0, 1) := by decide +kernel
theorem d_Rule_init_14 : decode M_Rule_init.2.1 14 = .ok (.bipush 7, 2) := by decide +kernel
theorem d_Rule_init_16 : decode M_Rule_init.2.1 16 = .ok (.newarray .int, 2) := by decide +kernel
theorem d_Rule_init_18 : decode M_Rule_init.2.1 18 = .ok (.putfield 15, 3) := by decide +kernel
theorem d_Rule_init_21 : decode M_Rule_init.2.1 21 = .ok (.aload_n 0, 1) := by decide +kernel
theorem d_Rule_init_22 : decode M_Rule_init.2.1 22 = .ok (.bipush 40, 2) := by decide +kernel
theorem d_Rule_init_24 : decode M_Rule_init.2.1 24 = .ok (.newarray .int, 2) := by decide +kernel
theorem d_Rule_init_26 : decode M_Rule_init.2.1 26 = .ok (.putfield 18, 3) := by decide +kernel
theorem d_Rule_init_29 : decode M_Rule_init.2.1 29 = .ok (.return_, 1) := by decide +kernel
theorem d_Season_init_0 : decode M_Season_init.2.1 0 = .ok (.aload_n 0, 1) := by decide +kernel
theorem d_Season_init_1 : decode M_Season_init.2.1 1 = .ok (.invokespecial 1, 3) := by decide +kernel
theorem d_Season_init_4 : decode M_Season_init.2.1 4 = .ok (.aload_n 0, 1) := by decide +kernel
theorem d_Season_init_5 : decode M_Season_init.2.1 5 = .ok (.new 7, 3) := by decide +kernel
theorem d_Season_init_8 : decode M_Season_init.2.1 8 = .ok (.dup, 1) := by decide +kernel
theorem d_Season_init_9 : decode M_Season_init.2.1 9 = .ok (.aload_n 1, 1) := by decide +kernel
theorem d_Season_init_10 : decode M_Season_init.2.1 10 = .ok (.invokespecial 9, 3) := by decide +kernel
theorem d_Season_init_13 : decode M_Season_init.2.1 13 = .ok (.putfield 12, 3) := by decide +kernel
theorem d_Season_init_16 : decode M_Season_init.2.1 16 = .ok (.aload_n 0, 1) := by decide +kernel
theorem d_Season_init_17 : decode M_Season_init.2.1 17 = .ok (.new 18, 3) := by decide +kernel
theorem d_Season_init_20 : decode M_Season_init.2.1 20 = .ok (.dup, 1) := by decide +kernel
theorem d_Season_init_21 : decode M_Season_init.2.1 21 = .ok (.aload_n 0, 1) := by decide +kernel
theorem d_Season_init_22 : decode M_Season_init.2.1 22 = .ok (.getfield 12, 3) := by decide +kernel
theorem d_Season_init_25 : decode M_Season_init.2.1 25 = .ok (.invokespecial 20, 3) := by decide +kernel
theorem d_Season_init_28 : decode M_Season_init.2.1 28 = .ok (.putfield 23, 3) := by decide +kernel
theorem d_Season_init_31 : decode M_Season_init.2.1 31 = .ok (.return_, 1) := by decide +kernel
theorem d_Seen_init_0 : decode M_Seen_init.2.1 0 = .ok (.aload_n 0, 1) := by decide +kernel
theorem d_Seen_init_1 : decode M_Seen_init.2.1 1 = .ok (.invokespecial 3, 3) := by decide +kernel
theorem d_Seen_init_4 : decode M_Seen_init.2.1 4 = .ok (.aload_n 0, 1) := by decide +kernel
theorem d_Seen_init_5 : decode M_Seen_init.2.1 5 = .ok (.bipush 8, 2) := by decide +kernel
theorem d_Seen_init_7 : decode M_Seen_init.2.1 7 = .ok (.newarray .int, 2) := by decide +kernel
theorem d_Seen_init_9 : decode M_Seen_init.2.1 9 = .ok (.putfield 9, 3) := by decide +kernel
theorem d_Seen_init_12 : decode M_Seen_init.2.1 12 = .ok (.aload_n 0, 1) := by decide +kernel
theorem d_Seen_init_13 : decode M_Seen_init.2.1 13 = .ok (.bipush 8, 2) := by decide +kernel
theorem d_Seen_init_15 : decode M_Seen_init.2.1 15 = .ok (.newarray .int, 2) := by decide +kernel
theorem d_Seen_init_17 : decode M_Seen_init.2.1 17 = .ok (.putfield 15, 3) := by decide +kernel
theorem d_Seen_init_20 : decode M_Seen_init.2.1 20 = .ok (.return_, 1) := by decide +kernel
theorem d_Hall_init_0 : decode M_Hall_init.2.1 0 = .ok (.aload_n 0, 1) := by decide +kernel
theorem d_Hall_init_1 : decode M_Hall_init.2.1 1 = .ok (.invokespecial 1, 3) := by decide +kernel
theorem d_Hall_init_4 : decode M_Hall_init.2.1 4 = .ok (.aload_n 0, 1) := by decide +kernel
theorem d_Hall_init_5 : decode M_Hall_init.2.1 5 = .ok (.sipush 700, 3) := by decide +kernel
theorem d_Hall_init_8 : decode M_Hall_init.2.1 8 = .ok (.newarray .byte, 2) := by decide +kernel
theorem d_Hall_init_10 : decode M_Hall_init.2.1 10 = .ok (.putfield 9, 3) := by decide +kernel
theorem d_Hall_init_13 : decode M_Hall_init.2.1 13 = .ok (.aload_n 0, 1) := by decide +kernel
theorem d_Hall_init_14 : decode M_Hall_init.2.1 14 = .ok (.iconst (-1), 1) := by decide +kernel
theorem d_Hall_init_15 : decode M_Hall_init.2.1 15 = .ok (.putfield 13, 3) := by decide +kernel
theorem d_Hall_init_18 : decode M_Hall_init.2.1 18 = .ok (.aload_n 0, 1) := by decide +kernel
theorem d_Hall_init_19 : decode M_Hall_init.2.1 19 = .ok (.iconst 3, 1) := by decide +kernel
theorem d_Hall_init_20 : decode M_Hall_init.2.1 20 = .ok (.newarray .int, 2) := by decide +kernel
theorem d_Hall_init_22 : decode M_Hall_init.2.1 22 = .ok (.putfield 17, 3) := by decide +kernel
theorem d_Hall_init_25 : decode M_Hall_init.2.1 25 = .ok (.aload_n 0, 1) := by decide +kernel
theorem d_Hall_init_26 : decode M_Hall_init.2.1 26 = .ok (.new 21, 3) := by decide +kernel
theorem d_Hall_init_29 : decode M_Hall_init.2.1 29 = .ok (.dup, 1) := by decide +kernel
theorem d_Hall_init_30 : decode M_Hall_init.2.1 30 = .ok (.aload_n 0, 1) := by decide +kernel
theorem d_Hall_init_31 : decode M_Hall_init.2.1 31 = .ok (.getfield 9, 3) := by decide +kernel
theorem d_Hall_init_34 : decode M_Hall_init.2.1 34 = .ok (.invokespecial 23, 3) := by decide +kernel
theorem d_Hall_init_37 : decode M_Hall_init.2.1 37 = .ok (.putfield 26, 3) := by decide +kernel
theorem d_Hall_init_40 : decode M_Hall_init.2.1 40 = .ok (.aload_n 0, 1) := by decide +kernel
theorem d_Hall_init_41 : decode M_Hall_init.2.1 41 = .ok (.new 30, 3) := by decide +kernel
theorem d_Hall_init_44 : decode M_Hall_init.2.1 44 = .ok (.dup, 1) := by decide +kernel
theorem d_Hall_init_45 : decode M_Hall_init.2.1 45 = .ok (.invokespecial 32, 3) := by decide +kernel
theorem d_Hall_init_48 : decode M_Hall_init.2.1 48 = .ok (.putfield 33, 3) := by decide +kernel
theorem d_Hall_init_51 : decode M_Hall_init.2.1 51 = .ok (.aload_n 0, 1) := by decide +kernel
theorem d_Hall_init_52 : decode M_Hall_init.2.1 52 = .ok (.new 37, 3) := by decide +kernel
theorem d_Hall_init_55 : decode M_Hall_init.2.1 55 = .ok (.dup, 1) := by decide +kernel
theorem d_Hall_init_56 : decode M_Hall_init.2.1 56 = .ok (.aload_n 0, 1) := by decide +kernel
theorem d_Hall_init_57 : decode M_Hall_init.2.1 57 = .ok (.getfield 33, 3) := by decide +kernel
theorem d_Hall_init_60 : decode M_Hall_init.2.1 60 = .ok (.invokespecial 39, 3) := by decide +kernel
theorem d_Hall_init_63 : decode M_Hall_init.2.1 63 = .ok (.putfield 42, 3) := by decide +kernel
theorem d_Hall_init_66 : decode M_Hall_init.2.1 66 = .ok (.aload_n 0, 1) := by decide +kernel
theorem d_Hall_init_67 : decode M_Hall_init.2.1 67 = .ok (.new 46, 3) := by decide +kernel
theorem d_Hall_init_70 : decode M_Hall_init.2.1 70 = .ok (.dup, 1) := by decide +kernel
theorem d_Hall_init_71 : decode M_Hall_init.2.1 71 = .ok (.invokespecial 48, 3) := by decide +kernel
theorem d_Hall_init_74 : decode M_Hall_init.2.1 74 = .ok (.putfield 49, 3) := by decide +kernel
theorem d_Hall_init_77 : decode M_Hall_init.2.1 77 = .ok (.aload_n 0, 1) := by decide +kernel
theorem d_Hall_init_78 : decode M_Hall_init.2.1 78 = .ok (.new 53, 3) := by decide +kernel
theorem d_Hall_init_81 : decode M_Hall_init.2.1 81 = .ok (.dup, 1) := by decide +kernel
theorem d_Hall_init_82 : decode M_Hall_init.2.1 82 = .ok (.invokespecial 55, 3) := by decide +kernel
theorem d_Hall_init_85 : decode M_Hall_init.2.1 85 = .ok (.putfield 56, 3) := by decide +kernel
theorem d_Hall_init_88 : decode M_Hall_init.2.1 88 = .ok (.aload_n 0, 1) := by decide +kernel
theorem d_Hall_init_89 : decode M_Hall_init.2.1 89 = .ok (.new 60, 3) := by decide +kernel
theorem d_Hall_init_92 : decode M_Hall_init.2.1 92 = .ok (.dup, 1) := by decide +kernel
theorem d_Hall_init_93 : decode M_Hall_init.2.1 93 = .ok (.aload_n 0, 1) := by decide +kernel
theorem d_Hall_init_94 : decode M_Hall_init.2.1 94 = .ok (.getfield 33, 3) := by decide +kernel
theorem d_Hall_init_97 : decode M_Hall_init.2.1 97 = .ok (.invokespecial 62, 3) := by decide +kernel
theorem d_Hall_init_100 : decode M_Hall_init.2.1 100 = .ok (.putfield 63, 3) := by decide +kernel
theorem d_Hall_init_103 : decode M_Hall_init.2.1 103 = .ok (.aload_n 0, 1) := by decide +kernel
theorem d_Hall_init_104 : decode M_Hall_init.2.1 104 = .ok (.new 67, 3) := by decide +kernel
theorem d_Hall_init_107 : decode M_Hall_init.2.1 107 = .ok (.dup, 1) := by decide +kernel
theorem d_Hall_init_108 : decode M_Hall_init.2.1 108 = .ok (.aload_n 0, 1) := by decide +kernel
theorem d_Hall_init_109 : decode M_Hall_init.2.1 109 = .ok (.getfield 42, 3) := by decide +kernel
theorem d_Hall_init_112 : decode M_Hall_init.2.1 112 = .ok (.invokespecial 69, 3) := by decide +kernel
theorem d_Hall_init_115 : decode M_Hall_init.2.1 115 = .ok (.putfield 72, 3) := by decide +kernel
theorem d_Hall_init_118 : decode M_Hall_init.2.1 118 = .ok (.aload_n 0, 1) := by decide +kernel
theorem d_Hall_init_119 : decode M_Hall_init.2.1 119 = .ok (.new 76, 3) := by decide +kernel
theorem d_Hall_init_122 : decode M_Hall_init.2.1 122 = .ok (.dup, 1) := by decide +kernel
theorem d_Hall_init_123 : decode M_Hall_init.2.1 123 = .ok (.aload_n 0, 1) := by decide +kernel
theorem d_Hall_init_124 : decode M_Hall_init.2.1 124 = .ok (.getfield 42, 3) := by decide +kernel
theorem d_Hall_init_127 : decode M_Hall_init.2.1 127 = .ok (.invokespecial 78, 3) := by decide +kernel
theorem d_Hall_init_130 : decode M_Hall_init.2.1 130 = .ok (.putfield 79, 3) := by decide +kernel
theorem d_Hall_init_133 : decode M_Hall_init.2.1 133 = .ok (.aload_n 0, 1) := by decide +kernel
theorem d_Hall_init_134 : decode M_Hall_init.2.1 134 = .ok (.new 83, 3) := by decide +kernel
theorem d_Hall_init_137 : decode M_Hall_init.2.1 137 = .ok (.dup, 1) := by decide +kernel
theorem d_Hall_init_138 : decode M_Hall_init.2.1 138 = .ok (.aload_n 0, 1) := by decide +kernel
theorem d_Hall_init_139 : decode M_Hall_init.2.1 139 = .ok (.getfield 42, 3) := by decide +kernel
theorem d_Hall_init_142 : decode M_Hall_init.2.1 142 = .ok (.invokespecial 85, 3) := by decide +kernel
theorem d_Hall_init_145 : decode M_Hall_init.2.1 145 = .ok (.putfield 86, 3) := by decide +kernel
theorem d_Hall_init_148 : decode M_Hall_init.2.1 148 = .ok (.aload_n 0, 1) := by decide +kernel
theorem d_Hall_init_149 : decode M_Hall_init.2.1 149 = .ok (.new 90, 3) := by decide +kernel
theorem d_Hall_init_152 : decode M_Hall_init.2.1 152 = .ok (.dup, 1) := by decide +kernel
theorem d_Hall_init_153 : decode M_Hall_init.2.1 153 = .ok (.aload_n 0, 1) := by decide +kernel
theorem d_Hall_init_154 : decode M_Hall_init.2.1 154 = .ok (.getfield 33, 3) := by decide +kernel
theorem d_Hall_init_157 : decode M_Hall_init.2.1 157 = .ok (.invokespecial 92, 3) := by decide +kernel
theorem d_Hall_init_160 : decode M_Hall_init.2.1 160 = .ok (.putfield 93, 3) := by decide +kernel
theorem d_Hall_init_163 : decode M_Hall_init.2.1 163 = .ok (.aload_n 0, 1) := by decide +kernel
theorem d_Hall_init_164 : decode M_Hall_init.2.1 164 = .ok (.getfield 33, 3) := by decide +kernel
theorem d_Hall_init_167 : decode M_Hall_init.2.1 167 = .ok (.invokevirtual 97, 3) := by decide +kernel
theorem d_Hall_init_170 : decode M_Hall_init.2.1 170 = .ok (.aload_n 0, 1) := by decide +kernel
theorem d_Hall_init_171 : decode M_Hall_init.2.1 171 = .ok (.getfield 42, 3) := by decide +kernel
theorem d_Hall_init_174 : decode M_Hall_init.2.1 174 = .ok (.invokevirtual 100, 3) := by decide +kernel
theorem d_Hall_init_177 : decode M_Hall_init.2.1 177 = .ok (.return_, 1) := by decide +kernel
theorem d_Model_init_0 : decode M_Model_init.2.1 0 = .ok (.aload_n 0, 1) := by decide +kernel
theorem d_Model_init_1 : decode M_Model_init.2.1 1 = .ok (.invokespecial 3, 3) := by decide +kernel
theorem d_Model_init_4 : decode M_Model_init.2.1 4 = .ok (.aload_n 0, 1) := by decide +kernel
theorem d_Model_init_5 : decode M_Model_init.2.1 5 = .ok (.iconst 4, 1) := by decide +kernel
theorem d_Model_init_6 : decode M_Model_init.2.1 6 = .ok (.anewarray 9, 3) := by decide +kernel
theorem d_Model_init_9 : decode M_Model_init.2.1 9 = .ok (.dup, 1) := by decide +kernel
theorem d_Model_init_10 : decode M_Model_init.2.1 10 = .ok (.iconst 0, 1) := by decide +kernel
theorem d_Model_init_11 : decode M_Model_init.2.1 11 = .ok (.ldc 11, 2) := by decide +kernel
theorem d_Model_init_13 : decode M_Model_init.2.1 13 = .ok (.aastore, 1) := by decide +kernel
theorem d_Model_init_14 : decode M_Model_init.2.1 14 = .ok (.dup, 1) := by decide +kernel
theorem d_Model_init_15 : decode M_Model_init.2.1 15 = .ok (.iconst 1, 1) := by decide +kernel
theorem d_Model_init_16 : decode M_Model_init.2.1 16 = .ok (.ldc 13, 2) := by decide +kernel
theorem d_Model_init_18 : decode M_Model_init.2.1 18 = .ok (.aastore, 1) := by decide +kernel
theorem d_Model_init_19 : decode M_Model_init.2.1 19 = .ok (.dup, 1) := by decide +kernel
theorem d_Model_init_20 : decode M_Model_init.2.1 20 = .ok (.iconst 2, 1) := by decide +kernel
theorem d_Model_init_21 : decode M_Model_init.2.1 21 = .ok (.ldc 15, 2) := by decide +kernel
theorem d_Model_init_23 : decode M_Model_init.2.1 23 = .ok (.aastore, 1) := by decide +kernel
theorem d_Model_init_24 : decode M_Model_init.2.1 24 = .ok (.dup, 1) := by decide +kernel
theorem d_Model_init_25 : decode M_Model_init.2.1 25 = .ok (.iconst 3, 1) := by decide +kernel
theorem d_Model_init_26 : decode M_Model_init.2.1 26 = .ok (.ldc 17, 2) := by decide +kernel
theorem d_Model_init_28 : decode M_Model_init.2.1 28 = .ok (.aastore, 1) := by decide +kernel
theorem d_Model_init_29 : decode M_Model_init.2.1 29 = .ok (.putfield 19, 3) := by decide +kernel
theorem d_Model_init_32 : decode M_Model_init.2.1 32 = .ok (.aload_n 0, 1) := by decide +kernel
theorem d_Model_init_33 : decode M_Model_init.2.1 33 = .ok (.iconst 4, 1) := by decide +kernel
theorem d_Model_init_34 : decode M_Model_init.2.1 34 = .ok (.anewarray 9, 3) := by decide +kernel
theorem d_Model_init_37 : decode M_Model_init.2.1 37 = .ok (.dup, 1) := by decide +kernel
theorem d_Model_init_38 : decode M_Model_init.2.1 38 = .ok (.iconst 0, 1) := by decide +kernel
theorem d_Model_init_39 : decode M_Model_init.2.1 39 = .ok (.ldc 23, 2) := by decide +kernel
theorem d_Model_init_41 : decode M_Model_init.2.1 41 = .ok (.aastore, 1) := by decide +kernel
theorem d_Model_init_42 : decode M_Model_init.2.1 42 = .ok (.dup, 1) := by decide +kernel
theorem d_Model_init_43 : decode M_Model_init.2.1 43 = .ok (.iconst 1, 1) := by decide +kernel
theorem d_Model_init_44 : decode M_Model_init.2.1 44 = .ok (.ldc 25, 2) := by decide +kernel
theorem d_Model_init_46 : decode M_Model_init.2.1 46 = .ok (.aastore, 1) := by decide +kernel
theorem d_Model_init_47 : decode M_Model_init.2.1 47 = .ok (.dup, 1) := by decide +kernel
theorem d_Model_init_48 : decode M_Model_init.2.1 48 = .ok (.iconst 2, 1) := by decide +kernel
theorem d_Model_init_49 : decode M_Model_init.2.1 49 = .ok (.ldc 27, 2) := by decide +kernel
theorem d_Model_init_51 : decode M_Model_init.2.1 51 = .ok (.aastore, 1) := by decide +kernel
theorem d_Model_init_52 : decode M_Model_init.2.1 52 = .ok (.dup, 1) := by decide +kernel
theorem d_Model_init_53 : decode M_Model_init.2.1 53 = .ok (.iconst 3, 1) := by decide +kernel
theorem d_Model_init_54 : decode M_Model_init.2.1 54 = .ok (.ldc 29, 2) := by decide +kernel
theorem d_Model_init_56 : decode M_Model_init.2.1 56 = .ok (.aastore, 1) := by decide +kernel
theorem d_Model_init_57 : decode M_Model_init.2.1 57 = .ok (.putfield 31, 3) := by decide +kernel
theorem d_Model_init_60 : decode M_Model_init.2.1 60 = .ok (.aload_n 0, 1) := by decide +kernel
theorem d_Model_init_61 : decode M_Model_init.2.1 61 = .ok (.bipush 7, 2) := by decide +kernel
theorem d_Model_init_63 : decode M_Model_init.2.1 63 = .ok (.anewarray 9, 3) := by decide +kernel
theorem d_Model_init_66 : decode M_Model_init.2.1 66 = .ok (.dup, 1) := by decide +kernel
theorem d_Model_init_67 : decode M_Model_init.2.1 67 = .ok (.iconst 0, 1) := by decide +kernel
theorem d_Model_init_68 : decode M_Model_init.2.1 68 = .ok (.ldc 34, 2) := by decide +kernel
theorem d_Model_init_70 : decode M_Model_init.2.1 70 = .ok (.aastore, 1) := by decide +kernel
theorem d_Model_init_71 : decode M_Model_init.2.1 71 = .ok (.dup, 1) := by decide +kernel
theorem d_Model_init_72 : decode M_Model_init.2.1 72 = .ok (.iconst 1, 1) := by decide +kernel
theorem d_Model_init_73 : decode M_Model_init.2.1 73 = .ok (.ldc 36, 2) := by decide +kernel
theorem d_Model_init_75 : decode M_Model_init.2.1 75 = .ok (.aastore, 1) := by decide +kernel
theorem d_Model_init_76 : decode M_Model_init.2.1 76 = .ok (.dup, 1) := by decide +kernel
theorem d_Model_init_77 : decode M_Model_init.2.1 77 = .ok (.iconst 2, 1) := by decide +kernel
theorem d_Model_init_78 : decode M_Model_init.2.1 78 = .ok (.ldc 38, 2) := by decide +kernel
theorem d_Model_init_80 : decode M_Model_init.2.1 80 = .ok (.aastore, 1) := by decide +kernel
theorem d_Model_init_81 : decode M_Model_init.2.1 81 = .ok (.dup, 1) := by decide +kernel
theorem d_Model_init_82 : decode M_Model_init.2.1 82 = .ok (.iconst 3, 1) := by decide +kernel
theorem d_Model_init_83 : decode M_Model_init.2.1 83 = .ok (.ldc 40, 2) := by decide +kernel
theorem d_Model_init_85 : decode M_Model_init.2.1 85 = .ok (.aastore, 1) := by decide +kernel
theorem d_Model_init_86 : decode M_Model_init.2.1 86 = .ok (.dup, 1) := by decide +kernel
theorem d_Model_init_87 : decode M_Model_init.2.1 87 = .ok (.iconst 4, 1) := by decide +kernel
theorem d_Model_init_88 : decode M_Model_init.2.1 88 = .ok (.ldc 42, 2) := by decide +kernel
theorem d_Model_init_90 : decode M_Model_init.2.1 90 = .ok (.aastore, 1) := by decide +kernel
theorem d_Model_init_91 : decode M_Model_init.2.1 91 = .ok (.dup, 1) := by decide +kernel
theorem d_Model_init_92 : decode M_Model_init.2.1 92 = .ok (.iconst 5, 1) := by decide +kernel
theorem d_Model_init_93 : decode M_Model_init.2.1 93 = .ok (.ldc 44, 2) := by decide +kernel
theorem d_Model_init_95 : decode M_Model_init.2.1 95 = .ok (.aastore, 1) := by decide +kernel
theorem d_Model_init_96 : decode M_Model_init.2.1 96 = .ok (.dup, 1) := by decide +kernel
theorem d_Model_init_97 : decode M_Model_init.2.1 97 = .ok (.bipush 6, 2) := by decide +kernel
theorem d_Model_init_99 : decode M_Model_init.2.1 99 = .ok (.ldc 46, 2) := by decide +kernel
theorem d_Model_init_101 : decode M_Model_init.2.1 101 = .ok (.aastore, 1) := by decide +kernel
theorem d_Model_init_102 : decode M_Model_init.2.1 102 = .ok (.putfield 48, 3) := by decide +kernel
theorem d_Model_init_105 : decode M_Model_init.2.1 105 = .ok (.aload_n 0, 1) := by decide +kernel
theorem d_Model_init_106 : decode M_Model_init.2.1 106 = .ok (.bipush 12, 2) := by decide +kernel
theorem d_Model_init_108 : decode M_Model_init.2.1 108 = .ok (.newarray .int, 2) := by decide +kernel
theorem d_Model_init_110 : decode M_Model_init.2.1 110 = .ok (.dup, 1) := by decide +kernel
theorem d_Model_init_111 : decode M_Model_init.2.1 111 = .ok (.iconst 0, 1) := by decide +kernel
theorem d_Model_init_112 : decode M_Model_init.2.1 112 = .ok (.iconst 0, 1) := by decide +kernel
theorem d_Model_init_113 : decode M_Model_init.2.1 113 = .ok (.iastore, 1) := by decide +kernel
theorem d_Model_init_114 : decode M_Model_init.2.1 114 = .ok (.dup, 1) := by decide +kernel
theorem d_Model_init_115 : decode M_Model_init.2.1 115 = .ok (.iconst 1, 1) := by decide +kernel
theorem d_Model_init_116 : decode M_Model_init.2.1 116 = .ok (.bipush 40, 2) := by decide +kernel
theorem d_Model_init_118 : decode M_Model_init.2.1 118 = .ok (.iastore, 1) := by decide +kernel
theorem d_Model_init_119 : decode M_Model_init.2.1 119 = .ok (.dup, 1) := by decide +kernel
theorem d_Model_init_120 : decode M_Model_init.2.1 120 = .ok (.iconst 2, 1) := by decide +kernel
theorem d_Model_init_121 : decode M_Model_init.2.1 121 = .ok (.bipush 60, 2) := by decide +kernel
theorem d_Model_init_123 : decode M_Model_init.2.1 123 = .ok (.iastore, 1) := by decide +kernel
theorem d_Model_init_124 : decode M_Model_init.2.1 124 = .ok (.dup, 1) := by decide +kernel
theorem d_Model_init_125 : decode M_Model_init.2.1 125 = .ok (.iconst 3, 1) := by decide +kernel
theorem d_Model_init_126 : decode M_Model_init.2.1 126 = .ok (.iconst 3, 1) := by decide +kernel
theorem d_Model_init_127 : decode M_Model_init.2.1 127 = .ok (.iastore, 1) := by decide +kernel
theorem d_Model_init_128 : decode M_Model_init.2.1 128 = .ok (.dup, 1) := by decide +kernel
theorem d_Model_init_129 : decode M_Model_init.2.1 129 = .ok (.iconst 4, 1) := by decide +kernel
theorem d_Model_init_130 : decode M_Model_init.2.1 130 = .ok (.iconst 0, 1) := by decide +kernel
theorem d_Model_init_131 : decode M_Model_init.2.1 131 = .ok (.iastore, 1) := by decide +kernel
theorem d_Model_init_132 : decode M_Model_init.2.1 132 = .ok (.dup, 1) := by decide +kernel
theorem d_Model_init_133 : decode M_Model_init.2.1 133 = .ok (.iconst 5, 1) := by decide +kernel
theorem d_Model_init_134 : decode M_Model_init.2.1 134 = .ok (.iconst 0, 1) := by decide +kernel
theorem d_Model_init_135 : decode M_Model_init.2.1 135 = .ok (.iastore, 1) := by decide +kernel
theorem d_Model_init_136 : decode M_Model_init.2.1 136 = .ok (.dup, 1) := by decide +kernel
theorem d_Model_init_137 : decode M_Model_init.2.1 137 = .ok (.bipush 6, 2) := by decide +kernel
theorem d_Model_init_139 : decode M_Model_init.2.1 139 = .ok (.iconst 0, 1) := by decide +kernel
theorem d_Model_init_140 : decode M_Model_init.2.1 140 = .ok (.iastore, 1) := by decide +kernel
theorem d_Model_init_141 : decode M_Model_init.2.1 141 = .ok (.dup, 1) := by decide +kernel
theorem d_Model_init_142 : decode M_Model_init.2.1 142 = .ok (.bipush 7, 2) := by decide +kernel
theorem d_Model_init_144 : decode M_Model_init.2.1 144 = .ok (.bipush 40, 2) := by decide +kernel
theorem d_Model_init_146 : decode M_Model_init.2.1 146 = .ok (.iastore, 1) := by decide +kernel
theorem d_Model_init_147 : decode M_Model_init.2.1 147 = .ok (.dup, 1) := by decide +kernel
theorem d_Model_init_148 : decode M_Model_init.2.1 148 = .ok (.bipush 8, 2) := by decide +kernel
theorem d_Model_init_150 : decode M_Model_init.2.1 150 = .ok (.bipush 60, 2) := by decide +kernel
theorem d_Model_init_152 : decode M_Model_init.2.1 152 = .ok (.iastore, 1) := by decide +kernel
theorem d_Model_init_153 : decode M_Model_init.2.1 153 = .ok (.dup, 1) := by decide +kernel
theorem d_Model_init_154 : decode M_Model_init.2.1 154 = .ok (.bipush 9, 2) := by decide +kernel
theorem d_Model_init_156 : decode M_Model_init.2.1 156 = .ok (.iconst 3, 1) := by decide +kernel
theorem d_Model_init_157 : decode M_Model_init.2.1 157 = .ok (.iastore, 1) := by decide +kernel
theorem d_Model_init_158 : decode M_Model_init.2.1 158 = .ok (.dup, 1) := by decide +kernel
theorem d_Model_init_159 : decode M_Model_init.2.1 159 = .ok (.bipush 10, 2) := by decide +kernel
theorem d_Model_init_161 : decode M_Model_init.2.1 161 = .ok (.iconst 0, 1) := by decide +kernel
theorem d_Model_init_162 : decode M_Model_init.2.1 162 = .ok (.iastore, 1) := by decide +kernel
theorem d_Model_init_163 : decode M_Model_init.2.1 163 = .ok (.dup, 1) := by decide +kernel
theorem d_Model_init_164 : decode M_Model_init.2.1 164 = .ok (.bipush 11, 2) := by decide +kernel
theorem d_Model_init_166 : decode M_Model_init.2.1 166 = .ok (.iconst 0, 1) := by decide +kernel
theorem d_Model_init_167 : decode M_Model_init.2.1 167 = .ok (.iastore, 1) := by decide +kernel
theorem d_Model_init_168 : decode M_Model_init.2.1 168 = .ok (.putfield 51, 3) := by decide +kernel
theorem d_Model_init_171 : decode M_Model_init.2.1 171 = .ok (.aload_n 0, 1) := by decide +kernel
theorem d_Model_init_172 : decode M_Model_init.2.1 172 = .ok (.bipush 12, 2) := by decide +kernel
theorem d_Model_init_174 : decode M_Model_init.2.1 174 = .ok (.newarray .int, 2) := by decide +kernel
theorem d_Model_init_176 : decode M_Model_init.2.1 176 = .ok (.putfield 55, 3) := by decide +kernel
theorem d_Model_init_179 : decode M_Model_init.2.1 179 = .ok (.aload_n 0, 1) := by decide +kernel
theorem d_Model_init_180 : decode M_Model_init.2.1 180 = .ok (.bipush 12, 2) := by decide +kernel
theorem d_Model_init_182 : decode M_Model_init.2.1 182 = .ok (.newarray .int, 2) := by decide +kernel
theorem d_Model_init_184 : decode M_Model_init.2.1 184 = .ok (.putfield 57, 3) := by decide +kernel
theorem d_Model_init_187 : decode M_Model_init.2.1 187 = .ok (.aload_n 0, 1) := by decide +kernel
theorem d_Model_init_188 : decode M_Model_init.2.1 188 = .ok (.bipush 12, 2) := by decide +kernel
theorem d_Model_init_190 : decode M_Model_init.2.1 190 = .ok (.newarray .int, 2) := by decide +kernel
theorem d_Model_init_192 : decode M_Model_init.2.1 192 = .ok (.putfield 59, 3) := by decide +kernel
theorem d_Model_init_195 : decode M_Model_init.2.1 195 = .ok (.aload_n 0, 1) := by decide +kernel
theorem d_Model_init_196 : decode M_Model_init.2.1 196 = .ok (.sipush 432, 3) := by decide +kernel
theorem d_Model_init_199 : decode M_Model_init.2.1 199 = .ok (.newarray .int, 2) := by decide +kernel
theorem d_Model_init_201 : decode M_Model_init.2.1 201 = .ok (.putfield 62, 3) := by decide +kernel
theorem d_Model_init_204 : decode M_Model_init.2.1 204 = .ok (.aload_n 0, 1) := by decide +kernel
theorem d_Model_init_205 : decode M_Model_init.2.1 205 = .ok (.sipush 1400, 3) := by decide +kernel
theorem d_Model_init_208 : decode M_Model_init.2.1 208 = .ok (.newarray .int, 2) := by decide +kernel
theorem d_Model_init_210 : decode M_Model_init.2.1 210 = .ok (.putfield 65, 3) := by decide +kernel
theorem d_Model_init_213 : decode M_Model_init.2.1 213 = .ok (.aload_n 0, 1) := by decide +kernel
theorem d_Model_init_214 : decode M_Model_init.2.1 214 = .ok (.iconst 3, 1) := by decide +kernel
theorem d_Model_init_215 : decode M_Model_init.2.1 215 = .ok (.newarray .int, 2) := by decide +kernel
theorem d_Model_init_217 : decode M_Model_init.2.1 217 = .ok (.putfield 68, 3) := by decide +kernel
theorem d_Model_init_220 : decode M_Model_init.2.1 220 = .ok (.aload_n 0, 1) := by decide +kernel
theorem d_Model_init_221 : decode M_Model_init.2.1 221 = .ok (.sipush 700, 3) := by decide +kernel
theorem d_Model_init_224 : decode M_Model_init.2.1 224 = .ok (.newarray .int, 2) := by decide +kernel
theorem d_Model_init_226 : decode M_Model_init.2.1 226 = .ok (.putfield 71, 3) := by decide +kernel
theorem d_Model_init_229 : decode M_Model_init.2.1 229 = .ok (.aload_n 0, 1) := by decide +kernel
theorem d_Model_init_230 : decode M_Model_init.2.1 230 = .ok (.iconst (-1), 1) := by decide +kernel
theorem d_Model_init_231 : decode M_Model_init.2.1 231 = .ok (.putfield 74, 3) := by decide +kernel
theorem d_Model_init_234 : decode M_Model_init.2.1 234 = .ok (.aload_n 0, 1) := by decide +kernel
theorem d_Model_init_235 : decode M_Model_init.2.1 235 = .ok (.bipush 6, 2) := by decide +kernel
theorem d_Model_init_237 : decode M_Model_init.2.1 237 = .ok (.newarray .int, 2) := by decide +kernel
theorem d_Model_init_239 : decode M_Model_init.2.1 239 = .ok (.putfield 78, 3) := by decide +kernel
theorem d_Model_init_242 : decode M_Model_init.2.1 242 = .ok (.aload_n 0, 1) := by decide +kernel
theorem d_Model_init_243 : decode M_Model_init.2.1 243 = .ok (.sipush 9240, 3) := by decide +kernel
theorem d_Model_init_246 : decode M_Model_init.2.1 246 = .ok (.newarray .int, 2) := by decide +kernel
theorem d_Model_init_248 : decode M_Model_init.2.1 248 = .ok (.putfield 81, 3) := by decide +kernel
theorem d_Model_init_251 : decode M_Model_init.2.1 251 = .ok (.aload_n 0, 1) := by decide +kernel
theorem d_Model_init_252 : decode M_Model_init.2.1 252 = .ok (.bipush 7, 2) := by decide +kernel
theorem d_Model_init_254 : decode M_Model_init.2.1 254 = .ok (.newarray .int, 2) := by decide +kernel
theorem d_Model_init_256 : decode M_Model_init.2.1 256 = .ok (.putfield 84, 3) := by decide +kernel
theorem d_Model_init_259 : decode M_Model_init.2.1 259 = .ok (.aload_n 0, 1) := by decide +kernel
theorem d_Model_init_260 : decode M_Model_init.2.1 260 = .ok (.bipush 64, 2) := by decide +kernel
theorem d_Model_init_262 : decode M_Model_init.2.1 262 = .ok (.newarray .int, 2) := by decide +kernel
theorem d_Model_init_264 : decode M_Model_init.2.1 264 = .ok (.putfield 87, 3) := by decide +kernel
theorem d_Model_init_267 : decode M_Model_init.2.1 267 = .ok (.aload_n 0, 1) := by decide +kernel
theorem d_Model_init_268 : decode M_Model_init.2.1 268 = .ok (.sipush 231, 3) := by decide +kernel
theorem d_Model_init_271 : decode M_Model_init.2.1 271 = .ok (.newarray .int, 2) := by decide +kernel
theorem d_Model_init_273 : decode M_Model_init.2.1 273 = .ok (.putfield 90, 3) := by decide +kernel
theorem d_Model_init_276 : decode M_Model_init.2.1 276 = .ok (.aload_n 0, 1) := by decide +kernel
theorem d_Model_init_277 : decode M_Model_init.2.1 277 = .ok (.bipush 8, 2) := by decide +kernel
theorem d_Model_init_279 : decode M_Model_init.2.1 279 = .ok (.newarray .int, 2) := by decide +kernel
theorem d_Model_init_281 : decode M_Model_init.2.1 281 = .ok (.putfield 93, 3) := by decide +kernel
theorem d_Model_init_284 : decode M_Model_init.2.1 284 = .ok (.aload_n 0, 1) := by decide +kernel
theorem d_Model_init_285 : decode M_Model_init.2.1 285 = .ok (.bipush 8, 2) := by decide +kernel
theorem d_Model_init_287 : decode M_Model_init.2.1 287 = .ok (.newarray .int, 2) := by decide +kernel
theorem d_Model_init_289 : decode M_Model_init.2.1 289 = .ok (.putfield 96, 3) := by decide +kernel
theorem d_Model_init_292 : decode M_Model_init.2.1 292 = .ok (.aload_n 0, 1) := by decide +kernel
theorem d_Model_init_293 : decode M_Model_init.2.1 293 = .ok (.sipush 231, 3) := by decide +kernel
theorem d_Model_init_296 : decode M_Model_init.2.1 296 = .ok (.newarray .int, 2) := by decide +kernel
theorem d_Model_init_298 : decode M_Model_init.2.1 298 = .ok (.putfield 99, 3) := by decide +kernel
theorem d_Model_init_301 : decode M_Model_init.2.1 301 = .ok (.aload_n 0, 1) := by decide +kernel
theorem d_Model_init_302 : decode M_Model_init.2.1 302 = .ok (.sipush 9240, 3) := by decide +kernel
theorem d_Model_init_305 : decode M_Model_init.2.1 305 = .ok (.newarray .int, 2) := by decide +kernel
theorem d_Model_init_307 : decode M_Model_init.2.1 307 = .ok (.putfield 102, 3) := by decide +kernel
theorem d_Model_init_310 : decode M_Model_init.2.1 310 = .ok (.aload_n 0, 1) := by decide +kernel
theorem d_Model_init_311 : decode M_Model_init.2.1 311 = .ok (.bipush 8, 2) := by decide +kernel
theorem d_Model_init_313 : decode M_Model_init.2.1 313 = .ok (.newarray .int, 2) := by decide +kernel
theorem d_Model_init_315 : decode M_Model_init.2.1 315 = .ok (.putfield 105, 3) := by decide +kernel
theorem d_Model_init_318 : decode M_Model_init.2.1 318 = .ok (.aload_n 0, 1) := by decide +kernel
theorem d_Model_init_319 : decode M_Model_init.2.1 319 = .ok (.bipush 8, 2) := by decide +kernel
theorem d_Model_init_321 : decode M_Model_init.2.1 321 = .ok (.newarray .int, 2) := by decide +kernel
theorem d_Model_init_323 : decode M_Model_init.2.1 323 = .ok (.putfield 108, 3) := by decide +kernel
theorem d_Model_init_326 : decode M_Model_init.2.1 326 = .ok (.aload_n 0, 1) := by decide +kernel
theorem d_Model_init_327 : decode M_Model_init.2.1 327 = .ok (.iconst 3, 1) := by decide +kernel
theorem d_Model_init_328 : decode M_Model_init.2.1 328 = .ok (.newarray .int, 2) := by decide +kernel
theorem d_Model_init_330 : decode M_Model_init.2.1 330 = .ok (.putfield 111, 3) := by decide +kernel
theorem d_Model_init_333 : decode M_Model_init.2.1 333 = .ok (.return_, 1) := by decide +kernel

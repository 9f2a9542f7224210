/-! decode rows, by program (wip/whole/names.py) -/
theorem d_JA_init_0 : decode c_JA_init 0 = .ok (.aload_n 0, 1) := by decide +kernel
theorem d_JA_init_1 : decode c_JA_init 1 = .ok (.invokespecial 3, 3) := by decide +kernel
theorem d_JA_init_4 : decode c_JA_init 4 = .ok (.getstatic 18, 3) := by decide +kernel
theorem d_JA_init_7 : decode c_JA_init 7 = .ok (.ifCond .eq 18, 3) := by decide +kernel
theorem d_JA_init_10 : decode c_JA_init 10 = .ok (.aload_n 0, 1) := by decide +kernel
theorem d_JA_init_11 : decode c_JA_init 11 = .ok (.iload_n 1, 1) := by decide +kernel
theorem d_JA_init_12 : decode c_JA_init 12 = .ok (.newarray .byte, 2) := by decide +kernel
theorem d_JA_init_14 : decode c_JA_init 14 = .ok (.putfield 15, 3) := by decide +kernel
theorem d_JA_init_17 : decode c_JA_init 17 = .ok (.aload_n 0, 1) := by decide +kernel
theorem d_JA_init_18 : decode c_JA_init 18 = .ok (.iconst 0, 1) := by decide +kernel
theorem d_JA_init_19 : decode c_JA_init 19 = .ok (.putfield 22, 3) := by decide +kernel
theorem d_JA_init_22 : decode c_JA_init 22 = .ok (.goto 16, 3) := by decide +kernel
theorem d_JA_init_25 : decode c_JA_init 25 = .ok (.aload_n 0, 1) := by decide +kernel
theorem d_JA_init_26 : decode c_JA_init 26 = .ok (.iload_n 1, 1) := by decide +kernel
theorem d_JA_init_27 : decode c_JA_init 27 = .ok (.invokestatic 26, 3) := by decide +kernel
theorem d_JA_init_30 : decode c_JA_init 30 = .ok (.putfield 15, 3) := by decide +kernel
theorem d_JA_init_33 : decode c_JA_init 33 = .ok (.aload_n 0, 1) := by decide +kernel
theorem d_JA_init_34 : decode c_JA_init 34 = .ok (.iconst 1, 1) := by decide +kernel
theorem d_JA_init_35 : decode c_JA_init 35 = .ok (.putfield 22, 3) := by decide +kernel
theorem d_JA_init_38 : decode c_JA_init 38 = .ok (.return_, 1) := by decide +kernel
theorem d_JA_append_CAbstractStrin_0 : decode c_JA_append_CAbstractStrin 0 = .ok (.aload_n 0, 1) := by decide +kernel
theorem d_JA_append_CAbstractStrin_1 : decode c_JA_append_CAbstractStrin 1 = .ok (.aload_n 0, 1) := by decide +kernel
theorem d_JA_append_CAbstractStrin_2 : decode c_JA_append_CAbstractStrin 2 = .ok (.getfield 79, 3) := by decide +kernel
theorem d_JA_append_CAbstractStrin_5 : decode c_JA_append_CAbstractStrin 5 = .ok (.iconst 1, 1) := by decide +kernel
theorem d_JA_append_CAbstractStrin_6 : decode c_JA_append_CAbstractStrin 6 = .ok (.iadd, 1) := by decide +kernel
theorem d_JA_append_CAbstractStrin_7 : decode c_JA_append_CAbstractStrin 7 = .ok (.invokevirtual 100, 3) := by decide +kernel
theorem d_JA_append_CAbstractStrin_10 : decode c_JA_append_CAbstractStrin 10 = .ok (.aload_n 0, 1) := by decide +kernel
theorem d_JA_append_CAbstractStrin_11 : decode c_JA_append_CAbstractStrin 11 = .ok (.invokevirtual 83, 3) := by decide +kernel
theorem d_JA_append_CAbstractStrin_14 : decode c_JA_append_CAbstractStrin 14 = .ok (.ifCond .eq 31, 3) := by decide +kernel
theorem d_JA_append_CAbstractStrin_17 : decode c_JA_append_CAbstractStrin 17 = .ok (.iload_n 1, 1) := by decide +kernel
theorem d_JA_append_CAbstractStrin_18 : decode c_JA_append_CAbstractStrin 18 = .ok (.invokestatic 191, 3) := by decide +kernel
theorem d_JA_append_CAbstractStrin_21 : decode c_JA_append_CAbstractStrin 21 = .ok (.ifCond .eq 24, 3) := by decide +kernel
theorem d_JA_append_CAbstractStrin_24 : decode c_JA_append_CAbstractStrin 24 = .ok (.aload_n 0, 1) := by decide +kernel
theorem d_JA_append_CAbstractStrin_25 : decode c_JA_append_CAbstractStrin 25 = .ok (.getfield 15, 3) := by decide +kernel
theorem d_JA_append_CAbstractStrin_28 : decode c_JA_append_CAbstractStrin 28 = .ok (.aload_n 0, 1) := by decide +kernel
theorem d_JA_append_CAbstractStrin_29 : decode c_JA_append_CAbstractStrin 29 = .ok (.dup, 1) := by decide +kernel
theorem d_JA_append_CAbstractStrin_30 : decode c_JA_append_CAbstractStrin 30 = .ok (.getfield 79, 3) := by decide +kernel
theorem d_JA_append_CAbstractStrin_33 : decode c_JA_append_CAbstractStrin 33 = .ok (.dup_x1, 1) := by decide +kernel
theorem d_JA_append_CAbstractStrin_34 : decode c_JA_append_CAbstractStrin 34 = .ok (.iconst 1, 1) := by decide +kernel
theorem d_JA_append_CAbstractStrin_35 : decode c_JA_append_CAbstractStrin 35 = .ok (.iadd, 1) := by decide +kernel
theorem d_JA_append_CAbstractStrin_36 : decode c_JA_append_CAbstractStrin 36 = .ok (.putfield 79, 3) := by decide +kernel
theorem d_JA_append_CAbstractStrin_39 : decode c_JA_append_CAbstractStrin 39 = .ok (.iload_n 1, 1) := by decide +kernel
theorem d_JA_append_CAbstractStrin_40 : decode c_JA_append_CAbstractStrin 40 = .ok (.i2b, 1) := by decide +kernel
theorem d_JA_append_CAbstractStrin_41 : decode c_JA_append_CAbstractStrin 41 = .ok (.bastore, 1) := by decide +kernel
theorem d_JA_append_CAbstractStrin_42 : decode c_JA_append_CAbstractStrin 42 = .ok (.goto 33, 3) := by decide +kernel
theorem d_JA_append_CAbstractStrin_45 : decode c_JA_append_CAbstractStrin 45 = .ok (.aload_n 0, 1) := by decide +kernel
theorem d_JA_append_CAbstractStrin_46 : decode c_JA_append_CAbstractStrin 46 = .ok (.invokevirtual 83, 3) := by decide +kernel
theorem d_JA_append_CAbstractStrin_49 : decode c_JA_append_CAbstractStrin 49 = .ok (.ifCond .eq 7, 3) := by decide +kernel
theorem d_JA_append_CAbstractStrin_52 : decode c_JA_append_CAbstractStrin 52 = .ok (.aload_n 0, 1) := by decide +kernel
theorem d_JA_append_CAbstractStrin_53 : decode c_JA_append_CAbstractStrin 53 = .ok (.invokevirtual 195, 3) := by decide +kernel
theorem d_JA_append_CAbstractStrin_56 : decode c_JA_append_CAbstractStrin 56 = .ok (.aload_n 0, 1) := by decide +kernel
theorem d_JA_append_CAbstractStrin_57 : decode c_JA_append_CAbstractStrin 57 = .ok (.getfield 15, 3) := by decide +kernel
theorem d_JA_append_CAbstractStrin_60 : decode c_JA_append_CAbstractStrin 60 = .ok (.aload_n 0, 1) := by decide +kernel
theorem d_JA_append_CAbstractStrin_61 : decode c_JA_append_CAbstractStrin 61 = .ok (.dup, 1) := by decide +kernel
theorem d_JA_append_CAbstractStrin_62 : decode c_JA_append_CAbstractStrin 62 = .ok (.getfield 79, 3) := by decide +kernel
theorem d_JA_append_CAbstractStrin_65 : decode c_JA_append_CAbstractStrin 65 = .ok (.dup_x1, 1) := by decide +kernel
theorem d_JA_append_CAbstractStrin_66 : decode c_JA_append_CAbstractStrin 66 = .ok (.iconst 1, 1) := by decide +kernel
theorem d_JA_append_CAbstractStrin_67 : decode c_JA_append_CAbstractStrin 67 = .ok (.iadd, 1) := by decide +kernel
theorem d_JA_append_CAbstractStrin_68 : decode c_JA_append_CAbstractStrin 68 = .ok (.putfield 79, 3) := by decide +kernel
theorem d_JA_append_CAbstractStrin_71 : decode c_JA_append_CAbstractStrin 71 = .ok (.iload_n 1, 1) := by decide +kernel
theorem d_JA_append_CAbstractStrin_72 : decode c_JA_append_CAbstractStrin 72 = .ok (.invokestatic 197, 3) := by decide +kernel
theorem d_JA_append_CAbstractStrin_75 : decode c_JA_append_CAbstractStrin 75 = .ok (.aload_n 0, 1) := by decide +kernel
theorem d_JA_append_CAbstractStrin_76 : decode c_JA_append_CAbstractStrin 76 = .ok (.areturn, 1) := by decide +kernel
theorem d_JA_append_IAbstractStrin_0 : decode c_JA_append_IAbstractStrin 0 = .ok (.aload_n 0, 1) := by decide +kernel
theorem d_JA_append_IAbstractStrin_1 : decode c_JA_append_IAbstractStrin 1 = .ok (.getfield 79, 3) := by decide +kernel
theorem d_JA_append_IAbstractStrin_4 : decode c_JA_append_IAbstractStrin 4 = .ok (.istore_n 2, 1) := by decide +kernel
theorem d_JA_append_IAbstractStrin_5 : decode c_JA_append_IAbstractStrin 5 = .ok (.iload_n 2, 1) := by decide +kernel
theorem d_JA_append_IAbstractStrin_6 : decode c_JA_append_IAbstractStrin 6 = .ok (.iload_n 1, 1) := by decide +kernel
theorem d_JA_append_IAbstractStrin_7 : decode c_JA_append_IAbstractStrin 7 = .ok (.invokestatic 245, 3) := by decide +kernel
theorem d_JA_append_IAbstractStrin_10 : decode c_JA_append_IAbstractStrin 10 = .ok (.iadd, 1) := by decide +kernel
theorem d_JA_append_IAbstractStrin_11 : decode c_JA_append_IAbstractStrin 11 = .ok (.istore_n 3, 1) := by decide +kernel
theorem d_JA_append_IAbstractStrin_12 : decode c_JA_append_IAbstractStrin 12 = .ok (.aload_n 0, 1) := by decide +kernel
theorem d_JA_append_IAbstractStrin_13 : decode c_JA_append_IAbstractStrin 13 = .ok (.iload_n 3, 1) := by decide +kernel
theorem d_JA_append_IAbstractStrin_14 : decode c_JA_append_IAbstractStrin 14 = .ok (.invokevirtual 100, 3) := by decide +kernel
theorem d_JA_append_IAbstractStrin_17 : decode c_JA_append_IAbstractStrin 17 = .ok (.aload_n 0, 1) := by decide +kernel
theorem d_JA_append_IAbstractStrin_18 : decode c_JA_append_IAbstractStrin 18 = .ok (.invokevirtual 83, 3) := by decide +kernel
theorem d_JA_append_IAbstractStrin_21 : decode c_JA_append_IAbstractStrin 21 = .ok (.ifCond .eq 16, 3) := by decide +kernel
theorem d_JA_append_IAbstractStrin_24 : decode c_JA_append_IAbstractStrin 24 = .ok (.iload_n 1, 1) := by decide +kernel
theorem d_JA_append_IAbstractStrin_25 : decode c_JA_append_IAbstractStrin 25 = .ok (.iload_n 3, 1) := by decide +kernel
theorem d_JA_append_IAbstractStrin_26 : decode c_JA_append_IAbstractStrin 26 = .ok (.aload_n 0, 1) := by decide +kernel
theorem d_JA_append_IAbstractStrin_27 : decode c_JA_append_IAbstractStrin 27 = .ok (.getfield 15, 3) := by decide +kernel
theorem d_JA_append_IAbstractStrin_30 : decode c_JA_append_IAbstractStrin 30 = .ok (.invokestatic 248, 3) := by decide +kernel
theorem d_JA_append_IAbstractStrin_33 : decode c_JA_append_IAbstractStrin 33 = .ok (.pop, 1) := by decide +kernel
theorem d_JA_append_IAbstractStrin_34 : decode c_JA_append_IAbstractStrin 34 = .ok (.goto 14, 3) := by decide +kernel
theorem d_JA_append_IAbstractStrin_37 : decode c_JA_append_IAbstractStrin 37 = .ok (.iload_n 1, 1) := by decide +kernel
theorem d_JA_append_IAbstractStrin_38 : decode c_JA_append_IAbstractStrin 38 = .ok (.iload_n 2, 1) := by decide +kernel
theorem d_JA_append_IAbstractStrin_39 : decode c_JA_append_IAbstractStrin 39 = .ok (.iload_n 3, 1) := by decide +kernel
theorem d_JA_append_IAbstractStrin_40 : decode c_JA_append_IAbstractStrin 40 = .ok (.aload_n 0, 1) := by decide +kernel
theorem d_JA_append_IAbstractStrin_41 : decode c_JA_append_IAbstractStrin 41 = .ok (.getfield 15, 3) := by decide +kernel
theorem d_JA_append_IAbstractStrin_44 : decode c_JA_append_IAbstractStrin 44 = .ok (.invokestatic 251, 3) := by decide +kernel
theorem d_JA_append_IAbstractStrin_47 : decode c_JA_append_IAbstractStrin 47 = .ok (.pop, 1) := by decide +kernel
theorem d_JA_append_IAbstractStrin_48 : decode c_JA_append_IAbstractStrin 48 = .ok (.aload_n 0, 1) := by decide +kernel
theorem d_JA_append_IAbstractStrin_49 : decode c_JA_append_IAbstractStrin 49 = .ok (.iload_n 3, 1) := by decide +kernel
theorem d_JA_append_IAbstractStrin_50 : decode c_JA_append_IAbstractStrin 50 = .ok (.putfield 79, 3) := by decide +kernel
theorem d_JA_append_IAbstractStrin_53 : decode c_JA_append_IAbstractStrin 53 = .ok (.aload_n 0, 1) := by decide +kernel
theorem d_JA_append_IAbstractStrin_54 : decode c_JA_append_IAbstractStrin 54 = .ok (.areturn, 1) := by decide +kernel
theorem d_JA_charAt_0 : decode c_JA_charAt 0 = .ok (.aload_n 0, 1) := by decide +kernel
theorem d_JA_charAt_1 : decode c_JA_charAt 1 = .ok (.getfield 22, 3) := by decide +kernel
theorem d_JA_charAt_4 : decode c_JA_charAt 4 = .ok (.istore_n 2, 1) := by decide +kernel
theorem d_JA_charAt_5 : decode c_JA_charAt 5 = .ok (.aload_n 0, 1) := by decide +kernel
theorem d_JA_charAt_6 : decode c_JA_charAt 6 = .ok (.getfield 15, 3) := by decide +kernel
theorem d_JA_charAt_9 : decode c_JA_charAt 9 = .ok (.astore_n 3, 1) := by decide +kernel
theorem d_JA_charAt_10 : decode c_JA_charAt 10 = .ok (.aload_n 0, 1) := by decide +kernel
theorem d_JA_charAt_11 : decode c_JA_charAt 11 = .ok (.getfield 79, 3) := by decide +kernel
theorem d_JA_charAt_14 : decode c_JA_charAt 14 = .ok (.aload_n 3, 1) := by decide +kernel
theorem d_JA_charAt_15 : decode c_JA_charAt 15 = .ok (.arraylength, 1) := by decide +kernel
theorem d_JA_charAt_16 : decode c_JA_charAt 16 = .ok (.iload_n 2, 1) := by decide +kernel
theorem d_JA_charAt_17 : decode c_JA_charAt 17 = .ok (.ishr, 1) := by decide +kernel
theorem d_JA_charAt_18 : decode c_JA_charAt 18 = .ok (.invokestatic 138, 3) := by decide +kernel
theorem d_JA_charAt_21 : decode c_JA_charAt 21 = .ok (.istore 4, 2) := by decide +kernel
theorem d_JA_charAt_23 : decode c_JA_charAt 23 = .ok (.iload_n 1, 1) := by decide +kernel
theorem d_JA_charAt_24 : decode c_JA_charAt 24 = .ok (.iload 4, 2) := by decide +kernel
theorem d_JA_charAt_26 : decode c_JA_charAt 26 = .ok (.invokestatic 144, 3) := by decide +kernel
theorem d_JA_charAt_29 : decode c_JA_charAt 29 = .ok (.iload_n 2, 1) := by decide +kernel
theorem d_JA_charAt_30 : decode c_JA_charAt 30 = .ok (.ifCond .ne 12, 3) := by decide +kernel
theorem d_JA_charAt_33 : decode c_JA_charAt 33 = .ok (.aload_n 3, 1) := by decide +kernel
theorem d_JA_charAt_34 : decode c_JA_charAt 34 = .ok (.iload_n 1, 1) := by decide +kernel
theorem d_JA_charAt_35 : decode c_JA_charAt 35 = .ok (.baload, 1) := by decide +kernel
theorem d_JA_charAt_36 : decode c_JA_charAt 36 = .ok (.sipush 255, 3) := by decide +kernel
theorem d_JA_charAt_39 : decode c_JA_charAt 39 = .ok (.iand, 1) := by decide +kernel
theorem d_JA_charAt_40 : decode c_JA_charAt 40 = .ok (.i2c, 1) := by decide +kernel
theorem d_JA_charAt_41 : decode c_JA_charAt 41 = .ok (.ireturn, 1) := by decide +kernel
theorem d_JA_charAt_42 : decode c_JA_charAt 42 = .ok (.aload_n 3, 1) := by decide +kernel
theorem d_JA_charAt_43 : decode c_JA_charAt 43 = .ok (.iload_n 1, 1) := by decide +kernel
theorem d_JA_charAt_44 : decode c_JA_charAt 44 = .ok (.invokestatic 148, 3) := by decide +kernel
theorem d_JA_charAt_47 : decode c_JA_charAt 47 = .ok (.ireturn, 1) := by decide +kernel
theorem d_JA_ensureCapacityInternal_0 : decode c_JA_ensureCapacityInternal 0 = .ok (.aload_n 0, 1) := by decide +kernel
theorem d_JA_ensureCapacityInternal_1 : decode c_JA_ensureCapacityInternal 1 = .ok (.getfield 15, 3) := by decide +kernel
theorem d_JA_ensureCapacityInternal_4 : decode c_JA_ensureCapacityInternal 4 = .ok (.arraylength, 1) := by decide +kernel
theorem d_JA_ensureCapacityInternal_5 : decode c_JA_ensureCapacityInternal 5 = .ok (.aload_n 0, 1) := by decide +kernel
theorem d_JA_ensureCapacityInternal_6 : decode c_JA_ensureCapacityInternal 6 = .ok (.getfield 22, 3) := by decide +kernel
theorem d_JA_ensureCapacityInternal_9 : decode c_JA_ensureCapacityInternal 9 = .ok (.ishr, 1) := by decide +kernel
theorem d_JA_ensureCapacityInternal_10 : decode c_JA_ensureCapacityInternal 10 = .ok (.istore_n 2, 1) := by decide +kernel
theorem d_JA_ensureCapacityInternal_11 : decode c_JA_ensureCapacityInternal 11 = .ok (.iload_n 1, 1) := by decide +kernel
theorem d_JA_ensureCapacityInternal_12 : decode c_JA_ensureCapacityInternal 12 = .ok (.iload_n 2, 1) := by decide +kernel
theorem d_JA_ensureCapacityInternal_13 : decode c_JA_ensureCapacityInternal 13 = .ok (.isub, 1) := by decide +kernel
theorem d_JA_ensureCapacityInternal_14 : decode c_JA_ensureCapacityInternal 14 = .ok (.ifCond .le 24, 3) := by decide +kernel
theorem d_JA_ensureCapacityInternal_17 : decode c_JA_ensureCapacityInternal 17 = .ok (.aload_n 0, 1) := by decide +kernel
theorem d_JA_ensureCapacityInternal_18 : decode c_JA_ensureCapacityInternal 18 = .ok (.aload_n 0, 1) := by decide +kernel
theorem d_JA_ensureCapacityInternal_19 : decode c_JA_ensureCapacityInternal 19 = .ok (.getfield 15, 3) := by decide +kernel
theorem d_JA_ensureCapacityInternal_22 : decode c_JA_ensureCapacityInternal 22 = .ok (.aload_n 0, 1) := by decide +kernel
theorem d_JA_ensureCapacityInternal_23 : decode c_JA_ensureCapacityInternal 23 = .ok (.iload_n 1, 1) := by decide +kernel
theorem d_JA_ensureCapacityInternal_24 : decode c_JA_ensureCapacityInternal 24 = .ok (.invokevirtual 104, 3) := by decide +kernel
theorem d_JA_ensureCapacityInternal_27 : decode c_JA_ensureCapacityInternal 27 = .ok (.aload_n 0, 1) := by decide +kernel
theorem d_JA_ensureCapacityInternal_28 : decode c_JA_ensureCapacityInternal 28 = .ok (.getfield 22, 3) := by decide +kernel
theorem d_JA_ensureCapacityInternal_31 : decode c_JA_ensureCapacityInternal 31 = .ok (.ishl, 1) := by decide +kernel
theorem d_JA_ensureCapacityInternal_32 : decode c_JA_ensureCapacityInternal 32 = .ok (.invokestatic 108, 3) := by decide +kernel
theorem d_JA_ensureCapacityInternal_35 : decode c_JA_ensureCapacityInternal 35 = .ok (.putfield 15, 3) := by decide +kernel
theorem d_JA_ensureCapacityInternal_38 : decode c_JA_ensureCapacityInternal 38 = .ok (.return_, 1) := by decide +kernel
theorem d_JA_inflate_0 : decode c_JA_inflate 0 = .ok (.aload_n 0, 1) := by decide +kernel
theorem d_JA_inflate_1 : decode c_JA_inflate 1 = .ok (.invokevirtual 83, 3) := by decide +kernel
theorem d_JA_inflate_4 : decode c_JA_inflate 4 = .ok (.ifCond .ne 4, 3) := by decide +kernel
theorem d_JA_inflate_7 : decode c_JA_inflate 7 = .ok (.return_, 1) := by decide +kernel
theorem d_JA_inflate_8 : decode c_JA_inflate 8 = .ok (.aload_n 0, 1) := by decide +kernel
theorem d_JA_inflate_9 : decode c_JA_inflate 9 = .ok (.getfield 15, 3) := by decide +kernel
theorem d_JA_inflate_12 : decode c_JA_inflate 12 = .ok (.arraylength, 1) := by decide +kernel
theorem d_JA_inflate_13 : decode c_JA_inflate 13 = .ok (.invokestatic 26, 3) := by decide +kernel
theorem d_JA_inflate_16 : decode c_JA_inflate 16 = .ok (.astore_n 1, 1) := by decide +kernel
theorem d_JA_inflate_17 : decode c_JA_inflate 17 = .ok (.aload_n 0, 1) := by decide +kernel
theorem d_JA_inflate_18 : decode c_JA_inflate 18 = .ok (.getfield 15, 3) := by decide +kernel
theorem d_JA_inflate_21 : decode c_JA_inflate 21 = .ok (.iconst 0, 1) := by decide +kernel
theorem d_JA_inflate_22 : decode c_JA_inflate 22 = .ok (.aload_n 1, 1) := by decide +kernel
theorem d_JA_inflate_23 : decode c_JA_inflate 23 = .ok (.iconst 0, 1) := by decide +kernel
theorem d_JA_inflate_24 : decode c_JA_inflate 24 = .ok (.aload_n 0, 1) := by decide +kernel
theorem d_JA_inflate_25 : decode c_JA_inflate 25 = .ok (.getfield 79, 3) := by decide +kernel
theorem d_JA_inflate_28 : decode c_JA_inflate 28 = .ok (.invokestatic 125, 3) := by decide +kernel
theorem d_JA_inflate_31 : decode c_JA_inflate 31 = .ok (.aload_n 0, 1) := by decide +kernel
theorem d_JA_inflate_32 : decode c_JA_inflate 32 = .ok (.aload_n 1, 1) := by decide +kernel
theorem d_JA_inflate_33 : decode c_JA_inflate 33 = .ok (.putfield 15, 3) := by decide +kernel
theorem d_JA_inflate_36 : decode c_JA_inflate 36 = .ok (.aload_n 0, 1) := by decide +kernel
theorem d_JA_inflate_37 : decode c_JA_inflate 37 = .ok (.iconst 1, 1) := by decide +kernel
theorem d_JA_inflate_38 : decode c_JA_inflate 38 = .ok (.putfield 22, 3) := by decide +kernel
theorem d_JA_inflate_41 : decode c_JA_inflate 41 = .ok (.return_, 1) := by decide +kernel
theorem d_JA_isLatin1_0 : decode c_JA_isLatin1 0 = .ok (.getstatic 18, 3) := by decide +kernel
theorem d_JA_isLatin1_3 : decode c_JA_isLatin1 3 = .ok (.ifCond .eq 14, 3) := by decide +kernel
theorem d_JA_isLatin1_6 : decode c_JA_isLatin1 6 = .ok (.aload_n 0, 1) := by decide +kernel
theorem d_JA_isLatin1_7 : decode c_JA_isLatin1 7 = .ok (.getfield 22, 3) := by decide +kernel
theorem d_JA_isLatin1_10 : decode c_JA_isLatin1 10 = .ok (.ifCond .ne 7, 3) := by decide +kernel
theorem d_JA_isLatin1_13 : decode c_JA_isLatin1 13 = .ok (.iconst 1, 1) := by decide +kernel
theorem d_JA_isLatin1_14 : decode c_JA_isLatin1 14 = .ok (.goto 4, 3) := by decide +kernel
theorem d_JA_isLatin1_17 : decode c_JA_isLatin1 17 = .ok (.iconst 0, 1) := by decide +kernel
theorem d_JA_isLatin1_18 : decode c_JA_isLatin1 18 = .ok (.ireturn, 1) := by decide +kernel
theorem d_JA_length_0 : decode c_JA_length 0 = .ok (.aload_n 0, 1) := by decide +kernel
theorem d_JA_length_1 : decode c_JA_length 1 = .ok (.getfield 79, 3) := by decide +kernel
theorem d_JA_length_4 : decode c_JA_length 4 = .ok (.ireturn, 1) := by decide +kernel
theorem d_JA_newCapacity_0 : decode c_JA_newCapacity 0 = .ok (.aload_n 0, 1) := by decide +kernel
theorem d_JA_newCapacity_1 : decode c_JA_newCapacity 1 = .ok (.getfield 15, 3) := by decide +kernel
theorem d_JA_newCapacity_4 : decode c_JA_newCapacity 4 = .ok (.arraylength, 1) := by decide +kernel
theorem d_JA_newCapacity_5 : decode c_JA_newCapacity 5 = .ok (.istore_n 2, 1) := by decide +kernel
theorem d_JA_newCapacity_6 : decode c_JA_newCapacity 6 = .ok (.iload_n 1, 1) := by decide +kernel
theorem d_JA_newCapacity_7 : decode c_JA_newCapacity 7 = .ok (.aload_n 0, 1) := by decide +kernel
theorem d_JA_newCapacity_8 : decode c_JA_newCapacity 8 = .ok (.getfield 22, 3) := by decide +kernel
theorem d_JA_newCapacity_11 : decode c_JA_newCapacity 11 = .ok (.ishl, 1) := by decide +kernel
theorem d_JA_newCapacity_12 : decode c_JA_newCapacity 12 = .ok (.istore_n 3, 1) := by decide +kernel
theorem d_JA_newCapacity_13 : decode c_JA_newCapacity 13 = .ok (.iload_n 3, 1) := by decide +kernel
theorem d_JA_newCapacity_14 : decode c_JA_newCapacity 14 = .ok (.iload_n 2, 1) := by decide +kernel
theorem d_JA_newCapacity_15 : decode c_JA_newCapacity 15 = .ok (.isub, 1) := by decide +kernel
theorem d_JA_newCapacity_16 : decode c_JA_newCapacity 16 = .ok (.istore 4, 2) := by decide +kernel
theorem d_JA_newCapacity_18 : decode c_JA_newCapacity 18 = .ok (.iload_n 2, 1) := by decide +kernel
theorem d_JA_newCapacity_19 : decode c_JA_newCapacity 19 = .ok (.iload 4, 2) := by decide +kernel
theorem d_JA_newCapacity_21 : decode c_JA_newCapacity 21 = .ok (.iload_n 2, 1) := by decide +kernel
theorem d_JA_newCapacity_22 : decode c_JA_newCapacity 22 = .ok (.iconst 2, 1) := by decide +kernel
theorem d_JA_newCapacity_23 : decode c_JA_newCapacity 23 = .ok (.aload_n 0, 1) := by decide +kernel
theorem d_JA_newCapacity_24 : decode c_JA_newCapacity 24 = .ok (.getfield 22, 3) := by decide +kernel
theorem d_JA_newCapacity_27 : decode c_JA_newCapacity 27 = .ok (.ishl, 1) := by decide +kernel
theorem d_JA_newCapacity_28 : decode c_JA_newCapacity 28 = .ok (.iadd, 1) := by decide +kernel
theorem d_JA_newCapacity_29 : decode c_JA_newCapacity 29 = .ok (.invokestatic 114, 3) := by decide +kernel
theorem d_JA_newCapacity_32 : decode c_JA_newCapacity 32 = .ok (.istore 5, 2) := by decide +kernel
theorem d_JA_newCapacity_34 : decode c_JA_newCapacity 34 = .ok (.iload 5, 2) := by decide +kernel
theorem d_JA_newCapacity_36 : decode c_JA_newCapacity 36 = .ok (.ldc 39, 2) := by decide +kernel
theorem d_JA_newCapacity_38 : decode c_JA_newCapacity 38 = .ok (.if_icmp .ne 13, 3) := by decide +kernel
theorem d_JA_newCapacity_41 : decode c_JA_newCapacity 41 = .ok (.new 120, 3) := by decide +kernel
theorem d_JA_newCapacity_44 : decode c_JA_newCapacity 44 = .ok (.dup, 1) := by decide +kernel
theorem d_JA_newCapacity_45 : decode c_JA_newCapacity 45 = .ok (.ldc 122, 2) := by decide +kernel
theorem d_JA_newCapacity_47 : decode c_JA_newCapacity 47 = .ok (.invokespecial 124, 3) := by decide +kernel
theorem d_JA_newCapacity_50 : decode c_JA_newCapacity 50 = .ok (.athrow, 1) := by decide +kernel
theorem d_JA_newCapacity_51 : decode c_JA_newCapacity 51 = .ok (.iload 5, 2) := by decide +kernel
theorem d_JA_newCapacity_53 : decode c_JA_newCapacity 53 = .ok (.aload_n 0, 1) := by decide +kernel
theorem d_JA_newCapacity_54 : decode c_JA_newCapacity 54 = .ok (.getfield 22, 3) := by decide +kernel
theorem d_JA_newCapacity_57 : decode c_JA_newCapacity 57 = .ok (.ishr, 1) := by decide +kernel
theorem d_JA_newCapacity_58 : decode c_JA_newCapacity 58 = .ok (.ireturn, 1) := by decide +kernel
theorem d_JA_setLength_0 : decode c_JA_setLength 0 = .ok (.iload_n 1, 1) := by decide +kernel
theorem d_JA_setLength_1 : decode c_JA_setLength 1 = .ok (.ifCond .ge 12, 3) := by decide +kernel
theorem d_JA_setLength_4 : decode c_JA_setLength 4 = .ok (.new 129, 3) := by decide +kernel
theorem d_JA_setLength_7 : decode c_JA_setLength 7 = .ok (.dup, 1) := by decide +kernel
theorem d_JA_setLength_8 : decode c_JA_setLength 8 = .ok (.iload_n 1, 1) := by decide +kernel
theorem d_JA_setLength_9 : decode c_JA_setLength 9 = .ok (.invokespecial 131, 3) := by decide +kernel
theorem d_JA_setLength_12 : decode c_JA_setLength 12 = .ok (.athrow, 1) := by decide +kernel
theorem d_JA_setLength_13 : decode c_JA_setLength 13 = .ok (.aload_n 0, 1) := by decide +kernel
theorem d_JA_setLength_14 : decode c_JA_setLength 14 = .ok (.iload_n 1, 1) := by decide +kernel
theorem d_JA_setLength_15 : decode c_JA_setLength 15 = .ok (.invokevirtual 100, 3) := by decide +kernel
theorem d_JA_setLength_18 : decode c_JA_setLength 18 = .ok (.aload_n 0, 1) := by decide +kernel
theorem d_JA_setLength_19 : decode c_JA_setLength 19 = .ok (.getfield 79, 3) := by decide +kernel
theorem d_JA_setLength_22 : decode c_JA_setLength 22 = .ok (.iload_n 1, 1) := by decide +kernel
theorem d_JA_setLength_23 : decode c_JA_setLength 23 = .ok (.if_icmp .ge 40, 3) := by decide +kernel
theorem d_JA_setLength_26 : decode c_JA_setLength 26 = .ok (.aload_n 0, 1) := by decide +kernel
theorem d_JA_setLength_27 : decode c_JA_setLength 27 = .ok (.invokevirtual 83, 3) := by decide +kernel
theorem d_JA_setLength_30 : decode c_JA_setLength 30 = .ok (.ifCond .eq 18, 3) := by decide +kernel
theorem d_JA_setLength_33 : decode c_JA_setLength 33 = .ok (.aload_n 0, 1) := by decide +kernel
theorem d_JA_setLength_34 : decode c_JA_setLength 34 = .ok (.getfield 15, 3) := by decide +kernel
theorem d_JA_setLength_37 : decode c_JA_setLength 37 = .ok (.aload_n 0, 1) := by decide +kernel
theorem d_JA_setLength_38 : decode c_JA_setLength 38 = .ok (.getfield 79, 3) := by decide +kernel
theorem d_JA_setLength_41 : decode c_JA_setLength 41 = .ok (.iload_n 1, 1) := by decide +kernel
theorem d_JA_setLength_42 : decode c_JA_setLength 42 = .ok (.invokestatic 133, 3) := by decide +kernel
theorem d_JA_setLength_45 : decode c_JA_setLength 45 = .ok (.goto 31, 3) := by decide +kernel
theorem d_JA_setLength_48 : decode c_JA_setLength 48 = .ok (.aload_n 0, 1) := by decide +kernel
theorem d_JA_setLength_49 : decode c_JA_setLength 49 = .ok (.getfield 15, 3) := by decide +kernel
theorem d_JA_setLength_52 : decode c_JA_setLength 52 = .ok (.aload_n 0, 1) := by decide +kernel
theorem d_JA_setLength_53 : decode c_JA_setLength 53 = .ok (.getfield 79, 3) := by decide +kernel
theorem d_JA_setLength_56 : decode c_JA_setLength 56 = .ok (.iload_n 1, 1) := by decide +kernel
theorem d_JA_setLength_57 : decode c_JA_setLength 57 = .ok (.invokestatic 137, 3) := by decide +kernel
theorem d_JA_setLength_60 : decode c_JA_setLength 60 = .ok (.goto 16, 3) := by decide +kernel
theorem d_JA_setLength_63 : decode c_JA_setLength 63 = .ok (.aload_n 0, 1) := by decide +kernel
theorem d_JA_setLength_64 : decode c_JA_setLength 64 = .ok (.getfield 79, 3) := by decide +kernel
theorem d_JA_setLength_67 : decode c_JA_setLength 67 = .ok (.iload_n 1, 1) := by decide +kernel
theorem d_JA_setLength_68 : decode c_JA_setLength 68 = .ok (.if_icmp .le 8, 3) := by decide +kernel
theorem d_JA_setLength_71 : decode c_JA_setLength 71 = .ok (.aload_n 0, 1) := by decide +kernel
theorem d_JA_setLength_72 : decode c_JA_setLength 72 = .ok (.iconst 1, 1) := by decide +kernel
theorem d_JA_setLength_73 : decode c_JA_setLength 73 = .ok (.putfield 73, 3) := by decide +kernel
theorem d_JA_setLength_76 : decode c_JA_setLength 76 = .ok (.aload_n 0, 1) := by decide +kernel
theorem d_JA_setLength_77 : decode c_JA_setLength 77 = .ok (.iload_n 1, 1) := by decide +kernel
theorem d_JA_setLength_78 : decode c_JA_setLength 78 = .ok (.putfield 79, 3) := by decide +kernel
theorem d_JA_setLength_81 : decode c_JA_setLength 81 = .ok (.return_, 1) := by decide +kernel
theorem d_JH_init_0 : decode c_JH_init 0 = .ok (.aload_n 0, 1) := by decide +kernel
theorem d_JH_init_1 : decode c_JH_init 1 = .ok (.invokespecial 1, 3) := by decide +kernel
theorem d_JH_init_4 : decode c_JH_init 4 = .ok (.return_, 1) := by decide +kernel
theorem d_JE_init_0 : decode c_JE_init 0 = .ok (.aload_n 0, 1) := by decide +kernel
theorem d_JE_init_1 : decode c_JE_init 1 = .ok (.invokespecial 1, 3) := by decide +kernel
theorem d_JE_init_4 : decode c_JE_init 4 = .ok (.return_, 1) := by decide +kernel
theorem d_JG_init_0 : decode c_JG_init 0 = .ok (.aload_n 0, 1) := by decide +kernel
theorem d_JG_init_1 : decode c_JG_init 1 = .ok (.invokespecial 1, 3) := by decide +kernel
theorem d_JG_init_4 : decode c_JG_init 4 = .ok (.return_, 1) := by decide +kernel
theorem d_JX_init_0 : decode c_JX_init 0 = .ok (.aload_n 0, 1) := by decide +kernel
theorem d_JX_init_1 : decode c_JX_init 1 = .ok (.invokespecial 1, 3) := by decide +kernel
theorem d_JX_init_4 : decode c_JX_init 4 = .ok (.return_, 1) := by decide +kernel
theorem d_JI_getChars_0 : decode c_JI_getChars 0 = .ok (.iload_n 1, 1) := by decide +kernel
theorem d_JI_getChars_1 : decode c_JI_getChars 1 = .ok (.istore 5, 2) := by decide +kernel
theorem d_JI_getChars_3 : decode c_JI_getChars 3 = .ok (.iload_n 0, 1) := by decide +kernel
theorem d_JI_getChars_4 : decode c_JI_getChars 4 = .ok (.ifCond .ge 7, 3) := by decide +kernel
theorem d_JI_getChars_7 : decode c_JI_getChars 7 = .ok (.iconst 1, 1) := by decide +kernel
theorem d_JI_getChars_8 : decode c_JI_getChars 8 = .ok (.goto 4, 3) := by decide +kernel
theorem d_JI_getChars_11 : decode c_JI_getChars 11 = .ok (.iconst 0, 1) := by decide +kernel
theorem d_JI_getChars_12 : decode c_JI_getChars 12 = .ok (.istore 6, 2) := by decide +kernel
theorem d_JI_getChars_14 : decode c_JI_getChars 14 = .ok (.iload 6, 2) := by decide +kernel
theorem d_JI_getChars_16 : decode c_JI_getChars 16 = .ok (.ifCond .ne 6, 3) := by decide +kernel
theorem d_JI_getChars_19 : decode c_JI_getChars 19 = .ok (.iload_n 0, 1) := by decide +kernel
theorem d_JI_getChars_20 : decode c_JI_getChars 20 = .ok (.ineg, 1) := by decide +kernel
theorem d_JI_getChars_21 : decode c_JI_getChars 21 = .ok (.istore_n 0, 1) := by decide +kernel
theorem d_JI_getChars_22 : decode c_JI_getChars 22 = .ok (.iload_n 0, 1) := by decide +kernel
theorem d_JI_getChars_23 : decode c_JI_getChars 23 = .ok (.bipush (-100), 2) := by decide +kernel
theorem d_JI_getChars_25 : decode c_JI_getChars 25 = .ok (.if_icmp .gt 47, 3) := by decide +kernel
theorem d_JI_getChars_28 : decode c_JI_getChars 28 = .ok (.iload_n 0, 1) := by decide +kernel
theorem d_JI_getChars_29 : decode c_JI_getChars 29 = .ok (.bipush 100, 2) := by decide +kernel
theorem d_JI_getChars_31 : decode c_JI_getChars 31 = .ok (.idiv, 1) := by decide +kernel
theorem d_JI_getChars_32 : decode c_JI_getChars 32 = .ok (.istore_n 3, 1) := by decide +kernel
theorem d_JI_getChars_33 : decode c_JI_getChars 33 = .ok (.iload_n 3, 1) := by decide +kernel
theorem d_JI_getChars_34 : decode c_JI_getChars 34 = .ok (.bipush 100, 2) := by decide +kernel
theorem d_JI_getChars_36 : decode c_JI_getChars 36 = .ok (.imul, 1) := by decide +kernel
theorem d_JI_getChars_37 : decode c_JI_getChars 37 = .ok (.iload_n 0, 1) := by decide +kernel
theorem d_JI_getChars_38 : decode c_JI_getChars 38 = .ok (.isub, 1) := by decide +kernel
theorem d_JI_getChars_39 : decode c_JI_getChars 39 = .ok (.istore 4, 2) := by decide +kernel
theorem d_JI_getChars_41 : decode c_JI_getChars 41 = .ok (.iload_n 3, 1) := by decide +kernel
theorem d_JI_getChars_42 : decode c_JI_getChars 42 = .ok (.istore_n 0, 1) := by decide +kernel
theorem d_JI_getChars_43 : decode c_JI_getChars 43 = .ok (.aload_n 2, 1) := by decide +kernel
theorem d_JI_getChars_44 : decode c_JI_getChars 44 = .ok (.iinc 5 (-1), 3) := by decide +kernel
theorem d_JI_getChars_47 : decode c_JI_getChars 47 = .ok (.iload 5, 2) := by decide +kernel
theorem d_JI_getChars_49 : decode c_JI_getChars 49 = .ok (.getstatic 83, 3) := by decide +kernel
theorem d_JI_getChars_52 : decode c_JI_getChars 52 = .ok (.iload 4, 2) := by decide +kernel
theorem d_JI_getChars_54 : decode c_JI_getChars 54 = .ok (.baload, 1) := by decide +kernel
theorem d_JI_getChars_55 : decode c_JI_getChars 55 = .ok (.bastore, 1) := by decide +kernel
theorem d_JI_getChars_56 : decode c_JI_getChars 56 = .ok (.aload_n 2, 1) := by decide +kernel
theorem d_JI_getChars_57 : decode c_JI_getChars 57 = .ok (.iinc 5 (-1), 3) := by decide +kernel
theorem d_JI_getChars_60 : decode c_JI_getChars 60 = .ok (.iload 5, 2) := by decide +kernel
theorem d_JI_getChars_62 : decode c_JI_getChars 62 = .ok (.getstatic 87, 3) := by decide +kernel
theorem d_JI_getChars_65 : decode c_JI_getChars 65 = .ok (.iload 4, 2) := by decide +kernel
theorem d_JI_getChars_67 : decode c_JI_getChars 67 = .ok (.baload, 1) := by decide +kernel
theorem d_JI_getChars_68 : decode c_JI_getChars 68 = .ok (.bastore, 1) := by decide +kernel
theorem d_JI_getChars_69 : decode c_JI_getChars 69 = .ok (.goto (-47), 3) := by decide +kernel
theorem d_JI_getChars_72 : decode c_JI_getChars 72 = .ok (.aload_n 2, 1) := by decide +kernel
theorem d_JI_getChars_73 : decode c_JI_getChars 73 = .ok (.iinc 5 (-1), 3) := by decide +kernel
theorem d_JI_getChars_76 : decode c_JI_getChars 76 = .ok (.iload 5, 2) := by decide +kernel
theorem d_JI_getChars_78 : decode c_JI_getChars 78 = .ok (.getstatic 83, 3) := by decide +kernel
theorem d_JI_getChars_81 : decode c_JI_getChars 81 = .ok (.iload_n 0, 1) := by decide +kernel
theorem d_JI_getChars_82 : decode c_JI_getChars 82 = .ok (.ineg, 1) := by decide +kernel
theorem d_JI_getChars_83 : decode c_JI_getChars 83 = .ok (.baload, 1) := by decide +kernel
theorem d_JI_getChars_84 : decode c_JI_getChars 84 = .ok (.bastore, 1) := by decide +kernel
theorem d_JI_getChars_85 : decode c_JI_getChars 85 = .ok (.iload_n 0, 1) := by decide +kernel
theorem d_JI_getChars_86 : decode c_JI_getChars 86 = .ok (.bipush (-9), 2) := by decide +kernel
theorem d_JI_getChars_88 : decode c_JI_getChars 88 = .ok (.if_icmp .ge 16, 3) := by decide +kernel
theorem d_JI_getChars_91 : decode c_JI_getChars 91 = .ok (.aload_n 2, 1) := by decide +kernel
theorem d_JI_getChars_92 : decode c_JI_getChars 92 = .ok (.iinc 5 (-1), 3) := by decide +kernel
theorem d_JI_getChars_95 : decode c_JI_getChars 95 = .ok (.iload 5, 2) := by decide +kernel
theorem d_JI_getChars_97 : decode c_JI_getChars 97 = .ok (.getstatic 87, 3) := by decide +kernel
theorem d_JI_getChars_100 : decode c_JI_getChars 100 = .ok (.iload_n 0, 1) := by decide +kernel
theorem d_JI_getChars_101 : decode c_JI_getChars 101 = .ok (.ineg, 1) := by decide +kernel
theorem d_JI_getChars_102 : decode c_JI_getChars 102 = .ok (.baload, 1) := by decide +kernel
theorem d_JI_getChars_103 : decode c_JI_getChars 103 = .ok (.bastore, 1) := by decide +kernel
theorem d_JI_getChars_104 : decode c_JI_getChars 104 = .ok (.iload 6, 2) := by decide +kernel
theorem d_JI_getChars_106 : decode c_JI_getChars 106 = .ok (.ifCond .eq 12, 3) := by decide +kernel
theorem d_JI_getChars_109 : decode c_JI_getChars 109 = .ok (.aload_n 2, 1) := by decide +kernel
theorem d_JI_getChars_110 : decode c_JI_getChars 110 = .ok (.iinc 5 (-1), 3) := by decide +kernel
theorem d_JI_getChars_113 : decode c_JI_getChars 113 = .ok (.iload 5, 2) := by decide +kernel
theorem d_JI_getChars_115 : decode c_JI_getChars 115 = .ok (.bipush 45, 2) := by decide +kernel
theorem d_JI_getChars_117 : decode c_JI_getChars 117 = .ok (.bastore, 1) := by decide +kernel
theorem d_JI_getChars_118 : decode c_JI_getChars 118 = .ok (.iload 5, 2) := by decide +kernel
theorem d_JI_getChars_120 : decode c_JI_getChars 120 = .ok (.ireturn, 1) := by decide +kernel
theorem d_JI_stringSize_0 : decode c_JI_stringSize 0 = .ok (.iconst 1, 1) := by decide +kernel
theorem d_JI_stringSize_1 : decode c_JI_stringSize 1 = .ok (.istore_n 1, 1) := by decide +kernel
theorem d_JI_stringSize_2 : decode c_JI_stringSize 2 = .ok (.iload_n 0, 1) := by decide +kernel
theorem d_JI_stringSize_3 : decode c_JI_stringSize 3 = .ok (.ifCond .lt 8, 3) := by decide +kernel
theorem d_JI_stringSize_6 : decode c_JI_stringSize 6 = .ok (.iconst 0, 1) := by decide +kernel
theorem d_JI_stringSize_7 : decode c_JI_stringSize 7 = .ok (.istore_n 1, 1) := by decide +kernel
theorem d_JI_stringSize_8 : decode c_JI_stringSize 8 = .ok (.iload_n 0, 1) := by decide +kernel
theorem d_JI_stringSize_9 : decode c_JI_stringSize 9 = .ok (.ineg, 1) := by decide +kernel
theorem d_JI_stringSize_10 : decode c_JI_stringSize 10 = .ok (.istore_n 0, 1) := by decide +kernel
theorem d_JI_stringSize_11 : decode c_JI_stringSize 11 = .ok (.bipush (-10), 2) := by decide +kernel
theorem d_JI_stringSize_13 : decode c_JI_stringSize 13 = .ok (.istore_n 2, 1) := by decide +kernel
theorem d_JI_stringSize_14 : decode c_JI_stringSize 14 = .ok (.iconst 1, 1) := by decide +kernel
theorem d_JI_stringSize_15 : decode c_JI_stringSize 15 = .ok (.istore_n 3, 1) := by decide +kernel
theorem d_JI_stringSize_16 : decode c_JI_stringSize 16 = .ok (.iload_n 3, 1) := by decide +kernel
theorem d_JI_stringSize_17 : decode c_JI_stringSize 17 = .ok (.bipush 10, 2) := by decide +kernel
theorem d_JI_stringSize_19 : decode c_JI_stringSize 19 = .ok (.if_icmp .ge 23, 3) := by decide +kernel
theorem d_JI_stringSize_22 : decode c_JI_stringSize 22 = .ok (.iload_n 0, 1) := by decide +kernel
theorem d_JI_stringSize_23 : decode c_JI_stringSize 23 = .ok (.iload_n 2, 1) := by decide +kernel
theorem d_JI_stringSize_24 : decode c_JI_stringSize 24 = .ok (.if_icmp .le 7, 3) := by decide +kernel
theorem d_JI_stringSize_27 : decode c_JI_stringSize 27 = .ok (.iload_n 3, 1) := by decide +kernel
theorem d_JI_stringSize_28 : decode c_JI_stringSize 28 = .ok (.iload_n 1, 1) := by decide +kernel
theorem d_JI_stringSize_29 : decode c_JI_stringSize 29 = .ok (.iadd, 1) := by decide +kernel
theorem d_JI_stringSize_30 : decode c_JI_stringSize 30 = .ok (.ireturn, 1) := by decide +kernel
theorem d_JI_stringSize_31 : decode c_JI_stringSize 31 = .ok (.bipush 10, 2) := by decide +kernel
theorem d_JI_stringSize_33 : decode c_JI_stringSize 33 = .ok (.iload_n 2, 1) := by decide +kernel
theorem d_JI_stringSize_34 : decode c_JI_stringSize 34 = .ok (.imul, 1) := by decide +kernel
theorem d_JI_stringSize_35 : decode c_JI_stringSize 35 = .ok (.istore_n 2, 1) := by decide +kernel
theorem d_JI_stringSize_36 : decode c_JI_stringSize 36 = .ok (.iinc 3 1, 3) := by decide +kernel
theorem d_JI_stringSize_39 : decode c_JI_stringSize 39 = .ok (.goto (-23), 3) := by decide +kernel
theorem d_JI_stringSize_42 : decode c_JI_stringSize 42 = .ok (.bipush 10, 2) := by decide +kernel
theorem d_JI_stringSize_44 : decode c_JI_stringSize 44 = .ok (.iload_n 1, 1) := by decide +kernel
theorem d_JI_stringSize_45 : decode c_JI_stringSize 45 = .ok (.iadd, 1) := by decide +kernel
theorem d_JI_stringSize_46 : decode c_JI_stringSize 46 = .ok (.ireturn, 1) := by decide +kernel
theorem d_JM_floorDiv_III_0 : decode c_JM_floorDiv_III 0 = .ok (.iload_n 0, 1) := by decide +kernel
theorem d_JM_floorDiv_III_1 : decode c_JM_floorDiv_III 1 = .ok (.iload_n 1, 1) := by decide +kernel
theorem d_JM_floorDiv_III_2 : decode c_JM_floorDiv_III 2 = .ok (.idiv, 1) := by decide +kernel
theorem d_JM_floorDiv_III_3 : decode c_JM_floorDiv_III 3 = .ok (.istore_n 2, 1) := by decide +kernel
theorem d_JM_floorDiv_III_4 : decode c_JM_floorDiv_III 4 = .ok (.iload_n 0, 1) := by decide +kernel
theorem d_JM_floorDiv_III_5 : decode c_JM_floorDiv_III 5 = .ok (.iload_n 1, 1) := by decide +kernel
theorem d_JM_floorDiv_III_6 : decode c_JM_floorDiv_III 6 = .ok (.ixor, 1) := by decide +kernel
theorem d_JM_floorDiv_III_7 : decode c_JM_floorDiv_III 7 = .ok (.ifCond .ge 14, 3) := by decide +kernel
theorem d_JM_floorDiv_III_10 : decode c_JM_floorDiv_III 10 = .ok (.iload_n 2, 1) := by decide +kernel
theorem d_JM_floorDiv_III_11 : decode c_JM_floorDiv_III 11 = .ok (.iload_n 1, 1) := by decide +kernel
theorem d_JM_floorDiv_III_12 : decode c_JM_floorDiv_III 12 = .ok (.imul, 1) := by decide +kernel
theorem d_JM_floorDiv_III_13 : decode c_JM_floorDiv_III 13 = .ok (.iload_n 0, 1) := by decide +kernel
theorem d_JM_floorDiv_III_14 : decode c_JM_floorDiv_III 14 = .ok (.if_icmp .eq 7, 3) := by decide +kernel
theorem d_JM_floorDiv_III_17 : decode c_JM_floorDiv_III 17 = .ok (.iload_n 2, 1) := by decide +kernel
theorem d_JM_floorDiv_III_18 : decode c_JM_floorDiv_III 18 = .ok (.iconst 1, 1) := by decide +kernel
theorem d_JM_floorDiv_III_19 : decode c_JM_floorDiv_III 19 = .ok (.isub, 1) := by decide +kernel
theorem d_JM_floorDiv_III_20 : decode c_JM_floorDiv_III 20 = .ok (.ireturn, 1) := by decide +kernel
theorem d_JM_floorDiv_III_21 : decode c_JM_floorDiv_III 21 = .ok (.iload_n 2, 1) := by decide +kernel
theorem d_JM_floorDiv_III_22 : decode c_JM_floorDiv_III 22 = .ok (.ireturn, 1) := by decide +kernel
theorem d_JM_floorDiv_JJJ_0 : decode c_JM_floorDiv_JJJ 0 = .ok (.lload_n 0, 1) := by decide +kernel
theorem d_JM_floorDiv_JJJ_1 : decode c_JM_floorDiv_JJJ 1 = .ok (.lload_n 2, 1) := by decide +kernel
theorem d_JM_floorDiv_JJJ_2 : decode c_JM_floorDiv_JJJ 2 = .ok (.ldiv, 1) := by decide +kernel
theorem d_JM_floorDiv_JJJ_3 : decode c_JM_floorDiv_JJJ 3 = .ok (.lstore 4, 2) := by decide +kernel
theorem d_JM_floorDiv_JJJ_5 : decode c_JM_floorDiv_JJJ 5 = .ok (.lload_n 0, 1) := by decide +kernel
theorem d_JM_floorDiv_JJJ_6 : decode c_JM_floorDiv_JJJ 6 = .ok (.lload_n 2, 1) := by decide +kernel
theorem d_JM_floorDiv_JJJ_7 : decode c_JM_floorDiv_JJJ 7 = .ok (.lxor, 1) := by decide +kernel
theorem d_JM_floorDiv_JJJ_8 : decode c_JM_floorDiv_JJJ 8 = .ok (.lconst 0, 1) := by decide +kernel
theorem d_JM_floorDiv_JJJ_9 : decode c_JM_floorDiv_JJJ 9 = .ok (.lcmp, 1) := by decide +kernel
theorem d_JM_floorDiv_JJJ_10 : decode c_JM_floorDiv_JJJ 10 = .ok (.ifCond .ge 17, 3) := by decide +kernel
theorem d_JM_floorDiv_JJJ_13 : decode c_JM_floorDiv_JJJ 13 = .ok (.lload 4, 2) := by decide +kernel
theorem d_JM_floorDiv_JJJ_15 : decode c_JM_floorDiv_JJJ 15 = .ok (.lload_n 2, 1) := by decide +kernel
theorem d_JM_floorDiv_JJJ_16 : decode c_JM_floorDiv_JJJ 16 = .ok (.lmul, 1) := by decide +kernel
theorem d_JM_floorDiv_JJJ_17 : decode c_JM_floorDiv_JJJ 17 = .ok (.lload_n 0, 1) := by decide +kernel
theorem d_JM_floorDiv_JJJ_18 : decode c_JM_floorDiv_JJJ 18 = .ok (.lcmp, 1) := by decide +kernel
theorem d_JM_floorDiv_JJJ_19 : decode c_JM_floorDiv_JJJ 19 = .ok (.ifCond .eq 8, 3) := by decide +kernel
theorem d_JM_floorDiv_JJJ_22 : decode c_JM_floorDiv_JJJ 22 = .ok (.lload 4, 2) := by decide +kernel
theorem d_JM_floorDiv_JJJ_24 : decode c_JM_floorDiv_JJJ 24 = .ok (.lconst 1, 1) := by decide +kernel
theorem d_JM_floorDiv_JJJ_25 : decode c_JM_floorDiv_JJJ 25 = .ok (.lsub, 1) := by decide +kernel
theorem d_JM_floorDiv_JJJ_26 : decode c_JM_floorDiv_JJJ 26 = .ok (.lreturn, 1) := by decide +kernel
theorem d_JM_floorDiv_JJJ_27 : decode c_JM_floorDiv_JJJ 27 = .ok (.lload 4, 2) := by decide +kernel
theorem d_JM_floorDiv_JJJ_29 : decode c_JM_floorDiv_JJJ 29 = .ok (.lreturn, 1) := by decide +kernel
theorem d_JM_floorMod_III_0 : decode c_JM_floorMod_III 0 = .ok (.iload_n 0, 1) := by decide +kernel
theorem d_JM_floorMod_III_1 : decode c_JM_floorMod_III 1 = .ok (.iload_n 1, 1) := by decide +kernel
theorem d_JM_floorMod_III_2 : decode c_JM_floorMod_III 2 = .ok (.irem, 1) := by decide +kernel
theorem d_JM_floorMod_III_3 : decode c_JM_floorMod_III 3 = .ok (.istore_n 2, 1) := by decide +kernel
theorem d_JM_floorMod_III_4 : decode c_JM_floorMod_III 4 = .ok (.iload_n 0, 1) := by decide +kernel
theorem d_JM_floorMod_III_5 : decode c_JM_floorMod_III 5 = .ok (.iload_n 1, 1) := by decide +kernel
theorem d_JM_floorMod_III_6 : decode c_JM_floorMod_III 6 = .ok (.ixor, 1) := by decide +kernel
theorem d_JM_floorMod_III_7 : decode c_JM_floorMod_III 7 = .ok (.ifCond .ge 11, 3) := by decide +kernel
theorem d_JM_floorMod_III_10 : decode c_JM_floorMod_III 10 = .ok (.iload_n 2, 1) := by decide +kernel
theorem d_JM_floorMod_III_11 : decode c_JM_floorMod_III 11 = .ok (.ifCond .eq 7, 3) := by decide +kernel
theorem d_JM_floorMod_III_14 : decode c_JM_floorMod_III 14 = .ok (.iload_n 2, 1) := by decide +kernel
theorem d_JM_floorMod_III_15 : decode c_JM_floorMod_III 15 = .ok (.iload_n 1, 1) := by decide +kernel
theorem d_JM_floorMod_III_16 : decode c_JM_floorMod_III 16 = .ok (.iadd, 1) := by decide +kernel
theorem d_JM_floorMod_III_17 : decode c_JM_floorMod_III 17 = .ok (.ireturn, 1) := by decide +kernel
theorem d_JM_floorMod_III_18 : decode c_JM_floorMod_III 18 = .ok (.iload_n 2, 1) := by decide +kernel
theorem d_JM_floorMod_III_19 : decode c_JM_floorMod_III 19 = .ok (.ireturn, 1) := by decide +kernel
theorem d_JM_floorMod_JJJ_0 : decode c_JM_floorMod_JJJ 0 = .ok (.lload_n 0, 1) := by decide +kernel
theorem d_JM_floorMod_JJJ_1 : decode c_JM_floorMod_JJJ 1 = .ok (.lload_n 2, 1) := by decide +kernel
theorem d_JM_floorMod_JJJ_2 : decode c_JM_floorMod_JJJ 2 = .ok (.lrem, 1) := by decide +kernel
theorem d_JM_floorMod_JJJ_3 : decode c_JM_floorMod_JJJ 3 = .ok (.lstore 4, 2) := by decide +kernel
theorem d_JM_floorMod_JJJ_5 : decode c_JM_floorMod_JJJ 5 = .ok (.lload_n 0, 1) := by decide +kernel
theorem d_JM_floorMod_JJJ_6 : decode c_JM_floorMod_JJJ 6 = .ok (.lload_n 2, 1) := by decide +kernel
theorem d_JM_floorMod_JJJ_7 : decode c_JM_floorMod_JJJ 7 = .ok (.lxor, 1) := by decide +kernel
theorem d_JM_floorMod_JJJ_8 : decode c_JM_floorMod_JJJ 8 = .ok (.lconst 0, 1) := by decide +kernel
theorem d_JM_floorMod_JJJ_9 : decode c_JM_floorMod_JJJ 9 = .ok (.lcmp, 1) := by decide +kernel
theorem d_JM_floorMod_JJJ_10 : decode c_JM_floorMod_JJJ 10 = .ok (.ifCond .ge 15, 3) := by decide +kernel
theorem d_JM_floorMod_JJJ_13 : decode c_JM_floorMod_JJJ 13 = .ok (.lload 4, 2) := by decide +kernel
theorem d_JM_floorMod_JJJ_15 : decode c_JM_floorMod_JJJ 15 = .ok (.lconst 0, 1) := by decide +kernel
theorem d_JM_floorMod_JJJ_16 : decode c_JM_floorMod_JJJ 16 = .ok (.lcmp, 1) := by decide +kernel
theorem d_JM_floorMod_JJJ_17 : decode c_JM_floorMod_JJJ 17 = .ok (.ifCond .eq 8, 3) := by decide +kernel
theorem d_JM_floorMod_JJJ_20 : decode c_JM_floorMod_JJJ 20 = .ok (.lload 4, 2) := by decide +kernel
theorem d_JM_floorMod_JJJ_22 : decode c_JM_floorMod_JJJ 22 = .ok (.lload_n 2, 1) := by decide +kernel
theorem d_JM_floorMod_JJJ_23 : decode c_JM_floorMod_JJJ 23 = .ok (.ladd, 1) := by decide +kernel
theorem d_JM_floorMod_JJJ_24 : decode c_JM_floorMod_JJJ 24 = .ok (.lreturn, 1) := by decide +kernel
theorem d_JM_floorMod_JJJ_25 : decode c_JM_floorMod_JJJ 25 = .ok (.lload 4, 2) := by decide +kernel
theorem d_JM_floorMod_JJJ_27 : decode c_JM_floorMod_JJJ 27 = .ok (.lreturn, 1) := by decide +kernel
theorem d_JM_max_0 : decode c_JM_max 0 = .ok (.iload_n 0, 1) := by decide +kernel
theorem d_JM_max_1 : decode c_JM_max 1 = .ok (.iload_n 1, 1) := by decide +kernel
theorem d_JM_max_2 : decode c_JM_max 2 = .ok (.if_icmp .lt 7, 3) := by decide +kernel
theorem d_JM_max_5 : decode c_JM_max 5 = .ok (.iload_n 0, 1) := by decide +kernel
theorem d_JM_max_6 : decode c_JM_max 6 = .ok (.goto 4, 3) := by decide +kernel
theorem d_JM_max_9 : decode c_JM_max 9 = .ok (.iload_n 1, 1) := by decide +kernel
theorem d_JM_max_10 : decode c_JM_max 10 = .ok (.ireturn, 1) := by decide +kernel
theorem d_JM_min_0 : decode c_JM_min 0 = .ok (.iload_n 0, 1) := by decide +kernel
theorem d_JM_min_1 : decode c_JM_min 1 = .ok (.iload_n 1, 1) := by decide +kernel
theorem d_JM_min_2 : decode c_JM_min 2 = .ok (.if_icmp .gt 7, 3) := by decide +kernel
theorem d_JM_min_5 : decode c_JM_min 5 = .ok (.iload_n 0, 1) := by decide +kernel
theorem d_JM_min_6 : decode c_JM_min 6 = .ok (.goto 4, 3) := by decide +kernel
theorem d_JM_min_9 : decode c_JM_min 9 = .ok (.iload_n 1, 1) := by decide +kernel
theorem d_JM_min_10 : decode c_JM_min 10 = .ok (.ireturn, 1) := by decide +kernel
theorem d_JQ_init_0 : decode c_JQ_init 0 = .ok (.return_, 1) := by decide +kernel
theorem d_JR_init_0 : decode c_JR_init 0 = .ok (.aload_n 0, 1) := by decide +kernel
theorem d_JR_init_1 : decode c_JR_init 1 = .ok (.invokespecial 1, 3) := by decide +kernel
theorem d_JR_init_4 : decode c_JR_init 4 = .ok (.return_, 1) := by decide +kernel
theorem d_JS_checkBoundsBeginEnd_0 : decode c_JS_checkBoundsBeginEnd 0 = .ok (.iload_n 0, 1) := by decide +kernel
theorem d_JS_checkBoundsBeginEnd_1 : decode c_JS_checkBoundsBeginEnd 1 = .ok (.iload_n 1, 1) := by decide +kernel
theorem d_JS_checkBoundsBeginEnd_2 : decode c_JS_checkBoundsBeginEnd 2 = .ok (.iload_n 2, 1) := by decide +kernel
theorem d_JS_checkBoundsBeginEnd_3 : decode c_JS_checkBoundsBeginEnd 3 = .ok (.getstatic 1053, 3) := by decide +kernel
theorem d_JS_checkBoundsBeginEnd_6 : decode c_JS_checkBoundsBeginEnd 6 = .ok (.invokestatic 1062, 3) := by decide +kernel
theorem d_JS_checkBoundsBeginEnd_9 : decode c_JS_checkBoundsBeginEnd 9 = .ok (.pop, 1) := by decide +kernel
theorem d_JS_checkBoundsBeginEnd_10 : decode c_JS_checkBoundsBeginEnd 10 = .ok (.return_, 1) := by decide +kernel
theorem d_JS_checkBoundsOffCount_0 : decode c_JS_checkBoundsOffCount 0 = .ok (.iload_n 0, 1) := by decide +kernel
theorem d_JS_checkBoundsOffCount_1 : decode c_JS_checkBoundsOffCount 1 = .ok (.iload_n 1, 1) := by decide +kernel
theorem d_JS_checkBoundsOffCount_2 : decode c_JS_checkBoundsOffCount 2 = .ok (.iload_n 2, 1) := by decide +kernel
theorem d_JS_checkBoundsOffCount_3 : decode c_JS_checkBoundsOffCount 3 = .ok (.getstatic 1053, 3) := by decide +kernel
theorem d_JS_checkBoundsOffCount_6 : decode c_JS_checkBoundsOffCount 6 = .ok (.invokestatic 1065, 3) := by decide +kernel
theorem d_JS_checkBoundsOffCount_9 : decode c_JS_checkBoundsOffCount 9 = .ok (.ireturn, 1) := by decide +kernel
theorem d_JS_checkIndex_0 : decode c_JS_checkIndex 0 = .ok (.iload_n 0, 1) := by decide +kernel
theorem d_JS_checkIndex_1 : decode c_JS_checkIndex 1 = .ok (.iload_n 1, 1) := by decide +kernel
theorem d_JS_checkIndex_2 : decode c_JS_checkIndex 2 = .ok (.getstatic 1053, 3) := by decide +kernel
theorem d_JS_checkIndex_5 : decode c_JS_checkIndex 5 = .ok (.invokestatic 1059, 3) := by decide +kernel
theorem d_JS_checkIndex_8 : decode c_JS_checkIndex 8 = .ok (.pop, 1) := by decide +kernel
theorem d_JS_checkIndex_9 : decode c_JS_checkIndex 9 = .ok (.return_, 1) := by decide +kernel
theorem d_JB_init_0 : decode c_JB_init 0 = .ok (.aload_n 0, 1) := by decide +kernel
theorem d_JB_init_1 : decode c_JB_init 1 = .ok (.bipush 16, 2) := by decide +kernel
theorem d_JB_init_3 : decode c_JB_init 3 = .ok (.invokespecial 1, 3) := by decide +kernel
theorem d_JB_init_6 : decode c_JB_init 6 = .ok (.return_, 1) := by decide +kernel
theorem d_JB_append_CStringBuilder_0 : decode c_JB_append_CStringBuilder 0 = .ok (.aload_n 0, 1) := by decide +kernel
theorem d_JB_append_CStringBuilder_1 : decode c_JB_append_CStringBuilder 1 = .ok (.iload_n 1, 1) := by decide +kernel
theorem d_JB_append_CStringBuilder_2 : decode c_JB_append_CStringBuilder 2 = .ok (.invokespecial 50, 3) := by decide +kernel
theorem d_JB_append_CStringBuilder_5 : decode c_JB_append_CStringBuilder 5 = .ok (.pop, 1) := by decide +kernel
theorem d_JB_append_CStringBuilder_6 : decode c_JB_append_CStringBuilder 6 = .ok (.aload_n 0, 1) := by decide +kernel
theorem d_JB_append_CStringBuilder_7 : decode c_JB_append_CStringBuilder 7 = .ok (.areturn, 1) := by decide +kernel
theorem d_JB_append_IStringBuilder_0 : decode c_JB_append_IStringBuilder 0 = .ok (.aload_n 0, 1) := by decide +kernel
theorem d_JB_append_IStringBuilder_1 : decode c_JB_append_IStringBuilder 1 = .ok (.iload_n 1, 1) := by decide +kernel
theorem d_JB_append_IStringBuilder_2 : decode c_JB_append_IStringBuilder 2 = .ok (.invokespecial 53, 3) := by decide +kernel
theorem d_JB_append_IStringBuilder_5 : decode c_JB_append_IStringBuilder 5 = .ok (.pop, 1) := by decide +kernel
theorem d_JB_append_IStringBuilder_6 : decode c_JB_append_IStringBuilder 6 = .ok (.aload_n 0, 1) := by decide +kernel
theorem d_JB_append_IStringBuilder_7 : decode c_JB_append_IStringBuilder 7 = .ok (.areturn, 1) := by decide +kernel
theorem d_JB_charAt_0 : decode c_JB_charAt 0 = .ok (.aload_n 0, 1) := by decide +kernel
theorem d_JB_charAt_1 : decode c_JB_charAt 1 = .ok (.iload_n 1, 1) := by decide +kernel
theorem d_JB_charAt_2 : decode c_JB_charAt 2 = .ok (.invokespecial 329, 3) := by decide +kernel
theorem d_JB_charAt_5 : decode c_JB_charAt 5 = .ok (.ireturn, 1) := by decide +kernel
theorem d_JB_length_0 : decode c_JB_length 0 = .ok (.aload_n 0, 1) := by decide +kernel
theorem d_JB_length_1 : decode c_JB_length 1 = .ok (.invokespecial 343, 3) := by decide +kernel
theorem d_JB_length_4 : decode c_JB_length 4 = .ok (.ireturn, 1) := by decide +kernel
theorem d_JB_setLength_0 : decode c_JB_setLength 0 = .ok (.aload_n 0, 1) := by decide +kernel
theorem d_JB_setLength_1 : decode c_JB_setLength 1 = .ok (.iload_n 1, 1) := by decide +kernel
theorem d_JB_setLength_2 : decode c_JB_setLength 2 = .ok (.invokespecial 333, 3) := by decide +kernel
theorem d_JB_setLength_5 : decode c_JB_setLength 5 = .ok (.return_, 1) := by decide +kernel
theorem d_JL_canEncode_0 : decode c_JL_canEncode 0 = .ok (.iload_n 0, 1) := by decide +kernel
theorem d_JL_canEncode_1 : decode c_JL_canEncode 1 = .ok (.sipush 255, 3) := by decide +kernel
theorem d_JL_canEncode_4 : decode c_JL_canEncode 4 = .ok (.if_icmp .gt 7, 3) := by decide +kernel
theorem d_JL_canEncode_7 : decode c_JL_canEncode 7 = .ok (.iconst 1, 1) := by decide +kernel
theorem d_JL_canEncode_8 : decode c_JL_canEncode 8 = .ok (.goto 4, 3) := by decide +kernel
theorem d_JL_canEncode_11 : decode c_JL_canEncode 11 = .ok (.iconst 0, 1) := by decide +kernel
theorem d_JL_canEncode_12 : decode c_JL_canEncode 12 = .ok (.ireturn, 1) := by decide +kernel
theorem d_JL_fillNull_0 : decode c_JL_fillNull 0 = .ok (.aload_n 0, 1) := by decide +kernel
theorem d_JL_fillNull_1 : decode c_JL_fillNull 1 = .ok (.iload_n 1, 1) := by decide +kernel
theorem d_JL_fillNull_2 : decode c_JL_fillNull 2 = .ok (.iload_n 2, 1) := by decide +kernel
theorem d_JL_fillNull_3 : decode c_JL_fillNull 3 = .ok (.iconst 0, 1) := by decide +kernel
theorem d_JL_fillNull_4 : decode c_JL_fillNull 4 = .ok (.invokestatic 236, 3) := by decide +kernel
theorem d_JL_fillNull_7 : decode c_JL_fillNull 7 = .ok (.return_, 1) := by decide +kernel
theorem d_JL_inflate_0 : decode c_JL_inflate 0 = .ok (.aload_n 0, 1) := by decide +kernel
theorem d_JL_inflate_1 : decode c_JL_inflate 1 = .ok (.iload_n 1, 1) := by decide +kernel
theorem d_JL_inflate_2 : decode c_JL_inflate 2 = .ok (.aload_n 2, 1) := by decide +kernel
theorem d_JL_inflate_3 : decode c_JL_inflate 3 = .ok (.iload_n 3, 1) := by decide +kernel
theorem d_JL_inflate_4 : decode c_JL_inflate 4 = .ok (.iload 4, 2) := by decide +kernel
theorem d_JL_inflate_6 : decode c_JL_inflate 6 = .ok (.invokestatic 240, 3) := by decide +kernel
theorem d_JL_inflate_9 : decode c_JL_inflate 9 = .ok (.return_, 1) := by decide +kernel
theorem d_JU_checkBoundsBeginEnd_0 : decode c_JU_checkBoundsBeginEnd 0 = .ok (.iload_n 0, 1) := by decide +kernel
theorem d_JU_checkBoundsBeginEnd_1 : decode c_JU_checkBoundsBeginEnd 1 = .ok (.iload_n 1, 1) := by decide +kernel
theorem d_JU_checkBoundsBeginEnd_2 : decode c_JU_checkBoundsBeginEnd 2 = .ok (.aload_n 2, 1) := by decide +kernel
theorem d_JU_checkBoundsBeginEnd_3 : decode c_JU_checkBoundsBeginEnd 3 = .ok (.invokestatic 48, 3) := by decide +kernel
theorem d_JU_checkBoundsBeginEnd_6 : decode c_JU_checkBoundsBeginEnd 6 = .ok (.invokestatic 241, 3) := by decide +kernel
theorem d_JU_checkBoundsBeginEnd_9 : decode c_JU_checkBoundsBeginEnd 9 = .ok (.return_, 1) := by decide +kernel
theorem d_JU_checkBoundsOffCount_0 : decode c_JU_checkBoundsOffCount 0 = .ok (.iload_n 0, 1) := by decide +kernel
theorem d_JU_checkBoundsOffCount_1 : decode c_JU_checkBoundsOffCount 1 = .ok (.iload_n 1, 1) := by decide +kernel
theorem d_JU_checkBoundsOffCount_2 : decode c_JU_checkBoundsOffCount 2 = .ok (.aload_n 2, 1) := by decide +kernel
theorem d_JU_checkBoundsOffCount_3 : decode c_JU_checkBoundsOffCount 3 = .ok (.invokestatic 48, 3) := by decide +kernel
theorem d_JU_checkBoundsOffCount_6 : decode c_JU_checkBoundsOffCount 6 = .ok (.invokestatic 419, 3) := by decide +kernel
theorem d_JU_checkBoundsOffCount_9 : decode c_JU_checkBoundsOffCount 9 = .ok (.pop, 1) := by decide +kernel
theorem d_JU_checkBoundsOffCount_10 : decode c_JU_checkBoundsOffCount 10 = .ok (.return_, 1) := by decide +kernel
theorem d_JU_checkIndex_0 : decode c_JU_checkIndex 0 = .ok (.iload_n 0, 1) := by decide +kernel
theorem d_JU_checkIndex_1 : decode c_JU_checkIndex 1 = .ok (.aload_n 1, 1) := by decide +kernel
theorem d_JU_checkIndex_2 : decode c_JU_checkIndex 2 = .ok (.invokestatic 48, 3) := by decide +kernel
theorem d_JU_checkIndex_5 : decode c_JU_checkIndex 5 = .ok (.invokestatic 414, 3) := by decide +kernel
theorem d_JU_checkIndex_8 : decode c_JU_checkIndex 8 = .ok (.return_, 1) := by decide +kernel
theorem d_JU_fillNull_0 : decode c_JU_fillNull 0 = .ok (.aload_n 0, 1) := by decide +kernel
theorem d_JU_fillNull_1 : decode c_JU_fillNull 1 = .ok (.iload_n 1, 1) := by decide +kernel
theorem d_JU_fillNull_2 : decode c_JU_fillNull 2 = .ok (.iconst 1, 1) := by decide +kernel
theorem d_JU_fillNull_3 : decode c_JU_fillNull 3 = .ok (.ishl, 1) := by decide +kernel
theorem d_JU_fillNull_4 : decode c_JU_fillNull 4 = .ok (.iload_n 2, 1) := by decide +kernel
theorem d_JU_fillNull_5 : decode c_JU_fillNull 5 = .ok (.iconst 1, 1) := by decide +kernel
theorem d_JU_fillNull_6 : decode c_JU_fillNull 6 = .ok (.ishl, 1) := by decide +kernel
theorem d_JU_fillNull_7 : decode c_JU_fillNull 7 = .ok (.iconst 0, 1) := by decide +kernel
theorem d_JU_fillNull_8 : decode c_JU_fillNull 8 = .ok (.invokestatic 380, 3) := by decide +kernel
theorem d_JU_fillNull_11 : decode c_JU_fillNull 11 = .ok (.return_, 1) := by decide +kernel
theorem d_JU_getChar_0 : decode c_JU_getChar 0 = .ok (.getstatic 44, 3) := by decide +kernel
theorem d_JU_getChar_3 : decode c_JU_getChar 3 = .ok (.ifCond .ne 25, 3) := by decide +kernel
theorem d_JU_getChar_6 : decode c_JU_getChar 6 = .ok (.iload_n 1, 1) := by decide +kernel
theorem d_JU_getChar_7 : decode c_JU_getChar 7 = .ok (.ifCond .lt 11, 3) := by decide +kernel
theorem d_JU_getChar_10 : decode c_JU_getChar 10 = .ok (.iload_n 1, 1) := by decide +kernel
theorem d_JU_getChar_11 : decode c_JU_getChar 11 = .ok (.aload_n 0, 1) := by decide +kernel
theorem d_JU_getChar_12 : decode c_JU_getChar 12 = .ok (.invokestatic 48, 3) := by decide +kernel
theorem d_JU_getChar_15 : decode c_JU_getChar 15 = .ok (.if_icmp .lt 13, 3) := by decide +kernel
theorem d_JU_getChar_18 : decode c_JU_getChar 18 = .ok (.new 52, 3) := by decide +kernel
theorem d_JU_getChar_21 : decode c_JU_getChar 21 = .ok (.dup, 1) := by decide +kernel
theorem d_JU_getChar_22 : decode c_JU_getChar 22 = .ok (.ldc 54, 2) := by decide +kernel
theorem d_JU_getChar_24 : decode c_JU_getChar 24 = .ok (.invokespecial 56, 3) := by decide +kernel
theorem d_JU_getChar_27 : decode c_JU_getChar 27 = .ok (.athrow, 1) := by decide +kernel
theorem d_JU_getChar_28 : decode c_JU_getChar 28 = .ok (.iload_n 1, 1) := by decide +kernel
theorem d_JU_getChar_29 : decode c_JU_getChar 29 = .ok (.iconst 1, 1) := by decide +kernel
theorem d_JU_getChar_30 : decode c_JU_getChar 30 = .ok (.ishl, 1) := by decide +kernel
theorem d_JU_getChar_31 : decode c_JU_getChar 31 = .ok (.istore_n 1, 1) := by decide +kernel
theorem d_JU_getChar_32 : decode c_JU_getChar 32 = .ok (.aload_n 0, 1) := by decide +kernel
theorem d_JU_getChar_33 : decode c_JU_getChar 33 = .ok (.iload_n 1, 1) := by decide +kernel
theorem d_JU_getChar_34 : decode c_JU_getChar 34 = .ok (.iinc 1 1, 3) := by decide +kernel
theorem d_JU_getChar_37 : decode c_JU_getChar 37 = .ok (.baload, 1) := by decide +kernel
theorem d_JU_getChar_38 : decode c_JU_getChar 38 = .ok (.sipush 255, 3) := by decide +kernel
theorem d_JU_getChar_41 : decode c_JU_getChar 41 = .ok (.iand, 1) := by decide +kernel
theorem d_JU_getChar_42 : decode c_JU_getChar 42 = .ok (.getstatic 59, 3) := by decide +kernel
theorem d_JU_getChar_45 : decode c_JU_getChar 45 = .ok (.ishl, 1) := by decide +kernel
theorem d_JU_getChar_46 : decode c_JU_getChar 46 = .ok (.aload_n 0, 1) := by decide +kernel
theorem d_JU_getChar_47 : decode c_JU_getChar 47 = .ok (.iload_n 1, 1) := by decide +kernel
theorem d_JU_getChar_48 : decode c_JU_getChar 48 = .ok (.baload, 1) := by decide +kernel
theorem d_JU_getChar_49 : decode c_JU_getChar 49 = .ok (.sipush 255, 3) := by decide +kernel
theorem d_JU_getChar_52 : decode c_JU_getChar 52 = .ok (.iand, 1) := by decide +kernel
theorem d_JU_getChar_53 : decode c_JU_getChar 53 = .ok (.getstatic 63, 3) := by decide +kernel
theorem d_JU_getChar_56 : decode c_JU_getChar 56 = .ok (.ishl, 1) := by decide +kernel
theorem d_JU_getChar_57 : decode c_JU_getChar 57 = .ok (.ior, 1) := by decide +kernel
theorem d_JU_getChar_58 : decode c_JU_getChar 58 = .ok (.i2c, 1) := by decide +kernel
theorem d_JU_getChar_59 : decode c_JU_getChar 59 = .ok (.ireturn, 1) := by decide +kernel
theorem d_JU_getChars_IIIBI_0 : decode c_JU_getChars_IIIBI 0 = .ok (.iload_n 1, 1) := by decide +kernel
theorem d_JU_getChars_IIIBI_1 : decode c_JU_getChars_IIIBI 1 = .ok (.iload_n 2, 1) := by decide +kernel
theorem d_JU_getChars_IIIBI_2 : decode c_JU_getChars_IIIBI 2 = .ok (.aload_n 3, 1) := by decide +kernel
theorem d_JU_getChars_IIIBI_3 : decode c_JU_getChars_IIIBI 3 = .ok (.invokestatic 96, 3) := by decide +kernel
theorem d_JU_getChars_IIIBI_6 : decode c_JU_getChars_IIIBI 6 = .ok (.iload_n 0, 1) := by decide +kernel
theorem d_JU_getChars_IIIBI_7 : decode c_JU_getChars_IIIBI 7 = .ok (.iload_n 2, 1) := by decide +kernel
theorem d_JU_getChars_IIIBI_8 : decode c_JU_getChars_IIIBI 8 = .ok (.aload_n 3, 1) := by decide +kernel
theorem d_JU_getChars_IIIBI_9 : decode c_JU_getChars_IIIBI 9 = .ok (.invokestatic 393, 3) := by decide +kernel
theorem d_JU_getChars_IIIBI_12 : decode c_JU_getChars_IIIBI 12 = .ok (.istore 4, 2) := by decide +kernel
theorem d_JU_getChars_IIIBI_14 : decode c_JU_getChars_IIIBI 14 = .ok (.getstatic 44, 3) := by decide +kernel
theorem d_JU_getChars_IIIBI_17 : decode c_JU_getChars_IIIBI 17 = .ok (.ifCond .ne 17, 3) := by decide +kernel
theorem d_JU_getChars_IIIBI_20 : decode c_JU_getChars_IIIBI 20 = .ok (.iload_n 1, 1) := by decide +kernel
theorem d_JU_getChars_IIIBI_21 : decode c_JU_getChars_IIIBI 21 = .ok (.iload 4, 2) := by decide +kernel
theorem d_JU_getChars_IIIBI_23 : decode c_JU_getChars_IIIBI 23 = .ok (.if_icmp .eq 11, 3) := by decide +kernel
theorem d_JU_getChars_IIIBI_26 : decode c_JU_getChars_IIIBI 26 = .ok (.new 52, 3) := by decide +kernel
theorem d_JU_getChars_IIIBI_29 : decode c_JU_getChars_IIIBI 29 = .ok (.dup, 1) := by decide +kernel
theorem d_JU_getChars_IIIBI_30 : decode c_JU_getChars_IIIBI 30 = .ok (.invokespecial 66, 3) := by decide +kernel
theorem d_JU_getChars_IIIBI_33 : decode c_JU_getChars_IIIBI 33 = .ok (.athrow, 1) := by decide +kernel
theorem d_JU_getChars_IIIBI_34 : decode c_JU_getChars_IIIBI 34 = .ok (.iload 4, 2) := by decide +kernel
theorem d_JU_getChars_IIIBI_36 : decode c_JU_getChars_IIIBI 36 = .ok (.ireturn, 1) := by decide +kernel
theorem d_JU_getChars_IIBI_0 : decode c_JU_getChars_IIBI 0 = .ok (.iload_n 1, 1) := by decide +kernel
theorem d_JU_getChars_IIBI_1 : decode c_JU_getChars_IIBI 1 = .ok (.istore 5, 2) := by decide +kernel
theorem d_JU_getChars_IIBI_3 : decode c_JU_getChars_IIBI 3 = .ok (.iload_n 0, 1) := by decide +kernel
theorem d_JU_getChars_IIBI_4 : decode c_JU_getChars_IIBI 4 = .ok (.ifCond .ge 7, 3) := by decide +kernel
theorem d_JU_getChars_IIBI_7 : decode c_JU_getChars_IIBI 7 = .ok (.iconst 1, 1) := by decide +kernel
theorem d_JU_getChars_IIBI_8 : decode c_JU_getChars_IIBI 8 = .ok (.goto 4, 3) := by decide +kernel
theorem d_JU_getChars_IIBI_11 : decode c_JU_getChars_IIBI 11 = .ok (.iconst 0, 1) := by decide +kernel
theorem d_JU_getChars_IIBI_12 : decode c_JU_getChars_IIBI 12 = .ok (.istore 6, 2) := by decide +kernel
theorem d_JU_getChars_IIBI_14 : decode c_JU_getChars_IIBI 14 = .ok (.iload 6, 2) := by decide +kernel
theorem d_JU_getChars_IIBI_16 : decode c_JU_getChars_IIBI 16 = .ok (.ifCond .ne 6, 3) := by decide +kernel
theorem d_JU_getChars_IIBI_19 : decode c_JU_getChars_IIBI 19 = .ok (.iload_n 0, 1) := by decide +kernel
theorem d_JU_getChars_IIBI_20 : decode c_JU_getChars_IIBI 20 = .ok (.ineg, 1) := by decide +kernel
theorem d_JU_getChars_IIBI_21 : decode c_JU_getChars_IIBI 21 = .ok (.istore_n 0, 1) := by decide +kernel
theorem d_JU_getChars_IIBI_22 : decode c_JU_getChars_IIBI 22 = .ok (.iload_n 0, 1) := by decide +kernel
theorem d_JU_getChars_IIBI_23 : decode c_JU_getChars_IIBI 23 = .ok (.bipush (-100), 2) := by decide +kernel
theorem d_JU_getChars_IIBI_25 : decode c_JU_getChars_IIBI 25 = .ok (.if_icmp .gt 51, 3) := by decide +kernel
theorem d_JU_getChars_IIBI_28 : decode c_JU_getChars_IIBI 28 = .ok (.iload_n 0, 1) := by decide +kernel
theorem d_JU_getChars_IIBI_29 : decode c_JU_getChars_IIBI 29 = .ok (.bipush 100, 2) := by decide +kernel
theorem d_JU_getChars_IIBI_31 : decode c_JU_getChars_IIBI 31 = .ok (.idiv, 1) := by decide +kernel
theorem d_JU_getChars_IIBI_32 : decode c_JU_getChars_IIBI 32 = .ok (.istore_n 3, 1) := by decide +kernel
theorem d_JU_getChars_IIBI_33 : decode c_JU_getChars_IIBI 33 = .ok (.iload_n 3, 1) := by decide +kernel
theorem d_JU_getChars_IIBI_34 : decode c_JU_getChars_IIBI 34 = .ok (.bipush 100, 2) := by decide +kernel
theorem d_JU_getChars_IIBI_36 : decode c_JU_getChars_IIBI 36 = .ok (.imul, 1) := by decide +kernel
theorem d_JU_getChars_IIBI_37 : decode c_JU_getChars_IIBI 37 = .ok (.iload_n 0, 1) := by decide +kernel
theorem d_JU_getChars_IIBI_38 : decode c_JU_getChars_IIBI 38 = .ok (.isub, 1) := by decide +kernel
theorem d_JU_getChars_IIBI_39 : decode c_JU_getChars_IIBI 39 = .ok (.istore 4, 2) := by decide +kernel
theorem d_JU_getChars_IIBI_41 : decode c_JU_getChars_IIBI 41 = .ok (.iload_n 3, 1) := by decide +kernel
theorem d_JU_getChars_IIBI_42 : decode c_JU_getChars_IIBI 42 = .ok (.istore_n 0, 1) := by decide +kernel
theorem d_JU_getChars_IIBI_43 : decode c_JU_getChars_IIBI 43 = .ok (.aload_n 2, 1) := by decide +kernel
theorem d_JU_getChars_IIBI_44 : decode c_JU_getChars_IIBI 44 = .ok (.iinc 5 (-1), 3) := by decide +kernel
theorem d_JU_getChars_IIBI_47 : decode c_JU_getChars_IIBI 47 = .ok (.iload 5, 2) := by decide +kernel
theorem d_JU_getChars_IIBI_49 : decode c_JU_getChars_IIBI 49 = .ok (.getstatic 403, 3) := by decide +kernel
theorem d_JU_getChars_IIBI_52 : decode c_JU_getChars_IIBI 52 = .ok (.iload 4, 2) := by decide +kernel
theorem d_JU_getChars_IIBI_54 : decode c_JU_getChars_IIBI 54 = .ok (.baload, 1) := by decide +kernel
theorem d_JU_getChars_IIBI_55 : decode c_JU_getChars_IIBI 55 = .ok (.invokestatic 111, 3) := by decide +kernel
theorem d_JU_getChars_IIBI_58 : decode c_JU_getChars_IIBI 58 = .ok (.aload_n 2, 1) := by decide +kernel
theorem d_JU_getChars_IIBI_59 : decode c_JU_getChars_IIBI 59 = .ok (.iinc 5 (-1), 3) := by decide +kernel
theorem d_JU_getChars_IIBI_62 : decode c_JU_getChars_IIBI 62 = .ok (.iload 5, 2) := by decide +kernel
theorem d_JU_getChars_IIBI_64 : decode c_JU_getChars_IIBI 64 = .ok (.getstatic 407, 3) := by decide +kernel
theorem d_JU_getChars_IIBI_67 : decode c_JU_getChars_IIBI 67 = .ok (.iload 4, 2) := by decide +kernel
theorem d_JU_getChars_IIBI_69 : decode c_JU_getChars_IIBI 69 = .ok (.baload, 1) := by decide +kernel
theorem d_JU_getChars_IIBI_70 : decode c_JU_getChars_IIBI 70 = .ok (.invokestatic 111, 3) := by decide +kernel
theorem d_JU_getChars_IIBI_73 : decode c_JU_getChars_IIBI 73 = .ok (.goto (-51), 3) := by decide +kernel
theorem d_JU_getChars_IIBI_76 : decode c_JU_getChars_IIBI 76 = .ok (.aload_n 2, 1) := by decide +kernel
theorem d_JU_getChars_IIBI_77 : decode c_JU_getChars_IIBI 77 = .ok (.iinc 5 (-1), 3) := by decide +kernel
theorem d_JU_getChars_IIBI_80 : decode c_JU_getChars_IIBI 80 = .ok (.iload 5, 2) := by decide +kernel
theorem d_JU_getChars_IIBI_82 : decode c_JU_getChars_IIBI 82 = .ok (.getstatic 403, 3) := by decide +kernel
theorem d_JU_getChars_IIBI_85 : decode c_JU_getChars_IIBI 85 = .ok (.iload_n 0, 1) := by decide +kernel
theorem d_JU_getChars_IIBI_86 : decode c_JU_getChars_IIBI 86 = .ok (.ineg, 1) := by decide +kernel
theorem d_JU_getChars_IIBI_87 : decode c_JU_getChars_IIBI 87 = .ok (.baload, 1) := by decide +kernel
theorem d_JU_getChars_IIBI_88 : decode c_JU_getChars_IIBI 88 = .ok (.invokestatic 111, 3) := by decide +kernel
theorem d_JU_getChars_IIBI_91 : decode c_JU_getChars_IIBI 91 = .ok (.iload_n 0, 1) := by decide +kernel
theorem d_JU_getChars_IIBI_92 : decode c_JU_getChars_IIBI 92 = .ok (.bipush (-9), 2) := by decide +kernel
theorem d_JU_getChars_IIBI_94 : decode c_JU_getChars_IIBI 94 = .ok (.if_icmp .ge 18, 3) := by decide +kernel
theorem d_JU_getChars_IIBI_97 : decode c_JU_getChars_IIBI 97 = .ok (.aload_n 2, 1) := by decide +kernel
theorem d_JU_getChars_IIBI_98 : decode c_JU_getChars_IIBI 98 = .ok (.iinc 5 (-1), 3) := by decide +kernel
theorem d_JU_getChars_IIBI_101 : decode c_JU_getChars_IIBI 101 = .ok (.iload 5, 2) := by decide +kernel
theorem d_JU_getChars_IIBI_103 : decode c_JU_getChars_IIBI 103 = .ok (.getstatic 407, 3) := by decide +kernel
theorem d_JU_getChars_IIBI_106 : decode c_JU_getChars_IIBI 106 = .ok (.iload_n 0, 1) := by decide +kernel
theorem d_JU_getChars_IIBI_107 : decode c_JU_getChars_IIBI 107 = .ok (.ineg, 1) := by decide +kernel
theorem d_JU_getChars_IIBI_108 : decode c_JU_getChars_IIBI 108 = .ok (.baload, 1) := by decide +kernel
theorem d_JU_getChars_IIBI_109 : decode c_JU_getChars_IIBI 109 = .ok (.invokestatic 111, 3) := by decide +kernel
theorem d_JU_getChars_IIBI_112 : decode c_JU_getChars_IIBI 112 = .ok (.iload 6, 2) := by decide +kernel
theorem d_JU_getChars_IIBI_114 : decode c_JU_getChars_IIBI 114 = .ok (.ifCond .eq 14, 3) := by decide +kernel
theorem d_JU_getChars_IIBI_117 : decode c_JU_getChars_IIBI 117 = .ok (.aload_n 2, 1) := by decide +kernel
theorem d_JU_getChars_IIBI_118 : decode c_JU_getChars_IIBI 118 = .ok (.iinc 5 (-1), 3) := by decide +kernel
theorem d_JU_getChars_IIBI_121 : decode c_JU_getChars_IIBI 121 = .ok (.iload 5, 2) := by decide +kernel
theorem d_JU_getChars_IIBI_123 : decode c_JU_getChars_IIBI 123 = .ok (.bipush 45, 2) := by decide +kernel
theorem d_JU_getChars_IIBI_125 : decode c_JU_getChars_IIBI 125 = .ok (.invokestatic 111, 3) := by decide +kernel
theorem d_JU_getChars_IIBI_128 : decode c_JU_getChars_IIBI 128 = .ok (.iload 5, 2) := by decide +kernel
theorem d_JU_getChars_IIBI_130 : decode c_JU_getChars_IIBI 130 = .ok (.ireturn, 1) := by decide +kernel
theorem d_JU_inflate_0 : decode c_JU_inflate 0 = .ok (.iload_n 3, 1) := by decide +kernel
theorem d_JU_inflate_1 : decode c_JU_inflate 1 = .ok (.iload 4, 2) := by decide +kernel
theorem d_JU_inflate_3 : decode c_JU_inflate 3 = .ok (.aload_n 2, 1) := by decide +kernel
theorem d_JU_inflate_4 : decode c_JU_inflate 4 = .ok (.invokestatic 173, 3) := by decide +kernel
theorem d_JU_inflate_7 : decode c_JU_inflate 7 = .ok (.iconst 0, 1) := by decide +kernel
theorem d_JU_inflate_8 : decode c_JU_inflate 8 = .ok (.istore 5, 2) := by decide +kernel
theorem d_JU_inflate_10 : decode c_JU_inflate 10 = .ok (.iload 5, 2) := by decide +kernel
theorem d_JU_inflate_12 : decode c_JU_inflate 12 = .ok (.iload 4, 2) := by decide +kernel
theorem d_JU_inflate_14 : decode c_JU_inflate 14 = .ok (.if_icmp .ge 27, 3) := by decide +kernel
theorem d_JU_inflate_17 : decode c_JU_inflate 17 = .ok (.aload_n 2, 1) := by decide +kernel
theorem d_JU_inflate_18 : decode c_JU_inflate 18 = .ok (.iload_n 3, 1) := by decide +kernel
theorem d_JU_inflate_19 : decode c_JU_inflate 19 = .ok (.iinc 3 1, 3) := by decide +kernel
theorem d_JU_inflate_22 : decode c_JU_inflate 22 = .ok (.aload_n 0, 1) := by decide +kernel
theorem d_JU_inflate_23 : decode c_JU_inflate 23 = .ok (.iload_n 1, 1) := by decide +kernel
theorem d_JU_inflate_24 : decode c_JU_inflate 24 = .ok (.iinc 1 1, 3) := by decide +kernel
theorem d_JU_inflate_27 : decode c_JU_inflate 27 = .ok (.baload, 1) := by decide +kernel
theorem d_JU_inflate_28 : decode c_JU_inflate 28 = .ok (.sipush 255, 3) := by decide +kernel
theorem d_JU_inflate_31 : decode c_JU_inflate 31 = .ok (.iand, 1) := by decide +kernel
theorem d_JU_inflate_32 : decode c_JU_inflate 32 = .ok (.invokestatic 111, 3) := by decide +kernel
theorem d_JU_inflate_35 : decode c_JU_inflate 35 = .ok (.iinc 5 1, 3) := by decide +kernel
theorem d_JU_inflate_38 : decode c_JU_inflate 38 = .ok (.goto (-28), 3) := by decide +kernel
theorem d_JU_inflate_41 : decode c_JU_inflate 41 = .ok (.return_, 1) := by decide +kernel
theorem d_JU_length_0 : decode c_JU_length 0 = .ok (.aload_n 0, 1) := by decide +kernel
theorem d_JU_length_1 : decode c_JU_length 1 = .ok (.arraylength, 1) := by decide +kernel
theorem d_JU_length_2 : decode c_JU_length 2 = .ok (.iconst 1, 1) := by decide +kernel
theorem d_JU_length_3 : decode c_JU_length 3 = .ok (.ishr, 1) := by decide +kernel
theorem d_JU_length_4 : decode c_JU_length 4 = .ok (.ireturn, 1) := by decide +kernel
theorem d_JU_newBytesFor_0 : decode c_JU_newBytesFor 0 = .ok (.iload_n 0, 1) := by decide +kernel
theorem d_JU_newBytesFor_1 : decode c_JU_newBytesFor 1 = .ok (.invokestatic 11, 3) := by decide +kernel
theorem d_JU_newBytesFor_4 : decode c_JU_newBytesFor 4 = .ok (.newarray .byte, 2) := by decide +kernel
theorem d_JU_newBytesFor_6 : decode c_JU_newBytesFor 6 = .ok (.areturn, 1) := by decide +kernel
theorem d_JU_newBytesLength_0 : decode c_JU_newBytesLength 0 = .ok (.iload_n 0, 1) := by decide +kernel
theorem d_JU_newBytesLength_1 : decode c_JU_newBytesLength 1 = .ok (.ifCond .ge 11, 3) := by decide +kernel
theorem d_JU_newBytesLength_4 : decode c_JU_newBytesLength 4 = .ok (.new 17, 3) := by decide +kernel
theorem d_JU_newBytesLength_7 : decode c_JU_newBytesLength 7 = .ok (.dup, 1) := by decide +kernel
theorem d_JU_newBytesLength_8 : decode c_JU_newBytesLength 8 = .ok (.invokespecial 19, 3) := by decide +kernel
theorem d_JU_newBytesLength_11 : decode c_JU_newBytesLength 11 = .ok (.athrow, 1) := by decide +kernel
theorem d_JU_newBytesLength_12 : decode c_JU_newBytesLength 12 = .ok (.iload_n 0, 1) := by decide +kernel
theorem d_JU_newBytesLength_13 : decode c_JU_newBytesLength 13 = .ok (.ldc 20, 2) := by decide +kernel
theorem d_JU_newBytesLength_15 : decode c_JU_newBytesLength 15 = .ok (.if_icmp .lt 40, 3) := by decide +kernel
theorem d_JU_newBytesLength_18 : decode c_JU_newBytesLength 18 = .ok (.new 21, 3) := by decide +kernel
theorem d_JU_newBytesLength_21 : decode c_JU_newBytesLength 21 = .ok (.dup, 1) := by decide +kernel
theorem d_JU_newBytesLength_22 : decode c_JU_newBytesLength 22 = .ok (.new 23, 3) := by decide +kernel
theorem d_JU_newBytesLength_25 : decode c_JU_newBytesLength 25 = .ok (.dup, 1) := by decide +kernel
theorem d_JU_newBytesLength_26 : decode c_JU_newBytesLength 26 = .ok (.invokespecial 25, 3) := by decide +kernel
theorem d_JU_newBytesLength_29 : decode c_JU_newBytesLength 29 = .ok (.ldc 26, 2) := by decide +kernel
theorem d_JU_newBytesLength_31 : decode c_JU_newBytesLength 31 = .ok (.invokevirtual 28, 3) := by decide +kernel
theorem d_JU_newBytesLength_34 : decode c_JU_newBytesLength 34 = .ok (.iload_n 0, 1) := by decide +kernel
theorem d_JU_newBytesLength_35 : decode c_JU_newBytesLength 35 = .ok (.invokevirtual 32, 3) := by decide +kernel
theorem d_JU_newBytesLength_38 : decode c_JU_newBytesLength 38 = .ok (.ldc 35, 2) := by decide +kernel
theorem d_JU_newBytesLength_40 : decode c_JU_newBytesLength 40 = .ok (.invokevirtual 28, 3) := by decide +kernel
theorem d_JU_newBytesLength_43 : decode c_JU_newBytesLength 43 = .ok (.ldc 20, 2) := by decide +kernel
theorem d_JU_newBytesLength_45 : decode c_JU_newBytesLength 45 = .ok (.invokevirtual 32, 3) := by decide +kernel
theorem d_JU_newBytesLength_48 : decode c_JU_newBytesLength 48 = .ok (.invokevirtual 37, 3) := by decide +kernel
theorem d_JU_newBytesLength_51 : decode c_JU_newBytesLength 51 = .ok (.invokespecial 41, 3) := by decide +kernel
theorem d_JU_newBytesLength_54 : decode c_JU_newBytesLength 54 = .ok (.athrow, 1) := by decide +kernel
theorem d_JU_newBytesLength_55 : decode c_JU_newBytesLength 55 = .ok (.iload_n 0, 1) := by decide +kernel
theorem d_JU_newBytesLength_56 : decode c_JU_newBytesLength 56 = .ok (.iconst 1, 1) := by decide +kernel
theorem d_JU_newBytesLength_57 : decode c_JU_newBytesLength 57 = .ok (.ishl, 1) := by decide +kernel
theorem d_JU_newBytesLength_58 : decode c_JU_newBytesLength 58 = .ok (.ireturn, 1) := by decide +kernel
theorem d_JU_putChar_0 : decode c_JU_putChar 0 = .ok (.getstatic 44, 3) := by decide +kernel
theorem d_JU_putChar_3 : decode c_JU_putChar 3 = .ok (.ifCond .ne 25, 3) := by decide +kernel
theorem d_JU_putChar_6 : decode c_JU_putChar 6 = .ok (.iload_n 1, 1) := by decide +kernel
theorem d_JU_putChar_7 : decode c_JU_putChar 7 = .ok (.ifCond .lt 11, 3) := by decide +kernel
theorem d_JU_putChar_10 : decode c_JU_putChar 10 = .ok (.iload_n 1, 1) := by decide +kernel
theorem d_JU_putChar_11 : decode c_JU_putChar 11 = .ok (.aload_n 0, 1) := by decide +kernel
theorem d_JU_putChar_12 : decode c_JU_putChar 12 = .ok (.invokestatic 48, 3) := by decide +kernel
theorem d_JU_putChar_15 : decode c_JU_putChar 15 = .ok (.if_icmp .lt 13, 3) := by decide +kernel
theorem d_JU_putChar_18 : decode c_JU_putChar 18 = .ok (.new 52, 3) := by decide +kernel
theorem d_JU_putChar_21 : decode c_JU_putChar 21 = .ok (.dup, 1) := by decide +kernel
theorem d_JU_putChar_22 : decode c_JU_putChar 22 = .ok (.ldc 54, 2) := by decide +kernel
theorem d_JU_putChar_24 : decode c_JU_putChar 24 = .ok (.invokespecial 56, 3) := by decide +kernel
theorem d_JU_putChar_27 : decode c_JU_putChar 27 = .ok (.athrow, 1) := by decide +kernel
theorem d_JU_putChar_28 : decode c_JU_putChar 28 = .ok (.iload_n 1, 1) := by decide +kernel
theorem d_JU_putChar_29 : decode c_JU_putChar 29 = .ok (.iconst 1, 1) := by decide +kernel
theorem d_JU_putChar_30 : decode c_JU_putChar 30 = .ok (.ishl, 1) := by decide +kernel
theorem d_JU_putChar_31 : decode c_JU_putChar 31 = .ok (.istore_n 1, 1) := by decide +kernel
theorem d_JU_putChar_32 : decode c_JU_putChar 32 = .ok (.aload_n 0, 1) := by decide +kernel
theorem d_JU_putChar_33 : decode c_JU_putChar 33 = .ok (.iload_n 1, 1) := by decide +kernel
theorem d_JU_putChar_34 : decode c_JU_putChar 34 = .ok (.iinc 1 1, 3) := by decide +kernel
theorem d_JU_putChar_37 : decode c_JU_putChar 37 = .ok (.iload_n 2, 1) := by decide +kernel
theorem d_JU_putChar_38 : decode c_JU_putChar 38 = .ok (.getstatic 59, 3) := by decide +kernel
theorem d_JU_putChar_41 : decode c_JU_putChar 41 = .ok (.ishr, 1) := by decide +kernel
theorem d_JU_putChar_42 : decode c_JU_putChar 42 = .ok (.i2b, 1) := by decide +kernel
theorem d_JU_putChar_43 : decode c_JU_putChar 43 = .ok (.bastore, 1) := by decide +kernel
theorem d_JU_putChar_44 : decode c_JU_putChar 44 = .ok (.aload_n 0, 1) := by decide +kernel
theorem d_JU_putChar_45 : decode c_JU_putChar 45 = .ok (.iload_n 1, 1) := by decide +kernel
theorem d_JU_putChar_46 : decode c_JU_putChar 46 = .ok (.iload_n 2, 1) := by decide +kernel
theorem d_JU_putChar_47 : decode c_JU_putChar 47 = .ok (.getstatic 63, 3) := by decide +kernel
theorem d_JU_putChar_50 : decode c_JU_putChar 50 = .ok (.ishr, 1) := by decide +kernel
theorem d_JU_putChar_51 : decode c_JU_putChar 51 = .ok (.i2b, 1) := by decide +kernel
theorem d_JU_putChar_52 : decode c_JU_putChar 52 = .ok (.bastore, 1) := by decide +kernel
theorem d_JU_putChar_53 : decode c_JU_putChar 53 = .ok (.return_, 1) := by decide +kernel
theorem d_JU_putCharSB_0 : decode c_JU_putCharSB 0 = .ok (.iload_n 1, 1) := by decide +kernel
theorem d_JU_putCharSB_1 : decode c_JU_putCharSB 1 = .ok (.aload_n 0, 1) := by decide +kernel
theorem d_JU_putCharSB_2 : decode c_JU_putCharSB 2 = .ok (.invokestatic 67, 3) := by decide +kernel
theorem d_JU_putCharSB_5 : decode c_JU_putCharSB 5 = .ok (.aload_n 0, 1) := by decide +kernel
theorem d_JU_putCharSB_6 : decode c_JU_putCharSB 6 = .ok (.iload_n 1, 1) := by decide +kernel
theorem d_JU_putCharSB_7 : decode c_JU_putCharSB 7 = .ok (.iload_n 2, 1) := by decide +kernel
theorem d_JU_putCharSB_8 : decode c_JU_putCharSB 8 = .ok (.invokestatic 111, 3) := by decide +kernel
theorem d_JU_putCharSB_11 : decode c_JU_putCharSB 11 = .ok (.return_, 1) := by decide +kernel
theorem d_JT_init_0 : decode c_JT_init 0 = .ok (.aload_n 0, 1) := by decide +kernel
theorem d_JT_init_1 : decode c_JT_init 1 = .ok (.invokespecial 1, 3) := by decide +kernel
theorem d_JT_init_4 : decode c_JT_init 4 = .ok (.aload_n 0, 1) := by decide +kernel
theorem d_JT_init_5 : decode c_JT_init 5 = .ok (.aload_n 0, 1) := by decide +kernel
theorem d_JT_init_6 : decode c_JT_init 6 = .ok (.putfield 7, 3) := by decide +kernel
theorem d_JT_init_9 : decode c_JT_init 9 = .ok (.aload_n 0, 1) := by decide +kernel
theorem d_JT_init_10 : decode c_JT_init 10 = .ok (.getstatic 13, 3) := by decide +kernel
theorem d_JT_init_13 : decode c_JT_init 13 = .ok (.putfield 17, 3) := by decide +kernel
theorem d_JT_init_16 : decode c_JT_init 16 = .ok (.aload_n 0, 1) := by decide +kernel
theorem d_JT_init_17 : decode c_JT_init 17 = .ok (.getstatic 20, 3) := by decide +kernel
theorem d_JT_init_20 : decode c_JT_init 20 = .ok (.putfield 24, 3) := by decide +kernel
theorem d_JT_init_23 : decode c_JT_init 23 = .ok (.aload_n 0, 1) := by decide +kernel
theorem d_JT_init_24 : decode c_JT_init 24 = .ok (.invokevirtual 27, 3) := by decide +kernel
theorem d_JT_init_27 : decode c_JT_init 27 = .ok (.pop, 1) := by decide +kernel
theorem d_JT_init_28 : decode c_JT_init 28 = .ok (.return_, 1) := by decide +kernel
theorem d_JT_fillInStackTrace_0 : decode c_JT_fillInStackTrace 0 = .ok (.aload_n 0, 1) := by decide +kernel
theorem d_JT_fillInStackTrace_1 : decode c_JT_fillInStackTrace 1 = .ok (.getfield 17, 3) := by decide +kernel
theorem d_JT_fillInStackTrace_4 : decode c_JT_fillInStackTrace 4 = .ok (.ifnonnull 10, 3) := by decide +kernel
theorem d_JT_fillInStackTrace_7 : decode c_JT_fillInStackTrace 7 = .ok (.aload_n 0, 1) := by decide +kernel
theorem d_JT_fillInStackTrace_8 : decode c_JT_fillInStackTrace 8 = .ok (.getfield 198, 3) := by decide +kernel
theorem d_JT_fillInStackTrace_11 : decode c_JT_fillInStackTrace 11 = .ok (.ifnull 16, 3) := by decide +kernel
theorem d_JT_fillInStackTrace_14 : decode c_JT_fillInStackTrace 14 = .ok (.aload_n 0, 1) := by decide +kernel
theorem d_JT_fillInStackTrace_15 : decode c_JT_fillInStackTrace 15 = .ok (.iconst 0, 1) := by decide +kernel
theorem d_JT_fillInStackTrace_16 : decode c_JT_fillInStackTrace 16 = .ok (.invokevirtual 202, 3) := by decide +kernel
theorem d_JT_fillInStackTrace_19 : decode c_JT_fillInStackTrace 19 = .ok (.pop, 1) := by decide +kernel
theorem d_JT_fillInStackTrace_20 : decode c_JT_fillInStackTrace 20 = .ok (.aload_n 0, 1) := by decide +kernel
theorem d_JT_fillInStackTrace_21 : decode c_JT_fillInStackTrace 21 = .ok (.getstatic 13, 3) := by decide +kernel
theorem d_JT_fillInStackTrace_24 : decode c_JT_fillInStackTrace 24 = .ok (.putfield 17, 3) := by decide +kernel
theorem d_JT_fillInStackTrace_27 : decode c_JT_fillInStackTrace 27 = .ok (.aload_n 0, 1) := by decide +kernel
theorem d_JT_fillInStackTrace_28 : decode c_JT_fillInStackTrace 28 = .ok (.areturn, 1) := by decide +kernel
theorem d_JO_init_0 : decode c_JO_init 0 = .ok (.aload_n 0, 1) := by decide +kernel
theorem d_JO_init_1 : decode c_JO_init 1 = .ok (.invokespecial 1, 3) := by decide +kernel
theorem d_JO_init_4 : decode c_JO_init 4 = .ok (.return_, 1) := by decide +kernel
theorem d_JY_copyOf_0 : decode c_JY_copyOf 0 = .ok (.iload_n 1, 1) := by decide +kernel
theorem d_JY_copyOf_1 : decode c_JY_copyOf 1 = .ok (.aload_n 0, 1) := by decide +kernel
theorem d_JY_copyOf_2 : decode c_JY_copyOf 2 = .ok (.arraylength, 1) := by decide +kernel
theorem d_JY_copyOf_3 : decode c_JY_copyOf 3 = .ok (.if_icmp .ne 11, 3) := by decide +kernel
theorem d_JY_copyOf_6 : decode c_JY_copyOf 6 = .ok (.aload_n 0, 1) := by decide +kernel
theorem d_JY_copyOf_7 : decode c_JY_copyOf 7 = .ok (.invokevirtual 310, 3) := by decide +kernel
theorem d_JY_copyOf_10 : decode c_JY_copyOf 10 = .ok (.checkcast 311, 3) := by decide +kernel
theorem d_JY_copyOf_13 : decode c_JY_copyOf 13 = .ok (.areturn, 1) := by decide +kernel
theorem d_JY_copyOf_14 : decode c_JY_copyOf 14 = .ok (.iload_n 1, 1) := by decide +kernel
theorem d_JY_copyOf_15 : decode c_JY_copyOf 15 = .ok (.newarray .byte, 2) := by decide +kernel
theorem d_JY_copyOf_17 : decode c_JY_copyOf 17 = .ok (.astore_n 2, 1) := by decide +kernel
theorem d_JY_copyOf_18 : decode c_JY_copyOf 18 = .ok (.aload_n 0, 1) := by decide +kernel
theorem d_JY_copyOf_19 : decode c_JY_copyOf 19 = .ok (.iconst 0, 1) := by decide +kernel
theorem d_JY_copyOf_20 : decode c_JY_copyOf 20 = .ok (.aload_n 2, 1) := by decide +kernel
theorem d_JY_copyOf_21 : decode c_JY_copyOf 21 = .ok (.iconst 0, 1) := by decide +kernel
theorem d_JY_copyOf_22 : decode c_JY_copyOf 22 = .ok (.aload_n 0, 1) := by decide +kernel
theorem d_JY_copyOf_23 : decode c_JY_copyOf 23 = .ok (.arraylength, 1) := by decide +kernel
theorem d_JY_copyOf_24 : decode c_JY_copyOf 24 = .ok (.iload_n 1, 1) := by decide +kernel
theorem d_JY_copyOf_25 : decode c_JY_copyOf 25 = .ok (.invokestatic 304, 3) := by decide +kernel
theorem d_JY_copyOf_28 : decode c_JY_copyOf 28 = .ok (.invokestatic 150, 3) := by decide +kernel
theorem d_JY_copyOf_31 : decode c_JY_copyOf 31 = .ok (.aload_n 2, 1) := by decide +kernel
theorem d_JY_copyOf_32 : decode c_JY_copyOf 32 = .ok (.areturn, 1) := by decide +kernel
theorem d_JY_fill_BIIBV_0 : decode c_JY_fill_BIIBV 0 = .ok (.aload_n 0, 1) := by decide +kernel
theorem d_JY_fill_BIIBV_1 : decode c_JY_fill_BIIBV 1 = .ok (.arraylength, 1) := by decide +kernel
theorem d_JY_fill_BIIBV_2 : decode c_JY_fill_BIIBV 2 = .ok (.iload_n 1, 1) := by decide +kernel
theorem d_JY_fill_BIIBV_3 : decode c_JY_fill_BIIBV 3 = .ok (.iload_n 2, 1) := by decide +kernel
theorem d_JY_fill_BIIBV_4 : decode c_JY_fill_BIIBV 4 = .ok (.invokestatic 13, 3) := by decide +kernel
theorem d_JY_fill_BIIBV_7 : decode c_JY_fill_BIIBV 7 = .ok (.iload_n 1, 1) := by decide +kernel
theorem d_JY_fill_BIIBV_8 : decode c_JY_fill_BIIBV 8 = .ok (.istore 4, 2) := by decide +kernel
theorem d_JY_fill_BIIBV_10 : decode c_JY_fill_BIIBV 10 = .ok (.iload 4, 2) := by decide +kernel
theorem d_JY_fill_BIIBV_12 : decode c_JY_fill_BIIBV 12 = .ok (.iload_n 2, 1) := by decide +kernel
theorem d_JY_fill_BIIBV_13 : decode c_JY_fill_BIIBV 13 = .ok (.if_icmp .ge 14, 3) := by decide +kernel
theorem d_JY_fill_BIIBV_16 : decode c_JY_fill_BIIBV 16 = .ok (.aload_n 0, 1) := by decide +kernel
theorem d_JY_fill_BIIBV_17 : decode c_JY_fill_BIIBV 17 = .ok (.iload 4, 2) := by decide +kernel
theorem d_JY_fill_BIIBV_19 : decode c_JY_fill_BIIBV 19 = .ok (.iload_n 3, 1) := by decide +kernel
theorem d_JY_fill_BIIBV_20 : decode c_JY_fill_BIIBV 20 = .ok (.bastore, 1) := by decide +kernel
theorem d_JY_fill_BIIBV_21 : decode c_JY_fill_BIIBV 21 = .ok (.iinc 4 1, 3) := by decide +kernel
theorem d_JY_fill_BIIBV_24 : decode c_JY_fill_BIIBV 24 = .ok (.goto (-14), 3) := by decide +kernel
theorem d_JY_fill_BIIBV_27 : decode c_JY_fill_BIIBV 27 = .ok (.return_, 1) := by decide +kernel
theorem d_JY_fill_IIV_0 : decode c_JY_fill_IIV 0 = .ok (.iconst 0, 1) := by decide +kernel
theorem d_JY_fill_IIV_1 : decode c_JY_fill_IIV 1 = .ok (.istore_n 2, 1) := by decide +kernel
theorem d_JY_fill_IIV_2 : decode c_JY_fill_IIV 2 = .ok (.aload_n 0, 1) := by decide +kernel
theorem d_JY_fill_IIV_3 : decode c_JY_fill_IIV 3 = .ok (.arraylength, 1) := by decide +kernel
theorem d_JY_fill_IIV_4 : decode c_JY_fill_IIV 4 = .ok (.istore_n 3, 1) := by decide +kernel
theorem d_JY_fill_IIV_5 : decode c_JY_fill_IIV 5 = .ok (.iload_n 2, 1) := by decide +kernel
theorem d_JY_fill_IIV_6 : decode c_JY_fill_IIV 6 = .ok (.iload_n 3, 1) := by decide +kernel
theorem d_JY_fill_IIV_7 : decode c_JY_fill_IIV 7 = .ok (.if_icmp .ge 13, 3) := by decide +kernel
theorem d_JY_fill_IIV_10 : decode c_JY_fill_IIV 10 = .ok (.aload_n 0, 1) := by decide +kernel
theorem d_JY_fill_IIV_11 : decode c_JY_fill_IIV 11 = .ok (.iload_n 2, 1) := by decide +kernel
theorem d_JY_fill_IIV_12 : decode c_JY_fill_IIV 12 = .ok (.iload_n 1, 1) := by decide +kernel
theorem d_JY_fill_IIV_13 : decode c_JY_fill_IIV 13 = .ok (.iastore, 1) := by decide +kernel
theorem d_JY_fill_IIV_14 : decode c_JY_fill_IIV 14 = .ok (.iinc 2 1, 3) := by decide +kernel
theorem d_JY_fill_IIV_17 : decode c_JY_fill_IIV 17 = .ok (.goto (-12), 3) := by decide +kernel
theorem d_JY_fill_IIV_20 : decode c_JY_fill_IIV 20 = .ok (.return_, 1) := by decide +kernel
theorem d_JY_rangeCheck_0 : decode c_JY_rangeCheck 0 = .ok (.iload_n 1, 1) := by decide +kernel
theorem d_JY_rangeCheck_1 : decode c_JY_rangeCheck 1 = .ok (.iload_n 2, 1) := by decide +kernel
theorem d_JY_rangeCheck_2 : decode c_JY_rangeCheck 2 = .ok (.if_icmp .le 44, 3) := by decide +kernel
theorem d_JY_rangeCheck_5 : decode c_JY_rangeCheck 5 = .ok (.new 43, 3) := by decide +kernel
theorem d_JY_rangeCheck_8 : decode c_JY_rangeCheck 8 = .ok (.dup, 1) := by decide +kernel
theorem d_JY_rangeCheck_9 : decode c_JY_rangeCheck 9 = .ok (.new 45, 3) := by decide +kernel
theorem d_JY_rangeCheck_12 : decode c_JY_rangeCheck 12 = .ok (.dup, 1) := by decide +kernel
theorem d_JY_rangeCheck_13 : decode c_JY_rangeCheck 13 = .ok (.invokespecial 47, 3) := by decide +kernel
theorem d_JY_rangeCheck_16 : decode c_JY_rangeCheck 16 = .ok (.ldc 48, 2) := by decide +kernel
theorem d_JY_rangeCheck_18 : decode c_JY_rangeCheck 18 = .ok (.invokevirtual 50, 3) := by decide +kernel
theorem d_JY_rangeCheck_21 : decode c_JY_rangeCheck 21 = .ok (.iload_n 1, 1) := by decide +kernel
theorem d_JY_rangeCheck_22 : decode c_JY_rangeCheck 22 = .ok (.invokevirtual 54, 3) := by decide +kernel
theorem d_JY_rangeCheck_25 : decode c_JY_rangeCheck 25 = .ok (.ldc 57, 2) := by decide +kernel
theorem d_JY_rangeCheck_27 : decode c_JY_rangeCheck 27 = .ok (.invokevirtual 50, 3) := by decide +kernel
theorem d_JY_rangeCheck_30 : decode c_JY_rangeCheck 30 = .ok (.iload_n 2, 1) := by decide +kernel
theorem d_JY_rangeCheck_31 : decode c_JY_rangeCheck 31 = .ok (.invokevirtual 54, 3) := by decide +kernel
theorem d_JY_rangeCheck_34 : decode c_JY_rangeCheck 34 = .ok (.ldc 59, 2) := by decide +kernel
theorem d_JY_rangeCheck_36 : decode c_JY_rangeCheck 36 = .ok (.invokevirtual 50, 3) := by decide +kernel
theorem d_JY_rangeCheck_39 : decode c_JY_rangeCheck 39 = .ok (.invokevirtual 61, 3) := by decide +kernel
theorem d_JY_rangeCheck_42 : decode c_JY_rangeCheck 42 = .ok (.invokespecial 65, 3) := by decide +kernel
theorem d_JY_rangeCheck_45 : decode c_JY_rangeCheck 45 = .ok (.athrow, 1) := by decide +kernel
theorem d_JY_rangeCheck_46 : decode c_JY_rangeCheck 46 = .ok (.iload_n 1, 1) := by decide +kernel
theorem d_JY_rangeCheck_47 : decode c_JY_rangeCheck 47 = .ok (.ifCond .ge 12, 3) := by decide +kernel
theorem d_JY_rangeCheck_50 : decode c_JY_rangeCheck 50 = .ok (.new 68, 3) := by decide +kernel
theorem d_JY_rangeCheck_53 : decode c_JY_rangeCheck 53 = .ok (.dup, 1) := by decide +kernel
theorem d_JY_rangeCheck_54 : decode c_JY_rangeCheck 54 = .ok (.iload_n 1, 1) := by decide +kernel
theorem d_JY_rangeCheck_55 : decode c_JY_rangeCheck 55 = .ok (.invokespecial 70, 3) := by decide +kernel
theorem d_JY_rangeCheck_58 : decode c_JY_rangeCheck 58 = .ok (.athrow, 1) := by decide +kernel
theorem d_JY_rangeCheck_59 : decode c_JY_rangeCheck 59 = .ok (.iload_n 2, 1) := by decide +kernel
theorem d_JY_rangeCheck_60 : decode c_JY_rangeCheck 60 = .ok (.iload_n 0, 1) := by decide +kernel
theorem d_JY_rangeCheck_61 : decode c_JY_rangeCheck 61 = .ok (.if_icmp .le 12, 3) := by decide +kernel
theorem d_JY_rangeCheck_64 : decode c_JY_rangeCheck 64 = .ok (.new 68, 3) := by decide +kernel
theorem d_JY_rangeCheck_67 : decode c_JY_rangeCheck 67 = .ok (.dup, 1) := by decide +kernel
theorem d_JY_rangeCheck_68 : decode c_JY_rangeCheck 68 = .ok (.iload_n 2, 1) := by decide +kernel
theorem d_JY_rangeCheck_69 : decode c_JY_rangeCheck 69 = .ok (.invokespecial 70, 3) := by decide +kernel
theorem d_JY_rangeCheck_72 : decode c_JY_rangeCheck 72 = .ok (.athrow, 1) := by decide +kernel
theorem d_JY_rangeCheck_73 : decode c_JY_rangeCheck 73 = .ok (.return_, 1) := by decide +kernel
theorem d_JP_hugeLength_0 : decode c_JP_hugeLength 0 = .ok (.iload_n 0, 1) := by decide +kernel
theorem d_JP_hugeLength_1 : decode c_JP_hugeLength 1 = .ok (.iload_n 1, 1) := by decide +kernel
theorem d_JP_hugeLength_2 : decode c_JP_hugeLength 2 = .ok (.iadd, 1) := by decide +kernel
theorem d_JP_hugeLength_3 : decode c_JP_hugeLength 3 = .ok (.istore_n 2, 1) := by decide +kernel
theorem d_JP_hugeLength_4 : decode c_JP_hugeLength 4 = .ok (.iload_n 2, 1) := by decide +kernel
theorem d_JP_hugeLength_5 : decode c_JP_hugeLength 5 = .ok (.ifCond .ge 44, 3) := by decide +kernel
theorem d_JP_hugeLength_8 : decode c_JP_hugeLength 8 = .ok (.new 204, 3) := by decide +kernel
theorem d_JP_hugeLength_11 : decode c_JP_hugeLength 11 = .ok (.dup, 1) := by decide +kernel
theorem d_JP_hugeLength_12 : decode c_JP_hugeLength 12 = .ok (.new 89, 3) := by decide +kernel
theorem d_JP_hugeLength_15 : decode c_JP_hugeLength 15 = .ok (.dup, 1) := by decide +kernel
theorem d_JP_hugeLength_16 : decode c_JP_hugeLength 16 = .ok (.invokespecial 91, 3) := by decide +kernel
theorem d_JP_hugeLength_19 : decode c_JP_hugeLength 19 = .ok (.ldc 206, 2) := by decide +kernel
theorem d_JP_hugeLength_21 : decode c_JP_hugeLength 21 = .ok (.invokevirtual 94, 3) := by decide +kernel
theorem d_JP_hugeLength_24 : decode c_JP_hugeLength 24 = .ok (.iload_n 0, 1) := by decide +kernel
theorem d_JP_hugeLength_25 : decode c_JP_hugeLength 25 = .ok (.invokevirtual 98, 3) := by decide +kernel
theorem d_JP_hugeLength_28 : decode c_JP_hugeLength 28 = .ok (.ldc 208, 2) := by decide +kernel
theorem d_JP_hugeLength_30 : decode c_JP_hugeLength 30 = .ok (.invokevirtual 94, 3) := by decide +kernel
theorem d_JP_hugeLength_33 : decode c_JP_hugeLength 33 = .ok (.iload_n 1, 1) := by decide +kernel
theorem d_JP_hugeLength_34 : decode c_JP_hugeLength 34 = .ok (.invokevirtual 98, 3) := by decide +kernel
theorem d_JP_hugeLength_37 : decode c_JP_hugeLength 37 = .ok (.ldc 210, 2) := by decide +kernel
theorem d_JP_hugeLength_39 : decode c_JP_hugeLength 39 = .ok (.invokevirtual 94, 3) := by decide +kernel
theorem d_JP_hugeLength_42 : decode c_JP_hugeLength 42 = .ok (.invokevirtual 101, 3) := by decide +kernel
theorem d_JP_hugeLength_45 : decode c_JP_hugeLength 45 = .ok (.invokespecial 212, 3) := by decide +kernel
theorem d_JP_hugeLength_48 : decode c_JP_hugeLength 48 = .ok (.athrow, 1) := by decide +kernel
theorem d_JP_hugeLength_49 : decode c_JP_hugeLength 49 = .ok (.iload_n 2, 1) := by decide +kernel
theorem d_JP_hugeLength_50 : decode c_JP_hugeLength 50 = .ok (.ldc 200, 2) := by decide +kernel
theorem d_JP_hugeLength_52 : decode c_JP_hugeLength 52 = .ok (.if_icmp .gt 6, 3) := by decide +kernel
theorem d_JP_hugeLength_55 : decode c_JP_hugeLength 55 = .ok (.ldc 200, 2) := by decide +kernel
theorem d_JP_hugeLength_57 : decode c_JP_hugeLength 57 = .ok (.ireturn, 1) := by decide +kernel
theorem d_JP_hugeLength_58 : decode c_JP_hugeLength 58 = .ok (.iload_n 2, 1) := by decide +kernel
theorem d_JP_hugeLength_59 : decode c_JP_hugeLength 59 = .ok (.ireturn, 1) := by decide +kernel
theorem d_JP_newLength_0 : decode c_JP_newLength 0 = .ok (.iload_n 0, 1) := by decide +kernel
theorem d_JP_newLength_1 : decode c_JP_newLength 1 = .ok (.iload_n 1, 1) := by decide +kernel
theorem d_JP_newLength_2 : decode c_JP_newLength 2 = .ok (.iload_n 2, 1) := by decide +kernel
theorem d_JP_newLength_3 : decode c_JP_newLength 3 = .ok (.invokestatic 194, 3) := by decide +kernel
theorem d_JP_newLength_6 : decode c_JP_newLength 6 = .ok (.iadd, 1) := by decide +kernel
theorem d_JP_newLength_7 : decode c_JP_newLength 7 = .ok (.istore_n 3, 1) := by decide +kernel
theorem d_JP_newLength_8 : decode c_JP_newLength 8 = .ok (.iconst 0, 1) := by decide +kernel
theorem d_JP_newLength_9 : decode c_JP_newLength 9 = .ok (.iload_n 3, 1) := by decide +kernel
theorem d_JP_newLength_10 : decode c_JP_newLength 10 = .ok (.if_icmp .ge 11, 3) := by decide +kernel
theorem d_JP_newLength_13 : decode c_JP_newLength 13 = .ok (.iload_n 3, 1) := by decide +kernel
theorem d_JP_newLength_14 : decode c_JP_newLength 14 = .ok (.ldc 200, 2) := by decide +kernel
theorem d_JP_newLength_16 : decode c_JP_newLength 16 = .ok (.if_icmp .gt 5, 3) := by decide +kernel
theorem d_JP_newLength_19 : decode c_JP_newLength 19 = .ok (.iload_n 3, 1) := by decide +kernel
theorem d_JP_newLength_20 : decode c_JP_newLength 20 = .ok (.ireturn, 1) := by decide +kernel
theorem d_JP_newLength_21 : decode c_JP_newLength 21 = .ok (.iload_n 0, 1) := by decide +kernel
theorem d_JP_newLength_22 : decode c_JP_newLength 22 = .ok (.iload_n 1, 1) := by decide +kernel
theorem d_JP_newLength_23 : decode c_JP_newLength 23 = .ok (.invokestatic 201, 3) := by decide +kernel
theorem d_JP_newLength_26 : decode c_JP_newLength 26 = .ok (.ireturn, 1) := by decide +kernel
theorem d_JC_checkFromIndexSize_0 : decode c_JC_checkFromIndexSize 0 = .ok (.iload_n 2, 1) := by decide +kernel
theorem d_JC_checkFromIndexSize_1 : decode c_JC_checkFromIndexSize 1 = .ok (.iload_n 0, 1) := by decide +kernel
theorem d_JC_checkFromIndexSize_2 : decode c_JC_checkFromIndexSize 2 = .ok (.ior, 1) := by decide +kernel
theorem d_JC_checkFromIndexSize_3 : decode c_JC_checkFromIndexSize 3 = .ok (.iload_n 1, 1) := by decide +kernel
theorem d_JC_checkFromIndexSize_4 : decode c_JC_checkFromIndexSize 4 = .ok (.ior, 1) := by decide +kernel
theorem d_JC_checkFromIndexSize_5 : decode c_JC_checkFromIndexSize 5 = .ok (.ifCond .lt 10, 3) := by decide +kernel
theorem d_JC_checkFromIndexSize_8 : decode c_JC_checkFromIndexSize 8 = .ok (.iload_n 1, 1) := by decide +kernel
theorem d_JC_checkFromIndexSize_9 : decode c_JC_checkFromIndexSize 9 = .ok (.iload_n 2, 1) := by decide +kernel
theorem d_JC_checkFromIndexSize_10 : decode c_JC_checkFromIndexSize 10 = .ok (.iload_n 0, 1) := by decide +kernel
theorem d_JC_checkFromIndexSize_11 : decode c_JC_checkFromIndexSize 11 = .ok (.isub, 1) := by decide +kernel
theorem d_JC_checkFromIndexSize_12 : decode c_JC_checkFromIndexSize 12 = .ok (.if_icmp .le 11, 3) := by decide +kernel
theorem d_JC_checkFromIndexSize_15 : decode c_JC_checkFromIndexSize 15 = .ok (.aload_n 3, 1) := by decide +kernel
theorem d_JC_checkFromIndexSize_16 : decode c_JC_checkFromIndexSize 16 = .ok (.iload_n 0, 1) := by decide +kernel
theorem d_JC_checkFromIndexSize_17 : decode c_JC_checkFromIndexSize 17 = .ok (.iload_n 1, 1) := by decide +kernel
theorem d_JC_checkFromIndexSize_18 : decode c_JC_checkFromIndexSize 18 = .ok (.iload_n 2, 1) := by decide +kernel
theorem d_JC_checkFromIndexSize_19 : decode c_JC_checkFromIndexSize 19 = .ok (.invokestatic 103, 3) := by decide +kernel
theorem d_JC_checkFromIndexSize_22 : decode c_JC_checkFromIndexSize 22 = .ok (.athrow, 1) := by decide +kernel
theorem d_JC_checkFromIndexSize_23 : decode c_JC_checkFromIndexSize 23 = .ok (.iload_n 0, 1) := by decide +kernel
theorem d_JC_checkFromIndexSize_24 : decode c_JC_checkFromIndexSize 24 = .ok (.ireturn, 1) := by decide +kernel
theorem d_JC_checkFromToIndex_0 : decode c_JC_checkFromToIndex 0 = .ok (.iload_n 0, 1) := by decide +kernel
theorem d_JC_checkFromToIndex_1 : decode c_JC_checkFromToIndex 1 = .ok (.ifCond .lt 13, 3) := by decide +kernel
theorem d_JC_checkFromToIndex_4 : decode c_JC_checkFromToIndex 4 = .ok (.iload_n 0, 1) := by decide +kernel
theorem d_JC_checkFromToIndex_5 : decode c_JC_checkFromToIndex 5 = .ok (.iload_n 1, 1) := by decide +kernel
theorem d_JC_checkFromToIndex_6 : decode c_JC_checkFromToIndex 6 = .ok (.if_icmp .gt 8, 3) := by decide +kernel
theorem d_JC_checkFromToIndex_9 : decode c_JC_checkFromToIndex 9 = .ok (.iload_n 1, 1) := by decide +kernel
theorem d_JC_checkFromToIndex_10 : decode c_JC_checkFromToIndex 10 = .ok (.iload_n 2, 1) := by decide +kernel
theorem d_JC_checkFromToIndex_11 : decode c_JC_checkFromToIndex 11 = .ok (.if_icmp .le 11, 3) := by decide +kernel
theorem d_JC_checkFromToIndex_14 : decode c_JC_checkFromToIndex 14 = .ok (.aload_n 3, 1) := by decide +kernel
theorem d_JC_checkFromToIndex_15 : decode c_JC_checkFromToIndex 15 = .ok (.iload_n 0, 1) := by decide +kernel
theorem d_JC_checkFromToIndex_16 : decode c_JC_checkFromToIndex 16 = .ok (.iload_n 1, 1) := by decide +kernel
theorem d_JC_checkFromToIndex_17 : decode c_JC_checkFromToIndex 17 = .ok (.iload_n 2, 1) := by decide +kernel
theorem d_JC_checkFromToIndex_18 : decode c_JC_checkFromToIndex 18 = .ok (.invokestatic 99, 3) := by decide +kernel
theorem d_JC_checkFromToIndex_21 : decode c_JC_checkFromToIndex 21 = .ok (.athrow, 1) := by decide +kernel
theorem d_JC_checkFromToIndex_22 : decode c_JC_checkFromToIndex 22 = .ok (.iload_n 0, 1) := by decide +kernel
theorem d_JC_checkFromToIndex_23 : decode c_JC_checkFromToIndex 23 = .ok (.ireturn, 1) := by decide +kernel
theorem d_JC_checkIndex_0 : decode c_JC_checkIndex 0 = .ok (.iload_n 0, 1) := by decide +kernel
theorem d_JC_checkIndex_1 : decode c_JC_checkIndex 1 = .ok (.ifCond .lt 8, 3) := by decide +kernel
theorem d_JC_checkIndex_4 : decode c_JC_checkIndex 4 = .ok (.iload_n 0, 1) := by decide +kernel
theorem d_JC_checkIndex_5 : decode c_JC_checkIndex 5 = .ok (.iload_n 1, 1) := by decide +kernel
theorem d_JC_checkIndex_6 : decode c_JC_checkIndex 6 = .ok (.if_icmp .lt 10, 3) := by decide +kernel
theorem d_JC_checkIndex_9 : decode c_JC_checkIndex 9 = .ok (.aload_n 2, 1) := by decide +kernel
theorem d_JC_checkIndex_10 : decode c_JC_checkIndex 10 = .ok (.iload_n 0, 1) := by decide +kernel
theorem d_JC_checkIndex_11 : decode c_JC_checkIndex 11 = .ok (.iload_n 1, 1) := by decide +kernel
theorem d_JC_checkIndex_12 : decode c_JC_checkIndex 12 = .ok (.invokestatic 95, 3) := by decide +kernel
theorem d_JC_checkIndex_15 : decode c_JC_checkIndex 15 = .ok (.athrow, 1) := by decide +kernel
theorem d_JC_checkIndex_16 : decode c_JC_checkIndex 16 = .ok (.iload_n 0, 1) := by decide +kernel
theorem d_JC_checkIndex_17 : decode c_JC_checkIndex 17 = .ok (.ireturn, 1) := by decide +kernel

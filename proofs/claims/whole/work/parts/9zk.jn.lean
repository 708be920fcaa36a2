/-! names, decode rows and words of the JDK's members (by program: wip/whole/gen10.py) -/
def RJ0 : String := "java/lang/String"
def RJ1 : String := "java/lang/StringLatin1"
def RJ3 : String := "jdk/internal/util/Preconditions"
def RJ15 : String := "java/util/Objects"
def RJxa1e45 : String := "java/util/AbstractCollection"
def RJxc12de : String := "java/util/AbstractList"
def RJ8 : String := "jdk/internal/util/ArraysSupport"
def RJ7 : String := "java/util/Arrays"
abbrev Jm : Type := MethodName × ByteArray × Nat × Option FieldType × Nat
abbrev cJ0_length_8abf5 : ByteArray := prog_18_method_54_code
def yJ0_length_8abf5 : MethodName := ⟨RJ0, "length", "()I"⟩
def J_len : Jm := (yJ0_length_8abf5, cJ0_length_8abf5, 1, (some .int), 0)
abbrev cJ0_charAt_5068e : ByteArray := prog_18_method_56_code
def yJ0_charAt_5068e : MethodName := ⟨RJ0, "charAt", "(I)C"⟩
def J_chA : Jm := (yJ0_charAt_5068e, cJ0_charAt_5068e, 2, (some .char), 1)
abbrev cJ0_coder_7d493 : ByteArray := prog_18_method_152_code
def yJ0_coder_7d493 : MethodName := ⟨RJ0, "coder", "()B"⟩
def J_cod : Jm := (yJ0_coder_7d493, cJ0_coder_7d493, 1, (some .byte), 0)
abbrev cJ0_isLatin1_aae02 : ByteArray := prog_18_method_154_code
def yJ0_isLatin1_aae02 : MethodName := ⟨RJ0, "isLatin1", "()Z"⟩
def J_lat : Jm := (yJ0_isLatin1_aae02, cJ0_isLatin1_aae02, 1, (some .boolean), 0)
abbrev cJ0_checkIndex_df160 : ByteArray := prog_18_method_155_code
def yJ0_checkIndex_df160 : MethodName := ⟨RJ0, "checkIndex", "(II)V"⟩
def J_sck : Jm := (yJ0_checkIndex_df160, cJ0_checkIndex_df160, 2, none, 2)
abbrev cJ1_charAt_3b067 : ByteArray := prog_19_method_2_code
def yJ1_charAt_3b067 : MethodName := ⟨RJ1, "charAt", "([BI)C"⟩
def J_lch : Jm := (yJ1_charAt_3b067, cJ1_charAt_3b067, 2, (some .char), 2)
abbrev cJ3_checkIndex_8e157 : ByteArray := prog_32_method_11_code
def yJ3_checkIndex_8e157 : MethodName := ⟨RJ3, "checkIndex", "(IILjava/util/function/BiFunction;)I"⟩
def J_pck : Jm := (yJ3_checkIndex_8e157, cJ3_checkIndex_8e157, 3, (some .int), 3)
abbrev cJ15_checkIndex_7cf53 : ByteArray := prog_28_method_17_code
def yJ15_checkIndex_7cf53 : MethodName := ⟨RJ15, "checkIndex", "(II)I"⟩
def J_ock : Jm := (yJ15_checkIndex_7cf53, cJ15_checkIndex_7cf53, 2, (some .int), 2)
abbrev cJxa1e45_init_da8c8 : ByteArray := prog_22_method_1_code
def yJxa1e45_init_da8c8 : MethodName := ⟨RJxa1e45, "<init>", "()V"⟩
def J_aci : Jm := (yJxa1e45_init_da8c8, cJxa1e45_init_da8c8, 1, none, 0)
abbrev cJxc12de_init_da8c8 : ByteArray := prog_23_method_1_code
def yJxc12de_init_da8c8 : MethodName := ⟨RJxc12de, "<init>", "()V"⟩
def J_ali : Jm := (yJxc12de_init_da8c8, cJxc12de_init_da8c8, 1, none, 0)
abbrev cJx4a65c_init_da8c8 : ByteArray := prog_24_method_2_code
def yJx4a65c_init_da8c8 : MethodName := ⟨RJx4a65c, "<init>", "()V"⟩
def J_ini : Jm := (yJx4a65c_init_da8c8, cJx4a65c_init_da8c8, 1, none, 0)
abbrev cJx4a65c_grow_92f84 : ByteArray := prog_24_method_6_code
def yJx4a65c_grow_92f84 : MethodName := ⟨RJx4a65c, "grow", "(I)[Ljava/lang/Object;"⟩
def J_gr1 : Jm := (yJx4a65c_grow_92f84, cJx4a65c_grow_92f84, 4, (some (.array (.object "java/lang/Object"))), 1)
abbrev cJx4a65c_grow_d5877 : ByteArray := prog_24_method_7_code
def yJx4a65c_grow_d5877 : MethodName := ⟨RJx4a65c, "grow", "()[Ljava/lang/Object;"⟩
def J_gr0 : Jm := (yJx4a65c_grow_d5877, cJx4a65c_grow_d5877, 1, (some (.array (.object "java/lang/Object"))), 0)
abbrev cJx4a65c_size_8abf5 : ByteArray := prog_24_method_8_code
def yJx4a65c_size_8abf5 : MethodName := ⟨RJx4a65c, "size", "()I"⟩
def J_siz : Jm := (yJx4a65c_size_8abf5, cJx4a65c_size_8abf5, 1, (some .int), 0)
abbrev cJx4a65c_elementData_915e3 : ByteArray := prog_24_method_18_code
def yJx4a65c_elementData_915e3 : MethodName := ⟨RJx4a65c, "elementData", "(I)Ljava/lang/Object;"⟩
def J_eld : Jm := (yJx4a65c_elementData_915e3, cJx4a65c_elementData_915e3, 2, (some (.object "java/lang/Object")), 1)
abbrev cJx4a65c_get_915e3 : ByteArray := prog_24_method_20_code
def yJx4a65c_get_915e3 : MethodName := ⟨RJx4a65c, "get", "(I)Ljava/lang/Object;"⟩
def J_get : Jm := (yJx4a65c_get_915e3, cJx4a65c_get_915e3, 2, (some (.object "java/lang/Object")), 1)
abbrev cJx4a65c_add_7a177 : ByteArray := prog_24_method_26_code
def yJx4a65c_add_7a177 : MethodName := ⟨RJx4a65c, "add", "(ILjava/lang/Object;)V"⟩
def J_add : Jm := (yJx4a65c_add_7a177, cJx4a65c_add_7a177, 5, none, 2)
abbrev cJx4a65c_clear_da8c8 : ByteArray := prog_24_method_40_code
def yJx4a65c_clear_da8c8 : MethodName := ⟨RJx4a65c, "clear", "()V"⟩
def J_clr : Jm := (yJx4a65c_clear_da8c8, cJx4a65c_clear_da8c8, 4, none, 0)
abbrev cJx4a65c_rangeCheckForAdd_d00df : ByteArray := prog_24_method_45_code
def yJx4a65c_rangeCheckForAdd_d00df : MethodName := ⟨RJx4a65c, "rangeCheckForAdd", "(I)V"⟩
def J_rng : Jm := (yJx4a65c_rangeCheckForAdd_d00df, cJx4a65c_rangeCheckForAdd_d00df, 2, none, 1)
abbrev cJ8_newLength_cabcc : ByteArray := prog_31_method_27_code
def yJ8_newLength_cabcc : MethodName := ⟨RJ8, "newLength", "(III)I"⟩
def J_nle : Jm := (yJ8_newLength_cabcc, cJ8_newLength_cabcc, 4, (some .int), 3)
abbrev cJ7_copyOf_1904c : ByteArray := prog_25_method_119_code
def yJ7_copyOf_1904c : MethodName := ⟨RJ7, "copyOf", "([Ljava/lang/Object;I)[Ljava/lang/Object;"⟩
def J_co2 : Jm := (yJ7_copyOf_1904c, cJ7_copyOf_1904c, 2, (some (.array (.object "java/lang/Object"))), 2)
abbrev cJ7_copyOf_6403c : ByteArray := prog_25_method_120_code
def yJ7_copyOf_6403c : MethodName := ⟨RJ7, "copyOf", "([Ljava/lang/Object;ILjava/lang/Class;)[Ljava/lang/Object;"⟩
def J_co3 : Jm := (yJ7_copyOf_6403c, cJ7_copyOf_6403c, 4, (some (.array (.object "java/lang/Object"))), 3)
abbrev cJ7_copyOf_9075b : ByteArray := prog_25_method_121_code
def yJ7_copyOf_9075b : MethodName := ⟨RJ7, "copyOf", "([BI)[B"⟩
def J_cob : Jm := (yJ7_copyOf_9075b, cJ7_copyOf_9075b, 3, (some (.array .byte)), 2)
theorem d_len_0 : decode J_len.2.1 0 = .ok (.aload_n 0, 1) := by decide +kernel
theorem d_len_1 : decode J_len.2.1 1 = .ok (.getfield 9, 3) := by decide +kernel
theorem d_len_4 : decode J_len.2.1 4 = .ok (.arraylength, 1) := by decide +kernel
theorem d_len_5 : decode J_len.2.1 5 = .ok (.aload_n 0, 1) := by decide +kernel
theorem d_len_6 : decode J_len.2.1 6 = .ok (.invokevirtual 335, 3) := by decide +kernel
theorem d_len_9 : decode J_len.2.1 9 = .ok (.ishr, 1) := by decide +kernel
theorem d_len_10 : decode J_len.2.1 10 = .ok (.ireturn, 1) := by decide +kernel
theorem d_chA_0 : decode J_chA.2.1 0 = .ok (.aload_n 0, 1) := by decide +kernel
theorem d_chA_1 : decode J_chA.2.1 1 = .ok (.invokevirtual 492, 3) := by decide +kernel
theorem d_chA_4 : decode J_chA.2.1 4 = .ok (.ifCond .eq 12, 3) := by decide +kernel
theorem d_chA_7 : decode J_chA.2.1 7 = .ok (.aload_n 0, 1) := by decide +kernel
theorem d_chA_8 : decode J_chA.2.1 8 = .ok (.getfield 9, 3) := by decide +kernel
theorem d_chA_11 : decode J_chA.2.1 11 = .ok (.iload_n 1, 1) := by decide +kernel
theorem d_chA_12 : decode J_chA.2.1 12 = .ok (.invokestatic 495, 3) := by decide +kernel
theorem d_chA_15 : decode J_chA.2.1 15 = .ok (.ireturn, 1) := by decide +kernel
theorem d_chA_16 : decode J_chA.2.1 16 = .ok (.aload_n 0, 1) := by decide +kernel
theorem d_chA_17 : decode J_chA.2.1 17 = .ok (.getfield 9, 3) := by decide +kernel
theorem d_chA_20 : decode J_chA.2.1 20 = .ok (.iload_n 1, 1) := by decide +kernel
theorem d_chA_21 : decode J_chA.2.1 21 = .ok (.invokestatic 498, 3) := by decide +kernel
theorem d_chA_24 : decode J_chA.2.1 24 = .ok (.ireturn, 1) := by decide +kernel
theorem d_cod_0 : decode J_cod.2.1 0 = .ok (.getstatic 38, 3) := by decide +kernel
theorem d_cod_3 : decode J_cod.2.1 3 = .ok (.ifCond .eq 10, 3) := by decide +kernel
theorem d_cod_6 : decode J_cod.2.1 6 = .ok (.aload_n 0, 1) := by decide +kernel
theorem d_cod_7 : decode J_cod.2.1 7 = .ok (.getfield 15, 3) := by decide +kernel
theorem d_cod_10 : decode J_cod.2.1 10 = .ok (.goto 4, 3) := by decide +kernel
theorem d_cod_13 : decode J_cod.2.1 13 = .ok (.iconst 1, 1) := by decide +kernel
theorem d_cod_14 : decode J_cod.2.1 14 = .ok (.ireturn, 1) := by decide +kernel
theorem d_lat_0 : decode J_lat.2.1 0 = .ok (.getstatic 38, 3) := by decide +kernel
theorem d_lat_3 : decode J_lat.2.1 3 = .ok (.ifCond .eq 14, 3) := by decide +kernel
theorem d_lat_6 : decode J_lat.2.1 6 = .ok (.aload_n 0, 1) := by decide +kernel
theorem d_lat_7 : decode J_lat.2.1 7 = .ok (.getfield 15, 3) := by decide +kernel
theorem d_lat_10 : decode J_lat.2.1 10 = .ok (.ifCond .ne 7, 3) := by decide +kernel
theorem d_lat_13 : decode J_lat.2.1 13 = .ok (.iconst 1, 1) := by decide +kernel
theorem d_lat_14 : decode J_lat.2.1 14 = .ok (.goto 4, 3) := by decide +kernel
theorem d_lat_17 : decode J_lat.2.1 17 = .ok (.iconst 0, 1) := by decide +kernel
theorem d_lat_18 : decode J_lat.2.1 18 = .ok (.ireturn, 1) := by decide +kernel
theorem d_sck_0 : decode J_sck.2.1 0 = .ok (.iload_n 0, 1) := by decide +kernel
theorem d_sck_1 : decode J_sck.2.1 1 = .ok (.iload_n 1, 1) := by decide +kernel
theorem d_sck_2 : decode J_sck.2.1 2 = .ok (.getstatic 1053, 3) := by decide +kernel
theorem d_sck_5 : decode J_sck.2.1 5 = .ok (.invokestatic 1059, 3) := by decide +kernel
theorem d_sck_8 : decode J_sck.2.1 8 = .ok (.pop, 1) := by decide +kernel
theorem d_sck_9 : decode J_sck.2.1 9 = .ok (.return_, 1) := by decide +kernel
theorem d_lch_0 : decode J_lch.2.1 0 = .ok (.iload_n 1, 1) := by decide +kernel
theorem d_lch_1 : decode J_lch.2.1 1 = .ok (.aload_n 0, 1) := by decide +kernel
theorem d_lch_2 : decode J_lch.2.1 2 = .ok (.arraylength, 1) := by decide +kernel
theorem d_lch_3 : decode J_lch.2.1 3 = .ok (.invokestatic 9, 3) := by decide +kernel
theorem d_lch_6 : decode J_lch.2.1 6 = .ok (.aload_n 0, 1) := by decide +kernel
theorem d_lch_7 : decode J_lch.2.1 7 = .ok (.iload_n 1, 1) := by decide +kernel
theorem d_lch_8 : decode J_lch.2.1 8 = .ok (.baload, 1) := by decide +kernel
theorem d_lch_9 : decode J_lch.2.1 9 = .ok (.sipush 255, 3) := by decide +kernel
theorem d_lch_12 : decode J_lch.2.1 12 = .ok (.iand, 1) := by decide +kernel
theorem d_lch_13 : decode J_lch.2.1 13 = .ok (.i2c, 1) := by decide +kernel
theorem d_lch_14 : decode J_lch.2.1 14 = .ok (.ireturn, 1) := by decide +kernel
theorem d_pck_0 : decode J_pck.2.1 0 = .ok (.iload_n 0, 1) := by decide +kernel
theorem d_pck_1 : decode J_pck.2.1 1 = .ok (.ifCond .lt 8, 3) := by decide +kernel
theorem d_pck_4 : decode J_pck.2.1 4 = .ok (.iload_n 0, 1) := by decide +kernel
theorem d_pck_5 : decode J_pck.2.1 5 = .ok (.iload_n 1, 1) := by decide +kernel
theorem d_pck_6 : decode J_pck.2.1 6 = .ok (.if_icmp .lt 10, 3) := by decide +kernel
theorem d_pck_9 : decode J_pck.2.1 9 = .ok (.aload_n 2, 1) := by decide +kernel
theorem d_pck_10 : decode J_pck.2.1 10 = .ok (.iload_n 0, 1) := by decide +kernel
theorem d_pck_11 : decode J_pck.2.1 11 = .ok (.iload_n 1, 1) := by decide +kernel
theorem d_pck_12 : decode J_pck.2.1 12 = .ok (.invokestatic 95, 3) := by decide +kernel
theorem d_pck_15 : decode J_pck.2.1 15 = .ok (.athrow, 1) := by decide +kernel
theorem d_pck_16 : decode J_pck.2.1 16 = .ok (.iload_n 0, 1) := by decide +kernel
theorem d_pck_17 : decode J_pck.2.1 17 = .ok (.ireturn, 1) := by decide +kernel
theorem d_ock_0 : decode J_ock.2.1 0 = .ok (.iload_n 0, 1) := by decide +kernel
theorem d_ock_1 : decode J_ock.2.1 1 = .ok (.iload_n 1, 1) := by decide +kernel
theorem d_ock_2 : decode J_ock.2.1 2 = .ok (.aconst_null, 1) := by decide +kernel
theorem d_ock_3 : decode J_ock.2.1 3 = .ok (.invokestatic 105, 3) := by decide +kernel
theorem d_ock_6 : decode J_ock.2.1 6 = .ok (.ireturn, 1) := by decide +kernel
theorem d_aci_0 : decode J_aci.2.1 0 = .ok (.aload_n 0, 1) := by decide +kernel
theorem d_aci_1 : decode J_aci.2.1 1 = .ok (.invokespecial 1, 3) := by decide +kernel
theorem d_aci_4 : decode J_aci.2.1 4 = .ok (.return_, 1) := by decide +kernel
theorem d_ali_0 : decode J_ali.2.1 0 = .ok (.aload_n 0, 1) := by decide +kernel
theorem d_ali_1 : decode J_ali.2.1 1 = .ok (.invokespecial 1, 3) := by decide +kernel
theorem d_ali_4 : decode J_ali.2.1 4 = .ok (.aload_n 0, 1) := by decide +kernel
theorem d_ali_5 : decode J_ali.2.1 5 = .ok (.iconst 0, 1) := by decide +kernel
theorem d_ali_6 : decode J_ali.2.1 6 = .ok (.putfield 7, 3) := by decide +kernel
theorem d_ali_9 : decode J_ali.2.1 9 = .ok (.return_, 1) := by decide +kernel
theorem d_ini_0 : decode J_ini.2.1 0 = .ok (.aload_n 0, 1) := by decide +kernel
theorem d_ini_1 : decode J_ini.2.1 1 = .ok (.invokespecial 1, 3) := by decide +kernel
theorem d_ini_4 : decode J_ini.2.1 4 = .ok (.aload_n 0, 1) := by decide +kernel
theorem d_ini_5 : decode J_ini.2.1 5 = .ok (.getstatic 39, 3) := by decide +kernel
theorem d_ini_8 : decode J_ini.2.1 8 = .ok (.putfield 9, 3) := by decide +kernel
theorem d_ini_11 : decode J_ini.2.1 11 = .ok (.return_, 1) := by decide +kernel
theorem d_gr1_0 : decode J_gr1.2.1 0 = .ok (.aload_n 0, 1) := by decide +kernel
theorem d_gr1_1 : decode J_gr1.2.1 1 = .ok (.getfield 9, 3) := by decide +kernel
theorem d_gr1_4 : decode J_gr1.2.1 4 = .ok (.arraylength, 1) := by decide +kernel
theorem d_gr1_5 : decode J_gr1.2.1 5 = .ok (.istore_n 2, 1) := by decide +kernel
theorem d_gr1_6 : decode J_gr1.2.1 6 = .ok (.iload_n 2, 1) := by decide +kernel
theorem d_gr1_7 : decode J_gr1.2.1 7 = .ok (.ifCond .gt 13, 3) := by decide +kernel
theorem d_gr1_10 : decode J_gr1.2.1 10 = .ok (.aload_n 0, 1) := by decide +kernel
theorem d_gr1_11 : decode J_gr1.2.1 11 = .ok (.getfield 9, 3) := by decide +kernel
theorem d_gr1_14 : decode J_gr1.2.1 14 = .ok (.getstatic 39, 3) := by decide +kernel
theorem d_gr1_17 : decode J_gr1.2.1 17 = .ok (.if_acmp .eq 28, 3) := by decide +kernel
theorem d_gr1_20 : decode J_gr1.2.1 20 = .ok (.iload_n 2, 1) := by decide +kernel
theorem d_gr1_21 : decode J_gr1.2.1 21 = .ok (.iload_n 1, 1) := by decide +kernel
theorem d_gr1_22 : decode J_gr1.2.1 22 = .ok (.iload_n 2, 1) := by decide +kernel
theorem d_gr1_23 : decode J_gr1.2.1 23 = .ok (.isub, 1) := by decide +kernel
theorem d_gr1_24 : decode J_gr1.2.1 24 = .ok (.iload_n 2, 1) := by decide +kernel
theorem d_gr1_25 : decode J_gr1.2.1 25 = .ok (.iconst 1, 1) := by decide +kernel
theorem d_gr1_26 : decode J_gr1.2.1 26 = .ok (.ishr, 1) := by decide +kernel
theorem d_gr1_27 : decode J_gr1.2.1 27 = .ok (.invokestatic 73, 3) := by decide +kernel
theorem d_gr1_30 : decode J_gr1.2.1 30 = .ok (.istore_n 3, 1) := by decide +kernel
theorem d_gr1_31 : decode J_gr1.2.1 31 = .ok (.aload_n 0, 1) := by decide +kernel
theorem d_gr1_32 : decode J_gr1.2.1 32 = .ok (.aload_n 0, 1) := by decide +kernel
theorem d_gr1_33 : decode J_gr1.2.1 33 = .ok (.getfield 9, 3) := by decide +kernel
theorem d_gr1_36 : decode J_gr1.2.1 36 = .ok (.iload_n 3, 1) := by decide +kernel
theorem d_gr1_37 : decode J_gr1.2.1 37 = .ok (.invokestatic 66, 3) := by decide +kernel
theorem d_gr1_40 : decode J_gr1.2.1 40 = .ok (.dup_x1, 1) := by decide +kernel
theorem d_gr1_41 : decode J_gr1.2.1 41 = .ok (.putfield 9, 3) := by decide +kernel
theorem d_gr1_44 : decode J_gr1.2.1 44 = .ok (.areturn, 1) := by decide +kernel
theorem d_gr1_45 : decode J_gr1.2.1 45 = .ok (.aload_n 0, 1) := by decide +kernel
theorem d_gr1_46 : decode J_gr1.2.1 46 = .ok (.bipush 10, 2) := by decide +kernel
theorem d_gr1_48 : decode J_gr1.2.1 48 = .ok (.iload_n 1, 1) := by decide +kernel
theorem d_gr1_49 : decode J_gr1.2.1 49 = .ok (.invokestatic 79, 3) := by decide +kernel
theorem d_gr1_52 : decode J_gr1.2.1 52 = .ok (.anewarray 7, 3) := by decide +kernel
theorem d_gr1_55 : decode J_gr1.2.1 55 = .ok (.dup_x1, 1) := by decide +kernel
theorem d_gr1_56 : decode J_gr1.2.1 56 = .ok (.putfield 9, 3) := by decide +kernel
theorem d_gr1_59 : decode J_gr1.2.1 59 = .ok (.areturn, 1) := by decide +kernel
theorem d_gr0_0 : decode J_gr0.2.1 0 = .ok (.aload_n 0, 1) := by decide +kernel
theorem d_gr0_1 : decode J_gr0.2.1 1 = .ok (.aload_n 0, 1) := by decide +kernel
theorem d_gr0_2 : decode J_gr0.2.1 2 = .ok (.getfield 48, 3) := by decide +kernel
theorem d_gr0_5 : decode J_gr0.2.1 5 = .ok (.iconst 1, 1) := by decide +kernel
theorem d_gr0_6 : decode J_gr0.2.1 6 = .ok (.iadd, 1) := by decide +kernel
theorem d_gr0_7 : decode J_gr0.2.1 7 = .ok (.invokevirtual 69, 3) := by decide +kernel
theorem d_gr0_10 : decode J_gr0.2.1 10 = .ok (.areturn, 1) := by decide +kernel
theorem d_siz_0 : decode J_siz.2.1 0 = .ok (.aload_n 0, 1) := by decide +kernel
theorem d_siz_1 : decode J_siz.2.1 1 = .ok (.getfield 48, 3) := by decide +kernel
theorem d_siz_4 : decode J_siz.2.1 4 = .ok (.ireturn, 1) := by decide +kernel
theorem d_eld_0 : decode J_eld.2.1 0 = .ok (.aload_n 0, 1) := by decide +kernel
theorem d_eld_1 : decode J_eld.2.1 1 = .ok (.getfield 9, 3) := by decide +kernel
theorem d_eld_4 : decode J_eld.2.1 4 = .ok (.iload_n 1, 1) := by decide +kernel
theorem d_eld_5 : decode J_eld.2.1 5 = .ok (.aaload, 1) := by decide +kernel
theorem d_eld_6 : decode J_eld.2.1 6 = .ok (.areturn, 1) := by decide +kernel
theorem d_get_0 : decode J_get.2.1 0 = .ok (.iload_n 1, 1) := by decide +kernel
theorem d_get_1 : decode J_get.2.1 1 = .ok (.aload_n 0, 1) := by decide +kernel
theorem d_get_2 : decode J_get.2.1 2 = .ok (.getfield 48, 3) := by decide +kernel
theorem d_get_5 : decode J_get.2.1 5 = .ok (.invokestatic 118, 3) := by decide +kernel
theorem d_get_8 : decode J_get.2.1 8 = .ok (.pop, 1) := by decide +kernel
theorem d_get_9 : decode J_get.2.1 9 = .ok (.aload_n 0, 1) := by decide +kernel
theorem d_get_10 : decode J_get.2.1 10 = .ok (.iload_n 1, 1) := by decide +kernel
theorem d_get_11 : decode J_get.2.1 11 = .ok (.invokevirtual 123, 3) := by decide +kernel
theorem d_get_14 : decode J_get.2.1 14 = .ok (.areturn, 1) := by decide +kernel
theorem d_add_0 : decode J_add.2.1 0 = .ok (.aload_n 0, 1) := by decide +kernel
theorem d_add_1 : decode J_add.2.1 1 = .ok (.iload_n 1, 1) := by decide +kernel
theorem d_add_2 : decode J_add.2.1 2 = .ok (.invokevirtual 135, 3) := by decide +kernel
theorem d_add_5 : decode J_add.2.1 5 = .ok (.aload_n 0, 1) := by decide +kernel
theorem d_add_6 : decode J_add.2.1 6 = .ok (.dup, 1) := by decide +kernel
theorem d_add_7 : decode J_add.2.1 7 = .ok (.getfield 63, 3) := by decide +kernel
theorem d_add_10 : decode J_add.2.1 10 = .ok (.iconst 1, 1) := by decide +kernel
theorem d_add_11 : decode J_add.2.1 11 = .ok (.iadd, 1) := by decide +kernel
theorem d_add_12 : decode J_add.2.1 12 = .ok (.putfield 63, 3) := by decide +kernel
theorem d_add_15 : decode J_add.2.1 15 = .ok (.aload_n 0, 1) := by decide +kernel
theorem d_add_16 : decode J_add.2.1 16 = .ok (.getfield 48, 3) := by decide +kernel
theorem d_add_19 : decode J_add.2.1 19 = .ok (.dup, 1) := by decide +kernel
theorem d_add_20 : decode J_add.2.1 20 = .ok (.istore_n 3, 1) := by decide +kernel
theorem d_add_21 : decode J_add.2.1 21 = .ok (.aload_n 0, 1) := by decide +kernel
theorem d_add_22 : decode J_add.2.1 22 = .ok (.getfield 9, 3) := by decide +kernel
theorem d_add_25 : decode J_add.2.1 25 = .ok (.dup, 1) := by decide +kernel
theorem d_add_26 : decode J_add.2.1 26 = .ok (.astore 4, 2) := by decide +kernel
theorem d_add_28 : decode J_add.2.1 28 = .ok (.arraylength, 1) := by decide +kernel
theorem d_add_29 : decode J_add.2.1 29 = .ok (.if_icmp .ne 9, 3) := by decide +kernel
theorem d_add_32 : decode J_add.2.1 32 = .ok (.aload_n 0, 1) := by decide +kernel
theorem d_add_33 : decode J_add.2.1 33 = .ok (.invokevirtual 129, 3) := by decide +kernel
theorem d_add_36 : decode J_add.2.1 36 = .ok (.astore 4, 2) := by decide +kernel
theorem d_add_38 : decode J_add.2.1 38 = .ok (.aload 4, 2) := by decide +kernel
theorem d_add_40 : decode J_add.2.1 40 = .ok (.iload_n 1, 1) := by decide +kernel
theorem d_add_41 : decode J_add.2.1 41 = .ok (.aload 4, 2) := by decide +kernel
theorem d_add_43 : decode J_add.2.1 43 = .ok (.iload_n 1, 1) := by decide +kernel
theorem d_add_44 : decode J_add.2.1 44 = .ok (.iconst 1, 1) := by decide +kernel
theorem d_add_45 : decode J_add.2.1 45 = .ok (.iadd, 1) := by decide +kernel
theorem d_add_46 : decode J_add.2.1 46 = .ok (.iload_n 3, 1) := by decide +kernel
theorem d_add_47 : decode J_add.2.1 47 = .ok (.iload_n 1, 1) := by decide +kernel
theorem d_add_48 : decode J_add.2.1 48 = .ok (.isub, 1) := by decide +kernel
theorem d_add_49 : decode J_add.2.1 49 = .ok (.invokestatic 112, 3) := by decide +kernel
theorem d_add_52 : decode J_add.2.1 52 = .ok (.aload 4, 2) := by decide +kernel
theorem d_add_54 : decode J_add.2.1 54 = .ok (.iload_n 1, 1) := by decide +kernel
theorem d_add_55 : decode J_add.2.1 55 = .ok (.aload_n 2, 1) := by decide +kernel
theorem d_add_56 : decode J_add.2.1 56 = .ok (.aastore, 1) := by decide +kernel
theorem d_add_57 : decode J_add.2.1 57 = .ok (.aload_n 0, 1) := by decide +kernel
theorem d_add_58 : decode J_add.2.1 58 = .ok (.iload_n 3, 1) := by decide +kernel
theorem d_add_59 : decode J_add.2.1 59 = .ok (.iconst 1, 1) := by decide +kernel
theorem d_add_60 : decode J_add.2.1 60 = .ok (.iadd, 1) := by decide +kernel
theorem d_add_61 : decode J_add.2.1 61 = .ok (.putfield 48, 3) := by decide +kernel
theorem d_add_64 : decode J_add.2.1 64 = .ok (.return_, 1) := by decide +kernel
theorem d_clr_0 : decode J_clr.2.1 0 = .ok (.aload_n 0, 1) := by decide +kernel
theorem d_clr_1 : decode J_clr.2.1 1 = .ok (.dup, 1) := by decide +kernel
theorem d_clr_2 : decode J_clr.2.1 2 = .ok (.getfield 63, 3) := by decide +kernel
theorem d_clr_5 : decode J_clr.2.1 5 = .ok (.iconst 1, 1) := by decide +kernel
theorem d_clr_6 : decode J_clr.2.1 6 = .ok (.iadd, 1) := by decide +kernel
theorem d_clr_7 : decode J_clr.2.1 7 = .ok (.putfield 63, 3) := by decide +kernel
theorem d_clr_10 : decode J_clr.2.1 10 = .ok (.aload_n 0, 1) := by decide +kernel
theorem d_clr_11 : decode J_clr.2.1 11 = .ok (.getfield 9, 3) := by decide +kernel
theorem d_clr_14 : decode J_clr.2.1 14 = .ok (.astore_n 1, 1) := by decide +kernel
theorem d_clr_15 : decode J_clr.2.1 15 = .ok (.aload_n 0, 1) := by decide +kernel
theorem d_clr_16 : decode J_clr.2.1 16 = .ok (.getfield 48, 3) := by decide +kernel
theorem d_clr_19 : decode J_clr.2.1 19 = .ok (.istore_n 2, 1) := by decide +kernel
theorem d_clr_20 : decode J_clr.2.1 20 = .ok (.aload_n 0, 1) := by decide +kernel
theorem d_clr_21 : decode J_clr.2.1 21 = .ok (.iconst 0, 1) := by decide +kernel
theorem d_clr_22 : decode J_clr.2.1 22 = .ok (.dup_x1, 1) := by decide +kernel
theorem d_clr_23 : decode J_clr.2.1 23 = .ok (.putfield 48, 3) := by decide +kernel
theorem d_clr_26 : decode J_clr.2.1 26 = .ok (.istore_n 3, 1) := by decide +kernel
theorem d_clr_27 : decode J_clr.2.1 27 = .ok (.iload_n 3, 1) := by decide +kernel
theorem d_clr_28 : decode J_clr.2.1 28 = .ok (.iload_n 2, 1) := by decide +kernel
theorem d_clr_29 : decode J_clr.2.1 29 = .ok (.if_icmp .ge 13, 3) := by decide +kernel
theorem d_clr_32 : decode J_clr.2.1 32 = .ok (.aload_n 1, 1) := by decide +kernel
theorem d_clr_33 : decode J_clr.2.1 33 = .ok (.iload_n 3, 1) := by decide +kernel
theorem d_clr_34 : decode J_clr.2.1 34 = .ok (.aconst_null, 1) := by decide +kernel
theorem d_clr_35 : decode J_clr.2.1 35 = .ok (.aastore, 1) := by decide +kernel
theorem d_clr_36 : decode J_clr.2.1 36 = .ok (.iinc 3 1, 3) := by decide +kernel
theorem d_clr_39 : decode J_clr.2.1 39 = .ok (.goto (-12), 3) := by decide +kernel
theorem d_clr_42 : decode J_clr.2.1 42 = .ok (.return_, 1) := by decide +kernel
theorem d_rng_0 : decode J_rng.2.1 0 = .ok (.iload_n 1, 1) := by decide +kernel
theorem d_rng_1 : decode J_rng.2.1 1 = .ok (.aload_n 0, 1) := by decide +kernel
theorem d_rng_2 : decode J_rng.2.1 2 = .ok (.getfield 48, 3) := by decide +kernel
theorem d_rng_5 : decode J_rng.2.1 5 = .ok (.if_icmp .gt 7, 3) := by decide +kernel
theorem d_rng_8 : decode J_rng.2.1 8 = .ok (.iload_n 1, 1) := by decide +kernel
theorem d_rng_9 : decode J_rng.2.1 9 = .ok (.ifCond .ge 16, 3) := by decide +kernel
theorem d_rng_12 : decode J_rng.2.1 12 = .ok (.new 187, 3) := by decide +kernel
theorem d_rng_15 : decode J_rng.2.1 15 = .ok (.dup, 1) := by decide +kernel
theorem d_rng_16 : decode J_rng.2.1 16 = .ok (.aload_n 0, 1) := by decide +kernel
theorem d_rng_17 : decode J_rng.2.1 17 = .ok (.iload_n 1, 1) := by decide +kernel
theorem d_rng_18 : decode J_rng.2.1 18 = .ok (.invokevirtual 198, 3) := by decide +kernel
theorem d_rng_21 : decode J_rng.2.1 21 = .ok (.invokespecial 193, 3) := by decide +kernel
theorem d_rng_24 : decode J_rng.2.1 24 = .ok (.athrow, 1) := by decide +kernel
theorem d_rng_25 : decode J_rng.2.1 25 = .ok (.return_, 1) := by decide +kernel
theorem d_nle_0 : decode J_nle.2.1 0 = .ok (.iload_n 0, 1) := by decide +kernel
theorem d_nle_1 : decode J_nle.2.1 1 = .ok (.iload_n 1, 1) := by decide +kernel
theorem d_nle_2 : decode J_nle.2.1 2 = .ok (.iload_n 2, 1) := by decide +kernel
theorem d_nle_3 : decode J_nle.2.1 3 = .ok (.invokestatic 194, 3) := by decide +kernel
theorem d_nle_6 : decode J_nle.2.1 6 = .ok (.iadd, 1) := by decide +kernel
theorem d_nle_7 : decode J_nle.2.1 7 = .ok (.istore_n 3, 1) := by decide +kernel
theorem d_nle_8 : decode J_nle.2.1 8 = .ok (.iconst 0, 1) := by decide +kernel
theorem d_nle_9 : decode J_nle.2.1 9 = .ok (.iload_n 3, 1) := by decide +kernel
theorem d_nle_10 : decode J_nle.2.1 10 = .ok (.if_icmp .ge 11, 3) := by decide +kernel
theorem d_nle_13 : decode J_nle.2.1 13 = .ok (.iload_n 3, 1) := by decide +kernel
theorem d_nle_14 : decode J_nle.2.1 14 = .ok (.ldc 200, 2) := by decide +kernel
theorem d_nle_16 : decode J_nle.2.1 16 = .ok (.if_icmp .gt 5, 3) := by decide +kernel
theorem d_nle_19 : decode J_nle.2.1 19 = .ok (.iload_n 3, 1) := by decide +kernel
theorem d_nle_20 : decode J_nle.2.1 20 = .ok (.ireturn, 1) := by decide +kernel
theorem d_nle_21 : decode J_nle.2.1 21 = .ok (.iload_n 0, 1) := by decide +kernel
theorem d_nle_22 : decode J_nle.2.1 22 = .ok (.iload_n 1, 1) := by decide +kernel
theorem d_nle_23 : decode J_nle.2.1 23 = .ok (.invokestatic 201, 3) := by decide +kernel
theorem d_nle_26 : decode J_nle.2.1 26 = .ok (.ireturn, 1) := by decide +kernel
theorem d_co2_0 : decode J_co2.2.1 0 = .ok (.aload_n 0, 1) := by decide +kernel
theorem d_co2_1 : decode J_co2.2.1 1 = .ok (.iload_n 1, 1) := by decide +kernel
theorem d_co2_2 : decode J_co2.2.1 2 = .ok (.aload_n 0, 1) := by decide +kernel
theorem d_co2_3 : decode J_co2.2.1 3 = .ok (.invokevirtual 86, 3) := by decide +kernel
theorem d_co2_6 : decode J_co2.2.1 6 = .ok (.invokestatic 300, 3) := by decide +kernel
theorem d_co2_9 : decode J_co2.2.1 9 = .ok (.areturn, 1) := by decide +kernel
theorem d_co3_0 : decode J_co3.2.1 0 = .ok (.aload_n 2, 1) := by decide +kernel
theorem d_co3_1 : decode J_co3.2.1 1 = .ok (.ldc 110, 2) := by decide +kernel
theorem d_co3_3 : decode J_co3.2.1 3 = .ok (.if_acmp .ne 10, 3) := by decide +kernel
theorem d_co3_6 : decode J_co3.2.1 6 = .ok (.iload_n 1, 1) := by decide +kernel
theorem d_co3_7 : decode J_co3.2.1 7 = .ok (.anewarray 2, 3) := by decide +kernel
theorem d_co3_10 : decode J_co3.2.1 10 = .ok (.goto 14, 3) := by decide +kernel
theorem d_co3_13 : decode J_co3.2.1 13 = .ok (.aload_n 2, 1) := by decide +kernel
theorem d_co3_14 : decode J_co3.2.1 14 = .ok (.invokevirtual 90, 3) := by decide +kernel
theorem d_co3_17 : decode J_co3.2.1 17 = .ok (.iload_n 1, 1) := by decide +kernel
theorem d_co3_18 : decode J_co3.2.1 18 = .ok (.invokestatic 95, 3) := by decide +kernel
theorem d_co3_21 : decode J_co3.2.1 21 = .ok (.checkcast 110, 3) := by decide +kernel
theorem d_co3_24 : decode J_co3.2.1 24 = .ok (.astore_n 3, 1) := by decide +kernel
theorem d_co3_25 : decode J_co3.2.1 25 = .ok (.aload_n 0, 1) := by decide +kernel
theorem d_co3_26 : decode J_co3.2.1 26 = .ok (.iconst 0, 1) := by decide +kernel
theorem d_co3_27 : decode J_co3.2.1 27 = .ok (.aload_n 3, 1) := by decide +kernel
theorem d_co3_28 : decode J_co3.2.1 28 = .ok (.iconst 0, 1) := by decide +kernel
theorem d_co3_29 : decode J_co3.2.1 29 = .ok (.aload_n 0, 1) := by decide +kernel
theorem d_co3_30 : decode J_co3.2.1 30 = .ok (.arraylength, 1) := by decide +kernel
theorem d_co3_31 : decode J_co3.2.1 31 = .ok (.iload_n 1, 1) := by decide +kernel
theorem d_co3_32 : decode J_co3.2.1 32 = .ok (.invokestatic 304, 3) := by decide +kernel
theorem d_co3_35 : decode J_co3.2.1 35 = .ok (.invokestatic 150, 3) := by decide +kernel
theorem d_co3_38 : decode J_co3.2.1 38 = .ok (.aload_n 3, 1) := by decide +kernel
theorem d_co3_39 : decode J_co3.2.1 39 = .ok (.areturn, 1) := by decide +kernel
theorem d_cob_0 : decode J_cob.2.1 0 = .ok (.iload_n 1, 1) := by decide +kernel
theorem d_cob_1 : decode J_cob.2.1 1 = .ok (.aload_n 0, 1) := by decide +kernel
theorem d_cob_2 : decode J_cob.2.1 2 = .ok (.arraylength, 1) := by decide +kernel
theorem d_cob_3 : decode J_cob.2.1 3 = .ok (.if_icmp .ne 11, 3) := by decide +kernel
theorem d_cob_6 : decode J_cob.2.1 6 = .ok (.aload_n 0, 1) := by decide +kernel
theorem d_cob_7 : decode J_cob.2.1 7 = .ok (.invokevirtual 310, 3) := by decide +kernel
theorem d_cob_10 : decode J_cob.2.1 10 = .ok (.checkcast 311, 3) := by decide +kernel
theorem d_cob_13 : decode J_cob.2.1 13 = .ok (.areturn, 1) := by decide +kernel
theorem d_cob_14 : decode J_cob.2.1 14 = .ok (.iload_n 1, 1) := by decide +kernel
theorem d_cob_15 : decode J_cob.2.1 15 = .ok (.newarray .byte, 2) := by decide +kernel
theorem d_cob_17 : decode J_cob.2.1 17 = .ok (.astore_n 2, 1) := by decide +kernel
theorem d_cob_18 : decode J_cob.2.1 18 = .ok (.aload_n 0, 1) := by decide +kernel
theorem d_cob_19 : decode J_cob.2.1 19 = .ok (.iconst 0, 1) := by decide +kernel
theorem d_cob_20 : decode J_cob.2.1 20 = .ok (.aload_n 2, 1) := by decide +kernel
theorem d_cob_21 : decode J_cob.2.1 21 = .ok (.iconst 0, 1) := by decide +kernel
theorem d_cob_22 : decode J_cob.2.1 22 = .ok (.aload_n 0, 1) := by decide +kernel
theorem d_cob_23 : decode J_cob.2.1 23 = .ok (.arraylength, 1) := by decide +kernel
theorem d_cob_24 : decode J_cob.2.1 24 = .ok (.iload_n 1, 1) := by decide +kernel
theorem d_cob_25 : decode J_cob.2.1 25 = .ok (.invokestatic 304, 3) := by decide +kernel
theorem d_cob_28 : decode J_cob.2.1 28 = .ok (.invokestatic 150, 3) := by decide +kernel
theorem d_cob_31 : decode J_cob.2.1 31 = .ok (.aload_n 2, 1) := by decide +kernel
theorem d_cob_32 : decode J_cob.2.1 32 = .ok (.areturn, 1) := by decide +kernel
def q_jok (J : Jm) : Prop := plainName J.1.cls = true ∧ Cond.code J.1 J.2.1 J.2.2.1 J.2.2.2.1 ∈ gtb ∧ Cond.initialized J.1.cls ∈ gtb ∧ (J.1.cls ≠ "java/lang/invoke/MethodHandle" ∧ J.1.cls ≠ "java/lang/invoke/VarHandle" ∧ (parseMethodDescriptor J.1.desc).map (fun d => d.parameters.length) = some J.2.2.2.2) ∧ J.2.2.1 ≤ 20
theorem jo_len : q_jok J_len := ⟨by decide +kernel, List.mem_filter.mpr ⟨(show Cond.code yJ0_length_8abf5 cJ0_length_8abf5 1 (some .int) ∈ lw_tbl from (List.mem_append_right _ (List.mem_append_left _ (List.mem_of_getElem? (i := 70) rfl)))), rfl⟩, q_g 81 (show lw_tbl[81]? = some (Cond.initialized RJ0) by decide +kernel) rfl, by decide +kernel, by decide⟩
theorem jo_chA : q_jok J_chA := ⟨by decide +kernel, List.mem_filter.mpr ⟨(show Cond.code yJ0_charAt_5068e cJ0_charAt_5068e 2 (some .char) ∈ lw_tbl from (List.mem_append_right _ (List.mem_append_right _ (List.mem_append_left _ (List.mem_of_getElem? (i := 71) rfl))))), rfl⟩, q_g 81 (show lw_tbl[81]? = some (Cond.initialized RJ0) by decide +kernel) rfl, by decide +kernel, by decide⟩
theorem jo_cod : q_jok J_cod := ⟨by decide +kernel, List.mem_filter.mpr ⟨(show Cond.code yJ0_coder_7d493 cJ0_coder_7d493 1 (some .byte) ∈ lw_tbl from (List.mem_append_right _ (List.mem_append_left _ (List.mem_of_getElem? (i := 74) rfl)))), rfl⟩, q_g 81 (show lw_tbl[81]? = some (Cond.initialized RJ0) by decide +kernel) rfl, by decide +kernel, by decide⟩
theorem jo_lat : q_jok J_lat := ⟨by decide +kernel, List.mem_filter.mpr ⟨(show Cond.code yJ0_isLatin1_aae02 cJ0_isLatin1_aae02 1 (some .boolean) ∈ lw_tbl from (List.mem_append_right _ (List.mem_append_right _ (List.mem_append_left _ (List.mem_of_getElem? (i := 75) rfl))))), rfl⟩, q_g 81 (show lw_tbl[81]? = some (Cond.initialized RJ0) by decide +kernel) rfl, by decide +kernel, by decide⟩
theorem jo_sck : q_jok J_sck := ⟨by decide +kernel, List.mem_filter.mpr ⟨(show Cond.code yJ0_checkIndex_df160 cJ0_checkIndex_df160 2 none ∈ lw_tbl from (List.mem_append_right _ (List.mem_append_right _ (List.mem_append_left _ (List.mem_of_getElem? (i := 81) rfl))))), rfl⟩, q_g 81 (show lw_tbl[81]? = some (Cond.initialized RJ0) by decide +kernel) rfl, by decide +kernel, by decide⟩
theorem jo_lch : q_jok J_lch := ⟨by decide +kernel, List.mem_filter.mpr ⟨(show Cond.code yJ1_charAt_3b067 cJ1_charAt_3b067 2 (some .char) ∈ lw_tbl from (List.mem_append_right _ (List.mem_append_right _ (List.mem_append_left _ (List.mem_of_getElem? (i := 78) rfl))))), rfl⟩, q_g 91 (show lw_tbl[91]? = some (Cond.initialized RJ1) by decide +kernel) rfl, by decide +kernel, by decide⟩
theorem jo_pck : q_jok J_pck := ⟨by decide +kernel, List.mem_filter.mpr ⟨(show Cond.code yJ3_checkIndex_8e157 cJ3_checkIndex_8e157 3 (some .int) ∈ lw_tbl from (List.mem_append_right _ (List.mem_append_right _ (List.mem_append_left _ (List.mem_of_getElem? (i := 86) rfl))))), rfl⟩, q_g 92 (show lw_tbl[92]? = some (Cond.initialized RJ3) by decide +kernel) rfl, by decide +kernel, by decide⟩
theorem jo_ock : q_jok J_ock := ⟨by decide +kernel, List.mem_filter.mpr ⟨(show Cond.code yJ15_checkIndex_7cf53 cJ15_checkIndex_7cf53 2 (some .int) ∈ lw_tbl from (List.mem_append_right _ (List.mem_append_right _ (List.mem_append_right _ (List.mem_append_right _ (List.mem_append_left _ (List.mem_of_getElem? (i := 172) rfl))))))), rfl⟩, q_g 99 (show lw_tbl[99]? = some (Cond.initialized RJ15) by decide +kernel) rfl, by decide +kernel, by decide⟩
theorem jo_aci : q_jok J_aci := ⟨by decide +kernel, List.mem_filter.mpr ⟨(show Cond.code yJxa1e45_init_da8c8 cJxa1e45_init_da8c8 1 none ∈ lw_tbl from (List.mem_append_right _ (List.mem_append_left _ (List.mem_of_getElem? (i := 183) rfl)))), rfl⟩, q_g 86 (show lw_tbl[86]? = some (Cond.initialized RJxa1e45) by decide +kernel) rfl, by decide +kernel, by decide⟩
theorem jo_ali : q_jok J_ali := ⟨by decide +kernel, List.mem_filter.mpr ⟨(show Cond.code yJxc12de_init_da8c8 cJxc12de_init_da8c8 1 none ∈ lw_tbl from (List.mem_append_right _ (List.mem_append_left _ (List.mem_of_getElem? (i := 180) rfl)))), rfl⟩, q_g 87 (show lw_tbl[87]? = some (Cond.initialized RJxc12de) by decide +kernel) rfl, by decide +kernel, by decide⟩
theorem jo_ini : q_jok J_ini := ⟨by decide +kernel, List.mem_filter.mpr ⟨(show Cond.code yJx4a65c_init_da8c8 cJx4a65c_init_da8c8 1 none ∈ lw_tbl from (List.mem_append_right _ (List.mem_append_left _ (List.mem_of_getElem? (i := 177) rfl)))), rfl⟩, q_g 88 (show lw_tbl[88]? = some (Cond.initialized RJx4a65c) by decide +kernel) rfl, by decide +kernel, by decide⟩
theorem jo_gr1 : q_jok J_gr1 := ⟨by decide +kernel, List.mem_filter.mpr ⟨(show Cond.code yJx4a65c_grow_92f84 cJx4a65c_grow_92f84 4 (some (.array (.object "java/lang/Object"))) ∈ lw_tbl from (List.mem_append_right _ (List.mem_append_right _ (List.mem_append_right _ (List.mem_append_right _ (List.mem_append_left _ (List.mem_of_getElem? (i := 199) rfl))))))), rfl⟩, q_g 88 (show lw_tbl[88]? = some (Cond.initialized RJx4a65c) by decide +kernel) rfl, by decide +kernel, by decide⟩
theorem jo_gr0 : q_jok J_gr0 := ⟨by decide +kernel, List.mem_filter.mpr ⟨(show Cond.code yJx4a65c_grow_d5877 cJx4a65c_grow_d5877 1 (some (.array (.object "java/lang/Object"))) ∈ lw_tbl from (List.mem_append_right _ (List.mem_append_right _ (List.mem_append_right _ (List.mem_append_right _ (List.mem_append_left _ (List.mem_of_getElem? (i := 195) rfl))))))), rfl⟩, q_g 88 (show lw_tbl[88]? = some (Cond.initialized RJx4a65c) by decide +kernel) rfl, by decide +kernel, by decide⟩
theorem jo_siz : q_jok J_siz := ⟨by decide +kernel, List.mem_filter.mpr ⟨(show Cond.code yJx4a65c_size_8abf5 cJx4a65c_size_8abf5 1 (some .int) ∈ lw_tbl from (List.mem_append_right _ (List.mem_append_right _ (List.mem_append_right _ (List.mem_append_right _ (List.mem_append_left _ (List.mem_of_getElem? (i := 165) rfl))))))), rfl⟩, q_g 88 (show lw_tbl[88]? = some (Cond.initialized RJx4a65c) by decide +kernel) rfl, by decide +kernel, by decide⟩
theorem jo_eld : q_jok J_eld := ⟨by decide +kernel, List.mem_filter.mpr ⟨(show Cond.code yJx4a65c_elementData_915e3 cJx4a65c_elementData_915e3 2 (some (.object "java/lang/Object")) ∈ lw_tbl from (List.mem_append_right _ (List.mem_append_right _ (List.mem_append_right _ (List.mem_append_right _ (List.mem_append_left _ (List.mem_of_getElem? (i := 177) rfl))))))), rfl⟩, q_g 88 (show lw_tbl[88]? = some (Cond.initialized RJx4a65c) by decide +kernel) rfl, by decide +kernel, by decide⟩
theorem jo_get : q_jok J_get := ⟨by decide +kernel, List.mem_filter.mpr ⟨(show Cond.code yJx4a65c_get_915e3 cJx4a65c_get_915e3 2 (some (.object "java/lang/Object")) ∈ lw_tbl from (List.mem_append_right _ (List.mem_append_right _ (List.mem_append_right _ (List.mem_append_right _ (List.mem_append_left _ (List.mem_of_getElem? (i := 169) rfl))))))), rfl⟩, q_g 88 (show lw_tbl[88]? = some (Cond.initialized RJx4a65c) by decide +kernel) rfl, by decide +kernel, by decide⟩
theorem jo_add : q_jok J_add := ⟨by decide +kernel, List.mem_filter.mpr ⟨(show Cond.code yJx4a65c_add_7a177 cJx4a65c_add_7a177 5 none ∈ lw_tbl from (List.mem_append_right _ (List.mem_append_right _ (List.mem_append_right _ (List.mem_append_right _ (List.mem_append_left _ (List.mem_of_getElem? (i := 187) rfl))))))), rfl⟩, q_g 88 (show lw_tbl[88]? = some (Cond.initialized RJx4a65c) by decide +kernel) rfl, by decide +kernel, by decide⟩
theorem jo_clr : q_jok J_clr := ⟨by decide +kernel, List.mem_filter.mpr ⟨(show Cond.code yJx4a65c_clear_da8c8 cJx4a65c_clear_da8c8 4 none ∈ lw_tbl from (List.mem_append_right _ (List.mem_append_right _ (List.mem_append_right _ (List.mem_append_right _ (List.mem_append_left _ (List.mem_of_getElem? (i := 140) rfl))))))), rfl⟩, q_g 88 (show lw_tbl[88]? = some (Cond.initialized RJx4a65c) by decide +kernel) rfl, by decide +kernel, by decide⟩
theorem jo_rng : q_jok J_rng := ⟨by decide +kernel, List.mem_filter.mpr ⟨(show Cond.code yJx4a65c_rangeCheckForAdd_d00df cJx4a65c_rangeCheckForAdd_d00df 2 none ∈ lw_tbl from (List.mem_append_right _ (List.mem_append_right _ (List.mem_append_right _ (List.mem_append_right _ (List.mem_append_left _ (List.mem_of_getElem? (i := 191) rfl))))))), rfl⟩, q_g 88 (show lw_tbl[88]? = some (Cond.initialized RJx4a65c) by decide +kernel) rfl, by decide +kernel, by decide⟩
theorem jo_nle : q_jok J_nle := ⟨by decide +kernel, List.mem_filter.mpr ⟨(show Cond.code yJ8_newLength_cabcc cJ8_newLength_cabcc 4 (some .int) ∈ lw_tbl from (List.mem_append_right _ (List.mem_append_right _ (List.mem_append_right _ (List.mem_append_right _ (List.mem_append_left _ (List.mem_of_getElem? (i := 202) rfl))))))), rfl⟩, q_g 100 (show lw_tbl[100]? = some (Cond.initialized RJ8) by decide +kernel) rfl, by decide +kernel, by decide⟩
theorem jo_co2 : q_jok J_co2 := ⟨by decide +kernel, List.mem_filter.mpr ⟨(show Cond.code yJ7_copyOf_1904c cJ7_copyOf_1904c 2 (some (.array (.object "java/lang/Object"))) ∈ lw_tbl from (List.mem_append_right _ (List.mem_append_right _ (List.mem_append_right _ (List.mem_append_right _ (List.mem_append_left _ (List.mem_of_getElem? (i := 210) rfl))))))), rfl⟩, q_g 98 (show lw_tbl[98]? = some (Cond.initialized RJ7) by decide +kernel) rfl, by decide +kernel, by decide⟩
theorem jo_co3 : q_jok J_co3 := ⟨by decide +kernel, List.mem_filter.mpr ⟨(show Cond.code yJ7_copyOf_6403c cJ7_copyOf_6403c 4 (some (.array (.object "java/lang/Object"))) ∈ lw_tbl from (List.mem_append_right _ (List.mem_append_right _ (List.mem_append_right _ (List.mem_append_right _ (List.mem_append_left _ (List.mem_of_getElem? (i := 230) rfl))))))), rfl⟩, q_g 98 (show lw_tbl[98]? = some (Cond.initialized RJ7) by decide +kernel) rfl, by decide +kernel, by decide⟩
theorem jo_cob : q_jok J_cob := ⟨by decide +kernel, List.mem_filter.mpr ⟨(show Cond.code yJ7_copyOf_9075b cJ7_copyOf_9075b 3 (some (.array .byte)) ∈ lw_tbl from (List.mem_append_right _ (List.mem_append_right _ (List.mem_append_right _ (List.mem_append_right _ (List.mem_append_left _ (List.mem_of_getElem? (i := 62) rfl))))))), rfl⟩, q_g 98 (show lw_tbl[98]? = some (Cond.initialized RJ7) by decide +kernel) rfl, by decide +kernel, by decide⟩
theorem jl_J0_335 : Cond.methodLink RJ0 335 J_cod.1 ∈ gtb := q_g 147 (by decide +kernel) rfl
theorem jl_Jx4a65c_1 : Cond.methodLink RJx4a65c 1 J_ali.1 ∈ gtb := q_g 254 (by decide +kernel) rfl
theorem jl_Jxc12de_1 : Cond.methodLink RJxc12de 1 J_aci.1 ∈ gtb := q_g 257 (by decide +kernel) rfl
theorem jl_Jxa1e45_1 : Cond.methodLink RJxa1e45 1 objectInit ∈ gtb := q_g 260 (by decide +kernel) rfl
theorem jl_J0_492 : Cond.methodLink RJ0 492 J_lat.1 ∈ gtb := q_g 388 (by decide +kernel) rfl
theorem jl_J0_495 : Cond.methodLink RJ0 495 J_lch.1 ∈ gtb := q_g 392 (by decide +kernel) rfl
theorem jl_J1_9 : Cond.methodLink RJ1 9 J_sck.1 ∈ gtb := q_g 395 (by decide +kernel) rfl
theorem jl_J0_1059 : Cond.methodLink RJ0 1059 J_pck.1 ∈ gtb := q_g 400 (by decide +kernel) rfl
theorem jl_J7_304 : Cond.methodLink RJ7 304 Lib.Math.min.name ∈ gtb := q_g 866 (by decide +kernel) rfl
theorem jl_J7_150 : Cond.methodLink RJ7 150 arraycopyName ∈ gtb := q_g 867 (by decide +kernel) rfl
theorem jl_Jx4a65c_118 : Cond.methodLink RJx4a65c 118 J_ock.1 ∈ gtb := q_g 966 (by decide +kernel) rfl
theorem jl_J15_105 : Cond.methodLink RJ15 105 J_pck.1 ∈ gtb := q_g 969 (by decide +kernel) rfl
theorem jl_Jx4a65c_123 : Cond.methodLink RJx4a65c 123 J_eld.1 ∈ gtb := q_g 970 (by decide +kernel) rfl
theorem jl_Jx4a65c_135 : Cond.methodLink RJx4a65c 135 J_rng.1 ∈ gtb := q_g 984 (by decide +kernel) rfl
theorem jl_Jx4a65c_129 : Cond.methodLink RJx4a65c 129 J_gr0.1 ∈ gtb := q_g 988 (by decide +kernel) rfl
theorem jl_Jx4a65c_69 : Cond.methodLink RJx4a65c 69 J_gr1.1 ∈ gtb := q_g 992 (by decide +kernel) rfl
theorem jl_Jx4a65c_73 : Cond.methodLink RJx4a65c 73 J_nle.1 ∈ gtb := q_g 996 (by decide +kernel) rfl
theorem jl_J8_194 : Cond.methodLink RJ8 194 Lib.Math.max.name ∈ gtb := q_g 999 (by decide +kernel) rfl
theorem jl_Jx4a65c_66 : Cond.methodLink RJx4a65c 66 J_co2.1 ∈ gtb := q_g 1004 (by decide +kernel) rfl
theorem jl_J7_86 : Cond.methodLink RJ7 86 ⟨"java/lang/Object", "getClass", "()Ljava/lang/Class;"⟩ ∈ gtb := q_g 1007 (by decide +kernel) rfl
theorem jl_J7_300 : Cond.methodLink RJ7 300 J_co3.1 ∈ gtb := q_g 1024 (by decide +kernel) rfl
theorem jl_Jx4a65c_79 : Cond.methodLink RJx4a65c 79 Lib.Math.max.name ∈ gtb := q_g 1030 (by decide +kernel) rfl
theorem jl_Jx4a65c_112 : Cond.methodLink RJx4a65c 112 arraycopyName ∈ gtb := q_g 1032 (by decide +kernel) rfl
theorem jf_J0_38 : Cond.fieldLink RJ0 38 "java/lang/String" "COMPACT_STRINGS" "Z" ∈ gtb := q_g 151 (by decide +kernel) rfl
theorem jf_Jx4a65c_39 : Cond.fieldLink RJx4a65c 39 "java/util/ArrayList" "DEFAULTCAPACITY_EMPTY_ELEMENTDATA" "[Ljava/lang/Object;" ∈ gtb := q_g 261 (by decide +kernel) rfl
theorem jf_Jx4a65c_9 : Cond.fieldLink RJx4a65c 9 "java/util/ArrayList" "elementData" "[Ljava/lang/Object;" ∈ gtb := q_g 263 (by decide +kernel) rfl
theorem jf_Jx4a65c_48 : Cond.fieldLink RJx4a65c 48 "java/util/ArrayList" "size" "I" ∈ gtb := q_g 264 (by decide +kernel) rfl
theorem jf_Jxc12de_7 : Cond.fieldLink RJxc12de 7 "java/util/AbstractList" "modCount" "I" ∈ gtb := q_g 265 (by decide +kernel) rfl
theorem jf_Jx4a65c_63 : Cond.fieldLink RJx4a65c 63 "java/util/ArrayList" "modCount" "I" ∈ gtb := q_g 266 (by decide +kernel) rfl
theorem jf_J0_1053 : Cond.fieldLink RJ0 1053 "jdk/internal/util/Preconditions" "SIOOBE_FORMATTER" "Ljava/util/function/BiFunction;" ∈ gtb := q_g 398 (by decide +kernel) rfl
theorem jf_J0_9 : Cond.fieldLink RJ0 9 "java/lang/String" "value" "[B" ∈ gtb := q_g 1549 (by decide +kernel) rfl
theorem jf_J0_15 : Cond.fieldLink RJ0 15 "java/lang/String" "coder" "B" ∈ gtb := q_g 1550 (by decide +kernel) rfl
theorem jc_J7_311 : Cond.classLink RJ7 311 "[B" ∈ gtb := q_g 865 (by decide +kernel) rfl
theorem jc_J7_110 : Cond.classLink RJ7 110 "[Ljava/lang/Object;" ∈ gtb := q_g 1027 (by decide +kernel) rfl
theorem jc_J7_2 : Cond.classLink RJ7 2 "java/lang/Object" ∈ gtb := q_g 1029 (by decide +kernel) rfl
theorem jc_Jx4a65c_7 : Cond.classLink RJx4a65c 7 "java/lang/Object" ∈ gtb := q_g 1031 (by decide +kernel) rfl
theorem ji_len : Cond.instanceMethod J_len.1 ∈ gtb := q_g 144 (by decide +kernel) rfl
theorem jv_len : Cond.selects RJ0 J_len.1 J_len.1 ∈ gtb := q_g 145 (by decide +kernel) rfl
theorem ji_chA : Cond.instanceMethod J_chA.1 ∈ gtb := q_g 385 (by decide +kernel) rfl
theorem jv_chA : Cond.selects RJ0 J_chA.1 J_chA.1 ∈ gtb := q_g 386 (by decide +kernel) rfl
theorem ji_cod : Cond.instanceMethod J_cod.1 ∈ gtb := q_g 148 (by decide +kernel) rfl
theorem jv_cod : Cond.selects RJ0 J_cod.1 J_cod.1 ∈ gtb := q_g 149 (by decide +kernel) rfl
theorem ji_lat : Cond.instanceMethod J_lat.1 ∈ gtb := q_g 389 (by decide +kernel) rfl
theorem jv_lat : Cond.selects RJ0 J_lat.1 J_lat.1 ∈ gtb := q_g 390 (by decide +kernel) rfl
theorem js_sck : Cond.static J_sck.1 ∈ gtb := q_g 396 (by decide +kernel) rfl
theorem js_lch : Cond.static J_lch.1 ∈ gtb := q_g 393 (by decide +kernel) rfl
theorem js_pck : Cond.static J_pck.1 ∈ gtb := q_g 401 (by decide +kernel) rfl
theorem js_ock : Cond.static J_ock.1 ∈ gtb := q_g 967 (by decide +kernel) rfl
theorem ji_aci : Cond.instanceMethod J_aci.1 ∈ gtb := q_g 258 (by decide +kernel) rfl
theorem ji_ali : Cond.instanceMethod J_ali.1 ∈ gtb := q_g 255 (by decide +kernel) rfl
theorem ji_ini : Cond.instanceMethod J_ini.1 ∈ gtb := q_g 252 (by decide +kernel) rfl
theorem ji_gr1 : Cond.instanceMethod J_gr1.1 ∈ gtb := q_g 994 (by decide +kernel) rfl
theorem jv_gr1 : Cond.selects RJx4a65c J_gr1.1 J_gr1.1 ∈ gtb := q_g 33 (by decide +kernel) rfl
theorem ji_gr0 : Cond.instanceMethod J_gr0.1 ∈ gtb := q_g 990 (by decide +kernel) rfl
theorem jv_gr0 : Cond.selects RJx4a65c J_gr0.1 J_gr0.1 ∈ gtb := q_g 32 (by decide +kernel) rfl
theorem ji_siz : Cond.instanceMethod J_siz.1 ∈ gtb := q_g 959 (by decide +kernel) rfl
theorem jv_siz : Cond.selects RJx4a65c J_siz.1 J_siz.1 ∈ gtb := q_g 960 (by decide +kernel) rfl
theorem ji_eld : Cond.instanceMethod J_eld.1 ∈ gtb := q_g 971 (by decide +kernel) rfl
theorem jv_eld : Cond.selects RJx4a65c J_eld.1 J_eld.1 ∈ gtb := q_g 972 (by decide +kernel) rfl
theorem ji_get : Cond.instanceMethod J_get.1 ∈ gtb := q_g 963 (by decide +kernel) rfl
theorem jv_get : Cond.selects RJx4a65c J_get.1 J_get.1 ∈ gtb := q_g 964 (by decide +kernel) rfl
theorem ji_add : Cond.instanceMethod J_add.1 ∈ gtb := q_g 981 (by decide +kernel) rfl
theorem jv_add : Cond.selects RJx4a65c J_add.1 J_add.1 ∈ gtb := q_g 982 (by decide +kernel) rfl
theorem ji_clr : Cond.instanceMethod J_clr.1 ∈ gtb := q_g 934 (by decide +kernel) rfl
theorem jv_clr : Cond.selects RJx4a65c J_clr.1 J_clr.1 ∈ gtb := q_g 935 (by decide +kernel) rfl
theorem ji_rng : Cond.instanceMethod J_rng.1 ∈ gtb := q_g 986 (by decide +kernel) rfl
theorem jv_rng : Cond.selects RJx4a65c J_rng.1 J_rng.1 ∈ gtb := q_g 31 (by decide +kernel) rfl
theorem js_nle : Cond.static J_nle.1 ∈ gtb := q_g 997 (by decide +kernel) rfl
theorem js_co2 : Cond.static J_co2.1 ∈ gtb := q_g 1005 (by decide +kernel) rfl
theorem js_co3 : Cond.static J_co3.1 ∈ gtb := q_g 1025 (by decide +kernel) rfl
theorem js_cob : Cond.static J_cob.1 ∈ gtb := q_g 857 (by decide +kernel) rfl
theorem ji_gcl : Cond.instanceMethod ⟨"java/lang/Object", "getClass", "()Ljava/lang/Class;"⟩ ∈ gtb := q_g 1008 (by decide +kernel) rfl
theorem jv_gcl : Cond.selects "[Ljava/lang/Object;" ⟨"java/lang/Object", "getClass", "()Ljava/lang/Class;"⟩ ⟨"java/lang/Object", "getClass", "()Ljava/lang/Class;"⟩ ∈ gtb := q_g 1541 (by decide +kernel) rfl
theorem jx_same : Cond.sameField "java/util/ArrayList" "java/util/AbstractList" "modCount" "I" ∈ gtb := q_g 267 (by decide +kernel) rfl
theorem jn_gcl : Cond.native ⟨"java/lang/Object", "getClass", "()Ljava/lang/Class;"⟩ ∈ gtb := q_g 1023 (by decide +kernel) rfl
theorem jx_200 : Cond.constant RJ8 200 2147483639 ∈ gtb := q_g 1000 (by decide +kernel) rfl

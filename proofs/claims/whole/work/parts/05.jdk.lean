set_option maxRecDepth 20000 in
theorem ggX2_isSpelled_J0_length_8abf5 : GoodIn wsX2_isSpelled wsJ0_length_8abf5 := goodIn_r _ [5, 6, 7, 8, 9, 4, 10, 11, 12] (by decide +kernel) (by decide +kernel)
set_option maxRecDepth 20000 in
theorem gX2_isSpelled_J0_length_8abf5 : GoodIn wsX2_isSpelled (wsV RX2 80 RJ0 yJ0_length_8abf5 wsJ0_length_8abf5) := goodIn_app (goodIn_of _ (by decide +kernel)) ggX2_isSpelled_J0_length_8abf5
set_option maxRecDepth 20000 in
theorem ggX2_isSpelled_J0_charAt_5068e : GoodIn wsX2_isSpelled wsJ0_charAt_5068e := goodIn_r _ [16, 6, 17, 18, 19, 4, 20, 11, 12, 21, 22, 23, 24, 25, 26, 27, 28, 29, 30, 31, 32, 33, 34, 35, 36, 37, 38, 39, 40, 41, 42, 43, 44, 45, 46, 47, 48, 49] (by decide +kernel) (by decide +kernel)
set_option maxRecDepth 20000 in
theorem gX2_isSpelled_J0_charAt_5068e : GoodIn wsX2_isSpelled (wsV RX2 86 RJ0 yJ0_charAt_5068e wsJ0_charAt_5068e) := goodIn_app (goodIn_of _ (by decide +kernel)) ggX2_isSpelled_J0_charAt_5068e
set_option maxRecDepth 20000 in
theorem ggX3_carryOutInner_Jx29ce0_ordinal_8abf5 : GoodIn wsX3_carryOutInner wsJx29ce0_ordinal_8abf5 := goodIn_r _ [8, 9] (by decide +kernel) (by decide +kernel)
set_option maxRecDepth 20000 in
theorem gX3_carryOutInner_Jx29ce0_ordinal_8abf5_u284X10 : GoodIn wsX3_carryOutInner (va_wsU RX3 284 RX10 "java/lang/Enum" ⟨"WordForge$Word", "ordinal", "()I"⟩ yJx29ce0_ordinal_8abf5 wsJx29ce0_ordinal_8abf5) := goodIn_app (goodIn_of _ (by decide +kernel)) ggX3_carryOutInner_Jx29ce0_ordinal_8abf5
set_option maxRecDepth 20000 in
theorem ggX3_useNumberBehind_Jx29ce0_ordinal_8abf5 : GoodIn wsX3_useNumberBehind wsJx29ce0_ordinal_8abf5 := goodIn_r _ [21, 22] (by decide +kernel) (by decide +kernel)
set_option maxRecDepth 20000 in
theorem gX3_useNumberBehind_Jx29ce0_ordinal_8abf5_u284X10 : GoodIn wsX3_useNumberBehind (va_wsU RX3 284 RX10 "java/lang/Enum" ⟨"WordForge$Word", "ordinal", "()I"⟩ yJx29ce0_ordinal_8abf5 wsJx29ce0_ordinal_8abf5) := goodIn_app (goodIn_of _ (by decide +kernel)) ggX3_useNumberBehind_Jx29ce0_ordinal_8abf5
set_option maxRecDepth 20000 in
theorem ggX3_moveNumbers_Jx29ce0_ordinal_8abf5 : GoodIn wsX3_moveNumbers wsJx29ce0_ordinal_8abf5 := goodIn_r _ [8, 9] (by decide +kernel) (by decide +kernel)
set_option maxRecDepth 20000 in
theorem gX3_moveNumbers_Jx29ce0_ordinal_8abf5_u284X10 : GoodIn wsX3_moveNumbers (va_wsU RX3 284 RX10 "java/lang/Enum" ⟨"WordForge$Word", "ordinal", "()I"⟩ yJx29ce0_ordinal_8abf5 wsJx29ce0_ordinal_8abf5) := goodIn_app (goodIn_of _ (by decide +kernel)) ggX3_moveNumbers_Jx29ce0_ordinal_8abf5
set_option maxRecDepth 20000 in
theorem ggX3_useStore_Jx29ce0_ordinal_8abf5 : GoodIn wsX3_useStore wsJx29ce0_ordinal_8abf5 := goodIn_r _ [9, 10] (by decide +kernel) (by decide +kernel)
set_option maxRecDepth 20000 in
theorem gX3_useStore_Jx29ce0_ordinal_8abf5_u284X10 : GoodIn wsX3_useStore (va_wsU RX3 284 RX10 "java/lang/Enum" ⟨"WordForge$Word", "ordinal", "()I"⟩ yJx29ce0_ordinal_8abf5 wsJx29ce0_ordinal_8abf5) := goodIn_app (goodIn_of _ (by decide +kernel)) ggX3_useStore_Jx29ce0_ordinal_8abf5
set_option maxRecDepth 20000 in
theorem ggX3_ofOne_Jx29ce0_ordinal_8abf5 : GoodIn wsX3_ofOne wsJx29ce0_ordinal_8abf5 := goodIn_r _ [7, 8] (by decide +kernel) (by decide +kernel)
set_option maxRecDepth 20000 in
theorem gX3_ofOne_Jx29ce0_ordinal_8abf5_u284X10 : GoodIn wsX3_ofOne (va_wsU RX3 284 RX10 "java/lang/Enum" ⟨"WordForge$Word", "ordinal", "()I"⟩ yJx29ce0_ordinal_8abf5 wsJx29ce0_ordinal_8abf5) := goodIn_app (goodIn_of _ (by decide +kernel)) ggX3_ofOne_Jx29ce0_ordinal_8abf5
set_option maxRecDepth 20000 in
theorem ggX3_ofTwo_Jx29ce0_ordinal_8abf5 : GoodIn wsX3_ofTwo wsJx29ce0_ordinal_8abf5 := goodIn_r _ [8, 9] (by decide +kernel) (by decide +kernel)
set_option maxRecDepth 20000 in
theorem gX3_ofTwo_Jx29ce0_ordinal_8abf5_u284X10 : GoodIn wsX3_ofTwo (va_wsU RX3 284 RX10 "java/lang/Enum" ⟨"WordForge$Word", "ordinal", "()I"⟩ yJx29ce0_ordinal_8abf5 wsJx29ce0_ordinal_8abf5) := goodIn_app (goodIn_of _ (by decide +kernel)) ggX3_ofTwo_Jx29ce0_ordinal_8abf5
set_option maxRecDepth 20000 in
theorem ggX3_useMemory_Jx29ce0_ordinal_8abf5 : GoodIn wsX3_useMemory wsJx29ce0_ordinal_8abf5 := goodIn_r _ [9, 10] (by decide +kernel) (by decide +kernel)
set_option maxRecDepth 20000 in
theorem gX3_useMemory_Jx29ce0_ordinal_8abf5_u284X10 : GoodIn wsX3_useMemory (va_wsU RX3 284 RX10 "java/lang/Enum" ⟨"WordForge$Word", "ordinal", "()I"⟩ yJx29ce0_ordinal_8abf5 wsJx29ce0_ordinal_8abf5) := goodIn_app (goodIn_of _ (by decide +kernel)) ggX3_useMemory_Jx29ce0_ordinal_8abf5
set_option maxRecDepth 20000 in
theorem ggX3_write_Jx29ce0_ordinal_8abf5 : GoodIn wsX3_write wsJx29ce0_ordinal_8abf5 := goodIn_r _ [9, 10] (by decide +kernel) (by decide +kernel)
set_option maxRecDepth 20000 in
theorem gX3_write_Jx29ce0_ordinal_8abf5_u284X10 : GoodIn wsX3_write (va_wsU RX3 284 RX10 "java/lang/Enum" ⟨"WordForge$Word", "ordinal", "()I"⟩ yJx29ce0_ordinal_8abf5 wsJx29ce0_ordinal_8abf5) := goodIn_app (goodIn_of _ (by decide +kernel)) ggX3_write_Jx29ce0_ordinal_8abf5
set_option maxRecDepth 20000 in
theorem ggX4_begin_Jx29ce0_ordinal_8abf5 : GoodIn wsX4_begin wsJx29ce0_ordinal_8abf5 := goodIn_r _ [12, 13] (by decide +kernel) (by decide +kernel)
set_option maxRecDepth 20000 in
theorem gX4_begin_Jx29ce0_ordinal_8abf5_u85X10 : GoodIn wsX4_begin (va_wsU RX4 85 RX10 "java/lang/Enum" ⟨"WordForge$Word", "ordinal", "()I"⟩ yJx29ce0_ordinal_8abf5 wsJx29ce0_ordinal_8abf5) := goodIn_app (goodIn_of _ (by decide +kernel)) ggX4_begin_Jx29ce0_ordinal_8abf5
set_option maxRecDepth 20000 in
theorem ggX4_make_Jx29ce0_ordinal_8abf5 : GoodIn wsX4_make wsJx29ce0_ordinal_8abf5 := goodIn_r _ [9, 10] (by decide +kernel) (by decide +kernel)
set_option maxRecDepth 20000 in
theorem gX4_make_Jx29ce0_ordinal_8abf5_u85X10 : GoodIn wsX4_make (va_wsU RX4 85 RX10 "java/lang/Enum" ⟨"WordForge$Word", "ordinal", "()I"⟩ yJx29ce0_ordinal_8abf5 wsJx29ce0_ordinal_8abf5) := goodIn_app (goodIn_of _ (by decide +kernel)) ggX4_make_Jx29ce0_ordinal_8abf5
set_option maxRecDepth 20000 in
theorem ggX4_useNamed_Jx29ce0_ordinal_8abf5 : GoodIn wsX4_useNamed wsJx29ce0_ordinal_8abf5 := goodIn_r _ [103, 104] (by decide +kernel) (by decide +kernel)
set_option maxRecDepth 20000 in
theorem gX4_useNamed_Jx29ce0_ordinal_8abf5_u85X10 : GoodIn wsX4_useNamed (va_wsU RX4 85 RX10 "java/lang/Enum" ⟨"WordForge$Word", "ordinal", "()I"⟩ yJx29ce0_ordinal_8abf5 wsJx29ce0_ordinal_8abf5) := goodIn_app (goodIn_of _ (by decide +kernel)) ggX4_useNamed_Jx29ce0_ordinal_8abf5
set_option maxRecDepth 20000 in
theorem ggX4_compileInto_Jx29ce0_ordinal_8abf5 : GoodIn wsX4_compileInto wsJx29ce0_ordinal_8abf5 := goodIn_r _ [10, 11] (by decide +kernel) (by decide +kernel)
set_option maxRecDepth 20000 in
theorem gX4_compileInto_Jx29ce0_ordinal_8abf5_u85X10 : GoodIn wsX4_compileInto (va_wsU RX4 85 RX10 "java/lang/Enum" ⟨"WordForge$Word", "ordinal", "()I"⟩ yJx29ce0_ordinal_8abf5 wsJx29ce0_ordinal_8abf5) := goodIn_app (goodIn_of _ (by decide +kernel)) ggX4_compileInto_Jx29ce0_ordinal_8abf5
set_option maxRecDepth 20000 in
theorem ggX4_openThingFor_Jx29ce0_ordinal_8abf5 : GoodIn wsX4_openThingFor wsJx29ce0_ordinal_8abf5 := goodIn_r _ [7, 8] (by decide +kernel) (by decide +kernel)
set_option maxRecDepth 20000 in
theorem gX4_openThingFor_Jx29ce0_ordinal_8abf5_u85X10 : GoodIn wsX4_openThingFor (va_wsU RX4 85 RX10 "java/lang/Enum" ⟨"WordForge$Word", "ordinal", "()I"⟩ yJx29ce0_ordinal_8abf5 wsJx29ce0_ordinal_8abf5) := goodIn_app (goodIn_of _ (by decide +kernel)) ggX4_openThingFor_Jx29ce0_ordinal_8abf5
set_option maxRecDepth 20000 in
theorem ggX4_build_Jx29ce0_ordinal_8abf5 : GoodIn wsX4_build wsJx29ce0_ordinal_8abf5 := goodIn_r _ [9, 10] (by decide +kernel) (by decide +kernel)
set_option maxRecDepth 20000 in
theorem gX4_build_Jx29ce0_ordinal_8abf5_u85X10 : GoodIn wsX4_build (va_wsU RX4 85 RX10 "java/lang/Enum" ⟨"WordForge$Word", "ordinal", "()I"⟩ yJx29ce0_ordinal_8abf5 wsJx29ce0_ordinal_8abf5) := goodIn_app (goodIn_of _ (by decide +kernel)) ggX4_build_Jx29ce0_ordinal_8abf5
set_option maxRecDepth 20000 in
theorem ggJ0_length_8abf5_J0_coder_7d493 : GoodIn wsJ0_length_8abf5 wsJ0_coder_7d493 := goodIn_r _ [6, 7, 8] (by decide +kernel) (by decide +kernel)
set_option maxRecDepth 20000 in
theorem gJ0_length_8abf5_J0_coder_7d493 : GoodIn wsJ0_length_8abf5 (wsV RJ0 335 RJ0 yJ0_coder_7d493 wsJ0_coder_7d493) := goodIn_app (goodIn_of _ (by decide +kernel)) ggJ0_length_8abf5_J0_coder_7d493
set_option maxRecDepth 20000 in
theorem ggJ0_charAt_5068e_J0_isLatin1_aae02 : GoodIn wsJ0_charAt_5068e wsJ0_isLatin1_aae02 := goodIn_r _ [6, 7, 8] (by decide +kernel) (by decide +kernel)
set_option maxRecDepth 20000 in
theorem gJ0_charAt_5068e_J0_isLatin1_aae02 : GoodIn wsJ0_charAt_5068e (wsV RJ0 492 RJ0 yJ0_isLatin1_aae02 wsJ0_isLatin1_aae02) := goodIn_app (goodIn_of _ (by decide +kernel)) ggJ0_charAt_5068e_J0_isLatin1_aae02
set_option maxRecDepth 20000 in
theorem ggJ0_charAt_5068e_J1_charAt_3b067 : GoodIn wsJ0_charAt_5068e wsJ1_charAt_3b067 := goodIn_r _ [12, 13, 14, 5, 15, 16, 17, 18, 19, 20] (by decide +kernel) (by decide +kernel)
set_option maxRecDepth 20000 in
theorem gJ0_charAt_5068e_J1_charAt_3b067 : GoodIn wsJ0_charAt_5068e (va_wsS RJ0 495 yJ1_charAt_3b067 wsJ1_charAt_3b067) := goodIn_app (goodIn_of _ (by decide +kernel)) ggJ0_charAt_5068e_J1_charAt_3b067
set_option maxRecDepth 20000 in
theorem ggJ0_charAt_5068e_J2_charAt_3b067 : GoodIn wsJ0_charAt_5068e wsJ2_charAt_3b067 := goodIn_r _ [24, 25, 26, 23, 27, 28, 29, 30, 31, 14, 5, 15, 16, 17, 18, 19, 20, 32, 33, 34, 35, 36, 37] (by decide +kernel) (by decide +kernel)
set_option maxRecDepth 20000 in
theorem gJ0_charAt_5068e_J2_charAt_3b067 : GoodIn wsJ0_charAt_5068e (va_wsS RJ0 498 yJ2_charAt_3b067 wsJ2_charAt_3b067) := goodIn_app (goodIn_of _ (by decide +kernel)) ggJ0_charAt_5068e_J2_charAt_3b067
set_option maxRecDepth 20000 in
theorem ggJ0_checkIndex_df160_J3_checkIndex_8e157 : GoodIn wsJ0_checkIndex_df160 wsJ3_checkIndex_8e157 := goodIn_r _ [5] (by decide +kernel) (by decide +kernel)
set_option maxRecDepth 20000 in
theorem gJ0_checkIndex_df160_J3_checkIndex_8e157 : GoodIn wsJ0_checkIndex_df160 (va_wsS RJ0 1059 yJ3_checkIndex_8e157 wsJ3_checkIndex_8e157) := goodIn_app (goodIn_of _ (by decide +kernel)) ggJ0_checkIndex_df160_J3_checkIndex_8e157
set_option maxRecDepth 20000 in
theorem ggJ1_charAt_3b067_J0_checkIndex_df160 : GoodIn wsJ1_charAt_3b067 wsJ0_checkIndex_df160 := goodIn_r _ [4, 5, 6, 7, 8, 9] (by decide +kernel) (by decide +kernel)
set_option maxRecDepth 20000 in
theorem gJ1_charAt_3b067_J0_checkIndex_df160 : GoodIn wsJ1_charAt_3b067 (va_wsS RJ1 9 yJ0_checkIndex_df160 wsJ0_checkIndex_df160) := goodIn_app (goodIn_of _ (by decide +kernel)) ggJ1_charAt_3b067_J0_checkIndex_df160
set_option maxRecDepth 20000 in
theorem ggJ2_getChar_3b067_J2_length_9d52b : GoodIn wsJ2_getChar_3b067 wsJ2_length_9d52b := goodIn_r _ [7] (by decide +kernel) (by decide +kernel)
set_option maxRecDepth 20000 in
theorem gJ2_getChar_3b067_J2_length_9d52b : GoodIn wsJ2_getChar_3b067 (va_wsS RJ2 48 yJ2_length_9d52b wsJ2_length_9d52b) := goodIn_app (goodIn_of _ (by decide +kernel)) ggJ2_getChar_3b067_J2_length_9d52b
set_option maxRecDepth 20000 in
theorem ggJ2_charAt_3b067_J2_checkIndex_2214a : GoodIn wsJ2_charAt_3b067 wsJ2_checkIndex_2214a := goodIn_r _ [4, 5, 6, 3, 7, 8, 9, 10, 11, 12, 13, 14, 15, 16] (by decide +kernel) (by decide +kernel)
set_option maxRecDepth 20000 in
theorem gJ2_charAt_3b067_J2_checkIndex_2214a : GoodIn wsJ2_charAt_3b067 (va_wsS RJ2 67 yJ2_checkIndex_2214a wsJ2_checkIndex_2214a) := goodIn_app (goodIn_of _ (by decide +kernel)) ggJ2_charAt_3b067_J2_checkIndex_2214a
set_option maxRecDepth 20000 in
theorem ggJ2_charAt_3b067_J2_getChar_3b067 : GoodIn wsJ2_charAt_3b067 wsJ2_getChar_3b067 := goodIn_r _ [19, 20, 21, 22, 5, 6, 3, 7] (by decide +kernel) (by decide +kernel)
set_option maxRecDepth 20000 in
theorem gJ2_charAt_3b067_J2_getChar_3b067 : GoodIn wsJ2_charAt_3b067 (va_wsS RJ2 71 yJ2_getChar_3b067 wsJ2_getChar_3b067) := goodIn_app (goodIn_of _ (by decide +kernel)) ggJ2_charAt_3b067_J2_getChar_3b067
set_option maxRecDepth 20000 in
theorem ggJ2_checkIndex_2214a_J2_length_9d52b : GoodIn wsJ2_checkIndex_2214a wsJ2_length_9d52b := goodIn_r _ [4] (by decide +kernel) (by decide +kernel)
set_option maxRecDepth 20000 in
theorem gJ2_checkIndex_2214a_J2_length_9d52b : GoodIn wsJ2_checkIndex_2214a (va_wsS RJ2 48 yJ2_length_9d52b wsJ2_length_9d52b) := goodIn_app (goodIn_of _ (by decide +kernel)) ggJ2_checkIndex_2214a_J2_length_9d52b
set_option maxRecDepth 20000 in
theorem ggJ2_checkIndex_2214a_J0_checkIndex_df160 : GoodIn wsJ2_checkIndex_2214a wsJ0_checkIndex_df160 := goodIn_r _ [8, 9, 10, 11, 12, 13] (by decide +kernel) (by decide +kernel)
set_option maxRecDepth 20000 in
theorem gJ2_checkIndex_2214a_J0_checkIndex_df160 : GoodIn wsJ2_checkIndex_2214a (va_wsS RJ2 414 yJ0_checkIndex_df160 wsJ0_checkIndex_df160) := goodIn_app (goodIn_of _ (by decide +kernel)) ggJ2_checkIndex_2214a_J0_checkIndex_df160

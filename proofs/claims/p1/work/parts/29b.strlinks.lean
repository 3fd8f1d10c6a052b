section STRWORDS
theorem wn_of_2388 : (Jvm.Cond.privateMethod ({ cls := "java/lang/AbstractStringBuilder", name := "appendNull", desc := "()Ljava/lang/AbstractStringBuilder;" } : Jvm.MethodName)) ∈ wn := cn_10 (List.mem_of_getElem? (i := 183) (by decide +kernel)) rfl
theorem wn_of_2392 : (Jvm.Cond.privateMethod ({ cls := "java/lang/AbstractStringBuilder", name := "ensureCapacityInternal", desc := "(I)V" } : Jvm.MethodName)) ∈ wn := cn_10 (List.mem_of_getElem? (i := 187) (by decide +kernel)) rfl
theorem wn_of_2396 : (Jvm.Cond.privateMethod ({ cls := "java/lang/AbstractStringBuilder", name := "newCapacity", desc := "(I)I" } : Jvm.MethodName)) ∈ wn := cn_10 (List.mem_of_getElem? (i := 191) (by decide +kernel)) rfl
theorem wn_of_2424 : (Jvm.Cond.privateMethod ({ cls := "java/lang/AbstractStringBuilder", name := "putStringAt", desc := "(ILjava/lang/String;)V" } : Jvm.MethodName)) ∈ wn := cn_10 (List.mem_of_getElem? (i := 219) (by decide +kernel)) rfl
theorem wn_of_2428 : (Jvm.Cond.privateMethod ({ cls := "java/lang/AbstractStringBuilder", name := "inflateIfNeededFor", desc := "(Ljava/lang/String;)V" } : Jvm.MethodName)) ∈ wn := cn_10 (List.mem_of_getElem? (i := 223) (by decide +kernel)) rfl
theorem wn_of_2433 : (Jvm.Cond.privateMethod ({ cls := "java/lang/AbstractStringBuilder", name := "inflate", desc := "()V" } : Jvm.MethodName)) ∈ wn := cn_10 (List.mem_of_getElem? (i := 228) (by decide +kernel)) rfl
theorem wm_acn : Cond.native arraycopyName ∈ wt := ck_8 (List.mem_of_getElem? (i := 127) (by decide +kernel)) rfl
end STRWORDS
section STRSF
theorem sf_J3_checkFromIndexSize_8c36e {S : mS} {a0 : Int32} {a1 : Int32} {a2 : Int32} {w : Nat} : f_J3_checkFromIndexSize_8c36e S a0 a1 a2 w = f_J3_checkFromIndexSize_8c36e S a0 a1 a2 (KB + 21) := rfl
theorem sf_J3_checkFromToIndex_8c36e {S : mS} {a0 : Int32} {a1 : Int32} {a2 : Int32} {w : Nat} : f_J3_checkFromToIndex_8c36e S a0 a1 a2 w = f_J3_checkFromToIndex_8c36e S a0 a1 a2 (KB + 21) := rfl
theorem sf_J3_checkIndex_8e157 {S : mS} {a0 : Int32} {a1 : Int32} {w : Nat} : f_J3_checkIndex_8e157 S a0 a1 w = f_J3_checkIndex_8e157 S a0 a1 (KB + 21) := rfl
end STRSF
section STRLINKS
theorem lk_RJ5_104 : LKC RJ5 104 "java/lang/StringBuilder" yJ5_newCapacity_0f7a4 (.code yJ5_newCapacity_0f7a4 cJ5_newCapacity_0f7a4 6 (Option.some Jvm.ClassFile.FieldType.int)) 1 := ⟨wm_2395, wm_2397, Or.inr ⟨4, wm_2351, wn_of_2396, wm_2397, wm_2667⟩, wm_85, wm_2398, ⟨⟨by decide, by decide⟩, by decide +kernel⟩⟩
theorem lk_RJ5_83 : LKC RJ5 83 "java/lang/StringBuilder" yJ5_isLatin1_aae02 (.code yJ5_isLatin1_aae02 cJ5_isLatin1_aae02 1 (Option.some Jvm.ClassFile.FieldType.boolean)) 0 := ⟨wm_2411, wm_2412, Or.inl wm_2414, wm_85, wm_2415, ⟨⟨by decide, by decide⟩, by decide +kernel⟩⟩
theorem lk_RJ5_204 : LKC RJ5 204 "java/lang/StringBuilder" yJ5_appendNull_278bc (.code yJ5_appendNull_278bc cJ5_appendNull_278bc 3 (Option.some (Jvm.ClassFile.FieldType.object "java/lang/AbstractStringBuilder"))) 0 := ⟨wm_2387, wm_2389, Or.inr ⟨4, wm_2351, wn_of_2388, wm_2389, wm_2665⟩, wm_85, wm_2390, ⟨⟨by decide, by decide⟩, by decide +kernel⟩⟩
theorem lk_RJ5_100 : LKC RJ5 100 "java/lang/StringBuilder" yJ5_ensureCapacityInternal_d00df (.code yJ5_ensureCapacityInternal_d00df cJ5_ensureCapacityInternal_d00df 3 (Option.none : Option Jvm.ClassFile.FieldType)) 1 := ⟨wm_2391, wm_2393, Or.inr ⟨4, wm_2351, wn_of_2392, wm_2393, wm_2666⟩, wm_85, wm_2394, ⟨⟨by decide, by decide⟩, by decide +kernel⟩⟩
theorem lk_RJ5_208 : LKC RJ5 208 "java/lang/StringBuilder" yJ5_putStringAt_47b60 (.code yJ5_putStringAt_47b60 cJ5_putStringAt_47b60 3 (Option.none : Option Jvm.ClassFile.FieldType)) 2 := ⟨wm_2423, wm_2425, Or.inr ⟨4, wm_2351, wn_of_2424, wm_2425, wm_2668⟩, wm_85, wm_2426, ⟨⟨by decide, by decide⟩, by decide +kernel⟩⟩
theorem lk_RJ5_195 : LKC RJ5 195 "java/lang/StringBuilder" yJ5_inflate_da8c8 (.code yJ5_inflate_da8c8 cJ5_inflate_da8c8 2 (Option.none : Option Jvm.ClassFile.FieldType)) 0 := ⟨wm_2432, wm_2434, Or.inr ⟨4, wm_2351, wn_of_2433, wm_2434, wm_2670⟩, wm_85, wm_2435, ⟨⟨by decide, by decide⟩, by decide +kernel⟩⟩
theorem lk_RJ5_397 : LKC RJ5 397 "java/lang/StringBuilder" yJ5_inflateIfNeededFor_a7421 (.code yJ5_inflateIfNeededFor_a7421 cJ5_inflateIfNeededFor_a7421 2 (Option.none : Option Jvm.ClassFile.FieldType)) 1 := ⟨wm_2427, wm_2429, Or.inr ⟨4, wm_2351, wn_of_2428, wm_2429, wm_2669⟩, wm_85, wm_2430, ⟨⟨by decide, by decide⟩, by decide +kernel⟩⟩
theorem lk_RJ0_552 : LKC RJ0 552 "java/lang/StringBuilder" yJ5_getValue_6d5f1 (.code yJ5_getValue_6d5f1 cJ5_getValue_6d5f1 1 (Option.some (Jvm.ClassFile.FieldType.array Jvm.ClassFile.FieldType.byte))) 0 := ⟨wm_2489, wm_2490, Or.inl wm_2492, wm_85, wm_2493, ⟨⟨by decide, by decide⟩, by decide +kernel⟩⟩
theorem lk_RJ0_549 : LKU RJ0 549 "java/lang/StringBuilder" (⟨"java/lang/AbstractStringBuilder", "length", "()I"⟩ : MethodName) yJ4_length_8abf5 (.code yJ4_length_8abf5 cJ4_length_8abf5 1 (Option.some Jvm.ClassFile.FieldType.int)) 0 := ⟨wm_2494, wm_2496, wm_2497, wm_2498, wm_86, wm_2499, ⟨wm_2495, _, _, _, wm_2501⟩, ⟨⟨by decide, by decide⟩, by decide +kernel⟩⟩
theorem lk_RJ0_1047 : LKC RJ0 1047 "java/lang/StringBuilder" yJ5_isLatin1_aae02 (.code yJ5_isLatin1_aae02 cJ5_isLatin1_aae02 1 (Option.some Jvm.ClassFile.FieldType.boolean)) 0 := ⟨wm_2502, wm_2412, Or.inl wm_2414, wm_85, wm_2415, ⟨⟨by decide, by decide⟩, by decide +kernel⟩⟩
theorem lk_RJ4_29 : LKP RJ4 29 yJ5_append_cf1ce (.code yJ5_append_cf1ce cJ5_append_cf1ce 3 (Option.some (Jvm.ClassFile.FieldType.object "java/lang/AbstractStringBuilder"))) 1 := ⟨wm_2384, wm_2664, wm_2379, wm_2385, wm_85, wm_2386, by decide, ⟨⟨by decide, by decide⟩, by decide +kernel⟩⟩
theorem lk_RJ4_50 : LKP RJ4 50 yJ5_append_3fe6f (.code yJ5_append_3fe6f cJ5_append_3fe6f 2 (Option.some (Jvm.ClassFile.FieldType.object "java/lang/AbstractStringBuilder"))) 1 := ⟨wm_2461, wm_2671, wm_2379, wm_2462, wm_85, wm_2463, by decide, ⟨⟨by decide, by decide⟩, by decide +kernel⟩⟩
theorem lk_RJ4_53 : LKP RJ4 53 yJ5_append_c97b9 (.code yJ5_append_c97b9 cJ5_append_c97b9 4 (Option.some (Jvm.ClassFile.FieldType.object "java/lang/AbstractStringBuilder"))) 1 := ⟨wm_2519, wm_2672, wm_2379, wm_2520, wm_85, wm_2521, by decide, ⟨⟨by decide, by decide⟩, by decide +kernel⟩⟩
theorem lk_RJ4_343 : LKP RJ4 343 yJ5_length_8abf5 (.code yJ5_length_8abf5 cJ5_length_8abf5 1 (Option.some Jvm.ClassFile.FieldType.int)) 0 := ⟨wm_2500, wm_2496, wm_2379, wm_2495, wm_85, wm_2501, by decide, ⟨⟨by decide, by decide⟩, by decide +kernel⟩⟩
theorem fl_RJ0_15 : FL RJ0 15 "java/lang/String" TJ0 1 := ⟨Or.inl wm_2555, Or.inl rfl⟩
theorem fl_RJ0_9 : FL RJ0 9 "java/lang/String" TJ0 0 := ⟨Or.inl wm_2554, Or.inl rfl⟩
theorem fl_RJ0_1048 : FL RJ0 1048 "java/lang/AbstractStringBuilder" TJ4 2 := ⟨Or.inl wm_2369, Or.inl rfl⟩
theorem ln_RJ0_212 : LKN RJ0 212 := ⟨wm_2455, wm_acn, wm_1851, wm_71⟩
theorem ln_RJ7_150 : LKN RJ7 150 := ⟨wm_1850, wm_acn, wm_1851, wm_71⟩
end STRLINKS

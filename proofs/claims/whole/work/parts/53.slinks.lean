def rm_J0_coder_7d493 : Room := { frames := 0, cells := 0, slots := 0, locals := 0 }
abbrev K_J0_coder_7d493 := CT yJ0_coder_7d493 cJ0_coder_7d493 1 (some .byte) rm_J0_coder_7d493
abbrev W_J0_coder_7d493 (Q : Option Value → zH → Prop) := WG RJ0 cJ0_coder_7d493 1 (some .byte) rm_J0_coder_7d493 0 0 zX0 (zEm Q)
theorem b_J0_coder_7d493 : zMB yJ0_coder_7d493 cJ0_coder_7d493 1 (some .byte) 0 := ⟨zat 59 (by decide +kernel) rfl, zat 278 (by decide +kernel) rfl, by decide +kernel⟩
def rm_J0_isLatin1_aae02 : Room := { frames := 0, cells := 0, slots := 0, locals := 0 }
abbrev K_J0_isLatin1_aae02 := CT yJ0_isLatin1_aae02 cJ0_isLatin1_aae02 1 (some .boolean) rm_J0_isLatin1_aae02
abbrev W_J0_isLatin1_aae02 (Q : Option Value → zH → Prop) := WG RJ0 cJ0_isLatin1_aae02 1 (some .boolean) rm_J0_isLatin1_aae02 0 0 zX0 (zEm Q)
theorem b_J0_isLatin1_aae02 : zMB yJ0_isLatin1_aae02 cJ0_isLatin1_aae02 1 (some .boolean) 0 := ⟨zat 59 (by decide +kernel) rfl, zat 308 (by decide +kernel) rfl, by decide +kernel⟩
def rm_J0_length_8abf5 : Room := { frames := 1, cells := 0, slots := 0, locals := 20 }
abbrev K_J0_length_8abf5 := CT yJ0_length_8abf5 cJ0_length_8abf5 1 (some .int) rm_J0_length_8abf5
abbrev W_J0_length_8abf5 (Q : Option Value → zH → Prop) := WG RJ0 cJ0_length_8abf5 1 (some .int) rm_J0_length_8abf5 0 0 zX0 (zEm Q)
theorem b_J0_length_8abf5 : zMB yJ0_length_8abf5 cJ0_length_8abf5 1 (some .int) 0 := ⟨zat 59 (by decide +kernel) rfl, zat 274 (by decide +kernel) rfl, by decide +kernel⟩
def rm_J0_isEmpty_aae02 : Room := { frames := 0, cells := 0, slots := 0, locals := 0 }
abbrev K_J0_isEmpty_aae02 := CT yJ0_isEmpty_aae02 cJ0_isEmpty_aae02 1 (some .boolean) rm_J0_isEmpty_aae02
abbrev W_J0_isEmpty_aae02 (Q : Option Value → zH → Prop) := WG RJ0 cJ0_isEmpty_aae02 1 (some .boolean) rm_J0_isEmpty_aae02 0 0 zX0 (zEm Q)
theorem b_J0_isEmpty_aae02 : zMB yJ0_isEmpty_aae02 cJ0_isEmpty_aae02 1 (some .boolean) 0 := ⟨zat 59 (by decide +kernel) rfl, zat 300 (by decide +kernel) rfl, by decide +kernel⟩
def rm_J3_checkIndex_8e157 : Room := { frames := 0, cells := 0, slots := 0, locals := 0 }
abbrev K_J3_checkIndex_8e157 := CT yJ3_checkIndex_8e157 cJ3_checkIndex_8e157 3 (some .int) rm_J3_checkIndex_8e157
abbrev W_J3_checkIndex_8e157 (Q : Option Value → zH → Prop) := WG RJ3 cJ3_checkIndex_8e157 3 (some .int) rm_J3_checkIndex_8e157 0 0 zX0 (zEm Q)
theorem b_J3_checkIndex_8e157 : zMB yJ3_checkIndex_8e157 cJ3_checkIndex_8e157 3 (some .int) 3 := ⟨zat 61 (by decide +kernel) rfl, zat 319 (by decide +kernel) rfl, by decide +kernel⟩
def rm_J0_checkIndex_df160 : Room := { frames := 1, cells := 0, slots := 0, locals := 22 }
abbrev K_J0_checkIndex_df160 := CT yJ0_checkIndex_df160 cJ0_checkIndex_df160 2 none rm_J0_checkIndex_df160
abbrev W_J0_checkIndex_df160 (Q : Option Value → zH → Prop) := WG RJ0 cJ0_checkIndex_df160 2 none rm_J0_checkIndex_df160 0 0 zX0 (zEm Q)
theorem b_J0_checkIndex_df160 : zMB yJ0_checkIndex_df160 cJ0_checkIndex_df160 2 none 2 := ⟨zat 59 (by decide +kernel) rfl, zat 314 (by decide +kernel) rfl, by decide +kernel⟩
def rm_J1_charAt_3b067 : Room := { frames := 2, cells := 0, slots := 0, locals := 43 }
abbrev K_J1_charAt_3b067 := CT yJ1_charAt_3b067 cJ1_charAt_3b067 2 (some .char) rm_J1_charAt_3b067
abbrev W_J1_charAt_3b067 (Q : Option Value → zH → Prop) := WG RJ1 cJ1_charAt_3b067 2 (some .char) rm_J1_charAt_3b067 0 0 zX0 (zEm Q)
theorem b_J1_charAt_3b067 : zMB yJ1_charAt_3b067 cJ1_charAt_3b067 2 (some .char) 2 := ⟨zat 60 (by decide +kernel) rfl, zat 311 (by decide +kernel) rfl, by decide +kernel⟩
def rm_J0_charAt_5068e : Room := { frames := 3, cells := 0, slots := 0, locals := 64 }
abbrev K_J0_charAt_5068e := CT yJ0_charAt_5068e cJ0_charAt_5068e 2 (some .char) rm_J0_charAt_5068e
abbrev W_J0_charAt_5068e (Q : Option Value → zH → Prop) := WG RJ0 cJ0_charAt_5068e 2 (some .char) rm_J0_charAt_5068e 0 0 zX0 (zEm Q)
theorem b_J0_charAt_5068e : zMB yJ0_charAt_5068e cJ0_charAt_5068e 2 (some .char) 1 := ⟨zat 59 (by decide +kernel) rfl, zat 304 (by decide +kernel) rfl, by decide +kernel⟩
theorem m_X2_47 : zMV RX2 47 yJ0_length_8abf5 := ⟨zat 271 (by decide +kernel) rfl, zat 272 (by decide +kernel) rfl, zat 273 (by decide +kernel) rfl⟩
theorem m_X2_56 : zMV RX2 56 yJ0_charAt_5068e := ⟨zat 301 (by decide +kernel) rfl, zat 302 (by decide +kernel) rfl, zat 303 (by decide +kernel) rfl⟩
theorem m_X2_67 : zMV RX2 67 yJ0_isEmpty_aae02 := ⟨zat 297 (by decide +kernel) rfl, zat 298 (by decide +kernel) rfl, zat 299 (by decide +kernel) rfl⟩
theorem m_J0_335 : zMV RJ0 335 yJ0_coder_7d493 := ⟨zat 275 (by decide +kernel) rfl, zat 276 (by decide +kernel) rfl, zat 277 (by decide +kernel) rfl⟩
theorem m_J0_492 : zMV RJ0 492 yJ0_isLatin1_aae02 := ⟨zat 305 (by decide +kernel) rfl, zat 306 (by decide +kernel) rfl, zat 307 (by decide +kernel) rfl⟩
theorem m_J0_495 : zMS RJ0 495 yJ1_charAt_3b067 := ⟨zat 309 (by decide +kernel) rfl, zat 310 (by decide +kernel) rfl⟩
theorem m_J0_1059 : zMS RJ0 1059 yJ3_checkIndex_8e157 := ⟨zat 317 (by decide +kernel) rfl, zat 318 (by decide +kernel) rfl⟩
theorem m_J1_9 : zMS RJ1 9 yJ0_checkIndex_df160 := ⟨zat 312 (by decide +kernel) rfl, zat 313 (by decide +kernel) rfl⟩
theorem zs_val : Cond.fieldLink RJ0 9 "java/lang/String" "value" "[B" ∈ ztb := zat 1281 (by decide +kernel) rfl
theorem zs_cod : Cond.fieldLink RJ0 15 "java/lang/String" "coder" "B" ∈ ztb := zat 1282 (by decide +kernel) rfl
theorem zs_cs : Cond.fieldLink RJ0 38 "java/lang/String" "COMPACT_STRINGS" "Z" ∈ ztb := zat 279 (by decide +kernel) rfl
theorem zs_sio : Cond.fieldLink RJ0 1053 "jdk/internal/util/Preconditions" "SIOOBE_FORMATTER" "Ljava/util/function/BiFunction;" ∈ ztb := zat 315 (by decide +kernel) rfl

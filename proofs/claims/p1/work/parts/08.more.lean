theorem mM_3_157 : Cond.code Lib.Math.max.name Lib.Math.max.code 2 (some .int) ∈ gW := gt_3 157 rfl rfl
theorem mM_12_0 : Cond.methodLink RJx4a65c 79 Lib.Math.max.name ∈ gW := gt_12 0 rfl rfl
theorem mM_3_156 : Cond.static Lib.Math.max.name ∈ gW := gt_3 156 rfl rfl
theorem mM_4_106 : Cond.code Lib.Math.min.name Lib.Math.min.code 2 (some .int) ∈ gW := gt_4 106 rfl rfl
theorem mM_8_205 : Cond.methodLink RX2 109 Lib.Math.min.name ∈ gW := gt_8 205 rfl rfl
theorem mM_4_105 : Cond.static Lib.Math.min.name ∈ gW := gt_4 105 rfl rfl
theorem m_1_56 : Cond.methodLink RX7 3 objectInit ∈ gW := gt_1 56 rfl rfl
theorem m_1_57 : Cond.classLink RX7 9 "[[I" ∈ gW := gt_1 57 rfl rfl
theorem m_1_188 : Cond.fieldLink RX7 11 "Blazonry$Painter" "partings" "[[I" ∈ gW := gt_1 188 rfl rfl
theorem m_1_189 : Cond.fieldLink RX7 16 "Blazonry$Painter" "ordinaries" "[[I" ∈ gW := gt_1 189 rfl rfl
theorem m_1_190 : Cond.fieldLink RX7 19 "Blazonry$Painter" "shapes" "[[I" ∈ gW := gt_1 190 rfl rfl
theorem m_1_191 : Cond.fieldLink RX7 22 "Blazonry$Painter" "charges" "[[I" ∈ gW := gt_1 191 rfl rfl
theorem m_1_192 : Cond.fieldLink RX7 25 "Blazonry$Painter" "nothing" "[I" ∈ gW := gt_1 192 rfl rfl
theorem m_1_193 : Cond.fieldLink RX7 29 "Blazonry$Painter" "body" "[I" ∈ gW := gt_1 193 rfl rfl
theorem m_1_194 : Cond.fieldLink RX7 32 "Blazonry$Painter" "on" "[I" ∈ gW := gt_1 194 rfl rfl
theorem m_1_195 : Cond.fieldLink RX7 35 "Blazonry$Painter" "layers" "[[I" ∈ gW := gt_1 195 rfl rfl
theorem m_1_196 : Cond.fieldLink RX7 38 "Blazonry$Painter" "layerTinctures" "[I" ∈ gW := gt_1 196 rfl rfl
theorem m_1_197 : Cond.fieldLink RX7 41 "Blazonry$Painter" "open" "[I" ∈ gW := gt_1 197 rfl rfl
theorem m_1_59 : Cond.classLink RX7 44 RX3 ∈ gW := gt_1 59 rfl rfl
theorem n_m0 : (RX7, 46, yX3_init, "Blazonry") ∈ gNM := List.mem_of_getElem? (i := 0) rfl
theorem m_1_198 : Cond.fieldLink RX7 47 "Blazonry$Painter" "mark" "LBlazonry$Group;" ∈ gW := gt_1 198 rfl rfl
theorem m_1_137 : Cond.classLink RX7 51 RX8 ∈ gW := gt_1 137 rfl rfl
theorem n_m1 : (RX7, 53, yX8_init, "Blazonry") ∈ gNM := List.mem_of_getElem? (i := 1) rfl
theorem m_1_199 : Cond.fieldLink RX7 54 "Blazonry$Painter" "canvas" "LBlazonry$Picture;" ∈ gW := gt_1 199 rfl rfl
theorem m_1_173 : Cond.code yX7_shift cX7_shift 2 (some .int) ∈ gW := gt_1 173 rfl rfl
theorem hd_X7_shift : (yX7_shift).cls ≠ "java/lang/invoke/MethodHandle" ∧ (yX7_shift).cls ≠ "java/lang/invoke/VarHandle" ∧ (parseMethodDescriptor (yX7_shift).desc).map (fun d => d.parameters.length) = some 2 := ⟨by decide, by decide, by decide +kernel⟩
theorem m_1_171 : Cond.methodLink RX7 76 yX7_shift ∈ gW := gt_1 171 rfl rfl
theorem m_1_172 : Cond.static yX7_shift ∈ gW := gt_1 172 rfl rfl
theorem m_1_170 : Cond.code yX7_isSecond cX7_isSecond 4 (some .boolean) ∈ gW := gt_1 170 rfl rfl
theorem hd_X7_isSecond : (yX7_isSecond).cls ≠ "java/lang/invoke/MethodHandle" ∧ (yX7_isSecond).cls ≠ "java/lang/invoke/VarHandle" ∧ (parseMethodDescriptor (yX7_isSecond).desc).map (fun d => d.parameters.length) = some 4 := ⟨by decide, by decide, by decide +kernel⟩
theorem m_1_168 : Cond.methodLink RX7 65 yX7_isSecond ∈ gW := gt_1 168 rfl rfl
theorem m_1_169 : Cond.static yX7_isSecond ∈ gW := gt_1 169 rfl rfl
theorem mM_1_176 : Cond.code Lib.Math.abs.name Lib.Math.abs.code 1 (some .int) ∈ gW := gt_1 176 rfl rfl
theorem mM_1_174 : Cond.methodLink RX7 80 Lib.Math.abs.name ∈ gW := gt_1 174 rfl rfl
theorem mM_1_175 : Cond.static Lib.Math.abs.name ∈ gW := gt_1 175 rfl rfl
theorem m_1_182 : Cond.code yX7_isFromTo cX7_isFromTo 3 (some .boolean) ∈ gW := gt_1 182 rfl rfl
theorem hd_X7_isFromTo : (yX7_isFromTo).cls ≠ "java/lang/invoke/MethodHandle" ∧ (yX7_isFromTo).cls ≠ "java/lang/invoke/VarHandle" ∧ (parseMethodDescriptor (yX7_isFromTo).desc).map (fun d => d.parameters.length) = some 3 := ⟨by decide, by decide, by decide +kernel⟩
theorem m_1_180 : Cond.methodLink RX7 86 yX7_isFromTo ∈ gW := gt_1 180 rfl rfl
theorem m_1_181 : Cond.static yX7_isFromTo ∈ gW := gt_1 181 rfl rfl
theorem m_1_179 : Cond.code yX7_isOnOrdinary cX7_isOnOrdinary 4 (some .boolean) ∈ gW := gt_1 179 rfl rfl
theorem hd_X7_isOnOrdinary : (yX7_isOnOrdinary).cls ≠ "java/lang/invoke/MethodHandle" ∧ (yX7_isOnOrdinary).cls ≠ "java/lang/invoke/VarHandle" ∧ (parseMethodDescriptor (yX7_isOnOrdinary).desc).map (fun d => d.parameters.length) = some 4 := ⟨by decide, by decide, by decide +kernel⟩
theorem m_1_177 : Cond.methodLink RX7 69 yX7_isOnOrdinary ∈ gW := gt_1 177 rfl rfl
theorem m_1_178 : Cond.static yX7_isOnOrdinary ∈ gW := gt_1 178 rfl rfl
theorem m_1_185 : Cond.code yX7_isInShape cX7_isInShape 5 (some .boolean) ∈ gW := gt_1 185 rfl rfl
theorem hd_X7_isInShape : (yX7_isInShape).cls ≠ "java/lang/invoke/MethodHandle" ∧ (yX7_isInShape).cls ≠ "java/lang/invoke/VarHandle" ∧ (parseMethodDescriptor (yX7_isInShape).desc).map (fun d => d.parameters.length) = some 3 := ⟨by decide, by decide, by decide +kernel⟩
theorem m_1_183 : Cond.methodLink RX7 72 yX7_isInShape ∈ gW := gt_1 183 rfl rfl
theorem m_1_184 : Cond.static yX7_isInShape ∈ gW := gt_1 184 rfl rfl
theorem m_1_167 : Cond.code yX7_fillPoint cX7_fillPoint 5 none ∈ gW := gt_1 167 rfl rfl
theorem hd_X7_fillPoint : (yX7_fillPoint).cls ≠ "java/lang/invoke/MethodHandle" ∧ (yX7_fillPoint).cls ≠ "java/lang/invoke/VarHandle" ∧ (parseMethodDescriptor (yX7_fillPoint).desc).map (fun d => d.parameters.length) = some 2 := ⟨by decide, by decide, by decide +kernel⟩
theorem m_1_164 : Cond.methodLink RX7 58 yX7_fillPoint ∈ gW := gt_1 164 rfl rfl
theorem m_1_166 : Cond.instanceMethod yX7_fillPoint ∈ gW := gt_1 166 rfl rfl
theorem m_s_0 : Cond.selects RX7 yX7_fillPoint yX7_fillPoint ∈ gW := gt_s (q := (yX7_fillPoint, 13)) 0 rfl
theorem n_f0 : (RX7, 62, "Blazonry", "CHARGE_BITS", "[I", "Blazonry") ∈ gNF := List.mem_of_getElem? (i := 0) rfl
theorem m_5_137 : Cond.laysFinal RJ0 "java/lang/String" "value" "[B" ∈ gW := gt_5 137 rfl rfl
theorem m_5_139 : Cond.laysFinal RJ0 "java/lang/String" "coder" "B" ∈ gW := gt_5 139 rfl rfl
theorem in_J0 : ∀ w ∈ u_ws RJ0 TJ0 2, w ∈ gW := fun w h => by
  obtain ⟨k, hk, rfl⟩ := List.mem_map.mp h
  have hk := List.mem_range.mp hk
  rcases (show k = 0 ∨ k = 1 by omega) with rfl | rfl
  · exact m_5_137
  · exact m_5_139
theorem dv_J0 : ∀ j, j < 2 → defaultValue (tyJ0 j) = vp_V [.null, .int 0] j := fun j hj => by rcases (show j = 0 ∨ j = 1 by omega) with rfl | rfl <;> rfl
theorem m_5_136 : Cond.instantiable RJ0 4 ∈ gW := gt_5 136 rfl rfl
theorem m_5_125 : Cond.lays RJx00060 "java/lang/Throwable" "backtrace" "Ljava/lang/Object;" ∈ gW := gt_5 125 rfl rfl
theorem m_5_126 : Cond.lays RJx00060 "java/lang/Throwable" "detailMessage" "Ljava/lang/String;" ∈ gW := gt_5 126 rfl rfl
theorem m_5_127 : Cond.lays RJx00060 "java/lang/Throwable" "cause" "Ljava/lang/Throwable;" ∈ gW := gt_5 127 rfl rfl
theorem m_5_128 : Cond.lays RJx00060 "java/lang/Throwable" "stackTrace" "[Ljava/lang/StackTraceElement;" ∈ gW := gt_5 128 rfl rfl
theorem m_5_129 : Cond.lays RJx00060 "java/lang/Throwable" "depth" "I" ∈ gW := gt_5 129 rfl rfl
theorem m_5_130 : Cond.lays RJx00060 "java/lang/Throwable" "suppressedExceptions" "Ljava/util/List;" ∈ gW := gt_5 130 rfl rfl
theorem in_Jx00060 : ∀ w ∈ u_ws RJx00060 TJx00060 6, w ∈ gW := fun w h => by
  obtain ⟨k, hk, rfl⟩ := List.mem_map.mp h
  have hk := List.mem_range.mp hk
  rcases (show k = 0 ∨ k = 1 ∨ k = 2 ∨ k = 3 ∨ k = 4 ∨ k = 5 by omega) with rfl | rfl | rfl | rfl | rfl | rfl
  · exact m_5_125
  · exact m_5_126
  · exact m_5_127
  · exact m_5_128
  · exact m_5_129
  · exact m_5_130
theorem dv_Jx00060 : ∀ j, j < 6 → defaultValue (tyJx00060 j) = vp_V [.null, .null, .null, .null, .int 0, .null] j := fun j hj => by rcases (show j = 0 ∨ j = 1 ∨ j = 2 ∨ j = 3 ∨ j = 4 ∨ j = 5 by omega) with rfl | rfl | rfl | rfl | rfl | rfl <;> rfl
theorem m_5_118 : Cond.instantiable RJx00060 6 ∈ gW := gt_5 118 rfl rfl
theorem m_12_212 : Cond.laysFinal RX12 "BlazonryModel$Arms" "words" "[I" ∈ gW := gt_12 212 rfl rfl
theorem m_12_214 : Cond.laysFinal RX12 "BlazonryModel$Arms" "blazon" "LBlazonryModel$Blazon;" ∈ gW := gt_12 214 rfl rfl
theorem m_12_216 : Cond.laysFinal RX12 "BlazonryModel$Arms" "land" "I" ∈ gW := gt_12 216 rfl rfl
theorem m_12_218 : Cond.laysFinal RX12 "BlazonryModel$Arms" "bearer" "I" ∈ gW := gt_12 218 rfl rfl
theorem m_12_220 : Cond.laysFinal RX12 "BlazonryModel$Arms" "year" "I" ∈ gW := gt_12 220 rfl rfl
theorem m_12_222 : Cond.lays RX12 "BlazonryModel$Arms" "by" "C" ∈ gW := gt_12 222 rfl rfl
theorem m_12_224 : Cond.lays RX12 "BlazonryModel$Arms" "square" "I" ∈ gW := gt_12 224 rfl rfl
theorem m_12_226 : Cond.lays RX12 "BlazonryModel$Arms" "charge" "I" ∈ gW := gt_12 226 rfl rfl
theorem m_12_228 : Cond.lays RX12 "BlazonryModel$Arms" "charged" "I" ∈ gW := gt_12 228 rfl rfl
theorem m_12_230 : Cond.lays RX12 "BlazonryModel$Arms" "called" "I" ∈ gW := gt_12 230 rfl rfl
theorem in_X12 : ∀ w ∈ u_ws RX12 TX12 10, w ∈ gW := fun w h => by
  obtain ⟨k, hk, rfl⟩ := List.mem_map.mp h
  have hk := List.mem_range.mp hk
  rcases (show k = 0 ∨ k = 1 ∨ k = 2 ∨ k = 3 ∨ k = 4 ∨ k = 5 ∨ k = 6 ∨ k = 7 ∨ k = 8 ∨ k = 9 by omega) with rfl | rfl | rfl | rfl | rfl | rfl | rfl | rfl | rfl | rfl
  · exact m_12_212
  · exact m_12_214
  · exact m_12_216
  · exact m_12_218
  · exact m_12_220
  · exact m_12_222
  · exact m_12_224
  · exact m_12_226
  · exact m_12_228
  · exact m_12_230
theorem dv_X12 : ∀ j, j < 10 → defaultValue (tyX12 j) = vp_V [.null, .null, .int 0, .int 0, .int 0, .int 0, .int 0, .int 0, .int 0, .int 0] j := fun j hj => by rcases (show j = 0 ∨ j = 1 ∨ j = 2 ∨ j = 3 ∨ j = 4 ∨ j = 5 ∨ j = 6 ∨ j = 7 ∨ j = 8 ∨ j = 9 by omega) with rfl | rfl | rfl | rfl | rfl | rfl | rfl | rfl | rfl | rfl <;> rfl
theorem m_12_190 : Cond.instantiable RX12 10 ∈ gW := gt_12 190 rfl rfl
theorem m_12_118 : Cond.laysFinal RX13 "BlazonryModel$Bearing" "arms" "I" ∈ gW := gt_12 118 rfl rfl
theorem m_12_120 : Cond.laysFinal RX13 "BlazonryModel$Bearing" "differences" "[I" ∈ gW := gt_12 120 rfl rfl
theorem in_X13 : ∀ w ∈ u_ws RX13 TX13 2, w ∈ gW := fun w h => by
  obtain ⟨k, hk, rfl⟩ := List.mem_map.mp h
  have hk := List.mem_range.mp hk
  rcases (show k = 0 ∨ k = 1 by omega) with rfl | rfl
  · exact m_12_118
  · exact m_12_120
theorem dv_X13 : ∀ j, j < 2 → defaultValue (tyX13 j) = vp_V [.int 0, .null] j := fun j hj => by rcases (show j = 0 ∨ j = 1 by omega) with rfl | rfl <;> rfl
theorem m_12_109 : Cond.instantiable RX13 2 ∈ gW := gt_12 109 rfl rfl
theorem m_10_166 : Cond.lays RX15 "BlazonryModel$Group" "form" "C" ∈ gW := gt_10 166 rfl rfl
theorem m_10_168 : Cond.lays RX15 "BlazonryModel$Group" "ordinary" "I" ∈ gW := gt_10 168 rfl rfl
theorem m_10_170 : Cond.lays RX15 "BlazonryModel$Group" "line" "I" ∈ gW := gt_10 170 rfl rfl
theorem m_10_172 : Cond.lays RX15 "BlazonryModel$Group" "tincture" "I" ∈ gW := gt_10 172 rfl rfl
theorem m_10_174 : Cond.lays RX15 "BlazonryModel$Group" "hasOn" "Z" ∈ gW := gt_10 174 rfl rfl
theorem m_10_176 : Cond.lays RX15 "BlazonryModel$Group" "onNumber" "I" ∈ gW := gt_10 176 rfl rfl
theorem m_10_178 : Cond.lays RX15 "BlazonryModel$Group" "onCharge" "I" ∈ gW := gt_10 178 rfl rfl
theorem m_10_180 : Cond.lays RX15 "BlazonryModel$Group" "onAttitude" "I" ∈ gW := gt_10 180 rfl rfl
theorem m_10_182 : Cond.lays RX15 "BlazonryModel$Group" "onTincture" "I" ∈ gW := gt_10 182 rfl rfl
theorem m_10_184 : Cond.lays RX15 "BlazonryModel$Group" "number" "I" ∈ gW := gt_10 184 rfl rfl
theorem m_10_186 : Cond.lays RX15 "BlazonryModel$Group" "charge" "I" ∈ gW := gt_10 186 rfl rfl
theorem m_10_188 : Cond.lays RX15 "BlazonryModel$Group" "attitude" "I" ∈ gW := gt_10 188 rfl rfl
theorem m_10_190 : Cond.lays RX15 "BlazonryModel$Group" "place" "I" ∈ gW := gt_10 190 rfl rfl
theorem m_10_192 : Cond.lays RX15 "BlazonryModel$Group" "drawn" "I" ∈ gW := gt_10 192 rfl rfl
theorem m_10_194 : Cond.lays RX15 "BlazonryModel$Group" "onDrawn" "I" ∈ gW := gt_10 194 rfl rfl
theorem in_X15 : ∀ w ∈ u_ws RX15 TX15 15, w ∈ gW := fun w h => by
  obtain ⟨k, hk, rfl⟩ := List.mem_map.mp h
  have hk := List.mem_range.mp hk
  rcases (show k = 0 ∨ k = 1 ∨ k = 2 ∨ k = 3 ∨ k = 4 ∨ k = 5 ∨ k = 6 ∨ k = 7 ∨ k = 8 ∨ k = 9 ∨ k = 10 ∨ k = 11 ∨ k = 12 ∨ k = 13 ∨ k = 14 by omega) with rfl | rfl | rfl | rfl | rfl | rfl | rfl | rfl | rfl | rfl | rfl | rfl | rfl | rfl | rfl
  · exact m_10_166
  · exact m_10_168
  · exact m_10_170
  · exact m_10_172
  · exact m_10_174
  · exact m_10_176
  · exact m_10_178
  · exact m_10_180
  · exact m_10_182
  · exact m_10_184
  · exact m_10_186
  · exact m_10_188
  · exact m_10_190
  · exact m_10_192
  · exact m_10_194
theorem dv_X15 : ∀ j, j < 15 → defaultValue (tyX15 j) = vp_V [.int 0, .int 0, .int 0, .int 0, .int 0, .int 0, .int 0, .int 0, .int 0, .int 0, .int 0, .int 0, .int 0, .int 0, .int 0] j := fun j hj => by rcases (show j = 0 ∨ j = 1 ∨ j = 2 ∨ j = 3 ∨ j = 4 ∨ j = 5 ∨ j = 6 ∨ j = 7 ∨ j = 8 ∨ j = 9 ∨ j = 10 ∨ j = 11 ∨ j = 12 ∨ j = 13 ∨ j = 14 by omega) with rfl | rfl | rfl | rfl | rfl | rfl | rfl | rfl | rfl | rfl | rfl | rfl | rfl | rfl | rfl <;> rfl
theorem m_10_133 : Cond.instantiable RX15 15 ∈ gW := gt_10 133 rfl rfl
theorem m_13_156 : Cond.laysFinal RX16 "BlazonryModel$Judgment" "winner" "I" ∈ gW := gt_13 156 rfl rfl
theorem m_13_158 : Cond.laysFinal RX16 "BlazonryModel$Judgment" "loser" "I" ∈ gW := gt_13 158 rfl rfl
theorem m_13_160 : Cond.laysFinal RX16 "BlazonryModel$Judgment" "land" "I" ∈ gW := gt_13 160 rfl rfl
theorem m_13_162 : Cond.laysFinal RX16 "BlazonryModel$Judgment" "distance" "I" ∈ gW := gt_13 162 rfl rfl
theorem m_13_164 : Cond.laysFinal RX16 "BlazonryModel$Judgment" "year" "I" ∈ gW := gt_13 164 rfl rfl
theorem m_13_166 : Cond.laysFinal RX16 "BlazonryModel$Judgment" "letter" "C" ∈ gW := gt_13 166 rfl rfl
theorem m_13_168 : Cond.laysFinal RX16 "BlazonryModel$Judgment" "isAppeal" "Z" ∈ gW := gt_13 168 rfl rfl
theorem m_13_170 : Cond.lays RX16 "BlazonryModel$Judgment" "loserBy" "C" ∈ gW := gt_13 170 rfl rfl
theorem m_13_172 : Cond.lays RX16 "BlazonryModel$Judgment" "stands" "Z" ∈ gW := gt_13 172 rfl rfl
theorem in_X16 : ∀ w ∈ u_ws RX16 TX16 9, w ∈ gW := fun w h => by
  obtain ⟨k, hk, rfl⟩ := List.mem_map.mp h
  have hk := List.mem_range.mp hk
  rcases (show k = 0 ∨ k = 1 ∨ k = 2 ∨ k = 3 ∨ k = 4 ∨ k = 5 ∨ k = 6 ∨ k = 7 ∨ k = 8 by omega) with rfl | rfl | rfl | rfl | rfl | rfl | rfl | rfl | rfl
  · exact m_13_156
  · exact m_13_158
  · exact m_13_160
  · exact m_13_162
  · exact m_13_164
  · exact m_13_166
  · exact m_13_168
  · exact m_13_170
  · exact m_13_172
theorem dv_X16 : ∀ j, j < 9 → defaultValue (tyX16 j) = vp_V [.int 0, .int 0, .int 0, .int 0, .int 0, .int 0, .int 0, .int 0, .int 0] j := fun j hj => by rcases (show j = 0 ∨ j = 1 ∨ j = 2 ∨ j = 3 ∨ j = 4 ∨ j = 5 ∨ j = 6 ∨ j = 7 ∨ j = 8 by omega) with rfl | rfl | rfl | rfl | rfl | rfl | rfl | rfl | rfl <;> rfl
theorem m_13_134 : Cond.instantiable RX16 9 ∈ gW := gt_13 134 rfl rfl
theorem dL_law_28 : decode cL_law 28 = .ok (.iload 5, 2) := by decide +kernel
theorem dL_law_30 : decode cL_law 30 = .ok (.aload_n 0, 1) := by decide +kernel
theorem dL_law_31 : decode cL_law 31 = .ok (.arraylength, 1) := by decide +kernel
theorem dL_law_32 : decode cL_law 32 = .ok (.iconst 5, 1) := by decide +kernel
theorem dL_law_33 : decode cL_law 33 = .ok (.isub, 1) := by decide +kernel
theorem dL_law_34 : decode cL_law 34 = .ok (.if_icmp .gt 3872, 3) := by decide +kernel
theorem dL_law_37 : decode cL_law 37 = .ok (.aload_n 0, 1) := by decide +kernel
theorem dL_law_38 : decode cL_law 38 = .ok (.iload 5, 2) := by decide +kernel
theorem dL_law_40 : decode cL_law 40 = .ok (.iaload, 1) := by decide +kernel
theorem dL_law_41 : decode cL_law 41 = .ok (.bipush 63, 2) := by decide +kernel
theorem dL_law_43 : decode cL_law 43 = .ok (.iand, 1) := by decide +kernel
theorem dL_law_44 : decode cL_law 44 = .ok (.tableswitch 3856 0 61 #[264, 320, 333, 346, 414, 482, 526, 610, 666, 710, 766, 822, 890, 946, 1042, 1098, 1173, 1236, 1292, 1355, 1411, 1479, 1547, 1603, 1659, 1715, 1771, 1839, 1902, 1970, 2033, 2089, 2169, 2249, 2329, 2385, 2453, 2521, 2589, 2633, 2658, 2726, 2782, 2795, 2863, 2919, 2982, 3050, 3106, 3174, 3242, 3298, 3385, 3469, 3568, 3659, 3672, 3685, 3698, 3712, 3778, 3843], 264) := by decide +kernel
theorem dL_law_3900 : decode cL_law 3900 = .ok (.iinc 5 5, 3) := by decide +kernel
theorem dL_law_3903 : decode cL_law 3903 = .ok (.goto (-3875), 3) := by decide +kernel
theorem dL_law_3906 : decode cL_law 3906 = .ok (.iconst 1, 1) := by decide +kernel
theorem dL_law_3907 : decode cL_law 3907 = .ok (.ireturn, 1) := by decide +kernel
theorem dX7_fillPoint_0 : decode cX7_fillPoint 0 = .ok (.iconst 0, 1) := by decide +kernel
theorem dX7_fillPoint_1 : decode cX7_fillPoint 1 = .ok (.istore_n 3, 1) := by decide +kernel
theorem dX7_fillPoint_2 : decode cX7_fillPoint 2 = .ok (.iload_n 3, 1) := by decide +kernel
theorem dX7_fillPoint_3 : decode cX7_fillPoint 3 = .ok (.iconst 3, 1) := by decide +kernel
theorem dX7_fillPoint_4 : decode cX7_fillPoint 4 = .ok (.if_icmp .ge 120, 3) := by decide +kernel
theorem dX7_fillPoint_7 : decode cX7_fillPoint 7 = .ok (.iconst 0, 1) := by decide +kernel
theorem dX7_fillPoint_8 : decode cX7_fillPoint 8 = .ok (.istore 4, 2) := by decide +kernel
theorem dX7_fillPoint_10 : decode cX7_fillPoint 10 = .ok (.iload 4, 2) := by decide +kernel
theorem dX7_fillPoint_12 : decode cX7_fillPoint 12 = .ok (.iconst 5, 1) := by decide +kernel
theorem dX7_fillPoint_13 : decode cX7_fillPoint 13 = .ok (.if_icmp .ge 49, 3) := by decide +kernel
theorem dX7_fillPoint_16 : decode cX7_fillPoint 16 = .ok (.aload_n 0, 1) := by decide +kernel
theorem dX7_fillPoint_17 : decode cX7_fillPoint 17 = .ok (.getfield 11, 3) := by decide +kernel
theorem dX7_fillPoint_20 : decode cX7_fillPoint 20 = .ok (.iconst 3, 1) := by decide +kernel
theorem dX7_fillPoint_21 : decode cX7_fillPoint 21 = .ok (.iload 4, 2) := by decide +kernel
theorem dX7_fillPoint_23 : decode cX7_fillPoint 23 = .ok (.imul, 1) := by decide +kernel
theorem dX7_fillPoint_24 : decode cX7_fillPoint 24 = .ok (.iload_n 3, 1) := by decide +kernel
theorem dX7_fillPoint_25 : decode cX7_fillPoint 25 = .ok (.iadd, 1) := by decide +kernel
theorem dX7_fillPoint_26 : decode cX7_fillPoint 26 = .ok (.aaload, 1) := by decide +kernel
theorem dX7_fillPoint_27 : decode cX7_fillPoint 27 = .ok (.iload_n 2, 1) := by decide +kernel
theorem dX7_fillPoint_28 : decode cX7_fillPoint 28 = .ok (.bipush 15, 2) := by decide +kernel
theorem dX7_fillPoint_30 : decode cX7_fillPoint 30 = .ok (.iand, 1) := by decide +kernel
theorem dX7_fillPoint_31 : decode cX7_fillPoint 31 = .ok (.dup2, 1) := by decide +kernel
theorem dX7_fillPoint_32 : decode cX7_fillPoint 32 = .ok (.iaload, 1) := by decide +kernel
theorem dX7_fillPoint_33 : decode cX7_fillPoint 33 = .ok (.bipush 11, 2) := by decide +kernel
theorem dX7_fillPoint_35 : decode cX7_fillPoint 35 = .ok (.iload 4, 2) := by decide +kernel
theorem dX7_fillPoint_37 : decode cX7_fillPoint 37 = .ok (.iadd, 1) := by decide +kernel
theorem dX7_fillPoint_38 : decode cX7_fillPoint 38 = .ok (.iload_n 3, 1) := by decide +kernel
theorem dX7_fillPoint_39 : decode cX7_fillPoint 39 = .ok (.iload_n 1, 1) := by decide +kernel
theorem dX7_fillPoint_40 : decode cX7_fillPoint 40 = .ok (.iload_n 2, 1) := by decide +kernel
theorem dX7_fillPoint_41 : decode cX7_fillPoint 41 = .ok (.invokestatic 65, 3) := by decide +kernel
theorem dX7_fillPoint_44 : decode cX7_fillPoint 44 = .ok (.ifCond .eq 9, 3) := by decide +kernel
theorem dX7_fillPoint_47 : decode cX7_fillPoint 47 = .ok (.iconst 1, 1) := by decide +kernel
theorem dX7_fillPoint_48 : decode cX7_fillPoint 48 = .ok (.iload_n 1, 1) := by decide +kernel
theorem dX7_fillPoint_49 : decode cX7_fillPoint 49 = .ok (.ishl, 1) := by decide +kernel
theorem dX7_fillPoint_50 : decode cX7_fillPoint 50 = .ok (.goto 4, 3) := by decide +kernel
theorem dX7_fillPoint_53 : decode cX7_fillPoint 53 = .ok (.iconst 0, 1) := by decide +kernel
theorem dX7_fillPoint_54 : decode cX7_fillPoint 54 = .ok (.ior, 1) := by decide +kernel
theorem dX7_fillPoint_55 : decode cX7_fillPoint 55 = .ok (.iastore, 1) := by decide +kernel
theorem dX7_fillPoint_56 : decode cX7_fillPoint 56 = .ok (.iinc 4 1, 3) := by decide +kernel
theorem dX7_fillPoint_59 : decode cX7_fillPoint 59 = .ok (.goto (-49), 3) := by decide +kernel
theorem dX7_fillPoint_62 : decode cX7_fillPoint 62 = .ok (.iconst 0, 1) := by decide +kernel
theorem dX7_fillPoint_63 : decode cX7_fillPoint 63 = .ok (.istore 4, 2) := by decide +kernel
theorem dX7_fillPoint_65 : decode cX7_fillPoint 65 = .ok (.iload 4, 2) := by decide +kernel
theorem dX7_fillPoint_67 : decode cX7_fillPoint 67 = .ok (.bipush 8, 2) := by decide +kernel
theorem dX7_fillPoint_69 : decode cX7_fillPoint 69 = .ok (.if_icmp .ge 49, 3) := by decide +kernel
theorem dX7_fillPoint_72 : decode cX7_fillPoint 72 = .ok (.aload_n 0, 1) := by decide +kernel
theorem dX7_fillPoint_73 : decode cX7_fillPoint 73 = .ok (.getfield 16, 3) := by decide +kernel
theorem dX7_fillPoint_76 : decode cX7_fillPoint 76 = .ok (.iconst 3, 1) := by decide +kernel
theorem dX7_fillPoint_77 : decode cX7_fillPoint 77 = .ok (.iload 4, 2) := by decide +kernel
theorem dX7_fillPoint_79 : decode cX7_fillPoint 79 = .ok (.imul, 1) := by decide +kernel
theorem dX7_fillPoint_80 : decode cX7_fillPoint 80 = .ok (.iload_n 3, 1) := by decide +kernel
theorem dX7_fillPoint_81 : decode cX7_fillPoint 81 = .ok (.iadd, 1) := by decide +kernel
theorem dX7_fillPoint_82 : decode cX7_fillPoint 82 = .ok (.aaload, 1) := by decide +kernel
theorem dX7_fillPoint_83 : decode cX7_fillPoint 83 = .ok (.iload_n 2, 1) := by decide +kernel
theorem dX7_fillPoint_84 : decode cX7_fillPoint 84 = .ok (.bipush 15, 2) := by decide +kernel
theorem dX7_fillPoint_86 : decode cX7_fillPoint 86 = .ok (.iand, 1) := by decide +kernel
theorem dX7_fillPoint_87 : decode cX7_fillPoint 87 = .ok (.dup2, 1) := by decide +kernel
theorem dX7_fillPoint_88 : decode cX7_fillPoint 88 = .ok (.iaload, 1) := by decide +kernel
theorem dX7_fillPoint_89 : decode cX7_fillPoint 89 = .ok (.bipush 21, 2) := by decide +kernel
theorem dX7_fillPoint_91 : decode cX7_fillPoint 91 = .ok (.iload 4, 2) := by decide +kernel
theorem dX7_fillPoint_93 : decode cX7_fillPoint 93 = .ok (.iadd, 1) := by decide +kernel
theorem dX7_fillPoint_94 : decode cX7_fillPoint 94 = .ok (.iload_n 3, 1) := by decide +kernel
theorem dX7_fillPoint_95 : decode cX7_fillPoint 95 = .ok (.iload_n 1, 1) := by decide +kernel
theorem dX7_fillPoint_96 : decode cX7_fillPoint 96 = .ok (.iload_n 2, 1) := by decide +kernel
theorem dX7_fillPoint_97 : decode cX7_fillPoint 97 = .ok (.invokestatic 69, 3) := by decide +kernel
theorem dX7_fillPoint_100 : decode cX7_fillPoint 100 = .ok (.ifCond .eq 9, 3) := by decide +kernel
theorem dX7_fillPoint_103 : decode cX7_fillPoint 103 = .ok (.iconst 1, 1) := by decide +kernel
theorem dX7_fillPoint_104 : decode cX7_fillPoint 104 = .ok (.iload_n 1, 1) := by decide +kernel
theorem dX7_fillPoint_105 : decode cX7_fillPoint 105 = .ok (.ishl, 1) := by decide +kernel
theorem dX7_fillPoint_106 : decode cX7_fillPoint 106 = .ok (.goto 4, 3) := by decide +kernel
theorem dX7_fillPoint_109 : decode cX7_fillPoint 109 = .ok (.iconst 0, 1) := by decide +kernel
theorem dX7_fillPoint_110 : decode cX7_fillPoint 110 = .ok (.ior, 1) := by decide +kernel
theorem dX7_fillPoint_111 : decode cX7_fillPoint 111 = .ok (.iastore, 1) := by decide +kernel
theorem dX7_fillPoint_112 : decode cX7_fillPoint 112 = .ok (.iinc 4 1, 3) := by decide +kernel
theorem dX7_fillPoint_115 : decode cX7_fillPoint 115 = .ok (.goto (-50), 3) := by decide +kernel
theorem dX7_fillPoint_118 : decode cX7_fillPoint 118 = .ok (.iinc 3 1, 3) := by decide +kernel
theorem dX7_fillPoint_121 : decode cX7_fillPoint 121 = .ok (.goto (-119), 3) := by decide +kernel
theorem dX7_fillPoint_124 : decode cX7_fillPoint 124 = .ok (.iconst 0, 1) := by decide +kernel
theorem dX7_fillPoint_125 : decode cX7_fillPoint 125 = .ok (.istore_n 3, 1) := by decide +kernel
theorem dX7_fillPoint_126 : decode cX7_fillPoint 126 = .ok (.iload_n 3, 1) := by decide +kernel
theorem dX7_fillPoint_127 : decode cX7_fillPoint 127 = .ok (.iconst 4, 1) := by decide +kernel
theorem dX7_fillPoint_128 : decode cX7_fillPoint 128 = .ok (.if_icmp .ge 39, 3) := by decide +kernel
theorem dX7_fillPoint_131 : decode cX7_fillPoint 131 = .ok (.aload_n 0, 1) := by decide +kernel
theorem dX7_fillPoint_132 : decode cX7_fillPoint 132 = .ok (.getfield 19, 3) := by decide +kernel
theorem dX7_fillPoint_135 : decode cX7_fillPoint 135 = .ok (.iload_n 3, 1) := by decide +kernel
theorem dX7_fillPoint_136 : decode cX7_fillPoint 136 = .ok (.aaload, 1) := by decide +kernel
theorem dX7_fillPoint_137 : decode cX7_fillPoint 137 = .ok (.iload_n 2, 1) := by decide +kernel
theorem dX7_fillPoint_138 : decode cX7_fillPoint 138 = .ok (.bipush 15, 2) := by decide +kernel
theorem dX7_fillPoint_140 : decode cX7_fillPoint 140 = .ok (.iand, 1) := by decide +kernel
theorem dX7_fillPoint_141 : decode cX7_fillPoint 141 = .ok (.dup2, 1) := by decide +kernel
theorem dX7_fillPoint_142 : decode cX7_fillPoint 142 = .ok (.iaload, 1) := by decide +kernel
theorem dX7_fillPoint_143 : decode cX7_fillPoint 143 = .ok (.iload_n 3, 1) := by decide +kernel
theorem dX7_fillPoint_144 : decode cX7_fillPoint 144 = .ok (.iload_n 1, 1) := by decide +kernel
theorem dX7_fillPoint_145 : decode cX7_fillPoint 145 = .ok (.iload_n 2, 1) := by decide +kernel
theorem dX7_fillPoint_146 : decode cX7_fillPoint 146 = .ok (.invokestatic 72, 3) := by decide +kernel
theorem dX7_fillPoint_149 : decode cX7_fillPoint 149 = .ok (.ifCond .eq 9, 3) := by decide +kernel
theorem dX7_fillPoint_152 : decode cX7_fillPoint 152 = .ok (.iconst 1, 1) := by decide +kernel
theorem dX7_fillPoint_153 : decode cX7_fillPoint 153 = .ok (.iload_n 1, 1) := by decide +kernel
theorem dX7_fillPoint_154 : decode cX7_fillPoint 154 = .ok (.ishl, 1) := by decide +kernel
theorem dX7_fillPoint_155 : decode cX7_fillPoint 155 = .ok (.goto 4, 3) := by decide +kernel
theorem dX7_fillPoint_158 : decode cX7_fillPoint 158 = .ok (.iconst 0, 1) := by decide +kernel
theorem dX7_fillPoint_159 : decode cX7_fillPoint 159 = .ok (.ior, 1) := by decide +kernel
theorem dX7_fillPoint_160 : decode cX7_fillPoint 160 = .ok (.iastore, 1) := by decide +kernel
theorem dX7_fillPoint_161 : decode cX7_fillPoint 161 = .ok (.iinc 3 1, 3) := by decide +kernel
theorem dX7_fillPoint_164 : decode cX7_fillPoint 164 = .ok (.goto (-38), 3) := by decide +kernel
theorem dX7_fillPoint_167 : decode cX7_fillPoint 167 = .ok (.return_, 1) := by decide +kernel
theorem dX7_init_0 : decode cX7_init 0 = .ok (.aload_n 0, 1) := by decide +kernel
theorem dX7_init_1 : decode cX7_init 1 = .ok (.invokespecial 3, 3) := by decide +kernel
theorem dX7_init_4 : decode cX7_init 4 = .ok (.aload_n 0, 1) := by decide +kernel
theorem dX7_init_5 : decode cX7_init 5 = .ok (.bipush 15, 2) := by decide +kernel
theorem dX7_init_7 : decode cX7_init 7 = .ok (.bipush 16, 2) := by decide +kernel
theorem dX7_init_9 : decode cX7_init 9 = .ok (.multianewarray 9 2, 4) := by decide +kernel
theorem dX7_init_13 : decode cX7_init 13 = .ok (.putfield 11, 3) := by decide +kernel
theorem dX7_init_16 : decode cX7_init 16 = .ok (.aload_n 0, 1) := by decide +kernel
theorem dX7_init_17 : decode cX7_init 17 = .ok (.bipush 24, 2) := by decide +kernel
theorem dX7_init_19 : decode cX7_init 19 = .ok (.bipush 16, 2) := by decide +kernel
theorem dX7_init_21 : decode cX7_init 21 = .ok (.multianewarray 9 2, 4) := by decide +kernel
theorem dX7_init_25 : decode cX7_init 25 = .ok (.putfield 16, 3) := by decide +kernel
theorem dX7_init_28 : decode cX7_init 28 = .ok (.aload_n 0, 1) := by decide +kernel
theorem dX7_init_29 : decode cX7_init 29 = .ok (.iconst 4, 1) := by decide +kernel
theorem dX7_init_30 : decode cX7_init 30 = .ok (.bipush 16, 2) := by decide +kernel
theorem dX7_init_32 : decode cX7_init 32 = .ok (.multianewarray 9 2, 4) := by decide +kernel
theorem dX7_init_36 : decode cX7_init 36 = .ok (.putfield 19, 3) := by decide +kernel
theorem dX7_init_39 : decode cX7_init 39 = .ok (.aload_n 0, 1) := by decide +kernel
theorem dX7_init_40 : decode cX7_init 40 = .ok (.bipush 24, 2) := by decide +kernel
theorem dX7_init_42 : decode cX7_init 42 = .ok (.iconst 3, 1) := by decide +kernel
theorem dX7_init_43 : decode cX7_init 43 = .ok (.multianewarray 9 2, 4) := by decide +kernel
theorem dX7_init_47 : decode cX7_init 47 = .ok (.putfield 22, 3) := by decide +kernel
theorem dX7_init_50 : decode cX7_init 50 = .ok (.aload_n 0, 1) := by decide +kernel
theorem dX7_init_51 : decode cX7_init 51 = .ok (.bipush 16, 2) := by decide +kernel
theorem dX7_init_53 : decode cX7_init 53 = .ok (.newarray .int, 2) := by decide +kernel
theorem dX7_init_55 : decode cX7_init 55 = .ok (.putfield 25, 3) := by decide +kernel
theorem dX7_init_58 : decode cX7_init 58 = .ok (.aload_n 0, 1) := by decide +kernel
theorem dX7_init_59 : decode cX7_init 59 = .ok (.bipush 16, 2) := by decide +kernel
theorem dX7_init_61 : decode cX7_init 61 = .ok (.newarray .int, 2) := by decide +kernel
theorem dX7_init_63 : decode cX7_init 63 = .ok (.putfield 29, 3) := by decide +kernel
theorem dX7_init_66 : decode cX7_init 66 = .ok (.aload_n 0, 1) := by decide +kernel
theorem dX7_init_67 : decode cX7_init 67 = .ok (.bipush 16, 2) := by decide +kernel
theorem dX7_init_69 : decode cX7_init 69 = .ok (.newarray .int, 2) := by decide +kernel
theorem dX7_init_71 : decode cX7_init 71 = .ok (.putfield 32, 3) := by decide +kernel
theorem dX7_init_74 : decode cX7_init 74 = .ok (.aload_n 0, 1) := by decide +kernel
theorem dX7_init_75 : decode cX7_init 75 = .ok (.bipush 10, 2) := by decide +kernel
theorem dX7_init_77 : decode cX7_init 77 = .ok (.bipush 16, 2) := by decide +kernel
theorem dX7_init_79 : decode cX7_init 79 = .ok (.multianewarray 9 2, 4) := by decide +kernel
theorem dX7_init_83 : decode cX7_init 83 = .ok (.putfield 35, 3) := by decide +kernel
theorem dX7_init_86 : decode cX7_init 86 = .ok (.aload_n 0, 1) := by decide +kernel
theorem dX7_init_87 : decode cX7_init 87 = .ok (.bipush 10, 2) := by decide +kernel
theorem dX7_init_89 : decode cX7_init 89 = .ok (.newarray .int, 2) := by decide +kernel
theorem dX7_init_91 : decode cX7_init 91 = .ok (.putfield 38, 3) := by decide +kernel
theorem dX7_init_94 : decode cX7_init 94 = .ok (.aload_n 0, 1) := by decide +kernel
theorem dX7_init_95 : decode cX7_init 95 = .ok (.bipush 16, 2) := by decide +kernel
theorem dX7_init_97 : decode cX7_init 97 = .ok (.newarray .int, 2) := by decide +kernel
theorem dX7_init_99 : decode cX7_init 99 = .ok (.putfield 41, 3) := by decide +kernel
theorem dX7_init_102 : decode cX7_init 102 = .ok (.aload_n 0, 1) := by decide +kernel
theorem dX7_init_103 : decode cX7_init 103 = .ok (.new 44, 3) := by decide +kernel
theorem dX7_init_106 : decode cX7_init 106 = .ok (.dup, 1) := by decide +kernel
theorem dX7_init_107 : decode cX7_init 107 = .ok (.invokespecial 46, 3) := by decide +kernel
theorem dX7_init_110 : decode cX7_init 110 = .ok (.putfield 47, 3) := by decide +kernel
theorem dX7_init_113 : decode cX7_init 113 = .ok (.aload_n 0, 1) := by decide +kernel
theorem dX7_init_114 : decode cX7_init 114 = .ok (.new 51, 3) := by decide +kernel
theorem dX7_init_117 : decode cX7_init 117 = .ok (.dup, 1) := by decide +kernel
theorem dX7_init_118 : decode cX7_init 118 = .ok (.invokespecial 53, 3) := by decide +kernel
theorem dX7_init_121 : decode cX7_init 121 = .ok (.putfield 54, 3) := by decide +kernel
theorem dX7_init_124 : decode cX7_init 124 = .ok (.iconst 0, 1) := by decide +kernel
theorem dX7_init_125 : decode cX7_init 125 = .ok (.istore_n 1, 1) := by decide +kernel
theorem dX7_init_126 : decode cX7_init 126 = .ok (.iload_n 1, 1) := by decide +kernel
theorem dX7_init_127 : decode cX7_init 127 = .ok (.bipush 16, 2) := by decide +kernel
theorem dX7_init_129 : decode cX7_init 129 = .ok (.if_icmp .ge 29, 3) := by decide +kernel
theorem dX7_init_132 : decode cX7_init 132 = .ok (.iconst 0, 1) := by decide +kernel
theorem dX7_init_133 : decode cX7_init 133 = .ok (.istore_n 2, 1) := by decide +kernel
theorem dX7_init_134 : decode cX7_init 134 = .ok (.iload_n 2, 1) := by decide +kernel
theorem dX7_init_135 : decode cX7_init 135 = .ok (.bipush 16, 2) := by decide +kernel
theorem dX7_init_137 : decode cX7_init 137 = .ok (.if_icmp .ge 15, 3) := by decide +kernel
theorem dX7_init_140 : decode cX7_init 140 = .ok (.aload_n 0, 1) := by decide +kernel
theorem dX7_init_141 : decode cX7_init 141 = .ok (.iload_n 2, 1) := by decide +kernel
theorem dX7_init_142 : decode cX7_init 142 = .ok (.iload_n 1, 1) := by decide +kernel
theorem dX7_init_143 : decode cX7_init 143 = .ok (.invokevirtual 58, 3) := by decide +kernel
theorem dX7_init_146 : decode cX7_init 146 = .ok (.iinc 2 1, 3) := by decide +kernel
theorem dX7_init_149 : decode cX7_init 149 = .ok (.goto (-15), 3) := by decide +kernel
theorem dX7_init_152 : decode cX7_init 152 = .ok (.iinc 1 1, 3) := by decide +kernel
theorem dX7_init_155 : decode cX7_init 155 = .ok (.goto (-29), 3) := by decide +kernel
theorem dX7_init_158 : decode cX7_init 158 = .ok (.iconst 0, 1) := by decide +kernel
theorem dX7_init_159 : decode cX7_init 159 = .ok (.istore_n 1, 1) := by decide +kernel
theorem dX7_init_160 : decode cX7_init 160 = .ok (.iload_n 1, 1) := by decide +kernel
theorem dX7_init_161 : decode cX7_init 161 = .ok (.bipush 8, 2) := by decide +kernel
theorem dX7_init_163 : decode cX7_init 163 = .ok (.if_icmp .ge 106, 3) := by decide +kernel
theorem dX7_init_166 : decode cX7_init 166 = .ok (.iconst 0, 1) := by decide +kernel
theorem dX7_init_167 : decode cX7_init 167 = .ok (.istore_n 2, 1) := by decide +kernel
theorem dX7_init_168 : decode cX7_init 168 = .ok (.iload_n 2, 1) := by decide +kernel
theorem dX7_init_169 : decode cX7_init 169 = .ok (.bipush 9, 2) := by decide +kernel
theorem dX7_init_171 : decode cX7_init 171 = .ok (.if_icmp .ge 92, 3) := by decide +kernel
theorem dX7_init_174 : decode cX7_init 174 = .ok (.getstatic 62, 3) := by decide +kernel
theorem dX7_init_177 : decode cX7_init 177 = .ok (.iload_n 1, 1) := by decide +kernel
theorem dX7_init_178 : decode cX7_init 178 = .ok (.iaload, 1) := by decide +kernel
theorem dX7_init_179 : decode cX7_init 179 = .ok (.bipush 8, 2) := by decide +kernel
theorem dX7_init_181 : decode cX7_init 181 = .ok (.iload_n 2, 1) := by decide +kernel
theorem dX7_init_182 : decode cX7_init 182 = .ok (.isub, 1) := by decide +kernel
theorem dX7_init_183 : decode cX7_init 183 = .ok (.ishr, 1) := by decide +kernel
theorem dX7_init_184 : decode cX7_init 184 = .ok (.iconst 1, 1) := by decide +kernel
theorem dX7_init_185 : decode cX7_init 185 = .ok (.iand, 1) := by decide +kernel
theorem dX7_init_186 : decode cX7_init 186 = .ok (.ifCond .eq 71, 3) := by decide +kernel
theorem dX7_init_189 : decode cX7_init 189 = .ok (.aload_n 0, 1) := by decide +kernel
theorem dX7_init_190 : decode cX7_init 190 = .ok (.getfield 22, 3) := by decide +kernel
theorem dX7_init_193 : decode cX7_init 193 = .ok (.iconst 3, 1) := by decide +kernel
theorem dX7_init_194 : decode cX7_init 194 = .ok (.iload_n 1, 1) := by decide +kernel
theorem dX7_init_195 : decode cX7_init 195 = .ok (.imul, 1) := by decide +kernel
theorem dX7_init_196 : decode cX7_init 196 = .ok (.aaload, 1) := by decide +kernel
theorem dX7_init_197 : decode cX7_init 197 = .ok (.iload_n 2, 1) := by decide +kernel
theorem dX7_init_198 : decode cX7_init 198 = .ok (.iconst 3, 1) := by decide +kernel
theorem dX7_init_199 : decode cX7_init 199 = .ok (.idiv, 1) := by decide +kernel
theorem dX7_init_200 : decode cX7_init 200 = .ok (.dup2, 1) := by decide +kernel
theorem dX7_init_201 : decode cX7_init 201 = .ok (.iaload, 1) := by decide +kernel
theorem dX7_init_202 : decode cX7_init 202 = .ok (.iconst 1, 1) := by decide +kernel
theorem dX7_init_203 : decode cX7_init 203 = .ok (.iload_n 2, 1) := by decide +kernel
theorem dX7_init_204 : decode cX7_init 204 = .ok (.iconst 3, 1) := by decide +kernel
theorem dX7_init_205 : decode cX7_init 205 = .ok (.irem, 1) := by decide +kernel
theorem dX7_init_206 : decode cX7_init 206 = .ok (.ishl, 1) := by decide +kernel
theorem dX7_init_207 : decode cX7_init 207 = .ok (.ior, 1) := by decide +kernel
theorem dX7_init_208 : decode cX7_init 208 = .ok (.iastore, 1) := by decide +kernel
theorem dX7_init_209 : decode cX7_init 209 = .ok (.aload_n 0, 1) := by decide +kernel
theorem dX7_init_210 : decode cX7_init 210 = .ok (.getfield 22, 3) := by decide +kernel
theorem dX7_init_213 : decode cX7_init 213 = .ok (.iconst 3, 1) := by decide +kernel
theorem dX7_init_214 : decode cX7_init 214 = .ok (.iload_n 1, 1) := by decide +kernel
theorem dX7_init_215 : decode cX7_init 215 = .ok (.imul, 1) := by decide +kernel
theorem dX7_init_216 : decode cX7_init 216 = .ok (.iconst 1, 1) := by decide +kernel
theorem dX7_init_217 : decode cX7_init 217 = .ok (.iadd, 1) := by decide +kernel
theorem dX7_init_218 : decode cX7_init 218 = .ok (.aaload, 1) := by decide +kernel
theorem dX7_init_219 : decode cX7_init 219 = .ok (.iload_n 2, 1) := by decide +kernel
theorem dX7_init_220 : decode cX7_init 220 = .ok (.iconst 3, 1) := by decide +kernel
theorem dX7_init_221 : decode cX7_init 221 = .ok (.idiv, 1) := by decide +kernel
theorem dX7_init_222 : decode cX7_init 222 = .ok (.dup2, 1) := by decide +kernel
theorem dX7_init_223 : decode cX7_init 223 = .ok (.iaload, 1) := by decide +kernel
theorem dX7_init_224 : decode cX7_init 224 = .ok (.iconst 1, 1) := by decide +kernel
theorem dX7_init_225 : decode cX7_init 225 = .ok (.iconst 2, 1) := by decide +kernel
theorem dX7_init_226 : decode cX7_init 226 = .ok (.iload_n 2, 1) := by decide +kernel
theorem dX7_init_227 : decode cX7_init 227 = .ok (.iconst 3, 1) := by decide +kernel
theorem dX7_init_228 : decode cX7_init 228 = .ok (.irem, 1) := by decide +kernel
theorem dX7_init_229 : decode cX7_init 229 = .ok (.isub, 1) := by decide +kernel
theorem dX7_init_230 : decode cX7_init 230 = .ok (.ishl, 1) := by decide +kernel
theorem dX7_init_231 : decode cX7_init 231 = .ok (.ior, 1) := by decide +kernel
theorem dX7_init_232 : decode cX7_init 232 = .ok (.iastore, 1) := by decide +kernel
theorem dX7_init_233 : decode cX7_init 233 = .ok (.aload_n 0, 1) := by decide +kernel
theorem dX7_init_234 : decode cX7_init 234 = .ok (.getfield 22, 3) := by decide +kernel
theorem dX7_init_237 : decode cX7_init 237 = .ok (.iconst 3, 1) := by decide +kernel
theorem dX7_init_238 : decode cX7_init 238 = .ok (.iload_n 1, 1) := by decide +kernel
theorem dX7_init_239 : decode cX7_init 239 = .ok (.imul, 1) := by decide +kernel
theorem dX7_init_240 : decode cX7_init 240 = .ok (.iconst 2, 1) := by decide +kernel
theorem dX7_init_241 : decode cX7_init 241 = .ok (.iadd, 1) := by decide +kernel
theorem dX7_init_242 : decode cX7_init 242 = .ok (.aaload, 1) := by decide +kernel
theorem dX7_init_243 : decode cX7_init 243 = .ok (.iconst 2, 1) := by decide +kernel
theorem dX7_init_244 : decode cX7_init 244 = .ok (.iload_n 2, 1) := by decide +kernel
theorem dX7_init_245 : decode cX7_init 245 = .ok (.iconst 3, 1) := by decide +kernel
theorem dX7_init_246 : decode cX7_init 246 = .ok (.idiv, 1) := by decide +kernel
theorem dX7_init_247 : decode cX7_init 247 = .ok (.isub, 1) := by decide +kernel
theorem dX7_init_248 : decode cX7_init 248 = .ok (.dup2, 1) := by decide +kernel
theorem dX7_init_249 : decode cX7_init 249 = .ok (.iaload, 1) := by decide +kernel
theorem dX7_init_250 : decode cX7_init 250 = .ok (.iconst 1, 1) := by decide +kernel
theorem dX7_init_251 : decode cX7_init 251 = .ok (.iload_n 2, 1) := by decide +kernel
theorem dX7_init_252 : decode cX7_init 252 = .ok (.iconst 3, 1) := by decide +kernel
theorem dX7_init_253 : decode cX7_init 253 = .ok (.irem, 1) := by decide +kernel
theorem dX7_init_254 : decode cX7_init 254 = .ok (.ishl, 1) := by decide +kernel
theorem dX7_init_255 : decode cX7_init 255 = .ok (.ior, 1) := by decide +kernel
theorem dX7_init_256 : decode cX7_init 256 = .ok (.iastore, 1) := by decide +kernel
theorem dX7_init_257 : decode cX7_init 257 = .ok (.iinc 2 1, 3) := by decide +kernel
theorem dX7_init_260 : decode cX7_init 260 = .ok (.goto (-92), 3) := by decide +kernel
theorem dX7_init_263 : decode cX7_init 263 = .ok (.iinc 1 1, 3) := by decide +kernel
theorem dX7_init_266 : decode cX7_init 266 = .ok (.goto (-106), 3) := by decide +kernel
theorem dX7_init_269 : decode cX7_init 269 = .ok (.return_, 1) := by decide +kernel
theorem dX7_isFromTo_0 : decode cX7_isFromTo 0 = .ok (.iload_n 0, 1) := by decide +kernel
theorem dX7_isFromTo_1 : decode cX7_isFromTo 1 = .ok (.iload_n 1, 1) := by decide +kernel
theorem dX7_isFromTo_2 : decode cX7_isFromTo 2 = .ok (.if_icmp .lt 12, 3) := by decide +kernel
theorem dX7_isFromTo_5 : decode cX7_isFromTo 5 = .ok (.iload_n 0, 1) := by decide +kernel
theorem dX7_isFromTo_6 : decode cX7_isFromTo 6 = .ok (.iload_n 2, 1) := by decide +kernel
theorem dX7_isFromTo_7 : decode cX7_isFromTo 7 = .ok (.if_icmp .gt 7, 3) := by decide +kernel
theorem dX7_isFromTo_10 : decode cX7_isFromTo 10 = .ok (.iconst 1, 1) := by decide +kernel
theorem dX7_isFromTo_11 : decode cX7_isFromTo 11 = .ok (.goto 4, 3) := by decide +kernel
theorem dX7_isFromTo_14 : decode cX7_isFromTo 14 = .ok (.iconst 0, 1) := by decide +kernel
theorem dX7_isFromTo_15 : decode cX7_isFromTo 15 = .ok (.ireturn, 1) := by decide +kernel
theorem dX7_isInShape_0 : decode cX7_isInShape 0 = .ok (.iconst 2, 1) := by decide +kernel
theorem dX7_isInShape_1 : decode cX7_isInShape 1 = .ok (.iload_n 1, 1) := by decide +kernel
theorem dX7_isInShape_2 : decode cX7_isInShape 2 = .ok (.imul, 1) := by decide +kernel
theorem dX7_isInShape_3 : decode cX7_isInShape 3 = .ok (.bipush 15, 2) := by decide +kernel
theorem dX7_isInShape_5 : decode cX7_isInShape 5 = .ok (.isub, 1) := by decide +kernel
theorem dX7_isInShape_6 : decode cX7_isInShape 6 = .ok (.invokestatic 80, 3) := by decide +kernel
theorem dX7_isInShape_9 : decode cX7_isInShape 9 = .ok (.istore_n 3, 1) := by decide +kernel
theorem dX7_isInShape_10 : decode cX7_isInShape 10 = .ok (.iconst 2, 1) := by decide +kernel
theorem dX7_isInShape_11 : decode cX7_isInShape 11 = .ok (.iload_n 2, 1) := by decide +kernel
theorem dX7_isInShape_12 : decode cX7_isInShape 12 = .ok (.imul, 1) := by decide +kernel
theorem dX7_isInShape_13 : decode cX7_isInShape 13 = .ok (.bipush 15, 2) := by decide +kernel
theorem dX7_isInShape_15 : decode cX7_isInShape 15 = .ok (.isub, 1) := by decide +kernel
theorem dX7_isInShape_16 : decode cX7_isInShape 16 = .ok (.invokestatic 80, 3) := by decide +kernel
theorem dX7_isInShape_19 : decode cX7_isInShape 19 = .ok (.istore 4, 2) := by decide +kernel
theorem dX7_isInShape_21 : decode cX7_isInShape 21 = .ok (.iload_n 0, 1) := by decide +kernel
theorem dX7_isInShape_22 : decode cX7_isInShape 22 = .ok (.tableswitch 65 0 2 #[26, 48, 63], 26) := by decide +kernel
theorem dX7_isInShape_48 : decode cX7_isInShape 48 = .ok (.iload_n 2, 1) := by decide +kernel
theorem dX7_isInShape_49 : decode cX7_isInShape 49 = .ok (.bipush 8, 2) := by decide +kernel
theorem dX7_isInShape_51 : decode cX7_isInShape 51 = .ok (.if_icmp .lt 13, 3) := by decide +kernel
theorem dX7_isInShape_54 : decode cX7_isInShape 54 = .ok (.iload_n 3, 1) := by decide +kernel
theorem dX7_isInShape_55 : decode cX7_isInShape 55 = .ok (.bipush 31, 2) := by decide +kernel
theorem dX7_isInShape_57 : decode cX7_isInShape 57 = .ok (.iconst 2, 1) := by decide +kernel
theorem dX7_isInShape_58 : decode cX7_isInShape 58 = .ok (.iload_n 2, 1) := by decide +kernel
theorem dX7_isInShape_59 : decode cX7_isInShape 59 = .ok (.imul, 1) := by decide +kernel
theorem dX7_isInShape_60 : decode cX7_isInShape 60 = .ok (.isub, 1) := by decide +kernel
theorem dX7_isInShape_61 : decode cX7_isInShape 61 = .ok (.if_icmp .gt 7, 3) := by decide +kernel
theorem dX7_isInShape_64 : decode cX7_isInShape 64 = .ok (.iconst 1, 1) := by decide +kernel
theorem dX7_isInShape_65 : decode cX7_isInShape 65 = .ok (.goto 4, 3) := by decide +kernel
theorem dX7_isInShape_68 : decode cX7_isInShape 68 = .ok (.iconst 0, 1) := by decide +kernel
theorem dX7_isInShape_69 : decode cX7_isInShape 69 = .ok (.ireturn, 1) := by decide +kernel
theorem dX7_isInShape_70 : decode cX7_isInShape 70 = .ok (.iload_n 3, 1) := by decide +kernel
theorem dX7_isInShape_71 : decode cX7_isInShape 71 = .ok (.iload 4, 2) := by decide +kernel
theorem dX7_isInShape_73 : decode cX7_isInShape 73 = .ok (.iadd, 1) := by decide +kernel
theorem dX7_isInShape_74 : decode cX7_isInShape 74 = .ok (.bipush 16, 2) := by decide +kernel
theorem dX7_isInShape_76 : decode cX7_isInShape 76 = .ok (.if_icmp .gt 7, 3) := by decide +kernel
theorem dX7_isInShape_79 : decode cX7_isInShape 79 = .ok (.iconst 1, 1) := by decide +kernel
theorem dX7_isInShape_80 : decode cX7_isInShape 80 = .ok (.goto 4, 3) := by decide +kernel
theorem dX7_isInShape_83 : decode cX7_isInShape 83 = .ok (.iconst 0, 1) := by decide +kernel
theorem dX7_isInShape_84 : decode cX7_isInShape 84 = .ok (.ireturn, 1) := by decide +kernel
theorem dX7_isInShape_85 : decode cX7_isInShape 85 = .ok (.iconst 1, 1) := by decide +kernel
theorem dX7_isInShape_86 : decode cX7_isInShape 86 = .ok (.ireturn, 1) := by decide +kernel
theorem dX7_isInShape_87 : decode cX7_isInShape 87 = .ok (.iload_n 3, 1) := by decide +kernel
theorem dX7_isInShape_88 : decode cX7_isInShape 88 = .ok (.iload_n 3, 1) := by decide +kernel
theorem dX7_isInShape_89 : decode cX7_isInShape 89 = .ok (.imul, 1) := by decide +kernel
theorem dX7_isInShape_90 : decode cX7_isInShape 90 = .ok (.iload 4, 2) := by decide +kernel
theorem dX7_isInShape_92 : decode cX7_isInShape 92 = .ok (.iload 4, 2) := by decide +kernel
theorem dX7_isInShape_94 : decode cX7_isInShape 94 = .ok (.imul, 1) := by decide +kernel
theorem dX7_isInShape_95 : decode cX7_isInShape 95 = .ok (.iadd, 1) := by decide +kernel
theorem dX7_isInShape_96 : decode cX7_isInShape 96 = .ok (.sipush 240, 3) := by decide +kernel
theorem dX7_isInShape_99 : decode cX7_isInShape 99 = .ok (.if_icmp .gt 7, 3) := by decide +kernel
theorem dX7_isInShape_102 : decode cX7_isInShape 102 = .ok (.iconst 1, 1) := by decide +kernel
theorem dX7_isInShape_103 : decode cX7_isInShape 103 = .ok (.goto 4, 3) := by decide +kernel
theorem dX7_isInShape_106 : decode cX7_isInShape 106 = .ok (.iconst 0, 1) := by decide +kernel
theorem dX7_isInShape_107 : decode cX7_isInShape 107 = .ok (.ireturn, 1) := by decide +kernel
theorem dX7_isOnOrdinary_0 : decode cX7_isOnOrdinary 0 = .ok (.iload_n 0, 1) := by decide +kernel
theorem dX7_isOnOrdinary_1 : decode cX7_isOnOrdinary 1 = .ok (.tableswitch 191 21 27 #[43, 58, 73, 89, 106, 134, 165], 43) := by decide +kernel
theorem dX7_isOnOrdinary_44 : decode cX7_isOnOrdinary 44 = .ok (.iload_n 2, 1) := by decide +kernel
theorem dX7_isOnOrdinary_45 : decode cX7_isOnOrdinary 45 = .ok (.iload_n 1, 1) := by decide +kernel
theorem dX7_isOnOrdinary_46 : decode cX7_isOnOrdinary 46 = .ok (.iload_n 3, 1) := by decide +kernel
theorem dX7_isOnOrdinary_47 : decode cX7_isOnOrdinary 47 = .ok (.invokestatic 76, 3) := by decide +kernel
theorem dX7_isOnOrdinary_50 : decode cX7_isOnOrdinary 50 = .ok (.iadd, 1) := by decide +kernel
theorem dX7_isOnOrdinary_51 : decode cX7_isOnOrdinary 51 = .ok (.bipush 6, 2) := by decide +kernel
theorem dX7_isOnOrdinary_53 : decode cX7_isOnOrdinary 53 = .ok (.bipush 9, 2) := by decide +kernel
theorem dX7_isOnOrdinary_55 : decode cX7_isOnOrdinary 55 = .ok (.invokestatic 86, 3) := by decide +kernel
theorem dX7_isOnOrdinary_58 : decode cX7_isOnOrdinary 58 = .ok (.ireturn, 1) := by decide +kernel
theorem dX7_isOnOrdinary_59 : decode cX7_isOnOrdinary 59 = .ok (.iload_n 3, 1) := by decide +kernel
theorem dX7_isOnOrdinary_60 : decode cX7_isOnOrdinary 60 = .ok (.iload_n 1, 1) := by decide +kernel
theorem dX7_isOnOrdinary_61 : decode cX7_isOnOrdinary 61 = .ok (.iload_n 2, 1) := by decide +kernel
theorem dX7_isOnOrdinary_62 : decode cX7_isOnOrdinary 62 = .ok (.invokestatic 76, 3) := by decide +kernel
theorem dX7_isOnOrdinary_65 : decode cX7_isOnOrdinary 65 = .ok (.iadd, 1) := by decide +kernel
theorem dX7_isOnOrdinary_66 : decode cX7_isOnOrdinary 66 = .ok (.bipush 6, 2) := by decide +kernel
theorem dX7_isOnOrdinary_68 : decode cX7_isOnOrdinary 68 = .ok (.bipush 9, 2) := by decide +kernel
theorem dX7_isOnOrdinary_70 : decode cX7_isOnOrdinary 70 = .ok (.invokestatic 86, 3) := by decide +kernel
theorem dX7_isOnOrdinary_73 : decode cX7_isOnOrdinary 73 = .ok (.ireturn, 1) := by decide +kernel
theorem dX7_isOnOrdinary_74 : decode cX7_isOnOrdinary 74 = .ok (.iload_n 3, 1) := by decide +kernel
theorem dX7_isOnOrdinary_75 : decode cX7_isOnOrdinary 75 = .ok (.iload_n 2, 1) := by decide +kernel
theorem dX7_isOnOrdinary_76 : decode cX7_isOnOrdinary 76 = .ok (.isub, 1) := by decide +kernel
theorem dX7_isOnOrdinary_77 : decode cX7_isOnOrdinary 77 = .ok (.iload_n 1, 1) := by decide +kernel
theorem dX7_isOnOrdinary_78 : decode cX7_isOnOrdinary 78 = .ok (.iload_n 2, 1) := by decide +kernel
theorem dX7_isOnOrdinary_79 : decode cX7_isOnOrdinary 79 = .ok (.invokestatic 76, 3) := by decide +kernel
theorem dX7_isOnOrdinary_82 : decode cX7_isOnOrdinary 82 = .ok (.iadd, 1) := by decide +kernel
theorem dX7_isOnOrdinary_83 : decode cX7_isOnOrdinary 83 = .ok (.bipush (-2), 2) := by decide +kernel
theorem dX7_isOnOrdinary_85 : decode cX7_isOnOrdinary 85 = .ok (.iconst 2, 1) := by decide +kernel
theorem dX7_isOnOrdinary_86 : decode cX7_isOnOrdinary 86 = .ok (.invokestatic 86, 3) := by decide +kernel
theorem dX7_isOnOrdinary_89 : decode cX7_isOnOrdinary 89 = .ok (.ireturn, 1) := by decide +kernel
theorem dX7_isOnOrdinary_90 : decode cX7_isOnOrdinary 90 = .ok (.iload_n 3, 1) := by decide +kernel
theorem dX7_isOnOrdinary_91 : decode cX7_isOnOrdinary 91 = .ok (.iload_n 1, 1) := by decide +kernel
theorem dX7_isOnOrdinary_92 : decode cX7_isOnOrdinary 92 = .ok (.iload_n 2, 1) := by decide +kernel
theorem dX7_isOnOrdinary_93 : decode cX7_isOnOrdinary 93 = .ok (.invokestatic 76, 3) := by decide +kernel
theorem dX7_isOnOrdinary_96 : decode cX7_isOnOrdinary 96 = .ok (.iadd, 1) := by decide +kernel
theorem dX7_isOnOrdinary_97 : decode cX7_isOnOrdinary 97 = .ok (.iconst 4, 1) := by decide +kernel
theorem dX7_isOnOrdinary_98 : decode cX7_isOnOrdinary 98 = .ok (.if_icmp .gt 7, 3) := by decide +kernel
theorem dX7_isOnOrdinary_101 : decode cX7_isOnOrdinary 101 = .ok (.iconst 1, 1) := by decide +kernel
theorem dX7_isOnOrdinary_102 : decode cX7_isOnOrdinary 102 = .ok (.goto 4, 3) := by decide +kernel
theorem dX7_isOnOrdinary_105 : decode cX7_isOnOrdinary 105 = .ok (.iconst 0, 1) := by decide +kernel
theorem dX7_isOnOrdinary_106 : decode cX7_isOnOrdinary 106 = .ok (.ireturn, 1) := by decide +kernel
theorem dX7_isOnOrdinary_107 : decode cX7_isOnOrdinary 107 = .ok (.iload_n 2, 1) := by decide +kernel
theorem dX7_isOnOrdinary_108 : decode cX7_isOnOrdinary 108 = .ok (.bipush 7, 2) := by decide +kernel
theorem dX7_isOnOrdinary_110 : decode cX7_isOnOrdinary 110 = .ok (.bipush 8, 2) := by decide +kernel
theorem dX7_isOnOrdinary_112 : decode cX7_isOnOrdinary 112 = .ok (.invokestatic 86, 3) := by decide +kernel
theorem dX7_isOnOrdinary_115 : decode cX7_isOnOrdinary 115 = .ok (.ifCond .ne 14, 3) := by decide +kernel
theorem dX7_isOnOrdinary_118 : decode cX7_isOnOrdinary 118 = .ok (.iload_n 3, 1) := by decide +kernel
theorem dX7_isOnOrdinary_119 : decode cX7_isOnOrdinary 119 = .ok (.bipush 7, 2) := by decide +kernel
theorem dX7_isOnOrdinary_121 : decode cX7_isOnOrdinary 121 = .ok (.bipush 8, 2) := by decide +kernel
theorem dX7_isOnOrdinary_123 : decode cX7_isOnOrdinary 123 = .ok (.invokestatic 86, 3) := by decide +kernel
theorem dX7_isOnOrdinary_126 : decode cX7_isOnOrdinary 126 = .ok (.ifCond .eq 7, 3) := by decide +kernel
theorem dX7_isOnOrdinary_129 : decode cX7_isOnOrdinary 129 = .ok (.iconst 1, 1) := by decide +kernel
theorem dX7_isOnOrdinary_130 : decode cX7_isOnOrdinary 130 = .ok (.goto 4, 3) := by decide +kernel
theorem dX7_isOnOrdinary_133 : decode cX7_isOnOrdinary 133 = .ok (.iconst 0, 1) := by decide +kernel
theorem dX7_isOnOrdinary_134 : decode cX7_isOnOrdinary 134 = .ok (.ireturn, 1) := by decide +kernel
theorem dX7_isOnOrdinary_135 : decode cX7_isOnOrdinary 135 = .ok (.iload_n 2, 1) := by decide +kernel
theorem dX7_isOnOrdinary_136 : decode cX7_isOnOrdinary 136 = .ok (.iload_n 3, 1) := by decide +kernel
theorem dX7_isOnOrdinary_137 : decode cX7_isOnOrdinary 137 = .ok (.isub, 1) := by decide +kernel
theorem dX7_isOnOrdinary_138 : decode cX7_isOnOrdinary 138 = .ok (.iconst (-1), 1) := by decide +kernel
theorem dX7_isOnOrdinary_139 : decode cX7_isOnOrdinary 139 = .ok (.iconst 1, 1) := by decide +kernel
theorem dX7_isOnOrdinary_140 : decode cX7_isOnOrdinary 140 = .ok (.invokestatic 86, 3) := by decide +kernel
theorem dX7_isOnOrdinary_143 : decode cX7_isOnOrdinary 143 = .ok (.ifCond .ne 17, 3) := by decide +kernel
theorem dX7_isOnOrdinary_146 : decode cX7_isOnOrdinary 146 = .ok (.iload_n 2, 1) := by decide +kernel
theorem dX7_isOnOrdinary_147 : decode cX7_isOnOrdinary 147 = .ok (.iload_n 3, 1) := by decide +kernel
theorem dX7_isOnOrdinary_148 : decode cX7_isOnOrdinary 148 = .ok (.iadd, 1) := by decide +kernel
theorem dX7_isOnOrdinary_149 : decode cX7_isOnOrdinary 149 = .ok (.bipush 15, 2) := by decide +kernel
theorem dX7_isOnOrdinary_151 : decode cX7_isOnOrdinary 151 = .ok (.isub, 1) := by decide +kernel
theorem dX7_isOnOrdinary_152 : decode cX7_isOnOrdinary 152 = .ok (.iconst (-1), 1) := by decide +kernel
theorem dX7_isOnOrdinary_153 : decode cX7_isOnOrdinary 153 = .ok (.iconst 1, 1) := by decide +kernel
theorem dX7_isOnOrdinary_154 : decode cX7_isOnOrdinary 154 = .ok (.invokestatic 86, 3) := by decide +kernel
theorem dX7_isOnOrdinary_157 : decode cX7_isOnOrdinary 157 = .ok (.ifCond .eq 7, 3) := by decide +kernel
theorem dX7_isOnOrdinary_160 : decode cX7_isOnOrdinary 160 = .ok (.iconst 1, 1) := by decide +kernel
theorem dX7_isOnOrdinary_161 : decode cX7_isOnOrdinary 161 = .ok (.goto 4, 3) := by decide +kernel
theorem dX7_isOnOrdinary_164 : decode cX7_isOnOrdinary 164 = .ok (.iconst 0, 1) := by decide +kernel
theorem dX7_isOnOrdinary_165 : decode cX7_isOnOrdinary 165 = .ok (.ireturn, 1) := by decide +kernel
theorem dX7_isOnOrdinary_166 : decode cX7_isOnOrdinary 166 = .ok (.iload_n 3, 1) := by decide +kernel
theorem dX7_isOnOrdinary_167 : decode cX7_isOnOrdinary 167 = .ok (.iload_n 1, 1) := by decide +kernel
theorem dX7_isOnOrdinary_168 : decode cX7_isOnOrdinary 168 = .ok (.iload_n 2, 1) := by decide +kernel
theorem dX7_isOnOrdinary_169 : decode cX7_isOnOrdinary 169 = .ok (.invokestatic 76, 3) := by decide +kernel
theorem dX7_isOnOrdinary_172 : decode cX7_isOnOrdinary 172 = .ok (.iadd, 1) := by decide +kernel
theorem dX7_isOnOrdinary_173 : decode cX7_isOnOrdinary 173 = .ok (.iconst 2, 1) := by decide +kernel
theorem dX7_isOnOrdinary_174 : decode cX7_isOnOrdinary 174 = .ok (.iload_n 2, 1) := by decide +kernel
theorem dX7_isOnOrdinary_175 : decode cX7_isOnOrdinary 175 = .ok (.imul, 1) := by decide +kernel
theorem dX7_isOnOrdinary_176 : decode cX7_isOnOrdinary 176 = .ok (.bipush 15, 2) := by decide +kernel
theorem dX7_isOnOrdinary_178 : decode cX7_isOnOrdinary 178 = .ok (.isub, 1) := by decide +kernel
theorem dX7_isOnOrdinary_179 : decode cX7_isOnOrdinary 179 = .ok (.invokestatic 80, 3) := by decide +kernel
theorem dX7_isOnOrdinary_182 : decode cX7_isOnOrdinary 182 = .ok (.iconst 2, 1) := by decide +kernel
theorem dX7_isOnOrdinary_183 : decode cX7_isOnOrdinary 183 = .ok (.idiv, 1) := by decide +kernel
theorem dX7_isOnOrdinary_184 : decode cX7_isOnOrdinary 184 = .ok (.isub, 1) := by decide +kernel
theorem dX7_isOnOrdinary_185 : decode cX7_isOnOrdinary 185 = .ok (.iconst 3, 1) := by decide +kernel
theorem dX7_isOnOrdinary_186 : decode cX7_isOnOrdinary 186 = .ok (.bipush 6, 2) := by decide +kernel
theorem dX7_isOnOrdinary_188 : decode cX7_isOnOrdinary 188 = .ok (.invokestatic 86, 3) := by decide +kernel
theorem dX7_isOnOrdinary_191 : decode cX7_isOnOrdinary 191 = .ok (.ireturn, 1) := by decide +kernel
theorem dX7_isOnOrdinary_192 : decode cX7_isOnOrdinary 192 = .ok (.iload_n 2, 1) := by decide +kernel
theorem dX7_isOnOrdinary_193 : decode cX7_isOnOrdinary 193 = .ok (.iconst 2, 1) := by decide +kernel
theorem dX7_isOnOrdinary_194 : decode cX7_isOnOrdinary 194 = .ok (.bipush 13, 2) := by decide +kernel
theorem dX7_isOnOrdinary_196 : decode cX7_isOnOrdinary 196 = .ok (.invokestatic 86, 3) := by decide +kernel
theorem dX7_isOnOrdinary_199 : decode cX7_isOnOrdinary 199 = .ok (.ifCond .eq 13, 3) := by decide +kernel
theorem dX7_isOnOrdinary_202 : decode cX7_isOnOrdinary 202 = .ok (.iload_n 3, 1) := by decide +kernel
theorem dX7_isOnOrdinary_203 : decode cX7_isOnOrdinary 203 = .ok (.iconst 2, 1) := by decide +kernel
theorem dX7_isOnOrdinary_204 : decode cX7_isOnOrdinary 204 = .ok (.bipush 13, 2) := by decide +kernel
theorem dX7_isOnOrdinary_206 : decode cX7_isOnOrdinary 206 = .ok (.invokestatic 86, 3) := by decide +kernel
theorem dX7_isOnOrdinary_209 : decode cX7_isOnOrdinary 209 = .ok (.ifCond .ne 7, 3) := by decide +kernel
theorem dX7_isOnOrdinary_212 : decode cX7_isOnOrdinary 212 = .ok (.iconst 1, 1) := by decide +kernel
theorem dX7_isOnOrdinary_213 : decode cX7_isOnOrdinary 213 = .ok (.goto 4, 3) := by decide +kernel
theorem dX7_isOnOrdinary_216 : decode cX7_isOnOrdinary 216 = .ok (.iconst 0, 1) := by decide +kernel
theorem dX7_isOnOrdinary_217 : decode cX7_isOnOrdinary 217 = .ok (.ireturn, 1) := by decide +kernel
theorem dX7_isSecond_0 : decode cX7_isSecond 0 = .ok (.iload_n 0, 1) := by decide +kernel
theorem dX7_isSecond_1 : decode cX7_isSecond 1 = .ok (.tableswitch 111 11 14 #[31, 49, 67, 84], 31) := by decide +kernel
theorem dX7_isSecond_32 : decode cX7_isSecond 32 = .ok (.iload_n 2, 1) := by decide +kernel
theorem dX7_isSecond_33 : decode cX7_isSecond 33 = .ok (.iload_n 1, 1) := by decide +kernel
theorem dX7_isSecond_34 : decode cX7_isSecond 34 = .ok (.iload_n 3, 1) := by decide +kernel
theorem dX7_isSecond_35 : decode cX7_isSecond 35 = .ok (.invokestatic 76, 3) := by decide +kernel
theorem dX7_isSecond_38 : decode cX7_isSecond 38 = .ok (.iadd, 1) := by decide +kernel
theorem dX7_isSecond_39 : decode cX7_isSecond 39 = .ok (.bipush 8, 2) := by decide +kernel
theorem dX7_isSecond_41 : decode cX7_isSecond 41 = .ok (.if_icmp .lt 7, 3) := by decide +kernel
theorem dX7_isSecond_44 : decode cX7_isSecond 44 = .ok (.iconst 1, 1) := by decide +kernel
theorem dX7_isSecond_45 : decode cX7_isSecond 45 = .ok (.goto 4, 3) := by decide +kernel
theorem dX7_isSecond_48 : decode cX7_isSecond 48 = .ok (.iconst 0, 1) := by decide +kernel
theorem dX7_isSecond_49 : decode cX7_isSecond 49 = .ok (.ireturn, 1) := by decide +kernel
theorem dX7_isSecond_50 : decode cX7_isSecond 50 = .ok (.iload_n 3, 1) := by decide +kernel
theorem dX7_isSecond_51 : decode cX7_isSecond 51 = .ok (.iload_n 1, 1) := by decide +kernel
theorem dX7_isSecond_52 : decode cX7_isSecond 52 = .ok (.iload_n 2, 1) := by decide +kernel
theorem dX7_isSecond_53 : decode cX7_isSecond 53 = .ok (.invokestatic 76, 3) := by decide +kernel
theorem dX7_isSecond_56 : decode cX7_isSecond 56 = .ok (.iadd, 1) := by decide +kernel
theorem dX7_isSecond_57 : decode cX7_isSecond 57 = .ok (.bipush 8, 2) := by decide +kernel
theorem dX7_isSecond_59 : decode cX7_isSecond 59 = .ok (.if_icmp .lt 7, 3) := by decide +kernel
theorem dX7_isSecond_62 : decode cX7_isSecond 62 = .ok (.iconst 1, 1) := by decide +kernel
theorem dX7_isSecond_63 : decode cX7_isSecond 63 = .ok (.goto 4, 3) := by decide +kernel
theorem dX7_isSecond_66 : decode cX7_isSecond 66 = .ok (.iconst 0, 1) := by decide +kernel
theorem dX7_isSecond_67 : decode cX7_isSecond 67 = .ok (.ireturn, 1) := by decide +kernel
theorem dX7_isSecond_68 : decode cX7_isSecond 68 = .ok (.iload_n 3, 1) := by decide +kernel
theorem dX7_isSecond_69 : decode cX7_isSecond 69 = .ok (.iload_n 1, 1) := by decide +kernel
theorem dX7_isSecond_70 : decode cX7_isSecond 70 = .ok (.iload_n 2, 1) := by decide +kernel
theorem dX7_isSecond_71 : decode cX7_isSecond 71 = .ok (.invokestatic 76, 3) := by decide +kernel
theorem dX7_isSecond_74 : decode cX7_isSecond 74 = .ok (.iadd, 1) := by decide +kernel
theorem dX7_isSecond_75 : decode cX7_isSecond 75 = .ok (.iload_n 2, 1) := by decide +kernel
theorem dX7_isSecond_76 : decode cX7_isSecond 76 = .ok (.if_icmp .le 7, 3) := by decide +kernel
theorem dX7_isSecond_79 : decode cX7_isSecond 79 = .ok (.iconst 1, 1) := by decide +kernel
theorem dX7_isSecond_80 : decode cX7_isSecond 80 = .ok (.goto 4, 3) := by decide +kernel
theorem dX7_isSecond_83 : decode cX7_isSecond 83 = .ok (.iconst 0, 1) := by decide +kernel
theorem dX7_isSecond_84 : decode cX7_isSecond 84 = .ok (.ireturn, 1) := by decide +kernel
theorem dX7_isSecond_85 : decode cX7_isSecond 85 = .ok (.iconst 2, 1) := by decide +kernel
theorem dX7_isSecond_86 : decode cX7_isSecond 86 = .ok (.iload_n 2, 1) := by decide +kernel
theorem dX7_isSecond_87 : decode cX7_isSecond 87 = .ok (.imul, 1) := by decide +kernel
theorem dX7_isSecond_88 : decode cX7_isSecond 88 = .ok (.bipush 15, 2) := by decide +kernel
theorem dX7_isSecond_90 : decode cX7_isSecond 90 = .ok (.isub, 1) := by decide +kernel
theorem dX7_isSecond_91 : decode cX7_isSecond 91 = .ok (.invokestatic 80, 3) := by decide +kernel
theorem dX7_isSecond_94 : decode cX7_isSecond 94 = .ok (.iconst 2, 1) := by decide +kernel
theorem dX7_isSecond_95 : decode cX7_isSecond 95 = .ok (.iload_n 3, 1) := by decide +kernel
theorem dX7_isSecond_96 : decode cX7_isSecond 96 = .ok (.imul, 1) := by decide +kernel
theorem dX7_isSecond_97 : decode cX7_isSecond 97 = .ok (.bipush 15, 2) := by decide +kernel
theorem dX7_isSecond_99 : decode cX7_isSecond 99 = .ok (.isub, 1) := by decide +kernel
theorem dX7_isSecond_100 : decode cX7_isSecond 100 = .ok (.invokestatic 80, 3) := by decide +kernel
theorem dX7_isSecond_103 : decode cX7_isSecond 103 = .ok (.if_icmp .le 7, 3) := by decide +kernel
theorem dX7_isSecond_106 : decode cX7_isSecond 106 = .ok (.iconst 1, 1) := by decide +kernel
theorem dX7_isSecond_107 : decode cX7_isSecond 107 = .ok (.goto 4, 3) := by decide +kernel
theorem dX7_isSecond_110 : decode cX7_isSecond 110 = .ok (.iconst 0, 1) := by decide +kernel
theorem dX7_isSecond_111 : decode cX7_isSecond 111 = .ok (.ireturn, 1) := by decide +kernel
theorem dX7_isSecond_112 : decode cX7_isSecond 112 = .ok (.iload_n 2, 1) := by decide +kernel
theorem dX7_isSecond_113 : decode cX7_isSecond 113 = .ok (.bipush 8, 2) := by decide +kernel
theorem dX7_isSecond_115 : decode cX7_isSecond 115 = .ok (.if_icmp .lt 7, 3) := by decide +kernel
theorem dX7_isSecond_118 : decode cX7_isSecond 118 = .ok (.iconst 1, 1) := by decide +kernel
theorem dX7_isSecond_119 : decode cX7_isSecond 119 = .ok (.goto 4, 3) := by decide +kernel
theorem dX7_isSecond_122 : decode cX7_isSecond 122 = .ok (.iconst 0, 1) := by decide +kernel
theorem dX7_isSecond_123 : decode cX7_isSecond 123 = .ok (.iload_n 3, 1) := by decide +kernel
theorem dX7_isSecond_124 : decode cX7_isSecond 124 = .ok (.bipush 8, 2) := by decide +kernel
theorem dX7_isSecond_126 : decode cX7_isSecond 126 = .ok (.if_icmp .lt 7, 3) := by decide +kernel
theorem dX7_isSecond_129 : decode cX7_isSecond 129 = .ok (.iconst 1, 1) := by decide +kernel
theorem dX7_isSecond_130 : decode cX7_isSecond 130 = .ok (.goto 4, 3) := by decide +kernel
theorem dX7_isSecond_133 : decode cX7_isSecond 133 = .ok (.iconst 0, 1) := by decide +kernel
theorem dX7_isSecond_134 : decode cX7_isSecond 134 = .ok (.if_icmp .eq 7, 3) := by decide +kernel
theorem dX7_isSecond_137 : decode cX7_isSecond 137 = .ok (.iconst 1, 1) := by decide +kernel
theorem dX7_isSecond_138 : decode cX7_isSecond 138 = .ok (.goto 4, 3) := by decide +kernel
theorem dX7_isSecond_141 : decode cX7_isSecond 141 = .ok (.iconst 0, 1) := by decide +kernel
theorem dX7_isSecond_142 : decode cX7_isSecond 142 = .ok (.ireturn, 1) := by decide +kernel
theorem dX7_shift_0 : decode cX7_shift 0 = .ok (.iload_n 1, 1) := by decide +kernel
theorem dX7_shift_1 : decode cX7_shift 1 = .ok (.iconst 4, 1) := by decide +kernel
theorem dX7_shift_2 : decode cX7_shift 2 = .ok (.irem, 1) := by decide +kernel
theorem dX7_shift_3 : decode cX7_shift 3 = .ok (.iconst 2, 1) := by decide +kernel
theorem dX7_shift_4 : decode cX7_shift 4 = .ok (.if_icmp .lt 7, 3) := by decide +kernel
theorem dX7_shift_7 : decode cX7_shift 7 = .ok (.iload_n 0, 1) := by decide +kernel
theorem dX7_shift_8 : decode cX7_shift 8 = .ok (.goto 4, 3) := by decide +kernel
theorem dX7_shift_11 : decode cX7_shift 11 = .ok (.iconst 0, 1) := by decide +kernel
theorem dX7_shift_12 : decode cX7_shift 12 = .ok (.ireturn, 1) := by decide +kernel
section KQ2
variable {p : Program} {l : Launch} {e : Env} {R : Room} {s : State} {m : MethodId} {args : Array Value} {below : List Frame} {meth : Method} {c : Code} {H : Heap} {locs : List Loc} {cells slots : Nat} {Qw : State → Prop}
variable {cc : ByteArray} {pc : Nat} {ls : Array Slot} {rest st0 : List Value} {D : va_G} {dA : Nat → ClassId} {tE tC : Nat} {A : Nat → Prop} {ws wc wr : va_W} {mc ms : Nat}
/-- a row of an array of arrays of int -/
theorem kq_aldA (k b : Nat) {tys : List (ClassId × FieldType)} (hexec : p.tables.exec = Jvm.exec) (hb : c.code = cc) (hK : va_K D vwCl tys s) (hP : va_P D vwCl ws H) (q0 t0 : Nat) {a : Nat} {cA : ClassId} {n : Nat} {f : Nat → Option Nat} (ha : ws[q0]? = some (a, .inl (cA, n, .inr (.inr (.inr (.inr f)))))) (ht : tys[t0]? = some (cA, .array .int)) {i : Int32} (hin : vp_in i n) (hk : i.toNatClampNeg = k) (hv : f k = some b) (hdg : decode cc pc = .ok (.aaload, 1))
    (kk : W p l e R s m args below meth c H locs cells slots Qw (F0 m (pc + 1) ls (.ref b :: rest))) : W p l e R s m args below meth c H locs cells slots Qw (F0 m pc ls (.int i :: .ref a :: rest)) := by
  have hlt : i.toNatClampNeg < n := Nat.not_le.mp fun q => hin (Or.inr q)
  have hv2 : va_rf (f i.toNatClampNeg) = .ref b := by rw [hk, hv]; rfl
  exact W.aald (v := .ref b) (ty := .array .int) hexec hb (hP q0 _ ha) ((hK.2 t0 _ ht).1 n (fun j => va_rf (f j))) rfl (fun q => by cases q) (by show ¬ (i < 0 ∨ (arrV _ _ _).slots.size ≤ _); rw [arrV_size]; exact hin) (by show (arrV _ _ _).slots[_]? = _; rw [arrV_read _ _ hlt, hv2]) rfl rfl hdg kk
/-- two ways that meet with one number on top -/
theorem kq_two {pcj : Nat} {st : Int32 → List Value} (h1 : (∀ t, W p l e R s m args below meth c H locs cells slots Qw (F0 m pcj ls (st t))) → W p l e R s m args below meth c H locs cells slots Qw (F0 m pc ls st0))
    (h2 : ∀ t, W p l e R s m args below meth c H locs cells slots Qw (F0 m pcj ls (st t))) : W p l e R s m args below meth c H locs cells slots Qw (F0 m pc ls st0) := h1 h2
/-- new int[n][k], with its rows -/
theorem kq_mnaR {own : String} {index : Nat} (hx : p.tables.exec = Jvm.exec) (hb : c.code = cc) (hown : s.vm.findClass own = some m.cls) (hgw : ∀ w ∈ gW, w.before args s = true) (wk : Cond.classLink own index "[[I" ∈ gW) (wa : Cond.arrayClass .int ∈ gW) (hG : gs tE tC A s) (hK : va_K D vwCl (tyl dA) s) (hP : va_P D vwCl ws H) (hD : va_D A ws) (hS : va_S A s.heap H locs) (hA : ∀ q, s.heap.size ≤ q → A q)
    {n k : Int32} {N' K' : Nat} (hn : ¬ n < 0) (hk : ¬ k < 0) (hN : n.toNatClampNeg = N') (hM : k.toNatClampNeg = K') (hb1 : N' * 4 ≤ 536870912) (hb2 : K' * componentBytes .int ≤ 536870912) (hb3 : K' ≤ 536870912) (hcells : cells + (1 + N') ≤ R.cells) (hslots : slots + (N' + N' * K') ≤ R.slots) (hdg : decode cc pc = .ok (.multianewarray index 2, 4))
    (kk : ∀ (q : Nat) (r : Nat → Nat) (H1 : Heap), va_P D vwCl (ws ++ [(q, .inl (dA 5, N', .inr (.inr (.inr (.inr (fun i => ((List.range N').map r)[i]?))))))] ++ ((List.range N').map r).map (fun a => (a, (.inl (dA 0, K', .inl (fun _ => 0)) : va_E)))) H1 → va_D A (ws ++ [(q, .inl (dA 5, N', .inr (.inr (.inr (.inr (fun i => ((List.range N').map r)[i]?))))))] ++ ((List.range N').map r).map (fun a => (a, (.inl (dA 0, K', .inl (fun _ => 0)) : va_E)))) → va_S A s.heap H1 locs → W p l e R s m args below meth c H1 locs (cells + (1 + N')) (slots + (N' + N' * K')) Qw (F0 m (pc + 4) ls (.ref q :: rest))) : W p l e R s m args below meth c H locs cells slots Qw (F0 m pc ls (.int k :: .int n :: rest)) := by
  refine va_mna (X := ws) (L := []) (f := fun _ => .inr (0, [])) (ty := .int) (cy := dA 0) (z := (K', .inl (fun _ => 0))) hx hb hown (hgw _ wk) hG.2.2.2.2.2.2.1 (hgw _ wa) (hK.2 0 _ rfl).2 hK (by rw [show va_pl [] (fun _ => (.inr (0, []) : va_E)) = [] from rfl, List.append_nil]; exact hP) (by rw [show va_pl [] (fun _ => (.inr (0, []) : va_E)) = [] from rfl, List.append_nil]; exact hD) hS hA hn hk hN hM hb1 hb2 hb3 rfl rfl hcells hslots (fun c => arrV_new c K' (.int 0)) hdg (fun q r cA H1 _ _ hK1 hP1 hD1 hS1 => ?_)
  cases kq_uniq (k := 5) hK1 rfl
  have e1 : (fun i : Nat => if i < N' then some (r i) else none) = fun i : Nat => ((List.range N').map r)[i]? := by
    funext i
    rw [List.getElem?_map]
    by_cases h : i < N'
    · rw [if_pos h, List.getElem?_range h]; rfl
    · rw [if_neg h, List.getElem?_eq_none (by rw [List.length_range]; omega)]; rfl
  have e2 : va_pl ([] ++ (List.range N').map r) (vr_up (fun _ => (.inr (0, []) : va_E)) ((List.range N').map r) (.inl (dA 0, (K', .inl (fun _ => 0))))) = ((List.range N').map r).map (fun a => (a, (.inl (dA 0, K', .inl (fun _ => 0)) : va_E))) := by
    unfold va_pl
    rw [List.nil_append]
    apply List.map_congr_left
    intro a ha
    rw [vr_up_in ha]
  rw [e1, e2] at hP1 hD1
  refine W.cs (Nat.add_assoc _ _ _) (Nat.add_assoc _ _ _) ?_
  exact kk q r H1 hP1 hD1 hS1
end KQ2


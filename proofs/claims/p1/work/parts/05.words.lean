theorem m_1_55 : Cond.code yX7_init cX7_init 3 none ∈ gW := gt_1 55 rfl rfl
theorem m_3_172 : Cond.laysFinal RX11 "Blazonry" "painter" "LBlazonry$Painter;" ∈ gW := gt_3 172 rfl rfl
theorem m_3_174 : Cond.laysFinal RX11 "Blazonry" "row" "LBlazonry$Blazon;" ∈ gW := gt_3 174 rfl rfl
theorem m_3_176 : Cond.laysFinal RX11 "Blazonry" "rowPicture" "LBlazonry$Picture;" ∈ gW := gt_3 176 rfl rfl
theorem m_3_178 : Cond.laysFinal RX11 "Blazonry" "shieldPicture" "LBlazonry$Picture;" ∈ gW := gt_3 178 rfl rfl
theorem m_3_180 : Cond.laysFinal RX11 "Blazonry" "teller" "LBlazonry$Teller;" ∈ gW := gt_3 180 rfl rfl
theorem m_3_182 : Cond.laysFinal RX11 "Blazonry" "kin" "LBlazonry$Kin;" ∈ gW := gt_3 182 rfl rfl
theorem m_3_184 : Cond.laysFinal RX11 "Blazonry" "roll" "LBlazonry$Roll;" ∈ gW := gt_3 184 rfl rfl
theorem m_3_186 : Cond.laysFinal RX11 "Blazonry" "bearing" "LBlazonry$Bearing;" ∈ gW := gt_3 186 rfl rfl
theorem m_3_188 : Cond.laysFinal RX11 "Blazonry" "honours" "LBlazonry$Honours;" ∈ gW := gt_3 188 rfl rfl
theorem m_3_190 : Cond.laysFinal RX11 "Blazonry" "marshal" "LBlazonry$Marshal;" ∈ gW := gt_3 190 rfl rfl
theorem m_3_192 : Cond.laysFinal RX11 "Blazonry" "court" "LBlazonry$Court;" ∈ gW := gt_3 192 rfl rfl
theorem m_3_194 : Cond.lays RX11 "Blazonry" "isRowDrawn" "Z" ∈ gW := gt_3 194 rfl rfl
theorem m_3_196 : Cond.lays RX11 "Blazonry" "isRowTold" "Z" ∈ gW := gt_3 196 rfl rfl
theorem m_3_198 : Cond.lays RX11 "Blazonry" "today" "I" ∈ gW := gt_3 198 rfl rfl
theorem in_X11 : ∀ w ∈ u_ws RX11 TX11 14, w ∈ gW := fun w h => by
  obtain ⟨k, hk, rfl⟩ := List.mem_map.mp h
  have hk := List.mem_range.mp hk
  rcases (show k = 0 ∨ k = 1 ∨ k = 2 ∨ k = 3 ∨ k = 4 ∨ k = 5 ∨ k = 6 ∨ k = 7 ∨ k = 8 ∨ k = 9 ∨ k = 10 ∨ k = 11 ∨ k = 12 ∨ k = 13 by omega) with rfl | rfl | rfl | rfl | rfl | rfl | rfl | rfl | rfl | rfl | rfl | rfl | rfl | rfl
  · exact m_3_172
  · exact m_3_174
  · exact m_3_176
  · exact m_3_178
  · exact m_3_180
  · exact m_3_182
  · exact m_3_184
  · exact m_3_186
  · exact m_3_188
  · exact m_3_190
  · exact m_3_192
  · exact m_3_194
  · exact m_3_196
  · exact m_3_198
theorem dv_X11 : ∀ j, j < 14 → defaultValue (tyX11 j) = vp_V [.null, .null, .null, .null, .null, .null, .null, .null, .null, .null, .null, .int 0, .int 0, .int 0] j := fun j hj => by rcases (show j = 0 ∨ j = 1 ∨ j = 2 ∨ j = 3 ∨ j = 4 ∨ j = 5 ∨ j = 6 ∨ j = 7 ∨ j = 8 ∨ j = 9 ∨ j = 10 ∨ j = 11 ∨ j = 12 ∨ j = 13 by omega) with rfl | rfl | rfl | rfl | rfl | rfl | rfl | rfl | rfl | rfl | rfl | rfl | rfl | rfl <;> rfl
theorem m_1_43 : Cond.classLink RL 8 RX11 ∈ gW := gt_1 43 rfl rfl
theorem m_1_44 : Cond.instantiable RX11 14 ∈ gW := gt_1 44 rfl rfl
theorem m_1_1 : Cond.initialized RX11 ∈ gW := gt_1 1 rfl rfl
theorem m_1_50 : Cond.code objectInit ⟨#[0xb1]⟩ 1 none ∈ gW := gt_1 50 rfl rfl
theorem m_1_48 : Cond.methodLink RX11 1 objectInit ∈ gW := gt_1 48 rfl rfl
theorem m_1_49 : Cond.instanceMethod objectInit ∈ gW := gt_1 49 rfl rfl
theorem m_1_201 : Cond.laysFinal RX7 "Blazonry$Painter" "partings" "[[I" ∈ gW := gt_1 201 rfl rfl
theorem m_1_203 : Cond.laysFinal RX7 "Blazonry$Painter" "ordinaries" "[[I" ∈ gW := gt_1 203 rfl rfl
theorem m_1_205 : Cond.laysFinal RX7 "Blazonry$Painter" "shapes" "[[I" ∈ gW := gt_1 205 rfl rfl
theorem m_1_207 : Cond.laysFinal RX7 "Blazonry$Painter" "charges" "[[I" ∈ gW := gt_1 207 rfl rfl
theorem m_1_209 : Cond.laysFinal RX7 "Blazonry$Painter" "nothing" "[I" ∈ gW := gt_1 209 rfl rfl
theorem m_1_211 : Cond.laysFinal RX7 "Blazonry$Painter" "body" "[I" ∈ gW := gt_1 211 rfl rfl
theorem m_1_213 : Cond.laysFinal RX7 "Blazonry$Painter" "on" "[I" ∈ gW := gt_1 213 rfl rfl
theorem m_1_215 : Cond.laysFinal RX7 "Blazonry$Painter" "layers" "[[I" ∈ gW := gt_1 215 rfl rfl
theorem m_1_217 : Cond.laysFinal RX7 "Blazonry$Painter" "layerTinctures" "[I" ∈ gW := gt_1 217 rfl rfl
theorem m_1_219 : Cond.laysFinal RX7 "Blazonry$Painter" "open" "[I" ∈ gW := gt_1 219 rfl rfl
theorem m_1_221 : Cond.laysFinal RX7 "Blazonry$Painter" "mark" "LBlazonry$Group;" ∈ gW := gt_1 221 rfl rfl
theorem m_1_223 : Cond.laysFinal RX7 "Blazonry$Painter" "canvas" "LBlazonry$Picture;" ∈ gW := gt_1 223 rfl rfl
theorem m_1_225 : Cond.lays RX7 "Blazonry$Painter" "layerCount" "I" ∈ gW := gt_1 225 rfl rfl
theorem in_X7 : ∀ w ∈ u_ws RX7 TX7 13, w ∈ gW := fun w h => by
  obtain ⟨k, hk, rfl⟩ := List.mem_map.mp h
  have hk := List.mem_range.mp hk
  rcases (show k = 0 ∨ k = 1 ∨ k = 2 ∨ k = 3 ∨ k = 4 ∨ k = 5 ∨ k = 6 ∨ k = 7 ∨ k = 8 ∨ k = 9 ∨ k = 10 ∨ k = 11 ∨ k = 12 by omega) with rfl | rfl | rfl | rfl | rfl | rfl | rfl | rfl | rfl | rfl | rfl | rfl | rfl
  · exact m_1_201
  · exact m_1_203
  · exact m_1_205
  · exact m_1_207
  · exact m_1_209
  · exact m_1_211
  · exact m_1_213
  · exact m_1_215
  · exact m_1_217
  · exact m_1_219
  · exact m_1_221
  · exact m_1_223
  · exact m_1_225
theorem dv_X7 : ∀ j, j < 13 → defaultValue (tyX7 j) = vp_V [.null, .null, .null, .null, .null, .null, .null, .null, .null, .null, .null, .null, .int 0] j := fun j hj => by rcases (show j = 0 ∨ j = 1 ∨ j = 2 ∨ j = 3 ∨ j = 4 ∨ j = 5 ∨ j = 6 ∨ j = 7 ∨ j = 8 ∨ j = 9 ∨ j = 10 ∨ j = 11 ∨ j = 12 by omega) with rfl | rfl | rfl | rfl | rfl | rfl | rfl | rfl | rfl | rfl | rfl | rfl | rfl <;> rfl
theorem m_1_51 : Cond.classLink RX11 7 RX7 ∈ gW := gt_1 51 rfl rfl
theorem m_1_52 : Cond.instantiable RX7 13 ∈ gW := gt_1 52 rfl rfl
theorem m_1_2 : Cond.initialized RX7 ∈ gW := gt_1 2 rfl rfl
theorem hd_X7_init : (yX7_init).cls ≠ "java/lang/invoke/MethodHandle" ∧ (yX7_init).cls ≠ "java/lang/invoke/VarHandle" ∧ (parseMethodDescriptor (yX7_init).desc).map (fun d => d.parameters.length) = some 0 := ⟨by decide, by decide, by decide +kernel⟩
theorem m_1_53 : Cond.methodLink RX11 9 yX7_init ∈ gW := gt_1 53 rfl rfl
theorem m_1_54 : Cond.instanceMethod yX7_init ∈ gW := gt_1 54 rfl rfl
theorem m_3_158 : Cond.fieldLink RX11 10 "Blazonry" "painter" "LBlazonry$Painter;" ∈ gW := gt_3 158 rfl rfl
theorem m_2_28 : Cond.laysFinal RX1 "Blazonry$Blazon" "words" "[I" ∈ gW := gt_2 28 rfl rfl
theorem m_2_30 : Cond.laysFinal RX1 "Blazonry$Blazon" "meanings" "[I" ∈ gW := gt_2 30 rfl rfl
theorem m_2_32 : Cond.laysFinal RX1 "Blazonry$Blazon" "groups" "[LBlazonry$Group;" ∈ gW := gt_2 32 rfl rfl
theorem m_2_34 : Cond.lays RX1 "Blazonry$Blazon" "cursor" "I" ∈ gW := gt_2 34 rfl rfl
theorem m_2_36 : Cond.lays RX1 "Blazonry$Blazon" "last" "I" ∈ gW := gt_2 36 rfl rfl
theorem m_2_38 : Cond.lays RX1 "Blazonry$Blazon" "count" "I" ∈ gW := gt_2 38 rfl rfl
theorem m_2_40 : Cond.lays RX1 "Blazonry$Blazon" "faultAt" "I" ∈ gW := gt_2 40 rfl rfl
theorem m_2_42 : Cond.lays RX1 "Blazonry$Blazon" "parting" "I" ∈ gW := gt_2 42 rfl rfl
theorem m_2_44 : Cond.lays RX1 "Blazonry$Blazon" "line" "I" ∈ gW := gt_2 44 rfl rfl
theorem m_2_46 : Cond.lays RX1 "Blazonry$Blazon" "first" "I" ∈ gW := gt_2 46 rfl rfl
theorem m_2_48 : Cond.lays RX1 "Blazonry$Blazon" "second" "I" ∈ gW := gt_2 48 rfl rfl
theorem m_2_50 : Cond.lays RX1 "Blazonry$Blazon" "groupCount" "I" ∈ gW := gt_2 50 rfl rfl
theorem in_X1 : ∀ w ∈ u_ws RX1 TX1 12, w ∈ gW := fun w h => by
  obtain ⟨k, hk, rfl⟩ := List.mem_map.mp h
  have hk := List.mem_range.mp hk
  rcases (show k = 0 ∨ k = 1 ∨ k = 2 ∨ k = 3 ∨ k = 4 ∨ k = 5 ∨ k = 6 ∨ k = 7 ∨ k = 8 ∨ k = 9 ∨ k = 10 ∨ k = 11 by omega) with rfl | rfl | rfl | rfl | rfl | rfl | rfl | rfl | rfl | rfl | rfl | rfl
  · exact m_2_28
  · exact m_2_30
  · exact m_2_32
  · exact m_2_34
  · exact m_2_36
  · exact m_2_38
  · exact m_2_40
  · exact m_2_42
  · exact m_2_44
  · exact m_2_46
  · exact m_2_48
  · exact m_2_50
theorem dv_X1 : ∀ j, j < 12 → defaultValue (tyX1 j) = vp_V [.null, .null, .null, .int 0, .int 0, .int 0, .int 0, .int 0, .int 0, .int 0, .int 0, .int 0] j := fun j hj => by rcases (show j = 0 ∨ j = 1 ∨ j = 2 ∨ j = 3 ∨ j = 4 ∨ j = 5 ∨ j = 6 ∨ j = 7 ∨ j = 8 ∨ j = 9 ∨ j = 10 ∨ j = 11 by omega) with rfl | rfl | rfl | rfl | rfl | rfl | rfl | rfl | rfl | rfl | rfl | rfl <;> rfl
theorem m_1_228 : Cond.classLink RX11 16 RX1 ∈ gW := gt_1 228 rfl rfl
theorem m_1_229 : Cond.instantiable RX1 12 ∈ gW := gt_1 229 rfl rfl
theorem m_1_6 : Cond.initialized RX1 ∈ gW := gt_1 6 rfl rfl
theorem m_1_233 : Cond.methodLink RX1 3 objectInit ∈ gW := gt_1 233 rfl rfl
theorem m_1_136 : Cond.arrayClass .int ∈ gW := gt_1 136 rfl rfl
theorem m_1_237 : Cond.fieldLink RX1 9 "Blazonry$Blazon" "words" "[I" ∈ gW := gt_1 237 rfl rfl
theorem m_1_239 : Cond.fieldLink RX1 15 "Blazonry$Blazon" "meanings" "[I" ∈ gW := gt_1 239 rfl rfl
theorem m_1_234 : Cond.classLink RX1 18 RX3 ∈ gW := gt_1 234 rfl rfl
theorem m_2_0 : Cond.fieldLink RX1 20 "Blazonry$Blazon" "groups" "[LBlazonry$Group;" ∈ gW := gt_2 0 rfl rfl
theorem m_1_109 : Cond.lays RX3 "Blazonry$Group" "ordinary" "I" ∈ gW := gt_1 109 rfl rfl
theorem m_1_111 : Cond.lays RX3 "Blazonry$Group" "line" "I" ∈ gW := gt_1 111 rfl rfl
theorem m_1_113 : Cond.lays RX3 "Blazonry$Group" "tincture" "I" ∈ gW := gt_1 113 rfl rfl
theorem m_1_115 : Cond.lays RX3 "Blazonry$Group" "number" "I" ∈ gW := gt_1 115 rfl rfl
theorem m_1_117 : Cond.lays RX3 "Blazonry$Group" "charge" "I" ∈ gW := gt_1 117 rfl rfl
theorem m_1_119 : Cond.lays RX3 "Blazonry$Group" "attitude" "I" ∈ gW := gt_1 119 rfl rfl
theorem m_1_121 : Cond.lays RX3 "Blazonry$Group" "place" "I" ∈ gW := gt_1 121 rfl rfl
theorem m_1_123 : Cond.lays RX3 "Blazonry$Group" "onNumber" "I" ∈ gW := gt_1 123 rfl rfl
theorem m_1_125 : Cond.lays RX3 "Blazonry$Group" "onCharge" "I" ∈ gW := gt_1 125 rfl rfl
theorem m_1_127 : Cond.lays RX3 "Blazonry$Group" "onAttitude" "I" ∈ gW := gt_1 127 rfl rfl
theorem m_1_129 : Cond.lays RX3 "Blazonry$Group" "onTincture" "I" ∈ gW := gt_1 129 rfl rfl
theorem m_1_131 : Cond.lays RX3 "Blazonry$Group" "found" "I" ∈ gW := gt_1 131 rfl rfl
theorem m_1_133 : Cond.lays RX3 "Blazonry$Group" "onFound" "I" ∈ gW := gt_1 133 rfl rfl
theorem in_X3 : ∀ w ∈ u_ws RX3 TX3 13, w ∈ gW := fun w h => by
  obtain ⟨k, hk, rfl⟩ := List.mem_map.mp h
  have hk := List.mem_range.mp hk
  rcases (show k = 0 ∨ k = 1 ∨ k = 2 ∨ k = 3 ∨ k = 4 ∨ k = 5 ∨ k = 6 ∨ k = 7 ∨ k = 8 ∨ k = 9 ∨ k = 10 ∨ k = 11 ∨ k = 12 by omega) with rfl | rfl | rfl | rfl | rfl | rfl | rfl | rfl | rfl | rfl | rfl | rfl | rfl
  · exact m_1_109
  · exact m_1_111
  · exact m_1_113
  · exact m_1_115
  · exact m_1_117
  · exact m_1_119
  · exact m_1_121
  · exact m_1_123
  · exact m_1_125
  · exact m_1_127
  · exact m_1_129
  · exact m_1_131
  · exact m_1_133
theorem dv_X3 : ∀ j, j < 13 → defaultValue (tyX3 j) = vp_V [.int 0, .int 0, .int 0, .int 0, .int 0, .int 0, .int 0, .int 0, .int 0, .int 0, .int 0, .int 0, .int 0] j := fun j hj => by rcases (show j = 0 ∨ j = 1 ∨ j = 2 ∨ j = 3 ∨ j = 4 ∨ j = 5 ∨ j = 6 ∨ j = 7 ∨ j = 8 ∨ j = 9 ∨ j = 10 ∨ j = 11 ∨ j = 12 by omega) with rfl | rfl | rfl | rfl | rfl | rfl | rfl | rfl | rfl | rfl | rfl | rfl | rfl <;> rfl
theorem m_1_60 : Cond.instantiable RX3 13 ∈ gW := gt_1 60 rfl rfl
theorem m_1_3 : Cond.initialized RX3 ∈ gW := gt_1 3 rfl rfl
theorem n_m2 : (RX1, 24, yX3_init, "Blazonry") ∈ gNM := List.mem_of_getElem? (i := 2) rfl
theorem m_1_64 : Cond.methodLink RX3 3 objectInit ∈ gW := gt_1 64 rfl rfl
theorem m_1_63 : Cond.code yX3_init cX3_init 1 none ∈ gW := gt_1 63 rfl rfl
theorem hd_X3_init : (yX3_init).cls ≠ "java/lang/invoke/MethodHandle" ∧ (yX3_init).cls ≠ "java/lang/invoke/VarHandle" ∧ (parseMethodDescriptor (yX3_init).desc).map (fun d => d.parameters.length) = some 0 := ⟨by decide, by decide, by decide +kernel⟩
theorem m_1_62 : Cond.instanceMethod yX3_init ∈ gW := gt_1 62 rfl rfl
theorem m_1_232 : Cond.code yX1_init cX1_init 2 none ∈ gW := gt_1 232 rfl rfl
theorem hd_X1_init : (yX1_init).cls ≠ "java/lang/invoke/MethodHandle" ∧ (yX1_init).cls ≠ "java/lang/invoke/VarHandle" ∧ (parseMethodDescriptor (yX1_init).desc).map (fun d => d.parameters.length) = some 0 := ⟨by decide, by decide, by decide +kernel⟩
theorem m_1_230 : Cond.methodLink RX11 18 yX1_init ∈ gW := gt_1 230 rfl rfl
theorem m_1_231 : Cond.instanceMethod yX1_init ∈ gW := gt_1 231 rfl rfl
theorem m_3_159 : Cond.fieldLink RX11 19 "Blazonry" "row" "LBlazonry$Blazon;" ∈ gW := gt_3 159 rfl rfl
theorem m_1_152 : Cond.laysFinal RX8 "Blazonry$Picture" "rows" "[J" ∈ gW := gt_1 152 rfl rfl
theorem m_1_154 : Cond.laysFinal RX8 "Blazonry$Picture" "taken" "[I" ∈ gW := gt_1 154 rfl rfl
theorem m_1_156 : Cond.laysFinal RX8 "Blazonry$Picture" "seconds" "[J" ∈ gW := gt_1 156 rfl rfl
theorem m_1_158 : Cond.lays RX8 "Blazonry$Picture" "first" "I" ∈ gW := gt_1 158 rfl rfl
theorem m_1_160 : Cond.lays RX8 "Blazonry$Picture" "second" "I" ∈ gW := gt_1 160 rfl rfl
theorem in_X8 : ∀ w ∈ u_ws RX8 TX8 5, w ∈ gW := fun w h => by
  obtain ⟨k, hk, rfl⟩ := List.mem_map.mp h
  have hk := List.mem_range.mp hk
  rcases (show k = 0 ∨ k = 1 ∨ k = 2 ∨ k = 3 ∨ k = 4 by omega) with rfl | rfl | rfl | rfl | rfl
  · exact m_1_152
  · exact m_1_154
  · exact m_1_156
  · exact m_1_158
  · exact m_1_160
theorem dv_X8 : ∀ j, j < 5 → defaultValue (tyX8 j) = vp_V [.null, .null, .null, .int 0, .int 0] j := fun j hj => by rcases (show j = 0 ∨ j = 1 ∨ j = 2 ∨ j = 3 ∨ j = 4 by omega) with rfl | rfl | rfl | rfl | rfl <;> rfl
theorem m_2_53 : Cond.classLink RX11 23 RX8 ∈ gW := gt_2 53 rfl rfl
theorem m_1_138 : Cond.instantiable RX8 5 ∈ gW := gt_1 138 rfl rfl
theorem m_1_4 : Cond.initialized RX8 ∈ gW := gt_1 4 rfl rfl
theorem n_m3 : (RX11, 25, yX8_init, "Blazonry") ∈ gNM := List.mem_of_getElem? (i := 3) rfl
theorem m_1_142 : Cond.methodLink RX8 3 objectInit ∈ gW := gt_1 142 rfl rfl
theorem m_1_163 : Cond.arrayClass .long ∈ gW := gt_1 163 rfl rfl
theorem m_1_143 : Cond.fieldLink RX8 9 "Blazonry$Picture" "rows" "[J" ∈ gW := gt_1 143 rfl rfl
theorem m_1_147 : Cond.fieldLink RX8 15 "Blazonry$Picture" "taken" "[I" ∈ gW := gt_1 147 rfl rfl
theorem m_1_149 : Cond.fieldLink RX8 19 "Blazonry$Picture" "seconds" "[J" ∈ gW := gt_1 149 rfl rfl
theorem m_1_141 : Cond.code yX8_init cX8_init 1 none ∈ gW := gt_1 141 rfl rfl
theorem hd_X8_init : (yX8_init).cls ≠ "java/lang/invoke/MethodHandle" ∧ (yX8_init).cls ≠ "java/lang/invoke/VarHandle" ∧ (parseMethodDescriptor (yX8_init).desc).map (fun d => d.parameters.length) = some 0 := ⟨by decide, by decide, by decide +kernel⟩
theorem m_1_140 : Cond.instanceMethod yX8_init ∈ gW := gt_1 140 rfl rfl
theorem m_3_160 : Cond.fieldLink RX11 26 "Blazonry" "rowPicture" "LBlazonry$Picture;" ∈ gW := gt_3 160 rfl rfl
theorem m_3_161 : Cond.fieldLink RX11 30 "Blazonry" "shieldPicture" "LBlazonry$Picture;" ∈ gW := gt_3 161 rfl rfl
theorem m_2_80 : Cond.laysFinal RX10 "Blazonry$Teller" "painter" "LBlazonry$Painter;" ∈ gW := gt_2 80 rfl rfl
theorem m_2_82 : Cond.laysFinal RX10 "Blazonry$Teller" "levels" "[LBlazonry$Picture;" ∈ gW := gt_2 82 rfl rfl
theorem m_2_84 : Cond.laysFinal RX10 "Blazonry$Teller" "lengths" "[I" ∈ gW := gt_2 84 rfl rfl
theorem m_2_86 : Cond.laysFinal RX10 "Blazonry$Teller" "ways" "[I" ∈ gW := gt_2 86 rfl rfl
theorem m_2_88 : Cond.laysFinal RX10 "Blazonry$Teller" "words" "[I" ∈ gW := gt_2 88 rfl rfl
theorem m_2_90 : Cond.laysFinal RX10 "Blazonry$Teller" "best" "[I" ∈ gW := gt_2 90 rfl rfl
theorem m_2_92 : Cond.laysFinal RX10 "Blazonry$Teller" "trial" "LBlazonry$Group;" ∈ gW := gt_2 92 rfl rfl
theorem m_2_94 : Cond.laysFinal RX10 "Blazonry$Teller" "target" "LBlazonry$Picture;" ∈ gW := gt_2 94 rfl rfl
theorem m_2_96 : Cond.laysFinal RX10 "Blazonry$Teller" "retold" "LBlazonry$Blazon;" ∈ gW := gt_2 96 rfl rfl
theorem m_2_98 : Cond.lays RX10 "Blazonry$Teller" "isFieldParted" "Z" ∈ gW := gt_2 98 rfl rfl
theorem m_2_100 : Cond.lays RX10 "Blazonry$Teller" "bestCount" "I" ∈ gW := gt_2 100 rfl rfl
theorem in_X10 : ∀ w ∈ u_ws RX10 TX10 11, w ∈ gW := fun w h => by
  obtain ⟨k, hk, rfl⟩ := List.mem_map.mp h
  have hk := List.mem_range.mp hk
  rcases (show k = 0 ∨ k = 1 ∨ k = 2 ∨ k = 3 ∨ k = 4 ∨ k = 5 ∨ k = 6 ∨ k = 7 ∨ k = 8 ∨ k = 9 ∨ k = 10 by omega) with rfl | rfl | rfl | rfl | rfl | rfl | rfl | rfl | rfl | rfl | rfl
  · exact m_2_80
  · exact m_2_82
  · exact m_2_84
  · exact m_2_86
  · exact m_2_88
  · exact m_2_90
  · exact m_2_92
  · exact m_2_94
  · exact m_2_96
  · exact m_2_98
  · exact m_2_100
theorem dv_X10 : ∀ j, j < 11 → defaultValue (tyX10 j) = vp_V [.null, .null, .null, .null, .null, .null, .null, .null, .null, .int 0, .int 0] j := fun j hj => by rcases (show j = 0 ∨ j = 1 ∨ j = 2 ∨ j = 3 ∨ j = 4 ∨ j = 5 ∨ j = 6 ∨ j = 7 ∨ j = 8 ∨ j = 9 ∨ j = 10 by omega) with rfl | rfl | rfl | rfl | rfl | rfl | rfl | rfl | rfl | rfl | rfl <;> rfl
theorem m_2_55 : Cond.classLink RX11 33 RX10 ∈ gW := gt_2 55 rfl rfl
theorem m_2_56 : Cond.instantiable RX10 11 ∈ gW := gt_2 56 rfl rfl
theorem m_1_7 : Cond.initialized RX10 ∈ gW := gt_1 7 rfl rfl
theorem m_2_60 : Cond.methodLink RX10 3 objectInit ∈ gW := gt_2 60 rfl rfl
theorem m_2_61 : Cond.classLink RX10 9 RX8 ∈ gW := gt_2 61 rfl rfl
theorem m_2_69 : Cond.fieldLink RX10 11 "Blazonry$Teller" "levels" "[LBlazonry$Picture;" ∈ gW := gt_2 69 rfl rfl
theorem m_2_70 : Cond.fieldLink RX10 17 "Blazonry$Teller" "lengths" "[I" ∈ gW := gt_2 70 rfl rfl
theorem m_2_71 : Cond.fieldLink RX10 21 "Blazonry$Teller" "ways" "[I" ∈ gW := gt_2 71 rfl rfl
theorem m_2_72 : Cond.fieldLink RX10 24 "Blazonry$Teller" "words" "[I" ∈ gW := gt_2 72 rfl rfl
theorem m_2_73 : Cond.fieldLink RX10 27 "Blazonry$Teller" "best" "[I" ∈ gW := gt_2 73 rfl rfl
theorem m_2_63 : Cond.classLink RX10 30 RX3 ∈ gW := gt_2 63 rfl rfl
theorem n_m4 : (RX10, 32, yX3_init, "Blazonry") ∈ gNM := List.mem_of_getElem? (i := 4) rfl
theorem m_2_74 : Cond.fieldLink RX10 33 "Blazonry$Teller" "trial" "LBlazonry$Group;" ∈ gW := gt_2 74 rfl rfl
theorem n_m5 : (RX10, 37, yX8_init, "Blazonry") ∈ gNM := List.mem_of_getElem? (i := 5) rfl
theorem m_2_75 : Cond.fieldLink RX10 38 "Blazonry$Teller" "target" "LBlazonry$Picture;" ∈ gW := gt_2 75 rfl rfl
theorem m_2_66 : Cond.classLink RX10 42 RX1 ∈ gW := gt_2 66 rfl rfl
theorem m_2_67 : Cond.methodLink RX10 44 yX1_init ∈ gW := gt_2 67 rfl rfl
theorem m_2_76 : Cond.fieldLink RX10 45 "Blazonry$Teller" "retold" "LBlazonry$Blazon;" ∈ gW := gt_2 76 rfl rfl
theorem m_2_68 : Cond.fieldLink RX10 49 "Blazonry$Teller" "painter" "LBlazonry$Painter;" ∈ gW := gt_2 68 rfl rfl
theorem m_2_59 : Cond.code yX10_init cX10_init 3 none ∈ gW := gt_2 59 rfl rfl
theorem hd_X10_init : (yX10_init).cls ≠ "java/lang/invoke/MethodHandle" ∧ (yX10_init).cls ≠ "java/lang/invoke/VarHandle" ∧ (parseMethodDescriptor (yX10_init).desc).map (fun d => d.parameters.length) = some 1 := ⟨by decide, by decide, by decide +kernel⟩
theorem m_2_57 : Cond.methodLink RX11 35 yX10_init ∈ gW := gt_2 57 rfl rfl
theorem m_2_58 : Cond.instanceMethod yX10_init ∈ gW := gt_2 58 rfl rfl
theorem m_3_162 : Cond.fieldLink RX11 38 "Blazonry" "teller" "LBlazonry$Teller;" ∈ gW := gt_3 162 rfl rfl
theorem m_2_121 : Cond.laysFinal RX5 "Blazonry$Kin" "fathers" "[I" ∈ gW := gt_2 121 rfl rfl
theorem m_2_123 : Cond.laysFinal RX5 "Blazonry$Kin" "mothers" "[I" ∈ gW := gt_2 123 rfl rfl
theorem m_2_125 : Cond.laysFinal RX5 "Blazonry$Kin" "spouses" "[I" ∈ gW := gt_2 125 rfl rfl
theorem m_2_127 : Cond.laysFinal RX5 "Blazonry$Kin" "deaths" "[I" ∈ gW := gt_2 127 rfl rfl
theorem m_2_129 : Cond.laysFinal RX5 "Blazonry$Kin" "lines" "[I" ∈ gW := gt_2 129 rfl rfl
theorem m_2_131 : Cond.laysFinal RX5 "Blazonry$Kin" "men" "[Z" ∈ gW := gt_2 131 rfl rfl
theorem m_2_133 : Cond.laysFinal RX5 "Blazonry$Kin" "reached" "[Z" ∈ gW := gt_2 133 rfl rfl
theorem m_2_135 : Cond.lays RX5 "Blazonry$Kin" "deathCount" "I" ∈ gW := gt_2 135 rfl rfl
theorem m_2_137 : Cond.lays RX5 "Blazonry$Kin" "count" "I" ∈ gW := gt_2 137 rfl rfl
theorem in_X5 : ∀ w ∈ u_ws RX5 TX5 9, w ∈ gW := fun w h => by
  obtain ⟨k, hk, rfl⟩ := List.mem_map.mp h
  have hk := List.mem_range.mp hk
  rcases (show k = 0 ∨ k = 1 ∨ k = 2 ∨ k = 3 ∨ k = 4 ∨ k = 5 ∨ k = 6 ∨ k = 7 ∨ k = 8 by omega) with rfl | rfl | rfl | rfl | rfl | rfl | rfl | rfl | rfl
  · exact m_2_121
  · exact m_2_123
  · exact m_2_125
  · exact m_2_127
  · exact m_2_129
  · exact m_2_131
  · exact m_2_133
  · exact m_2_135
  · exact m_2_137
theorem dv_X5 : ∀ j, j < 9 → defaultValue (tyX5 j) = vp_V [.null, .null, .null, .null, .null, .null, .null, .int 0, .int 0] j := fun j hj => by rcases (show j = 0 ∨ j = 1 ∨ j = 2 ∨ j = 3 ∨ j = 4 ∨ j = 5 ∨ j = 6 ∨ j = 7 ∨ j = 8 by omega) with rfl | rfl | rfl | rfl | rfl | rfl | rfl | rfl | rfl <;> rfl
theorem m_2_103 : Cond.classLink RX11 42 RX5 ∈ gW := gt_2 103 rfl rfl
theorem m_2_104 : Cond.instantiable RX5 9 ∈ gW := gt_2 104 rfl rfl
theorem m_1_8 : Cond.initialized RX5 ∈ gW := gt_1 8 rfl rfl
theorem n_m6 : (RX11, 44, yX5_init, "Blazonry") ∈ gNM := List.mem_of_getElem? (i := 6) rfl
theorem m_2_108 : Cond.methodLink RX5 3 objectInit ∈ gW := gt_2 108 rfl rfl
theorem m_2_109 : Cond.fieldLink RX5 9 "Blazonry$Kin" "fathers" "[I" ∈ gW := gt_2 109 rfl rfl
theorem m_2_110 : Cond.fieldLink RX5 15 "Blazonry$Kin" "mothers" "[I" ∈ gW := gt_2 110 rfl rfl
theorem m_2_111 : Cond.fieldLink RX5 18 "Blazonry$Kin" "spouses" "[I" ∈ gW := gt_2 111 rfl rfl
theorem m_2_112 : Cond.fieldLink RX5 21 "Blazonry$Kin" "deaths" "[I" ∈ gW := gt_2 112 rfl rfl
theorem m_2_113 : Cond.fieldLink RX5 24 "Blazonry$Kin" "lines" "[I" ∈ gW := gt_2 113 rfl rfl
theorem m_2_140 : Cond.arrayClass .boolean ∈ gW := gt_2 140 rfl rfl
theorem m_2_114 : Cond.fieldLink RX5 27 "Blazonry$Kin" "men" "[Z" ∈ gW := gt_2 114 rfl rfl
theorem m_2_115 : Cond.fieldLink RX5 31 "Blazonry$Kin" "reached" "[Z" ∈ gW := gt_2 115 rfl rfl
theorem m_2_107 : Cond.code yX5_init cX5_init 1 none ∈ gW := gt_2 107 rfl rfl
theorem hd_X5_init : (yX5_init).cls ≠ "java/lang/invoke/MethodHandle" ∧ (yX5_init).cls ≠ "java/lang/invoke/VarHandle" ∧ (parseMethodDescriptor (yX5_init).desc).map (fun d => d.parameters.length) = some 0 := ⟨by decide, by decide, by decide +kernel⟩
theorem m_2_106 : Cond.instanceMethod yX5_init ∈ gW := gt_2 106 rfl rfl
theorem m_3_163 : Cond.fieldLink RX11 45 "Blazonry" "kin" "LBlazonry$Kin;" ∈ gW := gt_3 163 rfl rfl
theorem m_2_169 : Cond.laysFinal RX9 "Blazonry$Roll" "painter" "LBlazonry$Painter;" ∈ gW := gt_2 169 rfl rfl
theorem m_2_171 : Cond.laysFinal RX9 "Blazonry$Roll" "blazons" "[LBlazonry$Blazon;" ∈ gW := gt_2 171 rfl rfl
theorem m_2_173 : Cond.laysFinal RX9 "Blazonry$Roll" "pictures" "[[J" ∈ gW := gt_2 173 rfl rfl
theorem m_2_175 : Cond.laysFinal RX9 "Blazonry$Roll" "lands" "[I" ∈ gW := gt_2 175 rfl rfl
theorem m_2_177 : Cond.laysFinal RX9 "Blazonry$Roll" "firsts" "[I" ∈ gW := gt_2 177 rfl rfl
theorem m_2_179 : Cond.laysFinal RX9 "Blazonry$Roll" "years" "[I" ∈ gW := gt_2 179 rfl rfl
theorem m_2_181 : Cond.laysFinal RX9 "Blazonry$Roll" "called" "[I" ∈ gW := gt_2 181 rfl rfl
theorem m_2_183 : Cond.laysFinal RX9 "Blazonry$Roll" "honours" "[I" ∈ gW := gt_2 183 rfl rfl
theorem m_2_185 : Cond.laysFinal RX9 "Blazonry$Roll" "letters" "[C" ∈ gW := gt_2 185 rfl rfl
theorem m_2_187 : Cond.laysFinal RX9 "Blazonry$Roll" "knownTold" "[Z" ∈ gW := gt_2 187 rfl rfl
theorem m_2_189 : Cond.laysFinal RX9 "Blazonry$Roll" "canvas" "LBlazonry$Picture;" ∈ gW := gt_2 189 rfl rfl
theorem m_2_191 : Cond.lays RX9 "Blazonry$Roll" "count" "I" ∈ gW := gt_2 191 rfl rfl
theorem in_X9 : ∀ w ∈ u_ws RX9 TX9 12, w ∈ gW := fun w h => by
  obtain ⟨k, hk, rfl⟩ := List.mem_map.mp h
  have hk := List.mem_range.mp hk
  rcases (show k = 0 ∨ k = 1 ∨ k = 2 ∨ k = 3 ∨ k = 4 ∨ k = 5 ∨ k = 6 ∨ k = 7 ∨ k = 8 ∨ k = 9 ∨ k = 10 ∨ k = 11 by omega) with rfl | rfl | rfl | rfl | rfl | rfl | rfl | rfl | rfl | rfl | rfl | rfl
  · exact m_2_169
  · exact m_2_171
  · exact m_2_173
  · exact m_2_175
  · exact m_2_177
  · exact m_2_179
  · exact m_2_181
  · exact m_2_183
  · exact m_2_185
  · exact m_2_187
  · exact m_2_189
  · exact m_2_191
theorem dv_X9 : ∀ j, j < 12 → defaultValue (tyX9 j) = vp_V [.null, .null, .null, .null, .null, .null, .null, .null, .null, .null, .null, .int 0] j := fun j hj => by rcases (show j = 0 ∨ j = 1 ∨ j = 2 ∨ j = 3 ∨ j = 4 ∨ j = 5 ∨ j = 6 ∨ j = 7 ∨ j = 8 ∨ j = 9 ∨ j = 10 ∨ j = 11 by omega) with rfl | rfl | rfl | rfl | rfl | rfl | rfl | rfl | rfl | rfl | rfl | rfl <;> rfl
theorem m_2_141 : Cond.classLink RX11 49 RX9 ∈ gW := gt_2 141 rfl rfl
theorem m_2_142 : Cond.instantiable RX9 12 ∈ gW := gt_2 142 rfl rfl
theorem m_1_9 : Cond.initialized RX9 ∈ gW := gt_1 9 rfl rfl
theorem m_2_146 : Cond.methodLink RX9 3 objectInit ∈ gW := gt_2 146 rfl rfl
theorem m_2_147 : Cond.classLink RX9 9 RX1 ∈ gW := gt_2 147 rfl rfl
theorem m_2_155 : Cond.fieldLink RX9 11 "Blazonry$Roll" "blazons" "[LBlazonry$Blazon;" ∈ gW := gt_2 155 rfl rfl
theorem m_2_149 : Cond.classLink RX9 17 "[[J" ∈ gW := gt_2 149 rfl rfl
theorem m_2_156 : Cond.fieldLink RX9 19 "Blazonry$Roll" "pictures" "[[J" ∈ gW := gt_2 156 rfl rfl
theorem m_2_157 : Cond.fieldLink RX9 22 "Blazonry$Roll" "lands" "[I" ∈ gW := gt_2 157 rfl rfl
theorem m_2_158 : Cond.fieldLink RX9 26 "Blazonry$Roll" "firsts" "[I" ∈ gW := gt_2 158 rfl rfl
theorem m_2_159 : Cond.fieldLink RX9 29 "Blazonry$Roll" "years" "[I" ∈ gW := gt_2 159 rfl rfl
theorem m_2_160 : Cond.fieldLink RX9 32 "Blazonry$Roll" "called" "[I" ∈ gW := gt_2 160 rfl rfl
theorem m_2_161 : Cond.fieldLink RX9 35 "Blazonry$Roll" "honours" "[I" ∈ gW := gt_2 161 rfl rfl
theorem m_2_194 : Cond.arrayClass .char ∈ gW := gt_2 194 rfl rfl
theorem m_2_162 : Cond.fieldLink RX9 38 "Blazonry$Roll" "letters" "[C" ∈ gW := gt_2 162 rfl rfl
theorem m_2_163 : Cond.fieldLink RX9 42 "Blazonry$Roll" "knownTold" "[Z" ∈ gW := gt_2 163 rfl rfl
theorem m_2_151 : Cond.classLink RX9 46 RX8 ∈ gW := gt_2 151 rfl rfl
theorem n_m7 : (RX9, 48, yX8_init, "Blazonry") ∈ gNM := List.mem_of_getElem? (i := 7) rfl
theorem m_2_164 : Cond.fieldLink RX9 49 "Blazonry$Roll" "canvas" "LBlazonry$Picture;" ∈ gW := gt_2 164 rfl rfl
theorem m_2_154 : Cond.fieldLink RX9 53 "Blazonry$Roll" "painter" "LBlazonry$Painter;" ∈ gW := gt_2 154 rfl rfl
theorem m_2_153 : Cond.methodLink RX9 57 yX1_init ∈ gW := gt_2 153 rfl rfl
theorem m_2_145 : Cond.code yX9_init cX9_init 3 none ∈ gW := gt_2 145 rfl rfl
theorem hd_X9_init : (yX9_init).cls ≠ "java/lang/invoke/MethodHandle" ∧ (yX9_init).cls ≠ "java/lang/invoke/VarHandle" ∧ (parseMethodDescriptor (yX9_init).desc).map (fun d => d.parameters.length) = some 1 := ⟨by decide, by decide, by decide +kernel⟩
theorem m_2_143 : Cond.methodLink RX11 51 yX9_init ∈ gW := gt_2 143 rfl rfl
theorem m_2_144 : Cond.instanceMethod yX9_init ∈ gW := gt_2 144 rfl rfl
theorem m_3_164 : Cond.fieldLink RX11 52 "Blazonry" "roll" "LBlazonry$Roll;" ∈ gW := gt_3 164 rfl rfl
theorem m_2_213 : Cond.laysFinal RX0 "Blazonry$Bearing" "kin" "LBlazonry$Kin;" ∈ gW := gt_2 213 rfl rfl
theorem m_2_215 : Cond.laysFinal RX0 "Blazonry$Bearing" "roll" "LBlazonry$Roll;" ∈ gW := gt_2 215 rfl rfl
theorem m_2_217 : Cond.laysFinal RX0 "Blazonry$Bearing" "borne" "[I" ∈ gW := gt_2 217 rfl rfl
theorem m_2_219 : Cond.laysFinal RX0 "Blazonry$Bearing" "kept" "[I" ∈ gW := gt_2 219 rfl rfl
theorem m_2_221 : Cond.laysFinal RX0 "Blazonry$Bearing" "marks" "[[I" ∈ gW := gt_2 221 rfl rfl
theorem m_2_223 : Cond.laysFinal RX0 "Blazonry$Bearing" "markCounts" "[I" ∈ gW := gt_2 223 rfl rfl
theorem m_2_225 : Cond.laysFinal RX0 "Blazonry$Bearing" "wereLast" "[Z" ∈ gW := gt_2 225 rfl rfl
theorem m_2_227 : Cond.laysFinal RX0 "Blazonry$Bearing" "wereHeirs" "[Z" ∈ gW := gt_2 227 rfl rfl
theorem m_2_229 : Cond.laysFinal RX0 "Blazonry$Bearing" "lastMen" "[I" ∈ gW := gt_2 229 rfl rfl
theorem m_2_231 : Cond.laysFinal RX0 "Blazonry$Bearing" "heiressCounts" "[I" ∈ gW := gt_2 231 rfl rfl
theorem m_2_233 : Cond.laysFinal RX0 "Blazonry$Bearing" "fallsTo" "[I" ∈ gW := gt_2 233 rfl rfl
theorem in_X0 : ∀ w ∈ u_ws RX0 TX0 11, w ∈ gW := fun w h => by
  obtain ⟨k, hk, rfl⟩ := List.mem_map.mp h
  have hk := List.mem_range.mp hk
  rcases (show k = 0 ∨ k = 1 ∨ k = 2 ∨ k = 3 ∨ k = 4 ∨ k = 5 ∨ k = 6 ∨ k = 7 ∨ k = 8 ∨ k = 9 ∨ k = 10 by omega) with rfl | rfl | rfl | rfl | rfl | rfl | rfl | rfl | rfl | rfl | rfl
  · exact m_2_213
  · exact m_2_215
  · exact m_2_217
  · exact m_2_219
  · exact m_2_221
  · exact m_2_223
  · exact m_2_225
  · exact m_2_227
  · exact m_2_229
  · exact m_2_231
  · exact m_2_233
theorem dv_X0 : ∀ j, j < 11 → defaultValue (tyX0 j) = vp_V [.null, .null, .null, .null, .null, .null, .null, .null, .null, .null, .null] j := fun j hj => by rcases (show j = 0 ∨ j = 1 ∨ j = 2 ∨ j = 3 ∨ j = 4 ∨ j = 5 ∨ j = 6 ∨ j = 7 ∨ j = 8 ∨ j = 9 ∨ j = 10 by omega) with rfl | rfl | rfl | rfl | rfl | rfl | rfl | rfl | rfl | rfl | rfl <;> rfl
theorem m_2_195 : Cond.classLink RX11 56 RX0 ∈ gW := gt_2 195 rfl rfl
theorem m_2_196 : Cond.instantiable RX0 11 ∈ gW := gt_2 196 rfl rfl
theorem m_1_10 : Cond.initialized RX0 ∈ gW := gt_1 10 rfl rfl
theorem m_2_200 : Cond.methodLink RX0 3 objectInit ∈ gW := gt_2 200 rfl rfl
theorem m_2_204 : Cond.fieldLink RX0 9 "Blazonry$Bearing" "borne" "[I" ∈ gW := gt_2 204 rfl rfl
theorem m_2_205 : Cond.fieldLink RX0 15 "Blazonry$Bearing" "kept" "[I" ∈ gW := gt_2 205 rfl rfl
theorem m_2_201 : Cond.classLink RX0 18 "[[I" ∈ gW := gt_2 201 rfl rfl
theorem m_2_206 : Cond.fieldLink RX0 20 "Blazonry$Bearing" "marks" "[[I" ∈ gW := gt_2 206 rfl rfl
theorem m_2_207 : Cond.fieldLink RX0 23 "Blazonry$Bearing" "markCounts" "[I" ∈ gW := gt_2 207 rfl rfl
theorem m_2_208 : Cond.fieldLink RX0 26 "Blazonry$Bearing" "wereLast" "[Z" ∈ gW := gt_2 208 rfl rfl
theorem m_2_209 : Cond.fieldLink RX0 30 "Blazonry$Bearing" "wereHeirs" "[Z" ∈ gW := gt_2 209 rfl rfl
theorem m_2_210 : Cond.fieldLink RX0 33 "Blazonry$Bearing" "lastMen" "[I" ∈ gW := gt_2 210 rfl rfl
theorem m_2_211 : Cond.fieldLink RX0 36 "Blazonry$Bearing" "heiressCounts" "[I" ∈ gW := gt_2 211 rfl rfl
theorem m_2_212 : Cond.fieldLink RX0 39 "Blazonry$Bearing" "fallsTo" "[I" ∈ gW := gt_2 212 rfl rfl
theorem m_2_202 : Cond.fieldLink RX0 42 "Blazonry$Bearing" "kin" "LBlazonry$Kin;" ∈ gW := gt_2 202 rfl rfl
theorem m_2_203 : Cond.fieldLink RX0 46 "Blazonry$Bearing" "roll" "LBlazonry$Roll;" ∈ gW := gt_2 203 rfl rfl
theorem m_2_199 : Cond.code yX0_init cX0_init 3 none ∈ gW := gt_2 199 rfl rfl
theorem hd_X0_init : (yX0_init).cls ≠ "java/lang/invoke/MethodHandle" ∧ (yX0_init).cls ≠ "java/lang/invoke/VarHandle" ∧ (parseMethodDescriptor (yX0_init).desc).map (fun d => d.parameters.length) = some 2 := ⟨by decide, by decide, by decide +kernel⟩
theorem m_2_197 : Cond.methodLink RX11 58 yX0_init ∈ gW := gt_2 197 rfl rfl
theorem m_2_198 : Cond.instanceMethod yX0_init ∈ gW := gt_2 198 rfl rfl
theorem m_3_165 : Cond.fieldLink RX11 61 "Blazonry" "bearing" "LBlazonry$Bearing;" ∈ gW := gt_3 165 rfl rfl
theorem m_3_9 : Cond.laysFinal RX4 "Blazonry$Honours" "kin" "LBlazonry$Kin;" ∈ gW := gt_3 9 rfl rfl
theorem m_3_11 : Cond.laysFinal RX4 "Blazonry$Honours" "bearing" "LBlazonry$Bearing;" ∈ gW := gt_3 11 rfl rfl
theorem m_3_13 : Cond.laysFinal RX4 "Blazonry$Honours" "ranks" "[I" ∈ gW := gt_3 13 rfl rfl
theorem m_3_15 : Cond.laysFinal RX4 "Blazonry$Honours" "crests" "[I" ∈ gW := gt_3 15 rfl rfl
theorem m_3_17 : Cond.laysFinal RX4 "Blazonry$Honours" "rights" "[I" ∈ gW := gt_3 17 rfl rfl
theorem m_3_19 : Cond.laysFinal RX4 "Blazonry$Honours" "lefts" "[I" ∈ gW := gt_3 19 rfl rfl
theorem m_3_21 : Cond.laysFinal RX4 "Blazonry$Honours" "abated" "[Z" ∈ gW := gt_3 21 rfl rfl
theorem in_X4 : ∀ w ∈ u_ws RX4 TX4 7, w ∈ gW := fun w h => by
  obtain ⟨k, hk, rfl⟩ := List.mem_map.mp h
  have hk := List.mem_range.mp hk
  rcases (show k = 0 ∨ k = 1 ∨ k = 2 ∨ k = 3 ∨ k = 4 ∨ k = 5 ∨ k = 6 by omega) with rfl | rfl | rfl | rfl | rfl | rfl | rfl
  · exact m_3_9
  · exact m_3_11
  · exact m_3_13
  · exact m_3_15
  · exact m_3_17
  · exact m_3_19
  · exact m_3_21
theorem dv_X4 : ∀ j, j < 7 → defaultValue (tyX4 j) = vp_V [.null, .null, .null, .null, .null, .null, .null] j := fun j hj => by rcases (show j = 0 ∨ j = 1 ∨ j = 2 ∨ j = 3 ∨ j = 4 ∨ j = 5 ∨ j = 6 by omega) with rfl | rfl | rfl | rfl | rfl | rfl | rfl <;> rfl
theorem m_2_236 : Cond.classLink RX11 65 RX4 ∈ gW := gt_2 236 rfl rfl
theorem m_2_237 : Cond.instantiable RX4 7 ∈ gW := gt_2 237 rfl rfl
theorem m_1_11 : Cond.initialized RX4 ∈ gW := gt_1 11 rfl rfl
theorem m_3_1 : Cond.methodLink RX4 3 objectInit ∈ gW := gt_3 1 rfl rfl
theorem m_3_4 : Cond.fieldLink RX4 9 "Blazonry$Honours" "ranks" "[I" ∈ gW := gt_3 4 rfl rfl
theorem m_3_5 : Cond.fieldLink RX4 15 "Blazonry$Honours" "crests" "[I" ∈ gW := gt_3 5 rfl rfl
theorem m_3_6 : Cond.fieldLink RX4 18 "Blazonry$Honours" "rights" "[I" ∈ gW := gt_3 6 rfl rfl
theorem m_3_7 : Cond.fieldLink RX4 21 "Blazonry$Honours" "lefts" "[I" ∈ gW := gt_3 7 rfl rfl
theorem m_3_8 : Cond.fieldLink RX4 24 "Blazonry$Honours" "abated" "[Z" ∈ gW := gt_3 8 rfl rfl
theorem m_3_2 : Cond.fieldLink RX4 28 "Blazonry$Honours" "kin" "LBlazonry$Kin;" ∈ gW := gt_3 2 rfl rfl
theorem m_3_3 : Cond.fieldLink RX4 32 "Blazonry$Honours" "bearing" "LBlazonry$Bearing;" ∈ gW := gt_3 3 rfl rfl
theorem m_3_0 : Cond.code yX4_init cX4_init 3 none ∈ gW := gt_3 0 rfl rfl
theorem hd_X4_init : (yX4_init).cls ≠ "java/lang/invoke/MethodHandle" ∧ (yX4_init).cls ≠ "java/lang/invoke/VarHandle" ∧ (parseMethodDescriptor (yX4_init).desc).map (fun d => d.parameters.length) = some 2 := ⟨by decide, by decide, by decide +kernel⟩
theorem m_2_238 : Cond.methodLink RX11 67 yX4_init ∈ gW := gt_2 238 rfl rfl
theorem m_2_239 : Cond.instanceMethod yX4_init ∈ gW := gt_2 239 rfl rfl
theorem m_3_166 : Cond.fieldLink RX11 70 "Blazonry" "honours" "LBlazonry$Honours;" ∈ gW := gt_3 166 rfl rfl
theorem m_3_43 : Cond.laysFinal RX6 "Blazonry$Marshal" "kin" "LBlazonry$Kin;" ∈ gW := gt_3 43 rfl rfl
theorem m_3_45 : Cond.laysFinal RX6 "Blazonry$Marshal" "roll" "LBlazonry$Roll;" ∈ gW := gt_3 45 rfl rfl
theorem m_3_47 : Cond.laysFinal RX6 "Blazonry$Marshal" "bearing" "LBlazonry$Bearing;" ∈ gW := gt_3 47 rfl rfl
theorem m_3_49 : Cond.laysFinal RX6 "Blazonry$Marshal" "honours" "LBlazonry$Honours;" ∈ gW := gt_3 49 rfl rfl
theorem m_3_51 : Cond.laysFinal RX6 "Blazonry$Marshal" "painter" "LBlazonry$Painter;" ∈ gW := gt_3 51 rfl rfl
theorem m_3_53 : Cond.laysFinal RX6 "Blazonry$Marshal" "arms" "[[I" ∈ gW := gt_3 53 rfl rfl
theorem m_3_55 : Cond.laysFinal RX6 "Blazonry$Marshal" "bearers" "[[I" ∈ gW := gt_3 55 rfl rfl
theorem m_3_57 : Cond.laysFinal RX6 "Blazonry$Marshal" "counts" "[I" ∈ gW := gt_3 57 rfl rfl
theorem m_3_59 : Cond.laysFinal RX6 "Blazonry$Marshal" "quarterPicture" "LBlazonry$Picture;" ∈ gW := gt_3 59 rfl rfl
theorem m_3_61 : Cond.laysFinal RX6 "Blazonry$Marshal" "wifePicture" "LBlazonry$Picture;" ∈ gW := gt_3 61 rfl rfl
theorem in_X6 : ∀ w ∈ u_ws RX6 TX6 10, w ∈ gW := fun w h => by
  obtain ⟨k, hk, rfl⟩ := List.mem_map.mp h
  have hk := List.mem_range.mp hk
  rcases (show k = 0 ∨ k = 1 ∨ k = 2 ∨ k = 3 ∨ k = 4 ∨ k = 5 ∨ k = 6 ∨ k = 7 ∨ k = 8 ∨ k = 9 by omega) with rfl | rfl | rfl | rfl | rfl | rfl | rfl | rfl | rfl | rfl
  · exact m_3_43
  · exact m_3_45
  · exact m_3_47
  · exact m_3_49
  · exact m_3_51
  · exact m_3_53
  · exact m_3_55
  · exact m_3_57
  · exact m_3_59
  · exact m_3_61
theorem dv_X6 : ∀ j, j < 10 → defaultValue (tyX6 j) = vp_V [.null, .null, .null, .null, .null, .null, .null, .null, .null, .null] j := fun j hj => by rcases (show j = 0 ∨ j = 1 ∨ j = 2 ∨ j = 3 ∨ j = 4 ∨ j = 5 ∨ j = 6 ∨ j = 7 ∨ j = 8 ∨ j = 9 by omega) with rfl | rfl | rfl | rfl | rfl | rfl | rfl | rfl | rfl | rfl <;> rfl
theorem m_3_24 : Cond.classLink RX11 74 RX6 ∈ gW := gt_3 24 rfl rfl
theorem m_3_25 : Cond.instantiable RX6 10 ∈ gW := gt_3 25 rfl rfl
theorem m_1_12 : Cond.initialized RX6 ∈ gW := gt_1 12 rfl rfl
theorem m_3_29 : Cond.methodLink RX6 3 objectInit ∈ gW := gt_3 29 rfl rfl
theorem m_3_30 : Cond.classLink RX6 9 "[[I" ∈ gW := gt_3 30 rfl rfl
theorem m_3_38 : Cond.fieldLink RX6 11 "Blazonry$Marshal" "arms" "[[I" ∈ gW := gt_3 38 rfl rfl
theorem m_3_39 : Cond.fieldLink RX6 16 "Blazonry$Marshal" "bearers" "[[I" ∈ gW := gt_3 39 rfl rfl
theorem m_3_40 : Cond.fieldLink RX6 19 "Blazonry$Marshal" "counts" "[I" ∈ gW := gt_3 40 rfl rfl
theorem m_3_31 : Cond.classLink RX6 23 RX8 ∈ gW := gt_3 31 rfl rfl
theorem n_m8 : (RX6, 25, yX8_init, "Blazonry") ∈ gNM := List.mem_of_getElem? (i := 8) rfl
theorem m_3_41 : Cond.fieldLink RX6 26 "Blazonry$Marshal" "quarterPicture" "LBlazonry$Picture;" ∈ gW := gt_3 41 rfl rfl
theorem m_3_42 : Cond.fieldLink RX6 30 "Blazonry$Marshal" "wifePicture" "LBlazonry$Picture;" ∈ gW := gt_3 42 rfl rfl
theorem m_3_33 : Cond.fieldLink RX6 33 "Blazonry$Marshal" "kin" "LBlazonry$Kin;" ∈ gW := gt_3 33 rfl rfl
theorem m_3_34 : Cond.fieldLink RX6 37 "Blazonry$Marshal" "roll" "LBlazonry$Roll;" ∈ gW := gt_3 34 rfl rfl
theorem m_3_35 : Cond.fieldLink RX6 41 "Blazonry$Marshal" "bearing" "LBlazonry$Bearing;" ∈ gW := gt_3 35 rfl rfl
theorem m_3_36 : Cond.fieldLink RX6 45 "Blazonry$Marshal" "honours" "LBlazonry$Honours;" ∈ gW := gt_3 36 rfl rfl
theorem m_3_37 : Cond.fieldLink RX6 49 "Blazonry$Marshal" "painter" "LBlazonry$Painter;" ∈ gW := gt_3 37 rfl rfl
theorem m_3_28 : Cond.code yX6_init cX6_init 6 none ∈ gW := gt_3 28 rfl rfl
theorem hd_X6_init : (yX6_init).cls ≠ "java/lang/invoke/MethodHandle" ∧ (yX6_init).cls ≠ "java/lang/invoke/VarHandle" ∧ (parseMethodDescriptor (yX6_init).desc).map (fun d => d.parameters.length) = some 5 := ⟨by decide, by decide, by decide +kernel⟩
theorem m_3_26 : Cond.methodLink RX11 76 yX6_init ∈ gW := gt_3 26 rfl rfl
theorem m_3_27 : Cond.instanceMethod yX6_init ∈ gW := gt_3 27 rfl rfl
theorem m_3_167 : Cond.fieldLink RX11 79 "Blazonry" "marshal" "LBlazonry$Marshal;" ∈ gW := gt_3 167 rfl rfl
theorem m_3_85 : Cond.laysFinal RX2 "Blazonry$Court" "roll" "LBlazonry$Roll;" ∈ gW := gt_3 85 rfl rfl
theorem m_3_87 : Cond.laysFinal RX2 "Blazonry$Court" "bearing" "LBlazonry$Bearing;" ∈ gW := gt_3 87 rfl rfl
theorem m_3_89 : Cond.laysFinal RX2 "Blazonry$Court" "lands" "[I" ∈ gW := gt_3 89 rfl rfl
theorem m_3_91 : Cond.laysFinal RX2 "Blazonry$Court" "distances" "[I" ∈ gW := gt_3 91 rfl rfl
theorem m_3_93 : Cond.laysFinal RX2 "Blazonry$Court" "years" "[I" ∈ gW := gt_3 93 rfl rfl
theorem m_3_95 : Cond.laysFinal RX2 "Blazonry$Court" "elders" "[I" ∈ gW := gt_3 95 rfl rfl
theorem m_3_97 : Cond.laysFinal RX2 "Blazonry$Court" "youngers" "[I" ∈ gW := gt_3 97 rfl rfl
theorem m_3_99 : Cond.laysFinal RX2 "Blazonry$Court" "letters" "[C" ∈ gW := gt_3 99 rfl rfl
theorem m_3_101 : Cond.laysFinal RX2 "Blazonry$Court" "lettersBefore" "[C" ∈ gW := gt_3 101 rfl rfl
theorem m_3_103 : Cond.laysFinal RX2 "Blazonry$Court" "inForce" "[Z" ∈ gW := gt_3 103 rfl rfl
theorem m_3_105 : Cond.laysFinal RX2 "Blazonry$Court" "byAppeal" "[Z" ∈ gW := gt_3 105 rfl rfl
theorem m_3_107 : Cond.lays RX2 "Blazonry$Court" "count" "I" ∈ gW := gt_3 107 rfl rfl
theorem m_3_109 : Cond.lays RX2 "Blazonry$Court" "disclaimedCount" "I" ∈ gW := gt_3 109 rfl rfl
theorem in_X2 : ∀ w ∈ u_ws RX2 TX2 13, w ∈ gW := fun w h => by
  obtain ⟨k, hk, rfl⟩ := List.mem_map.mp h
  have hk := List.mem_range.mp hk
  rcases (show k = 0 ∨ k = 1 ∨ k = 2 ∨ k = 3 ∨ k = 4 ∨ k = 5 ∨ k = 6 ∨ k = 7 ∨ k = 8 ∨ k = 9 ∨ k = 10 ∨ k = 11 ∨ k = 12 by omega) with rfl | rfl | rfl | rfl | rfl | rfl | rfl | rfl | rfl | rfl | rfl | rfl | rfl
  · exact m_3_85
  · exact m_3_87
  · exact m_3_89
  · exact m_3_91
  · exact m_3_93
  · exact m_3_95
  · exact m_3_97
  · exact m_3_99
  · exact m_3_101
  · exact m_3_103
  · exact m_3_105
  · exact m_3_107
  · exact m_3_109
theorem dv_X2 : ∀ j, j < 13 → defaultValue (tyX2 j) = vp_V [.null, .null, .null, .null, .null, .null, .null, .null, .null, .null, .null, .int 0, .int 0] j := fun j hj => by rcases (show j = 0 ∨ j = 1 ∨ j = 2 ∨ j = 3 ∨ j = 4 ∨ j = 5 ∨ j = 6 ∨ j = 7 ∨ j = 8 ∨ j = 9 ∨ j = 10 ∨ j = 11 ∨ j = 12 by omega) with rfl | rfl | rfl | rfl | rfl | rfl | rfl | rfl | rfl | rfl | rfl | rfl | rfl <;> rfl
theorem m_3_64 : Cond.classLink RX11 83 RX2 ∈ gW := gt_3 64 rfl rfl
theorem m_3_65 : Cond.instantiable RX2 13 ∈ gW := gt_3 65 rfl rfl
theorem m_1_13 : Cond.initialized RX2 ∈ gW := gt_1 13 rfl rfl
theorem m_3_69 : Cond.methodLink RX2 3 objectInit ∈ gW := gt_3 69 rfl rfl
theorem m_3_72 : Cond.fieldLink RX2 9 "Blazonry$Court" "lands" "[I" ∈ gW := gt_3 72 rfl rfl
theorem m_3_73 : Cond.fieldLink RX2 15 "Blazonry$Court" "distances" "[I" ∈ gW := gt_3 73 rfl rfl
theorem m_3_74 : Cond.fieldLink RX2 18 "Blazonry$Court" "years" "[I" ∈ gW := gt_3 74 rfl rfl
theorem m_3_75 : Cond.fieldLink RX2 21 "Blazonry$Court" "elders" "[I" ∈ gW := gt_3 75 rfl rfl
theorem m_3_76 : Cond.fieldLink RX2 24 "Blazonry$Court" "youngers" "[I" ∈ gW := gt_3 76 rfl rfl
theorem m_3_77 : Cond.fieldLink RX2 27 "Blazonry$Court" "letters" "[C" ∈ gW := gt_3 77 rfl rfl
theorem m_3_78 : Cond.fieldLink RX2 31 "Blazonry$Court" "lettersBefore" "[C" ∈ gW := gt_3 78 rfl rfl
theorem m_3_79 : Cond.fieldLink RX2 34 "Blazonry$Court" "inForce" "[Z" ∈ gW := gt_3 79 rfl rfl
theorem m_3_80 : Cond.fieldLink RX2 38 "Blazonry$Court" "byAppeal" "[Z" ∈ gW := gt_3 80 rfl rfl
theorem m_3_70 : Cond.fieldLink RX2 41 "Blazonry$Court" "roll" "LBlazonry$Roll;" ∈ gW := gt_3 70 rfl rfl
theorem m_3_71 : Cond.fieldLink RX2 45 "Blazonry$Court" "bearing" "LBlazonry$Bearing;" ∈ gW := gt_3 71 rfl rfl
theorem m_3_68 : Cond.code yX2_init cX2_init 3 none ∈ gW := gt_3 68 rfl rfl
theorem hd_X2_init : (yX2_init).cls ≠ "java/lang/invoke/MethodHandle" ∧ (yX2_init).cls ≠ "java/lang/invoke/VarHandle" ∧ (parseMethodDescriptor (yX2_init).desc).map (fun d => d.parameters.length) = some 2 := ⟨by decide, by decide, by decide +kernel⟩
theorem m_3_66 : Cond.methodLink RX11 85 yX2_init ∈ gW := gt_3 66 rfl rfl
theorem m_3_67 : Cond.instanceMethod yX2_init ∈ gW := gt_3 67 rfl rfl
theorem m_3_168 : Cond.fieldLink RX11 88 "Blazonry" "court" "LBlazonry$Court;" ∈ gW := gt_3 168 rfl rfl
theorem m_2_1 : Cond.fieldLink RX1 33 "Blazonry$Blazon" "cursor" "I" ∈ gW := gt_2 1 rfl rfl
theorem m_2_2 : Cond.fieldLink RX1 36 "Blazonry$Blazon" "last" "I" ∈ gW := gt_2 2 rfl rfl
theorem m_2_8 : Cond.fieldLink RX1 39 "Blazonry$Blazon" "faultAt" "I" ∈ gW := gt_2 8 rfl rfl
theorem m_2_10 : Cond.fieldLink RX1 42 "Blazonry$Blazon" "parting" "I" ∈ gW := gt_2 10 rfl rfl
theorem m_2_13 : Cond.fieldLink RX1 45 "Blazonry$Blazon" "line" "I" ∈ gW := gt_2 13 rfl rfl
theorem m_2_17 : Cond.fieldLink RX1 48 "Blazonry$Blazon" "first" "I" ∈ gW := gt_2 17 rfl rfl
theorem m_2_22 : Cond.fieldLink RX1 51 "Blazonry$Blazon" "second" "I" ∈ gW := gt_2 22 rfl rfl
theorem m_2_26 : Cond.fieldLink RX1 54 "Blazonry$Blazon" "groupCount" "I" ∈ gW := gt_2 26 rfl rfl
theorem m_3_118 : Cond.code yJ7_fill_53178 cJ7_fill_53178 4 none ∈ gW := gt_3 118 rfl rfl
theorem hd_J7_fill_53178 : (yJ7_fill_53178).cls ≠ "java/lang/invoke/MethodHandle" ∧ (yJ7_fill_53178).cls ≠ "java/lang/invoke/VarHandle" ∧ (parseMethodDescriptor (yJ7_fill_53178).desc).map (fun d => d.parameters.length) = some 2 := ⟨by decide, by decide, by decide +kernel⟩
theorem m_3_116 : Cond.methodLink RX1 57 yJ7_fill_53178 ∈ gW := gt_3 116 rfl rfl
theorem m_3_117 : Cond.static yJ7_fill_53178 ∈ gW := gt_3 117 rfl rfl
theorem m_1_14 : Cond.initialized RJ7 ∈ gW := gt_1 14 rfl rfl
theorem m_2_5 : Cond.fieldLink RX1 25 "Blazonry$Blazon" "count" "I" ∈ gW := gt_2 5 rfl rfl
theorem m_3_126 : Cond.code yX1_wordAt cX1_wordAt 2 (some .int) ∈ gW := gt_3 126 rfl rfl
theorem hd_X1_wordAt : (yX1_wordAt).cls ≠ "java/lang/invoke/MethodHandle" ∧ (yX1_wordAt).cls ≠ "java/lang/invoke/VarHandle" ∧ (parseMethodDescriptor (yX1_wordAt).desc).map (fun d => d.parameters.length) = some 1 := ⟨by decide, by decide, by decide +kernel⟩
theorem m_3_123 : Cond.methodLink RX1 74 yX1_wordAt ∈ gW := gt_3 123 rfl rfl
theorem m_3_124 : Cond.instanceMethod yX1_wordAt ∈ gW := gt_3 124 rfl rfl
theorem m_3_125 : Cond.selects RX1 yX1_wordAt yX1_wordAt ∈ gW := gt_3 125 rfl rfl
theorem m_3_138 : Cond.code yX1_meaningOf cX1_meaningOf 3 (some .int) ∈ gW := gt_3 138 rfl rfl
theorem hd_X1_meaningOf : (yX1_meaningOf).cls ≠ "java/lang/invoke/MethodHandle" ∧ (yX1_meaningOf).cls ≠ "java/lang/invoke/VarHandle" ∧ (parseMethodDescriptor (yX1_meaningOf).desc).map (fun d => d.parameters.length) = some 2 := ⟨by decide, by decide, by decide +kernel⟩
theorem m_3_135 : Cond.methodLink RX1 125 yX1_meaningOf ∈ gW := gt_3 135 rfl rfl
theorem m_3_137 : Cond.instanceMethod yX1_meaningOf ∈ gW := gt_3 137 rfl rfl
theorem m_s_4 : Cond.selects RX1 yX1_meaningOf yX1_meaningOf ∈ gW := gt_s (q := (yX1_meaningOf, 12)) 4 rfl
theorem m_3_134 : Cond.code yX1_takeTincture cX1_takeTincture 3 (some .int) ∈ gW := gt_3 134 rfl rfl
theorem hd_X1_takeTincture : (yX1_takeTincture).cls ≠ "java/lang/invoke/MethodHandle" ∧ (yX1_takeTincture).cls ≠ "java/lang/invoke/VarHandle" ∧ (parseMethodDescriptor (yX1_takeTincture).desc).map (fun d => d.parameters.length) = some 1 := ⟨by decide, by decide, by decide +kernel⟩
theorem m_3_131 : Cond.methodLink RX1 82 yX1_takeTincture ∈ gW := gt_3 131 rfl rfl
theorem m_3_133 : Cond.instanceMethod yX1_takeTincture ∈ gW := gt_3 133 rfl rfl
theorem m_s_3 : Cond.selects RX1 yX1_takeTincture yX1_takeTincture ∈ gW := gt_s (q := (yX1_takeTincture, 12)) 3 rfl
theorem m_3_122 : Cond.code yX1_readField cX1_readField 2 (some .boolean) ∈ gW := gt_3 122 rfl rfl
theorem hd_X1_readField : (yX1_readField).cls ≠ "java/lang/invoke/MethodHandle" ∧ (yX1_readField).cls ≠ "java/lang/invoke/VarHandle" ∧ (parseMethodDescriptor (yX1_readField).desc).map (fun d => d.parameters.length) = some 0 := ⟨by decide, by decide, by decide +kernel⟩
theorem m_3_119 : Cond.methodLink RX1 63 yX1_readField ∈ gW := gt_3 119 rfl rfl
theorem m_3_121 : Cond.instanceMethod yX1_readField ∈ gW := gt_3 121 rfl rfl
theorem m_s_1 : Cond.selects RX1 yX1_readField yX1_readField ∈ gW := gt_s (q := (yX1_readField, 12)) 1 rfl
theorem m_3_115 : Cond.code yX1_read cX1_read 2 none ∈ gW := gt_3 115 rfl rfl
theorem hd_X1_read : (yX1_read).cls ≠ "java/lang/invoke/MethodHandle" ∧ (yX1_read).cls ≠ "java/lang/invoke/VarHandle" ∧ (parseMethodDescriptor (yX1_read).desc).map (fun d => d.parameters.length) = some 0 := ⟨by decide, by decide, by decide +kernel⟩
theorem m_3_112 : Cond.methodLink RX11 92 yX1_read ∈ gW := gt_3 112 rfl rfl
theorem m_3_113 : Cond.instanceMethod yX1_read ∈ gW := gt_3 113 rfl rfl
theorem m_3_114 : Cond.selects RX1 yX1_read yX1_read ∈ gW := gt_3 114 rfl rfl
theorem m_1_47 : Cond.code yX11_init cX11_init 1 none ∈ gW := gt_1 47 rfl rfl
theorem hd_X11_init : (yX11_init).cls ≠ "java/lang/invoke/MethodHandle" ∧ (yX11_init).cls ≠ "java/lang/invoke/VarHandle" ∧ (parseMethodDescriptor (yX11_init).desc).map (fun d => d.parameters.length) = some 0 := ⟨by decide, by decide, by decide +kernel⟩
theorem m_1_45 : Cond.methodLink RL 194 yX11_init ∈ gW := gt_1 45 rfl rfl
theorem m_1_46 : Cond.instanceMethod yX11_init ∈ gW := gt_1 46 rfl rfl
theorem m_10_25 : Cond.lays RX18 "BlazonryModel" "thrown" "I" ∈ gW := gt_10 25 rfl rfl
theorem m_10_27 : Cond.laysFinal RX18 "BlazonryModel" "row" "[I" ∈ gW := gt_10 27 rfl rfl
theorem m_10_29 : Cond.lays RX18 "BlazonryModel" "many" "I" ∈ gW := gt_10 29 rfl rfl
theorem m_10_31 : Cond.laysFinal RX18 "BlazonryModel" "persons" "Ljava/util/ArrayList;" ∈ gW := gt_10 31 rfl rfl
theorem m_10_33 : Cond.laysFinal RX18 "BlazonryModel" "all" "Ljava/util/ArrayList;" ∈ gW := gt_10 33 rfl rfl
theorem m_10_35 : Cond.laysFinal RX18 "BlazonryModel" "judgments" "Ljava/util/ArrayList;" ∈ gW := gt_10 35 rfl rfl
theorem m_10_37 : Cond.lays RX18 "BlazonryModel" "year" "I" ∈ gW := gt_10 37 rfl rfl
theorem m_10_39 : Cond.lays RX18 "BlazonryModel" "deaths" "I" ∈ gW := gt_10 39 rfl rfl
theorem m_10_41 : Cond.lays RX18 "BlazonryModel" "disclaimed" "I" ∈ gW := gt_10 41 rfl rfl
theorem m_10_43 : Cond.lays RX18 "BlazonryModel" "read" "LBlazonryModel$Blazon;" ∈ gW := gt_10 43 rfl rfl
theorem m_10_45 : Cond.lays RX18 "BlazonryModel" "wrong" "I" ∈ gW := gt_10 45 rfl rfl
theorem m_10_47 : Cond.laysFinal RX18 "BlazonryModel" "meant" "[I" ∈ gW := gt_10 47 rfl rfl
theorem m_10_49 : Cond.lays RX18 "BlazonryModel" "at" "I" ∈ gW := gt_10 49 rfl rfl
theorem m_10_51 : Cond.lays RX18 "BlazonryModel" "told" "I" ∈ gW := gt_10 51 rfl rfl
theorem m_10_53 : Cond.laysFinal RX18 "BlazonryModel" "taken" "[Z" ∈ gW := gt_10 53 rfl rfl
theorem m_10_55 : Cond.laysFinal RX18 "BlazonryModel" "one" "[I" ∈ gW := gt_10 55 rfl rfl
theorem m_10_57 : Cond.laysFinal RX18 "BlazonryModel" "two" "[I" ∈ gW := gt_10 57 rfl rfl
theorem m_10_59 : Cond.laysFinal RX18 "BlazonryModel" "trial" "LBlazonryModel$Blazon;" ∈ gW := gt_10 59 rfl rfl
theorem m_10_61 : Cond.laysFinal RX18 "BlazonryModel" "plain" "LBlazonryModel$Blazon;" ∈ gW := gt_10 61 rfl rfl
theorem m_10_63 : Cond.laysFinal RX18 "BlazonryModel" "words" "[I" ∈ gW := gt_10 63 rfl rfl
theorem m_10_65 : Cond.lays RX18 "BlazonryModel" "wordMany" "I" ∈ gW := gt_10 65 rfl rfl
theorem m_10_67 : Cond.laysFinal RX18 "BlazonryModel" "best" "[I" ∈ gW := gt_10 67 rfl rfl
theorem m_10_69 : Cond.lays RX18 "BlazonryModel" "bestMany" "I" ∈ gW := gt_10 69 rfl rfl
theorem m_10_71 : Cond.laysFinal RX18 "BlazonryModel" "quarterMany" "[I" ∈ gW := gt_10 71 rfl rfl
theorem m_10_73 : Cond.laysFinal RX18 "BlazonryModel" "quarterArms" "[I" ∈ gW := gt_10 73 rfl rfl
theorem m_10_75 : Cond.laysFinal RX18 "BlazonryModel" "quarterBy" "[I" ∈ gW := gt_10 75 rfl rfl
theorem m_10_77 : Cond.laysFinal RX18 "BlazonryModel" "shield" "[I" ∈ gW := gt_10 77 rfl rfl
theorem m_10_79 : Cond.laysFinal RX18 "BlazonryModel" "wifeShield" "[I" ∈ gW := gt_10 79 rfl rfl
theorem in_X18 : ∀ w ∈ u_ws RX18 TX18 28, w ∈ gW := fun w h => by
  obtain ⟨k, hk, rfl⟩ := List.mem_map.mp h
  have hk := List.mem_range.mp hk
  rcases (show k = 0 ∨ k = 1 ∨ k = 2 ∨ k = 3 ∨ k = 4 ∨ k = 5 ∨ k = 6 ∨ k = 7 ∨ k = 8 ∨ k = 9 ∨ k = 10 ∨ k = 11 ∨ k = 12 ∨ k = 13 ∨ k = 14 ∨ k = 15 ∨ k = 16 ∨ k = 17 ∨ k = 18 ∨ k = 19 ∨ k = 20 ∨ k = 21 ∨ k = 22 ∨ k = 23 ∨ k = 24 ∨ k = 25 ∨ k = 26 ∨ k = 27 by omega) with rfl | rfl | rfl | rfl | rfl | rfl | rfl | rfl | rfl | rfl | rfl | rfl | rfl | rfl | rfl | rfl | rfl | rfl | rfl | rfl | rfl | rfl | rfl | rfl | rfl | rfl | rfl | rfl
  · exact m_10_25
  · exact m_10_27
  · exact m_10_29
  · exact m_10_31
  · exact m_10_33
  · exact m_10_35
  · exact m_10_37
  · exact m_10_39
  · exact m_10_41
  · exact m_10_43
  · exact m_10_45
  · exact m_10_47
  · exact m_10_49
  · exact m_10_51
  · exact m_10_53
  · exact m_10_55
  · exact m_10_57
  · exact m_10_59
  · exact m_10_61
  · exact m_10_63
  · exact m_10_65
  · exact m_10_67
  · exact m_10_69
  · exact m_10_71
  · exact m_10_73
  · exact m_10_75
  · exact m_10_77
  · exact m_10_79
theorem dv_X18 : ∀ j, j < 28 → defaultValue (tyX18 j) = vp_V [.int 0, .null, .int 0, .null, .null, .null, .int 0, .int 0, .int 0, .null, .int 0, .null, .int 0, .int 0, .null, .null, .null, .null, .null, .null, .int 0, .null, .int 0, .null, .null, .null, .null, .null] j := fun j hj => by rcases (show j = 0 ∨ j = 1 ∨ j = 2 ∨ j = 3 ∨ j = 4 ∨ j = 5 ∨ j = 6 ∨ j = 7 ∨ j = 8 ∨ j = 9 ∨ j = 10 ∨ j = 11 ∨ j = 12 ∨ j = 13 ∨ j = 14 ∨ j = 15 ∨ j = 16 ∨ j = 17 ∨ j = 18 ∨ j = 19 ∨ j = 20 ∨ j = 21 ∨ j = 22 ∨ j = 23 ∨ j = 24 ∨ j = 25 ∨ j = 26 ∨ j = 27 by omega) with rfl | rfl | rfl | rfl | rfl | rfl | rfl | rfl | rfl | rfl | rfl | rfl | rfl | rfl | rfl | rfl | rfl | rfl | rfl | rfl | rfl | rfl | rfl | rfl | rfl | rfl | rfl | rfl <;> rfl
theorem m_9_169 : Cond.classLink RL 195 RX18 ∈ gW := gt_9 169 rfl rfl
theorem m_9_170 : Cond.instantiable RX18 28 ∈ gW := gt_9 170 rfl rfl
theorem m_1_15 : Cond.initialized RX18 ∈ gW := gt_1 15 rfl rfl
theorem m_9_174 : Cond.methodLink RX18 1 objectInit ∈ gW := gt_9 174 rfl rfl
theorem m_9_238 : Cond.fieldLink RX18 9 "BlazonryModel" "row" "[I" ∈ gW := gt_9 238 rfl rfl
theorem m_9_201 : Cond.lays RJx4a65c "java/util/AbstractList" "modCount" "I" ∈ gW := gt_9 201 rfl rfl
theorem m_9_197 : Cond.lays RJx4a65c "java/util/ArrayList" "elementData" "[Ljava/lang/Object;" ∈ gW := gt_9 197 rfl rfl
theorem m_9_199 : Cond.lays RJx4a65c "java/util/ArrayList" "size" "I" ∈ gW := gt_9 199 rfl rfl
theorem in_Jx4a65c : ∀ w ∈ u_ws RJx4a65c TJx4a65c 3, w ∈ gW := fun w h => by
  obtain ⟨k, hk, rfl⟩ := List.mem_map.mp h
  have hk := List.mem_range.mp hk
  rcases (show k = 0 ∨ k = 1 ∨ k = 2 by omega) with rfl | rfl | rfl
  · exact m_9_201
  · exact m_9_197
  · exact m_9_199
theorem dv_Jx4a65c : ∀ j, j < 3 → defaultValue (tyJx4a65c j) = vp_V [.int 0, .null, .int 0] j := fun j hj => by rcases (show j = 0 ∨ j = 1 ∨ j = 2 by omega) with rfl | rfl | rfl <;> rfl
theorem m_9_175 : Cond.classLink RX18 13 RJx4a65c ∈ gW := gt_9 175 rfl rfl
theorem m_9_176 : Cond.instantiable RJx4a65c 3 ∈ gW := gt_9 176 rfl rfl
theorem m_1_18 : Cond.initialized RJx4a65c ∈ gW := gt_1 18 rfl rfl
theorem m_9_186 : Cond.methodLink RJxa1e45 1 objectInit ∈ gW := gt_9 186 rfl rfl
theorem m_9_185 : Cond.code yJxa1e45_init_da8c8 cJxa1e45_init_da8c8 1 none ∈ gW := gt_9 185 rfl rfl
theorem hd_Jxa1e45_init_da8c8 : (yJxa1e45_init_da8c8).cls ≠ "java/lang/invoke/MethodHandle" ∧ (yJxa1e45_init_da8c8).cls ≠ "java/lang/invoke/VarHandle" ∧ (parseMethodDescriptor (yJxa1e45_init_da8c8).desc).map (fun d => d.parameters.length) = some 0 := ⟨by decide, by decide, by decide +kernel⟩
theorem m_9_183 : Cond.methodLink RJxc12de 1 yJxa1e45_init_da8c8 ∈ gW := gt_9 183 rfl rfl
theorem m_9_184 : Cond.instanceMethod yJxa1e45_init_da8c8 ∈ gW := gt_9 184 rfl rfl
theorem m_1_16 : Cond.initialized RJxa1e45 ∈ gW := gt_1 16 rfl rfl
theorem m_9_193 : Cond.fieldLink RJxc12de 7 "java/util/AbstractList" "modCount" "I" ∈ gW := gt_9 193 rfl rfl
theorem m_9_182 : Cond.code yJxc12de_init_da8c8 cJxc12de_init_da8c8 1 none ∈ gW := gt_9 182 rfl rfl
theorem hd_Jxc12de_init_da8c8 : (yJxc12de_init_da8c8).cls ≠ "java/lang/invoke/MethodHandle" ∧ (yJxc12de_init_da8c8).cls ≠ "java/lang/invoke/VarHandle" ∧ (parseMethodDescriptor (yJxc12de_init_da8c8).desc).map (fun d => d.parameters.length) = some 0 := ⟨by decide, by decide, by decide +kernel⟩
theorem m_9_180 : Cond.methodLink RJx4a65c 1 yJxc12de_init_da8c8 ∈ gW := gt_9 180 rfl rfl
theorem m_9_181 : Cond.instanceMethod yJxc12de_init_da8c8 ∈ gW := gt_9 181 rfl rfl
theorem m_1_17 : Cond.initialized RJxc12de ∈ gW := gt_1 17 rfl rfl
theorem m_9_187 : Cond.fieldLink RJx4a65c 39 "java/util/ArrayList" "DEFAULTCAPACITY_EMPTY_ELEMENTDATA" "[Ljava/lang/Object;" ∈ gW := gt_9 187 rfl rfl
theorem m_9_189 : Cond.fieldLink RJx4a65c 9 "java/util/ArrayList" "elementData" "[Ljava/lang/Object;" ∈ gW := gt_9 189 rfl rfl
theorem m_9_179 : Cond.code yJx4a65c_init_da8c8 cJx4a65c_init_da8c8 1 none ∈ gW := gt_9 179 rfl rfl
theorem hd_Jx4a65c_init_da8c8 : (yJx4a65c_init_da8c8).cls ≠ "java/lang/invoke/MethodHandle" ∧ (yJx4a65c_init_da8c8).cls ≠ "java/lang/invoke/VarHandle" ∧ (parseMethodDescriptor (yJx4a65c_init_da8c8).desc).map (fun d => d.parameters.length) = some 0 := ⟨by decide, by decide, by decide +kernel⟩
theorem m_9_177 : Cond.methodLink RX18 15 yJx4a65c_init_da8c8 ∈ gW := gt_9 177 rfl rfl
theorem m_9_178 : Cond.instanceMethod yJx4a65c_init_da8c8 ∈ gW := gt_9 178 rfl rfl
theorem m_10_0 : Cond.fieldLink RX18 16 "BlazonryModel" "persons" "Ljava/util/ArrayList;" ∈ gW := gt_10 0 rfl rfl
theorem m_10_1 : Cond.fieldLink RX18 20 "BlazonryModel" "all" "Ljava/util/ArrayList;" ∈ gW := gt_10 1 rfl rfl
theorem m_10_2 : Cond.fieldLink RX18 23 "BlazonryModel" "judgments" "Ljava/util/ArrayList;" ∈ gW := gt_10 2 rfl rfl
theorem m_9_224 : Cond.lays RX14 "BlazonryModel$Blazon" "parting" "I" ∈ gW := gt_9 224 rfl rfl
theorem m_9_226 : Cond.lays RX14 "BlazonryModel$Blazon" "line" "I" ∈ gW := gt_9 226 rfl rfl
theorem m_9_228 : Cond.lays RX14 "BlazonryModel$Blazon" "first" "I" ∈ gW := gt_9 228 rfl rfl
theorem m_9_230 : Cond.lays RX14 "BlazonryModel$Blazon" "second" "I" ∈ gW := gt_9 230 rfl rfl
theorem m_9_232 : Cond.lays RX14 "BlazonryModel$Blazon" "many" "I" ∈ gW := gt_9 232 rfl rfl
theorem m_9_234 : Cond.laysFinal RX14 "BlazonryModel$Blazon" "groups" "[LBlazonryModel$Group;" ∈ gW := gt_9 234 rfl rfl
theorem in_X14 : ∀ w ∈ u_ws RX14 TX14 6, w ∈ gW := fun w h => by
  obtain ⟨k, hk, rfl⟩ := List.mem_map.mp h
  have hk := List.mem_range.mp hk
  rcases (show k = 0 ∨ k = 1 ∨ k = 2 ∨ k = 3 ∨ k = 4 ∨ k = 5 by omega) with rfl | rfl | rfl | rfl | rfl | rfl
  · exact m_9_224
  · exact m_9_226
  · exact m_9_228
  · exact m_9_230
  · exact m_9_232
  · exact m_9_234
theorem dv_X14 : ∀ j, j < 6 → defaultValue (tyX14 j) = vp_V [.int 0, .int 0, .int 0, .int 0, .int 0, .null] j := fun j hj => by rcases (show j = 0 ∨ j = 1 ∨ j = 2 ∨ j = 3 ∨ j = 4 ∨ j = 5 by omega) with rfl | rfl | rfl | rfl | rfl | rfl <;> rfl
theorem m_9_204 : Cond.classLink RX18 26 RX14 ∈ gW := gt_9 204 rfl rfl
theorem m_9_205 : Cond.instantiable RX14 6 ∈ gW := gt_9 205 rfl rfl
theorem m_1_19 : Cond.initialized RX14 ∈ gW := gt_1 19 rfl rfl
theorem n_m10 : (RX18, 28, yX14_init, "BlazonryModel") ∈ gNM := List.mem_of_getElem? (i := 10) rfl
theorem m_9_209 : Cond.methodLink RX14 1 objectInit ∈ gW := gt_9 209 rfl rfl
theorem m_9_210 : Cond.classLink RX14 7 RX15 ∈ gW := gt_9 210 rfl rfl
theorem m_9_222 : Cond.fieldLink RX14 9 "BlazonryModel$Blazon" "groups" "[LBlazonryModel$Group;" ∈ gW := gt_9 222 rfl rfl
theorem m_9_208 : Cond.code yX14_init cX14_init 1 none ∈ gW := gt_9 208 rfl rfl
theorem hd_X14_init : (yX14_init).cls ≠ "java/lang/invoke/MethodHandle" ∧ (yX14_init).cls ≠ "java/lang/invoke/VarHandle" ∧ (parseMethodDescriptor (yX14_init).desc).map (fun d => d.parameters.length) = some 0 := ⟨by decide, by decide, by decide +kernel⟩
theorem m_9_207 : Cond.instanceMethod yX14_init ∈ gW := gt_9 207 rfl rfl
theorem m_10_6 : Cond.fieldLink RX18 29 "BlazonryModel" "read" "LBlazonryModel$Blazon;" ∈ gW := gt_10 6 rfl rfl
theorem m_10_8 : Cond.fieldLink RX18 33 "BlazonryModel" "meant" "[I" ∈ gW := gt_10 8 rfl rfl
theorem m_10_11 : Cond.fieldLink RX18 36 "BlazonryModel" "taken" "[Z" ∈ gW := gt_10 11 rfl rfl
theorem m_10_12 : Cond.fieldLink RX18 40 "BlazonryModel" "one" "[I" ∈ gW := gt_10 12 rfl rfl
theorem m_10_13 : Cond.fieldLink RX18 43 "BlazonryModel" "two" "[I" ∈ gW := gt_10 13 rfl rfl
theorem m_10_14 : Cond.fieldLink RX18 46 "BlazonryModel" "trial" "LBlazonryModel$Blazon;" ∈ gW := gt_10 14 rfl rfl
theorem m_10_15 : Cond.fieldLink RX18 49 "BlazonryModel" "plain" "LBlazonryModel$Blazon;" ∈ gW := gt_10 15 rfl rfl
theorem m_10_16 : Cond.fieldLink RX18 52 "BlazonryModel" "words" "[I" ∈ gW := gt_10 16 rfl rfl
theorem m_10_18 : Cond.fieldLink RX18 55 "BlazonryModel" "best" "[I" ∈ gW := gt_10 18 rfl rfl
theorem m_10_20 : Cond.fieldLink RX18 58 "BlazonryModel" "quarterMany" "[I" ∈ gW := gt_10 20 rfl rfl
theorem m_10_21 : Cond.fieldLink RX18 61 "BlazonryModel" "quarterArms" "[I" ∈ gW := gt_10 21 rfl rfl
theorem m_10_22 : Cond.fieldLink RX18 64 "BlazonryModel" "quarterBy" "[I" ∈ gW := gt_10 22 rfl rfl
theorem m_10_23 : Cond.fieldLink RX18 67 "BlazonryModel" "shield" "[I" ∈ gW := gt_10 23 rfl rfl
theorem m_10_24 : Cond.fieldLink RX18 70 "BlazonryModel" "wifeShield" "[I" ∈ gW := gt_10 24 rfl rfl
theorem m_9_173 : Cond.code yX18_init cX18_init 1 none ∈ gW := gt_9 173 rfl rfl
theorem hd_X18_init : (yX18_init).cls ≠ "java/lang/invoke/MethodHandle" ∧ (yX18_init).cls ≠ "java/lang/invoke/VarHandle" ∧ (parseMethodDescriptor (yX18_init).desc).map (fun d => d.parameters.length) = some 0 := ⟨by decide, by decide, by decide +kernel⟩
theorem m_9_171 : Cond.methodLink RL 197 yX18_init ∈ gW := gt_9 171 rfl rfl
theorem m_9_172 : Cond.instanceMethod yX18_init ∈ gW := gt_9 172 rfl rfl
theorem m_14_23 : Cond.arrayClass .double ∈ gW := gt_14 23 rfl rfl
theorem n_s0 : (RX11, 97, "no such word") ∈ gStr := List.mem_of_getElem? (i := 0) rfl
def sb_ta_X11_99 : List Cond := [(Jvm.Cond.initialized "java/lang/Throwable"), (Jvm.Cond.initialized "java/lang/Exception"), (Jvm.Cond.initialized "java/lang/RuntimeException"), (Jvm.Cond.initialized "java/lang/IllegalArgumentException"), (Jvm.Cond.instanceMethod ({ cls := "java/lang/Object", name := "<init>", desc := "()V" } : Jvm.MethodName)), (Jvm.Cond.code ({ cls := "java/lang/Object", name := "<init>", desc := "()V" } : Jvm.MethodName) object_method_1_code (1 : Nat) (Option.none : Option Jvm.ClassFile.FieldType)), (Jvm.Cond.instantiable "java/lang/IllegalArgumentException" (6 : Nat)), (Jvm.Cond.selects "java/lang/IllegalArgumentException" ({ cls := "java/lang/Throwable", name := "fillInStackTrace", desc := "(I)Ljava/lang/Throwable;" } : Jvm.MethodName) ({ cls := "java/lang/Throwable", name := "fillInStackTrace", desc := "(I)Ljava/lang/Throwable;" } : Jvm.MethodName)), (Jvm.Cond.selects "java/lang/IllegalArgumentException" ({ cls := "java/lang/Throwable", name := "fillInStackTrace", desc := "()Ljava/lang/Throwable;" } : Jvm.MethodName) ({ cls := "java/lang/Throwable", name := "fillInStackTrace", desc := "()Ljava/lang/Throwable;" } : Jvm.MethodName)), (Jvm.Cond.lays "java/lang/IllegalArgumentException" "java/lang/Throwable" "cause" "Ljava/lang/Throwable;"), (Jvm.Cond.lays "java/lang/Throwable" "java/lang/Throwable" "cause" "Ljava/lang/Throwable;"), (Jvm.Cond.lays "java/lang/IllegalArgumentException" "java/lang/Throwable" "stackTrace" "[Ljava/lang/StackTraceElement;"), (Jvm.Cond.lays "java/lang/Throwable" "java/lang/Throwable" "stackTrace" "[Ljava/lang/StackTraceElement;"), (Jvm.Cond.lays "java/lang/IllegalArgumentException" "java/lang/Throwable" "suppressedExceptions" "Ljava/util/List;"), (Jvm.Cond.lays "java/lang/Throwable" "java/lang/Throwable" "suppressedExceptions" "Ljava/util/List;"), (Jvm.Cond.lays "java/lang/IllegalArgumentException" "java/lang/Throwable" "detailMessage" "Ljava/lang/String;"), (Jvm.Cond.lays "java/lang/Throwable" "java/lang/Throwable" "detailMessage" "Ljava/lang/String;"), (Jvm.Cond.lays "java/lang/IllegalArgumentException" "java/lang/Throwable" "backtrace" "Ljava/lang/Object;"), (Jvm.Cond.lays "java/lang/Throwable" "java/lang/Throwable" "backtrace" "Ljava/lang/Object;"), (Jvm.Cond.fieldLink "java/lang/Throwable" (198 : Nat) "java/lang/Throwable" "backtrace" "Ljava/lang/Object;"), (Jvm.Cond.superclass "java/lang/Throwable" "java/lang/Object"), (Jvm.Cond.instanceMethod ({ cls := "java/lang/Throwable", name := "<init>", desc := "()V" } : Jvm.MethodName)), (Jvm.Cond.code ({ cls := "java/lang/Throwable", name := "<init>", desc := "()V" } : Jvm.MethodName) prog_36_method_1_code (1 : Nat) (Option.none : Option Jvm.ClassFile.FieldType)), (Jvm.Cond.methodLink "java/lang/Throwable" (1 : Nat) ({ cls := "java/lang/Object", name := "<init>", desc := "()V" } : Jvm.MethodName)), (Jvm.Cond.fieldLink "java/lang/Throwable" (13 : Nat) "java/lang/Throwable" "UNASSIGNED_STACK" "[Ljava/lang/StackTraceElement;"), (Jvm.Cond.fieldLink "java/lang/Throwable" (20 : Nat) "java/lang/Throwable" "SUPPRESSED_SENTINEL" "Ljava/util/List;"), (Jvm.Cond.methodLink "java/lang/Throwable" (27 : Nat) ({ cls := "java/lang/Throwable", name := "fillInStackTrace", desc := "()Ljava/lang/Throwable;" } : Jvm.MethodName)), (Jvm.Cond.instanceMethod ({ cls := "java/lang/Throwable", name := "fillInStackTrace", desc := "()Ljava/lang/Throwable;" } : Jvm.MethodName)), (Jvm.Cond.sameMethod "java/lang/Throwable" "java/lang/Throwable" "fillInStackTrace" "()Ljava/lang/Throwable;"), (Jvm.Cond.codeSync ({ cls := "java/lang/Throwable", name := "fillInStackTrace", desc := "()Ljava/lang/Throwable;" } : Jvm.MethodName) prog_36_method_18_code (1 : Nat) (Option.some (Jvm.ClassFile.FieldType.object "java/lang/Throwable"))), (Jvm.Cond.methodLink "java/lang/Throwable" (202 : Nat) ({ cls := "java/lang/Throwable", name := "fillInStackTrace", desc := "(I)Ljava/lang/Throwable;" } : Jvm.MethodName)), (Jvm.Cond.instanceMethod ({ cls := "java/lang/Throwable", name := "fillInStackTrace", desc := "(I)Ljava/lang/Throwable;" } : Jvm.MethodName)), (Jvm.Cond.instantiable "java/lang/Throwable" (6 : Nat)), (Jvm.Cond.native ({ cls := "java/lang/Throwable", name := "fillInStackTrace", desc := "(I)Ljava/lang/Throwable;" } : Jvm.MethodName)), (Jvm.Cond.methodLink "Blazonry" (99 : Nat) ({ cls := "java/lang/IllegalArgumentException", name := "<init>", desc := "(Ljava/lang/String;)V" } : Jvm.MethodName)), (Jvm.Cond.instanceMethod ({ cls := "java/lang/IllegalArgumentException", name := "<init>", desc := "(Ljava/lang/String;)V" } : Jvm.MethodName)), (Jvm.Cond.code ({ cls := "java/lang/IllegalArgumentException", name := "<init>", desc := "(Ljava/lang/String;)V" } : Jvm.MethodName) prog_26_method_2_code (2 : Nat) (Option.none : Option Jvm.ClassFile.FieldType)), (Jvm.Cond.methodLink "java/lang/IllegalArgumentException" (7 : Nat) ({ cls := "java/lang/RuntimeException", name := "<init>", desc := "(Ljava/lang/String;)V" } : Jvm.MethodName)), (Jvm.Cond.instanceMethod ({ cls := "java/lang/RuntimeException", name := "<init>", desc := "(Ljava/lang/String;)V" } : Jvm.MethodName)), (Jvm.Cond.code ({ cls := "java/lang/RuntimeException", name := "<init>", desc := "(Ljava/lang/String;)V" } : Jvm.MethodName) prog_33_method_2_code (2 : Nat) (Option.none : Option Jvm.ClassFile.FieldType)), (Jvm.Cond.methodLink "java/lang/RuntimeException" (7 : Nat) ({ cls := "java/lang/Exception", name := "<init>", desc := "(Ljava/lang/String;)V" } : Jvm.MethodName)), (Jvm.Cond.instanceMethod ({ cls := "java/lang/Exception", name := "<init>", desc := "(Ljava/lang/String;)V" } : Jvm.MethodName)), (Jvm.Cond.code ({ cls := "java/lang/Exception", name := "<init>", desc := "(Ljava/lang/String;)V" } : Jvm.MethodName) prog_25_method_2_code (2 : Nat) (Option.none : Option Jvm.ClassFile.FieldType)), (Jvm.Cond.methodLink "java/lang/Exception" (7 : Nat) ({ cls := "java/lang/Throwable", name := "<init>", desc := "(Ljava/lang/String;)V" } : Jvm.MethodName)), (Jvm.Cond.instanceMethod ({ cls := "java/lang/Throwable", name := "<init>", desc := "(Ljava/lang/String;)V" } : Jvm.MethodName)), (Jvm.Cond.code ({ cls := "java/lang/Throwable", name := "<init>", desc := "(Ljava/lang/String;)V" } : Jvm.MethodName) prog_36_method_2_code (2 : Nat) (Option.none : Option Jvm.ClassFile.FieldType)), (Jvm.Cond.fieldLink "java/lang/Throwable" (31 : Nat) "java/lang/Throwable" "detailMessage" "Ljava/lang/String;"), (Jvm.Cond.fieldLink "java/lang/Throwable" (7 : Nat) "java/lang/Throwable" "cause" "Ljava/lang/Throwable;"), (Jvm.Cond.fieldLink "java/lang/Throwable" (17 : Nat) "java/lang/Throwable" "stackTrace" "[Ljava/lang/StackTraceElement;"), (Jvm.Cond.fieldLink "java/lang/Throwable" (24 : Nat) "java/lang/Throwable" "suppressedExceptions" "Ljava/util/List;"), (Jvm.Cond.soleField "java/lang/Throwable" "backtrace"), (Jvm.Cond.soleField "java/lang/Throwable" "detailMessage"), (Jvm.Cond.soleField "java/lang/Throwable" "cause"), (Jvm.Cond.soleField "java/lang/Throwable" "stackTrace"), (Jvm.Cond.lays "java/lang/IllegalArgumentException" "java/lang/Throwable" "depth" "I"), (Jvm.Cond.soleField "java/lang/Throwable" "depth"), (Jvm.Cond.soleField "java/lang/Throwable" "suppressedExceptions"), (Jvm.Cond.superclass "java/lang/IllegalArgumentException" "java/lang/RuntimeException"), (Jvm.Cond.instanceMethod ({ cls := "java/lang/Object", name := "getClass", desc := "()Ljava/lang/Class;" } : Jvm.MethodName)), (Jvm.Cond.selects "java/lang/IllegalArgumentException" ({ cls := "java/lang/Object", name := "getClass", desc := "()Ljava/lang/Class;" } : Jvm.MethodName) ({ cls := "java/lang/Object", name := "getClass", desc := "()Ljava/lang/Class;" } : Jvm.MethodName)), (Jvm.Cond.instanceMethod ({ cls := "java/lang/RuntimeException", name := "<init>", desc := "()V" } : Jvm.MethodName)), (Jvm.Cond.code ({ cls := "java/lang/RuntimeException", name := "<init>", desc := "()V" } : Jvm.MethodName) prog_33_method_1_code (1 : Nat) (Option.none : Option Jvm.ClassFile.FieldType)), (Jvm.Cond.methodLink "java/lang/RuntimeException" (1 : Nat) ({ cls := "java/lang/Exception", name := "<init>", desc := "()V" } : Jvm.MethodName)), (Jvm.Cond.instanceMethod ({ cls := "java/lang/Exception", name := "<init>", desc := "()V" } : Jvm.MethodName)), (Jvm.Cond.code ({ cls := "java/lang/Exception", name := "<init>", desc := "()V" } : Jvm.MethodName) prog_25_method_1_code (1 : Nat) (Option.none : Option Jvm.ClassFile.FieldType)), (Jvm.Cond.methodLink "java/lang/Exception" (1 : Nat) ({ cls := "java/lang/Throwable", name := "<init>", desc := "()V" } : Jvm.MethodName)), (Jvm.Cond.sameMethod "java/lang/Throwable" "java/lang/Throwable" "fillInStackTrace" "(I)Ljava/lang/Throwable;")]
theorem sm_ta_X11_99 : ∀ w ∈ sb_ta_X11_99, w ∈ gW := by
  unfold sb_ta_X11_99
  intro w h
  simp only [List.mem_cons, List.not_mem_nil, or_false] at h
  rcases h with rfl | rfl | rfl | rfl | rfl | rfl | rfl | rfl | rfl | rfl | rfl | rfl | rfl | rfl | rfl | rfl | rfl | rfl | rfl | rfl | rfl | rfl | rfl | rfl | rfl | rfl | rfl | rfl | rfl | rfl | rfl | rfl | rfl | rfl | rfl | rfl | rfl | rfl | rfl | rfl | rfl | rfl | rfl | rfl | rfl | rfl | rfl | rfl | rfl | rfl | rfl | rfl | rfl | rfl | rfl | rfl | rfl | rfl | rfl | rfl | rfl | rfl | rfl | rfl | rfl | rfl | rfl
  · exact gt_1 20 rfl rfl
  · exact gt_1 21 rfl rfl
  · exact gt_1 22 rfl rfl
  · exact gt_1 23 rfl rfl
  · exact gt_1 49 rfl rfl
  · exact gt_1 50 rfl rfl
  · exact gt_5 26 rfl rfl
  · exact gt_5 34 rfl rfl
  · exact gt_5 35 rfl rfl
  · exact gt_5 36 rfl rfl
  · exact gt_5 37 rfl rfl
  · exact gt_5 38 rfl rfl
  · exact gt_5 39 rfl rfl
  · exact gt_5 40 rfl rfl
  · exact gt_5 41 rfl rfl
  · exact gt_5 42 rfl rfl
  · exact gt_5 43 rfl rfl
  · exact gt_5 44 rfl rfl
  · exact gt_5 45 rfl rfl
  · exact gt_5 46 rfl rfl
  · exact gt_5 47 rfl rfl
  · exact gt_5 48 rfl rfl
  · exact gt_5 49 rfl rfl
  · exact gt_5 50 rfl rfl
  · exact gt_5 51 rfl rfl
  · exact gt_5 53 rfl rfl
  · exact gt_5 55 rfl rfl
  · exact gt_5 56 rfl rfl
  · exact gt_5 57 rfl rfl
  · exact gt_5 64 rfl rfl
  · exact gt_5 65 rfl rfl
  · exact gt_5 67 rfl rfl
  · exact gt_5 68 rfl rfl
  · exact gt_5 69 rfl rfl
  · exact gt_5 71 rfl rfl
  · exact gt_5 72 rfl rfl
  · exact gt_5 73 rfl rfl
  · exact gt_5 74 rfl rfl
  · exact gt_5 75 rfl rfl
  · exact gt_5 76 rfl rfl
  · exact gt_5 77 rfl rfl
  · exact gt_5 78 rfl rfl
  · exact gt_5 79 rfl rfl
  · exact gt_5 80 rfl rfl
  · exact gt_5 81 rfl rfl
  · exact gt_5 82 rfl rfl
  · exact gt_5 84 rfl rfl
  · exact gt_5 85 rfl rfl
  · exact gt_5 86 rfl rfl
  · exact gt_5 87 rfl rfl
  · exact gt_5 88 rfl rfl
  · exact gt_5 89 rfl rfl
  · exact gt_5 90 rfl rfl
  · exact gt_5 91 rfl rfl
  · exact gt_5 92 rfl rfl
  · exact gt_5 93 rfl rfl
  · exact gt_5 94 rfl rfl
  · exact gt_5 95 rfl rfl
  · exact gt_11 201 rfl rfl
  · exact gt_11 224 rfl rfl
  · exact gt_12 73 rfl rfl
  · exact gt_12 74 rfl rfl
  · exact gt_12 75 rfl rfl
  · exact gt_12 76 rfl rfl
  · exact gt_12 77 rfl rfl
  · exact gt_12 78 rfl rfl
  · exact gt_14 24 rfl rfl
theorem sd_de : ∀ y ∈ ([⟨"java/lang/RuntimeException", "<init>", "(Ljava/lang/String;)V"⟩, ⟨"java/lang/Exception", "<init>", "(Ljava/lang/String;)V"⟩, ⟨"java/lang/Throwable", "<init>", "(Ljava/lang/String;)V"⟩, ⟨"java/lang/IndexOutOfBoundsException", "<init>", "(Ljava/lang/String;)V"⟩] : List MethodName), y ∈ gDe := fun y h => by
  simp only [List.mem_cons, List.not_mem_nil, or_false] at h
  rcases h with rfl | rfl | rfl | rfl
  · exact List.mem_of_getElem? (i := 1) rfl
  · exact List.mem_of_getElem? (i := 3) rfl
  · exact List.mem_of_getElem? (i := 5) rfl
  · exact List.mem_of_getElem? (i := 7) rfl
theorem sc_ta_X11_99 : ((vx_atS RX11 99 "java/lang/IllegalArgumentException" ["java/lang/RuntimeException", "java/lang/Exception"]).all (fun w => decide (w ∈ sb_ta_X11_99) || (decide (w = Cond.castable "java/lang/IllegalArgumentException" "java/lang/IllegalArgumentException") || ([⟨"java/lang/RuntimeException", "<init>", "(Ljava/lang/String;)V"⟩, ⟨"java/lang/Exception", "<init>", "(Ljava/lang/String;)V"⟩, ⟨"java/lang/Throwable", "<init>", "(Ljava/lang/String;)V"⟩, ⟨"java/lang/IndexOutOfBoundsException", "<init>", "(Ljava/lang/String;)V"⟩] : List MethodName).any (fun y => decide (w = Cond.declares y))))) = true := by decide +kernel
theorem so_ta_X11_99 : ((vx_atS RX11 99 "java/lang/IllegalArgumentException" ["java/lang/RuntimeException", "java/lang/Exception"]).all vx_ot) = true := by decide +kernel
theorem n_c0 : ("java/lang/IllegalArgumentException", "java/lang/IllegalArgumentException") ∈ gCa := List.mem_of_getElem? (i := 0) rfl
theorem ta_X11_99 : (∀ w ∈ vx_atS RX11 99 "java/lang/IllegalArgumentException" ["java/lang/RuntimeException", "java/lang/Exception"], w ∈ gW ∨ (∃ q ∈ gCa, w = Cond.castable q.1 q.2) ∨ ∃ y ∈ gDe, w = Cond.declares y) ∧ ∀ w ∈ vx_atS RX11 99 "java/lang/IllegalArgumentException" ["java/lang/RuntimeException", "java/lang/Exception"], vx_ot w = true := ⟨fun w h => by
  have h1 := List.all_eq_true.mp sc_ta_X11_99 w h
  simp only [Bool.or_eq_true, decide_eq_true_eq] at h1
  rcases h1 with h1 | h1 | h1
  · exact Or.inl (sm_ta_X11_99 w h1)
  · exact Or.inr (Or.inl ⟨_, n_c0, h1⟩)
  · obtain ⟨y, hy, h2⟩ := List.any_eq_true.mp h1
    exact Or.inr (Or.inr ⟨y, sd_de y hy, of_decide_eq_true h2⟩), List.all_eq_true.mp so_ta_X11_99⟩
theorem m_5_25 : Cond.classLink RX11 95 "java/lang/IllegalArgumentException" ∈ gW := gt_5 25 rfl rfl
theorem m_1_23 : Cond.initialized "java/lang/IllegalArgumentException" ∈ gW := gt_1 23 rfl rfl
theorem m_2_3 : Cond.fieldLink RX11 102 "Blazonry$Blazon" "count" "I" ∈ gW := gt_2 3 rfl rfl
theorem m_4_191 : Cond.code yX1_add cX1_add 2 none ∈ gW := gt_4 191 rfl rfl
theorem hd_X1_add : (yX1_add).cls ≠ "java/lang/invoke/MethodHandle" ∧ (yX1_add).cls ≠ "java/lang/invoke/VarHandle" ∧ (parseMethodDescriptor (yX1_add).desc).map (fun d => d.parameters.length) = some 1 := ⟨by decide, by decide, by decide +kernel⟩
theorem m_5_113 : Cond.methodLink RX11 111 yX1_add ∈ gW := gt_5 113 rfl rfl
theorem m_4_189 : Cond.instanceMethod yX1_add ∈ gW := gt_4 189 rfl rfl
theorem m_4_190 : Cond.selects RX1 yX1_add yX1_add ∈ gW := gt_4 190 rfl rfl
theorem m_3_130 : Cond.code yX1_takeIn cX1_takeIn 4 (some .int) ∈ gW := gt_3 130 rfl rfl
theorem hd_X1_takeIn : (yX1_takeIn).cls ≠ "java/lang/invoke/MethodHandle" ∧ (yX1_takeIn).cls ≠ "java/lang/invoke/VarHandle" ∧ (parseMethodDescriptor (yX1_takeIn).desc).map (fun d => d.parameters.length) = some 2 := ⟨by decide, by decide, by decide +kernel⟩
theorem m_3_127 : Cond.methodLink RX1 78 yX1_takeIn ∈ gW := gt_3 127 rfl rfl
theorem m_3_129 : Cond.instanceMethod yX1_takeIn ∈ gW := gt_3 129 rfl rfl
theorem m_s_2 : Cond.selects RX1 yX1_takeIn yX1_takeIn ∈ gW := gt_s (q := (yX1_takeIn, 12)) 2 rfl
theorem m_3_169 : Cond.fieldLink RX11 475 "Blazonry" "isRowDrawn" "Z" ∈ gW := gt_3 169 rfl rfl
theorem m_3_170 : Cond.fieldLink RX11 479 "Blazonry" "isRowTold" "Z" ∈ gW := gt_3 170 rfl rfl
theorem m_3_216 : Cond.code yX11_forgetRow cX11_forgetRow 1 none ∈ gW := gt_3 216 rfl rfl
theorem hd_X11_forgetRow : (yX11_forgetRow).cls ≠ "java/lang/invoke/MethodHandle" ∧ (yX11_forgetRow).cls ≠ "java/lang/invoke/VarHandle" ∧ (parseMethodDescriptor (yX11_forgetRow).desc).map (fun d => d.parameters.length) = some 0 := ⟨by decide, by decide, by decide +kernel⟩
theorem m_3_213 : Cond.methodLink RX11 115 yX11_forgetRow ∈ gW := gt_3 213 rfl rfl
theorem m_3_215 : Cond.instanceMethod yX11_forgetRow ∈ gW := gt_3 215 rfl rfl
theorem m_s_8 : Cond.selects RX11 yX11_forgetRow yX11_forgetRow ∈ gW := gt_s (q := (yX11_forgetRow, 14)) 8 rfl
theorem m_5_24 : Cond.code yX11_type cX11_type 2 (some .int) ∈ gW := gt_5 24 rfl rfl
theorem hd_X11_type : (yX11_type).cls ≠ "java/lang/invoke/MethodHandle" ∧ (yX11_type).cls ≠ "java/lang/invoke/VarHandle" ∧ (parseMethodDescriptor (yX11_type).desc).map (fun d => d.parameters.length) = some 1 := ⟨by decide, by decide, by decide +kernel⟩
theorem m_5_21 : Cond.methodLink RL 7 yX11_type ∈ gW := gt_5 21 rfl rfl
theorem m_5_22 : Cond.instanceMethod yX11_type ∈ gW := gt_5 22 rfl rfl
theorem m_5_23 : Cond.selects RX11 yX11_type yX11_type ∈ gW := gt_5 23 rfl rfl
theorem m_5_19 : Cond.classLink RL 13 "java/lang/IllegalArgumentException" ∈ gW := gt_5 19 rfl rfl
theorem m_5_18 : Cond.codeWith yL_type cL_type 4 (some .int) [(0, 9, 12, 13), (0, 9, 15, 15)] ∈ gW := gt_5 18 rfl rfl
theorem hd_L_type : (yL_type).cls ≠ "java/lang/invoke/MethodHandle" ∧ (yL_type).cls ≠ "java/lang/invoke/VarHandle" ∧ (parseMethodDescriptor (yL_type).desc).map (fun d => d.parameters.length) = some 3 := ⟨by decide, by decide, by decide +kernel⟩
theorem m_5_16 : Cond.methodLink RL 198 yL_type ∈ gW := gt_5 16 rfl rfl
theorem m_5_17 : Cond.static yL_type ∈ gW := gt_5 17 rfl rfl
theorem m_1_0 : Cond.initialized RL ∈ gW := gt_1 0 rfl rfl
theorem m_10_92 : Cond.code yX18_in cX18_in 3 (some .boolean) ∈ gW := gt_10 92 rfl rfl
theorem hd_X18_in : (yX18_in).cls ≠ "java/lang/invoke/MethodHandle" ∧ (yX18_in).cls ≠ "java/lang/invoke/VarHandle" ∧ (parseMethodDescriptor (yX18_in).desc).map (fun d => d.parameters.length) = some 3 := ⟨by decide, by decide, by decide +kernel⟩
theorem m_10_90 : Cond.methodLink RX18 77 yX18_in ∈ gW := gt_10 90 rfl rfl
theorem m_10_91 : Cond.static yX18_in ∈ gW := gt_10 91 rfl rfl
theorem m_9_237 : Cond.fieldLink RX18 73 "BlazonryModel" "thrown" "I" ∈ gW := gt_9 237 rfl rfl
theorem m_10_96 : Cond.code yX18_fails cX18_fails 2 (some .boolean) ∈ gW := gt_10 96 rfl rfl
theorem hd_X18_fails : (yX18_fails).cls ≠ "java/lang/invoke/MethodHandle" ∧ (yX18_fails).cls ≠ "java/lang/invoke/VarHandle" ∧ (parseMethodDescriptor (yX18_fails).desc).map (fun d => d.parameters.length) = some 1 := ⟨by decide, by decide, by decide +kernel⟩
theorem m_10_93 : Cond.methodLink RX18 84 yX18_fails ∈ gW := gt_10 93 rfl rfl
theorem m_10_95 : Cond.instanceMethod yX18_fails ∈ gW := gt_10 95 rfl rfl
theorem m_s_61 : Cond.selects RX18 yX18_fails yX18_fails ∈ gW := gt_s (q := (yX18_fails, 28)) 61 rfl
theorem m_9_239 : Cond.fieldLink RX18 81 "BlazonryModel" "many" "I" ∈ gW := gt_9 239 rfl rfl
theorem m_10_89 : Cond.code yX18_type cX18_type 2 (some .int) ∈ gW := gt_10 89 rfl rfl
theorem hd_X18_type : (yX18_type).cls ≠ "java/lang/invoke/MethodHandle" ∧ (yX18_type).cls ≠ "java/lang/invoke/VarHandle" ∧ (parseMethodDescriptor (yX18_type).desc).map (fun d => d.parameters.length) = some 1 := ⟨by decide, by decide, by decide +kernel⟩
theorem m_10_86 : Cond.methodLink RL 203 yX18_type ∈ gW := gt_10 86 rfl rfl
theorem m_10_87 : Cond.instanceMethod yX18_type ∈ gW := gt_10 87 rfl rfl
theorem m_10_88 : Cond.selects RX18 yX18_type yX18_type ∈ gW := gt_10 88 rfl rfl
theorem m_10_85 : Cond.code yX18_thrown cX18_thrown 1 (some .int) ∈ gW := gt_10 85 rfl rfl
theorem hd_X18_thrown : (yX18_thrown).cls ≠ "java/lang/invoke/MethodHandle" ∧ (yX18_thrown).cls ≠ "java/lang/invoke/VarHandle" ∧ (parseMethodDescriptor (yX18_thrown).desc).map (fun d => d.parameters.length) = some 0 := ⟨by decide, by decide, by decide +kernel⟩
theorem m_10_82 : Cond.methodLink RL 204 yX18_thrown ∈ gW := gt_10 82 rfl rfl
theorem m_10_83 : Cond.instanceMethod yX18_thrown ∈ gW := gt_10 83 rfl rfl
theorem m_10_84 : Cond.selects RX18 yX18_thrown yX18_thrown ∈ gW := gt_10 84 rfl rfl
theorem m_3_212 : Cond.code yX1_clear cX1_clear 1 none ∈ gW := gt_3 212 rfl rfl
theorem hd_X1_clear : (yX1_clear).cls ≠ "java/lang/invoke/MethodHandle" ∧ (yX1_clear).cls ≠ "java/lang/invoke/VarHandle" ∧ (parseMethodDescriptor (yX1_clear).desc).map (fun d => d.parameters.length) = some 0 := ⟨by decide, by decide, by decide +kernel⟩
theorem m_3_209 : Cond.methodLink RX11 482 yX1_clear ∈ gW := gt_3 209 rfl rfl
theorem m_3_210 : Cond.instanceMethod yX1_clear ∈ gW := gt_3 210 rfl rfl
theorem m_3_211 : Cond.selects RX1 yX1_clear yX1_clear ∈ gW := gt_3 211 rfl rfl
theorem m_3_208 : Cond.code yX11_emptyRow cX11_emptyRow 1 none ∈ gW := gt_3 208 rfl rfl
theorem hd_X11_emptyRow : (yX11_emptyRow).cls ≠ "java/lang/invoke/MethodHandle" ∧ (yX11_emptyRow).cls ≠ "java/lang/invoke/VarHandle" ∧ (parseMethodDescriptor (yX11_emptyRow).desc).map (fun d => d.parameters.length) = some 0 := ⟨by decide, by decide, by decide +kernel⟩
theorem m_3_205 : Cond.methodLink RX11 118 yX11_emptyRow ∈ gW := gt_3 205 rfl rfl
theorem m_3_207 : Cond.instanceMethod yX11_emptyRow ∈ gW := gt_3 207 rfl rfl
theorem m_s_7 : Cond.selects RX11 yX11_emptyRow yX11_emptyRow ∈ gW := gt_s (q := (yX11_emptyRow, 14)) 7 rfl
theorem m_3_204 : Cond.code yX11_erase cX11_erase 2 (some .int) ∈ gW := gt_3 204 rfl rfl
theorem hd_X11_erase : (yX11_erase).cls ≠ "java/lang/invoke/MethodHandle" ∧ (yX11_erase).cls ≠ "java/lang/invoke/VarHandle" ∧ (parseMethodDescriptor (yX11_erase).desc).map (fun d => d.parameters.length) = some 0 := ⟨by decide, by decide, by decide +kernel⟩
theorem m_3_201 : Cond.methodLink RL 207 yX11_erase ∈ gW := gt_3 201 rfl rfl
theorem m_3_202 : Cond.instanceMethod yX11_erase ∈ gW := gt_3 202 rfl rfl
theorem m_3_203 : Cond.selects RX11 yX11_erase yX11_erase ∈ gW := gt_3 203 rfl rfl
theorem m_10_100 : Cond.code yX18_erase cX18_erase 2 (some .int) ∈ gW := gt_10 100 rfl rfl
theorem hd_X18_erase : (yX18_erase).cls ≠ "java/lang/invoke/MethodHandle" ∧ (yX18_erase).cls ≠ "java/lang/invoke/VarHandle" ∧ (parseMethodDescriptor (yX18_erase).desc).map (fun d => d.parameters.length) = some 0 := ⟨by decide, by decide, by decide +kernel⟩
theorem m_10_97 : Cond.methodLink RL 210 yX18_erase ∈ gW := gt_10 97 rfl rfl
theorem m_10_98 : Cond.instanceMethod yX18_erase ∈ gW := gt_10 98 rfl rfl
theorem m_10_99 : Cond.selects RX18 yX18_erase yX18_erase ∈ gW := gt_10 99 rfl rfl
theorem m_2_6 : Cond.fieldLink RX11 121 "Blazonry$Blazon" "faultAt" "I" ∈ gW := gt_2 6 rfl rfl
theorem m_3_220 : Cond.code yX11_wrongAt cX11_wrongAt 1 (some .int) ∈ gW := gt_3 220 rfl rfl
theorem hd_X11_wrongAt : (yX11_wrongAt).cls ≠ "java/lang/invoke/MethodHandle" ∧ (yX11_wrongAt).cls ≠ "java/lang/invoke/VarHandle" ∧ (parseMethodDescriptor (yX11_wrongAt).desc).map (fun d => d.parameters.length) = some 0 := ⟨by decide, by decide, by decide +kernel⟩
theorem m_3_217 : Cond.methodLink RL 211 yX11_wrongAt ∈ gW := gt_3 217 rfl rfl
theorem m_3_218 : Cond.instanceMethod yX11_wrongAt ∈ gW := gt_3 218 rfl rfl
theorem m_3_219 : Cond.selects RX11 yX11_wrongAt yX11_wrongAt ∈ gW := gt_3 219 rfl rfl
theorem m_10_7 : Cond.fieldLink RX18 91 "BlazonryModel" "wrong" "I" ∈ gW := gt_10 7 rfl rfl
theorem m_10_9 : Cond.fieldLink RX18 88 "BlazonryModel" "at" "I" ∈ gW := gt_10 9 rfl rfl
theorem m_10_116 : Cond.code yX18_word cX18_word 1 (some .int) ∈ gW := gt_10 116 rfl rfl
theorem hd_X18_word : (yX18_word).cls ≠ "java/lang/invoke/MethodHandle" ∧ (yX18_word).cls ≠ "java/lang/invoke/VarHandle" ∧ (parseMethodDescriptor (yX18_word).desc).map (fun d => d.parameters.length) = some 0 := ⟨by decide, by decide, by decide +kernel⟩
theorem m_10_113 : Cond.methodLink RX18 94 yX18_word ∈ gW := gt_10 113 rfl rfl
theorem m_10_115 : Cond.instanceMethod yX18_word ∈ gW := gt_10 115 rfl rfl
theorem m_s_64 : Cond.selects RX18 yX18_word yX18_word ∈ gW := gt_s (q := (yX18_word, 28)) 64 rfl
theorem m_10_112 : Cond.code yX18_may cX18_may 3 (some .int) ∈ gW := gt_10 112 rfl rfl
theorem hd_X18_may : (yX18_may).cls ≠ "java/lang/invoke/MethodHandle" ∧ (yX18_may).cls ≠ "java/lang/invoke/VarHandle" ∧ (parseMethodDescriptor (yX18_may).desc).map (fun d => d.parameters.length) = some 2 := ⟨by decide, by decide, by decide +kernel⟩
theorem m_10_109 : Cond.methodLink RX18 122 yX18_may ∈ gW := gt_10 109 rfl rfl
theorem m_10_111 : Cond.instanceMethod yX18_may ∈ gW := gt_10 111 rfl rfl
theorem m_s_63 : Cond.selects RX18 yX18_may yX18_may ∈ gW := gt_s (q := (yX18_may, 28)) 63 rfl
theorem n_f3 : (RX18, 102, "BlazonryModel$Blazon", "parting", "I", "BlazonryModel") ∈ gNF := List.mem_of_getElem? (i := 3) rfl
theorem n_f4 : (RX18, 171, "BlazonryModel$Blazon", "line", "I", "BlazonryModel") ∈ gNF := List.mem_of_getElem? (i := 4) rfl
theorem m_10_124 : Cond.code yX18_tincture cX18_tincture 6 (some .int) ∈ gW := gt_10 124 rfl rfl
theorem hd_X18_tincture : (yX18_tincture).cls ≠ "java/lang/invoke/MethodHandle" ∧ (yX18_tincture).cls ≠ "java/lang/invoke/VarHandle" ∧ (parseMethodDescriptor (yX18_tincture).desc).map (fun d => d.parameters.length) = some 1 := ⟨by decide, by decide, by decide +kernel⟩
theorem m_10_121 : Cond.methodLink RX18 149 yX18_tincture ∈ gW := gt_10 121 rfl rfl
theorem m_10_123 : Cond.instanceMethod yX18_tincture ∈ gW := gt_10 123 rfl rfl
theorem m_s_66 : Cond.selects RX18 yX18_tincture yX18_tincture ∈ gW := gt_s (q := (yX18_tincture, 28)) 66 rfl
theorem n_f5 : (RX18, 108, "BlazonryModel$Blazon", "first", "I", "BlazonryModel") ∈ gNF := List.mem_of_getElem? (i := 5) rfl
theorem m_10_108 : Cond.code yX18_read cX18_read 2 none ∈ gW := gt_10 108 rfl rfl
theorem hd_X18_read : (yX18_read).cls ≠ "java/lang/invoke/MethodHandle" ∧ (yX18_read).cls ≠ "java/lang/invoke/VarHandle" ∧ (parseMethodDescriptor (yX18_read).desc).map (fun d => d.parameters.length) = some 0 := ⟨by decide, by decide, by decide +kernel⟩
theorem m_10_105 : Cond.methodLink RX18 176 yX18_read ∈ gW := gt_10 105 rfl rfl
theorem m_10_107 : Cond.instanceMethod yX18_read ∈ gW := gt_10 107 rfl rfl
theorem m_s_62 : Cond.selects RX18 yX18_read yX18_read ∈ gW := gt_s (q := (yX18_read, 28)) 62 rfl
theorem m_10_104 : Cond.code yX18_wrongAt cX18_wrongAt 1 (some .int) ∈ gW := gt_10 104 rfl rfl
theorem hd_X18_wrongAt : (yX18_wrongAt).cls ≠ "java/lang/invoke/MethodHandle" ∧ (yX18_wrongAt).cls ≠ "java/lang/invoke/VarHandle" ∧ (parseMethodDescriptor (yX18_wrongAt).desc).map (fun d => d.parameters.length) = some 0 := ⟨by decide, by decide, by decide +kernel⟩
theorem m_10_101 : Cond.methodLink RL 214 yX18_wrongAt ∈ gW := gt_10 101 rfl rfl
theorem m_10_102 : Cond.instanceMethod yX18_wrongAt ∈ gW := gt_10 102 rfl rfl
theorem m_10_103 : Cond.selects RX18 yX18_wrongAt yX18_wrongAt ∈ gW := gt_10 103 rfl rfl
theorem n_s2 : (RX11, 526, "no such point") ∈ gStr := List.mem_of_getElem? (i := 2) rfl
def sb_ta_X11_528 : List Cond := [(Jvm.Cond.initialized "java/lang/Throwable"), (Jvm.Cond.initialized "java/lang/Exception"), (Jvm.Cond.initialized "java/lang/RuntimeException"), (Jvm.Cond.initialized "java/lang/IndexOutOfBoundsException"), (Jvm.Cond.instanceMethod ({ cls := "java/lang/Object", name := "<init>", desc := "()V" } : Jvm.MethodName)), (Jvm.Cond.code ({ cls := "java/lang/Object", name := "<init>", desc := "()V" } : Jvm.MethodName) object_method_1_code (1 : Nat) (Option.none : Option Jvm.ClassFile.FieldType)), (Jvm.Cond.lays "java/lang/Throwable" "java/lang/Throwable" "cause" "Ljava/lang/Throwable;"), (Jvm.Cond.lays "java/lang/Throwable" "java/lang/Throwable" "stackTrace" "[Ljava/lang/StackTraceElement;"), (Jvm.Cond.lays "java/lang/Throwable" "java/lang/Throwable" "suppressedExceptions" "Ljava/util/List;"), (Jvm.Cond.lays "java/lang/Throwable" "java/lang/Throwable" "detailMessage" "Ljava/lang/String;"), (Jvm.Cond.lays "java/lang/Throwable" "java/lang/Throwable" "backtrace" "Ljava/lang/Object;"), (Jvm.Cond.fieldLink "java/lang/Throwable" (198 : Nat) "java/lang/Throwable" "backtrace" "Ljava/lang/Object;"), (Jvm.Cond.superclass "java/lang/Throwable" "java/lang/Object"), (Jvm.Cond.instanceMethod ({ cls := "java/lang/Throwable", name := "<init>", desc := "()V" } : Jvm.MethodName)), (Jvm.Cond.code ({ cls := "java/lang/Throwable", name := "<init>", desc := "()V" } : Jvm.MethodName) prog_36_method_1_code (1 : Nat) (Option.none : Option Jvm.ClassFile.FieldType)), (Jvm.Cond.methodLink "java/lang/Throwable" (1 : Nat) ({ cls := "java/lang/Object", name := "<init>", desc := "()V" } : Jvm.MethodName)), (Jvm.Cond.fieldLink "java/lang/Throwable" (13 : Nat) "java/lang/Throwable" "UNASSIGNED_STACK" "[Ljava/lang/StackTraceElement;"), (Jvm.Cond.fieldLink "java/lang/Throwable" (20 : Nat) "java/lang/Throwable" "SUPPRESSED_SENTINEL" "Ljava/util/List;"), (Jvm.Cond.methodLink "java/lang/Throwable" (27 : Nat) ({ cls := "java/lang/Throwable", name := "fillInStackTrace", desc := "()Ljava/lang/Throwable;" } : Jvm.MethodName)), (Jvm.Cond.instanceMethod ({ cls := "java/lang/Throwable", name := "fillInStackTrace", desc := "()Ljava/lang/Throwable;" } : Jvm.MethodName)), (Jvm.Cond.sameMethod "java/lang/Throwable" "java/lang/Throwable" "fillInStackTrace" "()Ljava/lang/Throwable;"), (Jvm.Cond.selects "java/lang/IndexOutOfBoundsException" ({ cls := "java/lang/Throwable", name := "fillInStackTrace", desc := "()Ljava/lang/Throwable;" } : Jvm.MethodName) ({ cls := "java/lang/Throwable", name := "fillInStackTrace", desc := "()Ljava/lang/Throwable;" } : Jvm.MethodName)), (Jvm.Cond.codeSync ({ cls := "java/lang/Throwable", name := "fillInStackTrace", desc := "()Ljava/lang/Throwable;" } : Jvm.MethodName) prog_36_method_18_code (1 : Nat) (Option.some (Jvm.ClassFile.FieldType.object "java/lang/Throwable"))), (Jvm.Cond.methodLink "java/lang/Throwable" (202 : Nat) ({ cls := "java/lang/Throwable", name := "fillInStackTrace", desc := "(I)Ljava/lang/Throwable;" } : Jvm.MethodName)), (Jvm.Cond.instanceMethod ({ cls := "java/lang/Throwable", name := "fillInStackTrace", desc := "(I)Ljava/lang/Throwable;" } : Jvm.MethodName)), (Jvm.Cond.instantiable "java/lang/Throwable" (6 : Nat)), (Jvm.Cond.native ({ cls := "java/lang/Throwable", name := "fillInStackTrace", desc := "(I)Ljava/lang/Throwable;" } : Jvm.MethodName)), (Jvm.Cond.instanceMethod ({ cls := "java/lang/RuntimeException", name := "<init>", desc := "(Ljava/lang/String;)V" } : Jvm.MethodName)), (Jvm.Cond.code ({ cls := "java/lang/RuntimeException", name := "<init>", desc := "(Ljava/lang/String;)V" } : Jvm.MethodName) prog_33_method_2_code (2 : Nat) (Option.none : Option Jvm.ClassFile.FieldType)), (Jvm.Cond.methodLink "java/lang/RuntimeException" (7 : Nat) ({ cls := "java/lang/Exception", name := "<init>", desc := "(Ljava/lang/String;)V" } : Jvm.MethodName)), (Jvm.Cond.instanceMethod ({ cls := "java/lang/Exception", name := "<init>", desc := "(Ljava/lang/String;)V" } : Jvm.MethodName)), (Jvm.Cond.code ({ cls := "java/lang/Exception", name := "<init>", desc := "(Ljava/lang/String;)V" } : Jvm.MethodName) prog_25_method_2_code (2 : Nat) (Option.none : Option Jvm.ClassFile.FieldType)), (Jvm.Cond.methodLink "java/lang/Exception" (7 : Nat) ({ cls := "java/lang/Throwable", name := "<init>", desc := "(Ljava/lang/String;)V" } : Jvm.MethodName)), (Jvm.Cond.instanceMethod ({ cls := "java/lang/Throwable", name := "<init>", desc := "(Ljava/lang/String;)V" } : Jvm.MethodName)), (Jvm.Cond.code ({ cls := "java/lang/Throwable", name := "<init>", desc := "(Ljava/lang/String;)V" } : Jvm.MethodName) prog_36_method_2_code (2 : Nat) (Option.none : Option Jvm.ClassFile.FieldType)), (Jvm.Cond.fieldLink "java/lang/Throwable" (31 : Nat) "java/lang/Throwable" "detailMessage" "Ljava/lang/String;"), (Jvm.Cond.fieldLink "java/lang/Throwable" (7 : Nat) "java/lang/Throwable" "cause" "Ljava/lang/Throwable;"), (Jvm.Cond.fieldLink "java/lang/Throwable" (17 : Nat) "java/lang/Throwable" "stackTrace" "[Ljava/lang/StackTraceElement;"), (Jvm.Cond.fieldLink "java/lang/Throwable" (24 : Nat) "java/lang/Throwable" "suppressedExceptions" "Ljava/util/List;"), (Jvm.Cond.soleField "java/lang/Throwable" "backtrace"), (Jvm.Cond.soleField "java/lang/Throwable" "detailMessage"), (Jvm.Cond.soleField "java/lang/Throwable" "cause"), (Jvm.Cond.soleField "java/lang/Throwable" "stackTrace"), (Jvm.Cond.soleField "java/lang/Throwable" "depth"), (Jvm.Cond.soleField "java/lang/Throwable" "suppressedExceptions"), (Jvm.Cond.instanceMethod ({ cls := "java/lang/IndexOutOfBoundsException", name := "<init>", desc := "(Ljava/lang/String;)V" } : Jvm.MethodName)), (Jvm.Cond.code ({ cls := "java/lang/IndexOutOfBoundsException", name := "<init>", desc := "(Ljava/lang/String;)V" } : Jvm.MethodName) prog_28_method_2_code (2 : Nat) (Option.none : Option Jvm.ClassFile.FieldType)), (Jvm.Cond.methodLink "java/lang/IndexOutOfBoundsException" (7 : Nat) ({ cls := "java/lang/RuntimeException", name := "<init>", desc := "(Ljava/lang/String;)V" } : Jvm.MethodName)), (Jvm.Cond.instantiable "java/lang/IndexOutOfBoundsException" (6 : Nat)), (Jvm.Cond.selects "java/lang/IndexOutOfBoundsException" ({ cls := "java/lang/Throwable", name := "fillInStackTrace", desc := "(I)Ljava/lang/Throwable;" } : Jvm.MethodName) ({ cls := "java/lang/Throwable", name := "fillInStackTrace", desc := "(I)Ljava/lang/Throwable;" } : Jvm.MethodName)), (Jvm.Cond.lays "java/lang/IndexOutOfBoundsException" "java/lang/Throwable" "cause" "Ljava/lang/Throwable;"), (Jvm.Cond.lays "java/lang/IndexOutOfBoundsException" "java/lang/Throwable" "stackTrace" "[Ljava/lang/StackTraceElement;"), (Jvm.Cond.lays "java/lang/IndexOutOfBoundsException" "java/lang/Throwable" "suppressedExceptions" "Ljava/util/List;"), (Jvm.Cond.lays "java/lang/IndexOutOfBoundsException" "java/lang/Throwable" "detailMessage" "Ljava/lang/String;"), (Jvm.Cond.lays "java/lang/IndexOutOfBoundsException" "java/lang/Throwable" "backtrace" "Ljava/lang/Object;"), (Jvm.Cond.methodLink "Blazonry" (528 : Nat) ({ cls := "java/lang/IndexOutOfBoundsException", name := "<init>", desc := "(Ljava/lang/String;)V" } : Jvm.MethodName)), (Jvm.Cond.lays "java/lang/IndexOutOfBoundsException" "java/lang/Throwable" "depth" "I"), (Jvm.Cond.superclass "java/lang/IndexOutOfBoundsException" "java/lang/RuntimeException"), (Jvm.Cond.instanceMethod ({ cls := "java/lang/Object", name := "getClass", desc := "()Ljava/lang/Class;" } : Jvm.MethodName)), (Jvm.Cond.selects "java/lang/IndexOutOfBoundsException" ({ cls := "java/lang/Object", name := "getClass", desc := "()Ljava/lang/Class;" } : Jvm.MethodName) ({ cls := "java/lang/Object", name := "getClass", desc := "()Ljava/lang/Class;" } : Jvm.MethodName)), (Jvm.Cond.instanceMethod ({ cls := "java/lang/RuntimeException", name := "<init>", desc := "()V" } : Jvm.MethodName)), (Jvm.Cond.code ({ cls := "java/lang/RuntimeException", name := "<init>", desc := "()V" } : Jvm.MethodName) prog_33_method_1_code (1 : Nat) (Option.none : Option Jvm.ClassFile.FieldType)), (Jvm.Cond.methodLink "java/lang/RuntimeException" (1 : Nat) ({ cls := "java/lang/Exception", name := "<init>", desc := "()V" } : Jvm.MethodName)), (Jvm.Cond.instanceMethod ({ cls := "java/lang/Exception", name := "<init>", desc := "()V" } : Jvm.MethodName)), (Jvm.Cond.code ({ cls := "java/lang/Exception", name := "<init>", desc := "()V" } : Jvm.MethodName) prog_25_method_1_code (1 : Nat) (Option.none : Option Jvm.ClassFile.FieldType)), (Jvm.Cond.methodLink "java/lang/Exception" (1 : Nat) ({ cls := "java/lang/Throwable", name := "<init>", desc := "()V" } : Jvm.MethodName)), (Jvm.Cond.sameMethod "java/lang/Throwable" "java/lang/Throwable" "fillInStackTrace" "(I)Ljava/lang/Throwable;")]
theorem sm_ta_X11_528 : ∀ w ∈ sb_ta_X11_528, w ∈ gW := by
  unfold sb_ta_X11_528
  intro w h
  simp only [List.mem_cons, List.not_mem_nil, or_false] at h
  rcases h with rfl | rfl | rfl | rfl | rfl | rfl | rfl | rfl | rfl | rfl | rfl | rfl | rfl | rfl | rfl | rfl | rfl | rfl | rfl | rfl | rfl | rfl | rfl | rfl | rfl | rfl | rfl | rfl | rfl | rfl | rfl | rfl | rfl | rfl | rfl | rfl | rfl | rfl | rfl | rfl | rfl | rfl | rfl | rfl | rfl | rfl | rfl | rfl | rfl | rfl | rfl | rfl | rfl | rfl | rfl | rfl | rfl | rfl | rfl | rfl | rfl | rfl | rfl | rfl | rfl | rfl | rfl
  · exact gt_1 20 rfl rfl
  · exact gt_1 21 rfl rfl
  · exact gt_1 22 rfl rfl
  · exact gt_1 26 rfl rfl
  · exact gt_1 49 rfl rfl
  · exact gt_1 50 rfl rfl
  · exact gt_5 37 rfl rfl
  · exact gt_5 39 rfl rfl
  · exact gt_5 41 rfl rfl
  · exact gt_5 43 rfl rfl
  · exact gt_5 45 rfl rfl
  · exact gt_5 46 rfl rfl
  · exact gt_5 47 rfl rfl
  · exact gt_5 48 rfl rfl
  · exact gt_5 49 rfl rfl
  · exact gt_5 50 rfl rfl
  · exact gt_5 51 rfl rfl
  · exact gt_5 53 rfl rfl
  · exact gt_5 55 rfl rfl
  · exact gt_5 56 rfl rfl
  · exact gt_5 57 rfl rfl
  · exact gt_5 61 rfl rfl
  · exact gt_5 64 rfl rfl
  · exact gt_5 65 rfl rfl
  · exact gt_5 67 rfl rfl
  · exact gt_5 68 rfl rfl
  · exact gt_5 69 rfl rfl
  · exact gt_5 75 rfl rfl
  · exact gt_5 76 rfl rfl
  · exact gt_5 77 rfl rfl
  · exact gt_5 78 rfl rfl
  · exact gt_5 79 rfl rfl
  · exact gt_5 80 rfl rfl
  · exact gt_5 81 rfl rfl
  · exact gt_5 82 rfl rfl
  · exact gt_5 84 rfl rfl
  · exact gt_5 85 rfl rfl
  · exact gt_5 86 rfl rfl
  · exact gt_5 87 rfl rfl
  · exact gt_5 88 rfl rfl
  · exact gt_5 89 rfl rfl
  · exact gt_5 90 rfl rfl
  · exact gt_5 91 rfl rfl
  · exact gt_5 93 rfl rfl
  · exact gt_5 94 rfl rfl
  · exact gt_5 122 rfl rfl
  · exact gt_5 123 rfl rfl
  · exact gt_5 124 rfl rfl
  · exact gt_5 151 rfl rfl
  · exact gt_5 153 rfl rfl
  · exact gt_5 154 rfl rfl
  · exact gt_5 155 rfl rfl
  · exact gt_5 156 rfl rfl
  · exact gt_5 157 rfl rfl
  · exact gt_5 158 rfl rfl
  · exact gt_5 160 rfl rfl
  · exact gt_5 161 rfl rfl
  · exact gt_5 162 rfl rfl
  · exact gt_11 201 rfl rfl
  · exact gt_11 226 rfl rfl
  · exact gt_12 73 rfl rfl
  · exact gt_12 74 rfl rfl
  · exact gt_12 75 rfl rfl
  · exact gt_12 76 rfl rfl
  · exact gt_12 77 rfl rfl
  · exact gt_12 78 rfl rfl
  · exact gt_14 24 rfl rfl
theorem sc_ta_X11_528 : ((vx_atS RX11 528 "java/lang/IndexOutOfBoundsException" ["java/lang/RuntimeException", "java/lang/Exception"]).all (fun w => decide (w ∈ sb_ta_X11_528) || (decide (w = Cond.castable "java/lang/IndexOutOfBoundsException" "java/lang/IndexOutOfBoundsException") || ([⟨"java/lang/RuntimeException", "<init>", "(Ljava/lang/String;)V"⟩, ⟨"java/lang/Exception", "<init>", "(Ljava/lang/String;)V"⟩, ⟨"java/lang/Throwable", "<init>", "(Ljava/lang/String;)V"⟩, ⟨"java/lang/IndexOutOfBoundsException", "<init>", "(Ljava/lang/String;)V"⟩] : List MethodName).any (fun y => decide (w = Cond.declares y))))) = true := by decide +kernel
theorem so_ta_X11_528 : ((vx_atS RX11 528 "java/lang/IndexOutOfBoundsException" ["java/lang/RuntimeException", "java/lang/Exception"]).all vx_ot) = true := by decide +kernel
theorem n_c3 : ("java/lang/IndexOutOfBoundsException", "java/lang/IndexOutOfBoundsException") ∈ gCa := List.mem_of_getElem? (i := 3) rfl
theorem ta_X11_528 : (∀ w ∈ vx_atS RX11 528 "java/lang/IndexOutOfBoundsException" ["java/lang/RuntimeException", "java/lang/Exception"], w ∈ gW ∨ (∃ q ∈ gCa, w = Cond.castable q.1 q.2) ∨ ∃ y ∈ gDe, w = Cond.declares y) ∧ ∀ w ∈ vx_atS RX11 528 "java/lang/IndexOutOfBoundsException" ["java/lang/RuntimeException", "java/lang/Exception"], vx_ot w = true := ⟨fun w h => by
  have h1 := List.all_eq_true.mp sc_ta_X11_528 w h
  simp only [Bool.or_eq_true, decide_eq_true_eq] at h1
  rcases h1 with h1 | h1 | h1
  · exact Or.inl (sm_ta_X11_528 w h1)
  · exact Or.inr (Or.inl ⟨_, n_c3, h1⟩)
  · obtain ⟨y, hy, h2⟩ := List.any_eq_true.mp h1
    exact Or.inr (Or.inr ⟨y, sd_de y hy, of_decide_eq_true h2⟩), List.all_eq_true.mp so_ta_X11_528⟩
theorem m_5_150 : Cond.classLink RX11 524 "java/lang/IndexOutOfBoundsException" ∈ gW := gt_5 150 rfl rfl
theorem m_1_26 : Cond.initialized "java/lang/IndexOutOfBoundsException" ∈ gW := gt_1 26 rfl rfl
theorem m_5_149 : Cond.code yX11_needPoint cX11_needPoint 3 none ∈ gW := gt_5 149 rfl rfl
theorem hd_X11_needPoint : (yX11_needPoint).cls ≠ "java/lang/invoke/MethodHandle" ∧ (yX11_needPoint).cls ≠ "java/lang/invoke/VarHandle" ∧ (parseMethodDescriptor (yX11_needPoint).desc).map (fun d => d.parameters.length) = some 2 := ⟨by decide, by decide, by decide +kernel⟩
theorem m_5_146 : Cond.methodLink RX11 124 yX11_needPoint ∈ gW := gt_5 146 rfl rfl
theorem m_5_148 : Cond.instanceMethod yX11_needPoint ∈ gW := gt_5 148 rfl rfl
theorem m_s_27 : Cond.selects RX11 yX11_needPoint yX11_needPoint ∈ gW := gt_s (q := (yX11_needPoint, 14)) 27 rfl
theorem n_s3 : (RX11, 546, "the row of words is wrong") ∈ gStr := List.mem_of_getElem? (i := 3) rfl
def sb_ta_X11_223 : List Cond := [(Jvm.Cond.initialized "java/lang/Throwable"), (Jvm.Cond.initialized "java/lang/Exception"), (Jvm.Cond.initialized "java/lang/RuntimeException"), (Jvm.Cond.initialized "java/lang/UnsupportedOperationException"), (Jvm.Cond.instanceMethod ({ cls := "java/lang/Object", name := "<init>", desc := "()V" } : Jvm.MethodName)), (Jvm.Cond.code ({ cls := "java/lang/Object", name := "<init>", desc := "()V" } : Jvm.MethodName) object_method_1_code (1 : Nat) (Option.none : Option Jvm.ClassFile.FieldType)), (Jvm.Cond.lays "java/lang/Throwable" "java/lang/Throwable" "cause" "Ljava/lang/Throwable;"), (Jvm.Cond.lays "java/lang/Throwable" "java/lang/Throwable" "stackTrace" "[Ljava/lang/StackTraceElement;"), (Jvm.Cond.lays "java/lang/Throwable" "java/lang/Throwable" "suppressedExceptions" "Ljava/util/List;"), (Jvm.Cond.lays "java/lang/Throwable" "java/lang/Throwable" "detailMessage" "Ljava/lang/String;"), (Jvm.Cond.lays "java/lang/Throwable" "java/lang/Throwable" "backtrace" "Ljava/lang/Object;"), (Jvm.Cond.fieldLink "java/lang/Throwable" (198 : Nat) "java/lang/Throwable" "backtrace" "Ljava/lang/Object;"), (Jvm.Cond.superclass "java/lang/Throwable" "java/lang/Object"), (Jvm.Cond.instanceMethod ({ cls := "java/lang/Throwable", name := "<init>", desc := "()V" } : Jvm.MethodName)), (Jvm.Cond.code ({ cls := "java/lang/Throwable", name := "<init>", desc := "()V" } : Jvm.MethodName) prog_36_method_1_code (1 : Nat) (Option.none : Option Jvm.ClassFile.FieldType)), (Jvm.Cond.methodLink "java/lang/Throwable" (1 : Nat) ({ cls := "java/lang/Object", name := "<init>", desc := "()V" } : Jvm.MethodName)), (Jvm.Cond.fieldLink "java/lang/Throwable" (13 : Nat) "java/lang/Throwable" "UNASSIGNED_STACK" "[Ljava/lang/StackTraceElement;"), (Jvm.Cond.fieldLink "java/lang/Throwable" (20 : Nat) "java/lang/Throwable" "SUPPRESSED_SENTINEL" "Ljava/util/List;"), (Jvm.Cond.methodLink "java/lang/Throwable" (27 : Nat) ({ cls := "java/lang/Throwable", name := "fillInStackTrace", desc := "()Ljava/lang/Throwable;" } : Jvm.MethodName)), (Jvm.Cond.instanceMethod ({ cls := "java/lang/Throwable", name := "fillInStackTrace", desc := "()Ljava/lang/Throwable;" } : Jvm.MethodName)), (Jvm.Cond.sameMethod "java/lang/Throwable" "java/lang/Throwable" "fillInStackTrace" "()Ljava/lang/Throwable;"), (Jvm.Cond.selects "java/lang/UnsupportedOperationException" ({ cls := "java/lang/Throwable", name := "fillInStackTrace", desc := "()Ljava/lang/Throwable;" } : Jvm.MethodName) ({ cls := "java/lang/Throwable", name := "fillInStackTrace", desc := "()Ljava/lang/Throwable;" } : Jvm.MethodName)), (Jvm.Cond.codeSync ({ cls := "java/lang/Throwable", name := "fillInStackTrace", desc := "()Ljava/lang/Throwable;" } : Jvm.MethodName) prog_36_method_18_code (1 : Nat) (Option.some (Jvm.ClassFile.FieldType.object "java/lang/Throwable"))), (Jvm.Cond.methodLink "java/lang/Throwable" (202 : Nat) ({ cls := "java/lang/Throwable", name := "fillInStackTrace", desc := "(I)Ljava/lang/Throwable;" } : Jvm.MethodName)), (Jvm.Cond.instanceMethod ({ cls := "java/lang/Throwable", name := "fillInStackTrace", desc := "(I)Ljava/lang/Throwable;" } : Jvm.MethodName)), (Jvm.Cond.instantiable "java/lang/Throwable" (6 : Nat)), (Jvm.Cond.native ({ cls := "java/lang/Throwable", name := "fillInStackTrace", desc := "(I)Ljava/lang/Throwable;" } : Jvm.MethodName)), (Jvm.Cond.instanceMethod ({ cls := "java/lang/RuntimeException", name := "<init>", desc := "(Ljava/lang/String;)V" } : Jvm.MethodName)), (Jvm.Cond.code ({ cls := "java/lang/RuntimeException", name := "<init>", desc := "(Ljava/lang/String;)V" } : Jvm.MethodName) prog_33_method_2_code (2 : Nat) (Option.none : Option Jvm.ClassFile.FieldType)), (Jvm.Cond.methodLink "java/lang/RuntimeException" (7 : Nat) ({ cls := "java/lang/Exception", name := "<init>", desc := "(Ljava/lang/String;)V" } : Jvm.MethodName)), (Jvm.Cond.instanceMethod ({ cls := "java/lang/Exception", name := "<init>", desc := "(Ljava/lang/String;)V" } : Jvm.MethodName)), (Jvm.Cond.code ({ cls := "java/lang/Exception", name := "<init>", desc := "(Ljava/lang/String;)V" } : Jvm.MethodName) prog_25_method_2_code (2 : Nat) (Option.none : Option Jvm.ClassFile.FieldType)), (Jvm.Cond.methodLink "java/lang/Exception" (7 : Nat) ({ cls := "java/lang/Throwable", name := "<init>", desc := "(Ljava/lang/String;)V" } : Jvm.MethodName)), (Jvm.Cond.instanceMethod ({ cls := "java/lang/Throwable", name := "<init>", desc := "(Ljava/lang/String;)V" } : Jvm.MethodName)), (Jvm.Cond.code ({ cls := "java/lang/Throwable", name := "<init>", desc := "(Ljava/lang/String;)V" } : Jvm.MethodName) prog_36_method_2_code (2 : Nat) (Option.none : Option Jvm.ClassFile.FieldType)), (Jvm.Cond.fieldLink "java/lang/Throwable" (31 : Nat) "java/lang/Throwable" "detailMessage" "Ljava/lang/String;"), (Jvm.Cond.fieldLink "java/lang/Throwable" (7 : Nat) "java/lang/Throwable" "cause" "Ljava/lang/Throwable;"), (Jvm.Cond.fieldLink "java/lang/Throwable" (17 : Nat) "java/lang/Throwable" "stackTrace" "[Ljava/lang/StackTraceElement;"), (Jvm.Cond.fieldLink "java/lang/Throwable" (24 : Nat) "java/lang/Throwable" "suppressedExceptions" "Ljava/util/List;"), (Jvm.Cond.soleField "java/lang/Throwable" "backtrace"), (Jvm.Cond.soleField "java/lang/Throwable" "detailMessage"), (Jvm.Cond.soleField "java/lang/Throwable" "cause"), (Jvm.Cond.soleField "java/lang/Throwable" "stackTrace"), (Jvm.Cond.soleField "java/lang/Throwable" "depth"), (Jvm.Cond.soleField "java/lang/Throwable" "suppressedExceptions"), (Jvm.Cond.instantiable "java/lang/UnsupportedOperationException" (6 : Nat)), (Jvm.Cond.selects "java/lang/UnsupportedOperationException" ({ cls := "java/lang/Throwable", name := "fillInStackTrace", desc := "(I)Ljava/lang/Throwable;" } : Jvm.MethodName) ({ cls := "java/lang/Throwable", name := "fillInStackTrace", desc := "(I)Ljava/lang/Throwable;" } : Jvm.MethodName)), (Jvm.Cond.lays "java/lang/UnsupportedOperationException" "java/lang/Throwable" "cause" "Ljava/lang/Throwable;"), (Jvm.Cond.lays "java/lang/UnsupportedOperationException" "java/lang/Throwable" "stackTrace" "[Ljava/lang/StackTraceElement;"), (Jvm.Cond.lays "java/lang/UnsupportedOperationException" "java/lang/Throwable" "suppressedExceptions" "Ljava/util/List;"), (Jvm.Cond.lays "java/lang/UnsupportedOperationException" "java/lang/Throwable" "detailMessage" "Ljava/lang/String;"), (Jvm.Cond.lays "java/lang/UnsupportedOperationException" "java/lang/Throwable" "backtrace" "Ljava/lang/Object;"), (Jvm.Cond.methodLink "Blazonry" (223 : Nat) ({ cls := "java/lang/UnsupportedOperationException", name := "<init>", desc := "(Ljava/lang/String;)V" } : Jvm.MethodName)), (Jvm.Cond.instanceMethod ({ cls := "java/lang/UnsupportedOperationException", name := "<init>", desc := "(Ljava/lang/String;)V" } : Jvm.MethodName)), (Jvm.Cond.code ({ cls := "java/lang/UnsupportedOperationException", name := "<init>", desc := "(Ljava/lang/String;)V" } : Jvm.MethodName) prog_37_method_2_code (2 : Nat) (Option.none : Option Jvm.ClassFile.FieldType)), (Jvm.Cond.methodLink "java/lang/UnsupportedOperationException" (7 : Nat) ({ cls := "java/lang/RuntimeException", name := "<init>", desc := "(Ljava/lang/String;)V" } : Jvm.MethodName)), (Jvm.Cond.lays "java/lang/UnsupportedOperationException" "java/lang/Throwable" "depth" "I"), (Jvm.Cond.superclass "java/lang/UnsupportedOperationException" "java/lang/RuntimeException"), (Jvm.Cond.instanceMethod ({ cls := "java/lang/Object", name := "getClass", desc := "()Ljava/lang/Class;" } : Jvm.MethodName)), (Jvm.Cond.selects "java/lang/UnsupportedOperationException" ({ cls := "java/lang/Object", name := "getClass", desc := "()Ljava/lang/Class;" } : Jvm.MethodName) ({ cls := "java/lang/Object", name := "getClass", desc := "()Ljava/lang/Class;" } : Jvm.MethodName)), (Jvm.Cond.instanceMethod ({ cls := "java/lang/RuntimeException", name := "<init>", desc := "()V" } : Jvm.MethodName)), (Jvm.Cond.code ({ cls := "java/lang/RuntimeException", name := "<init>", desc := "()V" } : Jvm.MethodName) prog_33_method_1_code (1 : Nat) (Option.none : Option Jvm.ClassFile.FieldType)), (Jvm.Cond.methodLink "java/lang/RuntimeException" (1 : Nat) ({ cls := "java/lang/Exception", name := "<init>", desc := "()V" } : Jvm.MethodName)), (Jvm.Cond.instanceMethod ({ cls := "java/lang/Exception", name := "<init>", desc := "()V" } : Jvm.MethodName)), (Jvm.Cond.code ({ cls := "java/lang/Exception", name := "<init>", desc := "()V" } : Jvm.MethodName) prog_25_method_1_code (1 : Nat) (Option.none : Option Jvm.ClassFile.FieldType)), (Jvm.Cond.methodLink "java/lang/Exception" (1 : Nat) ({ cls := "java/lang/Throwable", name := "<init>", desc := "()V" } : Jvm.MethodName)), (Jvm.Cond.sameMethod "java/lang/Throwable" "java/lang/Throwable" "fillInStackTrace" "(I)Ljava/lang/Throwable;")]
theorem sm_ta_X11_223 : ∀ w ∈ sb_ta_X11_223, w ∈ gW := by
  unfold sb_ta_X11_223
  intro w h
  simp only [List.mem_cons, List.not_mem_nil, or_false] at h
  rcases h with rfl | rfl | rfl | rfl | rfl | rfl | rfl | rfl | rfl | rfl | rfl | rfl | rfl | rfl | rfl | rfl | rfl | rfl | rfl | rfl | rfl | rfl | rfl | rfl | rfl | rfl | rfl | rfl | rfl | rfl | rfl | rfl | rfl | rfl | rfl | rfl | rfl | rfl | rfl | rfl | rfl | rfl | rfl | rfl | rfl | rfl | rfl | rfl | rfl | rfl | rfl | rfl | rfl | rfl | rfl | rfl | rfl | rfl | rfl | rfl | rfl | rfl | rfl | rfl | rfl | rfl | rfl
  · exact gt_1 20 rfl rfl
  · exact gt_1 21 rfl rfl
  · exact gt_1 22 rfl rfl
  · exact gt_1 29 rfl rfl
  · exact gt_1 49 rfl rfl
  · exact gt_1 50 rfl rfl
  · exact gt_5 37 rfl rfl
  · exact gt_5 39 rfl rfl
  · exact gt_5 41 rfl rfl
  · exact gt_5 43 rfl rfl
  · exact gt_5 45 rfl rfl
  · exact gt_5 46 rfl rfl
  · exact gt_5 47 rfl rfl
  · exact gt_5 48 rfl rfl
  · exact gt_5 49 rfl rfl
  · exact gt_5 50 rfl rfl
  · exact gt_5 51 rfl rfl
  · exact gt_5 53 rfl rfl
  · exact gt_5 55 rfl rfl
  · exact gt_5 56 rfl rfl
  · exact gt_5 57 rfl rfl
  · exact gt_5 62 rfl rfl
  · exact gt_5 64 rfl rfl
  · exact gt_5 65 rfl rfl
  · exact gt_5 67 rfl rfl
  · exact gt_5 68 rfl rfl
  · exact gt_5 69 rfl rfl
  · exact gt_5 75 rfl rfl
  · exact gt_5 76 rfl rfl
  · exact gt_5 77 rfl rfl
  · exact gt_5 78 rfl rfl
  · exact gt_5 79 rfl rfl
  · exact gt_5 80 rfl rfl
  · exact gt_5 81 rfl rfl
  · exact gt_5 82 rfl rfl
  · exact gt_5 84 rfl rfl
  · exact gt_5 85 rfl rfl
  · exact gt_5 86 rfl rfl
  · exact gt_5 87 rfl rfl
  · exact gt_5 88 rfl rfl
  · exact gt_5 89 rfl rfl
  · exact gt_5 90 rfl rfl
  · exact gt_5 91 rfl rfl
  · exact gt_5 93 rfl rfl
  · exact gt_5 94 rfl rfl
  · exact gt_5 168 rfl rfl
  · exact gt_5 170 rfl rfl
  · exact gt_5 171 rfl rfl
  · exact gt_5 172 rfl rfl
  · exact gt_5 173 rfl rfl
  · exact gt_5 174 rfl rfl
  · exact gt_5 175 rfl rfl
  · exact gt_5 177 rfl rfl
  · exact gt_5 178 rfl rfl
  · exact gt_5 179 rfl rfl
  · exact gt_5 180 rfl rfl
  · exact gt_5 181 rfl rfl
  · exact gt_5 182 rfl rfl
  · exact gt_11 201 rfl rfl
  · exact gt_11 227 rfl rfl
  · exact gt_12 73 rfl rfl
  · exact gt_12 74 rfl rfl
  · exact gt_12 75 rfl rfl
  · exact gt_12 76 rfl rfl
  · exact gt_12 77 rfl rfl
  · exact gt_12 78 rfl rfl
  · exact gt_14 24 rfl rfl
theorem sc_ta_X11_223 : ((vx_atS RX11 223 "java/lang/UnsupportedOperationException" ["java/lang/RuntimeException", "java/lang/Exception"]).all (fun w => decide (w ∈ sb_ta_X11_223) || (decide (w = Cond.castable "java/lang/UnsupportedOperationException" "java/lang/UnsupportedOperationException") || ([⟨"java/lang/RuntimeException", "<init>", "(Ljava/lang/String;)V"⟩, ⟨"java/lang/Exception", "<init>", "(Ljava/lang/String;)V"⟩, ⟨"java/lang/Throwable", "<init>", "(Ljava/lang/String;)V"⟩, ⟨"java/lang/IndexOutOfBoundsException", "<init>", "(Ljava/lang/String;)V"⟩] : List MethodName).any (fun y => decide (w = Cond.declares y))))) = true := by decide +kernel
theorem so_ta_X11_223 : ((vx_atS RX11 223 "java/lang/UnsupportedOperationException" ["java/lang/RuntimeException", "java/lang/Exception"]).all vx_ot) = true := by decide +kernel
theorem n_c4 : ("java/lang/UnsupportedOperationException", "java/lang/UnsupportedOperationException") ∈ gCa := List.mem_of_getElem? (i := 4) rfl
theorem ta_X11_223 : (∀ w ∈ vx_atS RX11 223 "java/lang/UnsupportedOperationException" ["java/lang/RuntimeException", "java/lang/Exception"], w ∈ gW ∨ (∃ q ∈ gCa, w = Cond.castable q.1 q.2) ∨ ∃ y ∈ gDe, w = Cond.declares y) ∧ ∀ w ∈ vx_atS RX11 223 "java/lang/UnsupportedOperationException" ["java/lang/RuntimeException", "java/lang/Exception"], vx_ot w = true := ⟨fun w h => by
  have h1 := List.all_eq_true.mp sc_ta_X11_223 w h
  simp only [Bool.or_eq_true, decide_eq_true_eq] at h1
  rcases h1 with h1 | h1 | h1
  · exact Or.inl (sm_ta_X11_223 w h1)
  · exact Or.inr (Or.inl ⟨_, n_c4, h1⟩)
  · obtain ⟨y, hy, h2⟩ := List.any_eq_true.mp h1
    exact Or.inr (Or.inr ⟨y, sd_de y hy, of_decide_eq_true h2⟩), List.all_eq_true.mp so_ta_X11_223⟩
theorem m_5_167 : Cond.classLink RX11 219 "java/lang/UnsupportedOperationException" ∈ gW := gt_5 167 rfl rfl
theorem m_1_29 : Cond.initialized "java/lang/UnsupportedOperationException" ∈ gW := gt_1 29 rfl rfl
theorem m_5_166 : Cond.code yX11_needBlazon cX11_needBlazon 1 none ∈ gW := gt_5 166 rfl rfl
theorem hd_X11_needBlazon : (yX11_needBlazon).cls ≠ "java/lang/invoke/MethodHandle" ∧ (yX11_needBlazon).cls ≠ "java/lang/invoke/VarHandle" ∧ (parseMethodDescriptor (yX11_needBlazon).desc).map (fun d => d.parameters.length) = some 0 := ⟨by decide, by decide, by decide +kernel⟩
theorem m_5_163 : Cond.methodLink RX11 128 yX11_needBlazon ∈ gW := gt_5 163 rfl rfl
theorem m_5_165 : Cond.instanceMethod yX11_needBlazon ∈ gW := gt_5 165 rfl rfl
theorem m_s_28 : Cond.selects RX11 yX11_needBlazon yX11_needBlazon ∈ gW := gt_s (q := (yX11_needBlazon, 14)) 28 rfl
theorem m_5_145 : Cond.code yX11_point cX11_point 3 (some .int) ∈ gW := gt_5 145 rfl rfl
theorem hd_X11_point : (yX11_point).cls ≠ "java/lang/invoke/MethodHandle" ∧ (yX11_point).cls ≠ "java/lang/invoke/VarHandle" ∧ (parseMethodDescriptor (yX11_point).desc).map (fun d => d.parameters.length) = some 2 := ⟨by decide, by decide, by decide +kernel⟩
theorem m_5_142 : Cond.methodLink RL 17 yX11_point ∈ gW := gt_5 142 rfl rfl
theorem m_5_143 : Cond.instanceMethod yX11_point ∈ gW := gt_5 143 rfl rfl
theorem m_5_144 : Cond.selects RX11 yX11_point yX11_point ∈ gW := gt_5 144 rfl rfl
theorem m_5_117 : Cond.classLink RL 21 "java/lang/IndexOutOfBoundsException" ∈ gW := gt_5 117 rfl rfl
theorem n_n28 : ("java/lang/UnsupportedOperationException", "java/lang/IndexOutOfBoundsException") ∈ gNo := List.mem_of_getElem? (i := 28) rfl
theorem m_5_141 : Cond.classLink RL 23 "java/lang/UnsupportedOperationException" ∈ gW := gt_5 141 rfl rfl
theorem m_5_116 : Cond.codeWith yL_point cL_point 5 (some .int) [(0, 10, 13, 21), (0, 10, 17, 23)] ∈ gW := gt_5 116 rfl rfl
theorem hd_L_point : (yL_point).cls ≠ "java/lang/invoke/MethodHandle" ∧ (yL_point).cls ≠ "java/lang/invoke/VarHandle" ∧ (parseMethodDescriptor (yL_point).desc).map (fun d => d.parameters.length) = some 4 := ⟨by decide, by decide, by decide +kernel⟩
theorem m_5_114 : Cond.methodLink RL 215 yL_point ∈ gW := gt_5 114 rfl rfl
theorem m_5_115 : Cond.static yL_point ∈ gW := gt_5 115 rfl rfl
theorem m_10_207 : Cond.code yX18_isPoint cX18_isPoint 2 (some .boolean) ∈ gW := gt_10 207 rfl rfl
theorem hd_X18_isPoint : (yX18_isPoint).cls ≠ "java/lang/invoke/MethodHandle" ∧ (yX18_isPoint).cls ≠ "java/lang/invoke/VarHandle" ∧ (parseMethodDescriptor (yX18_isPoint).desc).map (fun d => d.parameters.length) = some 2 := ⟨by decide, by decide, by decide +kernel⟩
theorem m_10_205 : Cond.methodLink RX18 229 yX18_isPoint ∈ gW := gt_10 205 rfl rfl
theorem m_10_206 : Cond.static yX18_isPoint ∈ gW := gt_10 206 rfl rfl
theorem m_10_211 : Cond.code yX18_failsRow cX18_failsRow 2 (some .boolean) ∈ gW := gt_10 211 rfl rfl
theorem hd_X18_failsRow : (yX18_failsRow).cls ≠ "java/lang/invoke/MethodHandle" ∧ (yX18_failsRow).cls ≠ "java/lang/invoke/VarHandle" ∧ (parseMethodDescriptor (yX18_failsRow).desc).map (fun d => d.parameters.length) = some 1 := ⟨by decide, by decide, by decide +kernel⟩
theorem m_10_208 : Cond.methodLink RX18 232 yX18_failsRow ∈ gW := gt_10 208 rfl rfl
theorem m_10_210 : Cond.instanceMethod yX18_failsRow ∈ gW := gt_10 210 rfl rfl
theorem m_s_69 : Cond.selects RX18 yX18_failsRow yX18_failsRow ∈ gW := gt_s (q := (yX18_failsRow, 28)) 69 rfl
theorem m_10_204 : Cond.code yX18_point cX18_point 3 (some .int) ∈ gW := gt_10 204 rfl rfl
theorem hd_X18_point : (yX18_point).cls ≠ "java/lang/invoke/MethodHandle" ∧ (yX18_point).cls ≠ "java/lang/invoke/VarHandle" ∧ (parseMethodDescriptor (yX18_point).desc).map (fun d => d.parameters.length) = some 2 := ⟨by decide, by decide, by decide +kernel⟩
theorem m_10_201 : Cond.methodLink RL 218 yX18_point ∈ gW := gt_10 201 rfl rfl
theorem m_10_202 : Cond.instanceMethod yX18_point ∈ gW := gt_10 202 rfl rfl
theorem m_10_203 : Cond.selects RX18 yX18_point yX18_point ∈ gW := gt_10 203 rfl rfl
theorem n_s4 : (RX11, 540, "no such shape") ∈ gStr := List.mem_of_getElem? (i := 4) rfl
theorem n_s5 : (RX11, 542, "no such tincture") ∈ gStr := List.mem_of_getElem? (i := 5) rfl
theorem m_5_208 : Cond.code yX11_needTincture cX11_needTincture 2 none ∈ gW := gt_5 208 rfl rfl
theorem hd_X11_needTincture : (yX11_needTincture).cls ≠ "java/lang/invoke/MethodHandle" ∧ (yX11_needTincture).cls ≠ "java/lang/invoke/VarHandle" ∧ (parseMethodDescriptor (yX11_needTincture).desc).map (fun d => d.parameters.length) = some 1 := ⟨by decide, by decide, by decide +kernel⟩
theorem m_5_205 : Cond.methodLink RX11 425 yX11_needTincture ∈ gW := gt_5 205 rfl rfl
theorem m_5_207 : Cond.instanceMethod yX11_needTincture ∈ gW := gt_5 207 rfl rfl
theorem m_s_31 : Cond.selects RX11 yX11_needTincture yX11_needTincture ∈ gW := gt_s (q := (yX11_needTincture, 14)) 31 rfl
theorem m_5_203 : Cond.code yX11_needShape cX11_needShape 3 none ∈ gW := gt_5 203 rfl rfl
theorem hd_X11_needShape : (yX11_needShape).cls ≠ "java/lang/invoke/MethodHandle" ∧ (yX11_needShape).cls ≠ "java/lang/invoke/VarHandle" ∧ (parseMethodDescriptor (yX11_needShape).desc).map (fun d => d.parameters.length) = some 2 := ⟨by decide, by decide, by decide +kernel⟩
theorem m_5_200 : Cond.methodLink RX11 138 yX11_needShape ∈ gW := gt_5 200 rfl rfl
theorem m_5_202 : Cond.instanceMethod yX11_needShape ∈ gW := gt_5 202 rfl rfl
theorem m_s_30 : Cond.selects RX11 yX11_needShape yX11_needShape ∈ gW := gt_s (q := (yX11_needShape, 14)) 30 rfl
theorem m_5_199 : Cond.code yX11_points cX11_points 3 (some .int) ∈ gW := gt_5 199 rfl rfl
theorem hd_X11_points : (yX11_points).cls ≠ "java/lang/invoke/MethodHandle" ∧ (yX11_points).cls ≠ "java/lang/invoke/VarHandle" ∧ (parseMethodDescriptor (yX11_points).desc).map (fun d => d.parameters.length) = some 2 := ⟨by decide, by decide, by decide +kernel⟩
theorem m_5_196 : Cond.methodLink RL 25 yX11_points ∈ gW := gt_5 196 rfl rfl
theorem m_5_197 : Cond.instanceMethod yX11_points ∈ gW := gt_5 197 rfl rfl
theorem m_5_198 : Cond.selects RX11 yX11_points yX11_points ∈ gW := gt_5 198 rfl rfl
theorem n_n26 : ("java/lang/UnsupportedOperationException", "java/lang/IllegalArgumentException") ∈ gNo := List.mem_of_getElem? (i := 26) rfl
theorem m_5_195 : Cond.codeWith yL_points cL_points 5 (some .int) [(0, 10, 13, 13), (0, 10, 17, 23)] ∈ gW := gt_5 195 rfl rfl
theorem hd_L_points : (yL_points).cls ≠ "java/lang/invoke/MethodHandle" ∧ (yL_points).cls ≠ "java/lang/invoke/VarHandle" ∧ (parseMethodDescriptor (yL_points).desc).map (fun d => d.parameters.length) = some 4 := ⟨by decide, by decide, by decide +kernel⟩
theorem m_5_193 : Cond.methodLink RL 219 yL_points ∈ gW := gt_5 193 rfl rfl
theorem m_5_194 : Cond.static yL_points ∈ gW := gt_5 194 rfl rfl
theorem m_11_15 : Cond.code yX18_isShape cX18_isShape 2 (some .boolean) ∈ gW := gt_11 15 rfl rfl
theorem hd_X18_isShape : (yX18_isShape).cls ≠ "java/lang/invoke/MethodHandle" ∧ (yX18_isShape).cls ≠ "java/lang/invoke/VarHandle" ∧ (parseMethodDescriptor (yX18_isShape).desc).map (fun d => d.parameters.length) = some 2 := ⟨by decide, by decide, by decide +kernel⟩
theorem m_11_13 : Cond.methodLink RX18 242 yX18_isShape ∈ gW := gt_11 13 rfl rfl
theorem m_11_14 : Cond.static yX18_isShape ∈ gW := gt_11 14 rfl rfl
theorem m_11_12 : Cond.code yX18_points cX18_points 3 (some .int) ∈ gW := gt_11 12 rfl rfl
theorem hd_X18_points : (yX18_points).cls ≠ "java/lang/invoke/MethodHandle" ∧ (yX18_points).cls ≠ "java/lang/invoke/VarHandle" ∧ (parseMethodDescriptor (yX18_points).desc).map (fun d => d.parameters.length) = some 2 := ⟨by decide, by decide, by decide +kernel⟩
theorem m_11_9 : Cond.methodLink RL 221 yX18_points ∈ gW := gt_11 9 rfl rfl
theorem m_11_10 : Cond.instanceMethod yX18_points ∈ gW := gt_11 10 rfl rfl
theorem m_11_11 : Cond.selects RX18 yX18_points yX18_points ∈ gW := gt_11 11 rfl rfl
theorem m_5_224 : Cond.code yX11_breaks cX11_breaks 1 (some .int) ∈ gW := gt_5 224 rfl rfl
theorem hd_X11_breaks : (yX11_breaks).cls ≠ "java/lang/invoke/MethodHandle" ∧ (yX11_breaks).cls ≠ "java/lang/invoke/VarHandle" ∧ (parseMethodDescriptor (yX11_breaks).desc).map (fun d => d.parameters.length) = some 0 := ⟨by decide, by decide, by decide +kernel⟩
theorem m_5_221 : Cond.methodLink RL 28 yX11_breaks ∈ gW := gt_5 221 rfl rfl
theorem m_5_222 : Cond.instanceMethod yX11_breaks ∈ gW := gt_5 222 rfl rfl
theorem m_5_223 : Cond.selects RX11 yX11_breaks yX11_breaks ∈ gW := gt_5 223 rfl rfl
theorem m_5_220 : Cond.codeWith yL_breaks cL_breaks 3 (some .int) [(0, 8, 11, 23)] ∈ gW := gt_5 220 rfl rfl
theorem hd_L_breaks : (yL_breaks).cls ≠ "java/lang/invoke/MethodHandle" ∧ (yL_breaks).cls ≠ "java/lang/invoke/VarHandle" ∧ (parseMethodDescriptor (yL_breaks).desc).map (fun d => d.parameters.length) = some 2 := ⟨by decide, by decide, by decide +kernel⟩
theorem m_5_218 : Cond.methodLink RL 222 yL_breaks ∈ gW := gt_5 218 rfl rfl
theorem m_5_219 : Cond.static yL_breaks ∈ gW := gt_5 219 rfl rfl
theorem m_11_25 : Cond.code yX18_breaks cX18_breaks 5 (some .int) ∈ gW := gt_11 25 rfl rfl
theorem hd_X18_breaks : (yX18_breaks).cls ≠ "java/lang/invoke/MethodHandle" ∧ (yX18_breaks).cls ≠ "java/lang/invoke/VarHandle" ∧ (parseMethodDescriptor (yX18_breaks).desc).map (fun d => d.parameters.length) = some 0 := ⟨by decide, by decide, by decide +kernel⟩
theorem m_11_22 : Cond.methodLink RL 225 yX18_breaks ∈ gW := gt_11 22 rfl rfl
theorem m_11_23 : Cond.instanceMethod yX18_breaks ∈ gW := gt_11 23 rfl rfl
theorem m_11_24 : Cond.selects RX18 yX18_breaks yX18_breaks ∈ gW := gt_11 24 rfl rfl
theorem m_5_239 : Cond.code yX11_drawn cX11_drawn 4 (some .int) ∈ gW := gt_5 239 rfl rfl
theorem hd_X11_drawn : (yX11_drawn).cls ≠ "java/lang/invoke/MethodHandle" ∧ (yX11_drawn).cls ≠ "java/lang/invoke/VarHandle" ∧ (parseMethodDescriptor (yX11_drawn).desc).map (fun d => d.parameters.length) = some 2 := ⟨by decide, by decide, by decide +kernel⟩
theorem m_5_236 : Cond.methodLink RL 32 yX11_drawn ∈ gW := gt_5 236 rfl rfl
theorem m_5_237 : Cond.instanceMethod yX11_drawn ∈ gW := gt_5 237 rfl rfl
theorem m_5_238 : Cond.selects RX11 yX11_drawn yX11_drawn ∈ gW := gt_5 238 rfl rfl
theorem m_5_234 : Cond.codeWith yL_drawn cL_drawn 5 (some .int) [(0, 10, 13, 23), (0, 10, 17, 36)] ∈ gW := gt_5 234 rfl rfl
theorem hd_L_drawn : (yL_drawn).cls ≠ "java/lang/invoke/MethodHandle" ∧ (yL_drawn).cls ≠ "java/lang/invoke/VarHandle" ∧ (parseMethodDescriptor (yL_drawn).desc).map (fun d => d.parameters.length) = some 4 := ⟨by decide, by decide, by decide +kernel⟩
theorem m_5_232 : Cond.methodLink RL 226 yL_drawn ∈ gW := gt_5 232 rfl rfl
theorem m_5_233 : Cond.static yL_drawn ∈ gW := gt_5 233 rfl rfl
theorem m_11_32 : Cond.code yX18_drawn cX18_drawn 4 (some .int) ∈ gW := gt_11 32 rfl rfl
theorem hd_X18_drawn : (yX18_drawn).cls ≠ "java/lang/invoke/MethodHandle" ∧ (yX18_drawn).cls ≠ "java/lang/invoke/VarHandle" ∧ (parseMethodDescriptor (yX18_drawn).desc).map (fun d => d.parameters.length) = some 2 := ⟨by decide, by decide, by decide +kernel⟩
theorem m_11_29 : Cond.methodLink RL 229 yX18_drawn ∈ gW := gt_11 29 rfl rfl
theorem m_11_30 : Cond.instanceMethod yX18_drawn ∈ gW := gt_11 30 rfl rfl
theorem m_11_31 : Cond.selects RX18 yX18_drawn yX18_drawn ∈ gW := gt_11 31 rfl rfl
theorem m_6_24 : Cond.code yX11_meant cX11_meant 2 (some .int) ∈ gW := gt_6 24 rfl rfl
theorem hd_X11_meant : (yX11_meant).cls ≠ "java/lang/invoke/MethodHandle" ∧ (yX11_meant).cls ≠ "java/lang/invoke/VarHandle" ∧ (parseMethodDescriptor (yX11_meant).desc).map (fun d => d.parameters.length) = some 1 := ⟨by decide, by decide, by decide +kernel⟩
theorem m_6_21 : Cond.methodLink RL 38 yX11_meant ∈ gW := gt_6 21 rfl rfl
theorem m_6_22 : Cond.instanceMethod yX11_meant ∈ gW := gt_6 22 rfl rfl
theorem m_6_23 : Cond.selects RX11 yX11_meant yX11_meant ∈ gW := gt_6 23 rfl rfl
theorem m_6_20 : Cond.codeWith yL_meant cL_meant 4 (some .int) [(0, 9, 12, 23), (0, 9, 15, 36)] ∈ gW := gt_6 20 rfl rfl
theorem hd_L_meant : (yL_meant).cls ≠ "java/lang/invoke/MethodHandle" ∧ (yL_meant).cls ≠ "java/lang/invoke/VarHandle" ∧ (parseMethodDescriptor (yL_meant).desc).map (fun d => d.parameters.length) = some 3 := ⟨by decide, by decide, by decide +kernel⟩
theorem m_6_18 : Cond.methodLink RL 230 yL_meant ∈ gW := gt_6 18 rfl rfl
theorem m_6_19 : Cond.static yL_meant ∈ gW := gt_6 19 rfl rfl
theorem m_11_36 : Cond.code yX18_meant cX18_meant 2 (some .int) ∈ gW := gt_11 36 rfl rfl
theorem hd_X18_meant : (yX18_meant).cls ≠ "java/lang/invoke/MethodHandle" ∧ (yX18_meant).cls ≠ "java/lang/invoke/VarHandle" ∧ (parseMethodDescriptor (yX18_meant).desc).map (fun d => d.parameters.length) = some 1 := ⟨by decide, by decide, by decide +kernel⟩
theorem m_11_33 : Cond.methodLink RL 232 yX18_meant ∈ gW := gt_11 33 rfl rfl
theorem m_11_34 : Cond.instanceMethod yX18_meant ∈ gW := gt_11 34 rfl rfl
theorem m_11_35 : Cond.selects RX18 yX18_meant yX18_meant ∈ gW := gt_11 35 rfl rfl
theorem m_6_36 : Cond.code yX11_fewest cX11_fewest 1 (some .int) ∈ gW := gt_6 36 rfl rfl
theorem hd_X11_fewest : (yX11_fewest).cls ≠ "java/lang/invoke/MethodHandle" ∧ (yX11_fewest).cls ≠ "java/lang/invoke/VarHandle" ∧ (parseMethodDescriptor (yX11_fewest).desc).map (fun d => d.parameters.length) = some 0 := ⟨by decide, by decide, by decide +kernel⟩
theorem m_6_33 : Cond.methodLink RL 41 yX11_fewest ∈ gW := gt_6 33 rfl rfl
theorem m_6_34 : Cond.instanceMethod yX11_fewest ∈ gW := gt_6 34 rfl rfl
theorem m_6_35 : Cond.selects RX11 yX11_fewest yX11_fewest ∈ gW := gt_6 35 rfl rfl
theorem m_6_32 : Cond.codeWith yL_fewest cL_fewest 3 (some .int) [(0, 8, 11, 23)] ∈ gW := gt_6 32 rfl rfl
theorem hd_L_fewest : (yL_fewest).cls ≠ "java/lang/invoke/MethodHandle" ∧ (yL_fewest).cls ≠ "java/lang/invoke/VarHandle" ∧ (parseMethodDescriptor (yL_fewest).desc).map (fun d => d.parameters.length) = some 2 := ⟨by decide, by decide, by decide +kernel⟩
theorem m_6_30 : Cond.methodLink RL 233 yL_fewest ∈ gW := gt_6 30 rfl rfl
theorem m_6_31 : Cond.static yL_fewest ∈ gW := gt_6 31 rfl rfl
theorem m_11_40 : Cond.code yX18_fewest cX18_fewest 1 (some .int) ∈ gW := gt_11 40 rfl rfl
theorem hd_X18_fewest : (yX18_fewest).cls ≠ "java/lang/invoke/MethodHandle" ∧ (yX18_fewest).cls ≠ "java/lang/invoke/VarHandle" ∧ (parseMethodDescriptor (yX18_fewest).desc).map (fun d => d.parameters.length) = some 0 := ⟨by decide, by decide, by decide +kernel⟩
theorem m_11_37 : Cond.methodLink RL 235 yX18_fewest ∈ gW := gt_11 37 rfl rfl
theorem m_11_38 : Cond.instanceMethod yX18_fewest ∈ gW := gt_11 38 rfl rfl
theorem m_11_39 : Cond.selects RX18 yX18_fewest yX18_fewest ∈ gW := gt_11 39 rfl rfl
theorem m_6_48 : Cond.code yX11_fewestAt cX11_fewestAt 2 (some .int) ∈ gW := gt_6 48 rfl rfl
theorem hd_X11_fewestAt : (yX11_fewestAt).cls ≠ "java/lang/invoke/MethodHandle" ∧ (yX11_fewestAt).cls ≠ "java/lang/invoke/VarHandle" ∧ (parseMethodDescriptor (yX11_fewestAt).desc).map (fun d => d.parameters.length) = some 1 := ⟨by decide, by decide, by decide +kernel⟩
theorem m_6_45 : Cond.methodLink RL 44 yX11_fewestAt ∈ gW := gt_6 45 rfl rfl
theorem m_6_46 : Cond.instanceMethod yX11_fewestAt ∈ gW := gt_6 46 rfl rfl
theorem m_6_47 : Cond.selects RX11 yX11_fewestAt yX11_fewestAt ∈ gW := gt_6 47 rfl rfl
theorem m_6_44 : Cond.codeWith yL_fewestAt cL_fewestAt 4 (some .int) [(0, 9, 12, 23), (0, 9, 15, 36)] ∈ gW := gt_6 44 rfl rfl
theorem hd_L_fewestAt : (yL_fewestAt).cls ≠ "java/lang/invoke/MethodHandle" ∧ (yL_fewestAt).cls ≠ "java/lang/invoke/VarHandle" ∧ (parseMethodDescriptor (yL_fewestAt).desc).map (fun d => d.parameters.length) = some 3 := ⟨by decide, by decide, by decide +kernel⟩
theorem m_6_42 : Cond.methodLink RL 236 yL_fewestAt ∈ gW := gt_6 42 rfl rfl
theorem m_6_43 : Cond.static yL_fewestAt ∈ gW := gt_6 43 rfl rfl
theorem m_11_72 : Cond.code yX18_fewestAt cX18_fewestAt 2 (some .int) ∈ gW := gt_11 72 rfl rfl
theorem hd_X18_fewestAt : (yX18_fewestAt).cls ≠ "java/lang/invoke/MethodHandle" ∧ (yX18_fewestAt).cls ≠ "java/lang/invoke/VarHandle" ∧ (parseMethodDescriptor (yX18_fewestAt).desc).map (fun d => d.parameters.length) = some 1 := ⟨by decide, by decide, by decide +kernel⟩
theorem m_11_69 : Cond.methodLink RL 238 yX18_fewestAt ∈ gW := gt_11 69 rfl rfl
theorem m_11_70 : Cond.instanceMethod yX18_fewestAt ∈ gW := gt_11 70 rfl rfl
theorem m_11_71 : Cond.selects RX18 yX18_fewestAt yX18_fewestAt ∈ gW := gt_11 71 rfl rfl
theorem n_s9 : (RX11, 538, "no such tradition") ∈ gStr := List.mem_of_getElem? (i := 9) rfl
theorem m_6_63 : Cond.code yX11_needTradition cX11_needTradition 2 none ∈ gW := gt_6 63 rfl rfl
theorem hd_X11_needTradition : (yX11_needTradition).cls ≠ "java/lang/invoke/MethodHandle" ∧ (yX11_needTradition).cls ≠ "java/lang/invoke/VarHandle" ∧ (parseMethodDescriptor (yX11_needTradition).desc).map (fun d => d.parameters.length) = some 1 := ⟨by decide, by decide, by decide +kernel⟩
theorem m_6_60 : Cond.methodLink RX11 196 yX11_needTradition ∈ gW := gt_6 60 rfl rfl
theorem m_6_62 : Cond.instanceMethod yX11_needTradition ∈ gW := gt_6 62 rfl rfl
theorem m_s_33 : Cond.selects RX11 yX11_needTradition yX11_needTradition ∈ gW := gt_s (q := (yX11_needTradition, 14)) 33 rfl
theorem m_6_59 : Cond.code yX11_losses cX11_losses 2 (some .int) ∈ gW := gt_6 59 rfl rfl
theorem hd_X11_losses : (yX11_losses).cls ≠ "java/lang/invoke/MethodHandle" ∧ (yX11_losses).cls ≠ "java/lang/invoke/VarHandle" ∧ (parseMethodDescriptor (yX11_losses).desc).map (fun d => d.parameters.length) = some 1 := ⟨by decide, by decide, by decide +kernel⟩
theorem m_6_56 : Cond.methodLink RL 47 yX11_losses ∈ gW := gt_6 56 rfl rfl
theorem m_6_57 : Cond.instanceMethod yX11_losses ∈ gW := gt_6 57 rfl rfl
theorem m_6_58 : Cond.selects RX11 yX11_losses yX11_losses ∈ gW := gt_6 58 rfl rfl
theorem m_6_55 : Cond.codeWith yL_losses cL_losses 4 (some .int) [(0, 9, 12, 13), (0, 9, 15, 23)] ∈ gW := gt_6 55 rfl rfl
theorem hd_L_losses : (yL_losses).cls ≠ "java/lang/invoke/MethodHandle" ∧ (yL_losses).cls ≠ "java/lang/invoke/VarHandle" ∧ (parseMethodDescriptor (yL_losses).desc).map (fun d => d.parameters.length) = some 3 := ⟨by decide, by decide, by decide +kernel⟩
theorem m_6_53 : Cond.methodLink RL 239 yL_losses ∈ gW := gt_6 53 rfl rfl
theorem m_6_54 : Cond.static yL_losses ∈ gW := gt_6 54 rfl rfl
theorem m_11_76 : Cond.code yX18_losses cX18_losses 2 (some .int) ∈ gW := gt_11 76 rfl rfl
theorem hd_X18_losses : (yX18_losses).cls ≠ "java/lang/invoke/MethodHandle" ∧ (yX18_losses).cls ≠ "java/lang/invoke/VarHandle" ∧ (parseMethodDescriptor (yX18_losses).desc).map (fun d => d.parameters.length) = some 1 := ⟨by decide, by decide, by decide +kernel⟩
theorem m_11_73 : Cond.methodLink RL 241 yX18_losses ∈ gW := gt_11 73 rfl rfl
theorem m_11_74 : Cond.instanceMethod yX18_losses ∈ gW := gt_11 74 rfl rfl
theorem m_11_75 : Cond.selects RX18 yX18_losses yX18_losses ∈ gW := gt_11 75 rfl rfl
theorem m_6_78 : Cond.code yX11_translated cX11_translated 4 (some .int) ∈ gW := gt_6 78 rfl rfl
theorem hd_X11_translated : (yX11_translated).cls ≠ "java/lang/invoke/MethodHandle" ∧ (yX11_translated).cls ≠ "java/lang/invoke/VarHandle" ∧ (parseMethodDescriptor (yX11_translated).desc).map (fun d => d.parameters.length) = some 2 := ⟨by decide, by decide, by decide +kernel⟩
theorem m_6_75 : Cond.methodLink RL 50 yX11_translated ∈ gW := gt_6 75 rfl rfl
theorem m_6_76 : Cond.instanceMethod yX11_translated ∈ gW := gt_6 76 rfl rfl
theorem m_6_77 : Cond.selects RX11 yX11_translated yX11_translated ∈ gW := gt_6 77 rfl rfl
theorem m_6_74 : Cond.codeWith yL_translated cL_translated 5 (some .int) [(0, 10, 13, 13), (0, 10, 17, 23), (0, 10, 21, 36)] ∈ gW := gt_6 74 rfl rfl
theorem hd_L_translated : (yL_translated).cls ≠ "java/lang/invoke/MethodHandle" ∧ (yL_translated).cls ≠ "java/lang/invoke/VarHandle" ∧ (parseMethodDescriptor (yL_translated).desc).map (fun d => d.parameters.length) = some 4 := ⟨by decide, by decide, by decide +kernel⟩
theorem m_6_72 : Cond.methodLink RL 242 yL_translated ∈ gW := gt_6 72 rfl rfl
theorem m_6_73 : Cond.static yL_translated ∈ gW := gt_6 73 rfl rfl
theorem m_11_84 : Cond.code yX18_translated cX18_translated 4 (some .int) ∈ gW := gt_11 84 rfl rfl
theorem hd_X18_translated : (yX18_translated).cls ≠ "java/lang/invoke/MethodHandle" ∧ (yX18_translated).cls ≠ "java/lang/invoke/VarHandle" ∧ (parseMethodDescriptor (yX18_translated).desc).map (fun d => d.parameters.length) = some 2 := ⟨by decide, by decide, by decide +kernel⟩
theorem m_11_81 : Cond.methodLink RL 244 yX18_translated ∈ gW := gt_11 81 rfl rfl
theorem m_11_82 : Cond.instanceMethod yX18_translated ∈ gW := gt_11 82 rfl rfl
theorem m_11_83 : Cond.selects RX18 yX18_translated yX18_translated ∈ gW := gt_11 83 rfl rfl
theorem n_s10 : (RX11, 205, "no such number of years") ∈ gStr := List.mem_of_getElem? (i := 10) rfl
theorem m_3_171 : Cond.fieldLink RX11 207 "Blazonry" "today" "I" ∈ gW := gt_3 171 rfl rfl
theorem m_6_89 : Cond.code yX11_pass cX11_pass 2 (some .int) ∈ gW := gt_6 89 rfl rfl
theorem hd_X11_pass : (yX11_pass).cls ≠ "java/lang/invoke/MethodHandle" ∧ (yX11_pass).cls ≠ "java/lang/invoke/VarHandle" ∧ (parseMethodDescriptor (yX11_pass).desc).map (fun d => d.parameters.length) = some 1 := ⟨by decide, by decide, by decide +kernel⟩
theorem m_6_86 : Cond.methodLink RL 53 yX11_pass ∈ gW := gt_6 86 rfl rfl
theorem m_6_87 : Cond.instanceMethod yX11_pass ∈ gW := gt_6 87 rfl rfl
theorem m_6_88 : Cond.selects RX11 yX11_pass yX11_pass ∈ gW := gt_6 88 rfl rfl
theorem m_6_85 : Cond.codeWith yL_pass cL_pass 4 (some .int) [(0, 9, 12, 13), (0, 9, 15, 15)] ∈ gW := gt_6 85 rfl rfl
theorem hd_L_pass : (yL_pass).cls ≠ "java/lang/invoke/MethodHandle" ∧ (yL_pass).cls ≠ "java/lang/invoke/VarHandle" ∧ (parseMethodDescriptor (yL_pass).desc).map (fun d => d.parameters.length) = some 3 := ⟨by decide, by decide, by decide +kernel⟩
theorem m_6_83 : Cond.methodLink RL 245 yL_pass ∈ gW := gt_6 83 rfl rfl
theorem m_6_84 : Cond.static yL_pass ∈ gW := gt_6 84 rfl rfl
theorem m_10_3 : Cond.fieldLink RX18 285 "BlazonryModel" "year" "I" ∈ gW := gt_10 3 rfl rfl
theorem m_11_88 : Cond.code yX18_pass cX18_pass 2 (some .int) ∈ gW := gt_11 88 rfl rfl
theorem hd_X18_pass : (yX18_pass).cls ≠ "java/lang/invoke/MethodHandle" ∧ (yX18_pass).cls ≠ "java/lang/invoke/VarHandle" ∧ (parseMethodDescriptor (yX18_pass).desc).map (fun d => d.parameters.length) = some 1 := ⟨by decide, by decide, by decide +kernel⟩
theorem m_11_85 : Cond.methodLink RL 247 yX18_pass ∈ gW := gt_11 85 rfl rfl
theorem m_11_86 : Cond.instanceMethod yX18_pass ∈ gW := gt_11 86 rfl rfl
theorem m_11_87 : Cond.selects RX18 yX18_pass yX18_pass ∈ gW := gt_11 87 rfl rfl
theorem m_2_120 : Cond.fieldLink RX11 224 "Blazonry$Kin" "count" "I" ∈ gW := gt_2 120 rfl rfl
theorem m_2_117 : Cond.fieldLink RX5 34 "Blazonry$Kin" "count" "I" ∈ gW := gt_2 117 rfl rfl
theorem m_4_238 : Cond.code yX5_has cX5_has 2 (some .boolean) ∈ gW := gt_4 238 rfl rfl
theorem hd_X5_has : (yX5_has).cls ≠ "java/lang/invoke/MethodHandle" ∧ (yX5_has).cls ≠ "java/lang/invoke/VarHandle" ∧ (parseMethodDescriptor (yX5_has).desc).map (fun d => d.parameters.length) = some 1 := ⟨by decide, by decide, by decide +kernel⟩
theorem m_4_235 : Cond.methodLink RX5 49 yX5_has ∈ gW := gt_4 235 rfl rfl
theorem m_4_236 : Cond.instanceMethod yX5_has ∈ gW := gt_4 236 rfl rfl
theorem m_4_237 : Cond.selects RX5 yX5_has yX5_has ∈ gW := gt_4 237 rfl rfl
theorem m_6_107 : Cond.code yX5_isMan cX5_isMan 2 (some .boolean) ∈ gW := gt_6 107 rfl rfl
theorem hd_X5_isMan : (yX5_isMan).cls ≠ "java/lang/invoke/MethodHandle" ∧ (yX5_isMan).cls ≠ "java/lang/invoke/VarHandle" ∧ (parseMethodDescriptor (yX5_isMan).desc).map (fun d => d.parameters.length) = some 1 := ⟨by decide, by decide, by decide +kernel⟩
theorem m_6_118 : Cond.methodLink RX5 52 yX5_isMan ∈ gW := gt_6 118 rfl rfl
theorem m_6_105 : Cond.instanceMethod yX5_isMan ∈ gW := gt_6 105 rfl rfl
theorem m_6_106 : Cond.selects RX5 yX5_isMan yX5_isMan ∈ gW := gt_6 106 rfl rfl
theorem m_6_117 : Cond.code yX5_countInLines cX5_countInLines 5 none ∈ gW := gt_6 117 rfl rfl
theorem hd_X5_countInLines : (yX5_countInLines).cls ≠ "java/lang/invoke/MethodHandle" ∧ (yX5_countInLines).cls ≠ "java/lang/invoke/VarHandle" ∧ (parseMethodDescriptor (yX5_countInLines).desc).map (fun d => d.parameters.length) = some 2 := ⟨by decide, by decide, by decide +kernel⟩
theorem m_6_114 : Cond.methodLink RX5 38 yX5_countInLines ∈ gW := gt_6 114 rfl rfl
theorem m_6_116 : Cond.instanceMethod yX5_countInLines ∈ gW := gt_6 116 rfl rfl
theorem m_s_35 : Cond.selects RX5 yX5_countInLines yX5_countInLines ∈ gW := gt_s (q := (yX5_countInLines, 9)) 35 rfl
theorem m_6_113 : Cond.code yX5_add cX5_add 5 (some .int) ∈ gW := gt_6 113 rfl rfl
theorem hd_X5_add : (yX5_add).cls ≠ "java/lang/invoke/MethodHandle" ∧ (yX5_add).cls ≠ "java/lang/invoke/VarHandle" ∧ (parseMethodDescriptor (yX5_add).desc).map (fun d => d.parameters.length) = some 3 := ⟨by decide, by decide, by decide +kernel⟩
theorem m_6_110 : Cond.methodLink RX11 227 yX5_add ∈ gW := gt_6 110 rfl rfl
theorem m_6_111 : Cond.instanceMethod yX5_add ∈ gW := gt_6 111 rfl rfl
theorem m_6_112 : Cond.selects RX5 yX5_add yX5_add ∈ gW := gt_6 112 rfl rfl
theorem m_2_166 : Cond.fieldLink RX0 50 "Blazonry$Roll" "count" "I" ∈ gW := gt_2 166 rfl rfl
theorem m_2_119 : Cond.fieldLink RX0 60 "Blazonry$Kin" "count" "I" ∈ gW := gt_2 119 rfl rfl
theorem m_6_147 : Cond.code yX5_isAlive cX5_isAlive 2 (some .boolean) ∈ gW := gt_6 147 rfl rfl
theorem hd_X5_isAlive : (yX5_isAlive).cls ≠ "java/lang/invoke/MethodHandle" ∧ (yX5_isAlive).cls ≠ "java/lang/invoke/VarHandle" ∧ (parseMethodDescriptor (yX5_isAlive).desc).map (fun d => d.parameters.length) = some 1 := ⟨by decide, by decide, by decide +kernel⟩
theorem m_6_144 : Cond.methodLink RX0 63 yX5_isAlive ∈ gW := gt_6 144 rfl rfl
theorem m_6_145 : Cond.instanceMethod yX5_isAlive ∈ gW := gt_6 145 rfl rfl
theorem m_6_146 : Cond.selects RX5 yX5_isAlive yX5_isAlive ∈ gW := gt_6 146 rfl rfl
theorem m_5_7 : Cond.methodLink RX0 73 yX5_has ∈ gW := gt_5 7 rfl rfl
theorem m_2_165 : Cond.fieldLink RX9 58 "Blazonry$Roll" "count" "I" ∈ gW := gt_2 165 rfl rfl
theorem m_6_179 : Cond.code yX9_latestOf cX9_latestOf 3 (some .int) ∈ gW := gt_6 179 rfl rfl
theorem hd_X9_latestOf : (yX9_latestOf).cls ≠ "java/lang/invoke/MethodHandle" ∧ (yX9_latestOf).cls ≠ "java/lang/invoke/VarHandle" ∧ (parseMethodDescriptor (yX9_latestOf).desc).map (fun d => d.parameters.length) = some 1 := ⟨by decide, by decide, by decide +kernel⟩
theorem m_6_176 : Cond.methodLink RX0 76 yX9_latestOf ∈ gW := gt_6 176 rfl rfl
theorem m_6_177 : Cond.instanceMethod yX9_latestOf ∈ gW := gt_6 177 rfl rfl
theorem m_6_178 : Cond.selects RX9 yX9_latestOf yX9_latestOf ∈ gW := gt_6 178 rfl rfl
theorem m_6_184 : Cond.code yX0_fallenTo cX0_fallenTo 3 (some .int) ∈ gW := gt_6 184 rfl rfl
theorem hd_X0_fallenTo : (yX0_fallenTo).cls ≠ "java/lang/invoke/MethodHandle" ∧ (yX0_fallenTo).cls ≠ "java/lang/invoke/VarHandle" ∧ (parseMethodDescriptor (yX0_fallenTo).desc).map (fun d => d.parameters.length) = some 1 := ⟨by decide, by decide, by decide +kernel⟩
theorem m_6_181 : Cond.methodLink RX0 80 yX0_fallenTo ∈ gW := gt_6 181 rfl rfl
theorem m_6_183 : Cond.instanceMethod yX0_fallenTo ∈ gW := gt_6 183 rfl rfl
theorem m_s_41 : Cond.selects RX0 yX0_fallenTo yX0_fallenTo ∈ gW := gt_s (q := (yX0_fallenTo, 11)) 41 rfl
theorem m_6_122 : Cond.code yX5_fatherOf cX5_fatherOf 2 (some .int) ∈ gW := gt_6 122 rfl rfl
theorem hd_X5_fatherOf : (yX5_fatherOf).cls ≠ "java/lang/invoke/MethodHandle" ∧ (yX5_fatherOf).cls ≠ "java/lang/invoke/VarHandle" ∧ (parseMethodDescriptor (yX5_fatherOf).desc).map (fun d => d.parameters.length) = some 1 := ⟨by decide, by decide, by decide +kernel⟩
theorem m_6_189 : Cond.methodLink RX0 83 yX5_fatherOf ∈ gW := gt_6 189 rfl rfl
theorem m_6_120 : Cond.instanceMethod yX5_fatherOf ∈ gW := gt_6 120 rfl rfl
theorem m_6_121 : Cond.selects RX5 yX5_fatherOf yX5_fatherOf ∈ gW := gt_6 121 rfl rfl
theorem m_6_175 : Cond.code yX0_bear cX0_bear 4 none ∈ gW := gt_6 175 rfl rfl
theorem hd_X0_bear : (yX0_bear).cls ≠ "java/lang/invoke/MethodHandle" ∧ (yX0_bear).cls ≠ "java/lang/invoke/VarHandle" ∧ (parseMethodDescriptor (yX0_bear).desc).map (fun d => d.parameters.length) = some 1 := ⟨by decide, by decide, by decide +kernel⟩
theorem m_6_172 : Cond.methodLink RX0 67 yX0_bear ∈ gW := gt_6 172 rfl rfl
theorem m_6_174 : Cond.instanceMethod yX0_bear ∈ gW := gt_6 174 rfl rfl
theorem m_s_40 : Cond.selects RX0 yX0_bear yX0_bear ∈ gW := gt_s (q := (yX0_bear, 11)) 40 rfl
theorem m_6_130 : Cond.code yX0_settle cX0_settle 2 none ∈ gW := gt_6 130 rfl rfl
theorem hd_X0_settle : (yX0_settle).cls ≠ "java/lang/invoke/MethodHandle" ∧ (yX0_settle).cls ≠ "java/lang/invoke/VarHandle" ∧ (parseMethodDescriptor (yX0_settle).desc).map (fun d => d.parameters.length) = some 0 := ⟨by decide, by decide, by decide +kernel⟩
theorem m_6_127 : Cond.methodLink RX11 473 yX0_settle ∈ gW := gt_6 127 rfl rfl
theorem m_6_128 : Cond.instanceMethod yX0_settle ∈ gW := gt_6 128 rfl rfl
theorem m_6_129 : Cond.selects RX0 yX0_settle yX0_settle ∈ gW := gt_6 129 rfl rfl
theorem m_2_118 : Cond.fieldLink RX6 53 "Blazonry$Kin" "count" "I" ∈ gW := gt_2 118 rfl rfl
theorem m_5_6 : Cond.code yX0_armsOf cX0_armsOf 2 (some .int) ∈ gW := gt_5 6 rfl rfl
theorem hd_X0_armsOf : (yX0_armsOf).cls ≠ "java/lang/invoke/MethodHandle" ∧ (yX0_armsOf).cls ≠ "java/lang/invoke/VarHandle" ∧ (parseMethodDescriptor (yX0_armsOf).desc).map (fun d => d.parameters.length) = some 1 := ⟨by decide, by decide, by decide +kernel⟩
theorem m_5_3 : Cond.methodLink RX6 59 yX0_armsOf ∈ gW := gt_5 3 rfl rfl
theorem m_5_4 : Cond.instanceMethod yX0_armsOf ∈ gW := gt_5 4 rfl rfl
theorem m_5_5 : Cond.selects RX0 yX0_armsOf yX0_armsOf ∈ gW := gt_5 5 rfl rfl
theorem m_6_207 : Cond.code yX6_settle cX6_settle 3 none ∈ gW := gt_6 207 rfl rfl
theorem hd_X6_settle : (yX6_settle).cls ≠ "java/lang/invoke/MethodHandle" ∧ (yX6_settle).cls ≠ "java/lang/invoke/VarHandle" ∧ (parseMethodDescriptor (yX6_settle).desc).map (fun d => d.parameters.length) = some 0 := ⟨by decide, by decide, by decide +kernel⟩
theorem m_6_204 : Cond.methodLink RX11 474 yX6_settle ∈ gW := gt_6 204 rfl rfl
theorem m_6_205 : Cond.instanceMethod yX6_settle ∈ gW := gt_6 205 rfl rfl
theorem m_6_206 : Cond.selects RX6 yX6_settle yX6_settle ∈ gW := gt_6 206 rfl rfl
theorem m_6_126 : Cond.code yX11_settle cX11_settle 1 none ∈ gW := gt_6 126 rfl rfl
theorem hd_X11_settle : (yX11_settle).cls ≠ "java/lang/invoke/MethodHandle" ∧ (yX11_settle).cls ≠ "java/lang/invoke/VarHandle" ∧ (parseMethodDescriptor (yX11_settle).desc).map (fun d => d.parameters.length) = some 0 := ⟨by decide, by decide, by decide +kernel⟩
theorem m_6_123 : Cond.methodLink RX11 230 yX11_settle ∈ gW := gt_6 123 rfl rfl
theorem m_6_125 : Cond.instanceMethod yX11_settle ∈ gW := gt_6 125 rfl rfl
theorem m_s_36 : Cond.selects RX11 yX11_settle yX11_settle ∈ gW := gt_s (q := (yX11_settle, 14)) 36 rfl
theorem n_s12 : (RX11, 529, "no such person") ∈ gStr := List.mem_of_getElem? (i := 12) rfl
theorem m_6_102 : Cond.code yX11_needPerson cX11_needPerson 2 none ∈ gW := gt_6 102 rfl rfl
theorem hd_X11_needPerson : (yX11_needPerson).cls ≠ "java/lang/invoke/MethodHandle" ∧ (yX11_needPerson).cls ≠ "java/lang/invoke/VarHandle" ∧ (parseMethodDescriptor (yX11_needPerson).desc).map (fun d => d.parameters.length) = some 1 := ⟨by decide, by decide, by decide +kernel⟩
theorem m_6_99 : Cond.methodLink RX11 212 yX11_needPerson ∈ gW := gt_6 99 rfl rfl
theorem m_6_101 : Cond.instanceMethod yX11_needPerson ∈ gW := gt_6 101 rfl rfl
theorem m_s_34 : Cond.selects RX11 yX11_needPerson yX11_needPerson ∈ gW := gt_s (q := (yX11_needPerson, 14)) 34 rfl
theorem m_6_98 : Cond.code yX11_birth cX11_birth 5 (some .int) ∈ gW := gt_6 98 rfl rfl
theorem hd_X11_birth : (yX11_birth).cls ≠ "java/lang/invoke/MethodHandle" ∧ (yX11_birth).cls ≠ "java/lang/invoke/VarHandle" ∧ (parseMethodDescriptor (yX11_birth).desc).map (fun d => d.parameters.length) = some 3 := ⟨by decide, by decide, by decide +kernel⟩
theorem m_6_95 : Cond.methodLink RL 56 yX11_birth ∈ gW := gt_6 95 rfl rfl
theorem m_6_96 : Cond.instanceMethod yX11_birth ∈ gW := gt_6 96 rfl rfl
theorem m_6_97 : Cond.selects RX11 yX11_birth yX11_birth ∈ gW := gt_6 97 rfl rfl
theorem m_6_94 : Cond.codeWith yL_birth cL_birth 6 (some .int) [(0, 12, 15, 21), (0, 12, 19, 23), (0, 12, 23, 15)] ∈ gW := gt_6 94 rfl rfl
theorem hd_L_birth : (yL_birth).cls ≠ "java/lang/invoke/MethodHandle" ∧ (yL_birth).cls ≠ "java/lang/invoke/VarHandle" ∧ (parseMethodDescriptor (yL_birth).desc).map (fun d => d.parameters.length) = some 5 := ⟨by decide, by decide, by decide +kernel⟩
theorem m_6_92 : Cond.methodLink RL 248 yL_birth ∈ gW := gt_6 92 rfl rfl
theorem m_6_93 : Cond.static yL_birth ∈ gW := gt_6 93 rfl rfl
theorem m_9_192 : Cond.fieldLink RJx4a65c 48 "java/util/ArrayList" "size" "I" ∈ gW := gt_9 192 rfl rfl
theorem m_11_100 : Cond.code yJx4a65c_size_8abf5 cJx4a65c_size_8abf5 1 (some .int) ∈ gW := gt_11 100 rfl rfl
theorem hd_Jx4a65c_size_8abf5 : (yJx4a65c_size_8abf5).cls ≠ "java/lang/invoke/MethodHandle" ∧ (yJx4a65c_size_8abf5).cls ≠ "java/lang/invoke/VarHandle" ∧ (parseMethodDescriptor (yJx4a65c_size_8abf5).desc).map (fun d => d.parameters.length) = some 0 := ⟨by decide, by decide, by decide +kernel⟩
theorem m_11_97 : Cond.methodLink RX18 288 yJx4a65c_size_8abf5 ∈ gW := gt_11 97 rfl rfl
theorem m_11_98 : Cond.instanceMethod yJx4a65c_size_8abf5 ∈ gW := gt_11 98 rfl rfl
theorem m_11_99 : Cond.selects RJx4a65c yJx4a65c_size_8abf5 yJx4a65c_size_8abf5 ∈ gW := gt_11 99 rfl rfl
theorem m_11_142 : Cond.laysFinal RX17 "BlazonryModel$Person" "number" "I" ∈ gW := gt_11 142 rfl rfl
theorem m_11_144 : Cond.laysFinal RX17 "BlazonryModel$Person" "father" "I" ∈ gW := gt_11 144 rfl rfl
theorem m_11_146 : Cond.laysFinal RX17 "BlazonryModel$Person" "mother" "I" ∈ gW := gt_11 146 rfl rfl
theorem m_11_148 : Cond.laysFinal RX17 "BlazonryModel$Person" "isMan" "Z" ∈ gW := gt_11 148 rfl rfl
theorem m_11_150 : Cond.lays RX17 "BlazonryModel$Person" "lives" "Z" ∈ gW := gt_11 150 rfl rfl
theorem m_11_152 : Cond.lays RX17 "BlazonryModel$Person" "died" "I" ∈ gW := gt_11 152 rfl rfl
theorem m_11_154 : Cond.lays RX17 "BlazonryModel$Person" "wasHeiress" "Z" ∈ gW := gt_11 154 rfl rfl
theorem m_11_156 : Cond.lays RX17 "BlazonryModel$Person" "wasHeir" "Z" ∈ gW := gt_11 156 rfl rfl
theorem m_11_158 : Cond.lays RX17 "BlazonryModel$Person" "bore" "LBlazonryModel$Bearing;" ∈ gW := gt_11 158 rfl rfl
theorem m_11_160 : Cond.lays RX17 "BlazonryModel$Person" "spouse" "I" ∈ gW := gt_11 160 rfl rfl
theorem m_11_162 : Cond.lays RX17 "BlazonryModel$Person" "rank" "I" ∈ gW := gt_11 162 rfl rfl
theorem m_11_164 : Cond.lays RX17 "BlazonryModel$Person" "crest" "I" ∈ gW := gt_11 164 rfl rfl
theorem m_11_166 : Cond.lays RX17 "BlazonryModel$Person" "right" "I" ∈ gW := gt_11 166 rfl rfl
theorem m_11_168 : Cond.lays RX17 "BlazonryModel$Person" "left" "I" ∈ gW := gt_11 168 rfl rfl
theorem m_11_170 : Cond.lays RX17 "BlazonryModel$Person" "isAbated" "Z" ∈ gW := gt_11 170 rfl rfl
theorem in_X17 : ∀ w ∈ u_ws RX17 TX17 15, w ∈ gW := fun w h => by
  obtain ⟨k, hk, rfl⟩ := List.mem_map.mp h
  have hk := List.mem_range.mp hk
  rcases (show k = 0 ∨ k = 1 ∨ k = 2 ∨ k = 3 ∨ k = 4 ∨ k = 5 ∨ k = 6 ∨ k = 7 ∨ k = 8 ∨ k = 9 ∨ k = 10 ∨ k = 11 ∨ k = 12 ∨ k = 13 ∨ k = 14 by omega) with rfl | rfl | rfl | rfl | rfl | rfl | rfl | rfl | rfl | rfl | rfl | rfl | rfl | rfl | rfl
  · exact m_11_142
  · exact m_11_144
  · exact m_11_146
  · exact m_11_148
  · exact m_11_150
  · exact m_11_152
  · exact m_11_154
  · exact m_11_156
  · exact m_11_158
  · exact m_11_160
  · exact m_11_162
  · exact m_11_164
  · exact m_11_166
  · exact m_11_168
  · exact m_11_170
theorem dv_X17 : ∀ j, j < 15 → defaultValue (tyX17 j) = vp_V [.int 0, .int 0, .int 0, .int 0, .int 0, .int 0, .int 0, .int 0, .null, .int 0, .int 0, .int 0, .int 0, .int 0, .int 0] j := fun j hj => by rcases (show j = 0 ∨ j = 1 ∨ j = 2 ∨ j = 3 ∨ j = 4 ∨ j = 5 ∨ j = 6 ∨ j = 7 ∨ j = 8 ∨ j = 9 ∨ j = 10 ∨ j = 11 ∨ j = 12 ∨ j = 13 ∨ j = 14 by omega) with rfl | rfl | rfl | rfl | rfl | rfl | rfl | rfl | rfl | rfl | rfl | rfl | rfl | rfl | rfl <;> rfl
theorem m_11_115 : Cond.classLink RX18 298 RX17 ∈ gW := gt_11 115 rfl rfl
theorem m_11_116 : Cond.instantiable RX17 15 ∈ gW := gt_11 116 rfl rfl
theorem m_1_36 : Cond.initialized RX17 ∈ gW := gt_1 36 rfl rfl
theorem m_11_120 : Cond.methodLink RX17 1 objectInit ∈ gW := gt_11 120 rfl rfl
theorem m_11_129 : Cond.fieldLink RX17 7 "BlazonryModel$Person" "lives" "Z" ∈ gW := gt_11 129 rfl rfl
theorem m_11_135 : Cond.fieldLink RX17 13 "BlazonryModel$Person" "spouse" "I" ∈ gW := gt_11 135 rfl rfl
theorem m_11_121 : Cond.fieldLink RX17 17 "BlazonryModel$Person" "number" "I" ∈ gW := gt_11 121 rfl rfl
theorem m_11_123 : Cond.fieldLink RX17 20 "BlazonryModel$Person" "father" "I" ∈ gW := gt_11 123 rfl rfl
theorem m_11_125 : Cond.fieldLink RX17 23 "BlazonryModel$Person" "mother" "I" ∈ gW := gt_11 125 rfl rfl
theorem m_11_127 : Cond.fieldLink RX17 26 "BlazonryModel$Person" "isMan" "Z" ∈ gW := gt_11 127 rfl rfl
theorem m_11_119 : Cond.code yX17_init cX17_init 5 none ∈ gW := gt_11 119 rfl rfl
theorem hd_X17_init : (yX17_init).cls ≠ "java/lang/invoke/MethodHandle" ∧ (yX17_init).cls ≠ "java/lang/invoke/VarHandle" ∧ (parseMethodDescriptor (yX17_init).desc).map (fun d => d.parameters.length) = some 4 := ⟨by decide, by decide, by decide +kernel⟩
theorem m_11_117 : Cond.methodLink RX18 303 yX17_init ∈ gW := gt_11 117 rfl rfl
theorem m_11_118 : Cond.instanceMethod yX17_init ∈ gW := gt_11 118 rfl rfl
theorem m_9_195 : Cond.sameField "java/util/ArrayList" "java/util/AbstractList" "modCount" "I" ∈ gW := gt_9 195 rfl rfl
theorem m_9_196 : Cond.fieldLink RJx4a65c 63 "java/util/ArrayList" "modCount" "I" ∈ gW := gt_9 196 rfl rfl
theorem m_3_157 : Cond.code yJ9_max_7cf53 cJ9_max_7cf53 2 (some .int) ∈ gW := gt_3 157 rfl rfl
theorem hd_J9_max_7cf53 : (yJ9_max_7cf53).cls ≠ "java/lang/invoke/MethodHandle" ∧ (yJ9_max_7cf53).cls ≠ "java/lang/invoke/VarHandle" ∧ (parseMethodDescriptor (yJ9_max_7cf53).desc).map (fun d => d.parameters.length) = some 2 := ⟨by decide, by decide, by decide +kernel⟩
theorem m_12_0 : Cond.methodLink RJx4a65c 79 yJ9_max_7cf53 ∈ gW := gt_12 0 rfl rfl
theorem m_3_156 : Cond.static yJ9_max_7cf53 ∈ gW := gt_3 156 rfl rfl
theorem m_1_5 : Cond.initialized RJ9 ∈ gW := gt_1 5 rfl rfl
theorem m_12_1 : Cond.classLink RJx4a65c 7 "java/lang/Object" ∈ gW := gt_12 1 rfl rfl
theorem m_11_188 : Cond.code yJx4a65c_grow_92f84 cJx4a65c_grow_92f84 4 (some (.array (.object "java/lang/Object"))) ∈ gW := gt_11 188 rfl rfl
theorem hd_Jx4a65c_grow_92f84 : (yJx4a65c_grow_92f84).cls ≠ "java/lang/invoke/MethodHandle" ∧ (yJx4a65c_grow_92f84).cls ≠ "java/lang/invoke/VarHandle" ∧ (parseMethodDescriptor (yJx4a65c_grow_92f84).desc).map (fun d => d.parameters.length) = some 1 := ⟨by decide, by decide, by decide +kernel⟩
theorem m_11_185 : Cond.methodLink RJx4a65c 69 yJx4a65c_grow_92f84 ∈ gW := gt_11 185 rfl rfl
theorem m_11_187 : Cond.instanceMethod yJx4a65c_grow_92f84 ∈ gW := gt_11 187 rfl rfl
theorem m_s_83 : Cond.selects RJx4a65c yJx4a65c_grow_92f84 yJx4a65c_grow_92f84 ∈ gW := gt_s (q := (yJx4a65c_grow_92f84, 3)) 83 rfl
theorem m_11_184 : Cond.code yJx4a65c_grow_d5877 cJx4a65c_grow_d5877 1 (some (.array (.object "java/lang/Object"))) ∈ gW := gt_11 184 rfl rfl
theorem hd_Jx4a65c_grow_d5877 : (yJx4a65c_grow_d5877).cls ≠ "java/lang/invoke/MethodHandle" ∧ (yJx4a65c_grow_d5877).cls ≠ "java/lang/invoke/VarHandle" ∧ (parseMethodDescriptor (yJx4a65c_grow_d5877).desc).map (fun d => d.parameters.length) = some 0 := ⟨by decide, by decide, by decide +kernel⟩
theorem m_11_181 : Cond.methodLink RJx4a65c 129 yJx4a65c_grow_d5877 ∈ gW := gt_11 181 rfl rfl
theorem m_11_183 : Cond.instanceMethod yJx4a65c_grow_d5877 ∈ gW := gt_11 183 rfl rfl
theorem m_s_82 : Cond.selects RJx4a65c yJx4a65c_grow_d5877 yJx4a65c_grow_d5877 ∈ gW := gt_s (q := (yJx4a65c_grow_d5877, 3)) 82 rfl
theorem n_c31 : ("BlazonryModel$Person", "java/lang/Object") ∈ gCa := List.mem_of_getElem? (i := 31) rfl
theorem m_11_180 : Cond.code yJx4a65c_add_72be8 cJx4a65c_add_72be8 4 none ∈ gW := gt_11 180 rfl rfl
theorem hd_Jx4a65c_add_72be8 : (yJx4a65c_add_72be8).cls ≠ "java/lang/invoke/MethodHandle" ∧ (yJx4a65c_add_72be8).cls ≠ "java/lang/invoke/VarHandle" ∧ (parseMethodDescriptor (yJx4a65c_add_72be8).desc).map (fun d => d.parameters.length) = some 3 := ⟨by decide, by decide, by decide +kernel⟩
theorem m_11_177 : Cond.methodLink RJx4a65c 131 yJx4a65c_add_72be8 ∈ gW := gt_11 177 rfl rfl
theorem m_11_179 : Cond.instanceMethod yJx4a65c_add_72be8 ∈ gW := gt_11 179 rfl rfl
theorem m_s_81 : Cond.selects RJx4a65c yJx4a65c_add_72be8 yJx4a65c_add_72be8 ∈ gW := gt_s (q := (yJx4a65c_add_72be8, 3)) 81 rfl
theorem m_11_176 : Cond.code yJx4a65c_add_9ea2d cJx4a65c_add_9ea2d 2 (some .boolean) ∈ gW := gt_11 176 rfl rfl
theorem hd_Jx4a65c_add_9ea2d : (yJx4a65c_add_9ea2d).cls ≠ "java/lang/invoke/MethodHandle" ∧ (yJx4a65c_add_9ea2d).cls ≠ "java/lang/invoke/VarHandle" ∧ (parseMethodDescriptor (yJx4a65c_add_9ea2d).desc).map (fun d => d.parameters.length) = some 1 := ⟨by decide, by decide, by decide +kernel⟩
theorem m_11_173 : Cond.methodLink RX18 306 yJx4a65c_add_9ea2d ∈ gW := gt_11 173 rfl rfl
theorem m_11_174 : Cond.instanceMethod yJx4a65c_add_9ea2d ∈ gW := gt_11 174 rfl rfl
theorem m_11_175 : Cond.selects RJx4a65c yJx4a65c_add_9ea2d yJx4a65c_add_9ea2d ∈ gW := gt_11 175 rfl rfl
theorem m_11_96 : Cond.code yX18_isPerson cX18_isPerson 2 (some .boolean) ∈ gW := gt_11 96 rfl rfl
theorem hd_X18_isPerson : (yX18_isPerson).cls ≠ "java/lang/invoke/MethodHandle" ∧ (yX18_isPerson).cls ≠ "java/lang/invoke/VarHandle" ∧ (parseMethodDescriptor (yX18_isPerson).desc).map (fun d => d.parameters.length) = some 1 := ⟨by decide, by decide, by decide +kernel⟩
theorem m_11_93 : Cond.methodLink RX18 291 yX18_isPerson ∈ gW := gt_11 93 rfl rfl
theorem m_11_95 : Cond.instanceMethod yX18_isPerson ∈ gW := gt_11 95 rfl rfl
theorem m_s_80 : Cond.selects RX18 yX18_isPerson yX18_isPerson ∈ gW := gt_s (q := (yX18_isPerson, 28)) 80 rfl
theorem m_11_92 : Cond.code yX18_birth cX18_birth 7 (some .int) ∈ gW := gt_11 92 rfl rfl
theorem hd_X18_birth : (yX18_birth).cls ≠ "java/lang/invoke/MethodHandle" ∧ (yX18_birth).cls ≠ "java/lang/invoke/VarHandle" ∧ (parseMethodDescriptor (yX18_birth).desc).map (fun d => d.parameters.length) = some 3 := ⟨by decide, by decide, by decide +kernel⟩
theorem m_11_89 : Cond.methodLink RL 251 yX18_birth ∈ gW := gt_11 89 rfl rfl
theorem m_11_90 : Cond.instanceMethod yX18_birth ∈ gW := gt_11 90 rfl rfl
theorem m_11_91 : Cond.selects RX18 yX18_birth yX18_birth ∈ gW := gt_11 91 rfl rfl
theorem m_6_119 : Cond.methodLink RX5 55 yX5_fatherOf ∈ gW := gt_6 119 rfl rfl
theorem m_6_232 : Cond.code yX11_death cX11_death 2 (some .int) ∈ gW := gt_6 232 rfl rfl
theorem hd_X11_death : (yX11_death).cls ≠ "java/lang/invoke/MethodHandle" ∧ (yX11_death).cls ≠ "java/lang/invoke/VarHandle" ∧ (parseMethodDescriptor (yX11_death).desc).map (fun d => d.parameters.length) = some 1 := ⟨by decide, by decide, by decide +kernel⟩
theorem m_6_229 : Cond.methodLink RL 60 yX11_death ∈ gW := gt_6 229 rfl rfl
theorem m_6_230 : Cond.instanceMethod yX11_death ∈ gW := gt_6 230 rfl rfl
theorem m_6_231 : Cond.selects RX11 yX11_death yX11_death ∈ gW := gt_6 231 rfl rfl
theorem m_6_228 : Cond.codeWith yL_death cL_death 4 (some .int) [(0, 9, 12, 21), (0, 9, 15, 23)] ∈ gW := gt_6 228 rfl rfl
theorem hd_L_death : (yL_death).cls ≠ "java/lang/invoke/MethodHandle" ∧ (yL_death).cls ≠ "java/lang/invoke/VarHandle" ∧ (parseMethodDescriptor (yL_death).desc).map (fun d => d.parameters.length) = some 3 := ⟨by decide, by decide, by decide +kernel⟩
theorem m_6_226 : Cond.methodLink RL 252 yL_death ∈ gW := gt_6 226 rfl rfl
theorem m_6_227 : Cond.static yL_death ∈ gW := gt_6 227 rfl rfl
theorem m_12_9 : Cond.code yX18_failsPerson cX18_failsPerson 2 (some .boolean) ∈ gW := gt_12 9 rfl rfl
theorem hd_X18_failsPerson : (yX18_failsPerson).cls ≠ "java/lang/invoke/MethodHandle" ∧ (yX18_failsPerson).cls ≠ "java/lang/invoke/VarHandle" ∧ (parseMethodDescriptor (yX18_failsPerson).desc).map (fun d => d.parameters.length) = some 1 := ⟨by decide, by decide, by decide +kernel⟩
theorem m_12_6 : Cond.methodLink RX18 337 yX18_failsPerson ∈ gW := gt_12 6 rfl rfl
theorem m_12_8 : Cond.instanceMethod yX18_failsPerson ∈ gW := gt_12 8 rfl rfl
theorem m_s_84 : Cond.selects RX18 yX18_failsPerson yX18_failsPerson ∈ gW := gt_s (q := (yX18_failsPerson, 28)) 84 rfl
theorem m_12_98 : Cond.code yX18_death cX18_death 5 (some .int) ∈ gW := gt_12 98 rfl rfl
theorem hd_X18_death : (yX18_death).cls ≠ "java/lang/invoke/MethodHandle" ∧ (yX18_death).cls ≠ "java/lang/invoke/VarHandle" ∧ (parseMethodDescriptor (yX18_death).desc).map (fun d => d.parameters.length) = some 1 := ⟨by decide, by decide, by decide +kernel⟩
theorem m_12_95 : Cond.methodLink RL 254 yX18_death ∈ gW := gt_12 95 rfl rfl
theorem m_12_96 : Cond.instanceMethod yX18_death ∈ gW := gt_12 96 rfl rfl
theorem m_12_97 : Cond.selects RX18 yX18_death yX18_death ∈ gW := gt_12 97 rfl rfl
theorem m_7_22 : Cond.code yX11_marry cX11_marry 3 (some .boolean) ∈ gW := gt_7 22 rfl rfl
theorem hd_X11_marry : (yX11_marry).cls ≠ "java/lang/invoke/MethodHandle" ∧ (yX11_marry).cls ≠ "java/lang/invoke/VarHandle" ∧ (parseMethodDescriptor (yX11_marry).desc).map (fun d => d.parameters.length) = some 2 := ⟨by decide, by decide, by decide +kernel⟩
theorem m_7_19 : Cond.methodLink RL 63 yX11_marry ∈ gW := gt_7 19 rfl rfl
theorem m_7_20 : Cond.instanceMethod yX11_marry ∈ gW := gt_7 20 rfl rfl
theorem m_7_21 : Cond.selects RX11 yX11_marry yX11_marry ∈ gW := gt_7 21 rfl rfl
theorem m_7_18 : Cond.codeWith yL_marry cL_marry 5 (some .int) [(0, 17, 20, 21), (0, 17, 24, 23)] ∈ gW := gt_7 18 rfl rfl
theorem hd_L_marry : (yL_marry).cls ≠ "java/lang/invoke/MethodHandle" ∧ (yL_marry).cls ≠ "java/lang/invoke/VarHandle" ∧ (parseMethodDescriptor (yL_marry).desc).map (fun d => d.parameters.length) = some 4 := ⟨by decide, by decide, by decide +kernel⟩
theorem m_7_16 : Cond.methodLink RL 255 yL_marry ∈ gW := gt_7 16 rfl rfl
theorem m_7_17 : Cond.static yL_marry ∈ gW := gt_7 17 rfl rfl
theorem m_12_94 : Cond.code yX18_marry cX18_marry 6 (some .boolean) ∈ gW := gt_12 94 rfl rfl
theorem hd_X18_marry : (yX18_marry).cls ≠ "java/lang/invoke/MethodHandle" ∧ (yX18_marry).cls ≠ "java/lang/invoke/VarHandle" ∧ (parseMethodDescriptor (yX18_marry).desc).map (fun d => d.parameters.length) = some 2 := ⟨by decide, by decide, by decide +kernel⟩
theorem m_12_91 : Cond.methodLink RL 257 yX18_marry ∈ gW := gt_12 91 rfl rfl
theorem m_12_92 : Cond.instanceMethod yX18_marry ∈ gW := gt_12 92 rfl rfl
theorem m_12_93 : Cond.selects RX18 yX18_marry yX18_marry ∈ gW := gt_12 93 rfl rfl
theorem m_7_40 : Cond.code yX11_lives cX11_lives 2 (some .boolean) ∈ gW := gt_7 40 rfl rfl
theorem hd_X11_lives : (yX11_lives).cls ≠ "java/lang/invoke/MethodHandle" ∧ (yX11_lives).cls ≠ "java/lang/invoke/VarHandle" ∧ (parseMethodDescriptor (yX11_lives).desc).map (fun d => d.parameters.length) = some 1 := ⟨by decide, by decide, by decide +kernel⟩
theorem m_7_37 : Cond.methodLink RL 67 yX11_lives ∈ gW := gt_7 37 rfl rfl
theorem m_7_38 : Cond.instanceMethod yX11_lives ∈ gW := gt_7 38 rfl rfl
theorem m_7_39 : Cond.selects RX11 yX11_lives yX11_lives ∈ gW := gt_7 39 rfl rfl
theorem m_7_36 : Cond.codeWith yL_lives cL_lives 4 (some .int) [(0, 16, 19, 21)] ∈ gW := gt_7 36 rfl rfl
theorem hd_L_lives : (yL_lives).cls ≠ "java/lang/invoke/MethodHandle" ∧ (yL_lives).cls ≠ "java/lang/invoke/VarHandle" ∧ (parseMethodDescriptor (yL_lives).desc).map (fun d => d.parameters.length) = some 3 := ⟨by decide, by decide, by decide +kernel⟩
theorem m_7_34 : Cond.methodLink RL 258 yL_lives ∈ gW := gt_7 34 rfl rfl
theorem m_7_35 : Cond.static yL_lives ∈ gW := gt_7 35 rfl rfl
theorem m_12_5 : Cond.code yX18_lives cX18_lives 2 (some .boolean) ∈ gW := gt_12 5 rfl rfl
theorem hd_X18_lives : (yX18_lives).cls ≠ "java/lang/invoke/MethodHandle" ∧ (yX18_lives).cls ≠ "java/lang/invoke/VarHandle" ∧ (parseMethodDescriptor (yX18_lives).desc).map (fun d => d.parameters.length) = some 1 := ⟨by decide, by decide, by decide +kernel⟩
theorem m_12_2 : Cond.methodLink RL 260 yX18_lives ∈ gW := gt_12 2 rfl rfl
theorem m_12_3 : Cond.instanceMethod yX18_lives ∈ gW := gt_12 3 rfl rfl
theorem m_12_4 : Cond.selects RX18 yX18_lives yX18_lives ∈ gW := gt_12 4 rfl rfl
theorem m_7_47 : Cond.code yX11_spouse cX11_spouse 3 (some .int) ∈ gW := gt_7 47 rfl rfl
theorem hd_X11_spouse : (yX11_spouse).cls ≠ "java/lang/invoke/MethodHandle" ∧ (yX11_spouse).cls ≠ "java/lang/invoke/VarHandle" ∧ (parseMethodDescriptor (yX11_spouse).desc).map (fun d => d.parameters.length) = some 1 := ⟨by decide, by decide, by decide +kernel⟩
theorem m_7_44 : Cond.methodLink RL 71 yX11_spouse ∈ gW := gt_7 44 rfl rfl
theorem m_7_45 : Cond.instanceMethod yX11_spouse ∈ gW := gt_7 45 rfl rfl
theorem m_7_46 : Cond.selects RX11 yX11_spouse yX11_spouse ∈ gW := gt_7 46 rfl rfl
theorem m_7_43 : Cond.codeWith yL_spouse cL_spouse 4 (some .int) [(0, 9, 12, 21), (0, 9, 15, 36)] ∈ gW := gt_7 43 rfl rfl
theorem hd_L_spouse : (yL_spouse).cls ≠ "java/lang/invoke/MethodHandle" ∧ (yL_spouse).cls ≠ "java/lang/invoke/VarHandle" ∧ (parseMethodDescriptor (yL_spouse).desc).map (fun d => d.parameters.length) = some 3 := ⟨by decide, by decide, by decide +kernel⟩
theorem m_7_41 : Cond.methodLink RL 261 yL_spouse ∈ gW := gt_7 41 rfl rfl
theorem m_7_42 : Cond.static yL_spouse ∈ gW := gt_7 42 rfl rfl
theorem m_12_90 : Cond.code yX18_spouse cX18_spouse 2 (some .int) ∈ gW := gt_12 90 rfl rfl
theorem hd_X18_spouse : (yX18_spouse).cls ≠ "java/lang/invoke/MethodHandle" ∧ (yX18_spouse).cls ≠ "java/lang/invoke/VarHandle" ∧ (parseMethodDescriptor (yX18_spouse).desc).map (fun d => d.parameters.length) = some 1 := ⟨by decide, by decide, by decide +kernel⟩
theorem m_12_87 : Cond.methodLink RL 263 yX18_spouse ∈ gW := gt_12 87 rfl rfl
theorem m_12_88 : Cond.instanceMethod yX18_spouse ∈ gW := gt_12 88 rfl rfl
theorem m_12_89 : Cond.selects RX18 yX18_spouse yX18_spouse ∈ gW := gt_12 89 rfl rfl
theorem m_7_55 : Cond.code yX11_isHeiress cX11_isHeiress 2 (some .boolean) ∈ gW := gt_7 55 rfl rfl
theorem hd_X11_isHeiress : (yX11_isHeiress).cls ≠ "java/lang/invoke/MethodHandle" ∧ (yX11_isHeiress).cls ≠ "java/lang/invoke/VarHandle" ∧ (parseMethodDescriptor (yX11_isHeiress).desc).map (fun d => d.parameters.length) = some 1 := ⟨by decide, by decide, by decide +kernel⟩
theorem m_7_52 : Cond.methodLink RL 74 yX11_isHeiress ∈ gW := gt_7 52 rfl rfl
theorem m_7_53 : Cond.instanceMethod yX11_isHeiress ∈ gW := gt_7 53 rfl rfl
theorem m_7_54 : Cond.selects RX11 yX11_isHeiress yX11_isHeiress ∈ gW := gt_7 54 rfl rfl
theorem m_7_51 : Cond.codeWith yL_isHeiress cL_isHeiress 4 (some .int) [(0, 16, 19, 21)] ∈ gW := gt_7 51 rfl rfl
theorem hd_L_isHeiress : (yL_isHeiress).cls ≠ "java/lang/invoke/MethodHandle" ∧ (yL_isHeiress).cls ≠ "java/lang/invoke/VarHandle" ∧ (parseMethodDescriptor (yL_isHeiress).desc).map (fun d => d.parameters.length) = some 3 := ⟨by decide, by decide, by decide +kernel⟩
theorem m_7_49 : Cond.methodLink RL 264 yL_isHeiress ∈ gW := gt_7 49 rfl rfl
theorem m_7_50 : Cond.static yL_isHeiress ∈ gW := gt_7 50 rfl rfl
theorem m_12_13 : Cond.code yX18_isHeiress cX18_isHeiress 2 (some .boolean) ∈ gW := gt_12 13 rfl rfl
theorem hd_X18_isHeiress : (yX18_isHeiress).cls ≠ "java/lang/invoke/MethodHandle" ∧ (yX18_isHeiress).cls ≠ "java/lang/invoke/VarHandle" ∧ (parseMethodDescriptor (yX18_isHeiress).desc).map (fun d => d.parameters.length) = some 1 := ⟨by decide, by decide, by decide +kernel⟩
theorem m_12_10 : Cond.methodLink RL 266 yX18_isHeiress ∈ gW := gt_12 10 rfl rfl
theorem m_12_11 : Cond.instanceMethod yX18_isHeiress ∈ gW := gt_12 11 rfl rfl
theorem m_12_12 : Cond.selects RX18 yX18_isHeiress yX18_isHeiress ∈ gW := gt_12 12 rfl rfl
theorem m_7_62 : Cond.code yX11_lineOf cX11_lineOf 2 (some .int) ∈ gW := gt_7 62 rfl rfl
theorem hd_X11_lineOf : (yX11_lineOf).cls ≠ "java/lang/invoke/MethodHandle" ∧ (yX11_lineOf).cls ≠ "java/lang/invoke/VarHandle" ∧ (parseMethodDescriptor (yX11_lineOf).desc).map (fun d => d.parameters.length) = some 1 := ⟨by decide, by decide, by decide +kernel⟩
theorem m_7_59 : Cond.methodLink RL 77 yX11_lineOf ∈ gW := gt_7 59 rfl rfl
theorem m_7_60 : Cond.instanceMethod yX11_lineOf ∈ gW := gt_7 60 rfl rfl
theorem m_7_61 : Cond.selects RX11 yX11_lineOf yX11_lineOf ∈ gW := gt_7 61 rfl rfl
theorem m_7_58 : Cond.codeWith yL_lineOf cL_lineOf 4 (some .int) [(0, 9, 12, 21)] ∈ gW := gt_7 58 rfl rfl
theorem hd_L_lineOf : (yL_lineOf).cls ≠ "java/lang/invoke/MethodHandle" ∧ (yL_lineOf).cls ≠ "java/lang/invoke/VarHandle" ∧ (parseMethodDescriptor (yL_lineOf).desc).map (fun d => d.parameters.length) = some 3 := ⟨by decide, by decide, by decide +kernel⟩
theorem m_7_56 : Cond.methodLink RL 267 yL_lineOf ∈ gW := gt_7 56 rfl rfl
theorem m_7_57 : Cond.static yL_lineOf ∈ gW := gt_7 57 rfl rfl
theorem m_12_86 : Cond.code yX18_lineOf cX18_lineOf 2 (some .int) ∈ gW := gt_12 86 rfl rfl
theorem hd_X18_lineOf : (yX18_lineOf).cls ≠ "java/lang/invoke/MethodHandle" ∧ (yX18_lineOf).cls ≠ "java/lang/invoke/VarHandle" ∧ (parseMethodDescriptor (yX18_lineOf).desc).map (fun d => d.parameters.length) = some 1 := ⟨by decide, by decide, by decide +kernel⟩
theorem m_12_83 : Cond.methodLink RL 269 yX18_lineOf ∈ gW := gt_12 83 rfl rfl
theorem m_12_84 : Cond.instanceMethod yX18_lineOf ∈ gW := gt_12 84 rfl rfl
theorem m_12_85 : Cond.selects RX18 yX18_lineOf yX18_lineOf ∈ gW := gt_12 85 rfl rfl
theorem m_7_70 : Cond.code yX11_grant cX11_grant 4 (some .int) ∈ gW := gt_7 70 rfl rfl
theorem hd_X11_grant : (yX11_grant).cls ≠ "java/lang/invoke/MethodHandle" ∧ (yX11_grant).cls ≠ "java/lang/invoke/VarHandle" ∧ (parseMethodDescriptor (yX11_grant).desc).map (fun d => d.parameters.length) = some 2 := ⟨by decide, by decide, by decide +kernel⟩
theorem m_7_67 : Cond.methodLink RL 80 yX11_grant ∈ gW := gt_7 67 rfl rfl
theorem m_7_68 : Cond.instanceMethod yX11_grant ∈ gW := gt_7 68 rfl rfl
theorem m_7_69 : Cond.selects RX11 yX11_grant yX11_grant ∈ gW := gt_7 69 rfl rfl
theorem m_7_66 : Cond.codeWith yL_grant cL_grant 5 (some .int) [(0, 10, 13, 21), (0, 10, 17, 13), (0, 10, 21, 23), (0, 10, 25, 15)] ∈ gW := gt_7 66 rfl rfl
theorem hd_L_grant : (yL_grant).cls ≠ "java/lang/invoke/MethodHandle" ∧ (yL_grant).cls ≠ "java/lang/invoke/VarHandle" ∧ (parseMethodDescriptor (yL_grant).desc).map (fun d => d.parameters.length) = some 4 := ⟨by decide, by decide, by decide +kernel⟩
theorem m_7_64 : Cond.methodLink RL 270 yL_grant ∈ gW := gt_7 64 rfl rfl
theorem m_7_65 : Cond.static yL_grant ∈ gW := gt_7 65 rfl rfl
theorem m_12_157 : Cond.code yX18_grant cX18_grant 4 (some .int) ∈ gW := gt_12 157 rfl rfl
theorem hd_X18_grant : (yX18_grant).cls ≠ "java/lang/invoke/MethodHandle" ∧ (yX18_grant).cls ≠ "java/lang/invoke/VarHandle" ∧ (parseMethodDescriptor (yX18_grant).desc).map (fun d => d.parameters.length) = some 2 := ⟨by decide, by decide, by decide +kernel⟩
theorem m_12_154 : Cond.methodLink RL 272 yX18_grant ∈ gW := gt_12 154 rfl rfl
theorem m_12_155 : Cond.instanceMethod yX18_grant ∈ gW := gt_12 155 rfl rfl
theorem m_12_156 : Cond.selects RX18 yX18_grant yX18_grant ∈ gW := gt_12 156 rfl rfl
theorem m_7_125 : Cond.code yX11_assume cX11_assume 4 (some .int) ∈ gW := gt_7 125 rfl rfl
theorem hd_X11_assume : (yX11_assume).cls ≠ "java/lang/invoke/MethodHandle" ∧ (yX11_assume).cls ≠ "java/lang/invoke/VarHandle" ∧ (parseMethodDescriptor (yX11_assume).desc).map (fun d => d.parameters.length) = some 2 := ⟨by decide, by decide, by decide +kernel⟩
theorem m_7_122 : Cond.methodLink RL 83 yX11_assume ∈ gW := gt_7 122 rfl rfl
theorem m_7_123 : Cond.instanceMethod yX11_assume ∈ gW := gt_7 123 rfl rfl
theorem m_7_124 : Cond.selects RX11 yX11_assume yX11_assume ∈ gW := gt_7 124 rfl rfl
theorem m_7_121 : Cond.codeWith yL_assume cL_assume 5 (some .int) [(0, 10, 13, 21), (0, 10, 17, 13), (0, 10, 21, 23), (0, 10, 25, 15)] ∈ gW := gt_7 121 rfl rfl
theorem hd_L_assume : (yL_assume).cls ≠ "java/lang/invoke/MethodHandle" ∧ (yL_assume).cls ≠ "java/lang/invoke/VarHandle" ∧ (parseMethodDescriptor (yL_assume).desc).map (fun d => d.parameters.length) = some 4 := ⟨by decide, by decide, by decide +kernel⟩
theorem m_7_119 : Cond.methodLink RL 273 yL_assume ∈ gW := gt_7 119 rfl rfl
theorem m_7_120 : Cond.static yL_assume ∈ gW := gt_7 120 rfl rfl
theorem m_12_236 : Cond.code yX18_assume cX18_assume 5 (some .int) ∈ gW := gt_12 236 rfl rfl
theorem hd_X18_assume : (yX18_assume).cls ≠ "java/lang/invoke/MethodHandle" ∧ (yX18_assume).cls ≠ "java/lang/invoke/VarHandle" ∧ (parseMethodDescriptor (yX18_assume).desc).map (fun d => d.parameters.length) = some 2 := ⟨by decide, by decide, by decide +kernel⟩
theorem m_12_233 : Cond.methodLink RL 275 yX18_assume ∈ gW := gt_12 233 rfl rfl
theorem m_12_234 : Cond.instanceMethod yX18_assume ∈ gW := gt_12 234 rfl rfl
theorem m_12_235 : Cond.selects RX18 yX18_assume yX18_assume ∈ gW := gt_12 235 rfl rfl
theorem n_s23 : (RX11, 531, "no such arms") ∈ gStr := List.mem_of_getElem? (i := 23) rfl
theorem m_2_168 : Cond.fieldLink RX11 441 "Blazonry$Roll" "count" "I" ∈ gW := gt_2 168 rfl rfl
theorem m_7_139 : Cond.code yX11_needArms cX11_needArms 2 none ∈ gW := gt_7 139 rfl rfl
theorem hd_X11_needArms : (yX11_needArms).cls ≠ "java/lang/invoke/MethodHandle" ∧ (yX11_needArms).cls ≠ "java/lang/invoke/VarHandle" ∧ (parseMethodDescriptor (yX11_needArms).desc).map (fun d => d.parameters.length) = some 1 := ⟨by decide, by decide, by decide +kernel⟩
theorem m_7_136 : Cond.methodLink RX11 290 yX11_needArms ∈ gW := gt_7 136 rfl rfl
theorem m_7_138 : Cond.instanceMethod yX11_needArms ∈ gW := gt_7 138 rfl rfl
theorem m_s_49 : Cond.selects RX11 yX11_needArms yX11_needArms ∈ gW := gt_s (q := (yX11_needArms, 14)) 49 rfl
theorem m_7_135 : Cond.code yX11_cameBy cX11_cameBy 2 (some .char) ∈ gW := gt_7 135 rfl rfl
theorem hd_X11_cameBy : (yX11_cameBy).cls ≠ "java/lang/invoke/MethodHandle" ∧ (yX11_cameBy).cls ≠ "java/lang/invoke/VarHandle" ∧ (parseMethodDescriptor (yX11_cameBy).desc).map (fun d => d.parameters.length) = some 1 := ⟨by decide, by decide, by decide +kernel⟩
theorem m_7_132 : Cond.methodLink RL 86 yX11_cameBy ∈ gW := gt_7 132 rfl rfl
theorem m_7_133 : Cond.instanceMethod yX11_cameBy ∈ gW := gt_7 133 rfl rfl
theorem m_7_134 : Cond.selects RX11 yX11_cameBy yX11_cameBy ∈ gW := gt_7 134 rfl rfl
theorem m_7_131 : Cond.codeWith yL_cameBy cL_cameBy 4 (some .int) [(0, 9, 12, 21)] ∈ gW := gt_7 131 rfl rfl
theorem hd_L_cameBy : (yL_cameBy).cls ≠ "java/lang/invoke/MethodHandle" ∧ (yL_cameBy).cls ≠ "java/lang/invoke/VarHandle" ∧ (parseMethodDescriptor (yL_cameBy).desc).map (fun d => d.parameters.length) = some 3 := ⟨by decide, by decide, by decide +kernel⟩
theorem m_7_129 : Cond.methodLink RL 276 yL_cameBy ∈ gW := gt_7 129 rfl rfl
theorem m_7_130 : Cond.static yL_cameBy ∈ gW := gt_7 130 rfl rfl
theorem m_13_8 : Cond.code yX18_isArms cX18_isArms 2 (some .boolean) ∈ gW := gt_13 8 rfl rfl
theorem hd_X18_isArms : (yX18_isArms).cls ≠ "java/lang/invoke/MethodHandle" ∧ (yX18_isArms).cls ≠ "java/lang/invoke/VarHandle" ∧ (parseMethodDescriptor (yX18_isArms).desc).map (fun d => d.parameters.length) = some 1 := ⟨by decide, by decide, by decide +kernel⟩
theorem m_13_5 : Cond.methodLink RX18 443 yX18_isArms ∈ gW := gt_13 5 rfl rfl
theorem m_13_7 : Cond.instanceMethod yX18_isArms ∈ gW := gt_13 7 rfl rfl
theorem m_s_103 : Cond.selects RX18 yX18_isArms yX18_isArms ∈ gW := gt_s (q := (yX18_isArms, 28)) 103 rfl
theorem m_13_4 : Cond.code yX18_failsArms cX18_failsArms 2 (some .boolean) ∈ gW := gt_13 4 rfl rfl
theorem hd_X18_failsArms : (yX18_failsArms).cls ≠ "java/lang/invoke/MethodHandle" ∧ (yX18_failsArms).cls ≠ "java/lang/invoke/VarHandle" ∧ (parseMethodDescriptor (yX18_failsArms).desc).map (fun d => d.parameters.length) = some 1 := ⟨by decide, by decide, by decide +kernel⟩
theorem m_13_1 : Cond.methodLink RX18 446 yX18_failsArms ∈ gW := gt_13 1 rfl rfl
theorem m_13_3 : Cond.instanceMethod yX18_failsArms ∈ gW := gt_13 3 rfl rfl
theorem m_s_102 : Cond.selects RX18 yX18_failsArms yX18_failsArms ∈ gW := gt_s (q := (yX18_failsArms, 28)) 102 rfl
theorem m_13_0 : Cond.code yX18_cameBy cX18_cameBy 2 (some .char) ∈ gW := gt_13 0 rfl rfl
theorem hd_X18_cameBy : (yX18_cameBy).cls ≠ "java/lang/invoke/MethodHandle" ∧ (yX18_cameBy).cls ≠ "java/lang/invoke/VarHandle" ∧ (parseMethodDescriptor (yX18_cameBy).desc).map (fun d => d.parameters.length) = some 1 := ⟨by decide, by decide, by decide +kernel⟩
theorem m_12_237 : Cond.methodLink RL 278 yX18_cameBy ∈ gW := gt_12 237 rfl rfl
theorem m_12_238 : Cond.instanceMethod yX18_cameBy ∈ gW := gt_12 238 rfl rfl
theorem m_12_239 : Cond.selects RX18 yX18_cameBy yX18_cameBy ∈ gW := gt_12 239 rfl rfl
theorem m_7_151 : Cond.code yX11_yearOf cX11_yearOf 2 (some .int) ∈ gW := gt_7 151 rfl rfl
theorem hd_X11_yearOf : (yX11_yearOf).cls ≠ "java/lang/invoke/MethodHandle" ∧ (yX11_yearOf).cls ≠ "java/lang/invoke/VarHandle" ∧ (parseMethodDescriptor (yX11_yearOf).desc).map (fun d => d.parameters.length) = some 1 := ⟨by decide, by decide, by decide +kernel⟩
theorem m_7_148 : Cond.methodLink RL 90 yX11_yearOf ∈ gW := gt_7 148 rfl rfl
theorem m_7_149 : Cond.instanceMethod yX11_yearOf ∈ gW := gt_7 149 rfl rfl
theorem m_7_150 : Cond.selects RX11 yX11_yearOf yX11_yearOf ∈ gW := gt_7 150 rfl rfl
theorem m_7_147 : Cond.codeWith yL_yearOf cL_yearOf 4 (some .int) [(0, 9, 12, 21)] ∈ gW := gt_7 147 rfl rfl
theorem hd_L_yearOf : (yL_yearOf).cls ≠ "java/lang/invoke/MethodHandle" ∧ (yL_yearOf).cls ≠ "java/lang/invoke/VarHandle" ∧ (parseMethodDescriptor (yL_yearOf).desc).map (fun d => d.parameters.length) = some 3 := ⟨by decide, by decide, by decide +kernel⟩
theorem m_7_145 : Cond.methodLink RL 279 yL_yearOf ∈ gW := gt_7 145 rfl rfl
theorem m_7_146 : Cond.static yL_yearOf ∈ gW := gt_7 146 rfl rfl
theorem m_13_12 : Cond.code yX18_yearOf cX18_yearOf 2 (some .int) ∈ gW := gt_13 12 rfl rfl
theorem hd_X18_yearOf : (yX18_yearOf).cls ≠ "java/lang/invoke/MethodHandle" ∧ (yX18_yearOf).cls ≠ "java/lang/invoke/VarHandle" ∧ (parseMethodDescriptor (yX18_yearOf).desc).map (fun d => d.parameters.length) = some 1 := ⟨by decide, by decide, by decide +kernel⟩
theorem m_13_9 : Cond.methodLink RL 281 yX18_yearOf ∈ gW := gt_13 9 rfl rfl
theorem m_13_10 : Cond.instanceMethod yX18_yearOf ∈ gW := gt_13 10 rfl rfl
theorem m_13_11 : Cond.selects RX18 yX18_yearOf yX18_yearOf ∈ gW := gt_13 11 rfl rfl
theorem m_7_162 : Cond.code yX11_borne cX11_borne 2 (some .int) ∈ gW := gt_7 162 rfl rfl
theorem hd_X11_borne : (yX11_borne).cls ≠ "java/lang/invoke/MethodHandle" ∧ (yX11_borne).cls ≠ "java/lang/invoke/VarHandle" ∧ (parseMethodDescriptor (yX11_borne).desc).map (fun d => d.parameters.length) = some 1 := ⟨by decide, by decide, by decide +kernel⟩
theorem m_7_159 : Cond.methodLink RL 93 yX11_borne ∈ gW := gt_7 159 rfl rfl
theorem m_7_160 : Cond.instanceMethod yX11_borne ∈ gW := gt_7 160 rfl rfl
theorem m_7_161 : Cond.selects RX11 yX11_borne yX11_borne ∈ gW := gt_7 161 rfl rfl
theorem m_7_158 : Cond.codeWith yL_borne cL_borne 4 (some .int) [(0, 9, 12, 21), (0, 9, 15, 36)] ∈ gW := gt_7 158 rfl rfl
theorem hd_L_borne : (yL_borne).cls ≠ "java/lang/invoke/MethodHandle" ∧ (yL_borne).cls ≠ "java/lang/invoke/VarHandle" ∧ (parseMethodDescriptor (yL_borne).desc).map (fun d => d.parameters.length) = some 3 := ⟨by decide, by decide, by decide +kernel⟩
theorem m_7_156 : Cond.methodLink RL 282 yL_borne ∈ gW := gt_7 156 rfl rfl
theorem m_7_157 : Cond.static yL_borne ∈ gW := gt_7 157 rfl rfl
theorem m_13_16 : Cond.code yX18_borne cX18_borne 3 (some .int) ∈ gW := gt_13 16 rfl rfl
theorem hd_X18_borne : (yX18_borne).cls ≠ "java/lang/invoke/MethodHandle" ∧ (yX18_borne).cls ≠ "java/lang/invoke/VarHandle" ∧ (parseMethodDescriptor (yX18_borne).desc).map (fun d => d.parameters.length) = some 1 := ⟨by decide, by decide, by decide +kernel⟩
theorem m_13_13 : Cond.methodLink RL 284 yX18_borne ∈ gW := gt_13 13 rfl rfl
theorem m_13_14 : Cond.instanceMethod yX18_borne ∈ gW := gt_13 14 rfl rfl
theorem m_13_15 : Cond.selects RX18 yX18_borne yX18_borne ∈ gW := gt_13 15 rfl rfl
theorem m_7_174 : Cond.code yX11_differences cX11_differences 2 (some .int) ∈ gW := gt_7 174 rfl rfl
theorem hd_X11_differences : (yX11_differences).cls ≠ "java/lang/invoke/MethodHandle" ∧ (yX11_differences).cls ≠ "java/lang/invoke/VarHandle" ∧ (parseMethodDescriptor (yX11_differences).desc).map (fun d => d.parameters.length) = some 1 := ⟨by decide, by decide, by decide +kernel⟩
theorem m_7_171 : Cond.methodLink RL 96 yX11_differences ∈ gW := gt_7 171 rfl rfl
theorem m_7_172 : Cond.instanceMethod yX11_differences ∈ gW := gt_7 172 rfl rfl
theorem m_7_173 : Cond.selects RX11 yX11_differences yX11_differences ∈ gW := gt_7 173 rfl rfl
theorem m_7_170 : Cond.codeWith yL_differences cL_differences 4 (some .int) [(0, 9, 12, 21), (0, 9, 15, 36)] ∈ gW := gt_7 170 rfl rfl
theorem hd_L_differences : (yL_differences).cls ≠ "java/lang/invoke/MethodHandle" ∧ (yL_differences).cls ≠ "java/lang/invoke/VarHandle" ∧ (parseMethodDescriptor (yL_differences).desc).map (fun d => d.parameters.length) = some 3 := ⟨by decide, by decide, by decide +kernel⟩
theorem m_7_168 : Cond.methodLink RL 285 yL_differences ∈ gW := gt_7 168 rfl rfl
theorem m_7_169 : Cond.static yL_differences ∈ gW := gt_7 169 rfl rfl
theorem m_13_20 : Cond.code yX18_differences cX18_differences 3 (some .int) ∈ gW := gt_13 20 rfl rfl
theorem hd_X18_differences : (yX18_differences).cls ≠ "java/lang/invoke/MethodHandle" ∧ (yX18_differences).cls ≠ "java/lang/invoke/VarHandle" ∧ (parseMethodDescriptor (yX18_differences).desc).map (fun d => d.parameters.length) = some 1 := ⟨by decide, by decide, by decide +kernel⟩
theorem m_13_17 : Cond.methodLink RL 287 yX18_differences ∈ gW := gt_13 17 rfl rfl
theorem m_13_18 : Cond.instanceMethod yX18_differences ∈ gW := gt_13 18 rfl rfl
theorem m_13_19 : Cond.selects RX18 yX18_differences yX18_differences ∈ gW := gt_13 19 rfl rfl
theorem m_7_185 : Cond.code yX11_difference cX11_difference 3 (some .int) ∈ gW := gt_7 185 rfl rfl
theorem hd_X11_difference : (yX11_difference).cls ≠ "java/lang/invoke/MethodHandle" ∧ (yX11_difference).cls ≠ "java/lang/invoke/VarHandle" ∧ (parseMethodDescriptor (yX11_difference).desc).map (fun d => d.parameters.length) = some 2 := ⟨by decide, by decide, by decide +kernel⟩
theorem m_7_182 : Cond.methodLink RL 99 yX11_difference ∈ gW := gt_7 182 rfl rfl
theorem m_7_183 : Cond.instanceMethod yX11_difference ∈ gW := gt_7 183 rfl rfl
theorem m_7_184 : Cond.selects RX11 yX11_difference yX11_difference ∈ gW := gt_7 184 rfl rfl
theorem m_7_181 : Cond.codeWith yL_difference cL_difference 5 (some .int) [(0, 10, 13, 21), (0, 10, 17, 36)] ∈ gW := gt_7 181 rfl rfl
theorem hd_L_difference : (yL_difference).cls ≠ "java/lang/invoke/MethodHandle" ∧ (yL_difference).cls ≠ "java/lang/invoke/VarHandle" ∧ (parseMethodDescriptor (yL_difference).desc).map (fun d => d.parameters.length) = some 4 := ⟨by decide, by decide, by decide +kernel⟩
theorem m_7_179 : Cond.methodLink RL 288 yL_difference ∈ gW := gt_7 179 rfl rfl
theorem m_7_180 : Cond.static yL_difference ∈ gW := gt_7 180 rfl rfl
theorem m_13_24 : Cond.code yX18_difference cX18_difference 4 (some .int) ∈ gW := gt_13 24 rfl rfl
theorem hd_X18_difference : (yX18_difference).cls ≠ "java/lang/invoke/MethodHandle" ∧ (yX18_difference).cls ≠ "java/lang/invoke/VarHandle" ∧ (parseMethodDescriptor (yX18_difference).desc).map (fun d => d.parameters.length) = some 2 := ⟨by decide, by decide, by decide +kernel⟩
theorem m_13_21 : Cond.methodLink RL 290 yX18_difference ∈ gW := gt_13 21 rfl rfl
theorem m_13_22 : Cond.instanceMethod yX18_difference ∈ gW := gt_13 22 rfl rfl
theorem m_13_23 : Cond.selects RX18 yX18_difference yX18_difference ∈ gW := gt_13 23 rfl rfl
theorem m_7_197 : Cond.code yX11_isInAbeyance cX11_isInAbeyance 2 (some .boolean) ∈ gW := gt_7 197 rfl rfl
theorem hd_X11_isInAbeyance : (yX11_isInAbeyance).cls ≠ "java/lang/invoke/MethodHandle" ∧ (yX11_isInAbeyance).cls ≠ "java/lang/invoke/VarHandle" ∧ (parseMethodDescriptor (yX11_isInAbeyance).desc).map (fun d => d.parameters.length) = some 1 := ⟨by decide, by decide, by decide +kernel⟩
theorem m_7_194 : Cond.methodLink RL 102 yX11_isInAbeyance ∈ gW := gt_7 194 rfl rfl
theorem m_7_195 : Cond.instanceMethod yX11_isInAbeyance ∈ gW := gt_7 195 rfl rfl
theorem m_7_196 : Cond.selects RX11 yX11_isInAbeyance yX11_isInAbeyance ∈ gW := gt_7 196 rfl rfl
theorem m_7_193 : Cond.codeWith yL_isInAbeyance cL_isInAbeyance 4 (some .int) [(0, 16, 19, 21)] ∈ gW := gt_7 193 rfl rfl
theorem hd_L_isInAbeyance : (yL_isInAbeyance).cls ≠ "java/lang/invoke/MethodHandle" ∧ (yL_isInAbeyance).cls ≠ "java/lang/invoke/VarHandle" ∧ (parseMethodDescriptor (yL_isInAbeyance).desc).map (fun d => d.parameters.length) = some 3 := ⟨by decide, by decide, by decide +kernel⟩
theorem m_7_191 : Cond.methodLink RL 291 yL_isInAbeyance ∈ gW := gt_7 191 rfl rfl
theorem m_7_192 : Cond.static yL_isInAbeyance ∈ gW := gt_7 192 rfl rfl
theorem m_13_28 : Cond.code yX18_isInAbeyance cX18_isInAbeyance 2 (some .boolean) ∈ gW := gt_13 28 rfl rfl
theorem hd_X18_isInAbeyance : (yX18_isInAbeyance).cls ≠ "java/lang/invoke/MethodHandle" ∧ (yX18_isInAbeyance).cls ≠ "java/lang/invoke/VarHandle" ∧ (parseMethodDescriptor (yX18_isInAbeyance).desc).map (fun d => d.parameters.length) = some 1 := ⟨by decide, by decide, by decide +kernel⟩
theorem m_13_25 : Cond.methodLink RL 293 yX18_isInAbeyance ∈ gW := gt_13 25 rfl rfl
theorem m_13_26 : Cond.instanceMethod yX18_isInAbeyance ∈ gW := gt_13 26 rfl rfl
theorem m_13_27 : Cond.selects RX18 yX18_isInAbeyance yX18_isInAbeyance ∈ gW := gt_13 27 rfl rfl
theorem m_7_205 : Cond.code yX11_call cX11_call 3 (some .int) ∈ gW := gt_7 205 rfl rfl
theorem hd_X11_call : (yX11_call).cls ≠ "java/lang/invoke/MethodHandle" ∧ (yX11_call).cls ≠ "java/lang/invoke/VarHandle" ∧ (parseMethodDescriptor (yX11_call).desc).map (fun d => d.parameters.length) = some 2 := ⟨by decide, by decide, by decide +kernel⟩
theorem m_7_202 : Cond.methodLink RL 105 yX11_call ∈ gW := gt_7 202 rfl rfl
theorem m_7_203 : Cond.instanceMethod yX11_call ∈ gW := gt_7 203 rfl rfl
theorem m_7_204 : Cond.selects RX11 yX11_call yX11_call ∈ gW := gt_7 204 rfl rfl
theorem m_7_201 : Cond.codeWith yL_call cL_call 5 (some .int) [(0, 10, 13, 21), (0, 10, 17, 23)] ∈ gW := gt_7 201 rfl rfl
theorem hd_L_call : (yL_call).cls ≠ "java/lang/invoke/MethodHandle" ∧ (yL_call).cls ≠ "java/lang/invoke/VarHandle" ∧ (parseMethodDescriptor (yL_call).desc).map (fun d => d.parameters.length) = some 4 := ⟨by decide, by decide, by decide +kernel⟩
theorem m_7_199 : Cond.methodLink RL 294 yL_call ∈ gW := gt_7 199 rfl rfl
theorem m_7_200 : Cond.static yL_call ∈ gW := gt_7 200 rfl rfl
theorem m_13_32 : Cond.code yX18_call cX18_call 4 (some .int) ∈ gW := gt_13 32 rfl rfl
theorem hd_X18_call : (yX18_call).cls ≠ "java/lang/invoke/MethodHandle" ∧ (yX18_call).cls ≠ "java/lang/invoke/VarHandle" ∧ (parseMethodDescriptor (yX18_call).desc).map (fun d => d.parameters.length) = some 2 := ⟨by decide, by decide, by decide +kernel⟩
theorem m_13_29 : Cond.methodLink RL 296 yX18_call ∈ gW := gt_13 29 rfl rfl
theorem m_13_30 : Cond.instanceMethod yX18_call ∈ gW := gt_13 30 rfl rfl
theorem m_13_31 : Cond.selects RX18 yX18_call yX18_call ∈ gW := gt_13 31 rfl rfl
theorem m_7_225 : Cond.code yX11_isExtinct cX11_isExtinct 2 (some .boolean) ∈ gW := gt_7 225 rfl rfl
theorem hd_X11_isExtinct : (yX11_isExtinct).cls ≠ "java/lang/invoke/MethodHandle" ∧ (yX11_isExtinct).cls ≠ "java/lang/invoke/VarHandle" ∧ (parseMethodDescriptor (yX11_isExtinct).desc).map (fun d => d.parameters.length) = some 1 := ⟨by decide, by decide, by decide +kernel⟩
theorem m_7_222 : Cond.methodLink RL 108 yX11_isExtinct ∈ gW := gt_7 222 rfl rfl
theorem m_7_223 : Cond.instanceMethod yX11_isExtinct ∈ gW := gt_7 223 rfl rfl
theorem m_7_224 : Cond.selects RX11 yX11_isExtinct yX11_isExtinct ∈ gW := gt_7 224 rfl rfl
theorem m_7_221 : Cond.codeWith yL_isExtinct cL_isExtinct 4 (some .int) [(0, 16, 19, 21)] ∈ gW := gt_7 221 rfl rfl
theorem hd_L_isExtinct : (yL_isExtinct).cls ≠ "java/lang/invoke/MethodHandle" ∧ (yL_isExtinct).cls ≠ "java/lang/invoke/VarHandle" ∧ (parseMethodDescriptor (yL_isExtinct).desc).map (fun d => d.parameters.length) = some 3 := ⟨by decide, by decide, by decide +kernel⟩
theorem m_7_219 : Cond.methodLink RL 297 yL_isExtinct ∈ gW := gt_7 219 rfl rfl
theorem m_7_220 : Cond.static yL_isExtinct ∈ gW := gt_7 220 rfl rfl
theorem m_13_36 : Cond.code yX18_isExtinct cX18_isExtinct 2 (some .boolean) ∈ gW := gt_13 36 rfl rfl
theorem hd_X18_isExtinct : (yX18_isExtinct).cls ≠ "java/lang/invoke/MethodHandle" ∧ (yX18_isExtinct).cls ≠ "java/lang/invoke/VarHandle" ∧ (parseMethodDescriptor (yX18_isExtinct).desc).map (fun d => d.parameters.length) = some 1 := ⟨by decide, by decide, by decide +kernel⟩
theorem m_13_33 : Cond.methodLink RL 299 yX18_isExtinct ∈ gW := gt_13 33 rfl rfl
theorem m_13_34 : Cond.instanceMethod yX18_isExtinct ∈ gW := gt_13 34 rfl rfl
theorem m_13_35 : Cond.selects RX18 yX18_isExtinct yX18_isExtinct ∈ gW := gt_13 35 rfl rfl
theorem m_7_236 : Cond.code yX11_bearers cX11_bearers 2 (some .int) ∈ gW := gt_7 236 rfl rfl
theorem hd_X11_bearers : (yX11_bearers).cls ≠ "java/lang/invoke/MethodHandle" ∧ (yX11_bearers).cls ≠ "java/lang/invoke/VarHandle" ∧ (parseMethodDescriptor (yX11_bearers).desc).map (fun d => d.parameters.length) = some 1 := ⟨by decide, by decide, by decide +kernel⟩
theorem m_7_233 : Cond.methodLink RL 111 yX11_bearers ∈ gW := gt_7 233 rfl rfl
theorem m_7_234 : Cond.instanceMethod yX11_bearers ∈ gW := gt_7 234 rfl rfl
theorem m_7_235 : Cond.selects RX11 yX11_bearers yX11_bearers ∈ gW := gt_7 235 rfl rfl
theorem m_7_232 : Cond.codeWith yL_bearers cL_bearers 4 (some .int) [(0, 9, 12, 21)] ∈ gW := gt_7 232 rfl rfl
theorem hd_L_bearers : (yL_bearers).cls ≠ "java/lang/invoke/MethodHandle" ∧ (yL_bearers).cls ≠ "java/lang/invoke/VarHandle" ∧ (parseMethodDescriptor (yL_bearers).desc).map (fun d => d.parameters.length) = some 3 := ⟨by decide, by decide, by decide +kernel⟩
theorem m_7_230 : Cond.methodLink RL 300 yL_bearers ∈ gW := gt_7 230 rfl rfl
theorem m_7_231 : Cond.static yL_bearers ∈ gW := gt_7 231 rfl rfl
theorem m_13_44 : Cond.code yX18_bearers cX18_bearers 2 (some .int) ∈ gW := gt_13 44 rfl rfl
theorem hd_X18_bearers : (yX18_bearers).cls ≠ "java/lang/invoke/MethodHandle" ∧ (yX18_bearers).cls ≠ "java/lang/invoke/VarHandle" ∧ (parseMethodDescriptor (yX18_bearers).desc).map (fun d => d.parameters.length) = some 1 := ⟨by decide, by decide, by decide +kernel⟩
theorem m_13_41 : Cond.methodLink RL 302 yX18_bearers ∈ gW := gt_13 41 rfl rfl
theorem m_13_42 : Cond.instanceMethod yX18_bearers ∈ gW := gt_13 42 rfl rfl
theorem m_13_43 : Cond.selects RX18 yX18_bearers yX18_bearers ∈ gW := gt_13 43 rfl rfl
theorem m_8_3 : Cond.code yX11_ofArms cX11_ofArms 4 (some .int) ∈ gW := gt_8 3 rfl rfl
theorem hd_X11_ofArms : (yX11_ofArms).cls ≠ "java/lang/invoke/MethodHandle" ∧ (yX11_ofArms).cls ≠ "java/lang/invoke/VarHandle" ∧ (parseMethodDescriptor (yX11_ofArms).desc).map (fun d => d.parameters.length) = some 3 := ⟨by decide, by decide, by decide +kernel⟩
theorem m_8_0 : Cond.methodLink RL 114 yX11_ofArms ∈ gW := gt_8 0 rfl rfl
theorem m_8_1 : Cond.instanceMethod yX11_ofArms ∈ gW := gt_8 1 rfl rfl
theorem m_8_2 : Cond.selects RX11 yX11_ofArms yX11_ofArms ∈ gW := gt_8 2 rfl rfl
theorem m_7_239 : Cond.codeWith yL_ofArms cL_ofArms 6 (some .int) [(0, 12, 15, 21)] ∈ gW := gt_7 239 rfl rfl
theorem hd_L_ofArms : (yL_ofArms).cls ≠ "java/lang/invoke/MethodHandle" ∧ (yL_ofArms).cls ≠ "java/lang/invoke/VarHandle" ∧ (parseMethodDescriptor (yL_ofArms).desc).map (fun d => d.parameters.length) = some 5 := ⟨by decide, by decide, by decide +kernel⟩
theorem m_7_237 : Cond.methodLink RL 303 yL_ofArms ∈ gW := gt_7 237 rfl rfl
theorem m_7_238 : Cond.static yL_ofArms ∈ gW := gt_7 238 rfl rfl
theorem m_13_48 : Cond.code yX18_ofArms cX18_ofArms 4 (some .int) ∈ gW := gt_13 48 rfl rfl
theorem hd_X18_ofArms : (yX18_ofArms).cls ≠ "java/lang/invoke/MethodHandle" ∧ (yX18_ofArms).cls ≠ "java/lang/invoke/VarHandle" ∧ (parseMethodDescriptor (yX18_ofArms).desc).map (fun d => d.parameters.length) = some 3 := ⟨by decide, by decide, by decide +kernel⟩
theorem m_13_45 : Cond.methodLink RL 306 yX18_ofArms ∈ gW := gt_13 45 rfl rfl
theorem m_13_46 : Cond.instanceMethod yX18_ofArms ∈ gW := gt_13 46 rfl rfl
theorem m_13_47 : Cond.selects RX18 yX18_ofArms yX18_ofArms ∈ gW := gt_13 47 rfl rfl
theorem m_8_14 : Cond.code yX11_ofShield cX11_ofShield 4 (some .int) ∈ gW := gt_8 14 rfl rfl
theorem hd_X11_ofShield : (yX11_ofShield).cls ≠ "java/lang/invoke/MethodHandle" ∧ (yX11_ofShield).cls ≠ "java/lang/invoke/VarHandle" ∧ (parseMethodDescriptor (yX11_ofShield).desc).map (fun d => d.parameters.length) = some 3 := ⟨by decide, by decide, by decide +kernel⟩
theorem m_8_11 : Cond.methodLink RL 118 yX11_ofShield ∈ gW := gt_8 11 rfl rfl
theorem m_8_12 : Cond.instanceMethod yX11_ofShield ∈ gW := gt_8 12 rfl rfl
theorem m_8_13 : Cond.selects RX11 yX11_ofShield yX11_ofShield ∈ gW := gt_8 13 rfl rfl
theorem m_8_10 : Cond.codeWith yL_ofShield cL_ofShield 6 (some .int) [(0, 12, 15, 21), (0, 12, 19, 36)] ∈ gW := gt_8 10 rfl rfl
theorem hd_L_ofShield : (yL_ofShield).cls ≠ "java/lang/invoke/MethodHandle" ∧ (yL_ofShield).cls ≠ "java/lang/invoke/VarHandle" ∧ (parseMethodDescriptor (yL_ofShield).desc).map (fun d => d.parameters.length) = some 5 := ⟨by decide, by decide, by decide +kernel⟩
theorem m_8_8 : Cond.methodLink RL 307 yL_ofShield ∈ gW := gt_8 8 rfl rfl
theorem m_8_9 : Cond.static yL_ofShield ∈ gW := gt_8 9 rfl rfl
theorem m_13_88 : Cond.code yX18_ofShield cX18_ofShield 4 (some .int) ∈ gW := gt_13 88 rfl rfl
theorem hd_X18_ofShield : (yX18_ofShield).cls ≠ "java/lang/invoke/MethodHandle" ∧ (yX18_ofShield).cls ≠ "java/lang/invoke/VarHandle" ∧ (parseMethodDescriptor (yX18_ofShield).desc).map (fun d => d.parameters.length) = some 3 := ⟨by decide, by decide, by decide +kernel⟩
theorem m_13_85 : Cond.methodLink RL 309 yX18_ofShield ∈ gW := gt_13 85 rfl rfl
theorem m_13_86 : Cond.instanceMethod yX18_ofShield ∈ gW := gt_13 86 rfl rfl
theorem m_13_87 : Cond.selects RX18 yX18_ofShield yX18_ofShield ∈ gW := gt_13 87 rfl rfl
theorem m_8_84 : Cond.code yX11_shield cX11_shield 4 (some .int) ∈ gW := gt_8 84 rfl rfl
theorem hd_X11_shield : (yX11_shield).cls ≠ "java/lang/invoke/MethodHandle" ∧ (yX11_shield).cls ≠ "java/lang/invoke/VarHandle" ∧ (parseMethodDescriptor (yX11_shield).desc).map (fun d => d.parameters.length) = some 3 := ⟨by decide, by decide, by decide +kernel⟩
theorem m_8_81 : Cond.methodLink RL 121 yX11_shield ∈ gW := gt_8 81 rfl rfl
theorem m_8_82 : Cond.instanceMethod yX11_shield ∈ gW := gt_8 82 rfl rfl
theorem m_8_83 : Cond.selects RX11 yX11_shield yX11_shield ∈ gW := gt_8 83 rfl rfl
theorem m_8_80 : Cond.codeWith yL_shield cL_shield 6 (some .int) [(0, 12, 15, 21), (0, 12, 19, 13), (0, 12, 23, 36)] ∈ gW := gt_8 80 rfl rfl
theorem hd_L_shield : (yL_shield).cls ≠ "java/lang/invoke/MethodHandle" ∧ (yL_shield).cls ≠ "java/lang/invoke/VarHandle" ∧ (parseMethodDescriptor (yL_shield).desc).map (fun d => d.parameters.length) = some 5 := ⟨by decide, by decide, by decide +kernel⟩
theorem m_8_78 : Cond.methodLink RL 310 yL_shield ∈ gW := gt_8 78 rfl rfl
theorem m_8_79 : Cond.static yL_shield ∈ gW := gt_8 79 rfl rfl
theorem m_13_96 : Cond.code yX18_shield cX18_shield 4 (some .int) ∈ gW := gt_13 96 rfl rfl
theorem hd_X18_shield : (yX18_shield).cls ≠ "java/lang/invoke/MethodHandle" ∧ (yX18_shield).cls ≠ "java/lang/invoke/VarHandle" ∧ (parseMethodDescriptor (yX18_shield).desc).map (fun d => d.parameters.length) = some 3 := ⟨by decide, by decide, by decide +kernel⟩
theorem m_13_93 : Cond.methodLink RL 312 yX18_shield ∈ gW := gt_13 93 rfl rfl
theorem m_13_94 : Cond.instanceMethod yX18_shield ∈ gW := gt_13 94 rfl rfl
theorem m_13_95 : Cond.selects RX18 yX18_shield yX18_shield ∈ gW := gt_13 95 rfl rfl
theorem m_8_91 : Cond.code yX11_quarters cX11_quarters 2 (some .int) ∈ gW := gt_8 91 rfl rfl
theorem hd_X11_quarters : (yX11_quarters).cls ≠ "java/lang/invoke/MethodHandle" ∧ (yX11_quarters).cls ≠ "java/lang/invoke/VarHandle" ∧ (parseMethodDescriptor (yX11_quarters).desc).map (fun d => d.parameters.length) = some 1 := ⟨by decide, by decide, by decide +kernel⟩
theorem m_8_88 : Cond.methodLink RL 124 yX11_quarters ∈ gW := gt_8 88 rfl rfl
theorem m_8_89 : Cond.instanceMethod yX11_quarters ∈ gW := gt_8 89 rfl rfl
theorem m_8_90 : Cond.selects RX11 yX11_quarters yX11_quarters ∈ gW := gt_8 90 rfl rfl
theorem m_8_87 : Cond.codeWith yL_quarters cL_quarters 4 (some .int) [(0, 9, 12, 21)] ∈ gW := gt_8 87 rfl rfl
theorem hd_L_quarters : (yL_quarters).cls ≠ "java/lang/invoke/MethodHandle" ∧ (yL_quarters).cls ≠ "java/lang/invoke/VarHandle" ∧ (parseMethodDescriptor (yL_quarters).desc).map (fun d => d.parameters.length) = some 3 := ⟨by decide, by decide, by decide +kernel⟩
theorem m_8_85 : Cond.methodLink RL 313 yL_quarters ∈ gW := gt_8 85 rfl rfl
theorem m_8_86 : Cond.static yL_quarters ∈ gW := gt_8 86 rfl rfl
theorem m_13_60 : Cond.code yX18_quarters cX18_quarters 2 (some .int) ∈ gW := gt_13 60 rfl rfl
theorem hd_X18_quarters : (yX18_quarters).cls ≠ "java/lang/invoke/MethodHandle" ∧ (yX18_quarters).cls ≠ "java/lang/invoke/VarHandle" ∧ (parseMethodDescriptor (yX18_quarters).desc).map (fun d => d.parameters.length) = some 1 := ⟨by decide, by decide, by decide +kernel⟩
theorem m_13_57 : Cond.methodLink RL 315 yX18_quarters ∈ gW := gt_13 57 rfl rfl
theorem m_13_58 : Cond.instanceMethod yX18_quarters ∈ gW := gt_13 58 rfl rfl
theorem m_13_59 : Cond.selects RX18 yX18_quarters yX18_quarters ∈ gW := gt_13 59 rfl rfl
theorem m_8_102 : Cond.code yX11_quarter cX11_quarter 3 (some .int) ∈ gW := gt_8 102 rfl rfl
theorem hd_X11_quarter : (yX11_quarter).cls ≠ "java/lang/invoke/MethodHandle" ∧ (yX11_quarter).cls ≠ "java/lang/invoke/VarHandle" ∧ (parseMethodDescriptor (yX11_quarter).desc).map (fun d => d.parameters.length) = some 2 := ⟨by decide, by decide, by decide +kernel⟩
theorem m_8_99 : Cond.methodLink RL 127 yX11_quarter ∈ gW := gt_8 99 rfl rfl
theorem m_8_100 : Cond.instanceMethod yX11_quarter ∈ gW := gt_8 100 rfl rfl
theorem m_8_101 : Cond.selects RX11 yX11_quarter yX11_quarter ∈ gW := gt_8 101 rfl rfl
theorem m_8_98 : Cond.codeWith yL_quarter cL_quarter 5 (some .int) [(0, 10, 13, 21), (0, 10, 17, 36)] ∈ gW := gt_8 98 rfl rfl
theorem hd_L_quarter : (yL_quarter).cls ≠ "java/lang/invoke/MethodHandle" ∧ (yL_quarter).cls ≠ "java/lang/invoke/VarHandle" ∧ (parseMethodDescriptor (yL_quarter).desc).map (fun d => d.parameters.length) = some 4 := ⟨by decide, by decide, by decide +kernel⟩
theorem m_8_96 : Cond.methodLink RL 316 yL_quarter ∈ gW := gt_8 96 rfl rfl
theorem m_8_97 : Cond.static yL_quarter ∈ gW := gt_8 97 rfl rfl
theorem m_13_80 : Cond.code yX18_failsQuarter cX18_failsQuarter 3 (some .boolean) ∈ gW := gt_13 80 rfl rfl
theorem hd_X18_failsQuarter : (yX18_failsQuarter).cls ≠ "java/lang/invoke/MethodHandle" ∧ (yX18_failsQuarter).cls ≠ "java/lang/invoke/VarHandle" ∧ (parseMethodDescriptor (yX18_failsQuarter).desc).map (fun d => d.parameters.length) = some 2 := ⟨by decide, by decide, by decide +kernel⟩
theorem m_13_77 : Cond.methodLink RX18 488 yX18_failsQuarter ∈ gW := gt_13 77 rfl rfl
theorem m_13_79 : Cond.instanceMethod yX18_failsQuarter ∈ gW := gt_13 79 rfl rfl
theorem m_s_109 : Cond.selects RX18 yX18_failsQuarter yX18_failsQuarter ∈ gW := gt_s (q := (yX18_failsQuarter, 28)) 109 rfl
theorem m_13_76 : Cond.code yX18_quarter cX18_quarter 3 (some .int) ∈ gW := gt_13 76 rfl rfl
theorem hd_X18_quarter : (yX18_quarter).cls ≠ "java/lang/invoke/MethodHandle" ∧ (yX18_quarter).cls ≠ "java/lang/invoke/VarHandle" ∧ (parseMethodDescriptor (yX18_quarter).desc).map (fun d => d.parameters.length) = some 2 := ⟨by decide, by decide, by decide +kernel⟩
theorem m_13_73 : Cond.methodLink RL 318 yX18_quarter ∈ gW := gt_13 73 rfl rfl
theorem m_13_74 : Cond.instanceMethod yX18_quarter ∈ gW := gt_13 74 rfl rfl
theorem m_13_75 : Cond.selects RX18 yX18_quarter yX18_quarter ∈ gW := gt_13 75 rfl rfl
theorem m_8_118 : Cond.code yX11_quarterBy cX11_quarterBy 3 (some .int) ∈ gW := gt_8 118 rfl rfl
theorem hd_X11_quarterBy : (yX11_quarterBy).cls ≠ "java/lang/invoke/MethodHandle" ∧ (yX11_quarterBy).cls ≠ "java/lang/invoke/VarHandle" ∧ (parseMethodDescriptor (yX11_quarterBy).desc).map (fun d => d.parameters.length) = some 2 := ⟨by decide, by decide, by decide +kernel⟩
theorem m_8_115 : Cond.methodLink RL 130 yX11_quarterBy ∈ gW := gt_8 115 rfl rfl
theorem m_8_116 : Cond.instanceMethod yX11_quarterBy ∈ gW := gt_8 116 rfl rfl
theorem m_8_117 : Cond.selects RX11 yX11_quarterBy yX11_quarterBy ∈ gW := gt_8 117 rfl rfl
theorem m_8_114 : Cond.codeWith yL_quarterBy cL_quarterBy 5 (some .int) [(0, 10, 13, 21), (0, 10, 17, 36)] ∈ gW := gt_8 114 rfl rfl
theorem hd_L_quarterBy : (yL_quarterBy).cls ≠ "java/lang/invoke/MethodHandle" ∧ (yL_quarterBy).cls ≠ "java/lang/invoke/VarHandle" ∧ (parseMethodDescriptor (yL_quarterBy).desc).map (fun d => d.parameters.length) = some 4 := ⟨by decide, by decide, by decide +kernel⟩
theorem m_8_112 : Cond.methodLink RL 319 yL_quarterBy ∈ gW := gt_8 112 rfl rfl
theorem m_8_113 : Cond.static yL_quarterBy ∈ gW := gt_8 113 rfl rfl
theorem m_13_84 : Cond.code yX18_quarterBy cX18_quarterBy 3 (some .int) ∈ gW := gt_13 84 rfl rfl
theorem hd_X18_quarterBy : (yX18_quarterBy).cls ≠ "java/lang/invoke/MethodHandle" ∧ (yX18_quarterBy).cls ≠ "java/lang/invoke/VarHandle" ∧ (parseMethodDescriptor (yX18_quarterBy).desc).map (fun d => d.parameters.length) = some 2 := ⟨by decide, by decide, by decide +kernel⟩
theorem m_13_81 : Cond.methodLink RL 321 yX18_quarterBy ∈ gW := gt_13 81 rfl rfl
theorem m_13_82 : Cond.instanceMethod yX18_quarterBy ∈ gW := gt_13 82 rfl rfl
theorem m_13_83 : Cond.selects RX18 yX18_quarterBy yX18_quarterBy ∈ gW := gt_13 83 rfl rfl
theorem m_8_129 : Cond.code yX11_distance cX11_distance 3 (some .int) ∈ gW := gt_8 129 rfl rfl
theorem hd_X11_distance : (yX11_distance).cls ≠ "java/lang/invoke/MethodHandle" ∧ (yX11_distance).cls ≠ "java/lang/invoke/VarHandle" ∧ (parseMethodDescriptor (yX11_distance).desc).map (fun d => d.parameters.length) = some 2 := ⟨by decide, by decide, by decide +kernel⟩
theorem m_8_126 : Cond.methodLink RL 133 yX11_distance ∈ gW := gt_8 126 rfl rfl
theorem m_8_127 : Cond.instanceMethod yX11_distance ∈ gW := gt_8 127 rfl rfl
theorem m_8_128 : Cond.selects RX11 yX11_distance yX11_distance ∈ gW := gt_8 128 rfl rfl
theorem m_8_125 : Cond.codeWith yL_distance cL_distance 5 (some .int) [(0, 10, 13, 21)] ∈ gW := gt_8 125 rfl rfl
theorem hd_L_distance : (yL_distance).cls ≠ "java/lang/invoke/MethodHandle" ∧ (yL_distance).cls ≠ "java/lang/invoke/VarHandle" ∧ (parseMethodDescriptor (yL_distance).desc).map (fun d => d.parameters.length) = some 4 := ⟨by decide, by decide, by decide +kernel⟩
theorem m_8_123 : Cond.methodLink RL 322 yL_distance ∈ gW := gt_8 123 rfl rfl
theorem m_8_124 : Cond.static yL_distance ∈ gW := gt_8 124 rfl rfl
theorem m_13_52 : Cond.code yX18_distance cX18_distance 3 (some .int) ∈ gW := gt_13 52 rfl rfl
theorem hd_X18_distance : (yX18_distance).cls ≠ "java/lang/invoke/MethodHandle" ∧ (yX18_distance).cls ≠ "java/lang/invoke/VarHandle" ∧ (parseMethodDescriptor (yX18_distance).desc).map (fun d => d.parameters.length) = some 2 := ⟨by decide, by decide, by decide +kernel⟩
theorem m_13_49 : Cond.methodLink RL 324 yX18_distance ∈ gW := gt_13 49 rfl rfl
theorem m_13_50 : Cond.instanceMethod yX18_distance ∈ gW := gt_13 50 rfl rfl
theorem m_13_51 : Cond.selects RX18 yX18_distance yX18_distance ∈ gW := gt_13 51 rfl rfl
theorem m_8_140 : Cond.code yX11_nearest cX11_nearest 2 (some .int) ∈ gW := gt_8 140 rfl rfl
theorem hd_X11_nearest : (yX11_nearest).cls ≠ "java/lang/invoke/MethodHandle" ∧ (yX11_nearest).cls ≠ "java/lang/invoke/VarHandle" ∧ (parseMethodDescriptor (yX11_nearest).desc).map (fun d => d.parameters.length) = some 0 := ⟨by decide, by decide, by decide +kernel⟩
theorem m_8_137 : Cond.methodLink RL 136 yX11_nearest ∈ gW := gt_8 137 rfl rfl
theorem m_8_138 : Cond.instanceMethod yX11_nearest ∈ gW := gt_8 138 rfl rfl
theorem m_8_139 : Cond.selects RX11 yX11_nearest yX11_nearest ∈ gW := gt_8 139 rfl rfl
theorem m_8_136 : Cond.codeWith yL_nearest cL_nearest 3 (some .int) [(0, 8, 11, 23), (0, 8, 14, 36)] ∈ gW := gt_8 136 rfl rfl
theorem hd_L_nearest : (yL_nearest).cls ≠ "java/lang/invoke/MethodHandle" ∧ (yL_nearest).cls ≠ "java/lang/invoke/VarHandle" ∧ (parseMethodDescriptor (yL_nearest).desc).map (fun d => d.parameters.length) = some 2 := ⟨by decide, by decide, by decide +kernel⟩
theorem m_8_134 : Cond.methodLink RL 325 yL_nearest ∈ gW := gt_8 134 rfl rfl
theorem m_8_135 : Cond.static yL_nearest ∈ gW := gt_8 135 rfl rfl
theorem m_13_100 : Cond.code yX18_nearest cX18_nearest 5 (some .int) ∈ gW := gt_13 100 rfl rfl
theorem hd_X18_nearest : (yX18_nearest).cls ≠ "java/lang/invoke/MethodHandle" ∧ (yX18_nearest).cls ≠ "java/lang/invoke/VarHandle" ∧ (parseMethodDescriptor (yX18_nearest).desc).map (fun d => d.parameters.length) = some 0 := ⟨by decide, by decide, by decide +kernel⟩
theorem m_13_97 : Cond.methodLink RL 327 yX18_nearest ∈ gW := gt_13 97 rfl rfl
theorem m_13_98 : Cond.instanceMethod yX18_nearest ∈ gW := gt_13 98 rfl rfl
theorem m_13_99 : Cond.selects RX18 yX18_nearest yX18_nearest ∈ gW := gt_13 99 rfl rfl
theorem m_3_228 : Cond.code yX9_countWithWord cX9_countWithWord 4 (some .int) ∈ gW := gt_3 228 rfl rfl
theorem hd_X9_countWithWord : (yX9_countWithWord).cls ≠ "java/lang/invoke/MethodHandle" ∧ (yX9_countWithWord).cls ≠ "java/lang/invoke/VarHandle" ∧ (parseMethodDescriptor (yX9_countWithWord).desc).map (fun d => d.parameters.length) = some 1 := ⟨by decide, by decide, by decide +kernel⟩
theorem m_3_225 : Cond.methodLink RX11 357 yX9_countWithWord ∈ gW := gt_3 225 rfl rfl
theorem m_3_226 : Cond.instanceMethod yX9_countWithWord ∈ gW := gt_3 226 rfl rfl
theorem m_3_227 : Cond.selects RX9 yX9_countWithWord yX9_countWithWord ∈ gW := gt_3 227 rfl rfl
theorem m_3_224 : Cond.code yX11_withWord cX11_withWord 2 (some .int) ∈ gW := gt_3 224 rfl rfl
theorem hd_X11_withWord : (yX11_withWord).cls ≠ "java/lang/invoke/MethodHandle" ∧ (yX11_withWord).cls ≠ "java/lang/invoke/VarHandle" ∧ (parseMethodDescriptor (yX11_withWord).desc).map (fun d => d.parameters.length) = some 1 := ⟨by decide, by decide, by decide +kernel⟩
theorem m_3_221 : Cond.methodLink RL 328 yX11_withWord ∈ gW := gt_3 221 rfl rfl
theorem m_3_222 : Cond.instanceMethod yX11_withWord ∈ gW := gt_3 222 rfl rfl
theorem m_3_223 : Cond.selects RX11 yX11_withWord yX11_withWord ∈ gW := gt_3 223 rfl rfl
theorem m_12_36 : Cond.lays RJx35411 "java/util/ArrayList$Itr" "cursor" "I" ∈ gW := gt_12 36 rfl rfl
theorem m_12_38 : Cond.lays RJx35411 "java/util/ArrayList$Itr" "lastRet" "I" ∈ gW := gt_12 38 rfl rfl
theorem m_12_40 : Cond.lays RJx35411 "java/util/ArrayList$Itr" "expectedModCount" "I" ∈ gW := gt_12 40 rfl rfl
theorem m_12_42 : Cond.laysFinal RJx35411 "java/util/ArrayList$Itr" "this$0" "Ljava/util/ArrayList;" ∈ gW := gt_12 42 rfl rfl
theorem in_Jx35411 : ∀ w ∈ u_ws RJx35411 TJx35411 4, w ∈ gW := fun w h => by
  obtain ⟨k, hk, rfl⟩ := List.mem_map.mp h
  have hk := List.mem_range.mp hk
  rcases (show k = 0 ∨ k = 1 ∨ k = 2 ∨ k = 3 by omega) with rfl | rfl | rfl | rfl
  · exact m_12_36
  · exact m_12_38
  · exact m_12_40
  · exact m_12_42
theorem dv_Jx35411 : ∀ j, j < 4 → defaultValue (tyJx35411 j) = vp_V [.int 0, .int 0, .int 0, .null] j := fun j hj => by rcases (show j = 0 ∨ j = 1 ∨ j = 2 ∨ j = 3 by omega) with rfl | rfl | rfl | rfl <;> rfl
theorem m_12_26 : Cond.classLink RJx4a65c 267 RJx35411 ∈ gW := gt_12 26 rfl rfl
theorem m_12_27 : Cond.instantiable RJx35411 4 ∈ gW := gt_12 27 rfl rfl
theorem m_1_39 : Cond.initialized RJx35411 ∈ gW := gt_1 39 rfl rfl
theorem m_12_35 : Cond.fieldLink RJx35411 1 "java/util/ArrayList$Itr" "this$0" "Ljava/util/ArrayList;" ∈ gW := gt_12 35 rfl rfl
theorem m_12_31 : Cond.methodLink RJx35411 7 objectInit ∈ gW := gt_12 31 rfl rfl
theorem m_12_33 : Cond.fieldLink RJx35411 13 "java/util/ArrayList$Itr" "lastRet" "I" ∈ gW := gt_12 33 rfl rfl
theorem m_9_194 : Cond.fieldLink RJx35411 17 "java/util/ArrayList" "modCount" "I" ∈ gW := gt_9 194 rfl rfl
theorem m_12_34 : Cond.fieldLink RJx35411 22 "java/util/ArrayList$Itr" "expectedModCount" "I" ∈ gW := gt_12 34 rfl rfl
theorem m_12_30 : Cond.code yJx35411_init_45d68 cJx35411_init_45d68 2 none ∈ gW := gt_12 30 rfl rfl
theorem hd_Jx35411_init_45d68 : (yJx35411_init_45d68).cls ≠ "java/lang/invoke/MethodHandle" ∧ (yJx35411_init_45d68).cls ≠ "java/lang/invoke/VarHandle" ∧ (parseMethodDescriptor (yJx35411_init_45d68).desc).map (fun d => d.parameters.length) = some 1 := ⟨by decide, by decide, by decide +kernel⟩
theorem m_12_28 : Cond.methodLink RJx4a65c 269 yJx35411_init_45d68 ∈ gW := gt_12 28 rfl rfl
theorem m_12_29 : Cond.instanceMethod yJx35411_init_45d68 ∈ gW := gt_12 29 rfl rfl
theorem m_12_25 : Cond.code yJx4a65c_iterator_32c93 cJx4a65c_iterator_32c93 1 (some (.object "java/util/Iterator")) ∈ gW := gt_12 25 rfl rfl
theorem hd_Jx4a65c_iterator_32c93 : (yJx4a65c_iterator_32c93).cls ≠ "java/lang/invoke/MethodHandle" ∧ (yJx4a65c_iterator_32c93).cls ≠ "java/lang/invoke/VarHandle" ∧ (parseMethodDescriptor (yJx4a65c_iterator_32c93).desc).map (fun d => d.parameters.length) = some 0 := ⟨by decide, by decide, by decide +kernel⟩
theorem m_12_22 : Cond.methodLink RX18 313 yJx4a65c_iterator_32c93 ∈ gW := gt_12 22 rfl rfl
theorem m_12_23 : Cond.instanceMethod yJx4a65c_iterator_32c93 ∈ gW := gt_12 23 rfl rfl
theorem m_12_24 : Cond.selects RJx4a65c yJx4a65c_iterator_32c93 yJx4a65c_iterator_32c93 ∈ gW := gt_12 24 rfl rfl
theorem m_12_32 : Cond.fieldLink RJx35411 25 "java/util/ArrayList$Itr" "cursor" "I" ∈ gW := gt_12 32 rfl rfl
theorem n_f2 : (RJx35411, 28, "java/util/ArrayList", "size", "I", "java/util/ArrayList") ∈ gNF := List.mem_of_getElem? (i := 2) rfl
theorem m_12_54 : Cond.code yJx35411_hasNext_aae02 cJx35411_hasNext_aae02 1 (some .boolean) ∈ gW := gt_12 54 rfl rfl
theorem hd_Jx35411_hasNext_aae02 : (yJx35411_hasNext_aae02).cls ≠ "java/lang/invoke/MethodHandle" ∧ (yJx35411_hasNext_aae02).cls ≠ "java/lang/invoke/VarHandle" ∧ (parseMethodDescriptor (yJx35411_hasNext_aae02).desc).map (fun d => d.parameters.length) = some 0 := ⟨by decide, by decide, by decide +kernel⟩
theorem m_12_50 : Cond.selects RJx35411 kq_hn yJx35411_hasNext_aae02 ∈ gW := gt_12 50 rfl rfl
theorem m_12_46 : Cond.methodLink RX18 317 kq_hn ∈ gW := gt_12 46 rfl rfl
theorem m_12_52 : Cond.instanceMethod yJx35411_hasNext_aae02 ∈ gW := gt_12 52 rfl rfl
theorem m_13_104 : Cond.code yX18_withWord cX18_withWord 10 (some .int) ∈ gW := gt_13 104 rfl rfl
theorem hd_X18_withWord : (yX18_withWord).cls ≠ "java/lang/invoke/MethodHandle" ∧ (yX18_withWord).cls ≠ "java/lang/invoke/VarHandle" ∧ (parseMethodDescriptor (yX18_withWord).desc).map (fun d => d.parameters.length) = some 1 := ⟨by decide, by decide, by decide +kernel⟩
theorem m_13_101 : Cond.methodLink RL 331 yX18_withWord ∈ gW := gt_13 101 rfl rfl
theorem m_13_102 : Cond.instanceMethod yX18_withWord ∈ gW := gt_13 102 rfl rfl
theorem m_13_103 : Cond.selects RX18 yX18_withWord yX18_withWord ∈ gW := gt_13 103 rfl rfl
theorem m_8_151 : Cond.code yX11_conflicts cX11_conflicts 3 (some .int) ∈ gW := gt_8 151 rfl rfl
theorem hd_X11_conflicts : (yX11_conflicts).cls ≠ "java/lang/invoke/MethodHandle" ∧ (yX11_conflicts).cls ≠ "java/lang/invoke/VarHandle" ∧ (parseMethodDescriptor (yX11_conflicts).desc).map (fun d => d.parameters.length) = some 2 := ⟨by decide, by decide, by decide +kernel⟩
theorem m_8_148 : Cond.methodLink RL 139 yX11_conflicts ∈ gW := gt_8 148 rfl rfl
theorem m_8_149 : Cond.instanceMethod yX11_conflicts ∈ gW := gt_8 149 rfl rfl
theorem m_8_150 : Cond.selects RX11 yX11_conflicts yX11_conflicts ∈ gW := gt_8 150 rfl rfl
theorem m_8_147 : Cond.codeWith yL_conflicts cL_conflicts 5 (some .int) [(0, 10, 13, 21), (0, 10, 17, 13), (0, 10, 21, 23)] ∈ gW := gt_8 147 rfl rfl
theorem hd_L_conflicts : (yL_conflicts).cls ≠ "java/lang/invoke/MethodHandle" ∧ (yL_conflicts).cls ≠ "java/lang/invoke/VarHandle" ∧ (parseMethodDescriptor (yL_conflicts).desc).map (fun d => d.parameters.length) = some 4 := ⟨by decide, by decide, by decide +kernel⟩
theorem m_8_145 : Cond.methodLink RL 332 yL_conflicts ∈ gW := gt_8 145 rfl rfl
theorem m_8_146 : Cond.static yL_conflicts ∈ gW := gt_8 146 rfl rfl
theorem m_13_108 : Cond.code yX18_conflicts cX18_conflicts 3 (some .int) ∈ gW := gt_13 108 rfl rfl
theorem hd_X18_conflicts : (yX18_conflicts).cls ≠ "java/lang/invoke/MethodHandle" ∧ (yX18_conflicts).cls ≠ "java/lang/invoke/VarHandle" ∧ (parseMethodDescriptor (yX18_conflicts).desc).map (fun d => d.parameters.length) = some 2 := ⟨by decide, by decide, by decide +kernel⟩
theorem m_13_105 : Cond.methodLink RL 334 yX18_conflicts ∈ gW := gt_13 105 rfl rfl
theorem m_13_106 : Cond.instanceMethod yX18_conflicts ∈ gW := gt_13 106 rfl rfl
theorem m_13_107 : Cond.selects RX18 yX18_conflicts yX18_conflicts ∈ gW := gt_13 107 rfl rfl
theorem n_s19 : (RX11, 536, "no such land") ∈ gStr := List.mem_of_getElem? (i := 19) rfl
theorem m_7_74 : Cond.code yX11_needLand cX11_needLand 2 none ∈ gW := gt_7 74 rfl rfl
theorem hd_X11_needLand : (yX11_needLand).cls ≠ "java/lang/invoke/MethodHandle" ∧ (yX11_needLand).cls ≠ "java/lang/invoke/VarHandle" ∧ (parseMethodDescriptor (yX11_needLand).desc).map (fun d => d.parameters.length) = some 1 := ⟨by decide, by decide, by decide +kernel⟩
theorem m_7_71 : Cond.methodLink RX11 266 yX11_needLand ∈ gW := gt_7 71 rfl rfl
theorem m_7_73 : Cond.instanceMethod yX11_needLand ∈ gW := gt_7 73 rfl rfl
theorem m_s_45 : Cond.selects RX11 yX11_needLand yX11_needLand ∈ gW := gt_s (q := (yX11_needLand, 14)) 45 rfl
theorem m_2_167 : Cond.fieldLink RX2 49 "Blazonry$Roll" "count" "I" ∈ gW := gt_2 167 rfl rfl
theorem m_8_162 : Cond.code yX2_inspect cX2_inspect 6 (some .int) ∈ gW := gt_8 162 rfl rfl
theorem hd_X2_inspect : (yX2_inspect).cls ≠ "java/lang/invoke/MethodHandle" ∧ (yX2_inspect).cls ≠ "java/lang/invoke/VarHandle" ∧ (parseMethodDescriptor (yX2_inspect).desc).map (fun d => d.parameters.length) = some 2 := ⟨by decide, by decide, by decide +kernel⟩
theorem m_8_159 : Cond.methodLink RX11 360 yX2_inspect ∈ gW := gt_8 159 rfl rfl
theorem m_8_160 : Cond.instanceMethod yX2_inspect ∈ gW := gt_8 160 rfl rfl
theorem m_8_161 : Cond.selects RX2 yX2_inspect yX2_inspect ∈ gW := gt_8 161 rfl rfl
theorem m_8_158 : Cond.code yX11_visit cX11_visit 3 (some .int) ∈ gW := gt_8 158 rfl rfl
theorem hd_X11_visit : (yX11_visit).cls ≠ "java/lang/invoke/MethodHandle" ∧ (yX11_visit).cls ≠ "java/lang/invoke/VarHandle" ∧ (parseMethodDescriptor (yX11_visit).desc).map (fun d => d.parameters.length) = some 1 := ⟨by decide, by decide, by decide +kernel⟩
theorem m_8_155 : Cond.methodLink RL 142 yX11_visit ∈ gW := gt_8 155 rfl rfl
theorem m_8_156 : Cond.instanceMethod yX11_visit ∈ gW := gt_8 156 rfl rfl
theorem m_8_157 : Cond.selects RX11 yX11_visit yX11_visit ∈ gW := gt_8 157 rfl rfl
theorem m_8_154 : Cond.codeWith yL_visit cL_visit 4 (some .int) [(0, 9, 12, 13)] ∈ gW := gt_8 154 rfl rfl
theorem hd_L_visit : (yL_visit).cls ≠ "java/lang/invoke/MethodHandle" ∧ (yL_visit).cls ≠ "java/lang/invoke/VarHandle" ∧ (parseMethodDescriptor (yL_visit).desc).map (fun d => d.parameters.length) = some 3 := ⟨by decide, by decide, by decide +kernel⟩
theorem m_8_152 : Cond.methodLink RL 335 yL_visit ∈ gW := gt_8 152 rfl rfl
theorem m_8_153 : Cond.static yL_visit ∈ gW := gt_8 153 rfl rfl
theorem m_13_112 : Cond.code yX18_visit cX18_visit 8 (some .int) ∈ gW := gt_13 112 rfl rfl
theorem hd_X18_visit : (yX18_visit).cls ≠ "java/lang/invoke/MethodHandle" ∧ (yX18_visit).cls ≠ "java/lang/invoke/VarHandle" ∧ (parseMethodDescriptor (yX18_visit).desc).map (fun d => d.parameters.length) = some 1 := ⟨by decide, by decide, by decide +kernel⟩
theorem m_13_109 : Cond.methodLink RL 337 yX18_visit ∈ gW := gt_13 109 rfl rfl
theorem m_13_110 : Cond.instanceMethod yX18_visit ∈ gW := gt_13 110 rfl rfl
theorem m_13_111 : Cond.selects RX18 yX18_visit yX18_visit ∈ gW := gt_13 111 rfl rfl
theorem m_3_84 : Cond.fieldLink RX11 363 "Blazonry$Court" "disclaimedCount" "I" ∈ gW := gt_3 84 rfl rfl
theorem m_3_236 : Cond.code yX11_disclaimed cX11_disclaimed 1 (some .int) ∈ gW := gt_3 236 rfl rfl
theorem hd_X11_disclaimed : (yX11_disclaimed).cls ≠ "java/lang/invoke/MethodHandle" ∧ (yX11_disclaimed).cls ≠ "java/lang/invoke/VarHandle" ∧ (parseMethodDescriptor (yX11_disclaimed).desc).map (fun d => d.parameters.length) = some 0 := ⟨by decide, by decide, by decide +kernel⟩
theorem m_3_233 : Cond.methodLink RL 338 yX11_disclaimed ∈ gW := gt_3 233 rfl rfl
theorem m_3_234 : Cond.instanceMethod yX11_disclaimed ∈ gW := gt_3 234 rfl rfl
theorem m_3_235 : Cond.selects RX11 yX11_disclaimed yX11_disclaimed ∈ gW := gt_3 235 rfl rfl
theorem m_10_5 : Cond.fieldLink RX18 505 "BlazonryModel" "disclaimed" "I" ∈ gW := gt_10 5 rfl rfl
theorem m_13_124 : Cond.code yX18_disclaimed cX18_disclaimed 1 (some .int) ∈ gW := gt_13 124 rfl rfl
theorem hd_X18_disclaimed : (yX18_disclaimed).cls ≠ "java/lang/invoke/MethodHandle" ∧ (yX18_disclaimed).cls ≠ "java/lang/invoke/VarHandle" ∧ (parseMethodDescriptor (yX18_disclaimed).desc).map (fun d => d.parameters.length) = some 0 := ⟨by decide, by decide, by decide +kernel⟩
theorem m_13_121 : Cond.methodLink RL 341 yX18_disclaimed ∈ gW := gt_13 121 rfl rfl
theorem m_13_122 : Cond.instanceMethod yX18_disclaimed ∈ gW := gt_13 122 rfl rfl
theorem m_13_123 : Cond.selects RX18 yX18_disclaimed yX18_disclaimed ∈ gW := gt_13 123 rfl rfl
theorem m_8_186 : Cond.code yX11_sue cX11_sue 4 (some .int) ∈ gW := gt_8 186 rfl rfl
theorem hd_X11_sue : (yX11_sue).cls ≠ "java/lang/invoke/MethodHandle" ∧ (yX11_sue).cls ≠ "java/lang/invoke/VarHandle" ∧ (parseMethodDescriptor (yX11_sue).desc).map (fun d => d.parameters.length) = some 2 := ⟨by decide, by decide, by decide +kernel⟩
theorem m_8_183 : Cond.methodLink RL 145 yX11_sue ∈ gW := gt_8 183 rfl rfl
theorem m_8_184 : Cond.instanceMethod yX11_sue ∈ gW := gt_8 184 rfl rfl
theorem m_8_185 : Cond.selects RX11 yX11_sue yX11_sue ∈ gW := gt_8 185 rfl rfl
theorem m_8_182 : Cond.codeWith yL_sue cL_sue 5 (some .int) [(0, 10, 13, 21), (0, 10, 17, 23), (0, 10, 21, 15)] ∈ gW := gt_8 182 rfl rfl
theorem hd_L_sue : (yL_sue).cls ≠ "java/lang/invoke/MethodHandle" ∧ (yL_sue).cls ≠ "java/lang/invoke/VarHandle" ∧ (parseMethodDescriptor (yL_sue).desc).map (fun d => d.parameters.length) = some 4 := ⟨by decide, by decide, by decide +kernel⟩
theorem m_8_180 : Cond.methodLink RL 342 yL_sue ∈ gW := gt_8 180 rfl rfl
theorem m_8_181 : Cond.static yL_sue ∈ gW := gt_8 181 rfl rfl
theorem m_13_128 : Cond.code yX18_sue cX18_sue 16 (some .int) ∈ gW := gt_13 128 rfl rfl
theorem hd_X18_sue : (yX18_sue).cls ≠ "java/lang/invoke/MethodHandle" ∧ (yX18_sue).cls ≠ "java/lang/invoke/VarHandle" ∧ (parseMethodDescriptor (yX18_sue).desc).map (fun d => d.parameters.length) = some 2 := ⟨by decide, by decide, by decide +kernel⟩
theorem m_13_125 : Cond.methodLink RL 344 yX18_sue ∈ gW := gt_13 125 rfl rfl
theorem m_13_126 : Cond.instanceMethod yX18_sue ∈ gW := gt_13 126 rfl rfl
theorem m_13_127 : Cond.selects RX18 yX18_sue yX18_sue ∈ gW := gt_13 127 rfl rfl
theorem n_s30 : (RX11, 534, "no such judgment") ∈ gStr := List.mem_of_getElem? (i := 30) rfl
theorem m_3_82 : Cond.fieldLink RX11 533 "Blazonry$Court" "count" "I" ∈ gW := gt_3 82 rfl rfl
theorem m_8_228 : Cond.code yX11_needJudgment cX11_needJudgment 2 none ∈ gW := gt_8 228 rfl rfl
theorem hd_X11_needJudgment : (yX11_needJudgment).cls ≠ "java/lang/invoke/MethodHandle" ∧ (yX11_needJudgment).cls ≠ "java/lang/invoke/VarHandle" ∧ (parseMethodDescriptor (yX11_needJudgment).desc).map (fun d => d.parameters.length) = some 1 := ⟨by decide, by decide, by decide +kernel⟩
theorem m_8_225 : Cond.methodLink RX11 377 yX11_needJudgment ∈ gW := gt_8 225 rfl rfl
theorem m_8_227 : Cond.instanceMethod yX11_needJudgment ∈ gW := gt_8 227 rfl rfl
theorem m_s_59 : Cond.selects RX11 yX11_needJudgment yX11_needJudgment ∈ gW := gt_s (q := (yX11_needJudgment, 14)) 59 rfl
theorem m_8_224 : Cond.code yX11_judged cX11_judged 2 (some .char) ∈ gW := gt_8 224 rfl rfl
theorem hd_X11_judged : (yX11_judged).cls ≠ "java/lang/invoke/MethodHandle" ∧ (yX11_judged).cls ≠ "java/lang/invoke/VarHandle" ∧ (parseMethodDescriptor (yX11_judged).desc).map (fun d => d.parameters.length) = some 1 := ⟨by decide, by decide, by decide +kernel⟩
theorem m_8_221 : Cond.methodLink RL 148 yX11_judged ∈ gW := gt_8 221 rfl rfl
theorem m_8_222 : Cond.instanceMethod yX11_judged ∈ gW := gt_8 222 rfl rfl
theorem m_8_223 : Cond.selects RX11 yX11_judged yX11_judged ∈ gW := gt_8 223 rfl rfl
theorem m_8_220 : Cond.codeWith yL_judged cL_judged 4 (some .int) [(0, 9, 12, 21)] ∈ gW := gt_8 220 rfl rfl
theorem hd_L_judged : (yL_judged).cls ≠ "java/lang/invoke/MethodHandle" ∧ (yL_judged).cls ≠ "java/lang/invoke/VarHandle" ∧ (parseMethodDescriptor (yL_judged).desc).map (fun d => d.parameters.length) = some 3 := ⟨by decide, by decide, by decide +kernel⟩
theorem m_8_218 : Cond.methodLink RL 345 yL_judged ∈ gW := gt_8 218 rfl rfl
theorem m_8_219 : Cond.static yL_judged ∈ gW := gt_8 219 rfl rfl
theorem m_13_186 : Cond.code yX18_failsJudgment cX18_failsJudgment 2 (some .boolean) ∈ gW := gt_13 186 rfl rfl
theorem hd_X18_failsJudgment : (yX18_failsJudgment).cls ≠ "java/lang/invoke/MethodHandle" ∧ (yX18_failsJudgment).cls ≠ "java/lang/invoke/VarHandle" ∧ (parseMethodDescriptor (yX18_failsJudgment).desc).map (fun d => d.parameters.length) = some 1 := ⟨by decide, by decide, by decide +kernel⟩
theorem m_13_183 : Cond.methodLink RX18 536 yX18_failsJudgment ∈ gW := gt_13 183 rfl rfl
theorem m_13_185 : Cond.instanceMethod yX18_failsJudgment ∈ gW := gt_13 185 rfl rfl
theorem m_s_115 : Cond.selects RX18 yX18_failsJudgment yX18_failsJudgment ∈ gW := gt_s (q := (yX18_failsJudgment, 28)) 115 rfl
theorem m_13_182 : Cond.code yX18_judged cX18_judged 2 (some .char) ∈ gW := gt_13 182 rfl rfl
theorem hd_X18_judged : (yX18_judged).cls ≠ "java/lang/invoke/MethodHandle" ∧ (yX18_judged).cls ≠ "java/lang/invoke/VarHandle" ∧ (parseMethodDescriptor (yX18_judged).desc).map (fun d => d.parameters.length) = some 1 := ⟨by decide, by decide, by decide +kernel⟩
theorem m_13_179 : Cond.methodLink RL 347 yX18_judged ∈ gW := gt_13 179 rfl rfl
theorem m_13_180 : Cond.instanceMethod yX18_judged ∈ gW := gt_13 180 rfl rfl
theorem m_13_181 : Cond.selects RX18 yX18_judged yX18_judged ∈ gW := gt_13 181 rfl rfl
theorem m_8_237 : Cond.code yX11_stands cX11_stands 2 (some .boolean) ∈ gW := gt_8 237 rfl rfl
theorem hd_X11_stands : (yX11_stands).cls ≠ "java/lang/invoke/MethodHandle" ∧ (yX11_stands).cls ≠ "java/lang/invoke/VarHandle" ∧ (parseMethodDescriptor (yX11_stands).desc).map (fun d => d.parameters.length) = some 1 := ⟨by decide, by decide, by decide +kernel⟩
theorem m_8_234 : Cond.methodLink RL 151 yX11_stands ∈ gW := gt_8 234 rfl rfl
theorem m_8_235 : Cond.instanceMethod yX11_stands ∈ gW := gt_8 235 rfl rfl
theorem m_8_236 : Cond.selects RX11 yX11_stands yX11_stands ∈ gW := gt_8 236 rfl rfl
theorem m_8_233 : Cond.codeWith yL_stands cL_stands 4 (some .int) [(0, 16, 19, 21)] ∈ gW := gt_8 233 rfl rfl
theorem hd_L_stands : (yL_stands).cls ≠ "java/lang/invoke/MethodHandle" ∧ (yL_stands).cls ≠ "java/lang/invoke/VarHandle" ∧ (parseMethodDescriptor (yL_stands).desc).map (fun d => d.parameters.length) = some 3 := ⟨by decide, by decide, by decide +kernel⟩
theorem m_8_231 : Cond.methodLink RL 348 yL_stands ∈ gW := gt_8 231 rfl rfl
theorem m_8_232 : Cond.static yL_stands ∈ gW := gt_8 232 rfl rfl
theorem m_13_190 : Cond.code yX18_stands cX18_stands 2 (some .boolean) ∈ gW := gt_13 190 rfl rfl
theorem hd_X18_stands : (yX18_stands).cls ≠ "java/lang/invoke/MethodHandle" ∧ (yX18_stands).cls ≠ "java/lang/invoke/VarHandle" ∧ (parseMethodDescriptor (yX18_stands).desc).map (fun d => d.parameters.length) = some 1 := ⟨by decide, by decide, by decide +kernel⟩
theorem m_13_187 : Cond.methodLink RL 350 yX18_stands ∈ gW := gt_13 187 rfl rfl
theorem m_13_188 : Cond.instanceMethod yX18_stands ∈ gW := gt_13 188 rfl rfl
theorem m_13_189 : Cond.selects RX18 yX18_stands yX18_stands ∈ gW := gt_13 189 rfl rfl
theorem n_s31 : (RX11, 384, "no such class") ∈ gStr := List.mem_of_getElem? (i := 31) rfl
theorem m_3_81 : Cond.fieldLink RX2 105 "Blazonry$Court" "count" "I" ∈ gW := gt_3 81 rfl rfl
theorem m_4_106 : Cond.code yJ9_min_7cf53 cJ9_min_7cf53 2 (some .int) ∈ gW := gt_4 106 rfl rfl
theorem hd_J9_min_7cf53 : (yJ9_min_7cf53).cls ≠ "java/lang/invoke/MethodHandle" ∧ (yJ9_min_7cf53).cls ≠ "java/lang/invoke/VarHandle" ∧ (parseMethodDescriptor (yJ9_min_7cf53).desc).map (fun d => d.parameters.length) = some 2 := ⟨by decide, by decide, by decide +kernel⟩
theorem m_8_205 : Cond.methodLink RX2 109 yJ9_min_7cf53 ∈ gW := gt_8 205 rfl rfl
theorem m_4_105 : Cond.static yJ9_min_7cf53 ∈ gW := gt_4 105 rfl rfl
theorem m_8_204 : Cond.code yX2_latest cX2_latest 4 (some .int) ∈ gW := gt_8 204 rfl rfl
theorem hd_X2_latest : (yX2_latest).cls ≠ "java/lang/invoke/MethodHandle" ∧ (yX2_latest).cls ≠ "java/lang/invoke/VarHandle" ∧ (parseMethodDescriptor (yX2_latest).desc).map (fun d => d.parameters.length) = some 2 := ⟨by decide, by decide, by decide +kernel⟩
theorem m_9_10 : Cond.methodLink RX11 386 yX2_latest ∈ gW := gt_9 10 rfl rfl
theorem m_8_202 : Cond.instanceMethod yX2_latest ∈ gW := gt_8 202 rfl rfl
theorem m_8_203 : Cond.selects RX2 yX2_latest yX2_latest ∈ gW := gt_8 203 rfl rfl
theorem n_s32 : (RX11, 389, "no precedent") ∈ gStr := List.mem_of_getElem? (i := 32) rfl
def sb_ta_X11_160 : List Cond := [(Jvm.Cond.initialized "java/lang/Throwable"), (Jvm.Cond.initialized "java/lang/Exception"), (Jvm.Cond.initialized "java/lang/RuntimeException"), (Jvm.Cond.initialized "java/util/NoSuchElementException"), (Jvm.Cond.instanceMethod ({ cls := "java/lang/Object", name := "<init>", desc := "()V" } : Jvm.MethodName)), (Jvm.Cond.code ({ cls := "java/lang/Object", name := "<init>", desc := "()V" } : Jvm.MethodName) object_method_1_code (1 : Nat) (Option.none : Option Jvm.ClassFile.FieldType)), (Jvm.Cond.lays "java/lang/Throwable" "java/lang/Throwable" "cause" "Ljava/lang/Throwable;"), (Jvm.Cond.lays "java/lang/Throwable" "java/lang/Throwable" "stackTrace" "[Ljava/lang/StackTraceElement;"), (Jvm.Cond.lays "java/lang/Throwable" "java/lang/Throwable" "suppressedExceptions" "Ljava/util/List;"), (Jvm.Cond.lays "java/lang/Throwable" "java/lang/Throwable" "detailMessage" "Ljava/lang/String;"), (Jvm.Cond.lays "java/lang/Throwable" "java/lang/Throwable" "backtrace" "Ljava/lang/Object;"), (Jvm.Cond.fieldLink "java/lang/Throwable" (198 : Nat) "java/lang/Throwable" "backtrace" "Ljava/lang/Object;"), (Jvm.Cond.superclass "java/lang/Throwable" "java/lang/Object"), (Jvm.Cond.instanceMethod ({ cls := "java/lang/Throwable", name := "<init>", desc := "()V" } : Jvm.MethodName)), (Jvm.Cond.code ({ cls := "java/lang/Throwable", name := "<init>", desc := "()V" } : Jvm.MethodName) prog_36_method_1_code (1 : Nat) (Option.none : Option Jvm.ClassFile.FieldType)), (Jvm.Cond.methodLink "java/lang/Throwable" (1 : Nat) ({ cls := "java/lang/Object", name := "<init>", desc := "()V" } : Jvm.MethodName)), (Jvm.Cond.fieldLink "java/lang/Throwable" (13 : Nat) "java/lang/Throwable" "UNASSIGNED_STACK" "[Ljava/lang/StackTraceElement;"), (Jvm.Cond.fieldLink "java/lang/Throwable" (20 : Nat) "java/lang/Throwable" "SUPPRESSED_SENTINEL" "Ljava/util/List;"), (Jvm.Cond.methodLink "java/lang/Throwable" (27 : Nat) ({ cls := "java/lang/Throwable", name := "fillInStackTrace", desc := "()Ljava/lang/Throwable;" } : Jvm.MethodName)), (Jvm.Cond.instanceMethod ({ cls := "java/lang/Throwable", name := "fillInStackTrace", desc := "()Ljava/lang/Throwable;" } : Jvm.MethodName)), (Jvm.Cond.sameMethod "java/lang/Throwable" "java/lang/Throwable" "fillInStackTrace" "()Ljava/lang/Throwable;"), (Jvm.Cond.selects "java/util/NoSuchElementException" ({ cls := "java/lang/Throwable", name := "fillInStackTrace", desc := "()Ljava/lang/Throwable;" } : Jvm.MethodName) ({ cls := "java/lang/Throwable", name := "fillInStackTrace", desc := "()Ljava/lang/Throwable;" } : Jvm.MethodName)), (Jvm.Cond.codeSync ({ cls := "java/lang/Throwable", name := "fillInStackTrace", desc := "()Ljava/lang/Throwable;" } : Jvm.MethodName) prog_36_method_18_code (1 : Nat) (Option.some (Jvm.ClassFile.FieldType.object "java/lang/Throwable"))), (Jvm.Cond.methodLink "java/lang/Throwable" (202 : Nat) ({ cls := "java/lang/Throwable", name := "fillInStackTrace", desc := "(I)Ljava/lang/Throwable;" } : Jvm.MethodName)), (Jvm.Cond.instanceMethod ({ cls := "java/lang/Throwable", name := "fillInStackTrace", desc := "(I)Ljava/lang/Throwable;" } : Jvm.MethodName)), (Jvm.Cond.instantiable "java/lang/Throwable" (6 : Nat)), (Jvm.Cond.native ({ cls := "java/lang/Throwable", name := "fillInStackTrace", desc := "(I)Ljava/lang/Throwable;" } : Jvm.MethodName)), (Jvm.Cond.instanceMethod ({ cls := "java/lang/RuntimeException", name := "<init>", desc := "(Ljava/lang/String;)V" } : Jvm.MethodName)), (Jvm.Cond.code ({ cls := "java/lang/RuntimeException", name := "<init>", desc := "(Ljava/lang/String;)V" } : Jvm.MethodName) prog_33_method_2_code (2 : Nat) (Option.none : Option Jvm.ClassFile.FieldType)), (Jvm.Cond.methodLink "java/lang/RuntimeException" (7 : Nat) ({ cls := "java/lang/Exception", name := "<init>", desc := "(Ljava/lang/String;)V" } : Jvm.MethodName)), (Jvm.Cond.instanceMethod ({ cls := "java/lang/Exception", name := "<init>", desc := "(Ljava/lang/String;)V" } : Jvm.MethodName)), (Jvm.Cond.code ({ cls := "java/lang/Exception", name := "<init>", desc := "(Ljava/lang/String;)V" } : Jvm.MethodName) prog_25_method_2_code (2 : Nat) (Option.none : Option Jvm.ClassFile.FieldType)), (Jvm.Cond.methodLink "java/lang/Exception" (7 : Nat) ({ cls := "java/lang/Throwable", name := "<init>", desc := "(Ljava/lang/String;)V" } : Jvm.MethodName)), (Jvm.Cond.instanceMethod ({ cls := "java/lang/Throwable", name := "<init>", desc := "(Ljava/lang/String;)V" } : Jvm.MethodName)), (Jvm.Cond.code ({ cls := "java/lang/Throwable", name := "<init>", desc := "(Ljava/lang/String;)V" } : Jvm.MethodName) prog_36_method_2_code (2 : Nat) (Option.none : Option Jvm.ClassFile.FieldType)), (Jvm.Cond.fieldLink "java/lang/Throwable" (31 : Nat) "java/lang/Throwable" "detailMessage" "Ljava/lang/String;"), (Jvm.Cond.fieldLink "java/lang/Throwable" (7 : Nat) "java/lang/Throwable" "cause" "Ljava/lang/Throwable;"), (Jvm.Cond.fieldLink "java/lang/Throwable" (17 : Nat) "java/lang/Throwable" "stackTrace" "[Ljava/lang/StackTraceElement;"), (Jvm.Cond.fieldLink "java/lang/Throwable" (24 : Nat) "java/lang/Throwable" "suppressedExceptions" "Ljava/util/List;"), (Jvm.Cond.soleField "java/lang/Throwable" "backtrace"), (Jvm.Cond.soleField "java/lang/Throwable" "detailMessage"), (Jvm.Cond.soleField "java/lang/Throwable" "cause"), (Jvm.Cond.soleField "java/lang/Throwable" "stackTrace"), (Jvm.Cond.soleField "java/lang/Throwable" "depth"), (Jvm.Cond.soleField "java/lang/Throwable" "suppressedExceptions"), (Jvm.Cond.instantiable "java/util/NoSuchElementException" (6 : Nat)), (Jvm.Cond.selects "java/util/NoSuchElementException" ({ cls := "java/lang/Throwable", name := "fillInStackTrace", desc := "(I)Ljava/lang/Throwable;" } : Jvm.MethodName) ({ cls := "java/lang/Throwable", name := "fillInStackTrace", desc := "(I)Ljava/lang/Throwable;" } : Jvm.MethodName)), (Jvm.Cond.lays "java/util/NoSuchElementException" "java/lang/Throwable" "cause" "Ljava/lang/Throwable;"), (Jvm.Cond.lays "java/util/NoSuchElementException" "java/lang/Throwable" "stackTrace" "[Ljava/lang/StackTraceElement;"), (Jvm.Cond.lays "java/util/NoSuchElementException" "java/lang/Throwable" "suppressedExceptions" "Ljava/util/List;"), (Jvm.Cond.lays "java/util/NoSuchElementException" "java/lang/Throwable" "detailMessage" "Ljava/lang/String;"), (Jvm.Cond.lays "java/util/NoSuchElementException" "java/lang/Throwable" "backtrace" "Ljava/lang/Object;"), (Jvm.Cond.methodLink "Blazonry" (160 : Nat) ({ cls := "java/util/NoSuchElementException", name := "<init>", desc := "(Ljava/lang/String;)V" } : Jvm.MethodName)), (Jvm.Cond.instanceMethod ({ cls := "java/util/NoSuchElementException", name := "<init>", desc := "(Ljava/lang/String;)V" } : Jvm.MethodName)), (Jvm.Cond.code ({ cls := "java/util/NoSuchElementException", name := "<init>", desc := "(Ljava/lang/String;)V" } : Jvm.MethodName) prog_46_method_4_code (2 : Nat) (Option.none : Option Jvm.ClassFile.FieldType)), (Jvm.Cond.methodLink "java/util/NoSuchElementException" (13 : Nat) ({ cls := "java/lang/RuntimeException", name := "<init>", desc := "(Ljava/lang/String;)V" } : Jvm.MethodName)), (Jvm.Cond.lays "java/util/NoSuchElementException" "java/lang/Throwable" "depth" "I"), (Jvm.Cond.superclass "java/util/NoSuchElementException" "java/lang/RuntimeException"), (Jvm.Cond.instanceMethod ({ cls := "java/lang/Object", name := "getClass", desc := "()Ljava/lang/Class;" } : Jvm.MethodName)), (Jvm.Cond.selects "java/util/NoSuchElementException" ({ cls := "java/lang/Object", name := "getClass", desc := "()Ljava/lang/Class;" } : Jvm.MethodName) ({ cls := "java/lang/Object", name := "getClass", desc := "()Ljava/lang/Class;" } : Jvm.MethodName)), (Jvm.Cond.instanceMethod ({ cls := "java/util/NoSuchElementException", name := "<init>", desc := "()V" } : Jvm.MethodName)), (Jvm.Cond.code ({ cls := "java/util/NoSuchElementException", name := "<init>", desc := "()V" } : Jvm.MethodName) prog_46_method_1_code (1 : Nat) (Option.none : Option Jvm.ClassFile.FieldType)), (Jvm.Cond.methodLink "java/util/NoSuchElementException" (1 : Nat) ({ cls := "java/lang/RuntimeException", name := "<init>", desc := "()V" } : Jvm.MethodName)), (Jvm.Cond.instanceMethod ({ cls := "java/lang/RuntimeException", name := "<init>", desc := "()V" } : Jvm.MethodName)), (Jvm.Cond.code ({ cls := "java/lang/RuntimeException", name := "<init>", desc := "()V" } : Jvm.MethodName) prog_33_method_1_code (1 : Nat) (Option.none : Option Jvm.ClassFile.FieldType)), (Jvm.Cond.methodLink "java/lang/RuntimeException" (1 : Nat) ({ cls := "java/lang/Exception", name := "<init>", desc := "()V" } : Jvm.MethodName)), (Jvm.Cond.instanceMethod ({ cls := "java/lang/Exception", name := "<init>", desc := "()V" } : Jvm.MethodName)), (Jvm.Cond.code ({ cls := "java/lang/Exception", name := "<init>", desc := "()V" } : Jvm.MethodName) prog_25_method_1_code (1 : Nat) (Option.none : Option Jvm.ClassFile.FieldType)), (Jvm.Cond.methodLink "java/lang/Exception" (1 : Nat) ({ cls := "java/lang/Throwable", name := "<init>", desc := "()V" } : Jvm.MethodName)), (Jvm.Cond.sameMethod "java/lang/Throwable" "java/lang/Throwable" "fillInStackTrace" "(I)Ljava/lang/Throwable;")]
theorem sm_ta_X11_160 : ∀ w ∈ sb_ta_X11_160, w ∈ gW := by
  unfold sb_ta_X11_160
  intro w h
  simp only [List.mem_cons, List.not_mem_nil, or_false] at h
  rcases h with rfl | rfl | rfl | rfl | rfl | rfl | rfl | rfl | rfl | rfl | rfl | rfl | rfl | rfl | rfl | rfl | rfl | rfl | rfl | rfl | rfl | rfl | rfl | rfl | rfl | rfl | rfl | rfl | rfl | rfl | rfl | rfl | rfl | rfl | rfl | rfl | rfl | rfl | rfl | rfl | rfl | rfl | rfl | rfl | rfl | rfl | rfl | rfl | rfl | rfl | rfl | rfl | rfl | rfl | rfl | rfl | rfl | rfl | rfl | rfl | rfl | rfl | rfl | rfl | rfl | rfl | rfl | rfl | rfl | rfl
  · exact gt_1 20 rfl rfl
  · exact gt_1 21 rfl rfl
  · exact gt_1 22 rfl rfl
  · exact gt_1 33 rfl rfl
  · exact gt_1 49 rfl rfl
  · exact gt_1 50 rfl rfl
  · exact gt_5 37 rfl rfl
  · exact gt_5 39 rfl rfl
  · exact gt_5 41 rfl rfl
  · exact gt_5 43 rfl rfl
  · exact gt_5 45 rfl rfl
  · exact gt_5 46 rfl rfl
  · exact gt_5 47 rfl rfl
  · exact gt_5 48 rfl rfl
  · exact gt_5 49 rfl rfl
  · exact gt_5 50 rfl rfl
  · exact gt_5 51 rfl rfl
  · exact gt_5 53 rfl rfl
  · exact gt_5 55 rfl rfl
  · exact gt_5 56 rfl rfl
  · exact gt_5 57 rfl rfl
  · exact gt_5 63 rfl rfl
  · exact gt_5 64 rfl rfl
  · exact gt_5 65 rfl rfl
  · exact gt_5 67 rfl rfl
  · exact gt_5 68 rfl rfl
  · exact gt_5 69 rfl rfl
  · exact gt_5 75 rfl rfl
  · exact gt_5 76 rfl rfl
  · exact gt_5 77 rfl rfl
  · exact gt_5 78 rfl rfl
  · exact gt_5 79 rfl rfl
  · exact gt_5 80 rfl rfl
  · exact gt_5 81 rfl rfl
  · exact gt_5 82 rfl rfl
  · exact gt_5 84 rfl rfl
  · exact gt_5 85 rfl rfl
  · exact gt_5 86 rfl rfl
  · exact gt_5 87 rfl rfl
  · exact gt_5 88 rfl rfl
  · exact gt_5 89 rfl rfl
  · exact gt_5 90 rfl rfl
  · exact gt_5 91 rfl rfl
  · exact gt_5 93 rfl rfl
  · exact gt_5 94 rfl rfl
  · exact gt_6 1 rfl rfl
  · exact gt_6 3 rfl rfl
  · exact gt_6 4 rfl rfl
  · exact gt_6 5 rfl rfl
  · exact gt_6 6 rfl rfl
  · exact gt_6 7 rfl rfl
  · exact gt_6 8 rfl rfl
  · exact gt_6 10 rfl rfl
  · exact gt_6 11 rfl rfl
  · exact gt_6 12 rfl rfl
  · exact gt_6 13 rfl rfl
  · exact gt_6 14 rfl rfl
  · exact gt_6 15 rfl rfl
  · exact gt_11 201 rfl rfl
  · exact gt_11 230 rfl rfl
  · exact gt_12 70 rfl rfl
  · exact gt_12 71 rfl rfl
  · exact gt_12 72 rfl rfl
  · exact gt_12 73 rfl rfl
  · exact gt_12 74 rfl rfl
  · exact gt_12 75 rfl rfl
  · exact gt_12 76 rfl rfl
  · exact gt_12 77 rfl rfl
  · exact gt_12 78 rfl rfl
  · exact gt_14 24 rfl rfl
theorem sc_ta_X11_160 : ((kx_atX RX11 160 "java/util/NoSuchElementException" 13 prog_46_method_4_code ["java/lang/RuntimeException", "java/lang/Exception"]).all (fun w => decide (w ∈ sb_ta_X11_160) || (decide (w = Cond.castable "java/util/NoSuchElementException" "java/util/NoSuchElementException") || ([⟨"java/lang/RuntimeException", "<init>", "(Ljava/lang/String;)V"⟩, ⟨"java/lang/Exception", "<init>", "(Ljava/lang/String;)V"⟩, ⟨"java/lang/Throwable", "<init>", "(Ljava/lang/String;)V"⟩, ⟨"java/lang/IndexOutOfBoundsException", "<init>", "(Ljava/lang/String;)V"⟩] : List MethodName).any (fun y => decide (w = Cond.declares y))))) = true := by decide +kernel
theorem so_ta_X11_160 : ((kx_atX RX11 160 "java/util/NoSuchElementException" 13 prog_46_method_4_code ["java/lang/RuntimeException", "java/lang/Exception"]).all vx_ot) = true := by decide +kernel
theorem n_c5 : ("java/util/NoSuchElementException", "java/util/NoSuchElementException") ∈ gCa := List.mem_of_getElem? (i := 5) rfl
theorem ta_X11_160 : (∀ w ∈ kx_atX RX11 160 "java/util/NoSuchElementException" 13 prog_46_method_4_code ["java/lang/RuntimeException", "java/lang/Exception"], w ∈ gW ∨ (∃ q ∈ gCa, w = Cond.castable q.1 q.2) ∨ ∃ y ∈ gDe, w = Cond.declares y) ∧ ∀ w ∈ kx_atX RX11 160 "java/util/NoSuchElementException" 13 prog_46_method_4_code ["java/lang/RuntimeException", "java/lang/Exception"], vx_ot w = true := ⟨fun w h => by
  have h1 := List.all_eq_true.mp sc_ta_X11_160 w h
  simp only [Bool.or_eq_true, decide_eq_true_eq] at h1
  rcases h1 with h1 | h1 | h1
  · exact Or.inl (sm_ta_X11_160 w h1)
  · exact Or.inr (Or.inl ⟨_, n_c5, h1⟩)
  · obtain ⟨y, hy, h2⟩ := List.any_eq_true.mp h1
    exact Or.inr (Or.inr ⟨y, sd_de y hy, of_decide_eq_true h2⟩), List.all_eq_true.mp so_ta_X11_160⟩
theorem nx0 : decode prog_46_method_4_code 0 = .ok (.aload_n 0, 1) := by decide +kernel
theorem nx1 : decode prog_46_method_4_code 1 = .ok (.aload_n 1, 1) := by decide +kernel
theorem nx2 : decode prog_46_method_4_code 2 = .ok (.invokespecial 13, 3) := by decide +kernel
theorem nx5 : decode prog_46_method_4_code 5 = .ok (.return_, 1) := by decide +kernel
theorem m_6_0 : Cond.classLink RX11 156 "java/util/NoSuchElementException" ∈ gW := gt_6 0 rfl rfl
theorem m_1_33 : Cond.initialized "java/util/NoSuchElementException" ∈ gW := gt_1 33 rfl rfl
theorem m_9_8 : Cond.code yX11_precedent cX11_precedent 4 (some .int) ∈ gW := gt_9 8 rfl rfl
theorem hd_X11_precedent : (yX11_precedent).cls ≠ "java/lang/invoke/MethodHandle" ∧ (yX11_precedent).cls ≠ "java/lang/invoke/VarHandle" ∧ (parseMethodDescriptor (yX11_precedent).desc).map (fun d => d.parameters.length) = some 2 := ⟨by decide, by decide, by decide +kernel⟩
theorem m_9_5 : Cond.methodLink RL 154 yX11_precedent ∈ gW := gt_9 5 rfl rfl
theorem m_9_6 : Cond.instanceMethod yX11_precedent ∈ gW := gt_9 6 rfl rfl
theorem m_9_7 : Cond.selects RX11 yX11_precedent yX11_precedent ∈ gW := gt_9 7 rfl rfl
theorem n_n31 : ("java/util/NoSuchElementException", "java/lang/IllegalArgumentException") ∈ gNo := List.mem_of_getElem? (i := 31) rfl
theorem m_5_235 : Cond.classLink RL 36 "java/util/NoSuchElementException" ∈ gW := gt_5 235 rfl rfl
theorem m_9_4 : Cond.codeWith yL_precedent cL_precedent 5 (some .int) [(0, 10, 13, 13), (0, 10, 17, 36)] ∈ gW := gt_9 4 rfl rfl
theorem hd_L_precedent : (yL_precedent).cls ≠ "java/lang/invoke/MethodHandle" ∧ (yL_precedent).cls ≠ "java/lang/invoke/VarHandle" ∧ (parseMethodDescriptor (yL_precedent).desc).map (fun d => d.parameters.length) = some 4 := ⟨by decide, by decide, by decide +kernel⟩
theorem m_9_2 : Cond.methodLink RL 351 yL_precedent ∈ gW := gt_9 2 rfl rfl
theorem m_9_3 : Cond.static yL_precedent ∈ gW := gt_9 3 rfl rfl
theorem m_13_132 : Cond.code yX18_latest cX18_latest 6 (some .int) ∈ gW := gt_13 132 rfl rfl
theorem hd_X18_latest : (yX18_latest).cls ≠ "java/lang/invoke/MethodHandle" ∧ (yX18_latest).cls ≠ "java/lang/invoke/VarHandle" ∧ (parseMethodDescriptor (yX18_latest).desc).map (fun d => d.parameters.length) = some 2 := ⟨by decide, by decide, by decide +kernel⟩
theorem m_13_129 : Cond.methodLink RX18 523 yX18_latest ∈ gW := gt_13 129 rfl rfl
theorem m_13_131 : Cond.instanceMethod yX18_latest ∈ gW := gt_13 131 rfl rfl
theorem m_s_113 : Cond.selects RX18 yX18_latest yX18_latest ∈ gW := gt_s (q := (yX18_latest, 28)) 113 rfl
theorem m_13_194 : Cond.code yX18_precedent cX18_precedent 4 (some .int) ∈ gW := gt_13 194 rfl rfl
theorem hd_X18_precedent : (yX18_precedent).cls ≠ "java/lang/invoke/MethodHandle" ∧ (yX18_precedent).cls ≠ "java/lang/invoke/VarHandle" ∧ (parseMethodDescriptor (yX18_precedent).desc).map (fun d => d.parameters.length) = some 2 := ⟨by decide, by decide, by decide +kernel⟩
theorem m_13_191 : Cond.methodLink RL 353 yX18_precedent ∈ gW := gt_13 191 rfl rfl
theorem m_13_192 : Cond.instanceMethod yX18_precedent ∈ gW := gt_13 192 rfl rfl
theorem m_13_193 : Cond.selects RX18 yX18_precedent yX18_precedent ∈ gW := gt_13 193 rfl rfl
theorem m_9_18 : Cond.code yX11_appeal cX11_appeal 3 (some .int) ∈ gW := gt_9 18 rfl rfl
theorem hd_X11_appeal : (yX11_appeal).cls ≠ "java/lang/invoke/MethodHandle" ∧ (yX11_appeal).cls ≠ "java/lang/invoke/VarHandle" ∧ (parseMethodDescriptor (yX11_appeal).desc).map (fun d => d.parameters.length) = some 1 := ⟨by decide, by decide, by decide +kernel⟩
theorem m_9_15 : Cond.methodLink RL 157 yX11_appeal ∈ gW := gt_9 15 rfl rfl
theorem m_9_16 : Cond.instanceMethod yX11_appeal ∈ gW := gt_9 16 rfl rfl
theorem m_9_17 : Cond.selects RX11 yX11_appeal yX11_appeal ∈ gW := gt_9 17 rfl rfl
theorem m_9_14 : Cond.codeWith yL_appeal cL_appeal 4 (some .int) [(0, 9, 12, 21), (0, 9, 15, 23), (0, 9, 18, 15)] ∈ gW := gt_9 14 rfl rfl
theorem hd_L_appeal : (yL_appeal).cls ≠ "java/lang/invoke/MethodHandle" ∧ (yL_appeal).cls ≠ "java/lang/invoke/VarHandle" ∧ (parseMethodDescriptor (yL_appeal).desc).map (fun d => d.parameters.length) = some 3 := ⟨by decide, by decide, by decide +kernel⟩
theorem m_9_12 : Cond.methodLink RL 354 yL_appeal ∈ gW := gt_9 12 rfl rfl
theorem m_9_13 : Cond.static yL_appeal ∈ gW := gt_9 13 rfl rfl
theorem m_13_198 : Cond.code yX18_appeal cX18_appeal 4 (some .int) ∈ gW := gt_13 198 rfl rfl
theorem hd_X18_appeal : (yX18_appeal).cls ≠ "java/lang/invoke/MethodHandle" ∧ (yX18_appeal).cls ≠ "java/lang/invoke/VarHandle" ∧ (parseMethodDescriptor (yX18_appeal).desc).map (fun d => d.parameters.length) = some 1 := ⟨by decide, by decide, by decide +kernel⟩
theorem m_13_195 : Cond.methodLink RL 356 yX18_appeal ∈ gW := gt_13 195 rfl rfl
theorem m_13_196 : Cond.instanceMethod yX18_appeal ∈ gW := gt_13 196 rfl rfl
theorem m_13_197 : Cond.selects RX18 yX18_appeal yX18_appeal ∈ gW := gt_13 197 rfl rfl
theorem m_9_35 : Cond.code yX11_setRank cX11_setRank 3 (some .int) ∈ gW := gt_9 35 rfl rfl
theorem hd_X11_setRank : (yX11_setRank).cls ≠ "java/lang/invoke/MethodHandle" ∧ (yX11_setRank).cls ≠ "java/lang/invoke/VarHandle" ∧ (parseMethodDescriptor (yX11_setRank).desc).map (fun d => d.parameters.length) = some 2 := ⟨by decide, by decide, by decide +kernel⟩
theorem m_9_32 : Cond.methodLink RL 160 yX11_setRank ∈ gW := gt_9 32 rfl rfl
theorem m_9_33 : Cond.instanceMethod yX11_setRank ∈ gW := gt_9 33 rfl rfl
theorem m_9_34 : Cond.selects RX11 yX11_setRank yX11_setRank ∈ gW := gt_9 34 rfl rfl
theorem m_9_31 : Cond.codeWith yL_setRank cL_setRank 5 (some .int) [(0, 10, 13, 21), (0, 10, 17, 13)] ∈ gW := gt_9 31 rfl rfl
theorem hd_L_setRank : (yL_setRank).cls ≠ "java/lang/invoke/MethodHandle" ∧ (yL_setRank).cls ≠ "java/lang/invoke/VarHandle" ∧ (parseMethodDescriptor (yL_setRank).desc).map (fun d => d.parameters.length) = some 4 := ⟨by decide, by decide, by decide +kernel⟩
theorem m_9_29 : Cond.methodLink RL 357 yL_setRank ∈ gW := gt_9 29 rfl rfl
theorem m_9_30 : Cond.static yL_setRank ∈ gW := gt_9 30 rfl rfl
theorem m_13_202 : Cond.code yX18_setRank cX18_setRank 4 (some .int) ∈ gW := gt_13 202 rfl rfl
theorem hd_X18_setRank : (yX18_setRank).cls ≠ "java/lang/invoke/MethodHandle" ∧ (yX18_setRank).cls ≠ "java/lang/invoke/VarHandle" ∧ (parseMethodDescriptor (yX18_setRank).desc).map (fun d => d.parameters.length) = some 2 := ⟨by decide, by decide, by decide +kernel⟩
theorem m_13_199 : Cond.methodLink RL 359 yX18_setRank ∈ gW := gt_13 199 rfl rfl
theorem m_13_200 : Cond.instanceMethod yX18_setRank ∈ gW := gt_13 200 rfl rfl
theorem m_13_201 : Cond.selects RX18 yX18_setRank yX18_setRank ∈ gW := gt_13 201 rfl rfl
theorem m_9_48 : Cond.code yX11_setCrest cX11_setCrest 3 (some .int) ∈ gW := gt_9 48 rfl rfl
theorem hd_X11_setCrest : (yX11_setCrest).cls ≠ "java/lang/invoke/MethodHandle" ∧ (yX11_setCrest).cls ≠ "java/lang/invoke/VarHandle" ∧ (parseMethodDescriptor (yX11_setCrest).desc).map (fun d => d.parameters.length) = some 2 := ⟨by decide, by decide, by decide +kernel⟩
theorem m_9_45 : Cond.methodLink RL 163 yX11_setCrest ∈ gW := gt_9 45 rfl rfl
theorem m_9_46 : Cond.instanceMethod yX11_setCrest ∈ gW := gt_9 46 rfl rfl
theorem m_9_47 : Cond.selects RX11 yX11_setCrest yX11_setCrest ∈ gW := gt_9 47 rfl rfl
theorem m_9_44 : Cond.codeWith yL_setCrest cL_setCrest 5 (some .int) [(0, 10, 13, 21), (0, 10, 17, 13)] ∈ gW := gt_9 44 rfl rfl
theorem hd_L_setCrest : (yL_setCrest).cls ≠ "java/lang/invoke/MethodHandle" ∧ (yL_setCrest).cls ≠ "java/lang/invoke/VarHandle" ∧ (parseMethodDescriptor (yL_setCrest).desc).map (fun d => d.parameters.length) = some 4 := ⟨by decide, by decide, by decide +kernel⟩
theorem m_9_42 : Cond.methodLink RL 360 yL_setCrest ∈ gW := gt_9 42 rfl rfl
theorem m_9_43 : Cond.static yL_setCrest ∈ gW := gt_9 43 rfl rfl
theorem m_13_206 : Cond.code yX18_setCrest cX18_setCrest 4 (some .int) ∈ gW := gt_13 206 rfl rfl
theorem hd_X18_setCrest : (yX18_setCrest).cls ≠ "java/lang/invoke/MethodHandle" ∧ (yX18_setCrest).cls ≠ "java/lang/invoke/VarHandle" ∧ (parseMethodDescriptor (yX18_setCrest).desc).map (fun d => d.parameters.length) = some 2 := ⟨by decide, by decide, by decide +kernel⟩
theorem m_13_203 : Cond.methodLink RL 362 yX18_setCrest ∈ gW := gt_13 203 rfl rfl
theorem m_13_204 : Cond.instanceMethod yX18_setCrest ∈ gW := gt_13 204 rfl rfl
theorem m_13_205 : Cond.selects RX18 yX18_setCrest yX18_setCrest ∈ gW := gt_13 205 rfl rfl
theorem m_9_64 : Cond.code yX11_crest cX11_crest 3 (some .int) ∈ gW := gt_9 64 rfl rfl
theorem hd_X11_crest : (yX11_crest).cls ≠ "java/lang/invoke/MethodHandle" ∧ (yX11_crest).cls ≠ "java/lang/invoke/VarHandle" ∧ (parseMethodDescriptor (yX11_crest).desc).map (fun d => d.parameters.length) = some 1 := ⟨by decide, by decide, by decide +kernel⟩
theorem m_9_61 : Cond.methodLink RL 166 yX11_crest ∈ gW := gt_9 61 rfl rfl
theorem m_9_62 : Cond.instanceMethod yX11_crest ∈ gW := gt_9 62 rfl rfl
theorem m_9_63 : Cond.selects RX11 yX11_crest yX11_crest ∈ gW := gt_9 63 rfl rfl
theorem m_9_60 : Cond.codeWith yL_crest cL_crest 4 (some .int) [(0, 9, 12, 21), (0, 9, 15, 36)] ∈ gW := gt_9 60 rfl rfl
theorem hd_L_crest : (yL_crest).cls ≠ "java/lang/invoke/MethodHandle" ∧ (yL_crest).cls ≠ "java/lang/invoke/VarHandle" ∧ (parseMethodDescriptor (yL_crest).desc).map (fun d => d.parameters.length) = some 3 := ⟨by decide, by decide, by decide +kernel⟩
theorem m_9_58 : Cond.methodLink RL 363 yL_crest ∈ gW := gt_9 58 rfl rfl
theorem m_9_59 : Cond.static yL_crest ∈ gW := gt_9 59 rfl rfl
theorem m_13_210 : Cond.code yX18_crest cX18_crest 3 (some .int) ∈ gW := gt_13 210 rfl rfl
theorem hd_X18_crest : (yX18_crest).cls ≠ "java/lang/invoke/MethodHandle" ∧ (yX18_crest).cls ≠ "java/lang/invoke/VarHandle" ∧ (parseMethodDescriptor (yX18_crest).desc).map (fun d => d.parameters.length) = some 1 := ⟨by decide, by decide, by decide +kernel⟩
theorem m_13_207 : Cond.methodLink RL 365 yX18_crest ∈ gW := gt_13 207 rfl rfl
theorem m_13_208 : Cond.instanceMethod yX18_crest ∈ gW := gt_13 208 rfl rfl
theorem m_13_209 : Cond.selects RX18 yX18_crest yX18_crest ∈ gW := gt_13 209 rfl rfl
theorem m_9_82 : Cond.code yX11_setSupporters cX11_setSupporters 4 (some .boolean) ∈ gW := gt_9 82 rfl rfl
theorem hd_X11_setSupporters : (yX11_setSupporters).cls ≠ "java/lang/invoke/MethodHandle" ∧ (yX11_setSupporters).cls ≠ "java/lang/invoke/VarHandle" ∧ (parseMethodDescriptor (yX11_setSupporters).desc).map (fun d => d.parameters.length) = some 3 := ⟨by decide, by decide, by decide +kernel⟩
theorem m_9_79 : Cond.methodLink RL 169 yX11_setSupporters ∈ gW := gt_9 79 rfl rfl
theorem m_9_80 : Cond.instanceMethod yX11_setSupporters ∈ gW := gt_9 80 rfl rfl
theorem m_9_81 : Cond.selects RX11 yX11_setSupporters yX11_setSupporters ∈ gW := gt_9 81 rfl rfl
theorem m_9_78 : Cond.codeWith yL_setSupporters cL_setSupporters 6 (some .int) [(0, 19, 22, 21), (0, 19, 26, 13)] ∈ gW := gt_9 78 rfl rfl
theorem hd_L_setSupporters : (yL_setSupporters).cls ≠ "java/lang/invoke/MethodHandle" ∧ (yL_setSupporters).cls ≠ "java/lang/invoke/VarHandle" ∧ (parseMethodDescriptor (yL_setSupporters).desc).map (fun d => d.parameters.length) = some 5 := ⟨by decide, by decide, by decide +kernel⟩
theorem m_9_76 : Cond.methodLink RL 366 yL_setSupporters ∈ gW := gt_9 76 rfl rfl
theorem m_9_77 : Cond.static yL_setSupporters ∈ gW := gt_9 77 rfl rfl
theorem m_13_218 : Cond.code yX18_setSupporters cX18_setSupporters 6 (some .boolean) ∈ gW := gt_13 218 rfl rfl
theorem hd_X18_setSupporters : (yX18_setSupporters).cls ≠ "java/lang/invoke/MethodHandle" ∧ (yX18_setSupporters).cls ≠ "java/lang/invoke/VarHandle" ∧ (parseMethodDescriptor (yX18_setSupporters).desc).map (fun d => d.parameters.length) = some 3 := ⟨by decide, by decide, by decide +kernel⟩
theorem m_13_215 : Cond.methodLink RL 368 yX18_setSupporters ∈ gW := gt_13 215 rfl rfl
theorem m_13_216 : Cond.instanceMethod yX18_setSupporters ∈ gW := gt_13 216 rfl rfl
theorem m_13_217 : Cond.selects RX18 yX18_setSupporters yX18_setSupporters ∈ gW := gt_13 217 rfl rfl
theorem m_9_93 : Cond.code yX11_supporter cX11_supporter 4 (some .int) ∈ gW := gt_9 93 rfl rfl
theorem hd_X11_supporter : (yX11_supporter).cls ≠ "java/lang/invoke/MethodHandle" ∧ (yX11_supporter).cls ≠ "java/lang/invoke/VarHandle" ∧ (parseMethodDescriptor (yX11_supporter).desc).map (fun d => d.parameters.length) = some 2 := ⟨by decide, by decide, by decide +kernel⟩
theorem m_9_90 : Cond.methodLink RL 173 yX11_supporter ∈ gW := gt_9 90 rfl rfl
theorem m_9_91 : Cond.instanceMethod yX11_supporter ∈ gW := gt_9 91 rfl rfl
theorem m_9_92 : Cond.selects RX11 yX11_supporter yX11_supporter ∈ gW := gt_9 92 rfl rfl
theorem m_9_89 : Cond.codeWith yL_supporter cL_supporter 5 (some .int) [(0, 10, 13, 21), (0, 10, 17, 36)] ∈ gW := gt_9 89 rfl rfl
theorem hd_L_supporter : (yL_supporter).cls ≠ "java/lang/invoke/MethodHandle" ∧ (yL_supporter).cls ≠ "java/lang/invoke/VarHandle" ∧ (parseMethodDescriptor (yL_supporter).desc).map (fun d => d.parameters.length) = some 4 := ⟨by decide, by decide, by decide +kernel⟩
theorem m_9_87 : Cond.methodLink RL 369 yL_supporter ∈ gW := gt_9 87 rfl rfl
theorem m_9_88 : Cond.static yL_supporter ∈ gW := gt_9 88 rfl rfl
theorem m_13_222 : Cond.code yX18_supporter cX18_supporter 3 (some .int) ∈ gW := gt_13 222 rfl rfl
theorem hd_X18_supporter : (yX18_supporter).cls ≠ "java/lang/invoke/MethodHandle" ∧ (yX18_supporter).cls ≠ "java/lang/invoke/VarHandle" ∧ (parseMethodDescriptor (yX18_supporter).desc).map (fun d => d.parameters.length) = some 2 := ⟨by decide, by decide, by decide +kernel⟩
theorem m_13_219 : Cond.methodLink RL 371 yX18_supporter ∈ gW := gt_13 219 rfl rfl
theorem m_13_220 : Cond.instanceMethod yX18_supporter ∈ gW := gt_13 220 rfl rfl
theorem m_13_221 : Cond.selects RX18 yX18_supporter yX18_supporter ∈ gW := gt_13 221 rfl rfl
theorem m_9_105 : Cond.code yX11_augment cX11_augment 5 (some .boolean) ∈ gW := gt_9 105 rfl rfl
theorem hd_X11_augment : (yX11_augment).cls ≠ "java/lang/invoke/MethodHandle" ∧ (yX11_augment).cls ≠ "java/lang/invoke/VarHandle" ∧ (parseMethodDescriptor (yX11_augment).desc).map (fun d => d.parameters.length) = some 4 := ⟨by decide, by decide, by decide +kernel⟩
theorem m_9_102 : Cond.methodLink RL 176 yX11_augment ∈ gW := gt_9 102 rfl rfl
theorem m_9_103 : Cond.instanceMethod yX11_augment ∈ gW := gt_9 103 rfl rfl
theorem m_9_104 : Cond.selects RX11 yX11_augment yX11_augment ∈ gW := gt_9 104 rfl rfl
theorem m_9_101 : Cond.codeWith yL_augment cL_augment 7 (some .int) [(0, 21, 24, 21), (0, 21, 28, 13), (0, 21, 32, 23)] ∈ gW := gt_9 101 rfl rfl
theorem hd_L_augment : (yL_augment).cls ≠ "java/lang/invoke/MethodHandle" ∧ (yL_augment).cls ≠ "java/lang/invoke/VarHandle" ∧ (parseMethodDescriptor (yL_augment).desc).map (fun d => d.parameters.length) = some 6 := ⟨by decide, by decide, by decide +kernel⟩
theorem m_9_99 : Cond.methodLink RL 372 yL_augment ∈ gW := gt_9 99 rfl rfl
theorem m_9_100 : Cond.static yL_augment ∈ gW := gt_9 100 rfl rfl
theorem m_13_226 : Cond.code yX18_augment cX18_augment 8 (some .boolean) ∈ gW := gt_13 226 rfl rfl
theorem hd_X18_augment : (yX18_augment).cls ≠ "java/lang/invoke/MethodHandle" ∧ (yX18_augment).cls ≠ "java/lang/invoke/VarHandle" ∧ (parseMethodDescriptor (yX18_augment).desc).map (fun d => d.parameters.length) = some 4 := ⟨by decide, by decide, by decide +kernel⟩
theorem m_13_223 : Cond.methodLink RL 375 yX18_augment ∈ gW := gt_13 223 rfl rfl
theorem m_13_224 : Cond.instanceMethod yX18_augment ∈ gW := gt_13 224 rfl rfl
theorem m_13_225 : Cond.selects RX18 yX18_augment yX18_augment ∈ gW := gt_13 225 rfl rfl
theorem m_9_121 : Cond.code yX11_abate cX11_abate 3 (some .boolean) ∈ gW := gt_9 121 rfl rfl
theorem hd_X11_abate : (yX11_abate).cls ≠ "java/lang/invoke/MethodHandle" ∧ (yX11_abate).cls ≠ "java/lang/invoke/VarHandle" ∧ (parseMethodDescriptor (yX11_abate).desc).map (fun d => d.parameters.length) = some 2 := ⟨by decide, by decide, by decide +kernel⟩
theorem m_9_118 : Cond.methodLink RL 180 yX11_abate ∈ gW := gt_9 118 rfl rfl
theorem m_9_119 : Cond.instanceMethod yX11_abate ∈ gW := gt_9 119 rfl rfl
theorem m_9_120 : Cond.selects RX11 yX11_abate yX11_abate ∈ gW := gt_9 120 rfl rfl
theorem m_9_117 : Cond.codeWith yL_abate cL_abate 5 (some .int) [(0, 17, 20, 21)] ∈ gW := gt_9 117 rfl rfl
theorem hd_L_abate : (yL_abate).cls ≠ "java/lang/invoke/MethodHandle" ∧ (yL_abate).cls ≠ "java/lang/invoke/VarHandle" ∧ (parseMethodDescriptor (yL_abate).desc).map (fun d => d.parameters.length) = some 4 := ⟨by decide, by decide, by decide +kernel⟩
theorem m_9_115 : Cond.methodLink RL 376 yL_abate ∈ gW := gt_9 115 rfl rfl
theorem m_9_116 : Cond.static yL_abate ∈ gW := gt_9 116 rfl rfl
theorem m_13_230 : Cond.code yX18_abate cX18_abate 4 (some .boolean) ∈ gW := gt_13 230 rfl rfl
theorem hd_X18_abate : (yX18_abate).cls ≠ "java/lang/invoke/MethodHandle" ∧ (yX18_abate).cls ≠ "java/lang/invoke/VarHandle" ∧ (parseMethodDescriptor (yX18_abate).desc).map (fun d => d.parameters.length) = some 2 := ⟨by decide, by decide, by decide +kernel⟩
theorem m_13_227 : Cond.methodLink RL 378 yX18_abate ∈ gW := gt_13 227 rfl rfl
theorem m_13_228 : Cond.instanceMethod yX18_abate ∈ gW := gt_13 228 rfl rfl
theorem m_13_229 : Cond.selects RX18 yX18_abate yX18_abate ∈ gW := gt_13 229 rfl rfl
theorem m_4_0 : Cond.code yX11_year cX11_year 1 (some .int) ∈ gW := gt_4 0 rfl rfl
theorem hd_X11_year : (yX11_year).cls ≠ "java/lang/invoke/MethodHandle" ∧ (yX11_year).cls ≠ "java/lang/invoke/VarHandle" ∧ (parseMethodDescriptor (yX11_year).desc).map (fun d => d.parameters.length) = some 0 := ⟨by decide, by decide, by decide +kernel⟩
theorem m_3_237 : Cond.methodLink RL 379 yX11_year ∈ gW := gt_3 237 rfl rfl
theorem m_3_238 : Cond.instanceMethod yX11_year ∈ gW := gt_3 238 rfl rfl
theorem m_3_239 : Cond.selects RX11 yX11_year yX11_year ∈ gW := gt_3 239 rfl rfl
theorem m_13_234 : Cond.code yX18_year cX18_year 1 (some .int) ∈ gW := gt_13 234 rfl rfl
theorem hd_X18_year : (yX18_year).cls ≠ "java/lang/invoke/MethodHandle" ∧ (yX18_year).cls ≠ "java/lang/invoke/VarHandle" ∧ (parseMethodDescriptor (yX18_year).desc).map (fun d => d.parameters.length) = some 0 := ⟨by decide, by decide, by decide +kernel⟩
theorem m_13_231 : Cond.methodLink RL 382 yX18_year ∈ gW := gt_13 231 rfl rfl
theorem m_13_232 : Cond.instanceMethod yX18_year ∈ gW := gt_13 232 rfl rfl
theorem m_13_233 : Cond.selects RX18 yX18_year yX18_year ∈ gW := gt_13 233 rfl rfl
theorem m_4_4 : Cond.code yX11_persons cX11_persons 1 (some .int) ∈ gW := gt_4 4 rfl rfl
theorem hd_X11_persons : (yX11_persons).cls ≠ "java/lang/invoke/MethodHandle" ∧ (yX11_persons).cls ≠ "java/lang/invoke/VarHandle" ∧ (parseMethodDescriptor (yX11_persons).desc).map (fun d => d.parameters.length) = some 0 := ⟨by decide, by decide, by decide +kernel⟩
theorem m_4_1 : Cond.methodLink RL 383 yX11_persons ∈ gW := gt_4 1 rfl rfl
theorem m_4_2 : Cond.instanceMethod yX11_persons ∈ gW := gt_4 2 rfl rfl
theorem m_4_3 : Cond.selects RX11 yX11_persons yX11_persons ∈ gW := gt_4 3 rfl rfl
theorem m_13_238 : Cond.code yX18_persons cX18_persons 1 (some .int) ∈ gW := gt_13 238 rfl rfl
theorem hd_X18_persons : (yX18_persons).cls ≠ "java/lang/invoke/MethodHandle" ∧ (yX18_persons).cls ≠ "java/lang/invoke/VarHandle" ∧ (parseMethodDescriptor (yX18_persons).desc).map (fun d => d.parameters.length) = some 0 := ⟨by decide, by decide, by decide +kernel⟩
theorem m_13_235 : Cond.methodLink RL 386 yX18_persons ∈ gW := gt_13 235 rfl rfl
theorem m_13_236 : Cond.instanceMethod yX18_persons ∈ gW := gt_13 236 rfl rfl
theorem m_13_237 : Cond.selects RX18 yX18_persons yX18_persons ∈ gW := gt_13 237 rfl rfl
theorem m_4_8 : Cond.code yX11_arms cX11_arms 1 (some .int) ∈ gW := gt_4 8 rfl rfl
theorem hd_X11_arms : (yX11_arms).cls ≠ "java/lang/invoke/MethodHandle" ∧ (yX11_arms).cls ≠ "java/lang/invoke/VarHandle" ∧ (parseMethodDescriptor (yX11_arms).desc).map (fun d => d.parameters.length) = some 0 := ⟨by decide, by decide, by decide +kernel⟩
theorem m_4_5 : Cond.methodLink RL 387 yX11_arms ∈ gW := gt_4 5 rfl rfl
theorem m_4_6 : Cond.instanceMethod yX11_arms ∈ gW := gt_4 6 rfl rfl
theorem m_4_7 : Cond.selects RX11 yX11_arms yX11_arms ∈ gW := gt_4 7 rfl rfl
theorem m_14_2 : Cond.code yX18_arms cX18_arms 1 (some .int) ∈ gW := gt_14 2 rfl rfl
theorem hd_X18_arms : (yX18_arms).cls ≠ "java/lang/invoke/MethodHandle" ∧ (yX18_arms).cls ≠ "java/lang/invoke/VarHandle" ∧ (parseMethodDescriptor (yX18_arms).desc).map (fun d => d.parameters.length) = some 0 := ⟨by decide, by decide, by decide +kernel⟩
theorem m_13_239 : Cond.methodLink RL 390 yX18_arms ∈ gW := gt_13 239 rfl rfl
theorem m_14_0 : Cond.instanceMethod yX18_arms ∈ gW := gt_14 0 rfl rfl
theorem m_14_1 : Cond.selects RX18 yX18_arms yX18_arms ∈ gW := gt_14 1 rfl rfl
theorem m_4_16 : Cond.code yX9_weighAll cX9_weighAll 7 (some .long) ∈ gW := gt_4 16 rfl rfl
theorem hd_X9_weighAll : (yX9_weighAll).cls ≠ "java/lang/invoke/MethodHandle" ∧ (yX9_weighAll).cls ≠ "java/lang/invoke/VarHandle" ∧ (parseMethodDescriptor (yX9_weighAll).desc).map (fun d => d.parameters.length) = some 0 := ⟨by decide, by decide, by decide +kernel⟩
theorem m_4_13 : Cond.methodLink RX11 442 yX9_weighAll ∈ gW := gt_4 13 rfl rfl
theorem m_4_14 : Cond.instanceMethod yX9_weighAll ∈ gW := gt_4 14 rfl rfl
theorem m_4_15 : Cond.selects RX9 yX9_weighAll yX9_weighAll ∈ gW := gt_4 15 rfl rfl
theorem m_4_12 : Cond.code yX11_allPoints cX11_allPoints 1 (some .long) ∈ gW := gt_4 12 rfl rfl
theorem hd_X11_allPoints : (yX11_allPoints).cls ≠ "java/lang/invoke/MethodHandle" ∧ (yX11_allPoints).cls ≠ "java/lang/invoke/VarHandle" ∧ (parseMethodDescriptor (yX11_allPoints).desc).map (fun d => d.parameters.length) = some 0 := ⟨by decide, by decide, by decide +kernel⟩
theorem m_4_9 : Cond.methodLink RL 391 yX11_allPoints ∈ gW := gt_4 9 rfl rfl
theorem m_4_10 : Cond.instanceMethod yX11_allPoints ∈ gW := gt_4 10 rfl rfl
theorem m_4_11 : Cond.selects RX11 yX11_allPoints yX11_allPoints ∈ gW := gt_4 11 rfl rfl
theorem m_14_6 : Cond.code yX18_allPoints cX18_allPoints 7 (some .long) ∈ gW := gt_14 6 rfl rfl
theorem hd_X18_allPoints : (yX18_allPoints).cls ≠ "java/lang/invoke/MethodHandle" ∧ (yX18_allPoints).cls ≠ "java/lang/invoke/VarHandle" ∧ (parseMethodDescriptor (yX18_allPoints).desc).map (fun d => d.parameters.length) = some 0 := ⟨by decide, by decide, by decide +kernel⟩
theorem m_14_3 : Cond.methodLink RL 395 yX18_allPoints ∈ gW := gt_14 3 rfl rfl
theorem m_14_4 : Cond.instanceMethod yX18_allPoints ∈ gW := gt_14 4 rfl rfl
theorem m_14_5 : Cond.selects RX18 yX18_allPoints yX18_allPoints ∈ gW := gt_14 5 rfl rfl
theorem m_2_116 : Cond.fieldLink RX5 46 "Blazonry$Kin" "deathCount" "I" ∈ gW := gt_2 116 rfl rfl
theorem m_9_150 : Cond.code yX5_countLiving cX5_countLiving 1 (some .int) ∈ gW := gt_9 150 rfl rfl
theorem hd_X5_countLiving : (yX5_countLiving).cls ≠ "java/lang/invoke/MethodHandle" ∧ (yX5_countLiving).cls ≠ "java/lang/invoke/VarHandle" ∧ (parseMethodDescriptor (yX5_countLiving).desc).map (fun d => d.parameters.length) = some 0 := ⟨by decide, by decide, by decide +kernel⟩
theorem m_9_147 : Cond.methodLink RX11 446 yX5_countLiving ∈ gW := gt_9 147 rfl rfl
theorem m_9_148 : Cond.instanceMethod yX5_countLiving ∈ gW := gt_9 148 rfl rfl
theorem m_9_149 : Cond.selects RX5 yX5_countLiving yX5_countLiving ∈ gW := gt_9 149 rfl rfl
theorem n_s39 : (RX11, 451, "nobody lives") ∈ gStr := List.mem_of_getElem? (i := 39) rfl
def sb_ta_X11_453 : List Cond := [(Jvm.Cond.initialized "java/lang/Throwable"), (Jvm.Cond.initialized "java/lang/Exception"), (Jvm.Cond.initialized "java/lang/RuntimeException"), (Jvm.Cond.initialized "java/lang/ArithmeticException"), (Jvm.Cond.instanceMethod ({ cls := "java/lang/Object", name := "<init>", desc := "()V" } : Jvm.MethodName)), (Jvm.Cond.code ({ cls := "java/lang/Object", name := "<init>", desc := "()V" } : Jvm.MethodName) object_method_1_code (1 : Nat) (Option.none : Option Jvm.ClassFile.FieldType)), (Jvm.Cond.lays "java/lang/Throwable" "java/lang/Throwable" "cause" "Ljava/lang/Throwable;"), (Jvm.Cond.lays "java/lang/Throwable" "java/lang/Throwable" "stackTrace" "[Ljava/lang/StackTraceElement;"), (Jvm.Cond.lays "java/lang/Throwable" "java/lang/Throwable" "suppressedExceptions" "Ljava/util/List;"), (Jvm.Cond.lays "java/lang/Throwable" "java/lang/Throwable" "detailMessage" "Ljava/lang/String;"), (Jvm.Cond.lays "java/lang/Throwable" "java/lang/Throwable" "backtrace" "Ljava/lang/Object;"), (Jvm.Cond.fieldLink "java/lang/Throwable" (198 : Nat) "java/lang/Throwable" "backtrace" "Ljava/lang/Object;"), (Jvm.Cond.superclass "java/lang/Throwable" "java/lang/Object"), (Jvm.Cond.instanceMethod ({ cls := "java/lang/Throwable", name := "<init>", desc := "()V" } : Jvm.MethodName)), (Jvm.Cond.code ({ cls := "java/lang/Throwable", name := "<init>", desc := "()V" } : Jvm.MethodName) prog_36_method_1_code (1 : Nat) (Option.none : Option Jvm.ClassFile.FieldType)), (Jvm.Cond.methodLink "java/lang/Throwable" (1 : Nat) ({ cls := "java/lang/Object", name := "<init>", desc := "()V" } : Jvm.MethodName)), (Jvm.Cond.fieldLink "java/lang/Throwable" (13 : Nat) "java/lang/Throwable" "UNASSIGNED_STACK" "[Ljava/lang/StackTraceElement;"), (Jvm.Cond.fieldLink "java/lang/Throwable" (20 : Nat) "java/lang/Throwable" "SUPPRESSED_SENTINEL" "Ljava/util/List;"), (Jvm.Cond.methodLink "java/lang/Throwable" (27 : Nat) ({ cls := "java/lang/Throwable", name := "fillInStackTrace", desc := "()Ljava/lang/Throwable;" } : Jvm.MethodName)), (Jvm.Cond.instanceMethod ({ cls := "java/lang/Throwable", name := "fillInStackTrace", desc := "()Ljava/lang/Throwable;" } : Jvm.MethodName)), (Jvm.Cond.sameMethod "java/lang/Throwable" "java/lang/Throwable" "fillInStackTrace" "()Ljava/lang/Throwable;"), (Jvm.Cond.selects "java/lang/ArithmeticException" ({ cls := "java/lang/Throwable", name := "fillInStackTrace", desc := "()Ljava/lang/Throwable;" } : Jvm.MethodName) ({ cls := "java/lang/Throwable", name := "fillInStackTrace", desc := "()Ljava/lang/Throwable;" } : Jvm.MethodName)), (Jvm.Cond.codeSync ({ cls := "java/lang/Throwable", name := "fillInStackTrace", desc := "()Ljava/lang/Throwable;" } : Jvm.MethodName) prog_36_method_18_code (1 : Nat) (Option.some (Jvm.ClassFile.FieldType.object "java/lang/Throwable"))), (Jvm.Cond.methodLink "java/lang/Throwable" (202 : Nat) ({ cls := "java/lang/Throwable", name := "fillInStackTrace", desc := "(I)Ljava/lang/Throwable;" } : Jvm.MethodName)), (Jvm.Cond.instanceMethod ({ cls := "java/lang/Throwable", name := "fillInStackTrace", desc := "(I)Ljava/lang/Throwable;" } : Jvm.MethodName)), (Jvm.Cond.instantiable "java/lang/Throwable" (6 : Nat)), (Jvm.Cond.native ({ cls := "java/lang/Throwable", name := "fillInStackTrace", desc := "(I)Ljava/lang/Throwable;" } : Jvm.MethodName)), (Jvm.Cond.instanceMethod ({ cls := "java/lang/RuntimeException", name := "<init>", desc := "(Ljava/lang/String;)V" } : Jvm.MethodName)), (Jvm.Cond.code ({ cls := "java/lang/RuntimeException", name := "<init>", desc := "(Ljava/lang/String;)V" } : Jvm.MethodName) prog_33_method_2_code (2 : Nat) (Option.none : Option Jvm.ClassFile.FieldType)), (Jvm.Cond.methodLink "java/lang/RuntimeException" (7 : Nat) ({ cls := "java/lang/Exception", name := "<init>", desc := "(Ljava/lang/String;)V" } : Jvm.MethodName)), (Jvm.Cond.instanceMethod ({ cls := "java/lang/Exception", name := "<init>", desc := "(Ljava/lang/String;)V" } : Jvm.MethodName)), (Jvm.Cond.code ({ cls := "java/lang/Exception", name := "<init>", desc := "(Ljava/lang/String;)V" } : Jvm.MethodName) prog_25_method_2_code (2 : Nat) (Option.none : Option Jvm.ClassFile.FieldType)), (Jvm.Cond.methodLink "java/lang/Exception" (7 : Nat) ({ cls := "java/lang/Throwable", name := "<init>", desc := "(Ljava/lang/String;)V" } : Jvm.MethodName)), (Jvm.Cond.instanceMethod ({ cls := "java/lang/Throwable", name := "<init>", desc := "(Ljava/lang/String;)V" } : Jvm.MethodName)), (Jvm.Cond.code ({ cls := "java/lang/Throwable", name := "<init>", desc := "(Ljava/lang/String;)V" } : Jvm.MethodName) prog_36_method_2_code (2 : Nat) (Option.none : Option Jvm.ClassFile.FieldType)), (Jvm.Cond.fieldLink "java/lang/Throwable" (31 : Nat) "java/lang/Throwable" "detailMessage" "Ljava/lang/String;"), (Jvm.Cond.fieldLink "java/lang/Throwable" (7 : Nat) "java/lang/Throwable" "cause" "Ljava/lang/Throwable;"), (Jvm.Cond.fieldLink "java/lang/Throwable" (17 : Nat) "java/lang/Throwable" "stackTrace" "[Ljava/lang/StackTraceElement;"), (Jvm.Cond.fieldLink "java/lang/Throwable" (24 : Nat) "java/lang/Throwable" "suppressedExceptions" "Ljava/util/List;"), (Jvm.Cond.soleField "java/lang/Throwable" "backtrace"), (Jvm.Cond.soleField "java/lang/Throwable" "detailMessage"), (Jvm.Cond.soleField "java/lang/Throwable" "cause"), (Jvm.Cond.soleField "java/lang/Throwable" "stackTrace"), (Jvm.Cond.soleField "java/lang/Throwable" "depth"), (Jvm.Cond.soleField "java/lang/Throwable" "suppressedExceptions"), (Jvm.Cond.instantiable "java/lang/ArithmeticException" (6 : Nat)), (Jvm.Cond.instanceMethod ({ cls := "java/lang/ArithmeticException", name := "<init>", desc := "(Ljava/lang/String;)V" } : Jvm.MethodName)), (Jvm.Cond.code ({ cls := "java/lang/ArithmeticException", name := "<init>", desc := "(Ljava/lang/String;)V" } : Jvm.MethodName) prog_22_method_2_code (2 : Nat) (Option.none : Option Jvm.ClassFile.FieldType)), (Jvm.Cond.methodLink "java/lang/ArithmeticException" (7 : Nat) ({ cls := "java/lang/RuntimeException", name := "<init>", desc := "(Ljava/lang/String;)V" } : Jvm.MethodName)), (Jvm.Cond.lays "java/lang/ArithmeticException" "java/lang/Throwable" "backtrace" "Ljava/lang/Object;"), (Jvm.Cond.lays "java/lang/ArithmeticException" "java/lang/Throwable" "detailMessage" "Ljava/lang/String;"), (Jvm.Cond.lays "java/lang/ArithmeticException" "java/lang/Throwable" "cause" "Ljava/lang/Throwable;"), (Jvm.Cond.lays "java/lang/ArithmeticException" "java/lang/Throwable" "stackTrace" "[Ljava/lang/StackTraceElement;"), (Jvm.Cond.lays "java/lang/ArithmeticException" "java/lang/Throwable" "depth" "I"), (Jvm.Cond.lays "java/lang/ArithmeticException" "java/lang/Throwable" "suppressedExceptions" "Ljava/util/List;"), (Jvm.Cond.superclass "java/lang/ArithmeticException" "java/lang/RuntimeException"), (Jvm.Cond.selects "java/lang/ArithmeticException" ({ cls := "java/lang/Throwable", name := "fillInStackTrace", desc := "(I)Ljava/lang/Throwable;" } : Jvm.MethodName) ({ cls := "java/lang/Throwable", name := "fillInStackTrace", desc := "(I)Ljava/lang/Throwable;" } : Jvm.MethodName)), (Jvm.Cond.methodLink "Blazonry" (453 : Nat) ({ cls := "java/lang/ArithmeticException", name := "<init>", desc := "(Ljava/lang/String;)V" } : Jvm.MethodName)), (Jvm.Cond.instanceMethod ({ cls := "java/lang/Object", name := "getClass", desc := "()Ljava/lang/Class;" } : Jvm.MethodName)), (Jvm.Cond.selects "java/lang/ArithmeticException" ({ cls := "java/lang/Object", name := "getClass", desc := "()Ljava/lang/Class;" } : Jvm.MethodName) ({ cls := "java/lang/Object", name := "getClass", desc := "()Ljava/lang/Class;" } : Jvm.MethodName)), (Jvm.Cond.instanceMethod ({ cls := "java/lang/RuntimeException", name := "<init>", desc := "()V" } : Jvm.MethodName)), (Jvm.Cond.code ({ cls := "java/lang/RuntimeException", name := "<init>", desc := "()V" } : Jvm.MethodName) prog_33_method_1_code (1 : Nat) (Option.none : Option Jvm.ClassFile.FieldType)), (Jvm.Cond.methodLink "java/lang/RuntimeException" (1 : Nat) ({ cls := "java/lang/Exception", name := "<init>", desc := "()V" } : Jvm.MethodName)), (Jvm.Cond.instanceMethod ({ cls := "java/lang/Exception", name := "<init>", desc := "()V" } : Jvm.MethodName)), (Jvm.Cond.code ({ cls := "java/lang/Exception", name := "<init>", desc := "()V" } : Jvm.MethodName) prog_25_method_1_code (1 : Nat) (Option.none : Option Jvm.ClassFile.FieldType)), (Jvm.Cond.methodLink "java/lang/Exception" (1 : Nat) ({ cls := "java/lang/Throwable", name := "<init>", desc := "()V" } : Jvm.MethodName)), (Jvm.Cond.sameMethod "java/lang/Throwable" "java/lang/Throwable" "fillInStackTrace" "(I)Ljava/lang/Throwable;")]
theorem sm_ta_X11_453 : ∀ w ∈ sb_ta_X11_453, w ∈ gW := by
  unfold sb_ta_X11_453
  intro w h
  simp only [List.mem_cons, List.not_mem_nil, or_false] at h
  rcases h with rfl | rfl | rfl | rfl | rfl | rfl | rfl | rfl | rfl | rfl | rfl | rfl | rfl | rfl | rfl | rfl | rfl | rfl | rfl | rfl | rfl | rfl | rfl | rfl | rfl | rfl | rfl | rfl | rfl | rfl | rfl | rfl | rfl | rfl | rfl | rfl | rfl | rfl | rfl | rfl | rfl | rfl | rfl | rfl | rfl | rfl | rfl | rfl | rfl | rfl | rfl | rfl | rfl | rfl | rfl | rfl | rfl | rfl | rfl | rfl | rfl | rfl | rfl | rfl | rfl | rfl | rfl
  · exact gt_1 20 rfl rfl
  · exact gt_1 21 rfl rfl
  · exact gt_1 22 rfl rfl
  · exact gt_1 42 rfl rfl
  · exact gt_1 49 rfl rfl
  · exact gt_1 50 rfl rfl
  · exact gt_5 37 rfl rfl
  · exact gt_5 39 rfl rfl
  · exact gt_5 41 rfl rfl
  · exact gt_5 43 rfl rfl
  · exact gt_5 45 rfl rfl
  · exact gt_5 46 rfl rfl
  · exact gt_5 47 rfl rfl
  · exact gt_5 48 rfl rfl
  · exact gt_5 49 rfl rfl
  · exact gt_5 50 rfl rfl
  · exact gt_5 51 rfl rfl
  · exact gt_5 53 rfl rfl
  · exact gt_5 55 rfl rfl
  · exact gt_5 56 rfl rfl
  · exact gt_5 57 rfl rfl
  · exact gt_5 58 rfl rfl
  · exact gt_5 64 rfl rfl
  · exact gt_5 65 rfl rfl
  · exact gt_5 67 rfl rfl
  · exact gt_5 68 rfl rfl
  · exact gt_5 69 rfl rfl
  · exact gt_5 75 rfl rfl
  · exact gt_5 76 rfl rfl
  · exact gt_5 77 rfl rfl
  · exact gt_5 78 rfl rfl
  · exact gt_5 79 rfl rfl
  · exact gt_5 80 rfl rfl
  · exact gt_5 81 rfl rfl
  · exact gt_5 82 rfl rfl
  · exact gt_5 84 rfl rfl
  · exact gt_5 85 rfl rfl
  · exact gt_5 86 rfl rfl
  · exact gt_5 87 rfl rfl
  · exact gt_5 88 rfl rfl
  · exact gt_5 89 rfl rfl
  · exact gt_5 90 rfl rfl
  · exact gt_5 91 rfl rfl
  · exact gt_5 93 rfl rfl
  · exact gt_5 94 rfl rfl
  · exact gt_9 130 rfl rfl
  · exact gt_9 131 rfl rfl
  · exact gt_9 132 rfl rfl
  · exact gt_9 133 rfl rfl
  · exact gt_9 134 rfl rfl
  · exact gt_9 135 rfl rfl
  · exact gt_9 136 rfl rfl
  · exact gt_9 137 rfl rfl
  · exact gt_9 138 rfl rfl
  · exact gt_9 139 rfl rfl
  · exact gt_9 140 rfl rfl
  · exact gt_9 142 rfl rfl
  · exact gt_9 153 rfl rfl
  · exact gt_11 201 rfl rfl
  · exact gt_11 222 rfl rfl
  · exact gt_12 73 rfl rfl
  · exact gt_12 74 rfl rfl
  · exact gt_12 75 rfl rfl
  · exact gt_12 76 rfl rfl
  · exact gt_12 77 rfl rfl
  · exact gt_12 78 rfl rfl
  · exact gt_14 24 rfl rfl
theorem sc_ta_X11_453 : ((vx_atS RX11 453 "java/lang/ArithmeticException" ["java/lang/RuntimeException", "java/lang/Exception"]).all (fun w => decide (w ∈ sb_ta_X11_453) || (decide (w = Cond.castable "java/lang/ArithmeticException" "java/lang/ArithmeticException") || ([⟨"java/lang/RuntimeException", "<init>", "(Ljava/lang/String;)V"⟩, ⟨"java/lang/Exception", "<init>", "(Ljava/lang/String;)V"⟩, ⟨"java/lang/Throwable", "<init>", "(Ljava/lang/String;)V"⟩, ⟨"java/lang/IndexOutOfBoundsException", "<init>", "(Ljava/lang/String;)V"⟩] : List MethodName).any (fun y => decide (w = Cond.declares y))))) = true := by decide +kernel
theorem so_ta_X11_453 : ((vx_atS RX11 453 "java/lang/ArithmeticException" ["java/lang/RuntimeException", "java/lang/Exception"]).all vx_ot) = true := by decide +kernel
theorem n_c6 : ("java/lang/ArithmeticException", "java/lang/ArithmeticException") ∈ gCa := List.mem_of_getElem? (i := 6) rfl
theorem ta_X11_453 : (∀ w ∈ vx_atS RX11 453 "java/lang/ArithmeticException" ["java/lang/RuntimeException", "java/lang/Exception"], w ∈ gW ∨ (∃ q ∈ gCa, w = Cond.castable q.1 q.2) ∨ ∃ y ∈ gDe, w = Cond.declares y) ∧ ∀ w ∈ vx_atS RX11 453 "java/lang/ArithmeticException" ["java/lang/RuntimeException", "java/lang/Exception"], vx_ot w = true := ⟨fun w h => by
  have h1 := List.all_eq_true.mp sc_ta_X11_453 w h
  simp only [Bool.or_eq_true, decide_eq_true_eq] at h1
  rcases h1 with h1 | h1 | h1
  · exact Or.inl (sm_ta_X11_453 w h1)
  · exact Or.inr (Or.inl ⟨_, n_c6, h1⟩)
  · obtain ⟨y, hy, h2⟩ := List.any_eq_true.mp h1
    exact Or.inr (Or.inr ⟨y, sd_de y hy, of_decide_eq_true h2⟩), List.all_eq_true.mp so_ta_X11_453⟩
theorem m_9_151 : Cond.classLink RX11 449 "java/lang/ArithmeticException" ∈ gW := gt_9 151 rfl rfl
theorem m_1_42 : Cond.initialized "java/lang/ArithmeticException" ∈ gW := gt_1 42 rfl rfl
theorem m_9_146 : Cond.code yX11_armigerShare cX11_armigerShare 2 (some .float) ∈ gW := gt_9 146 rfl rfl
theorem hd_X11_armigerShare : (yX11_armigerShare).cls ≠ "java/lang/invoke/MethodHandle" ∧ (yX11_armigerShare).cls ≠ "java/lang/invoke/VarHandle" ∧ (parseMethodDescriptor (yX11_armigerShare).desc).map (fun d => d.parameters.length) = some 0 := ⟨by decide, by decide, by decide +kernel⟩
theorem m_9_143 : Cond.methodLink RL 184 yX11_armigerShare ∈ gW := gt_9 143 rfl rfl
theorem m_9_144 : Cond.instanceMethod yX11_armigerShare ∈ gW := gt_9 144 rfl rfl
theorem m_9_145 : Cond.selects RX11 yX11_armigerShare yX11_armigerShare ∈ gW := gt_9 145 rfl rfl
theorem m_9_129 : Cond.classLink RL 188 "java/lang/ArithmeticException" ∈ gW := gt_9 129 rfl rfl
theorem m_9_128 : Cond.codeWith yL_armigerShare cL_armigerShare 3 (some .int) [(0, 8, 11, 188)] ∈ gW := gt_9 128 rfl rfl
theorem hd_L_armigerShare : (yL_armigerShare).cls ≠ "java/lang/invoke/MethodHandle" ∧ (yL_armigerShare).cls ≠ "java/lang/invoke/VarHandle" ∧ (parseMethodDescriptor (yL_armigerShare).desc).map (fun d => d.parameters.length) = some 2 := ⟨by decide, by decide, by decide +kernel⟩
theorem m_9_126 : Cond.methodLink RL 396 yL_armigerShare ∈ gW := gt_9 126 rfl rfl
theorem m_9_127 : Cond.static yL_armigerShare ∈ gW := gt_9 127 rfl rfl
theorem m_14_10 : Cond.code yX18_armigerShare cX18_armigerShare 5 (some .float) ∈ gW := gt_14 10 rfl rfl
theorem hd_X18_armigerShare : (yX18_armigerShare).cls ≠ "java/lang/invoke/MethodHandle" ∧ (yX18_armigerShare).cls ≠ "java/lang/invoke/VarHandle" ∧ (parseMethodDescriptor (yX18_armigerShare).desc).map (fun d => d.parameters.length) = some 0 := ⟨by decide, by decide, by decide +kernel⟩
theorem m_14_7 : Cond.methodLink RL 399 yX18_armigerShare ∈ gW := gt_14 7 rfl rfl
theorem m_14_8 : Cond.instanceMethod yX18_armigerShare ∈ gW := gt_14 8 rfl rfl
theorem m_14_9 : Cond.selects RX18 yX18_armigerShare yX18_armigerShare ∈ gW := gt_14 9 rfl rfl
theorem n_s24 : (RX11, 355, "there are no arms") ∈ gStr := List.mem_of_getElem? (i := 24) rfl
theorem m_9_164 : Cond.code yX11_meanWords cX11_meanWords 1 (some .double) ∈ gW := gt_9 164 rfl rfl
theorem hd_X11_meanWords : (yX11_meanWords).cls ≠ "java/lang/invoke/MethodHandle" ∧ (yX11_meanWords).cls ≠ "java/lang/invoke/VarHandle" ∧ (parseMethodDescriptor (yX11_meanWords).desc).map (fun d => d.parameters.length) = some 0 := ⟨by decide, by decide, by decide +kernel⟩
theorem m_9_161 : Cond.methodLink RL 190 yX11_meanWords ∈ gW := gt_9 161 rfl rfl
theorem m_9_162 : Cond.instanceMethod yX11_meanWords ∈ gW := gt_9 162 rfl rfl
theorem m_9_163 : Cond.selects RX11 yX11_meanWords yX11_meanWords ∈ gW := gt_9 163 rfl rfl
theorem m_9_160 : Cond.codeWith yL_meanWords cL_meanWords 3 (some .int) [(0, 7, 10, 188)] ∈ gW := gt_9 160 rfl rfl
theorem hd_L_meanWords : (yL_meanWords).cls ≠ "java/lang/invoke/MethodHandle" ∧ (yL_meanWords).cls ≠ "java/lang/invoke/VarHandle" ∧ (parseMethodDescriptor (yL_meanWords).desc).map (fun d => d.parameters.length) = some 2 := ⟨by decide, by decide, by decide +kernel⟩
theorem m_9_158 : Cond.methodLink RL 400 yL_meanWords ∈ gW := gt_9 158 rfl rfl
theorem m_9_159 : Cond.static yL_meanWords ∈ gW := gt_9 159 rfl rfl
theorem m_14_18 : Cond.code yJx4a65c_isEmpty_aae02 cJx4a65c_isEmpty_aae02 1 (some .boolean) ∈ gW := gt_14 18 rfl rfl
theorem hd_Jx4a65c_isEmpty_aae02 : (yJx4a65c_isEmpty_aae02).cls ≠ "java/lang/invoke/MethodHandle" ∧ (yJx4a65c_isEmpty_aae02).cls ≠ "java/lang/invoke/VarHandle" ∧ (parseMethodDescriptor (yJx4a65c_isEmpty_aae02).desc).map (fun d => d.parameters.length) = some 0 := ⟨by decide, by decide, by decide +kernel⟩
theorem m_14_15 : Cond.methodLink RX18 562 yJx4a65c_isEmpty_aae02 ∈ gW := gt_14 15 rfl rfl
theorem m_14_16 : Cond.instanceMethod yJx4a65c_isEmpty_aae02 ∈ gW := gt_14 16 rfl rfl
theorem m_14_17 : Cond.selects RJx4a65c yJx4a65c_isEmpty_aae02 yJx4a65c_isEmpty_aae02 ∈ gW := gt_14 17 rfl rfl
theorem m_14_14 : Cond.code yX18_meanWords cX18_meanWords 4 (some .double) ∈ gW := gt_14 14 rfl rfl
theorem hd_X18_meanWords : (yX18_meanWords).cls ≠ "java/lang/invoke/MethodHandle" ∧ (yX18_meanWords).cls ≠ "java/lang/invoke/VarHandle" ∧ (parseMethodDescriptor (yX18_meanWords).desc).map (fun d => d.parameters.length) = some 0 := ⟨by decide, by decide, by decide +kernel⟩
theorem m_14_11 : Cond.methodLink RL 402 yX18_meanWords ∈ gW := gt_14 11 rfl rfl
theorem m_14_12 : Cond.instanceMethod yX18_meanWords ∈ gW := gt_14 12 rfl rfl
theorem m_14_13 : Cond.selects RX18 yX18_meanWords yX18_meanWords ∈ gW := gt_14 13 rfl rfl
theorem m_4_27 : Cond.code yX11_areToldBack cX11_areToldBack 2 (some .boolean) ∈ gW := gt_4 27 rfl rfl
theorem hd_X11_areToldBack : (yX11_areToldBack).cls ≠ "java/lang/invoke/MethodHandle" ∧ (yX11_areToldBack).cls ≠ "java/lang/invoke/VarHandle" ∧ (parseMethodDescriptor (yX11_areToldBack).desc).map (fun d => d.parameters.length) = some 0 := ⟨by decide, by decide, by decide +kernel⟩
theorem m_4_24 : Cond.methodLink RX11 460 yX11_areToldBack ∈ gW := gt_4 24 rfl rfl
theorem m_4_26 : Cond.instanceMethod yX11_areToldBack ∈ gW := gt_4 26 rfl rfl
theorem m_s_9 : Cond.selects RX11 yX11_areToldBack yX11_areToldBack ∈ gW := gt_s (q := (yX11_areToldBack, 14)) 9 rfl
theorem m_4_200 : Cond.code yX11_areSoughtBack cX11_areSoughtBack 2 (some .boolean) ∈ gW := gt_4 200 rfl rfl
theorem hd_X11_areSoughtBack : (yX11_areSoughtBack).cls ≠ "java/lang/invoke/MethodHandle" ∧ (yX11_areSoughtBack).cls ≠ "java/lang/invoke/VarHandle" ∧ (parseMethodDescriptor (yX11_areSoughtBack).desc).map (fun d => d.parameters.length) = some 0 := ⟨by decide, by decide, by decide +kernel⟩
theorem m_4_197 : Cond.methodLink RX11 464 yX11_areSoughtBack ∈ gW := gt_4 197 rfl rfl
theorem m_4_199 : Cond.instanceMethod yX11_areSoughtBack ∈ gW := gt_4 199 rfl rfl
theorem m_s_21 : Cond.selects RX11 yX11_areSoughtBack yX11_areSoughtBack ∈ gW := gt_s (q := (yX11_areSoughtBack, 14)) 21 rfl
theorem m_4_230 : Cond.code yX6_areProved cX6_areProved 4 (some .boolean) ∈ gW := gt_4 230 rfl rfl
theorem hd_X6_areProved : (yX6_areProved).cls ≠ "java/lang/invoke/MethodHandle" ∧ (yX6_areProved).cls ≠ "java/lang/invoke/VarHandle" ∧ (parseMethodDescriptor (yX6_areProved).desc).map (fun d => d.parameters.length) = some 0 := ⟨by decide, by decide, by decide +kernel⟩
theorem m_4_227 : Cond.methodLink RX11 467 yX6_areProved ∈ gW := gt_4 227 rfl rfl
theorem m_4_228 : Cond.instanceMethod yX6_areProved ∈ gW := gt_4 228 rfl rfl
theorem m_4_229 : Cond.selects RX6 yX6_areProved yX6_areProved ∈ gW := gt_4 229 rfl rfl
theorem m_5_11 : Cond.code yX0_areVoidUnborne cX0_areVoidUnborne 2 (some .boolean) ∈ gW := gt_5 11 rfl rfl
theorem hd_X0_areVoidUnborne : (yX0_areVoidUnborne).cls ≠ "java/lang/invoke/MethodHandle" ∧ (yX0_areVoidUnborne).cls ≠ "java/lang/invoke/VarHandle" ∧ (parseMethodDescriptor (yX0_areVoidUnborne).desc).map (fun d => d.parameters.length) = some 0 := ⟨by decide, by decide, by decide +kernel⟩
theorem m_5_8 : Cond.methodLink RX11 470 yX0_areVoidUnborne ∈ gW := gt_5 8 rfl rfl
theorem m_5_9 : Cond.instanceMethod yX0_areVoidUnborne ∈ gW := gt_5 9 rfl rfl
theorem m_5_10 : Cond.selects RX0 yX0_areVoidUnborne yX0_areVoidUnborne ∈ gW := gt_5 10 rfl rfl
theorem m_4_23 : Cond.code yX11_isSound cX11_isSound 1 (some .boolean) ∈ gW := gt_4 23 rfl rfl
theorem hd_X11_isSound : (yX11_isSound).cls ≠ "java/lang/invoke/MethodHandle" ∧ (yX11_isSound).cls ≠ "java/lang/invoke/VarHandle" ∧ (parseMethodDescriptor (yX11_isSound).desc).map (fun d => d.parameters.length) = some 0 := ⟨by decide, by decide, by decide +kernel⟩
theorem m_4_20 : Cond.methodLink RL 403 yX11_isSound ∈ gW := gt_4 20 rfl rfl
theorem m_4_21 : Cond.instanceMethod yX11_isSound ∈ gW := gt_4 21 rfl rfl
theorem m_4_22 : Cond.selects RX11 yX11_isSound yX11_isSound ∈ gW := gt_4 22 rfl rfl
theorem m_14_22 : Cond.code yX18_isSound cX18_isSound 1 (some .boolean) ∈ gW := gt_14 22 rfl rfl
theorem hd_X18_isSound : (yX18_isSound).cls ≠ "java/lang/invoke/MethodHandle" ∧ (yX18_isSound).cls ≠ "java/lang/invoke/VarHandle" ∧ (parseMethodDescriptor (yX18_isSound).desc).map (fun d => d.parameters.length) = some 0 := ⟨by decide, by decide, by decide +kernel⟩
theorem m_14_19 : Cond.methodLink RL 407 yX18_isSound ∈ gW := gt_14 19 rfl rfl
theorem m_14_20 : Cond.instanceMethod yX18_isSound ∈ gW := gt_14 20 rfl rfl
theorem m_14_21 : Cond.selects RX18 yX18_isSound yX18_isSound ∈ gW := gt_14 21 rfl rfl

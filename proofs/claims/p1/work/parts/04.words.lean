theorem m_3_172 : Cond.laysFinal RX11 "Blazonry" "painter" "LBlazonry$Painter;" ∈ gW := gt_3 172 rfl rfl
theorem m_3_174 : Cond.laysFinal RX11 "Blazonry" "row" "LBlazonry$Blazon;" ∈ gW := gt_3 174 rfl rfl
theorem m_3_176 : Cond.laysFinal RX11 "Blazonry" "rowPicture" "LBlazonry$Picture;" ∈ gW := gt_3 176 rfl rfl
theorem m_3_178 : Cond.laysFinal RX11 "Blazonry" "shieldPicture" "LBlazonry$Picture;" ∈ gW := gt_3 178 rfl rfl
theorem m_3_180 : Cond.laysFinal RX11 "Blazonry" "teller" "LBlazonry$Teller;" ∈ gW := gt_3 180 rfl rfl
theorem m_3_182 : Cond.laysFinal RX11 "Blazonry" "kin" "LBlazonry$Kin;" ∈ gW := gt_3 182 rfl rfl
theorem m_3_184 : Cond.laysFinal RX11 "Blazonry" "roll" "LBlazonry$Roll;" ∈ gW := gt_3 184 rfl rfl
theorem m_3_186 : Cond.laysFinal RX11 "Blazonry" "bearing" "LBlazonry$Bearing;" ∈ gW := gt_3 186 rfl rfl
theorem m_3_188 : Cond.laysFinal RX11 "Blazonry" "honours" "LBlazonry$Honours;" ∈ gW := gt_3 188 rfl rfl
theorem m_3_190 : Cond.laysFinal RX11 "Blazonry" "marshal" "LBlazonry$Marshal;" ∈ gW := gt_3 190 rfl rfl
theorem m_3_192 : Cond.laysFinal RX11 "Blazonry" "court" "LBlazonry$Court;" ∈ gW := gt_3 192 rfl rfl
theorem m_3_194 : Cond.lays RX11 "Blazonry" "isRowDrawn" "Z" ∈ gW := gt_3 194 rfl rfl
theorem m_3_196 : Cond.lays RX11 "Blazonry" "isRowTold" "Z" ∈ gW := gt_3 196 rfl rfl
theorem m_3_198 : Cond.lays RX11 "Blazonry" "today" "I" ∈ gW := gt_3 198 rfl rfl
theorem in_X11 : ∀ w ∈ u_ws RX11 TX11 14, w ∈ gW := fun w h => by
  obtain ⟨k, hk, rfl⟩ := List.mem_map.mp h
  have hk := List.mem_range.mp hk
  rcases (show k = 0 ∨ k = 1 ∨ k = 2 ∨ k = 3 ∨ k = 4 ∨ k = 5 ∨ k = 6 ∨ k = 7 ∨ k = 8 ∨ k = 9 ∨ k = 10 ∨ k = 11 ∨ k = 12 ∨ k = 13 by omega) with rfl | rfl | rfl | rfl | rfl | rfl | rfl | rfl | rfl | rfl | rfl | rfl | rfl | rfl
  · exact m_3_172
  · exact m_3_174
  · exact m_3_176
  · exact m_3_178
  · exact m_3_180
  · exact m_3_182
  · exact m_3_184
  · exact m_3_186
  · exact m_3_188
  · exact m_3_190
  · exact m_3_192
  · exact m_3_194
  · exact m_3_196
  · exact m_3_198
theorem dv_X11 : ∀ j, j < 14 → defaultValue (tyX11 j) = vp_V [.null, .null, .null, .null, .null, .null, .null, .null, .null, .null, .null, .int 0, .int 0, .int 0] j := fun j hj => by rcases (show j = 0 ∨ j = 1 ∨ j = 2 ∨ j = 3 ∨ j = 4 ∨ j = 5 ∨ j = 6 ∨ j = 7 ∨ j = 8 ∨ j = 9 ∨ j = 10 ∨ j = 11 ∨ j = 12 ∨ j = 13 by omega) with rfl | rfl | rfl | rfl | rfl | rfl | rfl | rfl | rfl | rfl | rfl | rfl | rfl | rfl <;> rfl
theorem m_1_43 : Cond.classLink RL 8 RX11 ∈ gW := gt_1 43 rfl rfl
theorem m_1_44 : Cond.instantiable RX11 14 ∈ gW := gt_1 44 rfl rfl
theorem m_1_1 : Cond.initialized RX11 ∈ gW := gt_1 1 rfl rfl
theorem m_1_50 : Cond.code objectInit ⟨#[0xb1]⟩ 1 none ∈ gW := gt_1 50 rfl rfl
theorem m_1_48 : Cond.methodLink RX11 1 objectInit ∈ gW := gt_1 48 rfl rfl
theorem m_1_49 : Cond.instanceMethod objectInit ∈ gW := gt_1 49 rfl rfl
theorem m_1_201 : Cond.laysFinal RX7 "Blazonry$Painter" "partings" "[[I" ∈ gW := gt_1 201 rfl rfl
theorem m_1_203 : Cond.laysFinal RX7 "Blazonry$Painter" "ordinaries" "[[I" ∈ gW := gt_1 203 rfl rfl
theorem m_1_205 : Cond.laysFinal RX7 "Blazonry$Painter" "shapes" "[[I" ∈ gW := gt_1 205 rfl rfl
theorem m_1_207 : Cond.laysFinal RX7 "Blazonry$Painter" "charges" "[[I" ∈ gW := gt_1 207 rfl rfl
theorem m_1_209 : Cond.laysFinal RX7 "Blazonry$Painter" "nothing" "[I" ∈ gW := gt_1 209 rfl rfl
theorem m_1_211 : Cond.laysFinal RX7 "Blazonry$Painter" "body" "[I" ∈ gW := gt_1 211 rfl rfl
theorem m_1_213 : Cond.laysFinal RX7 "Blazonry$Painter" "on" "[I" ∈ gW := gt_1 213 rfl rfl
theorem m_1_215 : Cond.laysFinal RX7 "Blazonry$Painter" "layers" "[[I" ∈ gW := gt_1 215 rfl rfl
theorem m_1_217 : Cond.laysFinal RX7 "Blazonry$Painter" "layerTinctures" "[I" ∈ gW := gt_1 217 rfl rfl
theorem m_1_219 : Cond.laysFinal RX7 "Blazonry$Painter" "open" "[I" ∈ gW := gt_1 219 rfl rfl
theorem m_1_221 : Cond.laysFinal RX7 "Blazonry$Painter" "mark" "LBlazonry$Group;" ∈ gW := gt_1 221 rfl rfl
theorem m_1_223 : Cond.laysFinal RX7 "Blazonry$Painter" "canvas" "LBlazonry$Picture;" ∈ gW := gt_1 223 rfl rfl
theorem m_1_225 : Cond.lays RX7 "Blazonry$Painter" "layerCount" "I" ∈ gW := gt_1 225 rfl rfl
theorem in_X7 : ∀ w ∈ u_ws RX7 TX7 13, w ∈ gW := fun w h => by
  obtain ⟨k, hk, rfl⟩ := List.mem_map.mp h
  have hk := List.mem_range.mp hk
  rcases (show k = 0 ∨ k = 1 ∨ k = 2 ∨ k = 3 ∨ k = 4 ∨ k = 5 ∨ k = 6 ∨ k = 7 ∨ k = 8 ∨ k = 9 ∨ k = 10 ∨ k = 11 ∨ k = 12 by omega) with rfl | rfl | rfl | rfl | rfl | rfl | rfl | rfl | rfl | rfl | rfl | rfl | rfl
  · exact m_1_201
  · exact m_1_203
  · exact m_1_205
  · exact m_1_207
  · exact m_1_209
  · exact m_1_211
  · exact m_1_213
  · exact m_1_215
  · exact m_1_217
  · exact m_1_219
  · exact m_1_221
  · exact m_1_223
  · exact m_1_225
theorem dv_X7 : ∀ j, j < 13 → defaultValue (tyX7 j) = vp_V [.null, .null, .null, .null, .null, .null, .null, .null, .null, .null, .null, .null, .int 0] j := fun j hj => by rcases (show j = 0 ∨ j = 1 ∨ j = 2 ∨ j = 3 ∨ j = 4 ∨ j = 5 ∨ j = 6 ∨ j = 7 ∨ j = 8 ∨ j = 9 ∨ j = 10 ∨ j = 11 ∨ j = 12 by omega) with rfl | rfl | rfl | rfl | rfl | rfl | rfl | rfl | rfl | rfl | rfl | rfl | rfl <;> rfl
theorem m_1_51 : Cond.classLink RX11 7 RX7 ∈ gW := gt_1 51 rfl rfl
theorem m_1_52 : Cond.instantiable RX7 13 ∈ gW := gt_1 52 rfl rfl
theorem m_1_2 : Cond.initialized RX7 ∈ gW := gt_1 2 rfl rfl
theorem hd_X7_init : (yX7_init).cls ≠ "java/lang/invoke/MethodHandle" ∧ (yX7_init).cls ≠ "java/lang/invoke/VarHandle" ∧ (parseMethodDescriptor (yX7_init).desc).map (fun d => d.parameters.length) = some 0 := ⟨by decide, by decide, by decide +kernel⟩
theorem m_1_55 : Cond.code yX7_init cX7_init 3 none ∈ gW := gt_1 55 rfl rfl
theorem m_1_53 : Cond.methodLink RX11 9 yX7_init ∈ gW := gt_1 53 rfl rfl
theorem m_1_54 : Cond.instanceMethod yX7_init ∈ gW := gt_1 54 rfl rfl
theorem m_3_158 : Cond.fieldLink RX11 10 "Blazonry" "painter" "LBlazonry$Painter;" ∈ gW := gt_3 158 rfl rfl
theorem m_2_28 : Cond.laysFinal RX1 "Blazonry$Blazon" "words" "[I" ∈ gW := gt_2 28 rfl rfl
theorem m_2_30 : Cond.laysFinal RX1 "Blazonry$Blazon" "meanings" "[I" ∈ gW := gt_2 30 rfl rfl
theorem m_2_32 : Cond.laysFinal RX1 "Blazonry$Blazon" "groups" "[LBlazonry$Group;" ∈ gW := gt_2 32 rfl rfl
theorem m_2_34 : Cond.lays RX1 "Blazonry$Blazon" "cursor" "I" ∈ gW := gt_2 34 rfl rfl
theorem m_2_36 : Cond.lays RX1 "Blazonry$Blazon" "last" "I" ∈ gW := gt_2 36 rfl rfl
theorem m_2_38 : Cond.lays RX1 "Blazonry$Blazon" "count" "I" ∈ gW := gt_2 38 rfl rfl
theorem m_2_40 : Cond.lays RX1 "Blazonry$Blazon" "faultAt" "I" ∈ gW := gt_2 40 rfl rfl
theorem m_2_42 : Cond.lays RX1 "Blazonry$Blazon" "parting" "I" ∈ gW := gt_2 42 rfl rfl
theorem m_2_44 : Cond.lays RX1 "Blazonry$Blazon" "line" "I" ∈ gW := gt_2 44 rfl rfl
theorem m_2_46 : Cond.lays RX1 "Blazonry$Blazon" "first" "I" ∈ gW := gt_2 46 rfl rfl
theorem m_2_48 : Cond.lays RX1 "Blazonry$Blazon" "second" "I" ∈ gW := gt_2 48 rfl rfl
theorem m_2_50 : Cond.lays RX1 "Blazonry$Blazon" "groupCount" "I" ∈ gW := gt_2 50 rfl rfl
theorem in_X1 : ∀ w ∈ u_ws RX1 TX1 12, w ∈ gW := fun w h => by
  obtain ⟨k, hk, rfl⟩ := List.mem_map.mp h
  have hk := List.mem_range.mp hk
  rcases (show k = 0 ∨ k = 1 ∨ k = 2 ∨ k = 3 ∨ k = 4 ∨ k = 5 ∨ k = 6 ∨ k = 7 ∨ k = 8 ∨ k = 9 ∨ k = 10 ∨ k = 11 by omega) with rfl | rfl | rfl | rfl | rfl | rfl | rfl | rfl | rfl | rfl | rfl | rfl
  · exact m_2_28
  · exact m_2_30
  · exact m_2_32
  · exact m_2_34
  · exact m_2_36
  · exact m_2_38
  · exact m_2_40
  · exact m_2_42
  · exact m_2_44
  · exact m_2_46
  · exact m_2_48
  · exact m_2_50
theorem dv_X1 : ∀ j, j < 12 → defaultValue (tyX1 j) = vp_V [.null, .null, .null, .int 0, .int 0, .int 0, .int 0, .int 0, .int 0, .int 0, .int 0, .int 0] j := fun j hj => by rcases (show j = 0 ∨ j = 1 ∨ j = 2 ∨ j = 3 ∨ j = 4 ∨ j = 5 ∨ j = 6 ∨ j = 7 ∨ j = 8 ∨ j = 9 ∨ j = 10 ∨ j = 11 by omega) with rfl | rfl | rfl | rfl | rfl | rfl | rfl | rfl | rfl | rfl | rfl | rfl <;> rfl
theorem m_1_228 : Cond.classLink RX11 16 RX1 ∈ gW := gt_1 228 rfl rfl
theorem m_1_229 : Cond.instantiable RX1 12 ∈ gW := gt_1 229 rfl rfl
theorem m_1_6 : Cond.initialized RX1 ∈ gW := gt_1 6 rfl rfl
theorem m_1_233 : Cond.methodLink RX1 3 objectInit ∈ gW := gt_1 233 rfl rfl
theorem m_1_136 : Cond.arrayClass .int ∈ gW := gt_1 136 rfl rfl
theorem m_1_237 : Cond.fieldLink RX1 9 "Blazonry$Blazon" "words" "[I" ∈ gW := gt_1 237 rfl rfl
theorem m_1_239 : Cond.fieldLink RX1 15 "Blazonry$Blazon" "meanings" "[I" ∈ gW := gt_1 239 rfl rfl
theorem m_1_234 : Cond.classLink RX1 18 RX3 ∈ gW := gt_1 234 rfl rfl
theorem m_2_0 : Cond.fieldLink RX1 20 "Blazonry$Blazon" "groups" "[LBlazonry$Group;" ∈ gW := gt_2 0 rfl rfl
theorem m_1_109 : Cond.lays RX3 "Blazonry$Group" "ordinary" "I" ∈ gW := gt_1 109 rfl rfl
theorem m_1_111 : Cond.lays RX3 "Blazonry$Group" "line" "I" ∈ gW := gt_1 111 rfl rfl
theorem m_1_113 : Cond.lays RX3 "Blazonry$Group" "tincture" "I" ∈ gW := gt_1 113 rfl rfl
theorem m_1_115 : Cond.lays RX3 "Blazonry$Group" "number" "I" ∈ gW := gt_1 115 rfl rfl
theorem m_1_117 : Cond.lays RX3 "Blazonry$Group" "charge" "I" ∈ gW := gt_1 117 rfl rfl
theorem m_1_119 : Cond.lays RX3 "Blazonry$Group" "attitude" "I" ∈ gW := gt_1 119 rfl rfl
theorem m_1_121 : Cond.lays RX3 "Blazonry$Group" "place" "I" ∈ gW := gt_1 121 rfl rfl
theorem m_1_123 : Cond.lays RX3 "Blazonry$Group" "onNumber" "I" ∈ gW := gt_1 123 rfl rfl
theorem m_1_125 : Cond.lays RX3 "Blazonry$Group" "onCharge" "I" ∈ gW := gt_1 125 rfl rfl
theorem m_1_127 : Cond.lays RX3 "Blazonry$Group" "onAttitude" "I" ∈ gW := gt_1 127 rfl rfl
theorem m_1_129 : Cond.lays RX3 "Blazonry$Group" "onTincture" "I" ∈ gW := gt_1 129 rfl rfl
theorem m_1_131 : Cond.lays RX3 "Blazonry$Group" "found" "I" ∈ gW := gt_1 131 rfl rfl
theorem m_1_133 : Cond.lays RX3 "Blazonry$Group" "onFound" "I" ∈ gW := gt_1 133 rfl rfl
theorem in_X3 : ∀ w ∈ u_ws RX3 TX3 13, w ∈ gW := fun w h => by
  obtain ⟨k, hk, rfl⟩ := List.mem_map.mp h
  have hk := List.mem_range.mp hk
  rcases (show k = 0 ∨ k = 1 ∨ k = 2 ∨ k = 3 ∨ k = 4 ∨ k = 5 ∨ k = 6 ∨ k = 7 ∨ k = 8 ∨ k = 9 ∨ k = 10 ∨ k = 11 ∨ k = 12 by omega) with rfl | rfl | rfl | rfl | rfl | rfl | rfl | rfl | rfl | rfl | rfl | rfl | rfl
  · exact m_1_109
  · exact m_1_111
  · exact m_1_113
  · exact m_1_115
  · exact m_1_117
  · exact m_1_119
  · exact m_1_121
  · exact m_1_123
  · exact m_1_125
  · exact m_1_127
  · exact m_1_129
  · exact m_1_131
  · exact m_1_133
theorem dv_X3 : ∀ j, j < 13 → defaultValue (tyX3 j) = vp_V [.int 0, .int 0, .int 0, .int 0, .int 0, .int 0, .int 0, .int 0, .int 0, .int 0, .int 0, .int 0, .int 0] j := fun j hj => by rcases (show j = 0 ∨ j = 1 ∨ j = 2 ∨ j = 3 ∨ j = 4 ∨ j = 5 ∨ j = 6 ∨ j = 7 ∨ j = 8 ∨ j = 9 ∨ j = 10 ∨ j = 11 ∨ j = 12 by omega) with rfl | rfl | rfl | rfl | rfl | rfl | rfl | rfl | rfl | rfl | rfl | rfl | rfl <;> rfl
theorem m_1_60 : Cond.instantiable RX3 13 ∈ gW := gt_1 60 rfl rfl
theorem m_1_3 : Cond.initialized RX3 ∈ gW := gt_1 3 rfl rfl
theorem n_m2 : (RX1, 24, yX3_init, "Blazonry") ∈ gNM := List.mem_of_getElem? (i := 2) rfl
theorem m_1_64 : Cond.methodLink RX3 3 objectInit ∈ gW := gt_1 64 rfl rfl
theorem m_1_63 : Cond.code yX3_init cX3_init 1 none ∈ gW := gt_1 63 rfl rfl
theorem hd_X3_init : (yX3_init).cls ≠ "java/lang/invoke/MethodHandle" ∧ (yX3_init).cls ≠ "java/lang/invoke/VarHandle" ∧ (parseMethodDescriptor (yX3_init).desc).map (fun d => d.parameters.length) = some 0 := ⟨by decide, by decide, by decide +kernel⟩
theorem m_1_62 : Cond.instanceMethod yX3_init ∈ gW := gt_1 62 rfl rfl
theorem m_1_232 : Cond.code yX1_init cX1_init 2 none ∈ gW := gt_1 232 rfl rfl
theorem hd_X1_init : (yX1_init).cls ≠ "java/lang/invoke/MethodHandle" ∧ (yX1_init).cls ≠ "java/lang/invoke/VarHandle" ∧ (parseMethodDescriptor (yX1_init).desc).map (fun d => d.parameters.length) = some 0 := ⟨by decide, by decide, by decide +kernel⟩
theorem m_1_230 : Cond.methodLink RX11 18 yX1_init ∈ gW := gt_1 230 rfl rfl
theorem m_1_231 : Cond.instanceMethod yX1_init ∈ gW := gt_1 231 rfl rfl
theorem m_3_159 : Cond.fieldLink RX11 19 "Blazonry" "row" "LBlazonry$Blazon;" ∈ gW := gt_3 159 rfl rfl
theorem m_1_152 : Cond.laysFinal RX8 "Blazonry$Picture" "rows" "[J" ∈ gW := gt_1 152 rfl rfl
theorem m_1_154 : Cond.laysFinal RX8 "Blazonry$Picture" "taken" "[I" ∈ gW := gt_1 154 rfl rfl
theorem m_1_156 : Cond.laysFinal RX8 "Blazonry$Picture" "seconds" "[J" ∈ gW := gt_1 156 rfl rfl
theorem m_1_158 : Cond.lays RX8 "Blazonry$Picture" "first" "I" ∈ gW := gt_1 158 rfl rfl
theorem m_1_160 : Cond.lays RX8 "Blazonry$Picture" "second" "I" ∈ gW := gt_1 160 rfl rfl
theorem in_X8 : ∀ w ∈ u_ws RX8 TX8 5, w ∈ gW := fun w h => by
  obtain ⟨k, hk, rfl⟩ := List.mem_map.mp h
  have hk := List.mem_range.mp hk
  rcases (show k = 0 ∨ k = 1 ∨ k = 2 ∨ k = 3 ∨ k = 4 by omega) with rfl | rfl | rfl | rfl | rfl
  · exact m_1_152
  · exact m_1_154
  · exact m_1_156
  · exact m_1_158
  · exact m_1_160
theorem dv_X8 : ∀ j, j < 5 → defaultValue (tyX8 j) = vp_V [.null, .null, .null, .int 0, .int 0] j := fun j hj => by rcases (show j = 0 ∨ j = 1 ∨ j = 2 ∨ j = 3 ∨ j = 4 by omega) with rfl | rfl | rfl | rfl | rfl <;> rfl
theorem m_2_53 : Cond.classLink RX11 23 RX8 ∈ gW := gt_2 53 rfl rfl
theorem m_1_138 : Cond.instantiable RX8 5 ∈ gW := gt_1 138 rfl rfl
theorem m_1_4 : Cond.initialized RX8 ∈ gW := gt_1 4 rfl rfl
theorem n_m3 : (RX11, 25, yX8_init, "Blazonry") ∈ gNM := List.mem_of_getElem? (i := 3) rfl
theorem m_1_142 : Cond.methodLink RX8 3 objectInit ∈ gW := gt_1 142 rfl rfl
theorem m_1_163 : Cond.arrayClass .long ∈ gW := gt_1 163 rfl rfl
theorem m_1_143 : Cond.fieldLink RX8 9 "Blazonry$Picture" "rows" "[J" ∈ gW := gt_1 143 rfl rfl
theorem m_1_147 : Cond.fieldLink RX8 15 "Blazonry$Picture" "taken" "[I" ∈ gW := gt_1 147 rfl rfl
theorem m_1_149 : Cond.fieldLink RX8 19 "Blazonry$Picture" "seconds" "[J" ∈ gW := gt_1 149 rfl rfl
theorem m_1_141 : Cond.code yX8_init cX8_init 1 none ∈ gW := gt_1 141 rfl rfl
theorem hd_X8_init : (yX8_init).cls ≠ "java/lang/invoke/MethodHandle" ∧ (yX8_init).cls ≠ "java/lang/invoke/VarHandle" ∧ (parseMethodDescriptor (yX8_init).desc).map (fun d => d.parameters.length) = some 0 := ⟨by decide, by decide, by decide +kernel⟩
theorem m_1_140 : Cond.instanceMethod yX8_init ∈ gW := gt_1 140 rfl rfl
theorem m_3_160 : Cond.fieldLink RX11 26 "Blazonry" "rowPicture" "LBlazonry$Picture;" ∈ gW := gt_3 160 rfl rfl
theorem m_3_161 : Cond.fieldLink RX11 30 "Blazonry" "shieldPicture" "LBlazonry$Picture;" ∈ gW := gt_3 161 rfl rfl
theorem m_2_80 : Cond.laysFinal RX10 "Blazonry$Teller" "painter" "LBlazonry$Painter;" ∈ gW := gt_2 80 rfl rfl
theorem m_2_82 : Cond.laysFinal RX10 "Blazonry$Teller" "levels" "[LBlazonry$Picture;" ∈ gW := gt_2 82 rfl rfl
theorem m_2_84 : Cond.laysFinal RX10 "Blazonry$Teller" "lengths" "[I" ∈ gW := gt_2 84 rfl rfl
theorem m_2_86 : Cond.laysFinal RX10 "Blazonry$Teller" "ways" "[I" ∈ gW := gt_2 86 rfl rfl
theorem m_2_88 : Cond.laysFinal RX10 "Blazonry$Teller" "words" "[I" ∈ gW := gt_2 88 rfl rfl
theorem m_2_90 : Cond.laysFinal RX10 "Blazonry$Teller" "best" "[I" ∈ gW := gt_2 90 rfl rfl
theorem m_2_92 : Cond.laysFinal RX10 "Blazonry$Teller" "trial" "LBlazonry$Group;" ∈ gW := gt_2 92 rfl rfl
theorem m_2_94 : Cond.laysFinal RX10 "Blazonry$Teller" "target" "LBlazonry$Picture;" ∈ gW := gt_2 94 rfl rfl
theorem m_2_96 : Cond.laysFinal RX10 "Blazonry$Teller" "retold" "LBlazonry$Blazon;" ∈ gW := gt_2 96 rfl rfl
theorem m_2_98 : Cond.lays RX10 "Blazonry$Teller" "isFieldParted" "Z" ∈ gW := gt_2 98 rfl rfl
theorem m_2_100 : Cond.lays RX10 "Blazonry$Teller" "bestCount" "I" ∈ gW := gt_2 100 rfl rfl
theorem in_X10 : ∀ w ∈ u_ws RX10 TX10 11, w ∈ gW := fun w h => by
  obtain ⟨k, hk, rfl⟩ := List.mem_map.mp h
  have hk := List.mem_range.mp hk
  rcases (show k = 0 ∨ k = 1 ∨ k = 2 ∨ k = 3 ∨ k = 4 ∨ k = 5 ∨ k = 6 ∨ k = 7 ∨ k = 8 ∨ k = 9 ∨ k = 10 by omega) with rfl | rfl | rfl | rfl | rfl | rfl | rfl | rfl | rfl | rfl | rfl
  · exact m_2_80
  · exact m_2_82
  · exact m_2_84
  · exact m_2_86
  · exact m_2_88
  · exact m_2_90
  · exact m_2_92
  · exact m_2_94
  · exact m_2_96
  · exact m_2_98
  · exact m_2_100
theorem dv_X10 : ∀ j, j < 11 → defaultValue (tyX10 j) = vp_V [.null, .null, .null, .null, .null, .null, .null, .null, .null, .int 0, .int 0] j := fun j hj => by rcases (show j = 0 ∨ j = 1 ∨ j = 2 ∨ j = 3 ∨ j = 4 ∨ j = 5 ∨ j = 6 ∨ j = 7 ∨ j = 8 ∨ j = 9 ∨ j = 10 by omega) with rfl | rfl | rfl | rfl | rfl | rfl | rfl | rfl | rfl | rfl | rfl <;> rfl
theorem m_2_55 : Cond.classLink RX11 33 RX10 ∈ gW := gt_2 55 rfl rfl
theorem m_2_56 : Cond.instantiable RX10 11 ∈ gW := gt_2 56 rfl rfl
theorem m_1_7 : Cond.initialized RX10 ∈ gW := gt_1 7 rfl rfl
theorem m_2_60 : Cond.methodLink RX10 3 objectInit ∈ gW := gt_2 60 rfl rfl
theorem m_2_61 : Cond.classLink RX10 9 RX8 ∈ gW := gt_2 61 rfl rfl
theorem m_2_69 : Cond.fieldLink RX10 11 "Blazonry$Teller" "levels" "[LBlazonry$Picture;" ∈ gW := gt_2 69 rfl rfl
theorem m_2_70 : Cond.fieldLink RX10 17 "Blazonry$Teller" "lengths" "[I" ∈ gW := gt_2 70 rfl rfl
theorem m_2_71 : Cond.fieldLink RX10 21 "Blazonry$Teller" "ways" "[I" ∈ gW := gt_2 71 rfl rfl
theorem m_2_72 : Cond.fieldLink RX10 24 "Blazonry$Teller" "words" "[I" ∈ gW := gt_2 72 rfl rfl
theorem m_2_73 : Cond.fieldLink RX10 27 "Blazonry$Teller" "best" "[I" ∈ gW := gt_2 73 rfl rfl
theorem m_2_63 : Cond.classLink RX10 30 RX3 ∈ gW := gt_2 63 rfl rfl
theorem n_m4 : (RX10, 32, yX3_init, "Blazonry") ∈ gNM := List.mem_of_getElem? (i := 4) rfl
theorem m_2_74 : Cond.fieldLink RX10 33 "Blazonry$Teller" "trial" "LBlazonry$Group;" ∈ gW := gt_2 74 rfl rfl
theorem n_m5 : (RX10, 37, yX8_init, "Blazonry") ∈ gNM := List.mem_of_getElem? (i := 5) rfl
theorem m_2_75 : Cond.fieldLink RX10 38 "Blazonry$Teller" "target" "LBlazonry$Picture;" ∈ gW := gt_2 75 rfl rfl
theorem m_2_66 : Cond.classLink RX10 42 RX1 ∈ gW := gt_2 66 rfl rfl
theorem m_2_67 : Cond.methodLink RX10 44 yX1_init ∈ gW := gt_2 67 rfl rfl
theorem m_2_76 : Cond.fieldLink RX10 45 "Blazonry$Teller" "retold" "LBlazonry$Blazon;" ∈ gW := gt_2 76 rfl rfl
theorem m_2_68 : Cond.fieldLink RX10 49 "Blazonry$Teller" "painter" "LBlazonry$Painter;" ∈ gW := gt_2 68 rfl rfl
theorem m_2_59 : Cond.code yX10_init cX10_init 3 none ∈ gW := gt_2 59 rfl rfl
theorem hd_X10_init : (yX10_init).cls ≠ "java/lang/invoke/MethodHandle" ∧ (yX10_init).cls ≠ "java/lang/invoke/VarHandle" ∧ (parseMethodDescriptor (yX10_init).desc).map (fun d => d.parameters.length) = some 1 := ⟨by decide, by decide, by decide +kernel⟩
theorem m_2_57 : Cond.methodLink RX11 35 yX10_init ∈ gW := gt_2 57 rfl rfl
theorem m_2_58 : Cond.instanceMethod yX10_init ∈ gW := gt_2 58 rfl rfl
theorem m_3_162 : Cond.fieldLink RX11 38 "Blazonry" "teller" "LBlazonry$Teller;" ∈ gW := gt_3 162 rfl rfl
theorem m_2_121 : Cond.laysFinal RX5 "Blazonry$Kin" "fathers" "[I" ∈ gW := gt_2 121 rfl rfl
theorem m_2_123 : Cond.laysFinal RX5 "Blazonry$Kin" "mothers" "[I" ∈ gW := gt_2 123 rfl rfl
theorem m_2_125 : Cond.laysFinal RX5 "Blazonry$Kin" "spouses" "[I" ∈ gW := gt_2 125 rfl rfl
theorem m_2_127 : Cond.laysFinal RX5 "Blazonry$Kin" "deaths" "[I" ∈ gW := gt_2 127 rfl rfl
theorem m_2_129 : Cond.laysFinal RX5 "Blazonry$Kin" "lines" "[I" ∈ gW := gt_2 129 rfl rfl
theorem m_2_131 : Cond.laysFinal RX5 "Blazonry$Kin" "men" "[Z" ∈ gW := gt_2 131 rfl rfl
theorem m_2_133 : Cond.laysFinal RX5 "Blazonry$Kin" "reached" "[Z" ∈ gW := gt_2 133 rfl rfl
theorem m_2_135 : Cond.lays RX5 "Blazonry$Kin" "deathCount" "I" ∈ gW := gt_2 135 rfl rfl
theorem m_2_137 : Cond.lays RX5 "Blazonry$Kin" "count" "I" ∈ gW := gt_2 137 rfl rfl
theorem in_X5 : ∀ w ∈ u_ws RX5 TX5 9, w ∈ gW := fun w h => by
  obtain ⟨k, hk, rfl⟩ := List.mem_map.mp h
  have hk := List.mem_range.mp hk
  rcases (show k = 0 ∨ k = 1 ∨ k = 2 ∨ k = 3 ∨ k = 4 ∨ k = 5 ∨ k = 6 ∨ k = 7 ∨ k = 8 by omega) with rfl | rfl | rfl | rfl | rfl | rfl | rfl | rfl | rfl
  · exact m_2_121
  · exact m_2_123
  · exact m_2_125
  · exact m_2_127
  · exact m_2_129
  · exact m_2_131
  · exact m_2_133
  · exact m_2_135
  · exact m_2_137
theorem dv_X5 : ∀ j, j < 9 → defaultValue (tyX5 j) = vp_V [.null, .null, .null, .null, .null, .null, .null, .int 0, .int 0] j := fun j hj => by rcases (show j = 0 ∨ j = 1 ∨ j = 2 ∨ j = 3 ∨ j = 4 ∨ j = 5 ∨ j = 6 ∨ j = 7 ∨ j = 8 by omega) with rfl | rfl | rfl | rfl | rfl | rfl | rfl | rfl | rfl <;> rfl
theorem m_2_103 : Cond.classLink RX11 42 RX5 ∈ gW := gt_2 103 rfl rfl
theorem m_2_104 : Cond.instantiable RX5 9 ∈ gW := gt_2 104 rfl rfl
theorem m_1_8 : Cond.initialized RX5 ∈ gW := gt_1 8 rfl rfl
theorem n_m6 : (RX11, 44, yX5_init, "Blazonry") ∈ gNM := List.mem_of_getElem? (i := 6) rfl
theorem m_2_108 : Cond.methodLink RX5 3 objectInit ∈ gW := gt_2 108 rfl rfl
theorem m_2_109 : Cond.fieldLink RX5 9 "Blazonry$Kin" "fathers" "[I" ∈ gW := gt_2 109 rfl rfl
theorem m_2_110 : Cond.fieldLink RX5 15 "Blazonry$Kin" "mothers" "[I" ∈ gW := gt_2 110 rfl rfl
theorem m_2_111 : Cond.fieldLink RX5 18 "Blazonry$Kin" "spouses" "[I" ∈ gW := gt_2 111 rfl rfl
theorem m_2_112 : Cond.fieldLink RX5 21 "Blazonry$Kin" "deaths" "[I" ∈ gW := gt_2 112 rfl rfl
theorem m_2_113 : Cond.fieldLink RX5 24 "Blazonry$Kin" "lines" "[I" ∈ gW := gt_2 113 rfl rfl
theorem m_2_140 : Cond.arrayClass .boolean ∈ gW := gt_2 140 rfl rfl
theorem m_2_114 : Cond.fieldLink RX5 27 "Blazonry$Kin" "men" "[Z" ∈ gW := gt_2 114 rfl rfl
theorem m_2_115 : Cond.fieldLink RX5 31 "Blazonry$Kin" "reached" "[Z" ∈ gW := gt_2 115 rfl rfl
theorem m_2_107 : Cond.code yX5_init cX5_init 1 none ∈ gW := gt_2 107 rfl rfl
theorem hd_X5_init : (yX5_init).cls ≠ "java/lang/invoke/MethodHandle" ∧ (yX5_init).cls ≠ "java/lang/invoke/VarHandle" ∧ (parseMethodDescriptor (yX5_init).desc).map (fun d => d.parameters.length) = some 0 := ⟨by decide, by decide, by decide +kernel⟩
theorem m_2_106 : Cond.instanceMethod yX5_init ∈ gW := gt_2 106 rfl rfl
theorem m_3_163 : Cond.fieldLink RX11 45 "Blazonry" "kin" "LBlazonry$Kin;" ∈ gW := gt_3 163 rfl rfl
theorem m_2_169 : Cond.laysFinal RX9 "Blazonry$Roll" "painter" "LBlazonry$Painter;" ∈ gW := gt_2 169 rfl rfl
theorem m_2_171 : Cond.laysFinal RX9 "Blazonry$Roll" "blazons" "[LBlazonry$Blazon;" ∈ gW := gt_2 171 rfl rfl
theorem m_2_173 : Cond.laysFinal RX9 "Blazonry$Roll" "pictures" "[[J" ∈ gW := gt_2 173 rfl rfl
theorem m_2_175 : Cond.laysFinal RX9 "Blazonry$Roll" "lands" "[I" ∈ gW := gt_2 175 rfl rfl
theorem m_2_177 : Cond.laysFinal RX9 "Blazonry$Roll" "firsts" "[I" ∈ gW := gt_2 177 rfl rfl
theorem m_2_179 : Cond.laysFinal RX9 "Blazonry$Roll" "years" "[I" ∈ gW := gt_2 179 rfl rfl
theorem m_2_181 : Cond.laysFinal RX9 "Blazonry$Roll" "called" "[I" ∈ gW := gt_2 181 rfl rfl
theorem m_2_183 : Cond.laysFinal RX9 "Blazonry$Roll" "honours" "[I" ∈ gW := gt_2 183 rfl rfl
theorem m_2_185 : Cond.laysFinal RX9 "Blazonry$Roll" "letters" "[C" ∈ gW := gt_2 185 rfl rfl
theorem m_2_187 : Cond.laysFinal RX9 "Blazonry$Roll" "knownTold" "[Z" ∈ gW := gt_2 187 rfl rfl
theorem m_2_189 : Cond.laysFinal RX9 "Blazonry$Roll" "canvas" "LBlazonry$Picture;" ∈ gW := gt_2 189 rfl rfl
theorem m_2_191 : Cond.lays RX9 "Blazonry$Roll" "count" "I" ∈ gW := gt_2 191 rfl rfl
theorem in_X9 : ∀ w ∈ u_ws RX9 TX9 12, w ∈ gW := fun w h => by
  obtain ⟨k, hk, rfl⟩ := List.mem_map.mp h
  have hk := List.mem_range.mp hk
  rcases (show k = 0 ∨ k = 1 ∨ k = 2 ∨ k = 3 ∨ k = 4 ∨ k = 5 ∨ k = 6 ∨ k = 7 ∨ k = 8 ∨ k = 9 ∨ k = 10 ∨ k = 11 by omega) with rfl | rfl | rfl | rfl | rfl | rfl | rfl | rfl | rfl | rfl | rfl | rfl
  · exact m_2_169
  · exact m_2_171
  · exact m_2_173
  · exact m_2_175
  · exact m_2_177
  · exact m_2_179
  · exact m_2_181
  · exact m_2_183
  · exact m_2_185
  · exact m_2_187
  · exact m_2_189
  · exact m_2_191
theorem dv_X9 : ∀ j, j < 12 → defaultValue (tyX9 j) = vp_V [.null, .null, .null, .null, .null, .null, .null, .null, .null, .null, .null, .int 0] j := fun j hj => by rcases (show j = 0 ∨ j = 1 ∨ j = 2 ∨ j = 3 ∨ j = 4 ∨ j = 5 ∨ j = 6 ∨ j = 7 ∨ j = 8 ∨ j = 9 ∨ j = 10 ∨ j = 11 by omega) with rfl | rfl | rfl | rfl | rfl | rfl | rfl | rfl | rfl | rfl | rfl | rfl <;> rfl
theorem m_2_141 : Cond.classLink RX11 49 RX9 ∈ gW := gt_2 141 rfl rfl
theorem m_2_142 : Cond.instantiable RX9 12 ∈ gW := gt_2 142 rfl rfl
theorem m_1_9 : Cond.initialized RX9 ∈ gW := gt_1 9 rfl rfl
theorem m_2_146 : Cond.methodLink RX9 3 objectInit ∈ gW := gt_2 146 rfl rfl
theorem m_2_147 : Cond.classLink RX9 9 RX1 ∈ gW := gt_2 147 rfl rfl
theorem m_2_155 : Cond.fieldLink RX9 11 "Blazonry$Roll" "blazons" "[LBlazonry$Blazon;" ∈ gW := gt_2 155 rfl rfl
theorem m_2_149 : Cond.classLink RX9 17 "[[J" ∈ gW := gt_2 149 rfl rfl
theorem m_2_156 : Cond.fieldLink RX9 19 "Blazonry$Roll" "pictures" "[[J" ∈ gW := gt_2 156 rfl rfl
theorem m_2_157 : Cond.fieldLink RX9 22 "Blazonry$Roll" "lands" "[I" ∈ gW := gt_2 157 rfl rfl
theorem m_2_158 : Cond.fieldLink RX9 26 "Blazonry$Roll" "firsts" "[I" ∈ gW := gt_2 158 rfl rfl
theorem m_2_159 : Cond.fieldLink RX9 29 "Blazonry$Roll" "years" "[I" ∈ gW := gt_2 159 rfl rfl
theorem m_2_160 : Cond.fieldLink RX9 32 "Blazonry$Roll" "called" "[I" ∈ gW := gt_2 160 rfl rfl
theorem m_2_161 : Cond.fieldLink RX9 35 "Blazonry$Roll" "honours" "[I" ∈ gW := gt_2 161 rfl rfl
theorem m_2_194 : Cond.arrayClass .char ∈ gW := gt_2 194 rfl rfl
theorem m_2_162 : Cond.fieldLink RX9 38 "Blazonry$Roll" "letters" "[C" ∈ gW := gt_2 162 rfl rfl
theorem m_2_163 : Cond.fieldLink RX9 42 "Blazonry$Roll" "knownTold" "[Z" ∈ gW := gt_2 163 rfl rfl
theorem m_2_151 : Cond.classLink RX9 46 RX8 ∈ gW := gt_2 151 rfl rfl
theorem n_m7 : (RX9, 48, yX8_init, "Blazonry") ∈ gNM := List.mem_of_getElem? (i := 7) rfl
theorem m_2_164 : Cond.fieldLink RX9 49 "Blazonry$Roll" "canvas" "LBlazonry$Picture;" ∈ gW := gt_2 164 rfl rfl
theorem m_2_154 : Cond.fieldLink RX9 53 "Blazonry$Roll" "painter" "LBlazonry$Painter;" ∈ gW := gt_2 154 rfl rfl
theorem m_2_153 : Cond.methodLink RX9 57 yX1_init ∈ gW := gt_2 153 rfl rfl
theorem m_2_145 : Cond.code yX9_init cX9_init 3 none ∈ gW := gt_2 145 rfl rfl
theorem hd_X9_init : (yX9_init).cls ≠ "java/lang/invoke/MethodHandle" ∧ (yX9_init).cls ≠ "java/lang/invoke/VarHandle" ∧ (parseMethodDescriptor (yX9_init).desc).map (fun d => d.parameters.length) = some 1 := ⟨by decide, by decide, by decide +kernel⟩
theorem m_2_143 : Cond.methodLink RX11 51 yX9_init ∈ gW := gt_2 143 rfl rfl
theorem m_2_144 : Cond.instanceMethod yX9_init ∈ gW := gt_2 144 rfl rfl
theorem m_3_164 : Cond.fieldLink RX11 52 "Blazonry" "roll" "LBlazonry$Roll;" ∈ gW := gt_3 164 rfl rfl
theorem m_2_213 : Cond.laysFinal RX0 "Blazonry$Bearing" "kin" "LBlazonry$Kin;" ∈ gW := gt_2 213 rfl rfl
theorem m_2_215 : Cond.laysFinal RX0 "Blazonry$Bearing" "roll" "LBlazonry$Roll;" ∈ gW := gt_2 215 rfl rfl
theorem m_2_217 : Cond.laysFinal RX0 "Blazonry$Bearing" "borne" "[I" ∈ gW := gt_2 217 rfl rfl
theorem m_2_219 : Cond.laysFinal RX0 "Blazonry$Bearing" "kept" "[I" ∈ gW := gt_2 219 rfl rfl
theorem m_2_221 : Cond.laysFinal RX0 "Blazonry$Bearing" "marks" "[[I" ∈ gW := gt_2 221 rfl rfl
theorem m_2_223 : Cond.laysFinal RX0 "Blazonry$Bearing" "markCounts" "[I" ∈ gW := gt_2 223 rfl rfl
theorem m_2_225 : Cond.laysFinal RX0 "Blazonry$Bearing" "wereLast" "[Z" ∈ gW := gt_2 225 rfl rfl
theorem m_2_227 : Cond.laysFinal RX0 "Blazonry$Bearing" "wereHeirs" "[Z" ∈ gW := gt_2 227 rfl rfl
theorem m_2_229 : Cond.laysFinal RX0 "Blazonry$Bearing" "lastMen" "[I" ∈ gW := gt_2 229 rfl rfl
theorem m_2_231 : Cond.laysFinal RX0 "Blazonry$Bearing" "heiressCounts" "[I" ∈ gW := gt_2 231 rfl rfl
theorem m_2_233 : Cond.laysFinal RX0 "Blazonry$Bearing" "fallsTo" "[I" ∈ gW := gt_2 233 rfl rfl
theorem in_X0 : ∀ w ∈ u_ws RX0 TX0 11, w ∈ gW := fun w h => by
  obtain ⟨k, hk, rfl⟩ := List.mem_map.mp h
  have hk := List.mem_range.mp hk
  rcases (show k = 0 ∨ k = 1 ∨ k = 2 ∨ k = 3 ∨ k = 4 ∨ k = 5 ∨ k = 6 ∨ k = 7 ∨ k = 8 ∨ k = 9 ∨ k = 10 by omega) with rfl | rfl | rfl | rfl | rfl | rfl | rfl | rfl | rfl | rfl | rfl
  · exact m_2_213
  · exact m_2_215
  · exact m_2_217
  · exact m_2_219
  · exact m_2_221
  · exact m_2_223
  · exact m_2_225
  · exact m_2_227
  · exact m_2_229
  · exact m_2_231
  · exact m_2_233
theorem dv_X0 : ∀ j, j < 11 → defaultValue (tyX0 j) = vp_V [.null, .null, .null, .null, .null, .null, .null, .null, .null, .null, .null] j := fun j hj => by rcases (show j = 0 ∨ j = 1 ∨ j = 2 ∨ j = 3 ∨ j = 4 ∨ j = 5 ∨ j = 6 ∨ j = 7 ∨ j = 8 ∨ j = 9 ∨ j = 10 by omega) with rfl | rfl | rfl | rfl | rfl | rfl | rfl | rfl | rfl | rfl | rfl <;> rfl
theorem m_2_195 : Cond.classLink RX11 56 RX0 ∈ gW := gt_2 195 rfl rfl
theorem m_2_196 : Cond.instantiable RX0 11 ∈ gW := gt_2 196 rfl rfl
theorem m_1_10 : Cond.initialized RX0 ∈ gW := gt_1 10 rfl rfl
theorem m_2_200 : Cond.methodLink RX0 3 objectInit ∈ gW := gt_2 200 rfl rfl
theorem m_2_204 : Cond.fieldLink RX0 9 "Blazonry$Bearing" "borne" "[I" ∈ gW := gt_2 204 rfl rfl
theorem m_2_205 : Cond.fieldLink RX0 15 "Blazonry$Bearing" "kept" "[I" ∈ gW := gt_2 205 rfl rfl
theorem m_2_201 : Cond.classLink RX0 18 "[[I" ∈ gW := gt_2 201 rfl rfl
theorem m_2_206 : Cond.fieldLink RX0 20 "Blazonry$Bearing" "marks" "[[I" ∈ gW := gt_2 206 rfl rfl
theorem m_2_207 : Cond.fieldLink RX0 23 "Blazonry$Bearing" "markCounts" "[I" ∈ gW := gt_2 207 rfl rfl
theorem m_2_208 : Cond.fieldLink RX0 26 "Blazonry$Bearing" "wereLast" "[Z" ∈ gW := gt_2 208 rfl rfl
theorem m_2_209 : Cond.fieldLink RX0 30 "Blazonry$Bearing" "wereHeirs" "[Z" ∈ gW := gt_2 209 rfl rfl
theorem m_2_210 : Cond.fieldLink RX0 33 "Blazonry$Bearing" "lastMen" "[I" ∈ gW := gt_2 210 rfl rfl
theorem m_2_211 : Cond.fieldLink RX0 36 "Blazonry$Bearing" "heiressCounts" "[I" ∈ gW := gt_2 211 rfl rfl
theorem m_2_212 : Cond.fieldLink RX0 39 "Blazonry$Bearing" "fallsTo" "[I" ∈ gW := gt_2 212 rfl rfl
theorem m_2_202 : Cond.fieldLink RX0 42 "Blazonry$Bearing" "kin" "LBlazonry$Kin;" ∈ gW := gt_2 202 rfl rfl
theorem m_2_203 : Cond.fieldLink RX0 46 "Blazonry$Bearing" "roll" "LBlazonry$Roll;" ∈ gW := gt_2 203 rfl rfl
theorem m_2_199 : Cond.code yX0_init cX0_init 3 none ∈ gW := gt_2 199 rfl rfl
theorem hd_X0_init : (yX0_init).cls ≠ "java/lang/invoke/MethodHandle" ∧ (yX0_init).cls ≠ "java/lang/invoke/VarHandle" ∧ (parseMethodDescriptor (yX0_init).desc).map (fun d => d.parameters.length) = some 2 := ⟨by decide, by decide, by decide +kernel⟩
theorem m_2_197 : Cond.methodLink RX11 58 yX0_init ∈ gW := gt_2 197 rfl rfl
theorem m_2_198 : Cond.instanceMethod yX0_init ∈ gW := gt_2 198 rfl rfl
theorem m_3_165 : Cond.fieldLink RX11 61 "Blazonry" "bearing" "LBlazonry$Bearing;" ∈ gW := gt_3 165 rfl rfl
theorem m_3_9 : Cond.laysFinal RX4 "Blazonry$Honours" "kin" "LBlazonry$Kin;" ∈ gW := gt_3 9 rfl rfl
theorem m_3_11 : Cond.laysFinal RX4 "Blazonry$Honours" "bearing" "LBlazonry$Bearing;" ∈ gW := gt_3 11 rfl rfl
theorem m_3_13 : Cond.laysFinal RX4 "Blazonry$Honours" "ranks" "[I" ∈ gW := gt_3 13 rfl rfl
theorem m_3_15 : Cond.laysFinal RX4 "Blazonry$Honours" "crests" "[I" ∈ gW := gt_3 15 rfl rfl
theorem m_3_17 : Cond.laysFinal RX4 "Blazonry$Honours" "rights" "[I" ∈ gW := gt_3 17 rfl rfl
theorem m_3_19 : Cond.laysFinal RX4 "Blazonry$Honours" "lefts" "[I" ∈ gW := gt_3 19 rfl rfl
theorem m_3_21 : Cond.laysFinal RX4 "Blazonry$Honours" "abated" "[Z" ∈ gW := gt_3 21 rfl rfl
theorem in_X4 : ∀ w ∈ u_ws RX4 TX4 7, w ∈ gW := fun w h => by
  obtain ⟨k, hk, rfl⟩ := List.mem_map.mp h
  have hk := List.mem_range.mp hk
  rcases (show k = 0 ∨ k = 1 ∨ k = 2 ∨ k = 3 ∨ k = 4 ∨ k = 5 ∨ k = 6 by omega) with rfl | rfl | rfl | rfl | rfl | rfl | rfl
  · exact m_3_9
  · exact m_3_11
  · exact m_3_13
  · exact m_3_15
  · exact m_3_17
  · exact m_3_19
  · exact m_3_21
theorem dv_X4 : ∀ j, j < 7 → defaultValue (tyX4 j) = vp_V [.null, .null, .null, .null, .null, .null, .null] j := fun j hj => by rcases (show j = 0 ∨ j = 1 ∨ j = 2 ∨ j = 3 ∨ j = 4 ∨ j = 5 ∨ j = 6 by omega) with rfl | rfl | rfl | rfl | rfl | rfl | rfl <;> rfl
theorem m_2_236 : Cond.classLink RX11 65 RX4 ∈ gW := gt_2 236 rfl rfl
theorem m_2_237 : Cond.instantiable RX4 7 ∈ gW := gt_2 237 rfl rfl
theorem m_1_11 : Cond.initialized RX4 ∈ gW := gt_1 11 rfl rfl
theorem m_3_1 : Cond.methodLink RX4 3 objectInit ∈ gW := gt_3 1 rfl rfl
theorem m_3_4 : Cond.fieldLink RX4 9 "Blazonry$Honours" "ranks" "[I" ∈ gW := gt_3 4 rfl rfl
theorem m_3_5 : Cond.fieldLink RX4 15 "Blazonry$Honours" "crests" "[I" ∈ gW := gt_3 5 rfl rfl
theorem m_3_6 : Cond.fieldLink RX4 18 "Blazonry$Honours" "rights" "[I" ∈ gW := gt_3 6 rfl rfl
theorem m_3_7 : Cond.fieldLink RX4 21 "Blazonry$Honours" "lefts" "[I" ∈ gW := gt_3 7 rfl rfl
theorem m_3_8 : Cond.fieldLink RX4 24 "Blazonry$Honours" "abated" "[Z" ∈ gW := gt_3 8 rfl rfl
theorem m_3_2 : Cond.fieldLink RX4 28 "Blazonry$Honours" "kin" "LBlazonry$Kin;" ∈ gW := gt_3 2 rfl rfl
theorem m_3_3 : Cond.fieldLink RX4 32 "Blazonry$Honours" "bearing" "LBlazonry$Bearing;" ∈ gW := gt_3 3 rfl rfl
theorem m_3_0 : Cond.code yX4_init cX4_init 3 none ∈ gW := gt_3 0 rfl rfl
theorem hd_X4_init : (yX4_init).cls ≠ "java/lang/invoke/MethodHandle" ∧ (yX4_init).cls ≠ "java/lang/invoke/VarHandle" ∧ (parseMethodDescriptor (yX4_init).desc).map (fun d => d.parameters.length) = some 2 := ⟨by decide, by decide, by decide +kernel⟩
theorem m_2_238 : Cond.methodLink RX11 67 yX4_init ∈ gW := gt_2 238 rfl rfl
theorem m_2_239 : Cond.instanceMethod yX4_init ∈ gW := gt_2 239 rfl rfl
theorem m_3_166 : Cond.fieldLink RX11 70 "Blazonry" "honours" "LBlazonry$Honours;" ∈ gW := gt_3 166 rfl rfl
theorem m_3_43 : Cond.laysFinal RX6 "Blazonry$Marshal" "kin" "LBlazonry$Kin;" ∈ gW := gt_3 43 rfl rfl
theorem m_3_45 : Cond.laysFinal RX6 "Blazonry$Marshal" "roll" "LBlazonry$Roll;" ∈ gW := gt_3 45 rfl rfl
theorem m_3_47 : Cond.laysFinal RX6 "Blazonry$Marshal" "bearing" "LBlazonry$Bearing;" ∈ gW := gt_3 47 rfl rfl
theorem m_3_49 : Cond.laysFinal RX6 "Blazonry$Marshal" "honours" "LBlazonry$Honours;" ∈ gW := gt_3 49 rfl rfl
theorem m_3_51 : Cond.laysFinal RX6 "Blazonry$Marshal" "painter" "LBlazonry$Painter;" ∈ gW := gt_3 51 rfl rfl
theorem m_3_53 : Cond.laysFinal RX6 "Blazonry$Marshal" "arms" "[[I" ∈ gW := gt_3 53 rfl rfl
theorem m_3_55 : Cond.laysFinal RX6 "Blazonry$Marshal" "bearers" "[[I" ∈ gW := gt_3 55 rfl rfl
theorem m_3_57 : Cond.laysFinal RX6 "Blazonry$Marshal" "counts" "[I" ∈ gW := gt_3 57 rfl rfl
theorem m_3_59 : Cond.laysFinal RX6 "Blazonry$Marshal" "quarterPicture" "LBlazonry$Picture;" ∈ gW := gt_3 59 rfl rfl
theorem m_3_61 : Cond.laysFinal RX6 "Blazonry$Marshal" "wifePicture" "LBlazonry$Picture;" ∈ gW := gt_3 61 rfl rfl
theorem in_X6 : ∀ w ∈ u_ws RX6 TX6 10, w ∈ gW := fun w h => by
  obtain ⟨k, hk, rfl⟩ := List.mem_map.mp h
  have hk := List.mem_range.mp hk
  rcases (show k = 0 ∨ k = 1 ∨ k = 2 ∨ k = 3 ∨ k = 4 ∨ k = 5 ∨ k = 6 ∨ k = 7 ∨ k = 8 ∨ k = 9 by omega) with rfl | rfl | rfl | rfl | rfl | rfl | rfl | rfl | rfl | rfl
  · exact m_3_43
  · exact m_3_45
  · exact m_3_47
  · exact m_3_49
  · exact m_3_51
  · exact m_3_53
  · exact m_3_55
  · exact m_3_57
  · exact m_3_59
  · exact m_3_61
theorem dv_X6 : ∀ j, j < 10 → defaultValue (tyX6 j) = vp_V [.null, .null, .null, .null, .null, .null, .null, .null, .null, .null] j := fun j hj => by rcases (show j = 0 ∨ j = 1 ∨ j = 2 ∨ j = 3 ∨ j = 4 ∨ j = 5 ∨ j = 6 ∨ j = 7 ∨ j = 8 ∨ j = 9 by omega) with rfl | rfl | rfl | rfl | rfl | rfl | rfl | rfl | rfl | rfl <;> rfl
theorem m_3_24 : Cond.classLink RX11 74 RX6 ∈ gW := gt_3 24 rfl rfl
theorem m_3_25 : Cond.instantiable RX6 10 ∈ gW := gt_3 25 rfl rfl
theorem m_1_12 : Cond.initialized RX6 ∈ gW := gt_1 12 rfl rfl
theorem m_3_29 : Cond.methodLink RX6 3 objectInit ∈ gW := gt_3 29 rfl rfl
theorem m_3_30 : Cond.classLink RX6 9 "[[I" ∈ gW := gt_3 30 rfl rfl
theorem m_3_38 : Cond.fieldLink RX6 11 "Blazonry$Marshal" "arms" "[[I" ∈ gW := gt_3 38 rfl rfl
theorem m_3_39 : Cond.fieldLink RX6 16 "Blazonry$Marshal" "bearers" "[[I" ∈ gW := gt_3 39 rfl rfl
theorem m_3_40 : Cond.fieldLink RX6 19 "Blazonry$Marshal" "counts" "[I" ∈ gW := gt_3 40 rfl rfl
theorem m_3_31 : Cond.classLink RX6 23 RX8 ∈ gW := gt_3 31 rfl rfl
theorem n_m8 : (RX6, 25, yX8_init, "Blazonry") ∈ gNM := List.mem_of_getElem? (i := 8) rfl
theorem m_3_41 : Cond.fieldLink RX6 26 "Blazonry$Marshal" "quarterPicture" "LBlazonry$Picture;" ∈ gW := gt_3 41 rfl rfl
theorem m_3_42 : Cond.fieldLink RX6 30 "Blazonry$Marshal" "wifePicture" "LBlazonry$Picture;" ∈ gW := gt_3 42 rfl rfl
theorem m_3_33 : Cond.fieldLink RX6 33 "Blazonry$Marshal" "kin" "LBlazonry$Kin;" ∈ gW := gt_3 33 rfl rfl
theorem m_3_34 : Cond.fieldLink RX6 37 "Blazonry$Marshal" "roll" "LBlazonry$Roll;" ∈ gW := gt_3 34 rfl rfl
theorem m_3_35 : Cond.fieldLink RX6 41 "Blazonry$Marshal" "bearing" "LBlazonry$Bearing;" ∈ gW := gt_3 35 rfl rfl
theorem m_3_36 : Cond.fieldLink RX6 45 "Blazonry$Marshal" "honours" "LBlazonry$Honours;" ∈ gW := gt_3 36 rfl rfl
theorem m_3_37 : Cond.fieldLink RX6 49 "Blazonry$Marshal" "painter" "LBlazonry$Painter;" ∈ gW := gt_3 37 rfl rfl
theorem m_3_28 : Cond.code yX6_init cX6_init 6 none ∈ gW := gt_3 28 rfl rfl
theorem hd_X6_init : (yX6_init).cls ≠ "java/lang/invoke/MethodHandle" ∧ (yX6_init).cls ≠ "java/lang/invoke/VarHandle" ∧ (parseMethodDescriptor (yX6_init).desc).map (fun d => d.parameters.length) = some 5 := ⟨by decide, by decide, by decide +kernel⟩
theorem m_3_26 : Cond.methodLink RX11 76 yX6_init ∈ gW := gt_3 26 rfl rfl
theorem m_3_27 : Cond.instanceMethod yX6_init ∈ gW := gt_3 27 rfl rfl
theorem m_3_167 : Cond.fieldLink RX11 79 "Blazonry" "marshal" "LBlazonry$Marshal;" ∈ gW := gt_3 167 rfl rfl
theorem m_3_85 : Cond.laysFinal RX2 "Blazonry$Court" "roll" "LBlazonry$Roll;" ∈ gW := gt_3 85 rfl rfl
theorem m_3_87 : Cond.laysFinal RX2 "Blazonry$Court" "bearing" "LBlazonry$Bearing;" ∈ gW := gt_3 87 rfl rfl
theorem m_3_89 : Cond.laysFinal RX2 "Blazonry$Court" "lands" "[I" ∈ gW := gt_3 89 rfl rfl
theorem m_3_91 : Cond.laysFinal RX2 "Blazonry$Court" "distances" "[I" ∈ gW := gt_3 91 rfl rfl
theorem m_3_93 : Cond.laysFinal RX2 "Blazonry$Court" "years" "[I" ∈ gW := gt_3 93 rfl rfl
theorem m_3_95 : Cond.laysFinal RX2 "Blazonry$Court" "elders" "[I" ∈ gW := gt_3 95 rfl rfl
theorem m_3_97 : Cond.laysFinal RX2 "Blazonry$Court" "youngers" "[I" ∈ gW := gt_3 97 rfl rfl
theorem m_3_99 : Cond.laysFinal RX2 "Blazonry$Court" "letters" "[C" ∈ gW := gt_3 99 rfl rfl
theorem m_3_101 : Cond.laysFinal RX2 "Blazonry$Court" "lettersBefore" "[C" ∈ gW := gt_3 101 rfl rfl
theorem m_3_103 : Cond.laysFinal RX2 "Blazonry$Court" "inForce" "[Z" ∈ gW := gt_3 103 rfl rfl
theorem m_3_105 : Cond.laysFinal RX2 "Blazonry$Court" "byAppeal" "[Z" ∈ gW := gt_3 105 rfl rfl
theorem m_3_107 : Cond.lays RX2 "Blazonry$Court" "count" "I" ∈ gW := gt_3 107 rfl rfl
theorem m_3_109 : Cond.lays RX2 "Blazonry$Court" "disclaimedCount" "I" ∈ gW := gt_3 109 rfl rfl
theorem in_X2 : ∀ w ∈ u_ws RX2 TX2 13, w ∈ gW := fun w h => by
  obtain ⟨k, hk, rfl⟩ := List.mem_map.mp h
  have hk := List.mem_range.mp hk
  rcases (show k = 0 ∨ k = 1 ∨ k = 2 ∨ k = 3 ∨ k = 4 ∨ k = 5 ∨ k = 6 ∨ k = 7 ∨ k = 8 ∨ k = 9 ∨ k = 10 ∨ k = 11 ∨ k = 12 by omega) with rfl | rfl | rfl | rfl | rfl | rfl | rfl | rfl | rfl | rfl | rfl | rfl | rfl
  · exact m_3_85
  · exact m_3_87
  · exact m_3_89
  · exact m_3_91
  · exact m_3_93
  · exact m_3_95
  · exact m_3_97
  · exact m_3_99
  · exact m_3_101
  · exact m_3_103
  · exact m_3_105
  · exact m_3_107
  · exact m_3_109
theorem dv_X2 : ∀ j, j < 13 → defaultValue (tyX2 j) = vp_V [.null, .null, .null, .null, .null, .null, .null, .null, .null, .null, .null, .int 0, .int 0] j := fun j hj => by rcases (show j = 0 ∨ j = 1 ∨ j = 2 ∨ j = 3 ∨ j = 4 ∨ j = 5 ∨ j = 6 ∨ j = 7 ∨ j = 8 ∨ j = 9 ∨ j = 10 ∨ j = 11 ∨ j = 12 by omega) with rfl | rfl | rfl | rfl | rfl | rfl | rfl | rfl | rfl | rfl | rfl | rfl | rfl <;> rfl
theorem m_3_64 : Cond.classLink RX11 83 RX2 ∈ gW := gt_3 64 rfl rfl
theorem m_3_65 : Cond.instantiable RX2 13 ∈ gW := gt_3 65 rfl rfl
theorem m_1_13 : Cond.initialized RX2 ∈ gW := gt_1 13 rfl rfl
theorem m_3_69 : Cond.methodLink RX2 3 objectInit ∈ gW := gt_3 69 rfl rfl
theorem m_3_72 : Cond.fieldLink RX2 9 "Blazonry$Court" "lands" "[I" ∈ gW := gt_3 72 rfl rfl
theorem m_3_73 : Cond.fieldLink RX2 15 "Blazonry$Court" "distances" "[I" ∈ gW := gt_3 73 rfl rfl
theorem m_3_74 : Cond.fieldLink RX2 18 "Blazonry$Court" "years" "[I" ∈ gW := gt_3 74 rfl rfl
theorem m_3_75 : Cond.fieldLink RX2 21 "Blazonry$Court" "elders" "[I" ∈ gW := gt_3 75 rfl rfl
theorem m_3_76 : Cond.fieldLink RX2 24 "Blazonry$Court" "youngers" "[I" ∈ gW := gt_3 76 rfl rfl
theorem m_3_77 : Cond.fieldLink RX2 27 "Blazonry$Court" "letters" "[C" ∈ gW := gt_3 77 rfl rfl
theorem m_3_78 : Cond.fieldLink RX2 31 "Blazonry$Court" "lettersBefore" "[C" ∈ gW := gt_3 78 rfl rfl
theorem m_3_79 : Cond.fieldLink RX2 34 "Blazonry$Court" "inForce" "[Z" ∈ gW := gt_3 79 rfl rfl
theorem m_3_80 : Cond.fieldLink RX2 38 "Blazonry$Court" "byAppeal" "[Z" ∈ gW := gt_3 80 rfl rfl
theorem m_3_70 : Cond.fieldLink RX2 41 "Blazonry$Court" "roll" "LBlazonry$Roll;" ∈ gW := gt_3 70 rfl rfl
theorem m_3_71 : Cond.fieldLink RX2 45 "Blazonry$Court" "bearing" "LBlazonry$Bearing;" ∈ gW := gt_3 71 rfl rfl
theorem m_3_68 : Cond.code yX2_init cX2_init 3 none ∈ gW := gt_3 68 rfl rfl
theorem hd_X2_init : (yX2_init).cls ≠ "java/lang/invoke/MethodHandle" ∧ (yX2_init).cls ≠ "java/lang/invoke/VarHandle" ∧ (parseMethodDescriptor (yX2_init).desc).map (fun d => d.parameters.length) = some 2 := ⟨by decide, by decide, by decide +kernel⟩
theorem m_3_66 : Cond.methodLink RX11 85 yX2_init ∈ gW := gt_3 66 rfl rfl
theorem m_3_67 : Cond.instanceMethod yX2_init ∈ gW := gt_3 67 rfl rfl
theorem m_3_168 : Cond.fieldLink RX11 88 "Blazonry" "court" "LBlazonry$Court;" ∈ gW := gt_3 168 rfl rfl
theorem m_2_1 : Cond.fieldLink RX1 33 "Blazonry$Blazon" "cursor" "I" ∈ gW := gt_2 1 rfl rfl
theorem m_2_2 : Cond.fieldLink RX1 36 "Blazonry$Blazon" "last" "I" ∈ gW := gt_2 2 rfl rfl
theorem m_2_8 : Cond.fieldLink RX1 39 "Blazonry$Blazon" "faultAt" "I" ∈ gW := gt_2 8 rfl rfl
theorem m_2_10 : Cond.fieldLink RX1 42 "Blazonry$Blazon" "parting" "I" ∈ gW := gt_2 10 rfl rfl
theorem m_2_13 : Cond.fieldLink RX1 45 "Blazonry$Blazon" "line" "I" ∈ gW := gt_2 13 rfl rfl
theorem m_2_17 : Cond.fieldLink RX1 48 "Blazonry$Blazon" "first" "I" ∈ gW := gt_2 17 rfl rfl
theorem m_2_22 : Cond.fieldLink RX1 51 "Blazonry$Blazon" "second" "I" ∈ gW := gt_2 22 rfl rfl
theorem m_2_26 : Cond.fieldLink RX1 54 "Blazonry$Blazon" "groupCount" "I" ∈ gW := gt_2 26 rfl rfl
theorem m_3_118 : Cond.code yJ7_fill_53178 cJ7_fill_53178 4 none ∈ gW := gt_3 118 rfl rfl
theorem hd_J7_fill_53178 : (yJ7_fill_53178).cls ≠ "java/lang/invoke/MethodHandle" ∧ (yJ7_fill_53178).cls ≠ "java/lang/invoke/VarHandle" ∧ (parseMethodDescriptor (yJ7_fill_53178).desc).map (fun d => d.parameters.length) = some 2 := ⟨by decide, by decide, by decide +kernel⟩
theorem m_3_116 : Cond.methodLink RX1 57 yJ7_fill_53178 ∈ gW := gt_3 116 rfl rfl
theorem m_3_117 : Cond.static yJ7_fill_53178 ∈ gW := gt_3 117 rfl rfl
theorem m_1_14 : Cond.initialized RJ7 ∈ gW := gt_1 14 rfl rfl
theorem m_2_5 : Cond.fieldLink RX1 25 "Blazonry$Blazon" "count" "I" ∈ gW := gt_2 5 rfl rfl
theorem m_3_126 : Cond.code yX1_wordAt cX1_wordAt 2 (some .int) ∈ gW := gt_3 126 rfl rfl
theorem hd_X1_wordAt : (yX1_wordAt).cls ≠ "java/lang/invoke/MethodHandle" ∧ (yX1_wordAt).cls ≠ "java/lang/invoke/VarHandle" ∧ (parseMethodDescriptor (yX1_wordAt).desc).map (fun d => d.parameters.length) = some 1 := ⟨by decide, by decide, by decide +kernel⟩
theorem m_3_123 : Cond.methodLink RX1 74 yX1_wordAt ∈ gW := gt_3 123 rfl rfl
theorem m_3_124 : Cond.instanceMethod yX1_wordAt ∈ gW := gt_3 124 rfl rfl
theorem m_3_125 : Cond.selects RX1 yX1_wordAt yX1_wordAt ∈ gW := gt_3 125 rfl rfl
theorem m_3_138 : Cond.code yX1_meaningOf cX1_meaningOf 3 (some .int) ∈ gW := gt_3 138 rfl rfl
theorem hd_X1_meaningOf : (yX1_meaningOf).cls ≠ "java/lang/invoke/MethodHandle" ∧ (yX1_meaningOf).cls ≠ "java/lang/invoke/VarHandle" ∧ (parseMethodDescriptor (yX1_meaningOf).desc).map (fun d => d.parameters.length) = some 2 := ⟨by decide, by decide, by decide +kernel⟩
theorem m_3_135 : Cond.methodLink RX1 125 yX1_meaningOf ∈ gW := gt_3 135 rfl rfl
theorem m_3_137 : Cond.instanceMethod yX1_meaningOf ∈ gW := gt_3 137 rfl rfl
theorem m_s_4 : Cond.selects RX1 yX1_meaningOf yX1_meaningOf ∈ gW := gt_s (q := (yX1_meaningOf, 12)) 4 rfl
theorem m_3_134 : Cond.code yX1_takeTincture cX1_takeTincture 3 (some .int) ∈ gW := gt_3 134 rfl rfl
theorem hd_X1_takeTincture : (yX1_takeTincture).cls ≠ "java/lang/invoke/MethodHandle" ∧ (yX1_takeTincture).cls ≠ "java/lang/invoke/VarHandle" ∧ (parseMethodDescriptor (yX1_takeTincture).desc).map (fun d => d.parameters.length) = some 1 := ⟨by decide, by decide, by decide +kernel⟩
theorem m_3_131 : Cond.methodLink RX1 82 yX1_takeTincture ∈ gW := gt_3 131 rfl rfl
theorem m_3_133 : Cond.instanceMethod yX1_takeTincture ∈ gW := gt_3 133 rfl rfl
theorem m_s_3 : Cond.selects RX1 yX1_takeTincture yX1_takeTincture ∈ gW := gt_s (q := (yX1_takeTincture, 12)) 3 rfl
theorem m_3_122 : Cond.code yX1_readField cX1_readField 2 (some .boolean) ∈ gW := gt_3 122 rfl rfl
theorem hd_X1_readField : (yX1_readField).cls ≠ "java/lang/invoke/MethodHandle" ∧ (yX1_readField).cls ≠ "java/lang/invoke/VarHandle" ∧ (parseMethodDescriptor (yX1_readField).desc).map (fun d => d.parameters.length) = some 0 := ⟨by decide, by decide, by decide +kernel⟩
theorem m_3_119 : Cond.methodLink RX1 63 yX1_readField ∈ gW := gt_3 119 rfl rfl
theorem m_3_121 : Cond.instanceMethod yX1_readField ∈ gW := gt_3 121 rfl rfl
theorem m_s_1 : Cond.selects RX1 yX1_readField yX1_readField ∈ gW := gt_s (q := (yX1_readField, 12)) 1 rfl
theorem m_3_115 : Cond.code yX1_read cX1_read 2 none ∈ gW := gt_3 115 rfl rfl
theorem hd_X1_read : (yX1_read).cls ≠ "java/lang/invoke/MethodHandle" ∧ (yX1_read).cls ≠ "java/lang/invoke/VarHandle" ∧ (parseMethodDescriptor (yX1_read).desc).map (fun d => d.parameters.length) = some 0 := ⟨by decide, by decide, by decide +kernel⟩
theorem m_3_112 : Cond.methodLink RX11 92 yX1_read ∈ gW := gt_3 112 rfl rfl
theorem m_3_113 : Cond.instanceMethod yX1_read ∈ gW := gt_3 113 rfl rfl
theorem m_3_114 : Cond.selects RX1 yX1_read yX1_read ∈ gW := gt_3 114 rfl rfl
theorem m_1_47 : Cond.code yX11_init cX11_init 1 none ∈ gW := gt_1 47 rfl rfl
theorem hd_X11_init : (yX11_init).cls ≠ "java/lang/invoke/MethodHandle" ∧ (yX11_init).cls ≠ "java/lang/invoke/VarHandle" ∧ (parseMethodDescriptor (yX11_init).desc).map (fun d => d.parameters.length) = some 0 := ⟨by decide, by decide, by decide +kernel⟩
theorem m_1_45 : Cond.methodLink RL 194 yX11_init ∈ gW := gt_1 45 rfl rfl
theorem m_1_46 : Cond.instanceMethod yX11_init ∈ gW := gt_1 46 rfl rfl
theorem m_10_25 : Cond.lays RX18 "BlazonryModel" "thrown" "I" ∈ gW := gt_10 25 rfl rfl
theorem m_10_27 : Cond.laysFinal RX18 "BlazonryModel" "row" "[I" ∈ gW := gt_10 27 rfl rfl
theorem m_10_29 : Cond.lays RX18 "BlazonryModel" "many" "I" ∈ gW := gt_10 29 rfl rfl
theorem m_10_31 : Cond.laysFinal RX18 "BlazonryModel" "persons" "Ljava/util/ArrayList;" ∈ gW := gt_10 31 rfl rfl
theorem m_10_33 : Cond.laysFinal RX18 "BlazonryModel" "all" "Ljava/util/ArrayList;" ∈ gW := gt_10 33 rfl rfl
theorem m_10_35 : Cond.laysFinal RX18 "BlazonryModel" "judgments" "Ljava/util/ArrayList;" ∈ gW := gt_10 35 rfl rfl
theorem m_10_37 : Cond.lays RX18 "BlazonryModel" "year" "I" ∈ gW := gt_10 37 rfl rfl
theorem m_10_39 : Cond.lays RX18 "BlazonryModel" "deaths" "I" ∈ gW := gt_10 39 rfl rfl
theorem m_10_41 : Cond.lays RX18 "BlazonryModel" "disclaimed" "I" ∈ gW := gt_10 41 rfl rfl
theorem m_10_43 : Cond.lays RX18 "BlazonryModel" "read" "LBlazonryModel$Blazon;" ∈ gW := gt_10 43 rfl rfl
theorem m_10_45 : Cond.lays RX18 "BlazonryModel" "wrong" "I" ∈ gW := gt_10 45 rfl rfl
theorem m_10_47 : Cond.laysFinal RX18 "BlazonryModel" "meant" "[I" ∈ gW := gt_10 47 rfl rfl
theorem m_10_49 : Cond.lays RX18 "BlazonryModel" "at" "I" ∈ gW := gt_10 49 rfl rfl
theorem m_10_51 : Cond.lays RX18 "BlazonryModel" "told" "I" ∈ gW := gt_10 51 rfl rfl
theorem m_10_53 : Cond.laysFinal RX18 "BlazonryModel" "taken" "[Z" ∈ gW := gt_10 53 rfl rfl
theorem m_10_55 : Cond.laysFinal RX18 "BlazonryModel" "one" "[I" ∈ gW := gt_10 55 rfl rfl
theorem m_10_57 : Cond.laysFinal RX18 "BlazonryModel" "two" "[I" ∈ gW := gt_10 57 rfl rfl
theorem m_10_59 : Cond.laysFinal RX18 "BlazonryModel" "trial" "LBlazonryModel$Blazon;" ∈ gW := gt_10 59 rfl rfl
theorem m_10_61 : Cond.laysFinal RX18 "BlazonryModel" "plain" "LBlazonryModel$Blazon;" ∈ gW := gt_10 61 rfl rfl
theorem m_10_63 : Cond.laysFinal RX18 "BlazonryModel" "words" "[I" ∈ gW := gt_10 63 rfl rfl
theorem m_10_65 : Cond.lays RX18 "BlazonryModel" "wordMany" "I" ∈ gW := gt_10 65 rfl rfl
theorem m_10_67 : Cond.laysFinal RX18 "BlazonryModel" "best" "[I" ∈ gW := gt_10 67 rfl rfl
theorem m_10_69 : Cond.lays RX18 "BlazonryModel" "bestMany" "I" ∈ gW := gt_10 69 rfl rfl
theorem m_10_71 : Cond.laysFinal RX18 "BlazonryModel" "quarterMany" "[I" ∈ gW := gt_10 71 rfl rfl
theorem m_10_73 : Cond.laysFinal RX18 "BlazonryModel" "quarterArms" "[I" ∈ gW := gt_10 73 rfl rfl
theorem m_10_75 : Cond.laysFinal RX18 "BlazonryModel" "quarterBy" "[I" ∈ gW := gt_10 75 rfl rfl
theorem m_10_77 : Cond.laysFinal RX18 "BlazonryModel" "shield" "[I" ∈ gW := gt_10 77 rfl rfl
theorem m_10_79 : Cond.laysFinal RX18 "BlazonryModel" "wifeShield" "[I" ∈ gW := gt_10 79 rfl rfl
theorem in_X18 : ∀ w ∈ u_ws RX18 TX18 28, w ∈ gW := fun w h => by
  obtain ⟨k, hk, rfl⟩ := List.mem_map.mp h
  have hk := List.mem_range.mp hk
  rcases (show k = 0 ∨ k = 1 ∨ k = 2 ∨ k = 3 ∨ k = 4 ∨ k = 5 ∨ k = 6 ∨ k = 7 ∨ k = 8 ∨ k = 9 ∨ k = 10 ∨ k = 11 ∨ k = 12 ∨ k = 13 ∨ k = 14 ∨ k = 15 ∨ k = 16 ∨ k = 17 ∨ k = 18 ∨ k = 19 ∨ k = 20 ∨ k = 21 ∨ k = 22 ∨ k = 23 ∨ k = 24 ∨ k = 25 ∨ k = 26 ∨ k = 27 by omega) with rfl | rfl | rfl | rfl | rfl | rfl | rfl | rfl | rfl | rfl | rfl | rfl | rfl | rfl | rfl | rfl | rfl | rfl | rfl | rfl | rfl | rfl | rfl | rfl | rfl | rfl | rfl | rfl
  · exact m_10_25
  · exact m_10_27
  · exact m_10_29
  · exact m_10_31
  · exact m_10_33
  · exact m_10_35
  · exact m_10_37
  · exact m_10_39
  · exact m_10_41
  · exact m_10_43
  · exact m_10_45
  · exact m_10_47
  · exact m_10_49
  · exact m_10_51
  · exact m_10_53
  · exact m_10_55
  · exact m_10_57
  · exact m_10_59
  · exact m_10_61
  · exact m_10_63
  · exact m_10_65
  · exact m_10_67
  · exact m_10_69
  · exact m_10_71
  · exact m_10_73
  · exact m_10_75
  · exact m_10_77
  · exact m_10_79
theorem dv_X18 : ∀ j, j < 28 → defaultValue (tyX18 j) = vp_V [.int 0, .null, .int 0, .null, .null, .null, .int 0, .int 0, .int 0, .null, .int 0, .null, .int 0, .int 0, .null, .null, .null, .null, .null, .null, .int 0, .null, .int 0, .null, .null, .null, .null, .null] j := fun j hj => by rcases (show j = 0 ∨ j = 1 ∨ j = 2 ∨ j = 3 ∨ j = 4 ∨ j = 5 ∨ j = 6 ∨ j = 7 ∨ j = 8 ∨ j = 9 ∨ j = 10 ∨ j = 11 ∨ j = 12 ∨ j = 13 ∨ j = 14 ∨ j = 15 ∨ j = 16 ∨ j = 17 ∨ j = 18 ∨ j = 19 ∨ j = 20 ∨ j = 21 ∨ j = 22 ∨ j = 23 ∨ j = 24 ∨ j = 25 ∨ j = 26 ∨ j = 27 by omega) with rfl | rfl | rfl | rfl | rfl | rfl | rfl | rfl | rfl | rfl | rfl | rfl | rfl | rfl | rfl | rfl | rfl | rfl | rfl | rfl | rfl | rfl | rfl | rfl | rfl | rfl | rfl | rfl <;> rfl
theorem m_9_169 : Cond.classLink RL 195 RX18 ∈ gW := gt_9 169 rfl rfl
theorem m_9_170 : Cond.instantiable RX18 28 ∈ gW := gt_9 170 rfl rfl
theorem m_1_15 : Cond.initialized RX18 ∈ gW := gt_1 15 rfl rfl
theorem m_9_174 : Cond.methodLink RX18 1 objectInit ∈ gW := gt_9 174 rfl rfl
theorem m_9_238 : Cond.fieldLink RX18 9 "BlazonryModel" "row" "[I" ∈ gW := gt_9 238 rfl rfl
theorem m_9_201 : Cond.lays RJx4a65c "java/util/AbstractList" "modCount" "I" ∈ gW := gt_9 201 rfl rfl
theorem m_9_197 : Cond.lays RJx4a65c "java/util/ArrayList" "elementData" "[Ljava/lang/Object;" ∈ gW := gt_9 197 rfl rfl
theorem m_9_199 : Cond.lays RJx4a65c "java/util/ArrayList" "size" "I" ∈ gW := gt_9 199 rfl rfl
theorem in_Jx4a65c : ∀ w ∈ u_ws RJx4a65c TJx4a65c 3, w ∈ gW := fun w h => by
  obtain ⟨k, hk, rfl⟩ := List.mem_map.mp h
  have hk := List.mem_range.mp hk
  rcases (show k = 0 ∨ k = 1 ∨ k = 2 by omega) with rfl | rfl | rfl
  · exact m_9_201
  · exact m_9_197
  · exact m_9_199
theorem dv_Jx4a65c : ∀ j, j < 3 → defaultValue (tyJx4a65c j) = vp_V [.int 0, .null, .int 0] j := fun j hj => by rcases (show j = 0 ∨ j = 1 ∨ j = 2 by omega) with rfl | rfl | rfl <;> rfl
theorem m_9_175 : Cond.classLink RX18 13 RJx4a65c ∈ gW := gt_9 175 rfl rfl
theorem m_9_176 : Cond.instantiable RJx4a65c 3 ∈ gW := gt_9 176 rfl rfl
theorem m_1_18 : Cond.initialized RJx4a65c ∈ gW := gt_1 18 rfl rfl
theorem m_9_186 : Cond.methodLink RJxa1e45 1 objectInit ∈ gW := gt_9 186 rfl rfl
theorem m_9_185 : Cond.code yJxa1e45_init_da8c8 cJxa1e45_init_da8c8 1 none ∈ gW := gt_9 185 rfl rfl
theorem hd_Jxa1e45_init_da8c8 : (yJxa1e45_init_da8c8).cls ≠ "java/lang/invoke/MethodHandle" ∧ (yJxa1e45_init_da8c8).cls ≠ "java/lang/invoke/VarHandle" ∧ (parseMethodDescriptor (yJxa1e45_init_da8c8).desc).map (fun d => d.parameters.length) = some 0 := ⟨by decide, by decide, by decide +kernel⟩
theorem m_9_183 : Cond.methodLink RJxc12de 1 yJxa1e45_init_da8c8 ∈ gW := gt_9 183 rfl rfl
theorem m_9_184 : Cond.instanceMethod yJxa1e45_init_da8c8 ∈ gW := gt_9 184 rfl rfl
theorem m_1_16 : Cond.initialized RJxa1e45 ∈ gW := gt_1 16 rfl rfl
theorem m_9_193 : Cond.fieldLink RJxc12de 7 "java/util/AbstractList" "modCount" "I" ∈ gW := gt_9 193 rfl rfl
theorem m_9_182 : Cond.code yJxc12de_init_da8c8 cJxc12de_init_da8c8 1 none ∈ gW := gt_9 182 rfl rfl
theorem hd_Jxc12de_init_da8c8 : (yJxc12de_init_da8c8).cls ≠ "java/lang/invoke/MethodHandle" ∧ (yJxc12de_init_da8c8).cls ≠ "java/lang/invoke/VarHandle" ∧ (parseMethodDescriptor (yJxc12de_init_da8c8).desc).map (fun d => d.parameters.length) = some 0 := ⟨by decide, by decide, by decide +kernel⟩
theorem m_9_180 : Cond.methodLink RJx4a65c 1 yJxc12de_init_da8c8 ∈ gW := gt_9 180 rfl rfl
theorem m_9_181 : Cond.instanceMethod yJxc12de_init_da8c8 ∈ gW := gt_9 181 rfl rfl
theorem m_1_17 : Cond.initialized RJxc12de ∈ gW := gt_1 17 rfl rfl
theorem m_9_187 : Cond.fieldLink RJx4a65c 39 "java/util/ArrayList" "DEFAULTCAPACITY_EMPTY_ELEMENTDATA" "[Ljava/lang/Object;" ∈ gW := gt_9 187 rfl rfl
theorem m_9_189 : Cond.fieldLink RJx4a65c 9 "java/util/ArrayList" "elementData" "[Ljava/lang/Object;" ∈ gW := gt_9 189 rfl rfl
theorem m_9_179 : Cond.code yJx4a65c_init_da8c8 cJx4a65c_init_da8c8 1 none ∈ gW := gt_9 179 rfl rfl
theorem hd_Jx4a65c_init_da8c8 : (yJx4a65c_init_da8c8).cls ≠ "java/lang/invoke/MethodHandle" ∧ (yJx4a65c_init_da8c8).cls ≠ "java/lang/invoke/VarHandle" ∧ (parseMethodDescriptor (yJx4a65c_init_da8c8).desc).map (fun d => d.parameters.length) = some 0 := ⟨by decide, by decide, by decide +kernel⟩
theorem m_9_177 : Cond.methodLink RX18 15 yJx4a65c_init_da8c8 ∈ gW := gt_9 177 rfl rfl
theorem m_9_178 : Cond.instanceMethod yJx4a65c_init_da8c8 ∈ gW := gt_9 178 rfl rfl
theorem m_10_0 : Cond.fieldLink RX18 16 "BlazonryModel" "persons" "Ljava/util/ArrayList;" ∈ gW := gt_10 0 rfl rfl
theorem m_10_1 : Cond.fieldLink RX18 20 "BlazonryModel" "all" "Ljava/util/ArrayList;" ∈ gW := gt_10 1 rfl rfl
theorem m_10_2 : Cond.fieldLink RX18 23 "BlazonryModel" "judgments" "Ljava/util/ArrayList;" ∈ gW := gt_10 2 rfl rfl
theorem m_9_224 : Cond.lays RX14 "BlazonryModel$Blazon" "parting" "I" ∈ gW := gt_9 224 rfl rfl
theorem m_9_226 : Cond.lays RX14 "BlazonryModel$Blazon" "line" "I" ∈ gW := gt_9 226 rfl rfl
theorem m_9_228 : Cond.lays RX14 "BlazonryModel$Blazon" "first" "I" ∈ gW := gt_9 228 rfl rfl
theorem m_9_230 : Cond.lays RX14 "BlazonryModel$Blazon" "second" "I" ∈ gW := gt_9 230 rfl rfl
theorem m_9_232 : Cond.lays RX14 "BlazonryModel$Blazon" "many" "I" ∈ gW := gt_9 232 rfl rfl
theorem m_9_234 : Cond.laysFinal RX14 "BlazonryModel$Blazon" "groups" "[LBlazonryModel$Group;" ∈ gW := gt_9 234 rfl rfl
theorem in_X14 : ∀ w ∈ u_ws RX14 TX14 6, w ∈ gW := fun w h => by
  obtain ⟨k, hk, rfl⟩ := List.mem_map.mp h
  have hk := List.mem_range.mp hk
  rcases (show k = 0 ∨ k = 1 ∨ k = 2 ∨ k = 3 ∨ k = 4 ∨ k = 5 by omega) with rfl | rfl | rfl | rfl | rfl | rfl
  · exact m_9_224
  · exact m_9_226
  · exact m_9_228
  · exact m_9_230
  · exact m_9_232
  · exact m_9_234
theorem dv_X14 : ∀ j, j < 6 → defaultValue (tyX14 j) = vp_V [.int 0, .int 0, .int 0, .int 0, .int 0, .null] j := fun j hj => by rcases (show j = 0 ∨ j = 1 ∨ j = 2 ∨ j = 3 ∨ j = 4 ∨ j = 5 by omega) with rfl | rfl | rfl | rfl | rfl | rfl <;> rfl
theorem m_9_204 : Cond.classLink RX18 26 RX14 ∈ gW := gt_9 204 rfl rfl
theorem m_9_205 : Cond.instantiable RX14 6 ∈ gW := gt_9 205 rfl rfl
theorem m_1_19 : Cond.initialized RX14 ∈ gW := gt_1 19 rfl rfl
theorem n_m10 : (RX18, 28, yX14_init, "BlazonryModel") ∈ gNM := List.mem_of_getElem? (i := 10) rfl
theorem m_9_209 : Cond.methodLink RX14 1 objectInit ∈ gW := gt_9 209 rfl rfl
theorem m_9_210 : Cond.classLink RX14 7 RX15 ∈ gW := gt_9 210 rfl rfl
theorem m_9_222 : Cond.fieldLink RX14 9 "BlazonryModel$Blazon" "groups" "[LBlazonryModel$Group;" ∈ gW := gt_9 222 rfl rfl
theorem m_9_208 : Cond.code yX14_init cX14_init 1 none ∈ gW := gt_9 208 rfl rfl
theorem hd_X14_init : (yX14_init).cls ≠ "java/lang/invoke/MethodHandle" ∧ (yX14_init).cls ≠ "java/lang/invoke/VarHandle" ∧ (parseMethodDescriptor (yX14_init).desc).map (fun d => d.parameters.length) = some 0 := ⟨by decide, by decide, by decide +kernel⟩
theorem m_9_207 : Cond.instanceMethod yX14_init ∈ gW := gt_9 207 rfl rfl
theorem m_10_6 : Cond.fieldLink RX18 29 "BlazonryModel" "read" "LBlazonryModel$Blazon;" ∈ gW := gt_10 6 rfl rfl
theorem m_10_8 : Cond.fieldLink RX18 33 "BlazonryModel" "meant" "[I" ∈ gW := gt_10 8 rfl rfl
theorem m_10_11 : Cond.fieldLink RX18 36 "BlazonryModel" "taken" "[Z" ∈ gW := gt_10 11 rfl rfl
theorem m_10_12 : Cond.fieldLink RX18 40 "BlazonryModel" "one" "[I" ∈ gW := gt_10 12 rfl rfl
theorem m_10_13 : Cond.fieldLink RX18 43 "BlazonryModel" "two" "[I" ∈ gW := gt_10 13 rfl rfl
theorem m_10_14 : Cond.fieldLink RX18 46 "BlazonryModel" "trial" "LBlazonryModel$Blazon;" ∈ gW := gt_10 14 rfl rfl
theorem m_10_15 : Cond.fieldLink RX18 49 "BlazonryModel" "plain" "LBlazonryModel$Blazon;" ∈ gW := gt_10 15 rfl rfl
theorem m_10_16 : Cond.fieldLink RX18 52 "BlazonryModel" "words" "[I" ∈ gW := gt_10 16 rfl rfl
theorem m_10_18 : Cond.fieldLink RX18 55 "BlazonryModel" "best" "[I" ∈ gW := gt_10 18 rfl rfl
theorem m_10_20 : Cond.fieldLink RX18 58 "BlazonryModel" "quarterMany" "[I" ∈ gW := gt_10 20 rfl rfl
theorem m_10_21 : Cond.fieldLink RX18 61 "BlazonryModel" "quarterArms" "[I" ∈ gW := gt_10 21 rfl rfl
theorem m_10_22 : Cond.fieldLink RX18 64 "BlazonryModel" "quarterBy" "[I" ∈ gW := gt_10 22 rfl rfl
theorem m_10_23 : Cond.fieldLink RX18 67 "BlazonryModel" "shield" "[I" ∈ gW := gt_10 23 rfl rfl
theorem m_10_24 : Cond.fieldLink RX18 70 "BlazonryModel" "wifeShield" "[I" ∈ gW := gt_10 24 rfl rfl
theorem m_9_173 : Cond.code yX18_init cX18_init 1 none ∈ gW := gt_9 173 rfl rfl
theorem hd_X18_init : (yX18_init).cls ≠ "java/lang/invoke/MethodHandle" ∧ (yX18_init).cls ≠ "java/lang/invoke/VarHandle" ∧ (parseMethodDescriptor (yX18_init).desc).map (fun d => d.parameters.length) = some 0 := ⟨by decide, by decide, by decide +kernel⟩
theorem m_9_171 : Cond.methodLink RL 197 yX18_init ∈ gW := gt_9 171 rfl rfl
theorem m_9_172 : Cond.instanceMethod yX18_init ∈ gW := gt_9 172 rfl rfl
theorem m_14_23 : Cond.arrayClass .double ∈ gW := gt_14 23 rfl rfl

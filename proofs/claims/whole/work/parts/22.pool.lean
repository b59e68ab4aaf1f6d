theorem tw_0 : (.initialized "TailedStoreLaw" : Cond) ∈ ts_all := ts_in (List.mem_append_right _ (List.mem_of_getElem? (i := 0) (by decide +kernel))) (by decide +kernel)
theorem tw_1 : (.initialized "TailedStore" : Cond) ∈ ts_all := ts_in (List.mem_append_right _ (List.mem_of_getElem? (i := 1) (by decide +kernel))) (by decide +kernel)
theorem tw_10 : (.instantiable "TailedStore" 17 : Cond) ∈ ts_all := ts_in (List.mem_append_right _ (List.mem_of_getElem? (i := 10) (by decide +kernel))) (by decide +kernel)
theorem tw_100 : (.fieldLink "TailedStore" 102 "TailedStore$Saved" "cut" "I" : Cond) ∈ ts_all := ts_in (List.mem_append_right _ (List.mem_of_getElem? (i := 100) (by decide +kernel))) (by decide +kernel)
theorem tw_101 : (.fieldLink "TailedStore" 157 "TailedStore$Saved" "end" "I" : Cond) ∈ ts_all := ts_in (List.mem_append_right _ (List.mem_of_getElem? (i := 101) (by decide +kernel))) (by decide +kernel)
theorem tw_102 : (.fieldLink "TailedStore$Saved" 10 "TailedStore$Saved" "image" "LTailedStore$Index;" : Cond) ∈ ts_all := ts_in (List.mem_append_right _ (List.mem_of_getElem? (i := 102) (by decide +kernel))) (by decide +kernel)
theorem tw_103 : (.fieldLink "TailedStore" 105 "TailedStore$Saved" "image" "LTailedStore$Index;" : Cond) ∈ ts_all := ts_in (List.mem_append_right _ (List.mem_of_getElem? (i := 103) (by decide +kernel))) (by decide +kernel)
theorem tw_11 : (.methodLink "TailedStoreLaw" 15 ⟨"TailedStore", "<init>", "(II)V"⟩ : Cond) ∈ ts_all := ts_in (List.mem_append_right _ (List.mem_of_getElem? (i := 11) (by decide +kernel))) (by decide +kernel)
theorem tw_115 : (.methodLink "TailedStore" 47 ⟨"java/lang/Math", "min", "(II)I"⟩ : Cond) ∈ ts_all := ts_in (List.mem_append_right _ (List.mem_of_getElem? (i := 115) (by decide +kernel))) (by decide +kernel)
theorem tw_116 : (.static ⟨"java/lang/Math", "min", "(II)I"⟩ : Cond) ∈ ts_all := ts_in (List.mem_append_right _ (List.mem_of_getElem? (i := 116) (by decide +kernel))) (by decide +kernel)
theorem tw_117 : (.code ⟨"java/lang/Math", "min", "(II)I"⟩ prog_8_method_69_code 2 (some .int) : Cond) ∈ ts_all := ts_in (List.mem_append_right _ (List.mem_of_getElem? (i := 117) (by decide +kernel))) (by decide +kernel)
theorem tw_118 : (.methodLink "TailedStore" 53 ⟨"java/lang/Math", "max", "(II)I"⟩ : Cond) ∈ ts_all := ts_in (List.mem_append_right _ (List.mem_of_getElem? (i := 118) (by decide +kernel))) (by decide +kernel)
theorem tw_119 : (.static ⟨"java/lang/Math", "max", "(II)I"⟩ : Cond) ∈ ts_all := ts_in (List.mem_append_right _ (List.mem_of_getElem? (i := 119) (by decide +kernel))) (by decide +kernel)
theorem tw_12 : (.instanceMethod ⟨"TailedStore", "<init>", "(II)V"⟩ : Cond) ∈ ts_all := ts_in (List.mem_append_right _ (List.mem_of_getElem? (i := 12) (by decide +kernel))) (by decide +kernel)
theorem tw_120 : (.code ⟨"java/lang/Math", "max", "(II)I"⟩ prog_8_method_65_code 2 (some .int) : Cond) ∈ ts_all := ts_in (List.mem_append_right _ (List.mem_of_getElem? (i := 120) (by decide +kernel))) (by decide +kernel)
theorem tw_121 : (.fieldLink "TailedStore" 56 "TailedStore" "memory" "I" : Cond) ∈ ts_all := ts_in (List.mem_append_right _ (List.mem_of_getElem? (i := 121) (by decide +kernel))) (by decide +kernel)
theorem tw_122 : (.fieldLink "TailedStore" 59 "TailedStore" "mutable" "I" : Cond) ∈ ts_all := ts_in (List.mem_append_right _ (List.mem_of_getElem? (i := 122) (by decide +kernel))) (by decide +kernel)
theorem tw_123 : (.fieldLink "TailedStore" 12 "TailedStore" "machine" "LTailedStore$Machine;" : Cond) ∈ ts_all := ts_in (List.mem_append_right _ (List.mem_of_getElem? (i := 123) (by decide +kernel))) (by decide +kernel)
theorem tw_124 : (.fieldLink "TailedStore" 19 "TailedStore" "index" "LTailedStore$Index;" : Cond) ∈ ts_all := ts_in (List.mem_append_right _ (List.mem_of_getElem? (i := 124) (by decide +kernel))) (by decide +kernel)
theorem tw_125 : (.fieldLink "TailedStore" 26 "TailedStore" "log" "LTailedStore$Records;" : Cond) ∈ ts_all := ts_in (List.mem_append_right _ (List.mem_of_getElem? (i := 125) (by decide +kernel))) (by decide +kernel)
theorem tw_126 : (.fieldLink "TailedStore" 95 "TailedStore" "begin" "I" : Cond) ∈ ts_all := ts_in (List.mem_append_right _ (List.mem_of_getElem? (i := 126) (by decide +kernel))) (by decide +kernel)
theorem tw_127 : (.fieldLink "TailedStore" 91 "TailedStore" "head" "I" : Cond) ∈ ts_all := ts_in (List.mem_append_right _ (List.mem_of_getElem? (i := 127) (by decide +kernel))) (by decide +kernel)
theorem tw_128 : (.fieldLink "TailedStore" 160 "TailedStore" "flushed" "I" : Cond) ∈ ts_all := ts_in (List.mem_append_right _ (List.mem_of_getElem? (i := 128) (by decide +kernel))) (by decide +kernel)
theorem tw_129 : (.fieldLink "TailedStore" 88 "TailedStore" "fixed" "I" : Cond) ∈ ts_all := ts_in (List.mem_append_right _ (List.mem_of_getElem? (i := 129) (by decide +kernel))) (by decide +kernel)
theorem tw_13 : (.code ⟨"TailedStore", "<init>", "(II)V"⟩ prog_1_method_1_code 3 none : Cond) ∈ ts_all := ts_in (List.mem_append_right _ (List.mem_of_getElem? (i := 13) (by decide +kernel))) (by decide +kernel)
theorem tw_130 : (.fieldLink "TailedStore" 99 "TailedStore" "tail" "I" : Cond) ∈ ts_all := ts_in (List.mem_append_right _ (List.mem_of_getElem? (i := 130) (by decide +kernel))) (by decide +kernel)
theorem tw_131 : (.fieldLink "TailedStore" 30 "TailedStore" "version" "I" : Cond) ∈ ts_all := ts_in (List.mem_append_right _ (List.mem_of_getElem? (i := 131) (by decide +kernel))) (by decide +kernel)
theorem tw_132 : (.fieldLink "TailedStore" 85 "TailedStore" "valueRead" "I" : Cond) ∈ ts_all := ts_in (List.mem_append_right _ (List.mem_of_getElem? (i := 132) (by decide +kernel))) (by decide +kernel)
theorem tw_133 : (.fieldLink "TailedStore" 37 "TailedStore" "settled" "LTailedStore$Saved;" : Cond) ∈ ts_all := ts_in (List.mem_append_right _ (List.mem_of_getElem? (i := 133) (by decide +kernel))) (by decide +kernel)
theorem tw_134 : (.fieldLink "TailedStore" 41 "TailedStore" "written" "LTailedStore$Saved;" : Cond) ∈ ts_all := ts_in (List.mem_append_right _ (List.mem_of_getElem? (i := 134) (by decide +kernel))) (by decide +kernel)
theorem tw_135 : (.fieldLink "TailedStore" 44 "TailedStore" "nextStep" "I" : Cond) ∈ ts_all := ts_in (List.mem_append_right _ (List.mem_of_getElem? (i := 135) (by decide +kernel))) (by decide +kernel)
theorem tw_136 : (.fieldLink "TailedStore" 114 "TailedStore" "bucketsImaged" "I" : Cond) ∈ ts_all := ts_in (List.mem_append_right _ (List.mem_of_getElem? (i := 136) (by decide +kernel))) (by decide +kernel)
theorem tw_137 : (.fieldLink "TailedStore" 117 "TailedStore" "endIsSet" "Z" : Cond) ∈ ts_all := ts_in (List.mem_append_right _ (List.mem_of_getElem? (i := 137) (by decide +kernel))) (by decide +kernel)
theorem tw_14 : (.methodLink "TailedStore" 3 ⟨"java/lang/Object", "<init>", "()V"⟩ : Cond) ∈ ts_all := ts_in (List.mem_append_right _ (List.mem_of_getElem? (i := 14) (by decide +kernel))) (by decide +kernel)
theorem tw_15 : (.instanceMethod ⟨"java/lang/Object", "<init>", "()V"⟩ : Cond) ∈ ts_all := ts_in (List.mem_append_right _ (List.mem_of_getElem? (i := 15) (by decide +kernel))) (by decide +kernel)
theorem tw_16 : (.code ⟨"java/lang/Object", "<init>", "()V"⟩ object_method_1_code 1 none : Cond) ∈ ts_all := ts_in (List.mem_append_right _ (List.mem_of_getElem? (i := 16) (by decide +kernel))) (by decide +kernel)
theorem tw_17 : (.classLink "TailedStore" 9 "TailedStore$Machine" : Cond) ∈ ts_all := ts_in (List.mem_append_right _ (List.mem_of_getElem? (i := 17) (by decide +kernel))) (by decide +kernel)
theorem tw_173 : (.methodLink "TailedStoreLaw" 21 ⟨"TailedStore", "put", "(II)I"⟩ : Cond) ∈ ts_all := ts_in (List.mem_append_right _ (List.mem_of_getElem? (i := 173) (by decide +kernel))) (by decide +kernel)
theorem tw_174 : (.instanceMethod ⟨"TailedStore", "put", "(II)I"⟩ : Cond) ∈ ts_all := ts_in (List.mem_append_right _ (List.mem_of_getElem? (i := 174) (by decide +kernel))) (by decide +kernel)
theorem tw_175 : (.selects "TailedStore" ⟨"TailedStore", "put", "(II)I"⟩ ⟨"TailedStore", "put", "(II)I"⟩ : Cond) ∈ ts_all := ts_in (List.mem_append_right _ (List.mem_of_getElem? (i := 175) (by decide +kernel))) (by decide +kernel)
theorem tw_176 : (.code ⟨"TailedStore", "put", "(II)I"⟩ prog_1_method_2_code 3 (some .int) : Cond) ∈ ts_all := ts_in (List.mem_append_right _ (List.mem_of_getElem? (i := 176) (by decide +kernel))) (by decide +kernel)
theorem tw_177 : (.methodLink "TailedStore" 66 ⟨"TailedStore", "isKey", "(I)Z"⟩ : Cond) ∈ ts_all := ts_in (List.mem_append_right _ (List.mem_of_getElem? (i := 177) (by decide +kernel))) (by decide +kernel)
theorem tw_178 : (.static ⟨"TailedStore", "isKey", "(I)Z"⟩ : Cond) ∈ ts_all := ts_in (List.mem_append_right _ (List.mem_of_getElem? (i := 178) (by decide +kernel))) (by decide +kernel)
theorem tw_179 : (.code ⟨"TailedStore", "isKey", "(I)Z"⟩ prog_1_method_17_code 1 (some .boolean) : Cond) ∈ ts_all := ts_in (List.mem_append_right _ (List.mem_of_getElem? (i := 179) (by decide +kernel))) (by decide +kernel)
theorem tw_18 : (.instantiable "TailedStore$Machine" 4 : Cond) ∈ ts_all := ts_in (List.mem_append_right _ (List.mem_of_getElem? (i := 18) (by decide +kernel))) (by decide +kernel)
theorem tw_180 : (.methodLink "TailedStore" 70 ⟨"TailedStore", "find", "(IZ)I"⟩ : Cond) ∈ ts_all := ts_in (List.mem_append_right _ (List.mem_of_getElem? (i := 180) (by decide +kernel))) (by decide +kernel)
theorem tw_182 : (.instanceMethod ⟨"TailedStore", "find", "(IZ)I"⟩ : Cond) ∈ ts_all := ts_in (List.mem_append_right _ (List.mem_of_getElem? (i := 182) (by decide +kernel))) (by decide +kernel)
theorem tw_183 : (.code ⟨"TailedStore", "find", "(IZ)I"⟩ prog_1_method_19_code 5 (some .int) : Cond) ∈ ts_all := ts_in (List.mem_append_right _ (List.mem_of_getElem? (i := 183) (by decide +kernel))) (by decide +kernel)
theorem tw_184 : (.methodLink "TailedStore" 185 ⟨"TailedStore$Index", "bucketOf", "(I)I"⟩ : Cond) ∈ ts_all := ts_in (List.mem_append_right _ (List.mem_of_getElem? (i := 184) (by decide +kernel))) (by decide +kernel)
theorem tw_185 : (.instanceMethod ⟨"TailedStore$Index", "bucketOf", "(I)I"⟩ : Cond) ∈ ts_all := ts_in (List.mem_append_right _ (List.mem_of_getElem? (i := 185) (by decide +kernel))) (by decide +kernel)
theorem tw_186 : (.selects "TailedStore$Index" ⟨"TailedStore$Index", "bucketOf", "(I)I"⟩ ⟨"TailedStore$Index", "bucketOf", "(I)I"⟩ : Cond) ∈ ts_all := ts_in (List.mem_append_right _ (List.mem_of_getElem? (i := 186) (by decide +kernel))) (by decide +kernel)
theorem tw_187 : (.code ⟨"TailedStore$Index", "bucketOf", "(I)I"⟩ prog_2_method_3_code 4 (some .int) : Cond) ∈ ts_all := ts_in (List.mem_append_right _ (List.mem_of_getElem? (i := 187) (by decide +kernel))) (by decide +kernel)
theorem tw_188 : (.methodLink "TailedStore" 74 ⟨"TailedStore", "change", "(IIIZ)I"⟩ : Cond) ∈ ts_all := ts_in (List.mem_append_right _ (List.mem_of_getElem? (i := 188) (by decide +kernel))) (by decide +kernel)
theorem tw_190 : (.instanceMethod ⟨"TailedStore", "change", "(IIIZ)I"⟩ : Cond) ∈ ts_all := ts_in (List.mem_append_right _ (List.mem_of_getElem? (i := 190) (by decide +kernel))) (by decide +kernel)
theorem tw_191 : (.code ⟨"TailedStore", "change", "(IIIZ)I"⟩ prog_1_method_23_code 5 (some .int) : Cond) ∈ ts_all := ts_in (List.mem_append_right _ (List.mem_of_getElem? (i := 191) (by decide +kernel))) (by decide +kernel)
theorem tw_192 : (.methodLink "TailedStore" 150 ⟨"TailedStore", "append", "(IIZ)Z"⟩ : Cond) ∈ ts_all := ts_in (List.mem_append_right _ (List.mem_of_getElem? (i := 192) (by decide +kernel))) (by decide +kernel)
theorem tw_194 : (.instanceMethod ⟨"TailedStore", "append", "(IIZ)Z"⟩ : Cond) ∈ ts_all := ts_in (List.mem_append_right _ (List.mem_of_getElem? (i := 194) (by decide +kernel))) (by decide +kernel)
theorem tw_195 : (.code ⟨"TailedStore", "append", "(IIZ)Z"⟩ prog_1_method_24_code 5 (some .boolean) : Cond) ∈ ts_all := ts_in (List.mem_append_right _ (List.mem_of_getElem? (i := 195) (by decide +kernel))) (by decide +kernel)
theorem tw_196 : (.methodLink "TailedStore" 188 ⟨"TailedStore", "openPage", "()Z"⟩ : Cond) ∈ ts_all := ts_in (List.mem_append_right _ (List.mem_of_getElem? (i := 196) (by decide +kernel))) (by decide +kernel)
theorem tw_198 : (.instanceMethod ⟨"TailedStore", "openPage", "()Z"⟩ : Cond) ∈ ts_all := ts_in (List.mem_append_right _ (List.mem_of_getElem? (i := 198) (by decide +kernel))) (by decide +kernel)
theorem tw_199 : (.code ⟨"TailedStore", "openPage", "()Z"⟩ prog_1_method_25_code 2 (some .boolean) : Cond) ∈ ts_all := ts_in (List.mem_append_right _ (List.mem_of_getElem? (i := 199) (by decide +kernel))) (by decide +kernel)
theorem tw_2 : (.initialized "TailedStore$Machine" : Cond) ∈ ts_all := ts_in (List.mem_append_right _ (List.mem_of_getElem? (i := 2) (by decide +kernel))) (by decide +kernel)
theorem tw_20 : (.instanceMethod ⟨"TailedStore$Machine", "<init>", "()V"⟩ : Cond) ∈ ts_all := ts_in (List.mem_append_right _ (List.mem_of_getElem? (i := 20) (by decide +kernel))) (by decide +kernel)
theorem tw_200 : (.methodLink "TailedStore" 137 ⟨"TailedStore", "pageEnd", "(I)I"⟩ : Cond) ∈ ts_all := ts_in (List.mem_append_right _ (List.mem_of_getElem? (i := 200) (by decide +kernel))) (by decide +kernel)
theorem tw_201 : (.static ⟨"TailedStore", "pageEnd", "(I)I"⟩ : Cond) ∈ ts_all := ts_in (List.mem_append_right _ (List.mem_of_getElem? (i := 201) (by decide +kernel))) (by decide +kernel)
theorem tw_202 : (.code ⟨"TailedStore", "pageEnd", "(I)I"⟩ prog_1_method_18_code 1 (some .int) : Cond) ∈ ts_all := ts_in (List.mem_append_right _ (List.mem_of_getElem? (i := 202) (by decide +kernel))) (by decide +kernel)
theorem tw_203 : (.methodLink "TailedStore" 191 ⟨"TailedStore", "flush", "(I)Z"⟩ : Cond) ∈ ts_all := ts_in (List.mem_append_right _ (List.mem_of_getElem? (i := 203) (by decide +kernel))) (by decide +kernel)
theorem tw_205 : (.instanceMethod ⟨"TailedStore", "flush", "(I)Z"⟩ : Cond) ∈ ts_all := ts_in (List.mem_append_right _ (List.mem_of_getElem? (i := 205) (by decide +kernel))) (by decide +kernel)
theorem tw_206 : (.code ⟨"TailedStore", "flush", "(I)Z"⟩ prog_1_method_26_code 3 (some .boolean) : Cond) ∈ ts_all := ts_in (List.mem_append_right _ (List.mem_of_getElem? (i := 206) (by decide +kernel))) (by decide +kernel)
theorem tw_207 : (.methodLink "TailedStore" 194 ⟨"TailedStore", "flushPage", "(I)Z"⟩ : Cond) ∈ ts_all := ts_in (List.mem_append_right _ (List.mem_of_getElem? (i := 207) (by decide +kernel))) (by decide +kernel)
theorem tw_209 : (.instanceMethod ⟨"TailedStore", "flushPage", "(I)Z"⟩ : Cond) ∈ ts_all := ts_in (List.mem_append_right _ (List.mem_of_getElem? (i := 209) (by decide +kernel))) (by decide +kernel)
theorem tw_21 : (.code ⟨"TailedStore$Machine", "<init>", "()V"⟩ prog_3_method_1_code 1 none : Cond) ∈ ts_all := ts_in (List.mem_append_right _ (List.mem_of_getElem? (i := 21) (by decide +kernel))) (by decide +kernel)
theorem tw_210 : (.code ⟨"TailedStore", "flushPage", "(I)Z"⟩ prog_1_method_27_code 2 (some .boolean) : Cond) ∈ ts_all := ts_in (List.mem_append_right _ (List.mem_of_getElem? (i := 210) (by decide +kernel))) (by decide +kernel)
theorem tw_211 : (.methodLink "TailedStore" 197 ⟨"TailedStore$Machine", "writeBlock", "()Z"⟩ : Cond) ∈ ts_all := ts_in (List.mem_append_right _ (List.mem_of_getElem? (i := 211) (by decide +kernel))) (by decide +kernel)
theorem tw_212 : (.instanceMethod ⟨"TailedStore$Machine", "writeBlock", "()Z"⟩ : Cond) ∈ ts_all := ts_in (List.mem_append_right _ (List.mem_of_getElem? (i := 212) (by decide +kernel))) (by decide +kernel)
theorem tw_213 : (.selects "TailedStore$Machine" ⟨"TailedStore$Machine", "writeBlock", "()Z"⟩ ⟨"TailedStore$Machine", "writeBlock", "()Z"⟩ : Cond) ∈ ts_all := ts_in (List.mem_append_right _ (List.mem_of_getElem? (i := 213) (by decide +kernel))) (by decide +kernel)
theorem tw_214 : (.code ⟨"TailedStore$Machine", "writeBlock", "()Z"⟩ prog_3_method_2_code 1 (some .boolean) : Cond) ∈ ts_all := ts_in (List.mem_append_right _ (List.mem_of_getElem? (i := 214) (by decide +kernel))) (by decide +kernel)
theorem tw_215 : (.methodLink "TailedStoreLaw" 26 ⟨"TailedStore", "add", "(II)I"⟩ : Cond) ∈ ts_all := ts_in (List.mem_append_right _ (List.mem_of_getElem? (i := 215) (by decide +kernel))) (by decide +kernel)
theorem tw_216 : (.instanceMethod ⟨"TailedStore", "add", "(II)I"⟩ : Cond) ∈ ts_all := ts_in (List.mem_append_right _ (List.mem_of_getElem? (i := 216) (by decide +kernel))) (by decide +kernel)
theorem tw_217 : (.selects "TailedStore" ⟨"TailedStore", "add", "(II)I"⟩ ⟨"TailedStore", "add", "(II)I"⟩ : Cond) ∈ ts_all := ts_in (List.mem_append_right _ (List.mem_of_getElem? (i := 217) (by decide +kernel))) (by decide +kernel)
theorem tw_218 : (.code ⟨"TailedStore", "add", "(II)I"⟩ prog_1_method_3_code 5 (some .int) : Cond) ∈ ts_all := ts_in (List.mem_append_right _ (List.mem_of_getElem? (i := 218) (by decide +kernel))) (by decide +kernel)
theorem tw_219 : (.methodLink "TailedStore" 78 ⟨"TailedStore", "hasValue", "(I)Z"⟩ : Cond) ∈ ts_all := ts_in (List.mem_append_right _ (List.mem_of_getElem? (i := 219) (by decide +kernel))) (by decide +kernel)
theorem tw_22 : (.methodLink "TailedStore$Machine" 1 ⟨"java/lang/Object", "<init>", "()V"⟩ : Cond) ∈ ts_all := ts_in (List.mem_append_right _ (List.mem_of_getElem? (i := 22) (by decide +kernel))) (by decide +kernel)
theorem tw_221 : (.instanceMethod ⟨"TailedStore", "hasValue", "(I)Z"⟩ : Cond) ∈ ts_all := ts_in (List.mem_append_right _ (List.mem_of_getElem? (i := 221) (by decide +kernel))) (by decide +kernel)
theorem tw_222 : (.code ⟨"TailedStore", "hasValue", "(I)Z"⟩ prog_1_method_20_code 2 (some .boolean) : Cond) ∈ ts_all := ts_in (List.mem_append_right _ (List.mem_of_getElem? (i := 222) (by decide +kernel))) (by decide +kernel)
theorem tw_223 : (.methodLink "TailedStoreLaw" 30 ⟨"TailedStore", "delete", "(I)I"⟩ : Cond) ∈ ts_all := ts_in (List.mem_append_right _ (List.mem_of_getElem? (i := 223) (by decide +kernel))) (by decide +kernel)
theorem tw_224 : (.instanceMethod ⟨"TailedStore", "delete", "(I)I"⟩ : Cond) ∈ ts_all := ts_in (List.mem_append_right _ (List.mem_of_getElem? (i := 224) (by decide +kernel))) (by decide +kernel)
theorem tw_225 : (.selects "TailedStore" ⟨"TailedStore", "delete", "(I)I"⟩ ⟨"TailedStore", "delete", "(I)I"⟩ : Cond) ∈ ts_all := ts_in (List.mem_append_right _ (List.mem_of_getElem? (i := 225) (by decide +kernel))) (by decide +kernel)
theorem tw_226 : (.code ⟨"TailedStore", "delete", "(I)I"⟩ prog_1_method_4_code 3 (some .int) : Cond) ∈ ts_all := ts_in (List.mem_append_right _ (List.mem_of_getElem? (i := 226) (by decide +kernel))) (by decide +kernel)
theorem tw_227 : (.methodLink "TailedStoreLaw" 35 ⟨"TailedStore", "read", "(I)I"⟩ : Cond) ∈ ts_all := ts_in (List.mem_append_right _ (List.mem_of_getElem? (i := 227) (by decide +kernel))) (by decide +kernel)
theorem tw_228 : (.instanceMethod ⟨"TailedStore", "read", "(I)I"⟩ : Cond) ∈ ts_all := ts_in (List.mem_append_right _ (List.mem_of_getElem? (i := 228) (by decide +kernel))) (by decide +kernel)
theorem tw_229 : (.selects "TailedStore" ⟨"TailedStore", "read", "(I)I"⟩ ⟨"TailedStore", "read", "(I)I"⟩ : Cond) ∈ ts_all := ts_in (List.mem_append_right _ (List.mem_of_getElem? (i := 229) (by decide +kernel))) (by decide +kernel)
theorem tw_23 : (.fieldLink "TailedStore" 62 "TailedStore$Machine" "stopped" "Z" : Cond) ∈ ts_all := ts_in (List.mem_append_right _ (List.mem_of_getElem? (i := 23) (by decide +kernel))) (by decide +kernel)
theorem tw_230 : (.code ⟨"TailedStore", "read", "(I)I"⟩ prog_1_method_5_code 3 (some .int) : Cond) ∈ ts_all := ts_in (List.mem_append_right _ (List.mem_of_getElem? (i := 230) (by decide +kernel))) (by decide +kernel)
theorem tw_231 : (.methodLink "TailedStoreLaw" 39 ⟨"TailedStore", "value", "()I"⟩ : Cond) ∈ ts_all := ts_in (List.mem_append_right _ (List.mem_of_getElem? (i := 231) (by decide +kernel))) (by decide +kernel)
theorem tw_232 : (.instanceMethod ⟨"TailedStore", "value", "()I"⟩ : Cond) ∈ ts_all := ts_in (List.mem_append_right _ (List.mem_of_getElem? (i := 232) (by decide +kernel))) (by decide +kernel)
theorem tw_233 : (.selects "TailedStore" ⟨"TailedStore", "value", "()I"⟩ ⟨"TailedStore", "value", "()I"⟩ : Cond) ∈ ts_all := ts_in (List.mem_append_right _ (List.mem_of_getElem? (i := 233) (by decide +kernel))) (by decide +kernel)
theorem tw_234 : (.code ⟨"TailedStore", "value", "()I"⟩ prog_1_method_6_code 1 (some .int) : Cond) ∈ ts_all := ts_in (List.mem_append_right _ (List.mem_of_getElem? (i := 234) (by decide +kernel))) (by decide +kernel)
theorem tw_235 : (.methodLink "TailedStoreLaw" 44 ⟨"TailedStore", "checkpoint", "()I"⟩ : Cond) ∈ ts_all := ts_in (List.mem_append_right _ (List.mem_of_getElem? (i := 235) (by decide +kernel))) (by decide +kernel)
theorem tw_236 : (.instanceMethod ⟨"TailedStore", "checkpoint", "()I"⟩ : Cond) ∈ ts_all := ts_in (List.mem_append_right _ (List.mem_of_getElem? (i := 236) (by decide +kernel))) (by decide +kernel)
theorem tw_237 : (.selects "TailedStore" ⟨"TailedStore", "checkpoint", "()I"⟩ ⟨"TailedStore", "checkpoint", "()I"⟩ : Cond) ∈ ts_all := ts_in (List.mem_append_right _ (List.mem_of_getElem? (i := 237) (by decide +kernel))) (by decide +kernel)
theorem tw_238 : (.code ⟨"TailedStore", "checkpoint", "()I"⟩ prog_1_method_7_code 1 (some .int) : Cond) ∈ ts_all := ts_in (List.mem_append_right _ (List.mem_of_getElem? (i := 238) (by decide +kernel))) (by decide +kernel)
theorem tw_239 : (.methodLink "TailedStoreLaw" 48 ⟨"TailedStore", "step", "()I"⟩ : Cond) ∈ ts_all := ts_in (List.mem_append_right _ (List.mem_of_getElem? (i := 239) (by decide +kernel))) (by decide +kernel)
theorem tw_24 : (.fieldLink "TailedStore$Machine" 16 "TailedStore$Machine" "stopped" "Z" : Cond) ∈ ts_all := ts_in (List.mem_append_right _ (List.mem_of_getElem? (i := 24) (by decide +kernel))) (by decide +kernel)
theorem tw_240 : (.instanceMethod ⟨"TailedStore", "step", "()I"⟩ : Cond) ∈ ts_all := ts_in (List.mem_append_right _ (List.mem_of_getElem? (i := 240) (by decide +kernel))) (by decide +kernel)
theorem tw_241 : (.selects "TailedStore" ⟨"TailedStore", "step", "()I"⟩ ⟨"TailedStore", "step", "()I"⟩ : Cond) ∈ ts_all := ts_in (List.mem_append_right _ (List.mem_of_getElem? (i := 241) (by decide +kernel))) (by decide +kernel)
theorem tw_242 : (.code ⟨"TailedStore", "step", "()I"⟩ prog_1_method_8_code 2 (some .int) : Cond) ∈ ts_all := ts_in (List.mem_append_right _ (List.mem_of_getElem? (i := 242) (by decide +kernel))) (by decide +kernel)
theorem tw_243 : (.methodLink "TailedStore" 120 ⟨"TailedStore", "writeImageBlock", "()Z"⟩ : Cond) ∈ ts_all := ts_in (List.mem_append_right _ (List.mem_of_getElem? (i := 243) (by decide +kernel))) (by decide +kernel)
theorem tw_245 : (.instanceMethod ⟨"TailedStore", "writeImageBlock", "()Z"⟩ : Cond) ∈ ts_all := ts_in (List.mem_append_right _ (List.mem_of_getElem? (i := 245) (by decide +kernel))) (by decide +kernel)
theorem tw_246 : (.code ⟨"TailedStore", "writeImageBlock", "()Z"⟩ prog_1_method_28_code 4 (some .boolean) : Cond) ∈ ts_all := ts_in (List.mem_append_right _ (List.mem_of_getElem? (i := 246) (by decide +kernel))) (by decide +kernel)
theorem tw_247 : (.methodLink "TailedStore" 130 ⟨"TailedStore$Index", "count", "()I"⟩ : Cond) ∈ ts_all := ts_in (List.mem_append_right _ (List.mem_of_getElem? (i := 247) (by decide +kernel))) (by decide +kernel)
theorem tw_248 : (.instanceMethod ⟨"TailedStore$Index", "count", "()I"⟩ : Cond) ∈ ts_all := ts_in (List.mem_append_right _ (List.mem_of_getElem? (i := 248) (by decide +kernel))) (by decide +kernel)
theorem tw_249 : (.selects "TailedStore$Index" ⟨"TailedStore$Index", "count", "()I"⟩ ⟨"TailedStore$Index", "count", "()I"⟩ : Cond) ∈ ts_all := ts_in (List.mem_append_right _ (List.mem_of_getElem? (i := 249) (by decide +kernel))) (by decide +kernel)
theorem tw_25 : (.fieldLink "TailedStore$Machine" 13 "TailedStore$Machine" "blocksLeft" "I" : Cond) ∈ ts_all := ts_in (List.mem_append_right _ (List.mem_of_getElem? (i := 25) (by decide +kernel))) (by decide +kernel)
theorem tw_250 : (.code ⟨"TailedStore$Index", "count", "()I"⟩ prog_2_method_2_code 1 (some .int) : Cond) ∈ ts_all := ts_in (List.mem_append_right _ (List.mem_of_getElem? (i := 250) (by decide +kernel))) (by decide +kernel)
theorem tw_251 : (.methodLink "TailedStore" 124 ⟨"TailedStore", "flushTowardsEnd", "()Z"⟩ : Cond) ∈ ts_all := ts_in (List.mem_append_right _ (List.mem_of_getElem? (i := 251) (by decide +kernel))) (by decide +kernel)
theorem tw_253 : (.instanceMethod ⟨"TailedStore", "flushTowardsEnd", "()Z"⟩ : Cond) ∈ ts_all := ts_in (List.mem_append_right _ (List.mem_of_getElem? (i := 253) (by decide +kernel))) (by decide +kernel)
theorem tw_254 : (.code ⟨"TailedStore", "flushTowardsEnd", "()Z"⟩ prog_1_method_29_code 1 (some .boolean) : Cond) ∈ ts_all := ts_in (List.mem_append_right _ (List.mem_of_getElem? (i := 254) (by decide +kernel))) (by decide +kernel)
theorem tw_255 : (.methodLink "TailedStore" 127 ⟨"TailedStore", "settle", "()Z"⟩ : Cond) ∈ ts_all := ts_in (List.mem_append_right _ (List.mem_of_getElem? (i := 255) (by decide +kernel))) (by decide +kernel)
theorem tw_257 : (.instanceMethod ⟨"TailedStore", "settle", "()Z"⟩ : Cond) ∈ ts_all := ts_in (List.mem_append_right _ (List.mem_of_getElem? (i := 257) (by decide +kernel))) (by decide +kernel)
theorem tw_258 : (.code ⟨"TailedStore", "settle", "()Z"⟩ prog_1_method_30_code 2 (some .boolean) : Cond) ∈ ts_all := ts_in (List.mem_append_right _ (List.mem_of_getElem? (i := 258) (by decide +kernel))) (by decide +kernel)
theorem tw_259 : (.methodLink "TailedStoreLaw" 52 ⟨"TailedStore", "grow", "()I"⟩ : Cond) ∈ ts_all := ts_in (List.mem_append_right _ (List.mem_of_getElem? (i := 259) (by decide +kernel))) (by decide +kernel)
theorem tw_26 : (.fieldLink "TailedStore" 154 "TailedStore$Machine" "blocksLeft" "I" : Cond) ∈ ts_all := ts_in (List.mem_append_right _ (List.mem_of_getElem? (i := 26) (by decide +kernel))) (by decide +kernel)
theorem tw_260 : (.instanceMethod ⟨"TailedStore", "grow", "()I"⟩ : Cond) ∈ ts_all := ts_in (List.mem_append_right _ (List.mem_of_getElem? (i := 260) (by decide +kernel))) (by decide +kernel)
theorem tw_261 : (.selects "TailedStore" ⟨"TailedStore", "grow", "()I"⟩ ⟨"TailedStore", "grow", "()I"⟩ : Cond) ∈ ts_all := ts_in (List.mem_append_right _ (List.mem_of_getElem? (i := 261) (by decide +kernel))) (by decide +kernel)
theorem tw_262 : (.code ⟨"TailedStore", "grow", "()I"⟩ prog_1_method_9_code 1 (some .int) : Cond) ∈ ts_all := ts_in (List.mem_append_right _ (List.mem_of_getElem? (i := 262) (by decide +kernel))) (by decide +kernel)
theorem tw_263 : (.methodLink "TailedStore" 134 ⟨"TailedStore$Index", "twin", "()V"⟩ : Cond) ∈ ts_all := ts_in (List.mem_append_right _ (List.mem_of_getElem? (i := 263) (by decide +kernel))) (by decide +kernel)
theorem tw_264 : (.instanceMethod ⟨"TailedStore$Index", "twin", "()V"⟩ : Cond) ∈ ts_all := ts_in (List.mem_append_right _ (List.mem_of_getElem? (i := 264) (by decide +kernel))) (by decide +kernel)
theorem tw_265 : (.selects "TailedStore$Index" ⟨"TailedStore$Index", "twin", "()V"⟩ ⟨"TailedStore$Index", "twin", "()V"⟩ : Cond) ∈ ts_all := ts_in (List.mem_append_right _ (List.mem_of_getElem? (i := 265) (by decide +kernel))) (by decide +kernel)
theorem tw_266 : (.code ⟨"TailedStore$Index", "twin", "()V"⟩ prog_2_method_4_code 1 none : Cond) ∈ ts_all := ts_in (List.mem_append_right _ (List.mem_of_getElem? (i := 266) (by decide +kernel))) (by decide +kernel)
theorem tw_267 : (.methodLink "TailedStore$Index" 28 ⟨"TailedStore$Index", "count", "()I"⟩ : Cond) ∈ ts_all := ts_in (List.mem_append_right _ (List.mem_of_getElem? (i := 267) (by decide +kernel))) (by decide +kernel)
theorem tw_268 : (.methodLink "TailedStoreLaw" 56 ⟨"TailedStore", "compact", "()I"⟩ : Cond) ∈ ts_all := ts_in (List.mem_append_right _ (List.mem_of_getElem? (i := 268) (by decide +kernel))) (by decide +kernel)
theorem tw_269 : (.instanceMethod ⟨"TailedStore", "compact", "()I"⟩ : Cond) ∈ ts_all := ts_in (List.mem_append_right _ (List.mem_of_getElem? (i := 269) (by decide +kernel))) (by decide +kernel)
theorem tw_27 : (.fieldLink "TailedStore$Machine" 7 "TailedStore$Machine" "blocks" "I" : Cond) ∈ ts_all := ts_in (List.mem_append_right _ (List.mem_of_getElem? (i := 27) (by decide +kernel))) (by decide +kernel)
theorem tw_270 : (.selects "TailedStore" ⟨"TailedStore", "compact", "()I"⟩ ⟨"TailedStore", "compact", "()I"⟩ : Cond) ∈ ts_all := ts_in (List.mem_append_right _ (List.mem_of_getElem? (i := 270) (by decide +kernel))) (by decide +kernel)
theorem tw_271 : (.code ⟨"TailedStore", "compact", "()I"⟩ prog_1_method_10_code 4 (some .int) : Cond) ∈ ts_all := ts_in (List.mem_append_right _ (List.mem_of_getElem? (i := 271) (by decide +kernel))) (by decide +kernel)
theorem tw_272 : (.methodLink "TailedStore" 144 ⟨"TailedStore", "isLatest", "(I)Z"⟩ : Cond) ∈ ts_all := ts_in (List.mem_append_right _ (List.mem_of_getElem? (i := 272) (by decide +kernel))) (by decide +kernel)
theorem tw_274 : (.instanceMethod ⟨"TailedStore", "isLatest", "(I)Z"⟩ : Cond) ∈ ts_all := ts_in (List.mem_append_right _ (List.mem_of_getElem? (i := 274) (by decide +kernel))) (by decide +kernel)
theorem tw_275 : (.code ⟨"TailedStore", "isLatest", "(I)Z"⟩ prog_1_method_21_code 2 (some .boolean) : Cond) ∈ ts_all := ts_in (List.mem_append_right _ (List.mem_of_getElem? (i := 275) (by decide +kernel))) (by decide +kernel)
theorem tw_276 : (.methodLink "TailedStoreLaw" 60 ⟨"TailedStore", "fuse", "(I)Z"⟩ : Cond) ∈ ts_all := ts_in (List.mem_append_right _ (List.mem_of_getElem? (i := 276) (by decide +kernel))) (by decide +kernel)
theorem tw_277 : (.instanceMethod ⟨"TailedStore", "fuse", "(I)Z"⟩ : Cond) ∈ ts_all := ts_in (List.mem_append_right _ (List.mem_of_getElem? (i := 277) (by decide +kernel))) (by decide +kernel)
theorem tw_278 : (.selects "TailedStore" ⟨"TailedStore", "fuse", "(I)Z"⟩ ⟨"TailedStore", "fuse", "(I)Z"⟩ : Cond) ∈ ts_all := ts_in (List.mem_append_right _ (List.mem_of_getElem? (i := 278) (by decide +kernel))) (by decide +kernel)
theorem tw_279 : (.code ⟨"TailedStore", "fuse", "(I)Z"⟩ prog_1_method_11_code 2 (some .boolean) : Cond) ∈ ts_all := ts_in (List.mem_append_right _ (List.mem_of_getElem? (i := 279) (by decide +kernel))) (by decide +kernel)
theorem tw_28 : (.fieldLink "TailedStore" 179 "TailedStore$Machine" "blocks" "I" : Cond) ∈ ts_all := ts_in (List.mem_append_right _ (List.mem_of_getElem? (i := 28) (by decide +kernel))) (by decide +kernel)
theorem tw_280 : (.methodLink "TailedStoreLaw" 65 ⟨"TailedStore", "recover", "()I"⟩ : Cond) ∈ ts_all := ts_in (List.mem_append_right _ (List.mem_of_getElem? (i := 280) (by decide +kernel))) (by decide +kernel)
theorem tw_281 : (.instanceMethod ⟨"TailedStore", "recover", "()I"⟩ : Cond) ∈ ts_all := ts_in (List.mem_append_right _ (List.mem_of_getElem? (i := 281) (by decide +kernel))) (by decide +kernel)
theorem tw_282 : (.selects "TailedStore" ⟨"TailedStore", "recover", "()I"⟩ ⟨"TailedStore", "recover", "()I"⟩ : Cond) ∈ ts_all := ts_in (List.mem_append_right _ (List.mem_of_getElem? (i := 282) (by decide +kernel))) (by decide +kernel)
theorem tw_283 : (.code ⟨"TailedStore", "recover", "()I"⟩ prog_1_method_12_code 1 (some .int) : Cond) ∈ ts_all := ts_in (List.mem_append_right _ (List.mem_of_getElem? (i := 283) (by decide +kernel))) (by decide +kernel)
theorem tw_284 : (.methodLink "TailedStore" 163 ⟨"TailedStore", "restoreIndex", "()V"⟩ : Cond) ∈ ts_all := ts_in (List.mem_append_right _ (List.mem_of_getElem? (i := 284) (by decide +kernel))) (by decide +kernel)
theorem tw_286 : (.instanceMethod ⟨"TailedStore", "restoreIndex", "()V"⟩ : Cond) ∈ ts_all := ts_in (List.mem_append_right _ (List.mem_of_getElem? (i := 286) (by decide +kernel))) (by decide +kernel)
theorem tw_287 : (.code ⟨"TailedStore", "restoreIndex", "()V"⟩ prog_1_method_31_code 3 none : Cond) ∈ ts_all := ts_in (List.mem_append_right _ (List.mem_of_getElem? (i := 287) (by decide +kernel))) (by decide +kernel)
theorem tw_288 : (.methodLink "TailedStore" 200 ⟨"TailedStore", "lastBelowCut", "(I)I"⟩ : Cond) ∈ ts_all := ts_in (List.mem_append_right _ (List.mem_of_getElem? (i := 288) (by decide +kernel))) (by decide +kernel)
theorem tw_29 : (.fieldLink "TailedStore" 141 "TailedStore$Machine" "reads" "I" : Cond) ∈ ts_all := ts_in (List.mem_append_right _ (List.mem_of_getElem? (i := 29) (by decide +kernel))) (by decide +kernel)
theorem tw_290 : (.instanceMethod ⟨"TailedStore", "lastBelowCut", "(I)I"⟩ : Cond) ∈ ts_all := ts_in (List.mem_append_right _ (List.mem_of_getElem? (i := 290) (by decide +kernel))) (by decide +kernel)
theorem tw_291 : (.code ⟨"TailedStore", "lastBelowCut", "(I)I"⟩ prog_1_method_32_code 4 (some .int) : Cond) ∈ ts_all := ts_in (List.mem_append_right _ (List.mem_of_getElem? (i := 291) (by decide +kernel))) (by decide +kernel)
theorem tw_292 : (.methodLink "TailedStoreLaw" 69 ⟨"TailedStore", "address", "(I)I"⟩ : Cond) ∈ ts_all := ts_in (List.mem_append_right _ (List.mem_of_getElem? (i := 292) (by decide +kernel))) (by decide +kernel)
theorem tw_293 : (.instanceMethod ⟨"TailedStore", "address", "(I)I"⟩ : Cond) ∈ ts_all := ts_in (List.mem_append_right _ (List.mem_of_getElem? (i := 293) (by decide +kernel))) (by decide +kernel)
theorem tw_294 : (.selects "TailedStore" ⟨"TailedStore", "address", "(I)I"⟩ ⟨"TailedStore", "address", "(I)I"⟩ : Cond) ∈ ts_all := ts_in (List.mem_append_right _ (List.mem_of_getElem? (i := 294) (by decide +kernel))) (by decide +kernel)
theorem tw_295 : (.code ⟨"TailedStore", "address", "(I)I"⟩ prog_1_method_13_code 2 (some .int) : Cond) ∈ ts_all := ts_in (List.mem_append_right _ (List.mem_of_getElem? (i := 295) (by decide +kernel))) (by decide +kernel)
theorem tw_296 : (.methodLink "TailedStoreLaw" 73 ⟨"TailedStore", "entry", "(II)I"⟩ : Cond) ∈ ts_all := ts_in (List.mem_append_right _ (List.mem_of_getElem? (i := 296) (by decide +kernel))) (by decide +kernel)
theorem tw_297 : (.instanceMethod ⟨"TailedStore", "entry", "(II)I"⟩ : Cond) ∈ ts_all := ts_in (List.mem_append_right _ (List.mem_of_getElem? (i := 297) (by decide +kernel))) (by decide +kernel)
theorem tw_298 : (.selects "TailedStore" ⟨"TailedStore", "entry", "(II)I"⟩ ⟨"TailedStore", "entry", "(II)I"⟩ : Cond) ∈ ts_all := ts_in (List.mem_append_right _ (List.mem_of_getElem? (i := 298) (by decide +kernel))) (by decide +kernel)
theorem tw_299 : (.code ⟨"TailedStore", "entry", "(II)I"⟩ prog_1_method_14_code 3 (some .int) : Cond) ∈ ts_all := ts_in (List.mem_append_right _ (List.mem_of_getElem? (i := 299) (by decide +kernel))) (by decide +kernel)
theorem tw_3 : (.initialized "TailedStore$Index" : Cond) ∈ ts_all := ts_in (List.mem_append_right _ (List.mem_of_getElem? (i := 3) (by decide +kernel))) (by decide +kernel)
theorem tw_300 : (.methodLink "TailedStoreLaw" 77 ⟨"TailedStore", "bucket", "(I)I"⟩ : Cond) ∈ ts_all := ts_in (List.mem_append_right _ (List.mem_of_getElem? (i := 300) (by decide +kernel))) (by decide +kernel)
theorem tw_301 : (.instanceMethod ⟨"TailedStore", "bucket", "(I)I"⟩ : Cond) ∈ ts_all := ts_in (List.mem_append_right _ (List.mem_of_getElem? (i := 301) (by decide +kernel))) (by decide +kernel)
theorem tw_302 : (.selects "TailedStore" ⟨"TailedStore", "bucket", "(I)I"⟩ ⟨"TailedStore", "bucket", "(I)I"⟩ : Cond) ∈ ts_all := ts_in (List.mem_append_right _ (List.mem_of_getElem? (i := 302) (by decide +kernel))) (by decide +kernel)
theorem tw_303 : (.code ⟨"TailedStore", "bucket", "(I)I"⟩ prog_1_method_15_code 2 (some .int) : Cond) ∈ ts_all := ts_in (List.mem_append_right _ (List.mem_of_getElem? (i := 303) (by decide +kernel))) (by decide +kernel)
theorem tw_304 : (.methodLink "TailedStoreLaw" 81 ⟨"TailedStore", "size", "(I)I"⟩ : Cond) ∈ ts_all := ts_in (List.mem_append_right _ (List.mem_of_getElem? (i := 304) (by decide +kernel))) (by decide +kernel)
theorem tw_305 : (.instanceMethod ⟨"TailedStore", "size", "(I)I"⟩ : Cond) ∈ ts_all := ts_in (List.mem_append_right _ (List.mem_of_getElem? (i := 305) (by decide +kernel))) (by decide +kernel)
theorem tw_306 : (.selects "TailedStore" ⟨"TailedStore", "size", "(I)I"⟩ ⟨"TailedStore", "size", "(I)I"⟩ : Cond) ∈ ts_all := ts_in (List.mem_append_right _ (List.mem_of_getElem? (i := 306) (by decide +kernel))) (by decide +kernel)
theorem tw_307 : (.code ⟨"TailedStore", "size", "(I)I"⟩ prog_1_method_16_code 3 (some .int) : Cond) ∈ ts_all := ts_in (List.mem_append_right _ (List.mem_of_getElem? (i := 307) (by decide +kernel))) (by decide +kernel)
theorem tw_308 : (.methodLink "TailedStore" 182 ⟨"TailedStore", "keysWithValue", "()I"⟩ : Cond) ∈ ts_all := ts_in (List.mem_append_right _ (List.mem_of_getElem? (i := 308) (by decide +kernel))) (by decide +kernel)
theorem tw_310 : (.instanceMethod ⟨"TailedStore", "keysWithValue", "()I"⟩ : Cond) ∈ ts_all := ts_in (List.mem_append_right _ (List.mem_of_getElem? (i := 310) (by decide +kernel))) (by decide +kernel)
theorem tw_311 : (.code ⟨"TailedStore", "keysWithValue", "()I"⟩ prog_1_method_22_code 3 (some .int) : Cond) ∈ ts_all := ts_in (List.mem_append_right _ (List.mem_of_getElem? (i := 311) (by decide +kernel))) (by decide +kernel)
theorem tw_312 : (.methodLink "TailedStoreLaw" 9 ⟨"TailedStoreLaw", "cell", "([II)I"⟩ : Cond) ∈ ts_all := ts_in (List.mem_append_right _ (List.mem_of_getElem? (i := 312) (by decide +kernel))) (by decide +kernel)
theorem tw_313 : (.static ⟨"TailedStoreLaw", "cell", "([II)I"⟩ : Cond) ∈ ts_all := ts_in (List.mem_append_right _ (List.mem_of_getElem? (i := 313) (by decide +kernel))) (by decide +kernel)
theorem tw_314 : (.code ⟨"TailedStoreLaw", "cell", "([II)I"⟩ method_2_code 2 (some .int) : Cond) ∈ ts_all := ts_in (List.mem_append_right _ (List.mem_of_getElem? (i := 314) (by decide +kernel))) (by decide +kernel)
theorem tw_315 : (.classLink "TailedStoreLaw" 18 "TailedStoreModel" : Cond) ∈ ts_all := ts_in (List.mem_append_right _ (List.mem_of_getElem? (i := 315) (by decide +kernel))) (by decide +kernel)
theorem tw_316 : (.instantiable "TailedStoreModel" 32 : Cond) ∈ ts_all := ts_in (List.mem_append_right _ (List.mem_of_getElem? (i := 316) (by decide +kernel))) (by decide +kernel)
theorem tw_317 : (.methodLink "TailedStoreLaw" 20 ⟨"TailedStoreModel", "<init>", "(II)V"⟩ : Cond) ∈ ts_all := ts_in (List.mem_append_right _ (List.mem_of_getElem? (i := 317) (by decide +kernel))) (by decide +kernel)
theorem tw_318 : (.instanceMethod ⟨"TailedStoreModel", "<init>", "(II)V"⟩ : Cond) ∈ ts_all := ts_in (List.mem_append_right _ (List.mem_of_getElem? (i := 318) (by decide +kernel))) (by decide +kernel)
theorem tw_319 : (.code ⟨"TailedStoreModel", "<init>", "(II)V"⟩ prog_7_method_1_code 3 none : Cond) ∈ ts_all := ts_in (List.mem_append_right _ (List.mem_of_getElem? (i := 319) (by decide +kernel))) (by decide +kernel)
theorem tw_320 : (.methodLink "TailedStoreModel" 1 ⟨"java/lang/Object", "<init>", "()V"⟩ : Cond) ∈ ts_all := ts_in (List.mem_append_right _ (List.mem_of_getElem? (i := 320) (by decide +kernel))) (by decide +kernel)
theorem tw_321 : (.methodLink "TailedStoreModel" 60 ⟨"TailedStoreModel", "empty", "()V"⟩ : Cond) ∈ ts_all := ts_in (List.mem_append_right _ (List.mem_of_getElem? (i := 321) (by decide +kernel))) (by decide +kernel)
theorem tw_323 : (.instanceMethod ⟨"TailedStoreModel", "empty", "()V"⟩ : Cond) ∈ ts_all := ts_in (List.mem_append_right _ (List.mem_of_getElem? (i := 323) (by decide +kernel))) (by decide +kernel)
theorem tw_324 : (.code ⟨"TailedStoreModel", "empty", "()V"⟩ prog_7_method_2_code 2 none : Cond) ∈ ts_all := ts_in (List.mem_append_right _ (List.mem_of_getElem? (i := 324) (by decide +kernel))) (by decide +kernel)
theorem tw_325 : (.fieldLink "TailedStoreModel" 50 "TailedStoreModel" "memory" "I" : Cond) ∈ ts_all := ts_in (List.mem_append_right _ (List.mem_of_getElem? (i := 325) (by decide +kernel))) (by decide +kernel)
theorem tw_326 : (.fieldLink "TailedStoreModel" 54 "TailedStoreModel" "mutable" "I" : Cond) ∈ ts_all := ts_in (List.mem_append_right _ (List.mem_of_getElem? (i := 326) (by decide +kernel))) (by decide +kernel)
theorem tw_327 : (.fieldLink "TailedStoreModel" 7 "TailedStoreModel" "keys" "[I" : Cond) ∈ ts_all := ts_in (List.mem_append_right _ (List.mem_of_getElem? (i := 327) (by decide +kernel))) (by decide +kernel)
theorem tw_328 : (.fieldLink "TailedStoreModel" 13 "TailedStoreModel" "values" "[I" : Cond) ∈ ts_all := ts_in (List.mem_append_right _ (List.mem_of_getElem? (i := 328) (by decide +kernel))) (by decide +kernel)
theorem tw_329 : (.fieldLink "TailedStoreModel" 16 "TailedStoreModel" "previous" "[I" : Cond) ∈ ts_all := ts_in (List.mem_append_right _ (List.mem_of_getElem? (i := 329) (by decide +kernel))) (by decide +kernel)
theorem tw_330 : (.fieldLink "TailedStoreModel" 19 "TailedStoreModel" "versions" "[I" : Cond) ∈ ts_all := ts_in (List.mem_append_right _ (List.mem_of_getElem? (i := 330) (by decide +kernel))) (by decide +kernel)
theorem tw_331 : (.fieldLink "TailedStoreModel" 22 "TailedStoreModel" "stones" "[Z" : Cond) ∈ ts_all := ts_in (List.mem_append_right _ (List.mem_of_getElem? (i := 331) (by decide +kernel))) (by decide +kernel)
theorem tw_332 : (.fieldLink "TailedStoreModel" 63 "TailedStoreModel" "begin" "I" : Cond) ∈ ts_all := ts_in (List.mem_append_right _ (List.mem_of_getElem? (i := 332) (by decide +kernel))) (by decide +kernel)
theorem tw_333 : (.fieldLink "TailedStoreModel" 66 "TailedStoreModel" "head" "I" : Cond) ∈ ts_all := ts_in (List.mem_append_right _ (List.mem_of_getElem? (i := 333) (by decide +kernel))) (by decide +kernel)
theorem tw_334 : (.fieldLink "TailedStoreModel" 69 "TailedStoreModel" "flushed" "I" : Cond) ∈ ts_all := ts_in (List.mem_append_right _ (List.mem_of_getElem? (i := 334) (by decide +kernel))) (by decide +kernel)
theorem tw_335 : (.fieldLink "TailedStoreModel" 72 "TailedStoreModel" "fixed" "I" : Cond) ∈ ts_all := ts_in (List.mem_append_right _ (List.mem_of_getElem? (i := 335) (by decide +kernel))) (by decide +kernel)
theorem tw_336 : (.fieldLink "TailedStoreModel" 75 "TailedStoreModel" "tail" "I" : Cond) ∈ ts_all := ts_in (List.mem_append_right _ (List.mem_of_getElem? (i := 336) (by decide +kernel))) (by decide +kernel)
theorem tw_337 : (.fieldLink "TailedStoreModel" 78 "TailedStoreModel" "power" "I" : Cond) ∈ ts_all := ts_in (List.mem_append_right _ (List.mem_of_getElem? (i := 337) (by decide +kernel))) (by decide +kernel)
theorem tw_338 : (.fieldLink "TailedStoreModel" 81 "TailedStoreModel" "split" "I" : Cond) ∈ ts_all := ts_in (List.mem_append_right _ (List.mem_of_getElem? (i := 338) (by decide +kernel))) (by decide +kernel)
theorem tw_339 : (.fieldLink "TailedStoreModel" 26 "TailedStoreModel" "buckets" "[I" : Cond) ∈ ts_all := ts_in (List.mem_append_right _ (List.mem_of_getElem? (i := 339) (by decide +kernel))) (by decide +kernel)
theorem tw_340 : (.fieldLink "TailedStoreModel" 84 "TailedStoreModel" "version" "I" : Cond) ∈ ts_all := ts_in (List.mem_append_right _ (List.mem_of_getElem? (i := 340) (by decide +kernel))) (by decide +kernel)
theorem tw_341 : (.fieldLink "TailedStoreModel" 97 "TailedStoreModel" "fuse" "I" : Cond) ∈ ts_all := ts_in (List.mem_append_right _ (List.mem_of_getElem? (i := 341) (by decide +kernel))) (by decide +kernel)
theorem tw_342 : (.fieldLink "TailedStoreModel" 100 "TailedStoreModel" "down" "Z" : Cond) ∈ ts_all := ts_in (List.mem_append_right _ (List.mem_of_getElem? (i := 342) (by decide +kernel))) (by decide +kernel)
theorem tw_343 : (.fieldLink "TailedStoreModel" 94 "TailedStoreModel" "written" "I" : Cond) ∈ ts_all := ts_in (List.mem_append_right _ (List.mem_of_getElem? (i := 343) (by decide +kernel))) (by decide +kernel)
theorem tw_344 : (.fieldLink "TailedStoreModel" 91 "TailedStoreModel" "reads" "I" : Cond) ∈ ts_all := ts_in (List.mem_append_right _ (List.mem_of_getElem? (i := 344) (by decide +kernel))) (by decide +kernel)
theorem tw_345 : (.fieldLink "TailedStoreModel" 133 "TailedStoreModel" "found" "I" : Cond) ∈ ts_all := ts_in (List.mem_append_right _ (List.mem_of_getElem? (i := 345) (by decide +kernel))) (by decide +kernel)
theorem tw_346 : (.fieldLink "TailedStoreModel" 136 "TailedStoreModel" "stage" "I" : Cond) ∈ ts_all := ts_in (List.mem_append_right _ (List.mem_of_getElem? (i := 346) (by decide +kernel))) (by decide +kernel)
theorem tw_347 : (.fieldLink "TailedStoreModel" 139 "TailedStoreModel" "imaged" "I" : Cond) ∈ ts_all := ts_in (List.mem_append_right _ (List.mem_of_getElem? (i := 347) (by decide +kernel))) (by decide +kernel)
theorem tw_348 : (.fieldLink "TailedStoreModel" 142 "TailedStoreModel" "ended" "Z" : Cond) ∈ ts_all := ts_in (List.mem_append_right _ (List.mem_of_getElem? (i := 348) (by decide +kernel))) (by decide +kernel)
theorem tw_349 : (.fieldLink "TailedStoreModel" 57 "TailedStoreModel" "settled" "I" : Cond) ∈ ts_all := ts_in (List.mem_append_right _ (List.mem_of_getElem? (i := 349) (by decide +kernel))) (by decide +kernel)
theorem tw_350 : (.fieldLink "TailedStoreModel" 29 "TailedStoreModel" "savedVersion" "[I" : Cond) ∈ ts_all := ts_in (List.mem_append_right _ (List.mem_of_getElem? (i := 350) (by decide +kernel))) (by decide +kernel)
theorem tw_351 : (.fieldLink "TailedStoreModel" 32 "TailedStoreModel" "oldBegin" "[I" : Cond) ∈ ts_all := ts_in (List.mem_append_right _ (List.mem_of_getElem? (i := 351) (by decide +kernel))) (by decide +kernel)
theorem tw_352 : (.fieldLink "TailedStoreModel" 35 "TailedStoreModel" "cut" "[I" : Cond) ∈ ts_all := ts_in (List.mem_append_right _ (List.mem_of_getElem? (i := 352) (by decide +kernel))) (by decide +kernel)
theorem tw_353 : (.fieldLink "TailedStoreModel" 38 "TailedStoreModel" "savedEnd" "[I" : Cond) ∈ ts_all := ts_in (List.mem_append_right _ (List.mem_of_getElem? (i := 353) (by decide +kernel))) (by decide +kernel)
theorem tw_354 : (.fieldLink "TailedStoreModel" 41 "TailedStoreModel" "savedPower" "[I" : Cond) ∈ ts_all := ts_in (List.mem_append_right _ (List.mem_of_getElem? (i := 354) (by decide +kernel))) (by decide +kernel)
theorem tw_355 : (.fieldLink "TailedStoreModel" 44 "TailedStoreModel" "savedSplit" "[I" : Cond) ∈ ts_all := ts_in (List.mem_append_right _ (List.mem_of_getElem? (i := 355) (by decide +kernel))) (by decide +kernel)
theorem tw_356 : (.fieldLink "TailedStoreModel" 47 "TailedStoreModel" "images" "[I" : Cond) ∈ ts_all := ts_in (List.mem_append_right _ (List.mem_of_getElem? (i := 356) (by decide +kernel))) (by decide +kernel)
theorem tw_39 : (.classLink "TailedStore" 16 "TailedStore$Index" : Cond) ∈ ts_all := ts_in (List.mem_append_right _ (List.mem_of_getElem? (i := 39) (by decide +kernel))) (by decide +kernel)
theorem tw_4 : (.initialized "java/util/Arrays" : Cond) ∈ ts_all := ts_in (List.mem_append_right _ (List.mem_of_getElem? (i := 4) (by decide +kernel))) (by decide +kernel)
theorem tw_40 : (.instantiable "TailedStore$Index" 3 : Cond) ∈ ts_all := ts_in (List.mem_append_right _ (List.mem_of_getElem? (i := 40) (by decide +kernel))) (by decide +kernel)
theorem tw_41 : (.methodLink "TailedStore" 18 ⟨"TailedStore$Index", "<init>", "()V"⟩ : Cond) ∈ ts_all := ts_in (List.mem_append_right _ (List.mem_of_getElem? (i := 41) (by decide +kernel))) (by decide +kernel)
theorem tw_42 : (.instanceMethod ⟨"TailedStore$Index", "<init>", "()V"⟩ : Cond) ∈ ts_all := ts_in (List.mem_append_right _ (List.mem_of_getElem? (i := 42) (by decide +kernel))) (by decide +kernel)
theorem tw_422 : (.methodLink "TailedStoreLaw" 25 ⟨"TailedStoreModel", "put", "(II)I"⟩ : Cond) ∈ ts_all := ts_in (List.mem_append_right _ (List.mem_of_getElem? (i := 422) (by decide +kernel))) (by decide +kernel)
theorem tw_423 : (.instanceMethod ⟨"TailedStoreModel", "put", "(II)I"⟩ : Cond) ∈ ts_all := ts_in (List.mem_append_right _ (List.mem_of_getElem? (i := 423) (by decide +kernel))) (by decide +kernel)
theorem tw_424 : (.selects "TailedStoreModel" ⟨"TailedStoreModel", "put", "(II)I"⟩ ⟨"TailedStoreModel", "put", "(II)I"⟩ : Cond) ∈ ts_all := ts_in (List.mem_append_right _ (List.mem_of_getElem? (i := 424) (by decide +kernel))) (by decide +kernel)
theorem tw_425 : (.code ⟨"TailedStoreModel", "put", "(II)I"⟩ prog_7_method_13_code 4 (some .int) : Cond) ∈ ts_all := ts_in (List.mem_append_right _ (List.mem_of_getElem? (i := 425) (by decide +kernel))) (by decide +kernel)
theorem tw_426 : (.methodLink "TailedStoreModel" 122 ⟨"TailedStoreModel", "isKey", "(I)Z"⟩ : Cond) ∈ ts_all := ts_in (List.mem_append_right _ (List.mem_of_getElem? (i := 426) (by decide +kernel))) (by decide +kernel)
theorem tw_427 : (.static ⟨"TailedStoreModel", "isKey", "(I)Z"⟩ : Cond) ∈ ts_all := ts_in (List.mem_append_right _ (List.mem_of_getElem? (i := 427) (by decide +kernel))) (by decide +kernel)
theorem tw_428 : (.code ⟨"TailedStoreModel", "isKey", "(I)Z"⟩ prog_7_method_3_code 1 (some .boolean) : Cond) ∈ ts_all := ts_in (List.mem_append_right _ (List.mem_of_getElem? (i := 428) (by decide +kernel))) (by decide +kernel)
theorem tw_429 : (.methodLink "TailedStoreModel" 125 ⟨"TailedStoreModel", "find", "(IZ)I"⟩ : Cond) ∈ ts_all := ts_in (List.mem_append_right _ (List.mem_of_getElem? (i := 429) (by decide +kernel))) (by decide +kernel)
theorem tw_43 : (.code ⟨"TailedStore$Index", "<init>", "()V"⟩ prog_2_method_1_code 1 none : Cond) ∈ ts_all := ts_in (List.mem_append_right _ (List.mem_of_getElem? (i := 43) (by decide +kernel))) (by decide +kernel)
theorem tw_431 : (.instanceMethod ⟨"TailedStoreModel", "find", "(IZ)I"⟩ : Cond) ∈ ts_all := ts_in (List.mem_append_right _ (List.mem_of_getElem? (i := 431) (by decide +kernel))) (by decide +kernel)
theorem tw_432 : (.code ⟨"TailedStoreModel", "find", "(IZ)I"⟩ prog_7_method_6_code 4 (some .int) : Cond) ∈ ts_all := ts_in (List.mem_append_right _ (List.mem_of_getElem? (i := 432) (by decide +kernel))) (by decide +kernel)
theorem tw_433 : (.methodLink "TailedStoreModel" 87 ⟨"TailedStoreModel", "bucketOf", "(I)I"⟩ : Cond) ∈ ts_all := ts_in (List.mem_append_right _ (List.mem_of_getElem? (i := 433) (by decide +kernel))) (by decide +kernel)
theorem tw_435 : (.instanceMethod ⟨"TailedStoreModel", "bucketOf", "(I)I"⟩ : Cond) ∈ ts_all := ts_in (List.mem_append_right _ (List.mem_of_getElem? (i := 435) (by decide +kernel))) (by decide +kernel)
theorem tw_436 : (.code ⟨"TailedStoreModel", "bucketOf", "(I)I"⟩ prog_7_method_4_code 4 (some .int) : Cond) ∈ ts_all := ts_in (List.mem_append_right _ (List.mem_of_getElem? (i := 436) (by decide +kernel))) (by decide +kernel)
theorem tw_437 : (.methodLink "TailedStoreModel" 129 ⟨"TailedStoreModel", "set", "(IIIZ)I"⟩ : Cond) ∈ ts_all := ts_in (List.mem_append_right _ (List.mem_of_getElem? (i := 437) (by decide +kernel))) (by decide +kernel)
theorem tw_439 : (.instanceMethod ⟨"TailedStoreModel", "set", "(IIIZ)I"⟩ : Cond) ∈ ts_all := ts_in (List.mem_append_right _ (List.mem_of_getElem? (i := 439) (by decide +kernel))) (by decide +kernel)
theorem tw_44 : (.methodLink "TailedStore$Index" 3 ⟨"java/lang/Object", "<init>", "()V"⟩ : Cond) ∈ ts_all := ts_in (List.mem_append_right _ (List.mem_of_getElem? (i := 44) (by decide +kernel))) (by decide +kernel)
theorem tw_440 : (.code ⟨"TailedStoreModel", "set", "(IIIZ)I"⟩ prog_7_method_12_code 5 (some .int) : Cond) ∈ ts_all := ts_in (List.mem_append_right _ (List.mem_of_getElem? (i := 440) (by decide +kernel))) (by decide +kernel)
theorem tw_441 : (.methodLink "TailedStoreModel" 118 ⟨"TailedStoreModel", "append", "(IIZ)Z"⟩ : Cond) ∈ ts_all := ts_in (List.mem_append_right _ (List.mem_of_getElem? (i := 441) (by decide +kernel))) (by decide +kernel)
theorem tw_443 : (.instanceMethod ⟨"TailedStoreModel", "append", "(IIZ)Z"⟩ : Cond) ∈ ts_all := ts_in (List.mem_append_right _ (List.mem_of_getElem? (i := 443) (by decide +kernel))) (by decide +kernel)
theorem tw_444 : (.code ⟨"TailedStoreModel", "append", "(IIZ)Z"⟩ prog_7_method_11_code 5 (some .boolean) : Cond) ∈ ts_all := ts_in (List.mem_append_right _ (List.mem_of_getElem? (i := 444) (by decide +kernel))) (by decide +kernel)
theorem tw_445 : (.methodLink "TailedStoreModel" 115 ⟨"TailedStoreModel", "room", "()Z"⟩ : Cond) ∈ ts_all := ts_in (List.mem_append_right _ (List.mem_of_getElem? (i := 445) (by decide +kernel))) (by decide +kernel)
theorem tw_447 : (.instanceMethod ⟨"TailedStoreModel", "room", "()Z"⟩ : Cond) ∈ ts_all := ts_in (List.mem_append_right _ (List.mem_of_getElem? (i := 447) (by decide +kernel))) (by decide +kernel)
theorem tw_448 : (.code ⟨"TailedStoreModel", "room", "()Z"⟩ prog_7_method_10_code 3 (some .boolean) : Cond) ∈ ts_all := ts_in (List.mem_append_right _ (List.mem_of_getElem? (i := 448) (by decide +kernel))) (by decide +kernel)
theorem tw_449 : (.methodLink "TailedStoreModel" 104 ⟨"TailedStoreModel", "pageEnd", "(I)I"⟩ : Cond) ∈ ts_all := ts_in (List.mem_append_right _ (List.mem_of_getElem? (i := 449) (by decide +kernel))) (by decide +kernel)
theorem tw_45 : (.methodLink "TailedStore$Index" 19 ⟨"java/util/Arrays", "fill", "([II)V"⟩ : Cond) ∈ ts_all := ts_in (List.mem_append_right _ (List.mem_of_getElem? (i := 45) (by decide +kernel))) (by decide +kernel)
theorem tw_450 : (.static ⟨"TailedStoreModel", "pageEnd", "(I)I"⟩ : Cond) ∈ ts_all := ts_in (List.mem_append_right _ (List.mem_of_getElem? (i := 450) (by decide +kernel))) (by decide +kernel)
theorem tw_451 : (.code ⟨"TailedStoreModel", "pageEnd", "(I)I"⟩ prog_7_method_8_code 1 (some .int) : Cond) ∈ ts_all := ts_in (List.mem_append_right _ (List.mem_of_getElem? (i := 451) (by decide +kernel))) (by decide +kernel)
theorem tw_452 : (.methodLink "TailedStoreModel" 111 ⟨"TailedStoreModel", "flush", "(I)Z"⟩ : Cond) ∈ ts_all := ts_in (List.mem_append_right _ (List.mem_of_getElem? (i := 452) (by decide +kernel))) (by decide +kernel)
theorem tw_454 : (.instanceMethod ⟨"TailedStoreModel", "flush", "(I)Z"⟩ : Cond) ∈ ts_all := ts_in (List.mem_append_right _ (List.mem_of_getElem? (i := 454) (by decide +kernel))) (by decide +kernel)
theorem tw_455 : (.code ⟨"TailedStoreModel", "flush", "(I)Z"⟩ prog_7_method_9_code 2 (some .boolean) : Cond) ∈ ts_all := ts_in (List.mem_append_right _ (List.mem_of_getElem? (i := 455) (by decide +kernel))) (by decide +kernel)
theorem tw_456 : (.methodLink "TailedStoreModel" 107 ⟨"TailedStoreModel", "block", "()Z"⟩ : Cond) ∈ ts_all := ts_in (List.mem_append_right _ (List.mem_of_getElem? (i := 456) (by decide +kernel))) (by decide +kernel)
theorem tw_458 : (.instanceMethod ⟨"TailedStoreModel", "block", "()Z"⟩ : Cond) ∈ ts_all := ts_in (List.mem_append_right _ (List.mem_of_getElem? (i := 458) (by decide +kernel))) (by decide +kernel)
theorem tw_459 : (.code ⟨"TailedStoreModel", "block", "()Z"⟩ prog_7_method_7_code 2 (some .boolean) : Cond) ∈ ts_all := ts_in (List.mem_append_right _ (List.mem_of_getElem? (i := 459) (by decide +kernel))) (by decide +kernel)
theorem tw_46 : (.static ⟨"java/util/Arrays", "fill", "([II)V"⟩ : Cond) ∈ ts_all := ts_in (List.mem_append_right _ (List.mem_of_getElem? (i := 46) (by decide +kernel))) (by decide +kernel)
theorem tw_460 : (.methodLink "TailedStoreLaw" 29 ⟨"TailedStoreModel", "add", "(II)I"⟩ : Cond) ∈ ts_all := ts_in (List.mem_append_right _ (List.mem_of_getElem? (i := 460) (by decide +kernel))) (by decide +kernel)
theorem tw_461 : (.instanceMethod ⟨"TailedStoreModel", "add", "(II)I"⟩ : Cond) ∈ ts_all := ts_in (List.mem_append_right _ (List.mem_of_getElem? (i := 461) (by decide +kernel))) (by decide +kernel)
theorem tw_462 : (.selects "TailedStoreModel" ⟨"TailedStoreModel", "add", "(II)I"⟩ ⟨"TailedStoreModel", "add", "(II)I"⟩ : Cond) ∈ ts_all := ts_in (List.mem_append_right _ (List.mem_of_getElem? (i := 462) (by decide +kernel))) (by decide +kernel)
theorem tw_463 : (.code ⟨"TailedStoreModel", "add", "(II)I"⟩ prog_7_method_14_code 5 (some .int) : Cond) ∈ ts_all := ts_in (List.mem_append_right _ (List.mem_of_getElem? (i := 463) (by decide +kernel))) (by decide +kernel)
theorem tw_464 : (.methodLink "TailedStoreLaw" 34 ⟨"TailedStoreModel", "delete", "(I)I"⟩ : Cond) ∈ ts_all := ts_in (List.mem_append_right _ (List.mem_of_getElem? (i := 464) (by decide +kernel))) (by decide +kernel)
theorem tw_465 : (.instanceMethod ⟨"TailedStoreModel", "delete", "(I)I"⟩ : Cond) ∈ ts_all := ts_in (List.mem_append_right _ (List.mem_of_getElem? (i := 465) (by decide +kernel))) (by decide +kernel)
theorem tw_466 : (.selects "TailedStoreModel" ⟨"TailedStoreModel", "delete", "(I)I"⟩ ⟨"TailedStoreModel", "delete", "(I)I"⟩ : Cond) ∈ ts_all := ts_in (List.mem_append_right _ (List.mem_of_getElem? (i := 466) (by decide +kernel))) (by decide +kernel)
theorem tw_467 : (.code ⟨"TailedStoreModel", "delete", "(I)I"⟩ prog_7_method_15_code 3 (some .int) : Cond) ∈ ts_all := ts_in (List.mem_append_right _ (List.mem_of_getElem? (i := 467) (by decide +kernel))) (by decide +kernel)
theorem tw_468 : (.methodLink "TailedStoreLaw" 38 ⟨"TailedStoreModel", "read", "(I)I"⟩ : Cond) ∈ ts_all := ts_in (List.mem_append_right _ (List.mem_of_getElem? (i := 468) (by decide +kernel))) (by decide +kernel)
theorem tw_469 : (.instanceMethod ⟨"TailedStoreModel", "read", "(I)I"⟩ : Cond) ∈ ts_all := ts_in (List.mem_append_right _ (List.mem_of_getElem? (i := 469) (by decide +kernel))) (by decide +kernel)
theorem tw_47 : (.code ⟨"java/util/Arrays", "fill", "([II)V"⟩ prog_9_method_103_code 4 none : Cond) ∈ ts_all := ts_in (List.mem_append_right _ (List.mem_of_getElem? (i := 47) (by decide +kernel))) (by decide +kernel)
theorem tw_470 : (.selects "TailedStoreModel" ⟨"TailedStoreModel", "read", "(I)I"⟩ ⟨"TailedStoreModel", "read", "(I)I"⟩ : Cond) ∈ ts_all := ts_in (List.mem_append_right _ (List.mem_of_getElem? (i := 470) (by decide +kernel))) (by decide +kernel)
theorem tw_471 : (.code ⟨"TailedStoreModel", "read", "(I)I"⟩ prog_7_method_16_code 3 (some .int) : Cond) ∈ ts_all := ts_in (List.mem_append_right _ (List.mem_of_getElem? (i := 471) (by decide +kernel))) (by decide +kernel)
theorem tw_472 : (.methodLink "TailedStoreLaw" 43 ⟨"TailedStoreModel", "value", "()I"⟩ : Cond) ∈ ts_all := ts_in (List.mem_append_right _ (List.mem_of_getElem? (i := 472) (by decide +kernel))) (by decide +kernel)
theorem tw_473 : (.instanceMethod ⟨"TailedStoreModel", "value", "()I"⟩ : Cond) ∈ ts_all := ts_in (List.mem_append_right _ (List.mem_of_getElem? (i := 473) (by decide +kernel))) (by decide +kernel)
theorem tw_474 : (.selects "TailedStoreModel" ⟨"TailedStoreModel", "value", "()I"⟩ ⟨"TailedStoreModel", "value", "()I"⟩ : Cond) ∈ ts_all := ts_in (List.mem_append_right _ (List.mem_of_getElem? (i := 474) (by decide +kernel))) (by decide +kernel)
theorem tw_475 : (.code ⟨"TailedStoreModel", "value", "()I"⟩ prog_7_method_17_code 1 (some .int) : Cond) ∈ ts_all := ts_in (List.mem_append_right _ (List.mem_of_getElem? (i := 475) (by decide +kernel))) (by decide +kernel)
theorem tw_476 : (.methodLink "TailedStoreLaw" 47 ⟨"TailedStoreModel", "checkpoint", "()I"⟩ : Cond) ∈ ts_all := ts_in (List.mem_append_right _ (List.mem_of_getElem? (i := 476) (by decide +kernel))) (by decide +kernel)
theorem tw_477 : (.instanceMethod ⟨"TailedStoreModel", "checkpoint", "()I"⟩ : Cond) ∈ ts_all := ts_in (List.mem_append_right _ (List.mem_of_getElem? (i := 477) (by decide +kernel))) (by decide +kernel)
theorem tw_478 : (.selects "TailedStoreModel" ⟨"TailedStoreModel", "checkpoint", "()I"⟩ ⟨"TailedStoreModel", "checkpoint", "()I"⟩ : Cond) ∈ ts_all := ts_in (List.mem_append_right _ (List.mem_of_getElem? (i := 478) (by decide +kernel))) (by decide +kernel)
theorem tw_479 : (.code ⟨"TailedStoreModel", "checkpoint", "()I"⟩ prog_7_method_18_code 2 (some .int) : Cond) ∈ ts_all := ts_in (List.mem_append_right _ (List.mem_of_getElem? (i := 479) (by decide +kernel))) (by decide +kernel)
theorem tw_48 : (.fieldLink "TailedStore$Index" 9 "TailedStore$Index" "level" "I" : Cond) ∈ ts_all := ts_in (List.mem_append_right _ (List.mem_of_getElem? (i := 48) (by decide +kernel))) (by decide +kernel)
theorem tw_480 : (.methodLink "TailedStoreLaw" 51 ⟨"TailedStoreModel", "step", "()I"⟩ : Cond) ∈ ts_all := ts_in (List.mem_append_right _ (List.mem_of_getElem? (i := 480) (by decide +kernel))) (by decide +kernel)
theorem tw_481 : (.instanceMethod ⟨"TailedStoreModel", "step", "()I"⟩ : Cond) ∈ ts_all := ts_in (List.mem_append_right _ (List.mem_of_getElem? (i := 481) (by decide +kernel))) (by decide +kernel)
theorem tw_482 : (.selects "TailedStoreModel" ⟨"TailedStoreModel", "step", "()I"⟩ ⟨"TailedStoreModel", "step", "()I"⟩ : Cond) ∈ ts_all := ts_in (List.mem_append_right _ (List.mem_of_getElem? (i := 482) (by decide +kernel))) (by decide +kernel)
theorem tw_483 : (.code ⟨"TailedStoreModel", "step", "()I"⟩ prog_7_method_22_code 1 (some .int) : Cond) ∈ ts_all := ts_in (List.mem_append_right _ (List.mem_of_getElem? (i := 483) (by decide +kernel))) (by decide +kernel)
theorem tw_484 : (.methodLink "TailedStoreModel" 152 ⟨"TailedStoreModel", "image", "()I"⟩ : Cond) ∈ ts_all := ts_in (List.mem_append_right _ (List.mem_of_getElem? (i := 484) (by decide +kernel))) (by decide +kernel)
theorem tw_486 : (.instanceMethod ⟨"TailedStoreModel", "image", "()I"⟩ : Cond) ∈ ts_all := ts_in (List.mem_append_right _ (List.mem_of_getElem? (i := 486) (by decide +kernel))) (by decide +kernel)
theorem tw_487 : (.code ⟨"TailedStoreModel", "image", "()I"⟩ prog_7_method_20_code 3 (some .int) : Cond) ∈ ts_all := ts_in (List.mem_append_right _ (List.mem_of_getElem? (i := 487) (by decide +kernel))) (by decide +kernel)
theorem tw_488 : (.methodLink "TailedStoreModel" 145 ⟨"TailedStoreModel", "bucketCount", "()I"⟩ : Cond) ∈ ts_all := ts_in (List.mem_append_right _ (List.mem_of_getElem? (i := 488) (by decide +kernel))) (by decide +kernel)
theorem tw_49 : (.fieldLink "TailedStore" 108 "TailedStore$Index" "level" "I" : Cond) ∈ ts_all := ts_in (List.mem_append_right _ (List.mem_of_getElem? (i := 49) (by decide +kernel))) (by decide +kernel)
theorem tw_490 : (.instanceMethod ⟨"TailedStoreModel", "bucketCount", "()I"⟩ : Cond) ∈ ts_all := ts_in (List.mem_append_right _ (List.mem_of_getElem? (i := 490) (by decide +kernel))) (by decide +kernel)
theorem tw_491 : (.code ⟨"TailedStoreModel", "bucketCount", "()I"⟩ prog_7_method_5_code 1 (some .int) : Cond) ∈ ts_all := ts_in (List.mem_append_right _ (List.mem_of_getElem? (i := 491) (by decide +kernel))) (by decide +kernel)
theorem tw_492 : (.methodLink "TailedStoreModel" 149 ⟨"TailedStoreModel", "writing", "()I"⟩ : Cond) ∈ ts_all := ts_in (List.mem_append_right _ (List.mem_of_getElem? (i := 492) (by decide +kernel))) (by decide +kernel)
theorem tw_494 : (.instanceMethod ⟨"TailedStoreModel", "writing", "()I"⟩ : Cond) ∈ ts_all := ts_in (List.mem_append_right _ (List.mem_of_getElem? (i := 494) (by decide +kernel))) (by decide +kernel)
theorem tw_495 : (.code ⟨"TailedStoreModel", "writing", "()I"⟩ prog_7_method_19_code 1 (some .int) : Cond) ∈ ts_all := ts_in (List.mem_append_right _ (List.mem_of_getElem? (i := 495) (by decide +kernel))) (by decide +kernel)
theorem tw_496 : (.methodLink "TailedStoreModel" 155 ⟨"TailedStoreModel", "flushing", "()I"⟩ : Cond) ∈ ts_all := ts_in (List.mem_append_right _ (List.mem_of_getElem? (i := 496) (by decide +kernel))) (by decide +kernel)
theorem tw_498 : (.instanceMethod ⟨"TailedStoreModel", "flushing", "()I"⟩ : Cond) ∈ ts_all := ts_in (List.mem_append_right _ (List.mem_of_getElem? (i := 498) (by decide +kernel))) (by decide +kernel)
theorem tw_499 : (.code ⟨"TailedStoreModel", "flushing", "()I"⟩ prog_7_method_21_code 4 (some .int) : Cond) ∈ ts_all := ts_in (List.mem_append_right _ (List.mem_of_getElem? (i := 499) (by decide +kernel))) (by decide +kernel)
theorem tw_5 : (.initialized "TailedStore$Records" : Cond) ∈ ts_all := ts_in (List.mem_append_right _ (List.mem_of_getElem? (i := 5) (by decide +kernel))) (by decide +kernel)
theorem tw_50 : (.fieldLink "TailedStore$Index" 25 "TailedStore$Index" "split" "I" : Cond) ∈ ts_all := ts_in (List.mem_append_right _ (List.mem_of_getElem? (i := 50) (by decide +kernel))) (by decide +kernel)
theorem tw_500 : (.methodLink "TailedStoreLaw" 55 ⟨"TailedStoreModel", "grow", "()I"⟩ : Cond) ∈ ts_all := ts_in (List.mem_append_right _ (List.mem_of_getElem? (i := 500) (by decide +kernel))) (by decide +kernel)
theorem tw_501 : (.instanceMethod ⟨"TailedStoreModel", "grow", "()I"⟩ : Cond) ∈ ts_all := ts_in (List.mem_append_right _ (List.mem_of_getElem? (i := 501) (by decide +kernel))) (by decide +kernel)
theorem tw_502 : (.selects "TailedStoreModel" ⟨"TailedStoreModel", "grow", "()I"⟩ ⟨"TailedStoreModel", "grow", "()I"⟩ : Cond) ∈ ts_all := ts_in (List.mem_append_right _ (List.mem_of_getElem? (i := 502) (by decide +kernel))) (by decide +kernel)
theorem tw_503 : (.code ⟨"TailedStoreModel", "grow", "()I"⟩ prog_7_method_23_code 1 (some .int) : Cond) ∈ ts_all := ts_in (List.mem_append_right _ (List.mem_of_getElem? (i := 503) (by decide +kernel))) (by decide +kernel)
theorem tw_504 : (.methodLink "TailedStoreLaw" 59 ⟨"TailedStoreModel", "compact", "()I"⟩ : Cond) ∈ ts_all := ts_in (List.mem_append_right _ (List.mem_of_getElem? (i := 504) (by decide +kernel))) (by decide +kernel)
theorem tw_505 : (.instanceMethod ⟨"TailedStoreModel", "compact", "()I"⟩ : Cond) ∈ ts_all := ts_in (List.mem_append_right _ (List.mem_of_getElem? (i := 505) (by decide +kernel))) (by decide +kernel)
theorem tw_506 : (.selects "TailedStoreModel" ⟨"TailedStoreModel", "compact", "()I"⟩ ⟨"TailedStoreModel", "compact", "()I"⟩ : Cond) ∈ ts_all := ts_in (List.mem_append_right _ (List.mem_of_getElem? (i := 506) (by decide +kernel))) (by decide +kernel)
theorem tw_507 : (.code ⟨"TailedStoreModel", "compact", "()I"⟩ prog_7_method_24_code 4 (some .int) : Cond) ∈ ts_all := ts_in (List.mem_append_right _ (List.mem_of_getElem? (i := 507) (by decide +kernel))) (by decide +kernel)
theorem tw_508 : (.methodLink "TailedStoreLaw" 64 ⟨"TailedStoreModel", "fuse", "(I)Z"⟩ : Cond) ∈ ts_all := ts_in (List.mem_append_right _ (List.mem_of_getElem? (i := 508) (by decide +kernel))) (by decide +kernel)
theorem tw_509 : (.instanceMethod ⟨"TailedStoreModel", "fuse", "(I)Z"⟩ : Cond) ∈ ts_all := ts_in (List.mem_append_right _ (List.mem_of_getElem? (i := 509) (by decide +kernel))) (by decide +kernel)
theorem tw_51 : (.fieldLink "TailedStore" 111 "TailedStore$Index" "split" "I" : Cond) ∈ ts_all := ts_in (List.mem_append_right _ (List.mem_of_getElem? (i := 51) (by decide +kernel))) (by decide +kernel)
theorem tw_510 : (.selects "TailedStoreModel" ⟨"TailedStoreModel", "fuse", "(I)Z"⟩ ⟨"TailedStoreModel", "fuse", "(I)Z"⟩ : Cond) ∈ ts_all := ts_in (List.mem_append_right _ (List.mem_of_getElem? (i := 510) (by decide +kernel))) (by decide +kernel)
theorem tw_511 : (.code ⟨"TailedStoreModel", "fuse", "(I)Z"⟩ prog_7_method_25_code 2 (some .boolean) : Cond) ∈ ts_all := ts_in (List.mem_append_right _ (List.mem_of_getElem? (i := 511) (by decide +kernel))) (by decide +kernel)
theorem tw_512 : (.methodLink "TailedStoreLaw" 68 ⟨"TailedStoreModel", "recover", "()I"⟩ : Cond) ∈ ts_all := ts_in (List.mem_append_right _ (List.mem_of_getElem? (i := 512) (by decide +kernel))) (by decide +kernel)
theorem tw_513 : (.instanceMethod ⟨"TailedStoreModel", "recover", "()I"⟩ : Cond) ∈ ts_all := ts_in (List.mem_append_right _ (List.mem_of_getElem? (i := 513) (by decide +kernel))) (by decide +kernel)
theorem tw_514 : (.selects "TailedStoreModel" ⟨"TailedStoreModel", "recover", "()I"⟩ ⟨"TailedStoreModel", "recover", "()I"⟩ : Cond) ∈ ts_all := ts_in (List.mem_append_right _ (List.mem_of_getElem? (i := 514) (by decide +kernel))) (by decide +kernel)
theorem tw_515 : (.code ⟨"TailedStoreModel", "recover", "()I"⟩ prog_7_method_26_code 3 (some .int) : Cond) ∈ ts_all := ts_in (List.mem_append_right _ (List.mem_of_getElem? (i := 515) (by decide +kernel))) (by decide +kernel)
theorem tw_516 : (.methodLink "TailedStoreLaw" 72 ⟨"TailedStoreModel", "address", "(I)I"⟩ : Cond) ∈ ts_all := ts_in (List.mem_append_right _ (List.mem_of_getElem? (i := 516) (by decide +kernel))) (by decide +kernel)
theorem tw_517 : (.instanceMethod ⟨"TailedStoreModel", "address", "(I)I"⟩ : Cond) ∈ ts_all := ts_in (List.mem_append_right _ (List.mem_of_getElem? (i := 517) (by decide +kernel))) (by decide +kernel)
theorem tw_518 : (.selects "TailedStoreModel" ⟨"TailedStoreModel", "address", "(I)I"⟩ ⟨"TailedStoreModel", "address", "(I)I"⟩ : Cond) ∈ ts_all := ts_in (List.mem_append_right _ (List.mem_of_getElem? (i := 518) (by decide +kernel))) (by decide +kernel)
theorem tw_519 : (.code ⟨"TailedStoreModel", "address", "(I)I"⟩ prog_7_method_27_code 2 (some .int) : Cond) ∈ ts_all := ts_in (List.mem_append_right _ (List.mem_of_getElem? (i := 519) (by decide +kernel))) (by decide +kernel)
theorem tw_52 : (.fieldLink "TailedStore$Index" 15 "TailedStore$Index" "buckets" "[I" : Cond) ∈ ts_all := ts_in (List.mem_append_right _ (List.mem_of_getElem? (i := 52) (by decide +kernel))) (by decide +kernel)
theorem tw_520 : (.methodLink "TailedStoreLaw" 76 ⟨"TailedStoreModel", "entry", "(II)I"⟩ : Cond) ∈ ts_all := ts_in (List.mem_append_right _ (List.mem_of_getElem? (i := 520) (by decide +kernel))) (by decide +kernel)
theorem tw_521 : (.instanceMethod ⟨"TailedStoreModel", "entry", "(II)I"⟩ : Cond) ∈ ts_all := ts_in (List.mem_append_right _ (List.mem_of_getElem? (i := 521) (by decide +kernel))) (by decide +kernel)
theorem tw_522 : (.selects "TailedStoreModel" ⟨"TailedStoreModel", "entry", "(II)I"⟩ ⟨"TailedStoreModel", "entry", "(II)I"⟩ : Cond) ∈ ts_all := ts_in (List.mem_append_right _ (List.mem_of_getElem? (i := 522) (by decide +kernel))) (by decide +kernel)
theorem tw_523 : (.code ⟨"TailedStoreModel", "entry", "(II)I"⟩ prog_7_method_28_code 3 (some .int) : Cond) ∈ ts_all := ts_in (List.mem_append_right _ (List.mem_of_getElem? (i := 523) (by decide +kernel))) (by decide +kernel)
theorem tw_524 : (.methodLink "TailedStoreLaw" 80 ⟨"TailedStoreModel", "bucket", "(I)I"⟩ : Cond) ∈ ts_all := ts_in (List.mem_append_right _ (List.mem_of_getElem? (i := 524) (by decide +kernel))) (by decide +kernel)
theorem tw_525 : (.instanceMethod ⟨"TailedStoreModel", "bucket", "(I)I"⟩ : Cond) ∈ ts_all := ts_in (List.mem_append_right _ (List.mem_of_getElem? (i := 525) (by decide +kernel))) (by decide +kernel)
theorem tw_526 : (.selects "TailedStoreModel" ⟨"TailedStoreModel", "bucket", "(I)I"⟩ ⟨"TailedStoreModel", "bucket", "(I)I"⟩ : Cond) ∈ ts_all := ts_in (List.mem_append_right _ (List.mem_of_getElem? (i := 526) (by decide +kernel))) (by decide +kernel)
theorem tw_527 : (.code ⟨"TailedStoreModel", "bucket", "(I)I"⟩ prog_7_method_29_code 2 (some .int) : Cond) ∈ ts_all := ts_in (List.mem_append_right _ (List.mem_of_getElem? (i := 527) (by decide +kernel))) (by decide +kernel)
theorem tw_528 : (.methodLink "TailedStoreLaw" 84 ⟨"TailedStoreModel", "size", "(I)I"⟩ : Cond) ∈ ts_all := ts_in (List.mem_append_right _ (List.mem_of_getElem? (i := 528) (by decide +kernel))) (by decide +kernel)
theorem tw_529 : (.instanceMethod ⟨"TailedStoreModel", "size", "(I)I"⟩ : Cond) ∈ ts_all := ts_in (List.mem_append_right _ (List.mem_of_getElem? (i := 529) (by decide +kernel))) (by decide +kernel)
theorem tw_53 : (.fieldLink "TailedStore" 176 "TailedStore$Index" "buckets" "[I" : Cond) ∈ ts_all := ts_in (List.mem_append_right _ (List.mem_of_getElem? (i := 53) (by decide +kernel))) (by decide +kernel)
theorem tw_530 : (.selects "TailedStoreModel" ⟨"TailedStoreModel", "size", "(I)I"⟩ ⟨"TailedStoreModel", "size", "(I)I"⟩ : Cond) ∈ ts_all := ts_in (List.mem_append_right _ (List.mem_of_getElem? (i := 530) (by decide +kernel))) (by decide +kernel)
theorem tw_531 : (.code ⟨"TailedStoreModel", "size", "(I)I"⟩ prog_7_method_31_code 2 (some .int) : Cond) ∈ ts_all := ts_in (List.mem_append_right _ (List.mem_of_getElem? (i := 531) (by decide +kernel))) (by decide +kernel)
theorem tw_532 : (.methodLink "TailedStoreModel" 158 ⟨"TailedStoreModel", "living", "()I"⟩ : Cond) ∈ ts_all := ts_in (List.mem_append_right _ (List.mem_of_getElem? (i := 532) (by decide +kernel))) (by decide +kernel)
theorem tw_534 : (.instanceMethod ⟨"TailedStoreModel", "living", "()I"⟩ : Cond) ∈ ts_all := ts_in (List.mem_append_right _ (List.mem_of_getElem? (i := 534) (by decide +kernel))) (by decide +kernel)
theorem tw_535 : (.code ⟨"TailedStoreModel", "living", "()I"⟩ prog_7_method_30_code 4 (some .int) : Cond) ∈ ts_all := ts_in (List.mem_append_right _ (List.mem_of_getElem? (i := 535) (by decide +kernel))) (by decide +kernel)
theorem tw_6 : (.initialized "TailedStore$Saved" : Cond) ∈ ts_all := ts_in (List.mem_append_right _ (List.mem_of_getElem? (i := 6) (by decide +kernel))) (by decide +kernel)
theorem tw_61 : (.arrayClass .int : Cond) ∈ ts_all := ts_in (List.mem_append_right _ (List.mem_of_getElem? (i := 61) (by decide +kernel))) (by decide +kernel)
theorem tw_62 : (.classLink "TailedStore" 23 "TailedStore$Records" : Cond) ∈ ts_all := ts_in (List.mem_append_right _ (List.mem_of_getElem? (i := 62) (by decide +kernel))) (by decide +kernel)
theorem tw_63 : (.instantiable "TailedStore$Records" 5 : Cond) ∈ ts_all := ts_in (List.mem_append_right _ (List.mem_of_getElem? (i := 63) (by decide +kernel))) (by decide +kernel)
theorem tw_65 : (.instanceMethod ⟨"TailedStore$Records", "<init>", "()V"⟩ : Cond) ∈ ts_all := ts_in (List.mem_append_right _ (List.mem_of_getElem? (i := 65) (by decide +kernel))) (by decide +kernel)
theorem tw_66 : (.code ⟨"TailedStore$Records", "<init>", "()V"⟩ prog_4_method_1_code 1 none : Cond) ∈ ts_all := ts_in (List.mem_append_right _ (List.mem_of_getElem? (i := 66) (by decide +kernel))) (by decide +kernel)
theorem tw_67 : (.methodLink "TailedStore$Records" 3 ⟨"java/lang/Object", "<init>", "()V"⟩ : Cond) ∈ ts_all := ts_in (List.mem_append_right _ (List.mem_of_getElem? (i := 67) (by decide +kernel))) (by decide +kernel)
theorem tw_68 : (.fieldLink "TailedStore$Records" 9 "TailedStore$Records" "keys" "[I" : Cond) ∈ ts_all := ts_in (List.mem_append_right _ (List.mem_of_getElem? (i := 68) (by decide +kernel))) (by decide +kernel)
theorem tw_69 : (.fieldLink "TailedStore" 147 "TailedStore$Records" "keys" "[I" : Cond) ∈ ts_all := ts_in (List.mem_append_right _ (List.mem_of_getElem? (i := 69) (by decide +kernel))) (by decide +kernel)
theorem tw_7 : (.initialized "java/lang/Math" : Cond) ∈ ts_all := ts_in (List.mem_append_right _ (List.mem_of_getElem? (i := 7) (by decide +kernel))) (by decide +kernel)
theorem tw_70 : (.fieldLink "TailedStore$Records" 15 "TailedStore$Records" "values" "[I" : Cond) ∈ ts_all := ts_in (List.mem_append_right _ (List.mem_of_getElem? (i := 70) (by decide +kernel))) (by decide +kernel)
theorem tw_71 : (.fieldLink "TailedStore" 81 "TailedStore$Records" "values" "[I" : Cond) ∈ ts_all := ts_in (List.mem_append_right _ (List.mem_of_getElem? (i := 71) (by decide +kernel))) (by decide +kernel)
theorem tw_72 : (.fieldLink "TailedStore$Records" 18 "TailedStore$Records" "previous" "[I" : Cond) ∈ ts_all := ts_in (List.mem_append_right _ (List.mem_of_getElem? (i := 72) (by decide +kernel))) (by decide +kernel)
theorem tw_73 : (.fieldLink "TailedStore" 166 "TailedStore$Records" "previous" "[I" : Cond) ∈ ts_all := ts_in (List.mem_append_right _ (List.mem_of_getElem? (i := 73) (by decide +kernel))) (by decide +kernel)
theorem tw_74 : (.fieldLink "TailedStore$Records" 21 "TailedStore$Records" "versions" "[I" : Cond) ∈ ts_all := ts_in (List.mem_append_right _ (List.mem_of_getElem? (i := 74) (by decide +kernel))) (by decide +kernel)
theorem tw_75 : (.fieldLink "TailedStore" 169 "TailedStore$Records" "versions" "[I" : Cond) ∈ ts_all := ts_in (List.mem_append_right _ (List.mem_of_getElem? (i := 75) (by decide +kernel))) (by decide +kernel)
theorem tw_76 : (.fieldLink "TailedStore$Records" 24 "TailedStore$Records" "stones" "[Z" : Cond) ∈ ts_all := ts_in (List.mem_append_right _ (List.mem_of_getElem? (i := 76) (by decide +kernel))) (by decide +kernel)
theorem tw_77 : (.fieldLink "TailedStore" 172 "TailedStore$Records" "stones" "[Z" : Cond) ∈ ts_all := ts_in (List.mem_append_right _ (List.mem_of_getElem? (i := 77) (by decide +kernel))) (by decide +kernel)
theorem tw_8 : (.initialized "TailedStoreModel" : Cond) ∈ ts_all := ts_in (List.mem_append_right _ (List.mem_of_getElem? (i := 8) (by decide +kernel))) (by decide +kernel)
theorem tw_89 : (.arrayClass .boolean : Cond) ∈ ts_all := ts_in (List.mem_append_right _ (List.mem_of_getElem? (i := 89) (by decide +kernel))) (by decide +kernel)
theorem tw_9 : (.classLink "TailedStoreLaw" 7 "TailedStore" : Cond) ∈ ts_all := ts_in (List.mem_append_right _ (List.mem_of_getElem? (i := 9) (by decide +kernel))) (by decide +kernel)
theorem tw_90 : (.classLink "TailedStore" 34 "TailedStore$Saved" : Cond) ∈ ts_all := ts_in (List.mem_append_right _ (List.mem_of_getElem? (i := 90) (by decide +kernel))) (by decide +kernel)
theorem tw_91 : (.instantiable "TailedStore$Saved" 5 : Cond) ∈ ts_all := ts_in (List.mem_append_right _ (List.mem_of_getElem? (i := 91) (by decide +kernel))) (by decide +kernel)
theorem tw_93 : (.instanceMethod ⟨"TailedStore$Saved", "<init>", "()V"⟩ : Cond) ∈ ts_all := ts_in (List.mem_append_right _ (List.mem_of_getElem? (i := 93) (by decide +kernel))) (by decide +kernel)
theorem tw_94 : (.code ⟨"TailedStore$Saved", "<init>", "()V"⟩ prog_5_method_1_code 1 none : Cond) ∈ ts_all := ts_in (List.mem_append_right _ (List.mem_of_getElem? (i := 94) (by decide +kernel))) (by decide +kernel)
theorem tw_95 : (.methodLink "TailedStore$Saved" 1 ⟨"java/lang/Object", "<init>", "()V"⟩ : Cond) ∈ ts_all := ts_in (List.mem_append_right _ (List.mem_of_getElem? (i := 95) (by decide +kernel))) (by decide +kernel)
theorem tw_96 : (.classLink "TailedStore$Saved" 7 "TailedStore$Index" : Cond) ∈ ts_all := ts_in (List.mem_append_right _ (List.mem_of_getElem? (i := 96) (by decide +kernel))) (by decide +kernel)
theorem tw_97 : (.methodLink "TailedStore$Saved" 9 ⟨"TailedStore$Index", "<init>", "()V"⟩ : Cond) ∈ ts_all := ts_in (List.mem_append_right _ (List.mem_of_getElem? (i := 97) (by decide +kernel))) (by decide +kernel)
theorem tw_98 : (.fieldLink "TailedStore" 94 "TailedStore$Saved" "version" "I" : Cond) ∈ ts_all := ts_in (List.mem_append_right _ (List.mem_of_getElem? (i := 98) (by decide +kernel))) (by decide +kernel)
theorem tw_99 : (.fieldLink "TailedStore" 98 "TailedStore$Saved" "begin" "I" : Cond) ∈ ts_all := ts_in (List.mem_append_right _ (List.mem_of_getElem? (i := 99) (by decide +kernel))) (by decide +kernel)
theorem tws_0 : (.selects "TailedStore" ⟨"TailedStore", "find", "(IZ)I"⟩ ⟨"TailedStore", "find", "(IZ)I"⟩ : Cond) ∈ ts_all := ts_in (List.mem_append_left _ (List.mem_of_getElem? (i := 0) (by decide +kernel))) (by decide +kernel)
theorem tws_1 : (.selects "TailedStore" ⟨"TailedStore", "change", "(IIIZ)I"⟩ ⟨"TailedStore", "change", "(IIIZ)I"⟩ : Cond) ∈ ts_all := ts_in (List.mem_append_left _ (List.mem_of_getElem? (i := 1) (by decide +kernel))) (by decide +kernel)
theorem tws_10 : (.selects "TailedStore" ⟨"TailedStore", "isLatest", "(I)Z"⟩ ⟨"TailedStore", "isLatest", "(I)Z"⟩ : Cond) ∈ ts_all := ts_in (List.mem_append_left _ (List.mem_of_getElem? (i := 10) (by decide +kernel))) (by decide +kernel)
theorem tws_11 : (.selects "TailedStore" ⟨"TailedStore", "restoreIndex", "()V"⟩ ⟨"TailedStore", "restoreIndex", "()V"⟩ : Cond) ∈ ts_all := ts_in (List.mem_append_left _ (List.mem_of_getElem? (i := 11) (by decide +kernel))) (by decide +kernel)
theorem tws_12 : (.selects "TailedStore" ⟨"TailedStore", "lastBelowCut", "(I)I"⟩ ⟨"TailedStore", "lastBelowCut", "(I)I"⟩ : Cond) ∈ ts_all := ts_in (List.mem_append_left _ (List.mem_of_getElem? (i := 12) (by decide +kernel))) (by decide +kernel)
theorem tws_13 : (.selects "TailedStore" ⟨"TailedStore", "keysWithValue", "()I"⟩ ⟨"TailedStore", "keysWithValue", "()I"⟩ : Cond) ∈ ts_all := ts_in (List.mem_append_left _ (List.mem_of_getElem? (i := 13) (by decide +kernel))) (by decide +kernel)
theorem tws_14 : (.selects "TailedStoreModel" ⟨"TailedStoreModel", "empty", "()V"⟩ ⟨"TailedStoreModel", "empty", "()V"⟩ : Cond) ∈ ts_all := ts_in (List.mem_append_left _ (List.mem_of_getElem? (i := 14) (by decide +kernel))) (by decide +kernel)
theorem tws_15 : (.selects "TailedStoreModel" ⟨"TailedStoreModel", "find", "(IZ)I"⟩ ⟨"TailedStoreModel", "find", "(IZ)I"⟩ : Cond) ∈ ts_all := ts_in (List.mem_append_left _ (List.mem_of_getElem? (i := 15) (by decide +kernel))) (by decide +kernel)
theorem tws_16 : (.selects "TailedStoreModel" ⟨"TailedStoreModel", "bucketOf", "(I)I"⟩ ⟨"TailedStoreModel", "bucketOf", "(I)I"⟩ : Cond) ∈ ts_all := ts_in (List.mem_append_left _ (List.mem_of_getElem? (i := 16) (by decide +kernel))) (by decide +kernel)
theorem tws_17 : (.selects "TailedStoreModel" ⟨"TailedStoreModel", "set", "(IIIZ)I"⟩ ⟨"TailedStoreModel", "set", "(IIIZ)I"⟩ : Cond) ∈ ts_all := ts_in (List.mem_append_left _ (List.mem_of_getElem? (i := 17) (by decide +kernel))) (by decide +kernel)
theorem tws_18 : (.selects "TailedStoreModel" ⟨"TailedStoreModel", "append", "(IIZ)Z"⟩ ⟨"TailedStoreModel", "append", "(IIZ)Z"⟩ : Cond) ∈ ts_all := ts_in (List.mem_append_left _ (List.mem_of_getElem? (i := 18) (by decide +kernel))) (by decide +kernel)
theorem tws_19 : (.selects "TailedStoreModel" ⟨"TailedStoreModel", "room", "()Z"⟩ ⟨"TailedStoreModel", "room", "()Z"⟩ : Cond) ∈ ts_all := ts_in (List.mem_append_left _ (List.mem_of_getElem? (i := 19) (by decide +kernel))) (by decide +kernel)
theorem tws_2 : (.selects "TailedStore" ⟨"TailedStore", "append", "(IIZ)Z"⟩ ⟨"TailedStore", "append", "(IIZ)Z"⟩ : Cond) ∈ ts_all := ts_in (List.mem_append_left _ (List.mem_of_getElem? (i := 2) (by decide +kernel))) (by decide +kernel)
theorem tws_20 : (.selects "TailedStoreModel" ⟨"TailedStoreModel", "flush", "(I)Z"⟩ ⟨"TailedStoreModel", "flush", "(I)Z"⟩ : Cond) ∈ ts_all := ts_in (List.mem_append_left _ (List.mem_of_getElem? (i := 20) (by decide +kernel))) (by decide +kernel)
theorem tws_21 : (.selects "TailedStoreModel" ⟨"TailedStoreModel", "block", "()Z"⟩ ⟨"TailedStoreModel", "block", "()Z"⟩ : Cond) ∈ ts_all := ts_in (List.mem_append_left _ (List.mem_of_getElem? (i := 21) (by decide +kernel))) (by decide +kernel)
theorem tws_22 : (.selects "TailedStoreModel" ⟨"TailedStoreModel", "image", "()I"⟩ ⟨"TailedStoreModel", "image", "()I"⟩ : Cond) ∈ ts_all := ts_in (List.mem_append_left _ (List.mem_of_getElem? (i := 22) (by decide +kernel))) (by decide +kernel)
theorem tws_23 : (.selects "TailedStoreModel" ⟨"TailedStoreModel", "bucketCount", "()I"⟩ ⟨"TailedStoreModel", "bucketCount", "()I"⟩ : Cond) ∈ ts_all := ts_in (List.mem_append_left _ (List.mem_of_getElem? (i := 23) (by decide +kernel))) (by decide +kernel)
theorem tws_24 : (.selects "TailedStoreModel" ⟨"TailedStoreModel", "writing", "()I"⟩ ⟨"TailedStoreModel", "writing", "()I"⟩ : Cond) ∈ ts_all := ts_in (List.mem_append_left _ (List.mem_of_getElem? (i := 24) (by decide +kernel))) (by decide +kernel)
theorem tws_25 : (.selects "TailedStoreModel" ⟨"TailedStoreModel", "flushing", "()I"⟩ ⟨"TailedStoreModel", "flushing", "()I"⟩ : Cond) ∈ ts_all := ts_in (List.mem_append_left _ (List.mem_of_getElem? (i := 25) (by decide +kernel))) (by decide +kernel)
theorem tws_26 : (.selects "TailedStoreModel" ⟨"TailedStoreModel", "living", "()I"⟩ ⟨"TailedStoreModel", "living", "()I"⟩ : Cond) ∈ ts_all := ts_in (List.mem_append_left _ (List.mem_of_getElem? (i := 26) (by decide +kernel))) (by decide +kernel)
theorem tws_3 : (.selects "TailedStore" ⟨"TailedStore", "openPage", "()Z"⟩ ⟨"TailedStore", "openPage", "()Z"⟩ : Cond) ∈ ts_all := ts_in (List.mem_append_left _ (List.mem_of_getElem? (i := 3) (by decide +kernel))) (by decide +kernel)
theorem tws_4 : (.selects "TailedStore" ⟨"TailedStore", "flush", "(I)Z"⟩ ⟨"TailedStore", "flush", "(I)Z"⟩ : Cond) ∈ ts_all := ts_in (List.mem_append_left _ (List.mem_of_getElem? (i := 4) (by decide +kernel))) (by decide +kernel)
theorem tws_5 : (.selects "TailedStore" ⟨"TailedStore", "flushPage", "(I)Z"⟩ ⟨"TailedStore", "flushPage", "(I)Z"⟩ : Cond) ∈ ts_all := ts_in (List.mem_append_left _ (List.mem_of_getElem? (i := 5) (by decide +kernel))) (by decide +kernel)
theorem tws_6 : (.selects "TailedStore" ⟨"TailedStore", "hasValue", "(I)Z"⟩ ⟨"TailedStore", "hasValue", "(I)Z"⟩ : Cond) ∈ ts_all := ts_in (List.mem_append_left _ (List.mem_of_getElem? (i := 6) (by decide +kernel))) (by decide +kernel)
theorem tws_7 : (.selects "TailedStore" ⟨"TailedStore", "writeImageBlock", "()Z"⟩ ⟨"TailedStore", "writeImageBlock", "()Z"⟩ : Cond) ∈ ts_all := ts_in (List.mem_append_left _ (List.mem_of_getElem? (i := 7) (by decide +kernel))) (by decide +kernel)
theorem tws_8 : (.selects "TailedStore" ⟨"TailedStore", "flushTowardsEnd", "()Z"⟩ ⟨"TailedStore", "flushTowardsEnd", "()Z"⟩ : Cond) ∈ ts_all := ts_in (List.mem_append_left _ (List.mem_of_getElem? (i := 8) (by decide +kernel))) (by decide +kernel)
theorem tws_9 : (.selects "TailedStore" ⟨"TailedStore", "settle", "()Z"⟩ ⟨"TailedStore", "settle", "()Z"⟩ : Cond) ∈ ts_all := ts_in (List.mem_append_left _ (List.mem_of_getElem? (i := 9) (by decide +kernel))) (by decide +kernel)
abbrev YIX_init : ts_YX := (prog_2_method_1_code, 1, "TailedStore$Index", none, "<init>", { frames := 1, cells := 1, slots := 16, locals := 23 }, [])
abbrev YIX_count : ts_YX := (prog_2_method_2_code, 1, "TailedStore$Index", (some .int), "count", { frames := 0, cells := 0, slots := 0, locals := 0 }, [])
abbrev YIX_bucketOf : ts_YX := (prog_2_method_3_code, 4, "TailedStore$Index", (some .int), "bucketOf", { frames := 0, cells := 0, slots := 0, locals := 0 }, [])
abbrev YIX_twin : ts_YX := (prog_2_method_4_code, 1, "TailedStore$Index", none, "twin", { frames := 1, cells := 0, slots := 0, locals := 20 }, [])
abbrev YMA_init : ts_YX := (prog_3_method_1_code, 1, "TailedStore$Machine", none, "<init>", { frames := 1, cells := 0, slots := 0, locals := 20 }, [])
abbrev YMA_writeBlock : ts_YX := (prog_3_method_2_code, 1, "TailedStore$Machine", (some .boolean), "writeBlock", { frames := 0, cells := 0, slots := 0, locals := 0 }, [])
abbrev YRE_init : ts_YX := (prog_4_method_1_code, 1, "TailedStore$Records", none, "<init>", { frames := 1, cells := 5, slots := 2000, locals := 20 }, [])
abbrev YSA_init : ts_YX := (prog_5_method_1_code, 1, "TailedStore$Saved", none, "<init>", { frames := 2, cells := 2, slots := 19, locals := 43 }, [])
abbrev YTS_init : ts_YX := (prog_1_method_1_code, 3, "TailedStore", none, "<init>", { frames := 3, cells := 15, slots := 2076, locals := 63 }, [("TailedStore", 11, ⟨"TailedStore$Machine", "<init>", "()V"⟩, "TailedStore"), ("TailedStore", 25, ⟨"TailedStore$Records", "<init>", "()V"⟩, "TailedStore"), ("TailedStore", 36, ⟨"TailedStore$Saved", "<init>", "()V"⟩, "TailedStore")])
abbrev YTS_put : ts_YX := (prog_1_method_2_code, 3, "TailedStore", (some .int), "put", { frames := 6, cells := 0, slots := 0, locals := 133 }, [])
abbrev YTS_add : ts_YX := (prog_1_method_3_code, 5, "TailedStore", (some .int), "add", { frames := 6, cells := 0, slots := 0, locals := 133 }, [])
abbrev YTS_delete : ts_YX := (prog_1_method_4_code, 3, "TailedStore", (some .int), "delete", { frames := 6, cells := 0, slots := 0, locals := 133 }, [])
abbrev YTS_read : ts_YX := (prog_1_method_5_code, 3, "TailedStore", (some .int), "read", { frames := 2, cells := 0, slots := 0, locals := 47 }, [])
abbrev YTS_value : ts_YX := (prog_1_method_6_code, 1, "TailedStore", (some .int), "value", { frames := 0, cells := 0, slots := 0, locals := 0 }, [])
abbrev YTS_checkpoint : ts_YX := (prog_1_method_7_code, 1, "TailedStore", (some .int), "checkpoint", { frames := 0, cells := 0, slots := 0, locals := 0 }, [])
abbrev YTS_step : ts_YX := (prog_1_method_8_code, 2, "TailedStore", (some .int), "step", { frames := 3, cells := 0, slots := 0, locals := 62 }, [])
abbrev YTS_grow : ts_YX := (prog_1_method_9_code, 1, "TailedStore", (some .int), "grow", { frames := 2, cells := 0, slots := 0, locals := 40 }, [])
abbrev YTS_compact : ts_YX := (prog_1_method_10_code, 4, "TailedStore", (some .int), "compact", { frames := 5, cells := 0, slots := 0, locals := 109 }, [])
abbrev YTS_fuse : ts_YX := (prog_1_method_11_code, 2, "TailedStore", (some .boolean), "fuse", { frames := 0, cells := 0, slots := 0, locals := 0 }, [])
abbrev YTS_recover : ts_YX := (prog_1_method_12_code, 1, "TailedStore", (some .int), "recover", { frames := 2, cells := 0, slots := 0, locals := 45 }, [])
abbrev YTS_address : ts_YX := (prog_1_method_13_code, 2, "TailedStore", (some .int), "address", { frames := 0, cells := 0, slots := 0, locals := 0 }, [])
abbrev YTS_entry : ts_YX := (prog_1_method_14_code, 3, "TailedStore", (some .int), "entry", { frames := 0, cells := 0, slots := 0, locals := 0 }, [])
abbrev YTS_bucket : ts_YX := (prog_1_method_15_code, 2, "TailedStore", (some .int), "bucket", { frames := 1, cells := 0, slots := 0, locals := 20 }, [])
abbrev YTS_size : ts_YX := (prog_1_method_16_code, 3, "TailedStore", (some .int), "size", { frames := 3, cells := 0, slots := 0, locals := 69 }, [])
abbrev YTS_isKey : ts_YX := (prog_1_method_17_code, 1, "TailedStore", (some .boolean), "isKey", { frames := 0, cells := 0, slots := 0, locals := 0 }, [])
abbrev YTS_pageEnd : ts_YX := (prog_1_method_18_code, 1, "TailedStore", (some .int), "pageEnd", { frames := 0, cells := 0, slots := 0, locals := 0 }, [])
abbrev YTS_find : ts_YX := (prog_1_method_19_code, 5, "TailedStore", (some .int), "find", { frames := 1, cells := 0, slots := 0, locals := 23 }, [])
abbrev YTS_hasValue : ts_YX := (prog_1_method_20_code, 2, "TailedStore", (some .boolean), "hasValue", { frames := 0, cells := 0, slots := 0, locals := 0 }, [])
abbrev YTS_isLatest : ts_YX := (prog_1_method_21_code, 2, "TailedStore", (some .boolean), "isLatest", { frames := 2, cells := 0, slots := 0, locals := 47 }, [])
abbrev YTS_keysWithValue : ts_YX := (prog_1_method_22_code, 3, "TailedStore", (some .int), "keysWithValue", { frames := 2, cells := 0, slots := 0, locals := 47 }, [])
abbrev YTS_change : ts_YX := (prog_1_method_23_code, 5, "TailedStore", (some .int), "change", { frames := 5, cells := 0, slots := 0, locals := 109 }, [])
abbrev YTS_append : ts_YX := (prog_1_method_24_code, 5, "TailedStore", (some .boolean), "append", { frames := 4, cells := 0, slots := 0, locals := 85 }, [])
abbrev YTS_openPage : ts_YX := (prog_1_method_25_code, 2, "TailedStore", (some .boolean), "openPage", { frames := 3, cells := 0, slots := 0, locals := 64 }, [])
abbrev YTS_flush : ts_YX := (prog_1_method_26_code, 3, "TailedStore", (some .boolean), "flush", { frames := 2, cells := 0, slots := 0, locals := 42 }, [])
abbrev YTS_flushPage : ts_YX := (prog_1_method_27_code, 2, "TailedStore", (some .boolean), "flushPage", { frames := 1, cells := 0, slots := 0, locals := 21 }, [])
abbrev YTS_writeImageBlock : ts_YX := (prog_1_method_28_code, 4, "TailedStore", (some .boolean), "writeImageBlock", { frames := 1, cells := 0, slots := 0, locals := 21 }, [])
abbrev YTS_flushTowardsEnd : ts_YX := (prog_1_method_29_code, 1, "TailedStore", (some .boolean), "flushTowardsEnd", { frames := 2, cells := 0, slots := 0, locals := 42 }, [])
abbrev YTS_settle : ts_YX := (prog_1_method_30_code, 2, "TailedStore", (some .boolean), "settle", { frames := 1, cells := 0, slots := 0, locals := 20 }, [])
abbrev YTS_restoreIndex : ts_YX := (prog_1_method_31_code, 3, "TailedStore", none, "restoreIndex", { frames := 1, cells := 0, slots := 0, locals := 23 }, [])
abbrev YTS_lastBelowCut : ts_YX := (prog_1_method_32_code, 4, "TailedStore", (some .int), "lastBelowCut", { frames := 0, cells := 0, slots := 0, locals := 0 }, [])
abbrev YMO_init : ts_YX := (prog_7_method_1_code, 3, "TailedStoreModel", none, "<init>", { frames := 1, cells := 13, slots := 2060, locals := 21 }, [])
abbrev YMO_empty : ts_YX := (prog_7_method_2_code, 2, "TailedStoreModel", none, "empty", { frames := 0, cells := 0, slots := 0, locals := 0 }, [])
abbrev YMO_isKey : ts_YX := (prog_7_method_3_code, 1, "TailedStoreModel", (some .boolean), "isKey", { frames := 0, cells := 0, slots := 0, locals := 0 }, [])
abbrev YMO_bucketOf : ts_YX := (prog_7_method_4_code, 4, "TailedStoreModel", (some .int), "bucketOf", { frames := 0, cells := 0, slots := 0, locals := 0 }, [])
abbrev YMO_bucketCount : ts_YX := (prog_7_method_5_code, 1, "TailedStoreModel", (some .int), "bucketCount", { frames := 0, cells := 0, slots := 0, locals := 0 }, [])
abbrev YMO_find : ts_YX := (prog_7_method_6_code, 4, "TailedStoreModel", (some .int), "find", { frames := 1, cells := 0, slots := 0, locals := 23 }, [])
abbrev YMO_block : ts_YX := (prog_7_method_7_code, 2, "TailedStoreModel", (some .boolean), "block", { frames := 0, cells := 0, slots := 0, locals := 0 }, [])
abbrev YMO_pageEnd : ts_YX := (prog_7_method_8_code, 1, "TailedStoreModel", (some .int), "pageEnd", { frames := 0, cells := 0, slots := 0, locals := 0 }, [])
abbrev YMO_flush : ts_YX := (prog_7_method_9_code, 2, "TailedStoreModel", (some .boolean), "flush", { frames := 1, cells := 0, slots := 0, locals := 21 }, [])
abbrev YMO_room : ts_YX := (prog_7_method_10_code, 3, "TailedStoreModel", (some .boolean), "room", { frames := 2, cells := 0, slots := 0, locals := 42 }, [])
abbrev YMO_append : ts_YX := (prog_7_method_11_code, 5, "TailedStoreModel", (some .boolean), "append", { frames := 3, cells := 0, slots := 0, locals := 64 }, [])
abbrev YMO_set : ts_YX := (prog_7_method_12_code, 5, "TailedStoreModel", (some .int), "set", { frames := 4, cells := 0, slots := 0, locals := 88 }, [])
abbrev YMO_put : ts_YX := (prog_7_method_13_code, 4, "TailedStoreModel", (some .int), "put", { frames := 5, cells := 0, slots := 0, locals := 112 }, [])
abbrev YMO_add : ts_YX := (prog_7_method_14_code, 5, "TailedStoreModel", (some .int), "add", { frames := 5, cells := 0, slots := 0, locals := 112 }, [])
abbrev YMO_delete : ts_YX := (prog_7_method_15_code, 3, "TailedStoreModel", (some .int), "delete", { frames := 5, cells := 0, slots := 0, locals := 112 }, [])
abbrev YMO_read : ts_YX := (prog_7_method_16_code, 3, "TailedStoreModel", (some .int), "read", { frames := 2, cells := 0, slots := 0, locals := 46 }, [])
abbrev YMO_value : ts_YX := (prog_7_method_17_code, 1, "TailedStoreModel", (some .int), "value", { frames := 0, cells := 0, slots := 0, locals := 0 }, [])
abbrev YMO_checkpoint : ts_YX := (prog_7_method_18_code, 2, "TailedStoreModel", (some .int), "checkpoint", { frames := 0, cells := 0, slots := 0, locals := 0 }, [])
abbrev YMO_writing : ts_YX := (prog_7_method_19_code, 1, "TailedStoreModel", (some .int), "writing", { frames := 0, cells := 0, slots := 0, locals := 0 }, [])
abbrev YMO_image : ts_YX := (prog_7_method_20_code, 3, "TailedStoreModel", (some .int), "image", { frames := 1, cells := 0, slots := 0, locals := 21 }, [])
abbrev YMO_flushing : ts_YX := (prog_7_method_21_code, 4, "TailedStoreModel", (some .int), "flushing", { frames := 2, cells := 0, slots := 0, locals := 42 }, [])
abbrev YMO_step : ts_YX := (prog_7_method_22_code, 1, "TailedStoreModel", (some .int), "step", { frames := 3, cells := 0, slots := 0, locals := 65 }, [])
abbrev YMO_grow : ts_YX := (prog_7_method_23_code, 1, "TailedStoreModel", (some .int), "grow", { frames := 1, cells := 0, slots := 0, locals := 20 }, [])
abbrev YMO_compact : ts_YX := (prog_7_method_24_code, 4, "TailedStoreModel", (some .int), "compact", { frames := 4, cells := 0, slots := 0, locals := 88 }, [])
abbrev YMO_fuse : ts_YX := (prog_7_method_25_code, 2, "TailedStoreModel", (some .boolean), "fuse", { frames := 0, cells := 0, slots := 0, locals := 0 }, [])
abbrev YMO_recover : ts_YX := (prog_7_method_26_code, 3, "TailedStoreModel", (some .int), "recover", { frames := 1, cells := 0, slots := 0, locals := 21 }, [])
abbrev YMO_address : ts_YX := (prog_7_method_27_code, 2, "TailedStoreModel", (some .int), "address", { frames := 0, cells := 0, slots := 0, locals := 0 }, [])
abbrev YMO_entry : ts_YX := (prog_7_method_28_code, 3, "TailedStoreModel", (some .int), "entry", { frames := 0, cells := 0, slots := 0, locals := 0 }, [])
abbrev YMO_bucket : ts_YX := (prog_7_method_29_code, 2, "TailedStoreModel", (some .int), "bucket", { frames := 1, cells := 0, slots := 0, locals := 20 }, [])
abbrev YMO_living : ts_YX := (prog_7_method_30_code, 4, "TailedStoreModel", (some .int), "living", { frames := 2, cells := 0, slots := 0, locals := 46 }, [])
abbrev YMO_size : ts_YX := (prog_7_method_31_code, 2, "TailedStoreModel", (some .int), "size", { frames := 3, cells := 0, slots := 0, locals := 69 }, [])
abbrev YLW_cell : ts_YX := (method_2_code, 2, "TailedStoreLaw", (some .int), "cell", { frames := 0, cells := 0, slots := 0, locals := 0 }, [])
abbrev YJA_fill : ts_YX := (prog_9_method_103_code, 4, "java/util/Arrays", none, "fill", { frames := 0, cells := 0, slots := 0, locals := 0 }, [])
abbrev YLW_law (nm : String) : ts_YX := (code, 4, "TailedStoreLaw", ret, nm, room_1, [("TailedStore", 11, ⟨"TailedStore$Machine", "<init>", "()V"⟩, "TailedStore"), ("TailedStore", 25, ⟨"TailedStore$Records", "<init>", "()V"⟩, "TailedStore"), ("TailedStore", 36, ⟨"TailedStore$Saved", "<init>", "()V"⟩, "TailedStore")])
theorem tn_nest : ∀ q ∈ ([("TailedStore", 11, ⟨"TailedStore$Machine", "<init>", "()V"⟩, "TailedStore"), ("TailedStore", 25, ⟨"TailedStore$Records", "<init>", "()V"⟩, "TailedStore"), ("TailedStore", 36, ⟨"TailedStore$Saved", "<init>", "()V"⟩, "TailedStore")] : List ts_NX), ts_nw q ∈ lw_tbl := List.forall_mem_cons.mpr ⟨List.mem_append_right _ (List.mem_of_getElem? (i := 19) (by decide +kernel)), List.forall_mem_cons.mpr ⟨List.mem_append_right _ (List.mem_of_getElem? (i := 64) (by decide +kernel)), List.forall_mem_cons.mpr ⟨List.mem_append_right _ (List.mem_of_getElem? (i := 92) (by decide +kernel)), fun _ h => absurd h List.not_mem_nil⟩⟩⟩
theorem tiIX : Cond.instantiable RIX 3 ∈ ts_all := tw_40
theorem tiMA : Cond.instantiable RMA 4 ∈ ts_all := tw_18
theorem tiRE : Cond.instantiable RRE 5 ∈ ts_all := tw_63
theorem tiSA : Cond.instantiable RSA 5 ∈ ts_all := tw_91
theorem tiTS : Cond.instantiable RTS 17 ∈ ts_all := tw_10
theorem tiMO : Cond.instantiable RMO 32 ∈ ts_all := tw_316
theorem inIX : ∀ w ∈ u_ws RIX FIX 3, w ∈ ts_all := by decide +kernel
theorem inMA : ∀ w ∈ u_ws RMA FMA 4, w ∈ ts_all := by decide +kernel
theorem inRE : ∀ w ∈ u_ws RRE FRE 5, w ∈ ts_all := by decide +kernel
theorem inSA : ∀ w ∈ u_ws RSA FSA 5, w ∈ ts_all := by decide +kernel
theorem inTS : ∀ w ∈ u_ws RTS FTS 17, w ∈ ts_all := by decide +kernel
theorem inMO : ∀ w ∈ u_ws RMO FMO 32, w ∈ ts_all := by decide +kernel
theorem pIX_L3 : Cond.methodLink "TailedStore$Index" 3 Lib.objectInit ∈ ts_all := tw_44
theorem pIX_P9 : ts_gP "TailedStore$Index" 9 0 0 (.int) false := ⟨RIX, FIX, 3, TIX, rfl, by decide, inIX, tw_48, tIX_ok, nIX_ok, rfl, by decide +kernel, rfl⟩
theorem pIX_P15 : ts_gP "TailedStore$Index" 15 0 2 (.array .int) true := ⟨RIX, FIX, 3, TIX, rfl, by decide, inIX, tw_52, tIX_ok, nIX_ok, rfl, by decide +kernel, rfl⟩
theorem pIX_F15 : ts_gF "TailedStore$Index" 15 0 2 := ⟨RIX, FIX, 3, rfl, by decide, inIX, tw_52⟩
theorem pIX_C19 : ts_lk "TailedStore$Index" 19 yJA_fill YJA_fill 2 ∧ Cond.static yJA_fill ∈ ts_all := ⟨⟨tw_45, tw_4, tw_47, by decide +kernel, by decide +kernel, by decide +kernel⟩, tw_46⟩
theorem pIX_F9 : ts_gF "TailedStore$Index" 9 0 0 := ⟨RIX, FIX, 3, rfl, by decide, inIX, tw_48⟩
theorem pIX_F25 : ts_gF "TailedStore$Index" 25 0 1 := ⟨RIX, FIX, 3, rfl, by decide, inIX, tw_50⟩
theorem pIX_C28 : ts_lk "TailedStore$Index" 28 yIX_count YIX_count 0 ∧ (Cond.instanceMethod yIX_count ∈ ts_all ∧ Cond.selects yIX_count.cls yIX_count yIX_count ∈ ts_all) := ⟨⟨tw_267, tw_3, tw_250, by decide +kernel, by decide +kernel, by decide +kernel⟩, ⟨tw_248, tw_249⟩⟩
theorem pIX_P25 : ts_gP "TailedStore$Index" 25 0 1 (.int) false := ⟨RIX, FIX, 3, TIX, rfl, by decide, inIX, tw_50, tIX_ok, nIX_ok, rfl, by decide +kernel, rfl⟩
theorem pMA_L1 : Cond.methodLink "TailedStore$Machine" 1 Lib.objectInit ∈ ts_all := tw_22
theorem pMA_F7 : ts_gF "TailedStore$Machine" 7 1 2 := ⟨RMA, FMA, 4, rfl, by decide, inMA, tw_27⟩
theorem pMA_P7 : ts_gP "TailedStore$Machine" 7 1 2 (.int) false := ⟨RMA, FMA, 4, TMA, rfl, by decide, inMA, tw_27, tMA_ok, nMA_ok, rfl, by decide +kernel, rfl⟩
theorem pMA_F13 : ts_gF "TailedStore$Machine" 13 1 1 := ⟨RMA, FMA, 4, rfl, by decide, inMA, tw_25⟩
theorem pMA_P13 : ts_gP "TailedStore$Machine" 13 1 1 (.int) false := ⟨RMA, FMA, 4, TMA, rfl, by decide, inMA, tw_25, tMA_ok, nMA_ok, rfl, by decide +kernel, rfl⟩
theorem pMA_P16 : ts_gP "TailedStore$Machine" 16 1 0 (.boolean) false := ⟨RMA, FMA, 4, TMA, rfl, by decide, inMA, tw_24, tMA_ok, nMA_ok, rfl, by decide +kernel, rfl⟩
theorem pMA_F16 : ts_gF "TailedStore$Machine" 16 1 0 := ⟨RMA, FMA, 4, rfl, by decide, inMA, tw_24⟩
theorem pRE_L3 : Cond.methodLink "TailedStore$Records" 3 Lib.objectInit ∈ ts_all := tw_67
theorem pRE_P9 : ts_gP "TailedStore$Records" 9 2 0 (.array .int) true := ⟨RRE, FRE, 5, TRE, rfl, by decide, inRE, tw_68, tRE_ok, nRE_ok, rfl, by decide +kernel, rfl⟩
theorem pRE_P15 : ts_gP "TailedStore$Records" 15 2 1 (.array .int) true := ⟨RRE, FRE, 5, TRE, rfl, by decide, inRE, tw_70, tRE_ok, nRE_ok, rfl, by decide +kernel, rfl⟩
theorem pRE_P18 : ts_gP "TailedStore$Records" 18 2 2 (.array .int) true := ⟨RRE, FRE, 5, TRE, rfl, by decide, inRE, tw_72, tRE_ok, nRE_ok, rfl, by decide +kernel, rfl⟩
theorem pRE_P21 : ts_gP "TailedStore$Records" 21 2 3 (.array .int) true := ⟨RRE, FRE, 5, TRE, rfl, by decide, inRE, tw_74, tRE_ok, nRE_ok, rfl, by decide +kernel, rfl⟩
theorem pRE_P24 : ts_gP "TailedStore$Records" 24 2 4 (.array .boolean) true := ⟨RRE, FRE, 5, TRE, rfl, by decide, inRE, tw_76, tRE_ok, nRE_ok, rfl, by decide +kernel, rfl⟩
theorem pSA_L1 : Cond.methodLink "TailedStore$Saved" 1 Lib.objectInit ∈ ts_all := tw_95
theorem pSA_N7 : ts_gN "TailedStore$Saved" 7 0 3 [.int 0, .int 0, .null] := ⟨RIX, FIX, TIX, rfl, inIX, tIX_ok, tw_96, tw_40, tw_3, by decide +kernel, fun _ => rfl⟩
theorem pSA_C9 : ts_lk "TailedStore$Saved" 9 yIX_init YIX_init 0 ∧ (yIX_init.name = "<init>" ∧ Cond.instanceMethod yIX_init ∈ ts_all) := ⟨⟨tw_97, tw_3, tw_43, by decide +kernel, by decide +kernel, by decide +kernel⟩, ⟨rfl, tw_42⟩⟩
theorem pSA_P10 : ts_gP "TailedStore$Saved" 10 3 4 (.object "TailedStore$Index") true := ⟨RSA, FSA, 5, TSA, rfl, by decide, inSA, tw_102, tSA_ok, nSA_ok, rfl, by decide +kernel, rfl⟩
theorem pTS_L3 : Cond.methodLink "TailedStore" 3 Lib.objectInit ∈ ts_all := tw_14
theorem pTS_N9 : ts_gN "TailedStore" 9 1 4 [.int 0, .int 0, .int 0, .int 0] := ⟨RMA, FMA, TMA, rfl, inMA, tMA_ok, tw_17, tw_18, tw_2, by decide +kernel, fun _ => rfl⟩
theorem pTS_C11 : (Cond.initialized yMA_init.cls ∈ ts_all ∧ Cond.code yMA_init (ts_yc YMA_init) (ts_yn YMA_init) (ts_yr YMA_init) ∈ ts_all ∧ (yMA_init.cls ≠ "java/lang/invoke/MethodHandle" ∧ yMA_init.cls ≠ "java/lang/invoke/VarHandle" ∧ (parseMethodDescriptor yMA_init.desc).map (fun d => d.parameters.length) = some 0)) ∧ (yMA_init.name = "<init>" ∧ Cond.instanceMethod yMA_init ∈ ts_all) := ⟨⟨tw_2, tw_21, by decide +kernel, by decide +kernel, by decide +kernel⟩, ⟨rfl, tw_20⟩⟩
theorem pTS_P12 : ts_gP "TailedStore" 12 4 2 (.object "TailedStore$Machine") true := ⟨RTS, FTS, 17, TTS, rfl, by decide, inTS, tw_123, tTS_ok, nTS_ok, rfl, by decide +kernel, rfl⟩
theorem pTS_N16 : ts_gN "TailedStore" 16 0 3 [.int 0, .int 0, .null] := ⟨RIX, FIX, TIX, rfl, inIX, tIX_ok, tw_39, tw_40, tw_3, by decide +kernel, fun _ => rfl⟩
theorem pTS_C18 : ts_lk "TailedStore" 18 yIX_init YIX_init 0 ∧ (yIX_init.name = "<init>" ∧ Cond.instanceMethod yIX_init ∈ ts_all) := ⟨⟨tw_41, tw_3, tw_43, by decide +kernel, by decide +kernel, by decide +kernel⟩, ⟨rfl, tw_42⟩⟩
theorem pTS_P19 : ts_gP "TailedStore" 19 4 3 (.object "TailedStore$Index") true := ⟨RTS, FTS, 17, TTS, rfl, by decide, inTS, tw_124, tTS_ok, nTS_ok, rfl, by decide +kernel, rfl⟩
theorem pTS_N23 : ts_gN "TailedStore" 23 2 5 [.null, .null, .null, .null, .null] := ⟨RRE, FRE, TRE, rfl, inRE, tRE_ok, tw_62, tw_63, tw_5, by decide +kernel, fun _ => rfl⟩
theorem pTS_C25 : (Cond.initialized yRE_init.cls ∈ ts_all ∧ Cond.code yRE_init (ts_yc YRE_init) (ts_yn YRE_init) (ts_yr YRE_init) ∈ ts_all ∧ (yRE_init.cls ≠ "java/lang/invoke/MethodHandle" ∧ yRE_init.cls ≠ "java/lang/invoke/VarHandle" ∧ (parseMethodDescriptor yRE_init.desc).map (fun d => d.parameters.length) = some 0)) ∧ (yRE_init.name = "<init>" ∧ Cond.instanceMethod yRE_init ∈ ts_all) := ⟨⟨tw_5, tw_66, by decide +kernel, by decide +kernel, by decide +kernel⟩, ⟨rfl, tw_65⟩⟩
theorem pTS_P26 : ts_gP "TailedStore" 26 4 4 (.object "TailedStore$Records") true := ⟨RTS, FTS, 17, TTS, rfl, by decide, inTS, tw_125, tTS_ok, nTS_ok, rfl, by decide +kernel, rfl⟩
theorem pTS_P30 : ts_gP "TailedStore" 30 4 10 (.int) false := ⟨RTS, FTS, 17, TTS, rfl, by decide, inTS, tw_131, tTS_ok, nTS_ok, rfl, by decide +kernel, rfl⟩
theorem pTS_N34 : ts_gN "TailedStore" 34 3 5 [.int 0, .int 0, .int 0, .int 0, .null] := ⟨RSA, FSA, TSA, rfl, inSA, tSA_ok, tw_90, tw_91, tw_6, by decide +kernel, fun _ => rfl⟩
theorem pTS_C36 : (Cond.initialized ySA_init.cls ∈ ts_all ∧ Cond.code ySA_init (ts_yc YSA_init) (ts_yn YSA_init) (ts_yr YSA_init) ∈ ts_all ∧ (ySA_init.cls ≠ "java/lang/invoke/MethodHandle" ∧ ySA_init.cls ≠ "java/lang/invoke/VarHandle" ∧ (parseMethodDescriptor ySA_init.desc).map (fun d => d.parameters.length) = some 0)) ∧ (ySA_init.name = "<init>" ∧ Cond.instanceMethod ySA_init ∈ ts_all) := ⟨⟨tw_6, tw_94, by decide +kernel, by decide +kernel, by decide +kernel⟩, ⟨rfl, tw_93⟩⟩
theorem pTS_P37 : ts_gP "TailedStore" 37 4 12 (.object "TailedStore$Saved") false := ⟨RTS, FTS, 17, TTS, rfl, by decide, inTS, tw_133, tTS_ok, nTS_ok, rfl, by decide +kernel, rfl⟩
theorem pTS_P41 : ts_gP "TailedStore" 41 4 13 (.object "TailedStore$Saved") false := ⟨RTS, FTS, 17, TTS, rfl, by decide, inTS, tw_134, tTS_ok, nTS_ok, rfl, by decide +kernel, rfl⟩
theorem pTS_P44 : ts_gP "TailedStore" 44 4 14 (.int) false := ⟨RTS, FTS, 17, TTS, rfl, by decide, inTS, tw_135, tTS_ok, nTS_ok, rfl, by decide +kernel, rfl⟩
theorem pTS_L47 : Cond.methodLink "TailedStore" 47 Lib.Math.min.name ∈ ts_all := tw_115
theorem pTS_L53 : Cond.methodLink "TailedStore" 53 Lib.Math.max.name ∈ ts_all := tw_118
theorem pTS_P56 : ts_gP "TailedStore" 56 4 0 (.int) true := ⟨RTS, FTS, 17, TTS, rfl, by decide, inTS, tw_121, tTS_ok, nTS_ok, rfl, by decide +kernel, rfl⟩
theorem pTS_F56 : ts_gF "TailedStore" 56 4 0 := ⟨RTS, FTS, 17, rfl, by decide, inTS, tw_121⟩
theorem pTS_P59 : ts_gP "TailedStore" 59 4 1 (.int) true := ⟨RTS, FTS, 17, TTS, rfl, by decide, inTS, tw_122, tTS_ok, nTS_ok, rfl, by decide +kernel, rfl⟩
theorem pTS_F12 : ts_gF "TailedStore" 12 4 2 := ⟨RTS, FTS, 17, rfl, by decide, inTS, tw_123⟩
theorem pTS_F62 : ts_gF "TailedStore" 62 1 0 := ⟨RMA, FMA, 4, rfl, by decide, inMA, tw_23⟩
theorem pTS_C66 : ts_lk "TailedStore" 66 yTS_isKey YTS_isKey 1 ∧ Cond.static yTS_isKey ∈ ts_all := ⟨⟨tw_177, tw_1, tw_179, by decide +kernel, by decide +kernel, by decide +kernel⟩, tw_178⟩
theorem pTS_C70 : ts_lk "TailedStore" 70 yTS_find YTS_find 2 ∧ (Cond.instanceMethod yTS_find ∈ ts_all ∧ Cond.selects yTS_find.cls yTS_find yTS_find ∈ ts_all) := ⟨⟨tw_180, tw_1, tw_183, by decide +kernel, by decide +kernel, by decide +kernel⟩, ⟨tw_182, tws_0⟩⟩
theorem pTS_C74 : ts_lk "TailedStore" 74 yTS_change YTS_change 4 ∧ (Cond.instanceMethod yTS_change ∈ ts_all ∧ Cond.selects yTS_change.cls yTS_change yTS_change ∈ ts_all) := ⟨⟨tw_188, tw_1, tw_191, by decide +kernel, by decide +kernel, by decide +kernel⟩, ⟨tw_190, tws_1⟩⟩
theorem pTS_C78 : ts_lk "TailedStore" 78 yTS_hasValue YTS_hasValue 1 ∧ (Cond.instanceMethod yTS_hasValue ∈ ts_all ∧ Cond.selects yTS_hasValue.cls yTS_hasValue yTS_hasValue ∈ ts_all) := ⟨⟨tw_219, tw_1, tw_222, by decide +kernel, by decide +kernel, by decide +kernel⟩, ⟨tw_221, tws_6⟩⟩
theorem pTS_F26 : ts_gF "TailedStore" 26 4 4 := ⟨RTS, FTS, 17, rfl, by decide, inTS, tw_125⟩
theorem pTS_F81 : ts_gF "TailedStore" 81 2 1 := ⟨RRE, FRE, 5, rfl, by decide, inRE, tw_71⟩
theorem pTS_P85 : ts_gP "TailedStore" 85 4 11 (.int) false := ⟨RTS, FTS, 17, TTS, rfl, by decide, inTS, tw_132, tTS_ok, nTS_ok, rfl, by decide +kernel, rfl⟩
theorem pTS_F88 : ts_gF "TailedStore" 88 4 8 := ⟨RTS, FTS, 17, rfl, by decide, inTS, tw_129⟩
theorem pTS_F91 : ts_gF "TailedStore" 91 4 6 := ⟨RTS, FTS, 17, rfl, by decide, inTS, tw_127⟩
theorem pTS_F85 : ts_gF "TailedStore" 85 4 11 := ⟨RTS, FTS, 17, rfl, by decide, inTS, tw_132⟩
theorem pTS_F44 : ts_gF "TailedStore" 44 4 14 := ⟨RTS, FTS, 17, rfl, by decide, inTS, tw_135⟩
theorem pTS_F41 : ts_gF "TailedStore" 41 4 13 := ⟨RTS, FTS, 17, rfl, by decide, inTS, tw_134⟩
theorem pTS_F30 : ts_gF "TailedStore" 30 4 10 := ⟨RTS, FTS, 17, rfl, by decide, inTS, tw_131⟩
theorem pTS_P94 : ts_gP "TailedStore" 94 3 0 (.int) false := ⟨RSA, FSA, 5, TSA, rfl, by decide, inSA, tw_98, tSA_ok, nSA_ok, rfl, by decide +kernel, rfl⟩
theorem pTS_F95 : ts_gF "TailedStore" 95 4 5 := ⟨RTS, FTS, 17, rfl, by decide, inTS, tw_126⟩
theorem pTS_P98 : ts_gP "TailedStore" 98 3 1 (.int) false := ⟨RSA, FSA, 5, TSA, rfl, by decide, inSA, tw_99, tSA_ok, nSA_ok, rfl, by decide +kernel, rfl⟩
theorem pTS_F99 : ts_gF "TailedStore" 99 4 9 := ⟨RTS, FTS, 17, rfl, by decide, inTS, tw_130⟩
theorem pTS_P102 : ts_gP "TailedStore" 102 3 2 (.int) false := ⟨RSA, FSA, 5, TSA, rfl, by decide, inSA, tw_100, tSA_ok, nSA_ok, rfl, by decide +kernel, rfl⟩
theorem pTS_F105 : ts_gF "TailedStore" 105 3 4 := ⟨RSA, FSA, 5, rfl, by decide, inSA, tw_103⟩
theorem pTS_F19 : ts_gF "TailedStore" 19 4 3 := ⟨RTS, FTS, 17, rfl, by decide, inTS, tw_124⟩
theorem pTS_F108 : ts_gF "TailedStore" 108 0 0 := ⟨RIX, FIX, 3, rfl, by decide, inIX, tw_49⟩
theorem pTS_P108 : ts_gP "TailedStore" 108 0 0 (.int) false := ⟨RIX, FIX, 3, TIX, rfl, by decide, inIX, tw_49, tIX_ok, nIX_ok, rfl, by decide +kernel, rfl⟩
theorem pTS_F111 : ts_gF "TailedStore" 111 0 1 := ⟨RIX, FIX, 3, rfl, by decide, inIX, tw_51⟩
theorem pTS_P111 : ts_gP "TailedStore" 111 0 1 (.int) false := ⟨RIX, FIX, 3, TIX, rfl, by decide, inIX, tw_51, tIX_ok, nIX_ok, rfl, by decide +kernel, rfl⟩
theorem pTS_P114 : ts_gP "TailedStore" 114 4 15 (.int) false := ⟨RTS, FTS, 17, TTS, rfl, by decide, inTS, tw_136, tTS_ok, nTS_ok, rfl, by decide +kernel, rfl⟩
theorem pTS_P117 : ts_gP "TailedStore" 117 4 16 (.boolean) false := ⟨RTS, FTS, 17, TTS, rfl, by decide, inTS, tw_137, tTS_ok, nTS_ok, rfl, by decide +kernel, rfl⟩
theorem pTS_F94 : ts_gF "TailedStore" 94 3 0 := ⟨RSA, FSA, 5, rfl, by decide, inSA, tw_98⟩
theorem pTS_C120 : ts_lk "TailedStore" 120 yTS_writeImageBlock YTS_writeImageBlock 0 ∧ (Cond.instanceMethod yTS_writeImageBlock ∈ ts_all ∧ Cond.selects yTS_writeImageBlock.cls yTS_writeImageBlock yTS_writeImageBlock ∈ ts_all) := ⟨⟨tw_243, tw_1, tw_246, by decide +kernel, by decide +kernel, by decide +kernel⟩, ⟨tw_245, tws_7⟩⟩
theorem pTS_C124 : ts_lk "TailedStore" 124 yTS_flushTowardsEnd YTS_flushTowardsEnd 0 ∧ (Cond.instanceMethod yTS_flushTowardsEnd ∈ ts_all ∧ Cond.selects yTS_flushTowardsEnd.cls yTS_flushTowardsEnd yTS_flushTowardsEnd ∈ ts_all) := ⟨⟨tw_251, tw_1, tw_254, by decide +kernel, by decide +kernel, by decide +kernel⟩, ⟨tw_253, tws_8⟩⟩
theorem pTS_C127 : ts_lk "TailedStore" 127 yTS_settle YTS_settle 0 ∧ (Cond.instanceMethod yTS_settle ∈ ts_all ∧ Cond.selects yTS_settle.cls yTS_settle yTS_settle ∈ ts_all) := ⟨⟨tw_255, tw_1, tw_258, by decide +kernel, by decide +kernel, by decide +kernel⟩, ⟨tw_257, tws_9⟩⟩
theorem pTS_C130 : ts_lk "TailedStore" 130 yIX_count YIX_count 0 ∧ (Cond.instanceMethod yIX_count ∈ ts_all ∧ Cond.selects yIX_count.cls yIX_count yIX_count ∈ ts_all) := ⟨⟨tw_247, tw_3, tw_250, by decide +kernel, by decide +kernel, by decide +kernel⟩, ⟨tw_248, tw_249⟩⟩
theorem pTS_C134 : ts_lk "TailedStore" 134 yIX_twin YIX_twin 0 ∧ (Cond.instanceMethod yIX_twin ∈ ts_all ∧ Cond.selects yIX_twin.cls yIX_twin yIX_twin ∈ ts_all) := ⟨⟨tw_263, tw_3, tw_266, by decide +kernel, by decide +kernel, by decide +kernel⟩, ⟨tw_264, tw_265⟩⟩
theorem pTS_C137 : ts_lk "TailedStore" 137 yTS_pageEnd YTS_pageEnd 1 ∧ Cond.static yTS_pageEnd ∈ ts_all := ⟨⟨tw_200, tw_1, tw_202, by decide +kernel, by decide +kernel, by decide +kernel⟩, tw_201⟩
theorem pTS_F141 : ts_gF "TailedStore" 141 1 3 := ⟨RMA, FMA, 4, rfl, by decide, inMA, tw_29⟩
theorem pTS_P141 : ts_gP "TailedStore" 141 1 3 (.int) false := ⟨RMA, FMA, 4, TMA, rfl, by decide, inMA, tw_29, tMA_ok, nMA_ok, rfl, by decide +kernel, rfl⟩
theorem pTS_C144 : ts_lk "TailedStore" 144 yTS_isLatest YTS_isLatest 1 ∧ (Cond.instanceMethod yTS_isLatest ∈ ts_all ∧ Cond.selects yTS_isLatest.cls yTS_isLatest yTS_isLatest ∈ ts_all) := ⟨⟨tw_272, tw_1, tw_275, by decide +kernel, by decide +kernel, by decide +kernel⟩, ⟨tw_274, tws_10⟩⟩
theorem pTS_F147 : ts_gF "TailedStore" 147 2 0 := ⟨RRE, FRE, 5, rfl, by decide, inRE, tw_69⟩
theorem pTS_C150 : ts_lk "TailedStore" 150 yTS_append YTS_append 3 ∧ (Cond.instanceMethod yTS_append ∈ ts_all ∧ Cond.selects yTS_append.cls yTS_append yTS_append ∈ ts_all) := ⟨⟨tw_192, tw_1, tw_195, by decide +kernel, by decide +kernel, by decide +kernel⟩, ⟨tw_194, tws_2⟩⟩
theorem pTS_P95 : ts_gP "TailedStore" 95 4 5 (.int) false := ⟨RTS, FTS, 17, TTS, rfl, by decide, inTS, tw_126, tTS_ok, nTS_ok, rfl, by decide +kernel, rfl⟩
theorem pTS_P154 : ts_gP "TailedStore" 154 1 1 (.int) false := ⟨RMA, FMA, 4, TMA, rfl, by decide, inMA, tw_26, tMA_ok, nMA_ok, rfl, by decide +kernel, rfl⟩
theorem pTS_P62 : ts_gP "TailedStore" 62 1 0 (.boolean) false := ⟨RMA, FMA, 4, TMA, rfl, by decide, inMA, tw_23, tMA_ok, nMA_ok, rfl, by decide +kernel, rfl⟩
theorem pTS_F37 : ts_gF "TailedStore" 37 4 12 := ⟨RTS, FTS, 17, rfl, by decide, inTS, tw_133⟩
theorem pTS_F98 : ts_gF "TailedStore" 98 3 1 := ⟨RSA, FSA, 5, rfl, by decide, inSA, tw_99⟩
theorem pTS_F157 : ts_gF "TailedStore" 157 3 3 := ⟨RSA, FSA, 5, rfl, by decide, inSA, tw_101⟩
theorem pTS_P91 : ts_gP "TailedStore" 91 4 6 (.int) false := ⟨RTS, FTS, 17, TTS, rfl, by decide, inTS, tw_127, tTS_ok, nTS_ok, rfl, by decide +kernel, rfl⟩
theorem pTS_P160 : ts_gP "TailedStore" 160 4 7 (.int) false := ⟨RTS, FTS, 17, TTS, rfl, by decide, inTS, tw_128, tTS_ok, nTS_ok, rfl, by decide +kernel, rfl⟩
theorem pTS_P88 : ts_gP "TailedStore" 88 4 8 (.int) false := ⟨RTS, FTS, 17, TTS, rfl, by decide, inTS, tw_129, tTS_ok, nTS_ok, rfl, by decide +kernel, rfl⟩
theorem pTS_P99 : ts_gP "TailedStore" 99 4 9 (.int) false := ⟨RTS, FTS, 17, TTS, rfl, by decide, inTS, tw_130, tTS_ok, nTS_ok, rfl, by decide +kernel, rfl⟩
theorem pTS_C163 : ts_lk "TailedStore" 163 yTS_restoreIndex YTS_restoreIndex 0 ∧ (Cond.instanceMethod yTS_restoreIndex ∈ ts_all ∧ Cond.selects yTS_restoreIndex.cls yTS_restoreIndex yTS_restoreIndex ∈ ts_all) := ⟨⟨tw_284, tw_1, tw_287, by decide +kernel, by decide +kernel, by decide +kernel⟩, ⟨tw_286, tws_11⟩⟩
theorem pTS_F160 : ts_gF "TailedStore" 160 4 7 := ⟨RTS, FTS, 17, rfl, by decide, inTS, tw_128⟩
theorem pTS_F166 : ts_gF "TailedStore" 166 2 2 := ⟨RRE, FRE, 5, rfl, by decide, inRE, tw_73⟩
theorem pTS_F169 : ts_gF "TailedStore" 169 2 3 := ⟨RRE, FRE, 5, rfl, by decide, inRE, tw_75⟩
theorem pTS_F172 : ts_gF "TailedStore" 172 2 4 := ⟨RRE, FRE, 5, rfl, by decide, inRE, tw_77⟩
theorem pTS_F176 : ts_gF "TailedStore" 176 0 2 := ⟨RIX, FIX, 3, rfl, by decide, inIX, tw_53⟩
theorem pTS_F179 : ts_gF "TailedStore" 179 1 2 := ⟨RMA, FMA, 4, rfl, by decide, inMA, tw_28⟩
theorem pTS_C182 : ts_lk "TailedStore" 182 yTS_keysWithValue YTS_keysWithValue 0 ∧ (Cond.instanceMethod yTS_keysWithValue ∈ ts_all ∧ Cond.selects yTS_keysWithValue.cls yTS_keysWithValue yTS_keysWithValue ∈ ts_all) := ⟨⟨tw_308, tw_1, tw_311, by decide +kernel, by decide +kernel, by decide +kernel⟩, ⟨tw_310, tws_13⟩⟩
theorem pTS_C185 : ts_lk "TailedStore" 185 yIX_bucketOf YIX_bucketOf 1 ∧ (Cond.instanceMethod yIX_bucketOf ∈ ts_all ∧ Cond.selects yIX_bucketOf.cls yIX_bucketOf yIX_bucketOf ∈ ts_all) := ⟨⟨tw_184, tw_3, tw_187, by decide +kernel, by decide +kernel, by decide +kernel⟩, ⟨tw_185, tw_186⟩⟩
theorem pTS_C188 : ts_lk "TailedStore" 188 yTS_openPage YTS_openPage 0 ∧ (Cond.instanceMethod yTS_openPage ∈ ts_all ∧ Cond.selects yTS_openPage.cls yTS_openPage yTS_openPage ∈ ts_all) := ⟨⟨tw_196, tw_1, tw_199, by decide +kernel, by decide +kernel, by decide +kernel⟩, ⟨tw_198, tws_3⟩⟩
theorem pTS_F59 : ts_gF "TailedStore" 59 4 1 := ⟨RTS, FTS, 17, rfl, by decide, inTS, tw_122⟩
theorem pTS_C191 : ts_lk "TailedStore" 191 yTS_flush YTS_flush 1 ∧ (Cond.instanceMethod yTS_flush ∈ ts_all ∧ Cond.selects yTS_flush.cls yTS_flush yTS_flush ∈ ts_all) := ⟨⟨tw_203, tw_1, tw_206, by decide +kernel, by decide +kernel, by decide +kernel⟩, ⟨tw_205, tws_4⟩⟩
theorem pTS_C194 : ts_lk "TailedStore" 194 yTS_flushPage YTS_flushPage 1 ∧ (Cond.instanceMethod yTS_flushPage ∈ ts_all ∧ Cond.selects yTS_flushPage.cls yTS_flushPage yTS_flushPage ∈ ts_all) := ⟨⟨tw_207, tw_1, tw_210, by decide +kernel, by decide +kernel, by decide +kernel⟩, ⟨tw_209, tws_5⟩⟩
theorem pTS_C197 : ts_lk "TailedStore" 197 yMA_writeBlock YMA_writeBlock 0 ∧ (Cond.instanceMethod yMA_writeBlock ∈ ts_all ∧ Cond.selects yMA_writeBlock.cls yMA_writeBlock yMA_writeBlock ∈ ts_all) := ⟨⟨tw_211, tw_2, tw_214, by decide +kernel, by decide +kernel, by decide +kernel⟩, ⟨tw_212, tw_213⟩⟩
theorem pTS_F114 : ts_gF "TailedStore" 114 4 15 := ⟨RTS, FTS, 17, rfl, by decide, inTS, tw_136⟩
theorem pTS_F117 : ts_gF "TailedStore" 117 4 16 := ⟨RTS, FTS, 17, rfl, by decide, inTS, tw_137⟩
theorem pTS_P157 : ts_gP "TailedStore" 157 3 3 (.int) false := ⟨RSA, FSA, 5, TSA, rfl, by decide, inSA, tw_101, tSA_ok, nSA_ok, rfl, by decide +kernel, rfl⟩
theorem pTS_C200 : ts_lk "TailedStore" 200 yTS_lastBelowCut YTS_lastBelowCut 1 ∧ (Cond.instanceMethod yTS_lastBelowCut ∈ ts_all ∧ Cond.selects yTS_lastBelowCut.cls yTS_lastBelowCut yTS_lastBelowCut ∈ ts_all) := ⟨⟨tw_288, tw_1, tw_291, by decide +kernel, by decide +kernel, by decide +kernel⟩, ⟨tw_290, tws_12⟩⟩
theorem pTS_F102 : ts_gF "TailedStore" 102 3 2 := ⟨RSA, FSA, 5, rfl, by decide, inSA, tw_100⟩
theorem pMO_L1 : Cond.methodLink "TailedStoreModel" 1 Lib.objectInit ∈ ts_all := tw_320
theorem pMO_P7 : ts_gP "TailedStoreModel" 7 5 2 (.array .int) true := ⟨RMO, FMO, 32, TMO, rfl, by decide, inMO, tw_327, tMO_ok, nMO_ok, rfl, by decide +kernel, rfl⟩
theorem pMO_P13 : ts_gP "TailedStoreModel" 13 5 3 (.array .int) true := ⟨RMO, FMO, 32, TMO, rfl, by decide, inMO, tw_328, tMO_ok, nMO_ok, rfl, by decide +kernel, rfl⟩
theorem pMO_P16 : ts_gP "TailedStoreModel" 16 5 4 (.array .int) true := ⟨RMO, FMO, 32, TMO, rfl, by decide, inMO, tw_329, tMO_ok, nMO_ok, rfl, by decide +kernel, rfl⟩
theorem pMO_P19 : ts_gP "TailedStoreModel" 19 5 5 (.array .int) true := ⟨RMO, FMO, 32, TMO, rfl, by decide, inMO, tw_330, tMO_ok, nMO_ok, rfl, by decide +kernel, rfl⟩
theorem pMO_P22 : ts_gP "TailedStoreModel" 22 5 6 (.array .boolean) true := ⟨RMO, FMO, 32, TMO, rfl, by decide, inMO, tw_331, tMO_ok, nMO_ok, rfl, by decide +kernel, rfl⟩
theorem pMO_P26 : ts_gP "TailedStoreModel" 26 5 14 (.array .int) true := ⟨RMO, FMO, 32, TMO, rfl, by decide, inMO, tw_339, tMO_ok, nMO_ok, rfl, by decide +kernel, rfl⟩
theorem pMO_P29 : ts_gP "TailedStoreModel" 29 5 25 (.array .int) true := ⟨RMO, FMO, 32, TMO, rfl, by decide, inMO, tw_350, tMO_ok, nMO_ok, rfl, by decide +kernel, rfl⟩
theorem pMO_P32 : ts_gP "TailedStoreModel" 32 5 26 (.array .int) true := ⟨RMO, FMO, 32, TMO, rfl, by decide, inMO, tw_351, tMO_ok, nMO_ok, rfl, by decide +kernel, rfl⟩
theorem pMO_P35 : ts_gP "TailedStoreModel" 35 5 27 (.array .int) true := ⟨RMO, FMO, 32, TMO, rfl, by decide, inMO, tw_352, tMO_ok, nMO_ok, rfl, by decide +kernel, rfl⟩
theorem pMO_P38 : ts_gP "TailedStoreModel" 38 5 28 (.array .int) true := ⟨RMO, FMO, 32, TMO, rfl, by decide, inMO, tw_353, tMO_ok, nMO_ok, rfl, by decide +kernel, rfl⟩
theorem pMO_P41 : ts_gP "TailedStoreModel" 41 5 29 (.array .int) true := ⟨RMO, FMO, 32, TMO, rfl, by decide, inMO, tw_354, tMO_ok, nMO_ok, rfl, by decide +kernel, rfl⟩
theorem pMO_P44 : ts_gP "TailedStoreModel" 44 5 30 (.array .int) true := ⟨RMO, FMO, 32, TMO, rfl, by decide, inMO, tw_355, tMO_ok, nMO_ok, rfl, by decide +kernel, rfl⟩
theorem pMO_P47 : ts_gP "TailedStoreModel" 47 5 31 (.array .int) true := ⟨RMO, FMO, 32, TMO, rfl, by decide, inMO, tw_356, tMO_ok, nMO_ok, rfl, by decide +kernel, rfl⟩
theorem pMO_P50 : ts_gP "TailedStoreModel" 50 5 0 (.int) true := ⟨RMO, FMO, 32, TMO, rfl, by decide, inMO, tw_325, tMO_ok, nMO_ok, rfl, by decide +kernel, rfl⟩
theorem pMO_F50 : ts_gF "TailedStoreModel" 50 5 0 := ⟨RMO, FMO, 32, rfl, by decide, inMO, tw_325⟩
theorem pMO_P54 : ts_gP "TailedStoreModel" 54 5 1 (.int) true := ⟨RMO, FMO, 32, TMO, rfl, by decide, inMO, tw_326, tMO_ok, nMO_ok, rfl, by decide +kernel, rfl⟩
theorem pMO_P57 : ts_gP "TailedStoreModel" 57 5 24 (.int) false := ⟨RMO, FMO, 32, TMO, rfl, by decide, inMO, tw_349, tMO_ok, nMO_ok, rfl, by decide +kernel, rfl⟩
theorem pMO_C60 : ts_lk "TailedStoreModel" 60 yMO_empty YMO_empty 0 ∧ (Cond.instanceMethod yMO_empty ∈ ts_all ∧ Cond.selects yMO_empty.cls yMO_empty yMO_empty ∈ ts_all) := ⟨⟨tw_321, tw_8, tw_324, by decide +kernel, by decide +kernel, by decide +kernel⟩, ⟨tw_323, tws_14⟩⟩
theorem pMO_P63 : ts_gP "TailedStoreModel" 63 5 7 (.int) false := ⟨RMO, FMO, 32, TMO, rfl, by decide, inMO, tw_332, tMO_ok, nMO_ok, rfl, by decide +kernel, rfl⟩
theorem pMO_P66 : ts_gP "TailedStoreModel" 66 5 8 (.int) false := ⟨RMO, FMO, 32, TMO, rfl, by decide, inMO, tw_333, tMO_ok, nMO_ok, rfl, by decide +kernel, rfl⟩
theorem pMO_P69 : ts_gP "TailedStoreModel" 69 5 9 (.int) false := ⟨RMO, FMO, 32, TMO, rfl, by decide, inMO, tw_334, tMO_ok, nMO_ok, rfl, by decide +kernel, rfl⟩
theorem pMO_P72 : ts_gP "TailedStoreModel" 72 5 10 (.int) false := ⟨RMO, FMO, 32, TMO, rfl, by decide, inMO, tw_335, tMO_ok, nMO_ok, rfl, by decide +kernel, rfl⟩
theorem pMO_P75 : ts_gP "TailedStoreModel" 75 5 11 (.int) false := ⟨RMO, FMO, 32, TMO, rfl, by decide, inMO, tw_336, tMO_ok, nMO_ok, rfl, by decide +kernel, rfl⟩
theorem pMO_P78 : ts_gP "TailedStoreModel" 78 5 12 (.int) false := ⟨RMO, FMO, 32, TMO, rfl, by decide, inMO, tw_337, tMO_ok, nMO_ok, rfl, by decide +kernel, rfl⟩
theorem pMO_P81 : ts_gP "TailedStoreModel" 81 5 13 (.int) false := ⟨RMO, FMO, 32, TMO, rfl, by decide, inMO, tw_338, tMO_ok, nMO_ok, rfl, by decide +kernel, rfl⟩
theorem pMO_P84 : ts_gP "TailedStoreModel" 84 5 15 (.int) false := ⟨RMO, FMO, 32, TMO, rfl, by decide, inMO, tw_340, tMO_ok, nMO_ok, rfl, by decide +kernel, rfl⟩
theorem pMO_F26 : ts_gF "TailedStoreModel" 26 5 14 := ⟨RMO, FMO, 32, rfl, by decide, inMO, tw_339⟩
theorem pMO_F78 : ts_gF "TailedStoreModel" 78 5 12 := ⟨RMO, FMO, 32, rfl, by decide, inMO, tw_337⟩
theorem pMO_F81 : ts_gF "TailedStoreModel" 81 5 13 := ⟨RMO, FMO, 32, rfl, by decide, inMO, tw_338⟩
theorem pMO_C87 : ts_lk "TailedStoreModel" 87 yMO_bucketOf YMO_bucketOf 1 ∧ (Cond.instanceMethod yMO_bucketOf ∈ ts_all ∧ Cond.selects yMO_bucketOf.cls yMO_bucketOf yMO_bucketOf ∈ ts_all) := ⟨⟨tw_433, tw_8, tw_436, by decide +kernel, by decide +kernel, by decide +kernel⟩, ⟨tw_435, tws_16⟩⟩
theorem pMO_F63 : ts_gF "TailedStoreModel" 63 5 7 := ⟨RMO, FMO, 32, rfl, by decide, inMO, tw_332⟩
theorem pMO_F66 : ts_gF "TailedStoreModel" 66 5 8 := ⟨RMO, FMO, 32, rfl, by decide, inMO, tw_333⟩
theorem pMO_F91 : ts_gF "TailedStoreModel" 91 5 19 := ⟨RMO, FMO, 32, rfl, by decide, inMO, tw_344⟩
theorem pMO_P91 : ts_gP "TailedStoreModel" 91 5 19 (.int) false := ⟨RMO, FMO, 32, TMO, rfl, by decide, inMO, tw_344, tMO_ok, nMO_ok, rfl, by decide +kernel, rfl⟩
theorem pMO_F7 : ts_gF "TailedStoreModel" 7 5 2 := ⟨RMO, FMO, 32, rfl, by decide, inMO, tw_327⟩
theorem pMO_F16 : ts_gF "TailedStoreModel" 16 5 4 := ⟨RMO, FMO, 32, rfl, by decide, inMO, tw_329⟩
theorem pMO_F94 : ts_gF "TailedStoreModel" 94 5 18 := ⟨RMO, FMO, 32, rfl, by decide, inMO, tw_343⟩
theorem pMO_P94 : ts_gP "TailedStoreModel" 94 5 18 (.int) false := ⟨RMO, FMO, 32, TMO, rfl, by decide, inMO, tw_343, tMO_ok, nMO_ok, rfl, by decide +kernel, rfl⟩
theorem pMO_F97 : ts_gF "TailedStoreModel" 97 5 16 := ⟨RMO, FMO, 32, rfl, by decide, inMO, tw_341⟩
theorem pMO_P97 : ts_gP "TailedStoreModel" 97 5 16 (.int) false := ⟨RMO, FMO, 32, TMO, rfl, by decide, inMO, tw_341, tMO_ok, nMO_ok, rfl, by decide +kernel, rfl⟩
theorem pMO_F100 : ts_gF "TailedStoreModel" 100 5 17 := ⟨RMO, FMO, 32, rfl, by decide, inMO, tw_342⟩
theorem pMO_P100 : ts_gP "TailedStoreModel" 100 5 17 (.boolean) false := ⟨RMO, FMO, 32, TMO, rfl, by decide, inMO, tw_342, tMO_ok, nMO_ok, rfl, by decide +kernel, rfl⟩
theorem pMO_F69 : ts_gF "TailedStoreModel" 69 5 9 := ⟨RMO, FMO, 32, rfl, by decide, inMO, tw_334⟩
theorem pMO_C104 : ts_lk "TailedStoreModel" 104 yMO_pageEnd YMO_pageEnd 1 ∧ Cond.static yMO_pageEnd ∈ ts_all := ⟨⟨tw_449, tw_8, tw_451, by decide +kernel, by decide +kernel, by decide +kernel⟩, tw_450⟩
theorem pMO_C107 : ts_lk "TailedStoreModel" 107 yMO_block YMO_block 0 ∧ (Cond.instanceMethod yMO_block ∈ ts_all ∧ Cond.selects yMO_block.cls yMO_block yMO_block ∈ ts_all) := ⟨⟨tw_456, tw_8, tw_459, by decide +kernel, by decide +kernel, by decide +kernel⟩, ⟨tw_458, tws_21⟩⟩
theorem pMO_F75 : ts_gF "TailedStoreModel" 75 5 11 := ⟨RMO, FMO, 32, rfl, by decide, inMO, tw_336⟩
theorem pMO_F54 : ts_gF "TailedStoreModel" 54 5 1 := ⟨RMO, FMO, 32, rfl, by decide, inMO, tw_326⟩
theorem pMO_F72 : ts_gF "TailedStoreModel" 72 5 10 := ⟨RMO, FMO, 32, rfl, by decide, inMO, tw_335⟩
theorem pMO_C111 : ts_lk "TailedStoreModel" 111 yMO_flush YMO_flush 1 ∧ (Cond.instanceMethod yMO_flush ∈ ts_all ∧ Cond.selects yMO_flush.cls yMO_flush yMO_flush ∈ ts_all) := ⟨⟨tw_452, tw_8, tw_455, by decide +kernel, by decide +kernel, by decide +kernel⟩, ⟨tw_454, tws_20⟩⟩
theorem pMO_C115 : ts_lk "TailedStoreModel" 115 yMO_room YMO_room 0 ∧ (Cond.instanceMethod yMO_room ∈ ts_all ∧ Cond.selects yMO_room.cls yMO_room yMO_room ∈ ts_all) := ⟨⟨tw_445, tw_8, tw_448, by decide +kernel, by decide +kernel, by decide +kernel⟩, ⟨tw_447, tws_19⟩⟩
theorem pMO_F13 : ts_gF "TailedStoreModel" 13 5 3 := ⟨RMO, FMO, 32, rfl, by decide, inMO, tw_328⟩
theorem pMO_F22 : ts_gF "TailedStoreModel" 22 5 6 := ⟨RMO, FMO, 32, rfl, by decide, inMO, tw_331⟩
theorem pMO_F19 : ts_gF "TailedStoreModel" 19 5 5 := ⟨RMO, FMO, 32, rfl, by decide, inMO, tw_330⟩
theorem pMO_F84 : ts_gF "TailedStoreModel" 84 5 15 := ⟨RMO, FMO, 32, rfl, by decide, inMO, tw_340⟩
theorem pMO_C118 : ts_lk "TailedStoreModel" 118 yMO_append YMO_append 3 ∧ (Cond.instanceMethod yMO_append ∈ ts_all ∧ Cond.selects yMO_append.cls yMO_append yMO_append ∈ ts_all) := ⟨⟨tw_441, tw_8, tw_444, by decide +kernel, by decide +kernel, by decide +kernel⟩, ⟨tw_443, tws_18⟩⟩
theorem pMO_C122 : ts_lk "TailedStoreModel" 122 yMO_isKey YMO_isKey 1 ∧ Cond.static yMO_isKey ∈ ts_all := ⟨⟨tw_426, tw_8, tw_428, by decide +kernel, by decide +kernel, by decide +kernel⟩, tw_427⟩
theorem pMO_C125 : ts_lk "TailedStoreModel" 125 yMO_find YMO_find 2 ∧ (Cond.instanceMethod yMO_find ∈ ts_all ∧ Cond.selects yMO_find.cls yMO_find yMO_find ∈ ts_all) := ⟨⟨tw_429, tw_8, tw_432, by decide +kernel, by decide +kernel, by decide +kernel⟩, ⟨tw_431, tws_15⟩⟩
theorem pMO_C129 : ts_lk "TailedStoreModel" 129 yMO_set YMO_set 4 ∧ (Cond.instanceMethod yMO_set ∈ ts_all ∧ Cond.selects yMO_set.cls yMO_set yMO_set ∈ ts_all) := ⟨⟨tw_437, tw_8, tw_440, by decide +kernel, by decide +kernel, by decide +kernel⟩, ⟨tw_439, tws_17⟩⟩
theorem pMO_P133 : ts_gP "TailedStoreModel" 133 5 20 (.int) false := ⟨RMO, FMO, 32, TMO, rfl, by decide, inMO, tw_345, tMO_ok, nMO_ok, rfl, by decide +kernel, rfl⟩
theorem pMO_F133 : ts_gF "TailedStoreModel" 133 5 20 := ⟨RMO, FMO, 32, rfl, by decide, inMO, tw_345⟩
theorem pMO_F136 : ts_gF "TailedStoreModel" 136 5 21 := ⟨RMO, FMO, 32, rfl, by decide, inMO, tw_346⟩
theorem pMO_F57 : ts_gF "TailedStoreModel" 57 5 24 := ⟨RMO, FMO, 32, rfl, by decide, inMO, tw_349⟩
theorem pMO_F29 : ts_gF "TailedStoreModel" 29 5 25 := ⟨RMO, FMO, 32, rfl, by decide, inMO, tw_350⟩
theorem pMO_F32 : ts_gF "TailedStoreModel" 32 5 26 := ⟨RMO, FMO, 32, rfl, by decide, inMO, tw_351⟩
theorem pMO_F35 : ts_gF "TailedStoreModel" 35 5 27 := ⟨RMO, FMO, 32, rfl, by decide, inMO, tw_352⟩
theorem pMO_F41 : ts_gF "TailedStoreModel" 41 5 29 := ⟨RMO, FMO, 32, rfl, by decide, inMO, tw_354⟩
theorem pMO_F44 : ts_gF "TailedStoreModel" 44 5 30 := ⟨RMO, FMO, 32, rfl, by decide, inMO, tw_355⟩
theorem pMO_P136 : ts_gP "TailedStoreModel" 136 5 21 (.int) false := ⟨RMO, FMO, 32, TMO, rfl, by decide, inMO, tw_346, tMO_ok, nMO_ok, rfl, by decide +kernel, rfl⟩
theorem pMO_P139 : ts_gP "TailedStoreModel" 139 5 22 (.int) false := ⟨RMO, FMO, 32, TMO, rfl, by decide, inMO, tw_347, tMO_ok, nMO_ok, rfl, by decide +kernel, rfl⟩
theorem pMO_P142 : ts_gP "TailedStoreModel" 142 5 23 (.boolean) false := ⟨RMO, FMO, 32, TMO, rfl, by decide, inMO, tw_348, tMO_ok, nMO_ok, rfl, by decide +kernel, rfl⟩
theorem pMO_F139 : ts_gF "TailedStoreModel" 139 5 22 := ⟨RMO, FMO, 32, rfl, by decide, inMO, tw_347⟩
theorem pMO_C145 : ts_lk "TailedStoreModel" 145 yMO_bucketCount YMO_bucketCount 0 ∧ (Cond.instanceMethod yMO_bucketCount ∈ ts_all ∧ Cond.selects yMO_bucketCount.cls yMO_bucketCount yMO_bucketCount ∈ ts_all) := ⟨⟨tw_488, tw_8, tw_491, by decide +kernel, by decide +kernel, by decide +kernel⟩, ⟨tw_490, tws_23⟩⟩
theorem pMO_F47 : ts_gF "TailedStoreModel" 47 5 31 := ⟨RMO, FMO, 32, rfl, by decide, inMO, tw_356⟩
theorem pMO_C149 : ts_lk "TailedStoreModel" 149 yMO_writing YMO_writing 0 ∧ (Cond.instanceMethod yMO_writing ∈ ts_all ∧ Cond.selects yMO_writing.cls yMO_writing yMO_writing ∈ ts_all) := ⟨⟨tw_492, tw_8, tw_495, by decide +kernel, by decide +kernel, by decide +kernel⟩, ⟨tw_494, tws_24⟩⟩
theorem pMO_F142 : ts_gF "TailedStoreModel" 142 5 23 := ⟨RMO, FMO, 32, rfl, by decide, inMO, tw_348⟩
theorem pMO_F38 : ts_gF "TailedStoreModel" 38 5 28 := ⟨RMO, FMO, 32, rfl, by decide, inMO, tw_353⟩
theorem pMO_C152 : ts_lk "TailedStoreModel" 152 yMO_image YMO_image 0 ∧ (Cond.instanceMethod yMO_image ∈ ts_all ∧ Cond.selects yMO_image.cls yMO_image yMO_image ∈ ts_all) := ⟨⟨tw_484, tw_8, tw_487, by decide +kernel, by decide +kernel, by decide +kernel⟩, ⟨tw_486, tws_22⟩⟩
theorem pMO_C155 : ts_lk "TailedStoreModel" 155 yMO_flushing YMO_flushing 0 ∧ (Cond.instanceMethod yMO_flushing ∈ ts_all ∧ Cond.selects yMO_flushing.cls yMO_flushing yMO_flushing ∈ ts_all) := ⟨⟨tw_496, tw_8, tw_499, by decide +kernel, by decide +kernel, by decide +kernel⟩, ⟨tw_498, tws_25⟩⟩
theorem pMO_C158 : ts_lk "TailedStoreModel" 158 yMO_living YMO_living 0 ∧ (Cond.instanceMethod yMO_living ∈ ts_all ∧ Cond.selects yMO_living.cls yMO_living yMO_living ∈ ts_all) := ⟨⟨tw_532, tw_8, tw_535, by decide +kernel, by decide +kernel, by decide +kernel⟩, ⟨tw_534, tws_26⟩⟩
theorem pLW_N7 : ts_gN "TailedStoreLaw" 7 4 17 [.int 0, .int 0, .null, .null, .null, .int 0, .int 0, .int 0, .int 0, .int 0, .int 0, .int 0, .null, .null, .int 0, .int 0, .int 0] := ⟨RTS, FTS, TTS, rfl, inTS, tTS_ok, tw_9, tw_10, tw_1, by decide +kernel, fun _ => rfl⟩
theorem pLW_C9 : ts_lk "TailedStoreLaw" 9 yLW_cell YLW_cell 2 ∧ Cond.static yLW_cell ∈ ts_all := ⟨⟨tw_312, tw_0, tw_314, by decide +kernel, by decide +kernel, by decide +kernel⟩, tw_313⟩
theorem pLW_C15 : ts_lk "TailedStoreLaw" 15 yTS_init YTS_init 2 ∧ (yTS_init.name = "<init>" ∧ Cond.instanceMethod yTS_init ∈ ts_all) := ⟨⟨tw_11, tw_1, tw_13, by decide +kernel, by decide +kernel, by decide +kernel⟩, ⟨rfl, tw_12⟩⟩
theorem pLW_N18 : ts_gN "TailedStoreLaw" 18 5 32 [.int 0, .int 0, .null, .null, .null, .null, .null, .int 0, .int 0, .int 0, .int 0, .int 0, .int 0, .int 0, .null, .int 0, .int 0, .int 0, .int 0, .int 0, .int 0, .int 0, .int 0, .int 0, .int 0, .null, .null, .null, .null, .null, .null, .null] := ⟨RMO, FMO, TMO, rfl, inMO, tMO_ok, tw_315, tw_316, tw_8, by decide +kernel, fun _ => rfl⟩
theorem pLW_C20 : ts_lk "TailedStoreLaw" 20 yMO_init YMO_init 2 ∧ (yMO_init.name = "<init>" ∧ Cond.instanceMethod yMO_init ∈ ts_all) := ⟨⟨tw_317, tw_8, tw_319, by decide +kernel, by decide +kernel, by decide +kernel⟩, ⟨rfl, tw_318⟩⟩
theorem pLW_C21 : ts_lk "TailedStoreLaw" 21 yTS_put YTS_put 2 ∧ (Cond.instanceMethod yTS_put ∈ ts_all ∧ Cond.selects yTS_put.cls yTS_put yTS_put ∈ ts_all) := ⟨⟨tw_173, tw_1, tw_176, by decide +kernel, by decide +kernel, by decide +kernel⟩, ⟨tw_174, tw_175⟩⟩
theorem pLW_C25 : ts_lk "TailedStoreLaw" 25 yMO_put YMO_put 2 ∧ (Cond.instanceMethod yMO_put ∈ ts_all ∧ Cond.selects yMO_put.cls yMO_put yMO_put ∈ ts_all) := ⟨⟨tw_422, tw_8, tw_425, by decide +kernel, by decide +kernel, by decide +kernel⟩, ⟨tw_423, tw_424⟩⟩
theorem pLW_C26 : ts_lk "TailedStoreLaw" 26 yTS_add YTS_add 2 ∧ (Cond.instanceMethod yTS_add ∈ ts_all ∧ Cond.selects yTS_add.cls yTS_add yTS_add ∈ ts_all) := ⟨⟨tw_215, tw_1, tw_218, by decide +kernel, by decide +kernel, by decide +kernel⟩, ⟨tw_216, tw_217⟩⟩
theorem pLW_C29 : ts_lk "TailedStoreLaw" 29 yMO_add YMO_add 2 ∧ (Cond.instanceMethod yMO_add ∈ ts_all ∧ Cond.selects yMO_add.cls yMO_add yMO_add ∈ ts_all) := ⟨⟨tw_460, tw_8, tw_463, by decide +kernel, by decide +kernel, by decide +kernel⟩, ⟨tw_461, tw_462⟩⟩
theorem pLW_C30 : ts_lk "TailedStoreLaw" 30 yTS_delete YTS_delete 1 ∧ (Cond.instanceMethod yTS_delete ∈ ts_all ∧ Cond.selects yTS_delete.cls yTS_delete yTS_delete ∈ ts_all) := ⟨⟨tw_223, tw_1, tw_226, by decide +kernel, by decide +kernel, by decide +kernel⟩, ⟨tw_224, tw_225⟩⟩
theorem pLW_C34 : ts_lk "TailedStoreLaw" 34 yMO_delete YMO_delete 1 ∧ (Cond.instanceMethod yMO_delete ∈ ts_all ∧ Cond.selects yMO_delete.cls yMO_delete yMO_delete ∈ ts_all) := ⟨⟨tw_464, tw_8, tw_467, by decide +kernel, by decide +kernel, by decide +kernel⟩, ⟨tw_465, tw_466⟩⟩
theorem pLW_C35 : ts_lk "TailedStoreLaw" 35 yTS_read YTS_read 1 ∧ (Cond.instanceMethod yTS_read ∈ ts_all ∧ Cond.selects yTS_read.cls yTS_read yTS_read ∈ ts_all) := ⟨⟨tw_227, tw_1, tw_230, by decide +kernel, by decide +kernel, by decide +kernel⟩, ⟨tw_228, tw_229⟩⟩
theorem pLW_C38 : ts_lk "TailedStoreLaw" 38 yMO_read YMO_read 1 ∧ (Cond.instanceMethod yMO_read ∈ ts_all ∧ Cond.selects yMO_read.cls yMO_read yMO_read ∈ ts_all) := ⟨⟨tw_468, tw_8, tw_471, by decide +kernel, by decide +kernel, by decide +kernel⟩, ⟨tw_469, tw_470⟩⟩
theorem pLW_C39 : ts_lk "TailedStoreLaw" 39 yTS_value YTS_value 0 ∧ (Cond.instanceMethod yTS_value ∈ ts_all ∧ Cond.selects yTS_value.cls yTS_value yTS_value ∈ ts_all) := ⟨⟨tw_231, tw_1, tw_234, by decide +kernel, by decide +kernel, by decide +kernel⟩, ⟨tw_232, tw_233⟩⟩
theorem pLW_C43 : ts_lk "TailedStoreLaw" 43 yMO_value YMO_value 0 ∧ (Cond.instanceMethod yMO_value ∈ ts_all ∧ Cond.selects yMO_value.cls yMO_value yMO_value ∈ ts_all) := ⟨⟨tw_472, tw_8, tw_475, by decide +kernel, by decide +kernel, by decide +kernel⟩, ⟨tw_473, tw_474⟩⟩
theorem pLW_C44 : ts_lk "TailedStoreLaw" 44 yTS_checkpoint YTS_checkpoint 0 ∧ (Cond.instanceMethod yTS_checkpoint ∈ ts_all ∧ Cond.selects yTS_checkpoint.cls yTS_checkpoint yTS_checkpoint ∈ ts_all) := ⟨⟨tw_235, tw_1, tw_238, by decide +kernel, by decide +kernel, by decide +kernel⟩, ⟨tw_236, tw_237⟩⟩
theorem pLW_C47 : ts_lk "TailedStoreLaw" 47 yMO_checkpoint YMO_checkpoint 0 ∧ (Cond.instanceMethod yMO_checkpoint ∈ ts_all ∧ Cond.selects yMO_checkpoint.cls yMO_checkpoint yMO_checkpoint ∈ ts_all) := ⟨⟨tw_476, tw_8, tw_479, by decide +kernel, by decide +kernel, by decide +kernel⟩, ⟨tw_477, tw_478⟩⟩
theorem pLW_C48 : ts_lk "TailedStoreLaw" 48 yTS_step YTS_step 0 ∧ (Cond.instanceMethod yTS_step ∈ ts_all ∧ Cond.selects yTS_step.cls yTS_step yTS_step ∈ ts_all) := ⟨⟨tw_239, tw_1, tw_242, by decide +kernel, by decide +kernel, by decide +kernel⟩, ⟨tw_240, tw_241⟩⟩
theorem pLW_C51 : ts_lk "TailedStoreLaw" 51 yMO_step YMO_step 0 ∧ (Cond.instanceMethod yMO_step ∈ ts_all ∧ Cond.selects yMO_step.cls yMO_step yMO_step ∈ ts_all) := ⟨⟨tw_480, tw_8, tw_483, by decide +kernel, by decide +kernel, by decide +kernel⟩, ⟨tw_481, tw_482⟩⟩
theorem pLW_C52 : ts_lk "TailedStoreLaw" 52 yTS_grow YTS_grow 0 ∧ (Cond.instanceMethod yTS_grow ∈ ts_all ∧ Cond.selects yTS_grow.cls yTS_grow yTS_grow ∈ ts_all) := ⟨⟨tw_259, tw_1, tw_262, by decide +kernel, by decide +kernel, by decide +kernel⟩, ⟨tw_260, tw_261⟩⟩
theorem pLW_C55 : ts_lk "TailedStoreLaw" 55 yMO_grow YMO_grow 0 ∧ (Cond.instanceMethod yMO_grow ∈ ts_all ∧ Cond.selects yMO_grow.cls yMO_grow yMO_grow ∈ ts_all) := ⟨⟨tw_500, tw_8, tw_503, by decide +kernel, by decide +kernel, by decide +kernel⟩, ⟨tw_501, tw_502⟩⟩
theorem pLW_C56 : ts_lk "TailedStoreLaw" 56 yTS_compact YTS_compact 0 ∧ (Cond.instanceMethod yTS_compact ∈ ts_all ∧ Cond.selects yTS_compact.cls yTS_compact yTS_compact ∈ ts_all) := ⟨⟨tw_268, tw_1, tw_271, by decide +kernel, by decide +kernel, by decide +kernel⟩, ⟨tw_269, tw_270⟩⟩
theorem pLW_C59 : ts_lk "TailedStoreLaw" 59 yMO_compact YMO_compact 0 ∧ (Cond.instanceMethod yMO_compact ∈ ts_all ∧ Cond.selects yMO_compact.cls yMO_compact yMO_compact ∈ ts_all) := ⟨⟨tw_504, tw_8, tw_507, by decide +kernel, by decide +kernel, by decide +kernel⟩, ⟨tw_505, tw_506⟩⟩
theorem pLW_C60 : ts_lk "TailedStoreLaw" 60 yTS_fuse YTS_fuse 1 ∧ (Cond.instanceMethod yTS_fuse ∈ ts_all ∧ Cond.selects yTS_fuse.cls yTS_fuse yTS_fuse ∈ ts_all) := ⟨⟨tw_276, tw_1, tw_279, by decide +kernel, by decide +kernel, by decide +kernel⟩, ⟨tw_277, tw_278⟩⟩
theorem pLW_C64 : ts_lk "TailedStoreLaw" 64 yMO_fuse YMO_fuse 1 ∧ (Cond.instanceMethod yMO_fuse ∈ ts_all ∧ Cond.selects yMO_fuse.cls yMO_fuse yMO_fuse ∈ ts_all) := ⟨⟨tw_508, tw_8, tw_511, by decide +kernel, by decide +kernel, by decide +kernel⟩, ⟨tw_509, tw_510⟩⟩
theorem pLW_C65 : ts_lk "TailedStoreLaw" 65 yTS_recover YTS_recover 0 ∧ (Cond.instanceMethod yTS_recover ∈ ts_all ∧ Cond.selects yTS_recover.cls yTS_recover yTS_recover ∈ ts_all) := ⟨⟨tw_280, tw_1, tw_283, by decide +kernel, by decide +kernel, by decide +kernel⟩, ⟨tw_281, tw_282⟩⟩
theorem pLW_C68 : ts_lk "TailedStoreLaw" 68 yMO_recover YMO_recover 0 ∧ (Cond.instanceMethod yMO_recover ∈ ts_all ∧ Cond.selects yMO_recover.cls yMO_recover yMO_recover ∈ ts_all) := ⟨⟨tw_512, tw_8, tw_515, by decide +kernel, by decide +kernel, by decide +kernel⟩, ⟨tw_513, tw_514⟩⟩
theorem pLW_C69 : ts_lk "TailedStoreLaw" 69 yTS_address YTS_address 1 ∧ (Cond.instanceMethod yTS_address ∈ ts_all ∧ Cond.selects yTS_address.cls yTS_address yTS_address ∈ ts_all) := ⟨⟨tw_292, tw_1, tw_295, by decide +kernel, by decide +kernel, by decide +kernel⟩, ⟨tw_293, tw_294⟩⟩
theorem pLW_C72 : ts_lk "TailedStoreLaw" 72 yMO_address YMO_address 1 ∧ (Cond.instanceMethod yMO_address ∈ ts_all ∧ Cond.selects yMO_address.cls yMO_address yMO_address ∈ ts_all) := ⟨⟨tw_516, tw_8, tw_519, by decide +kernel, by decide +kernel, by decide +kernel⟩, ⟨tw_517, tw_518⟩⟩
theorem pLW_C73 : ts_lk "TailedStoreLaw" 73 yTS_entry YTS_entry 2 ∧ (Cond.instanceMethod yTS_entry ∈ ts_all ∧ Cond.selects yTS_entry.cls yTS_entry yTS_entry ∈ ts_all) := ⟨⟨tw_296, tw_1, tw_299, by decide +kernel, by decide +kernel, by decide +kernel⟩, ⟨tw_297, tw_298⟩⟩
theorem pLW_C76 : ts_lk "TailedStoreLaw" 76 yMO_entry YMO_entry 2 ∧ (Cond.instanceMethod yMO_entry ∈ ts_all ∧ Cond.selects yMO_entry.cls yMO_entry yMO_entry ∈ ts_all) := ⟨⟨tw_520, tw_8, tw_523, by decide +kernel, by decide +kernel, by decide +kernel⟩, ⟨tw_521, tw_522⟩⟩
theorem pLW_C77 : ts_lk "TailedStoreLaw" 77 yTS_bucket YTS_bucket 1 ∧ (Cond.instanceMethod yTS_bucket ∈ ts_all ∧ Cond.selects yTS_bucket.cls yTS_bucket yTS_bucket ∈ ts_all) := ⟨⟨tw_300, tw_1, tw_303, by decide +kernel, by decide +kernel, by decide +kernel⟩, ⟨tw_301, tw_302⟩⟩
theorem pLW_C80 : ts_lk "TailedStoreLaw" 80 yMO_bucket YMO_bucket 1 ∧ (Cond.instanceMethod yMO_bucket ∈ ts_all ∧ Cond.selects yMO_bucket.cls yMO_bucket yMO_bucket ∈ ts_all) := ⟨⟨tw_524, tw_8, tw_527, by decide +kernel, by decide +kernel, by decide +kernel⟩, ⟨tw_525, tw_526⟩⟩
theorem pLW_C81 : ts_lk "TailedStoreLaw" 81 yTS_size YTS_size 1 ∧ (Cond.instanceMethod yTS_size ∈ ts_all ∧ Cond.selects yTS_size.cls yTS_size yTS_size ∈ ts_all) := ⟨⟨tw_304, tw_1, tw_307, by decide +kernel, by decide +kernel, by decide +kernel⟩, ⟨tw_305, tw_306⟩⟩
theorem pLW_C84 : ts_lk "TailedStoreLaw" 84 yMO_size YMO_size 1 ∧ (Cond.instanceMethod yMO_size ∈ ts_all ∧ Cond.selects yMO_size.cls yMO_size yMO_size ∈ ts_all) := ⟨⟨tw_528, tw_8, tw_531, by decide +kernel, by decide +kernel, by decide +kernel⟩, ⟨tw_529, tw_530⟩⟩
theorem tn_max_s : Cond.static Lib.Math.max.name ∈ ts_all := tw_119
theorem tn_max_c : Cond.code Lib.Math.max.name Lib.Math.max.code 2 (some .int) ∈ ts_all := tw_120
theorem tn_min_s : Cond.static Lib.Math.min.name ∈ ts_all := tw_116
theorem tn_min_c : Cond.code Lib.Math.min.name Lib.Math.min.code 2 (some .int) ∈ ts_all := tw_117
theorem tn_math : Cond.initialized "java/lang/Math" ∈ ts_all := tw_7
theorem tn_obj_i : Cond.instanceMethod Lib.objectInit ∈ ts_all := tw_15
theorem tn_obj_c : Cond.code Lib.objectInit ⟨#[0xb1]⟩ 1 none ∈ ts_all := tw_16
theorem tn_arrI : Cond.arrayClass .int ∈ ts_all := tw_61
theorem tn_arrZ : Cond.arrayClass .boolean ∈ ts_all := tw_89

set_option maxHeartbeats 4000000 in
set_option maxRecDepth 100000 in
/-- the law: feed -/
theorem law_0 {X : jX} {Q : State → Prop} {rt0 : Option FieldType} {b L o1 o2 : Nat} {xs : Nat → Int32} (C : jC X RL b_L_law (4, 99) rt0 7 600000 7302250) (hX : jSc X b L xs) (hL : L ≤ 3072) {j k n : Nat} {wa wb : jw} {s : jS} (hj6 : 6 * j + 6 ≤ L) (hC : RepC (xG X) wa o1 s) (hM : RepM (xG X) wb o2 s) (hW : WF s) (hk : k ≤ 60 + 4 * j) (hn : n ≤ 400000 + 1300 * j) (next : (∀ (wa' wb' : jw) (s' : jS) (k' n' : Nat), RepC (xG X) wa' o1 s' → RepM (xG X) wb' o2 s' → WF s' → k' ≤ 64 + 4 * j → n' ≤ 401300 + 1300 * j → J X (4, 99) Q (jj wa' wb') k' n' 695 [(0, .ref b), (1, .ref o1), (2, .ref o2), (3, .int (nI (6 * j)))] [])) : J X (4, 99) Q (jj wa wb) k n 116 [(0, .ref b), (1, .ref o1), (2, .ref o2), (3, .int (nI (6 * j)))] [] := by
  obtain ⟨fa, ha⟩ := hC.o
  obtain ⟨fb, hb⟩ := hM.o
  refine j_aload_n (i := 1) (t := 117) C d_L_law_116 rfl rfl (by first | exact jrv_r | exact jrv_n | exact jrv_f) rfl ?_
  refine j_aload_n (i := 0) (t := 118) C d_L_law_117 rfl rfl (by first | exact jrv_r | exact jrv_n | exact jrv_f) rfl ?_
  refine j_iload_n (i := 3) (t := 119) C d_L_law_118 rfl rfl rfl ?_
  refine j_iconst (x := 1) (t := 120) C d_L_law_119 rfl rfl ?_
  refine j_iadd (t := 121) C d_L_law_120 rfl ?_
  refine j_sld (N := 6 * j + 1) (t := 122) C d_L_law_121 hX (nI_add (6 * j) 1) (by omega) (by omega) rfl ?_
  refine j_aload_n (i := 0) (t := 123) C d_L_law_122 rfl rfl (by first | exact jrv_r | exact jrv_n | exact jrv_f) rfl ?_
  refine j_iload_n (i := 3) (t := 124) C d_L_law_123 rfl rfl rfl ?_
  refine j_iconst (x := 2) (t := 125) C d_L_law_124 rfl rfl ?_
  refine j_iadd (t := 126) C d_L_law_125 rfl ?_
  refine j_sld (N := 6 * j + 2) (t := 127) C d_L_law_126 hX (nI_add (6 * j) 2) (by omega) (by omega) rfl ?_
  refine j_aload_n (i := 0) (t := 128) C d_L_law_127 rfl rfl (by first | exact jrv_r | exact jrv_n | exact jrv_f) rfl ?_
  refine j_iload_n (i := 3) (t := 129) C d_L_law_128 rfl rfl rfl ?_
  refine j_iconst (x := 3) (t := 130) C d_L_law_129 rfl rfl ?_
  refine j_iadd (t := 131) C d_L_law_130 rfl ?_
  refine j_sld (N := 6 * j + 3) (t := 132) C d_L_law_131 hX (nI_add (6 * j) 3) (by omega) (by omega) rfl ?_
  refine j_aload_n (i := 0) (t := 133) C d_L_law_132 rfl rfl (by first | exact jrv_r | exact jrv_n | exact jrv_f) rfl ?_
  refine j_iload_n (i := 3) (t := 134) C d_L_law_133 rfl rfl rfl ?_
  refine j_iconst (x := 4) (t := 135) C d_L_law_134 rfl rfl ?_
  refine j_iadd (t := 136) C d_L_law_135 rfl ?_
  refine j_sld (N := 6 * j + 4) (t := 137) C d_L_law_136 hX (nI_add (6 * j) 4) (by omega) (by omega) rfl ?_
  refine j_aload_n (i := 0) (t := 138) C d_L_law_137 rfl rfl (by first | exact jrv_r | exact jrv_n | exact jrv_f) rfl ?_
  refine j_iload_n (i := 3) (t := 139) C d_L_law_138 rfl rfl rfl ?_
  refine j_iconst (x := 5) (t := 140) C d_L_law_139 rfl rfl ?_
  refine j_iadd (t := 141) C d_L_law_140 rfl ?_
  refine j_sld (N := 6 * j + 5) (t := 142) C d_L_law_141 hX (nI_add (6 * j) 5) (by omega) (by omega) rfl ?_
  refine j_callA (As := [_, _, _, _, _]) (t := 145) C (c_T_feed _ o1 s _ _ _ _ _) d_L_law_142 jb_T_feed ml_L_13 jv_T_feed ha rfl rfl rfl (Nat.le_of_ble_eq_true rfl) (by decide) (by omega) (by omega) (⟨rfl, hC, hW⟩) rfl (fun r142 w142 p142 => ?_)
  obtain ⟨rfl, hC2⟩ := p142
  dsimp only [jst]
  refine j_aload_n (i := 2) (t := 146) C d_L_law_145 rfl rfl (by first | exact jrv_r | exact jrv_n | exact jrv_f) rfl ?_
  refine j_aload_n (i := 0) (t := 147) C d_L_law_146 rfl rfl (by first | exact jrv_r | exact jrv_n | exact jrv_f) rfl ?_
  refine j_iload_n (i := 3) (t := 148) C d_L_law_147 rfl rfl rfl ?_
  refine j_iconst (x := 1) (t := 149) C d_L_law_148 rfl rfl ?_
  refine j_iadd (t := 150) C d_L_law_149 rfl ?_
  refine j_sld (N := 6 * j + 1) (t := 151) C d_L_law_150 hX (nI_add (6 * j) 1) (by omega) (by omega) rfl ?_
  refine j_aload_n (i := 0) (t := 152) C d_L_law_151 rfl rfl (by first | exact jrv_r | exact jrv_n | exact jrv_f) rfl ?_
  refine j_iload_n (i := 3) (t := 153) C d_L_law_152 rfl rfl rfl ?_
  refine j_iconst (x := 2) (t := 154) C d_L_law_153 rfl rfl ?_
  refine j_iadd (t := 155) C d_L_law_154 rfl ?_
  refine j_sld (N := 6 * j + 2) (t := 156) C d_L_law_155 hX (nI_add (6 * j) 2) (by omega) (by omega) rfl ?_
  refine j_aload_n (i := 0) (t := 157) C d_L_law_156 rfl rfl (by first | exact jrv_r | exact jrv_n | exact jrv_f) rfl ?_
  refine j_iload_n (i := 3) (t := 158) C d_L_law_157 rfl rfl rfl ?_
  refine j_iconst (x := 3) (t := 159) C d_L_law_158 rfl rfl ?_
  refine j_iadd (t := 160) C d_L_law_159 rfl ?_
  refine j_sld (N := 6 * j + 3) (t := 161) C d_L_law_160 hX (nI_add (6 * j) 3) (by omega) (by omega) rfl ?_
  refine j_aload_n (i := 0) (t := 162) C d_L_law_161 rfl rfl (by first | exact jrv_r | exact jrv_n | exact jrv_f) rfl ?_
  refine j_iload_n (i := 3) (t := 163) C d_L_law_162 rfl rfl rfl ?_
  refine j_iconst (x := 4) (t := 164) C d_L_law_163 rfl rfl ?_
  refine j_iadd (t := 165) C d_L_law_164 rfl ?_
  refine j_sld (N := 6 * j + 4) (t := 166) C d_L_law_165 hX (nI_add (6 * j) 4) (by omega) (by omega) rfl ?_
  refine j_aload_n (i := 0) (t := 167) C d_L_law_166 rfl rfl (by first | exact jrv_r | exact jrv_n | exact jrv_f) rfl ?_
  refine j_iload_n (i := 3) (t := 168) C d_L_law_167 rfl rfl rfl ?_
  refine j_iconst (x := 5) (t := 169) C d_L_law_168 rfl rfl ?_
  refine j_iadd (t := 170) C d_L_law_169 rfl ?_
  refine j_sld (N := 6 * j + 5) (t := 171) C d_L_law_170 hX (nI_add (6 * j) 5) (by omega) (by omega) rfl ?_
  refine j_callB (As := [_, _, _, _, _]) (t := 174) C (c_M_feed _ o2 s _ _ _ _ _) d_L_law_171 jb_M_feed ml_L_17 jv_M_feed hb rfl rfl rfl (Nat.le_of_ble_eq_true rfl) (by decide) (by omega) (by omega) (⟨rfl, hM, hW⟩) rfl (fun r171 w171 p171 => ?_)
  obtain ⟨rfl, hM2⟩ := p171
  dsimp only [jst]
  refine j_icmp_eq (tgt := 695) (t := 177) C d_L_law_174 (by decide) rfl (fun h174 => ?_) (fun h174 => absurd h174 (not_not_intro rfl))
  exact next _ _ _ _ _ hC2 hM2 (wf_feed hW) (by omega) (by omega)

set_option maxHeartbeats 4000000 in
set_option maxRecDepth 100000 in
/-- the law: column -/
theorem law_1 {X : jX} {Q : State → Prop} {rt0 : Option FieldType} {b L o1 o2 : Nat} {xs : Nat → Int32} (C : jC X RL b_L_law (4, 99) rt0 7 600000 7302250) (hX : jSc X b L xs) (hL : L ≤ 3072) {j k n : Nat} {wa wb : jw} {s : jS} (hj6 : 6 * j + 6 ≤ L) (hC : RepC (xG X) wa o1 s) (hM : RepM (xG X) wb o2 s) (hW : WF s) (hk : k ≤ 60 + 4 * j) (hn : n ≤ 400000 + 1300 * j) (next : (∀ (wa' wb' : jw) (s' : jS) (k' n' : Nat), RepC (xG X) wa' o1 s' → RepM (xG X) wb' o2 s' → WF s' → k' ≤ 64 + 4 * j → n' ≤ 401300 + 1300 * j → J X (4, 99) Q (jj wa' wb') k' n' 695 [(0, .ref b), (1, .ref o1), (2, .ref o2), (3, .int (nI (6 * j)))] [])) : J X (4, 99) Q (jj wa wb) k n 179 [(0, .ref b), (1, .ref o1), (2, .ref o2), (3, .int (nI (6 * j)))] [] := by
  obtain ⟨fa, ha⟩ := hC.o
  obtain ⟨fb, hb⟩ := hM.o
  refine j_aload_n (i := 1) (t := 180) C d_L_law_179 rfl rfl (by first | exact jrv_r | exact jrv_n | exact jrv_f) rfl ?_
  refine j_aload_n (i := 0) (t := 181) C d_L_law_180 rfl rfl (by first | exact jrv_r | exact jrv_n | exact jrv_f) rfl ?_
  refine j_iload_n (i := 3) (t := 182) C d_L_law_181 rfl rfl rfl ?_
  refine j_iconst (x := 1) (t := 183) C d_L_law_182 rfl rfl ?_
  refine j_iadd (t := 184) C d_L_law_183 rfl ?_
  refine j_sld (N := 6 * j + 1) (t := 185) C d_L_law_184 hX (nI_add (6 * j) 1) (by omega) (by omega) rfl ?_
  refine j_callA (As := [_]) (t := 188) C (c_T_column _ o1 s _) d_L_law_185 jb_T_column ml_L_18 jv_T_column ha rfl rfl rfl (Nat.le_of_ble_eq_true rfl) (by decide) (by omega) (by omega) (⟨rfl, hC, hW⟩) rfl (fun r185 w185 p185 => ?_)
  obtain ⟨rfl, hC2⟩ := p185
  dsimp only [jst]
  refine j_aload_n (i := 2) (t := 189) C d_L_law_188 rfl rfl (by first | exact jrv_r | exact jrv_n | exact jrv_f) rfl ?_
  refine j_aload_n (i := 0) (t := 190) C d_L_law_189 rfl rfl (by first | exact jrv_r | exact jrv_n | exact jrv_f) rfl ?_
  refine j_iload_n (i := 3) (t := 191) C d_L_law_190 rfl rfl rfl ?_
  refine j_iconst (x := 1) (t := 192) C d_L_law_191 rfl rfl ?_
  refine j_iadd (t := 193) C d_L_law_192 rfl ?_
  refine j_sld (N := 6 * j + 1) (t := 194) C d_L_law_193 hX (nI_add (6 * j) 1) (by omega) (by omega) rfl ?_
  refine j_callB (As := [_]) (t := 197) C (c_M_column _ o2 s _) d_L_law_194 jb_M_column ml_L_22 jv_M_column hb rfl rfl rfl (Nat.le_of_ble_eq_true rfl) (by decide) (by omega) (by omega) (⟨rfl, hM, hW⟩) rfl (fun r194 w194 p194 => ?_)
  obtain ⟨rfl, hM2⟩ := p194
  dsimp only [jst]
  refine j_icmp_eq (tgt := 695) (t := 200) C d_L_law_197 (by decide) rfl (fun h197 => ?_) (fun h197 => absurd h197 (not_not_intro rfl))
  exact next _ _ _ _ _ hC2 hM2 (wf_column hW) (by omega) (by omega)

set_option maxHeartbeats 4000000 in
set_option maxRecDepth 100000 in
/-- the law: add -/
theorem law_2 {X : jX} {Q : State → Prop} {rt0 : Option FieldType} {b L o1 o2 : Nat} {xs : Nat → Int32} (C : jC X RL b_L_law (4, 99) rt0 7 600000 7302250) (hX : jSc X b L xs) (hL : L ≤ 3072) {j k n : Nat} {wa wb : jw} {s : jS} (hj6 : 6 * j + 6 ≤ L) (hC : RepC (xG X) wa o1 s) (hM : RepM (xG X) wb o2 s) (hW : WF s) (hk : k ≤ 60 + 4 * j) (hn : n ≤ 400000 + 1300 * j) (next : (∀ (wa' wb' : jw) (s' : jS) (k' n' : Nat), RepC (xG X) wa' o1 s' → RepM (xG X) wb' o2 s' → WF s' → k' ≤ 64 + 4 * j → n' ≤ 401300 + 1300 * j → J X (4, 99) Q (jj wa' wb') k' n' 695 [(0, .ref b), (1, .ref o1), (2, .ref o2), (3, .int (nI (6 * j)))] [])) : J X (4, 99) Q (jj wa wb) k n 202 [(0, .ref b), (1, .ref o1), (2, .ref o2), (3, .int (nI (6 * j)))] [] := by
  obtain ⟨fa, ha⟩ := hC.o
  obtain ⟨fb, hb⟩ := hM.o
  refine j_aload_n (i := 1) (t := 203) C d_L_law_202 rfl rfl (by first | exact jrv_r | exact jrv_n | exact jrv_f) rfl ?_
  refine j_aload_n (i := 0) (t := 204) C d_L_law_203 rfl rfl (by first | exact jrv_r | exact jrv_n | exact jrv_f) rfl ?_
  refine j_iload_n (i := 3) (t := 205) C d_L_law_204 rfl rfl rfl ?_
  refine j_iconst (x := 1) (t := 206) C d_L_law_205 rfl rfl ?_
  refine j_iadd (t := 207) C d_L_law_206 rfl ?_
  refine j_sld (N := 6 * j + 1) (t := 208) C d_L_law_207 hX (nI_add (6 * j) 1) (by omega) (by omega) rfl ?_
  refine j_aload_n (i := 0) (t := 209) C d_L_law_208 rfl rfl (by first | exact jrv_r | exact jrv_n | exact jrv_f) rfl ?_
  refine j_iload_n (i := 3) (t := 210) C d_L_law_209 rfl rfl rfl ?_
  refine j_iconst (x := 2) (t := 211) C d_L_law_210 rfl rfl ?_
  refine j_iadd (t := 212) C d_L_law_211 rfl ?_
  refine j_sld (N := 6 * j + 2) (t := 213) C d_L_law_212 hX (nI_add (6 * j) 2) (by omega) (by omega) rfl ?_
  refine j_i2l (t := 214) C d_L_law_213 rfl rfl ?_
  refine j_bipush (x := 32) (t := 216) C d_L_law_214 rfl rfl ?_
  refine j_lshl (t := 217) C d_L_law_216 rfl rfl ?_
  refine j_aload_n (i := 0) (t := 218) C d_L_law_217 rfl rfl (by first | exact jrv_r | exact jrv_n | exact jrv_f) rfl ?_
  refine j_iload_n (i := 3) (t := 219) C d_L_law_218 rfl rfl rfl ?_
  refine j_iconst (x := 3) (t := 220) C d_L_law_219 rfl rfl ?_
  refine j_iadd (t := 221) C d_L_law_220 rfl ?_
  refine j_sld (N := 6 * j + 3) (t := 222) C d_L_law_221 hX (nI_add (6 * j) 3) (by omega) (by omega) rfl ?_
  refine j_i2l (t := 223) C d_L_law_222 rfl rfl ?_
  refine j_ldc2 (t := 226) C d_L_law_223 ct_L_23 rfl ?_
  refine j_land (t := 227) C d_L_law_226 rfl ?_
  refine j_lor (t := 228) C d_L_law_227 rfl ?_
  refine j_aload_n (i := 0) (t := 229) C d_L_law_228 rfl rfl (by first | exact jrv_r | exact jrv_n | exact jrv_f) rfl ?_
  refine j_iload_n (i := 3) (t := 230) C d_L_law_229 rfl rfl rfl ?_
  refine j_iconst (x := 4) (t := 231) C d_L_law_230 rfl rfl ?_
  refine j_iadd (t := 232) C d_L_law_231 rfl ?_
  refine j_sld (N := 6 * j + 4) (t := 233) C d_L_law_232 hX (nI_add (6 * j) 4) (by omega) (by omega) rfl ?_
  refine j_callA (As := [_, _, _]) (t := 236) C (c_T_add _ o1 s _ _ _) d_L_law_233 jb_T_add ml_L_25 jv_T_add ha rfl rfl rfl (Nat.le_of_ble_eq_true rfl) (by decide) (by omega) (by omega) (⟨rfl, hC, hW⟩) rfl (fun r233 w233 p233 => ?_)
  obtain ⟨rfl, hC2⟩ := p233
  dsimp only [jst]
  refine j_aload_n (i := 2) (t := 237) C d_L_law_236 rfl rfl (by first | exact jrv_r | exact jrv_n | exact jrv_f) rfl ?_
  refine j_aload_n (i := 0) (t := 238) C d_L_law_237 rfl rfl (by first | exact jrv_r | exact jrv_n | exact jrv_f) rfl ?_
  refine j_iload_n (i := 3) (t := 239) C d_L_law_238 rfl rfl rfl ?_
  refine j_iconst (x := 1) (t := 240) C d_L_law_239 rfl rfl ?_
  refine j_iadd (t := 241) C d_L_law_240 rfl ?_
  refine j_sld (N := 6 * j + 1) (t := 242) C d_L_law_241 hX (nI_add (6 * j) 1) (by omega) (by omega) rfl ?_
  refine j_aload_n (i := 0) (t := 243) C d_L_law_242 rfl rfl (by first | exact jrv_r | exact jrv_n | exact jrv_f) rfl ?_
  refine j_iload_n (i := 3) (t := 244) C d_L_law_243 rfl rfl rfl ?_
  refine j_iconst (x := 2) (t := 245) C d_L_law_244 rfl rfl ?_
  refine j_iadd (t := 246) C d_L_law_245 rfl ?_
  refine j_sld (N := 6 * j + 2) (t := 247) C d_L_law_246 hX (nI_add (6 * j) 2) (by omega) (by omega) rfl ?_
  refine j_i2l (t := 248) C d_L_law_247 rfl rfl ?_
  refine j_bipush (x := 32) (t := 250) C d_L_law_248 rfl rfl ?_
  refine j_lshl (t := 251) C d_L_law_250 rfl rfl ?_
  refine j_aload_n (i := 0) (t := 252) C d_L_law_251 rfl rfl (by first | exact jrv_r | exact jrv_n | exact jrv_f) rfl ?_
  refine j_iload_n (i := 3) (t := 253) C d_L_law_252 rfl rfl rfl ?_
  refine j_iconst (x := 3) (t := 254) C d_L_law_253 rfl rfl ?_
  refine j_iadd (t := 255) C d_L_law_254 rfl ?_
  refine j_sld (N := 6 * j + 3) (t := 256) C d_L_law_255 hX (nI_add (6 * j) 3) (by omega) (by omega) rfl ?_
  refine j_i2l (t := 257) C d_L_law_256 rfl rfl ?_
  refine j_ldc2 (t := 260) C d_L_law_257 ct_L_23 rfl ?_
  refine j_land (t := 261) C d_L_law_260 rfl ?_
  refine j_lor (t := 262) C d_L_law_261 rfl ?_
  refine j_aload_n (i := 0) (t := 263) C d_L_law_262 rfl rfl (by first | exact jrv_r | exact jrv_n | exact jrv_f) rfl ?_
  refine j_iload_n (i := 3) (t := 264) C d_L_law_263 rfl rfl rfl ?_
  refine j_iconst (x := 4) (t := 265) C d_L_law_264 rfl rfl ?_
  refine j_iadd (t := 266) C d_L_law_265 rfl ?_
  refine j_sld (N := 6 * j + 4) (t := 267) C d_L_law_266 hX (nI_add (6 * j) 4) (by omega) (by omega) rfl ?_
  refine j_callB (As := [_, _, _]) (t := 270) C (c_M_add _ o2 s _ _ _) d_L_law_267 jb_M_add ml_L_29 jv_M_add hb rfl rfl rfl (Nat.le_of_ble_eq_true rfl) (by decide) (by omega) (by omega) (⟨rfl, hM, hW⟩) rfl (fun r267 w267 p267 => ?_)
  obtain ⟨rfl, hM2⟩ := p267
  dsimp only [jst]
  refine j_icmp_eq (tgt := 695) (t := 273) C d_L_law_270 (by decide) rfl (fun h270 => ?_) (fun h270 => absurd h270 (not_not_intro rfl))
  exact next _ _ _ _ _ hC2 hM2 (wf_add hW) (by omega) (by omega)

set_option maxHeartbeats 4000000 in
set_option maxRecDepth 100000 in
/-- the law: addText -/
theorem law_3 {X : jX} {Q : State → Prop} {rt0 : Option FieldType} {b L o1 o2 : Nat} {xs : Nat → Int32} (C : jC X RL b_L_law (4, 99) rt0 7 600000 7302250) (hX : jSc X b L xs) (hL : L ≤ 3072) {j k n : Nat} {wa wb : jw} {s : jS} (hj6 : 6 * j + 6 ≤ L) (hC : RepC (xG X) wa o1 s) (hM : RepM (xG X) wb o2 s) (hW : WF s) (hk : k ≤ 60 + 4 * j) (hn : n ≤ 400000 + 1300 * j) (next : (∀ (wa' wb' : jw) (s' : jS) (k' n' : Nat), RepC (xG X) wa' o1 s' → RepM (xG X) wb' o2 s' → WF s' → k' ≤ 64 + 4 * j → n' ≤ 401300 + 1300 * j → J X (4, 99) Q (jj wa' wb') k' n' 695 [(0, .ref b), (1, .ref o1), (2, .ref o2), (3, .int (nI (6 * j)))] [])) : J X (4, 99) Q (jj wa wb) k n 275 [(0, .ref b), (1, .ref o1), (2, .ref o2), (3, .int (nI (6 * j)))] [] := by
  obtain ⟨fa, ha⟩ := hC.o
  obtain ⟨fb, hb⟩ := hM.o
  refine j_aload_n (i := 1) (t := 276) C d_L_law_275 rfl rfl (by first | exact jrv_r | exact jrv_n | exact jrv_f) rfl ?_
  refine j_aload_n (i := 0) (t := 277) C d_L_law_276 rfl rfl (by first | exact jrv_r | exact jrv_n | exact jrv_f) rfl ?_
  refine j_iload_n (i := 3) (t := 278) C d_L_law_277 rfl rfl rfl ?_
  refine j_iconst (x := 1) (t := 279) C d_L_law_278 rfl rfl ?_
  refine j_iadd (t := 280) C d_L_law_279 rfl ?_
  refine j_sld (N := 6 * j + 1) (t := 281) C d_L_law_280 hX (nI_add (6 * j) 1) (by omega) (by omega) rfl ?_
  refine j_aload_n (i := 0) (t := 282) C d_L_law_281 rfl rfl (by first | exact jrv_r | exact jrv_n | exact jrv_f) rfl ?_
  refine j_iload_n (i := 3) (t := 283) C d_L_law_282 rfl rfl rfl ?_
  refine j_iconst (x := 2) (t := 284) C d_L_law_283 rfl rfl ?_
  refine j_iadd (t := 285) C d_L_law_284 rfl ?_
  refine j_sld (N := 6 * j + 2) (t := 286) C d_L_law_285 hX (nI_add (6 * j) 2) (by omega) (by omega) rfl ?_
  refine j_callA (As := [_, _]) (t := 289) C (c_T_addText _ o1 s _ _) d_L_law_286 jb_T_addText ml_L_30 jv_T_addText ha rfl rfl rfl (Nat.le_of_ble_eq_true rfl) (by decide) (by omega) (by omega) (⟨rfl, hC, hW⟩) rfl (fun r286 w286 p286 => ?_)
  obtain ⟨rfl, hC2⟩ := p286
  dsimp only [jst]
  refine j_aload_n (i := 2) (t := 290) C d_L_law_289 rfl rfl (by first | exact jrv_r | exact jrv_n | exact jrv_f) rfl ?_
  refine j_aload_n (i := 0) (t := 291) C d_L_law_290 rfl rfl (by first | exact jrv_r | exact jrv_n | exact jrv_f) rfl ?_
  refine j_iload_n (i := 3) (t := 292) C d_L_law_291 rfl rfl rfl ?_
  refine j_iconst (x := 1) (t := 293) C d_L_law_292 rfl rfl ?_
  refine j_iadd (t := 294) C d_L_law_293 rfl ?_
  refine j_sld (N := 6 * j + 1) (t := 295) C d_L_law_294 hX (nI_add (6 * j) 1) (by omega) (by omega) rfl ?_
  refine j_aload_n (i := 0) (t := 296) C d_L_law_295 rfl rfl (by first | exact jrv_r | exact jrv_n | exact jrv_f) rfl ?_
  refine j_iload_n (i := 3) (t := 297) C d_L_law_296 rfl rfl rfl ?_
  refine j_iconst (x := 2) (t := 298) C d_L_law_297 rfl rfl ?_
  refine j_iadd (t := 299) C d_L_law_298 rfl ?_
  refine j_sld (N := 6 * j + 2) (t := 300) C d_L_law_299 hX (nI_add (6 * j) 2) (by omega) (by omega) rfl ?_
  refine j_callB (As := [_, _]) (t := 303) C (c_M_addText _ o2 s _ _) d_L_law_300 jb_M_addText ml_L_34 jv_M_addText hb rfl rfl rfl (Nat.le_of_ble_eq_true rfl) (by decide) (by omega) (by omega) (⟨rfl, hM, hW⟩) rfl (fun r300 w300 p300 => ?_)
  obtain ⟨rfl, hM2⟩ := p300
  dsimp only [jst]
  refine j_icmp_eq (tgt := 695) (t := 306) C d_L_law_303 (by decide) rfl (fun h303 => ?_) (fun h303 => absurd h303 (not_not_intro rfl))
  exact next _ _ _ _ _ hC2 hM2 (wf_addText hW) (by omega) (by omega)

set_option maxHeartbeats 4000000 in
set_option maxRecDepth 100000 in
/-- the law: miss -/
theorem law_4 {X : jX} {Q : State → Prop} {rt0 : Option FieldType} {b L o1 o2 : Nat} {xs : Nat → Int32} (C : jC X RL b_L_law (4, 99) rt0 7 600000 7302250) (hX : jSc X b L xs) (hL : L ≤ 3072) {j k n : Nat} {wa wb : jw} {s : jS} (hj6 : 6 * j + 6 ≤ L) (hC : RepC (xG X) wa o1 s) (hM : RepM (xG X) wb o2 s) (hW : WF s) (hk : k ≤ 60 + 4 * j) (hn : n ≤ 400000 + 1300 * j) (next : (∀ (wa' wb' : jw) (s' : jS) (k' n' : Nat), RepC (xG X) wa' o1 s' → RepM (xG X) wb' o2 s' → WF s' → k' ≤ 64 + 4 * j → n' ≤ 401300 + 1300 * j → J X (4, 99) Q (jj wa' wb') k' n' 695 [(0, .ref b), (1, .ref o1), (2, .ref o2), (3, .int (nI (6 * j)))] [])) : J X (4, 99) Q (jj wa wb) k n 308 [(0, .ref b), (1, .ref o1), (2, .ref o2), (3, .int (nI (6 * j)))] [] := by
  obtain ⟨fa, ha⟩ := hC.o
  obtain ⟨fb, hb⟩ := hM.o
  refine j_aload_n (i := 1) (t := 309) C d_L_law_308 rfl rfl (by first | exact jrv_r | exact jrv_n | exact jrv_f) rfl ?_
  refine j_aload_n (i := 0) (t := 310) C d_L_law_309 rfl rfl (by first | exact jrv_r | exact jrv_n | exact jrv_f) rfl ?_
  refine j_iload_n (i := 3) (t := 311) C d_L_law_310 rfl rfl rfl ?_
  refine j_iconst (x := 1) (t := 312) C d_L_law_311 rfl rfl ?_
  refine j_iadd (t := 313) C d_L_law_312 rfl ?_
  refine j_sld (N := 6 * j + 1) (t := 314) C d_L_law_313 hX (nI_add (6 * j) 1) (by omega) (by omega) rfl ?_
  refine j_aload_n (i := 0) (t := 315) C d_L_law_314 rfl rfl (by first | exact jrv_r | exact jrv_n | exact jrv_f) rfl ?_
  refine j_iload_n (i := 3) (t := 316) C d_L_law_315 rfl rfl rfl ?_
  refine j_iconst (x := 2) (t := 317) C d_L_law_316 rfl rfl ?_
  refine j_iadd (t := 318) C d_L_law_317 rfl ?_
  refine j_sld (N := 6 * j + 2) (t := 319) C d_L_law_318 hX (nI_add (6 * j) 2) (by omega) (by omega) rfl ?_
  refine j_callA (As := [_, _]) (t := 322) C (c_T_miss _ o1 s _ _) d_L_law_319 jb_T_miss ml_L_35 jv_T_miss ha rfl rfl rfl (Nat.le_of_ble_eq_true rfl) (by decide) (by omega) (by omega) (⟨rfl, hC, hW⟩) rfl (fun r319 w319 p319 => ?_)
  obtain ⟨rfl, hC2⟩ := p319
  dsimp only [jst]
  refine j_aload_n (i := 2) (t := 323) C d_L_law_322 rfl rfl (by first | exact jrv_r | exact jrv_n | exact jrv_f) rfl ?_
  refine j_aload_n (i := 0) (t := 324) C d_L_law_323 rfl rfl (by first | exact jrv_r | exact jrv_n | exact jrv_f) rfl ?_
  refine j_iload_n (i := 3) (t := 325) C d_L_law_324 rfl rfl rfl ?_
  refine j_iconst (x := 1) (t := 326) C d_L_law_325 rfl rfl ?_
  refine j_iadd (t := 327) C d_L_law_326 rfl ?_
  refine j_sld (N := 6 * j + 1) (t := 328) C d_L_law_327 hX (nI_add (6 * j) 1) (by omega) (by omega) rfl ?_
  refine j_aload_n (i := 0) (t := 329) C d_L_law_328 rfl rfl (by first | exact jrv_r | exact jrv_n | exact jrv_f) rfl ?_
  refine j_iload_n (i := 3) (t := 330) C d_L_law_329 rfl rfl rfl ?_
  refine j_iconst (x := 2) (t := 331) C d_L_law_330 rfl rfl ?_
  refine j_iadd (t := 332) C d_L_law_331 rfl ?_
  refine j_sld (N := 6 * j + 2) (t := 333) C d_L_law_332 hX (nI_add (6 * j) 2) (by omega) (by omega) rfl ?_
  refine j_callB (As := [_, _]) (t := 336) C (c_M_miss _ o2 s _ _) d_L_law_333 jb_M_miss ml_L_38 jv_M_miss hb rfl rfl rfl (Nat.le_of_ble_eq_true rfl) (by decide) (by omega) (by omega) (⟨rfl, hM, hW⟩) rfl (fun r333 w333 p333 => ?_)
  obtain ⟨rfl, hM2⟩ := p333
  dsimp only [jst]
  refine j_icmp_eq (tgt := 695) (t := 339) C d_L_law_336 (by decide) rfl (fun h336 => ?_) (fun h336 => absurd h336 (not_not_intro rfl))
  exact next _ _ _ _ _ hC2 hM2 (wf_miss hW) (by omega) (by omega)

set_option maxHeartbeats 4000000 in
set_option maxRecDepth 100000 in
/-- the law: clear -/
theorem law_5 {X : jX} {Q : State → Prop} {rt0 : Option FieldType} {b L o1 o2 : Nat} {xs : Nat → Int32} (C : jC X RL b_L_law (4, 99) rt0 7 600000 7302250) (hX : jSc X b L xs) (hL : L ≤ 3072) {j k n : Nat} {wa wb : jw} {s : jS} (hj6 : 6 * j + 6 ≤ L) (hC : RepC (xG X) wa o1 s) (hM : RepM (xG X) wb o2 s) (hW : WF s) (hk : k ≤ 60 + 4 * j) (hn : n ≤ 400000 + 1300 * j) (next : (∀ (wa' wb' : jw) (s' : jS) (k' n' : Nat), RepC (xG X) wa' o1 s' → RepM (xG X) wb' o2 s' → WF s' → k' ≤ 64 + 4 * j → n' ≤ 401300 + 1300 * j → J X (4, 99) Q (jj wa' wb') k' n' 695 [(0, .ref b), (1, .ref o1), (2, .ref o2), (3, .int (nI (6 * j)))] [])) : J X (4, 99) Q (jj wa wb) k n 341 [(0, .ref b), (1, .ref o1), (2, .ref o2), (3, .int (nI (6 * j)))] [] := by
  obtain ⟨fa, ha⟩ := hC.o
  obtain ⟨fb, hb⟩ := hM.o
  refine j_aload_n (i := 1) (t := 342) C d_L_law_341 rfl rfl (by first | exact jrv_r | exact jrv_n | exact jrv_f) rfl ?_
  refine j_aload_n (i := 0) (t := 343) C d_L_law_342 rfl rfl (by first | exact jrv_r | exact jrv_n | exact jrv_f) rfl ?_
  refine j_iload_n (i := 3) (t := 344) C d_L_law_343 rfl rfl rfl ?_
  refine j_iconst (x := 1) (t := 345) C d_L_law_344 rfl rfl ?_
  refine j_iadd (t := 346) C d_L_law_345 rfl ?_
  refine j_sld (N := 6 * j + 1) (t := 347) C d_L_law_346 hX (nI_add (6 * j) 1) (by omega) (by omega) rfl ?_
  refine j_callA (As := [_]) (t := 350) C (c_T_clear _ o1 s _) d_L_law_347 jb_T_clear ml_L_39 jv_T_clear ha rfl rfl rfl (Nat.le_of_ble_eq_true rfl) (by decide) (by omega) (by omega) (⟨rfl, hC, hW⟩) rfl (fun r347 w347 p347 => ?_)
  obtain ⟨rfl, hC2⟩ := p347
  dsimp only [jst]
  refine j_aload_n (i := 2) (t := 351) C d_L_law_350 rfl rfl (by first | exact jrv_r | exact jrv_n | exact jrv_f) rfl ?_
  refine j_aload_n (i := 0) (t := 352) C d_L_law_351 rfl rfl (by first | exact jrv_r | exact jrv_n | exact jrv_f) rfl ?_
  refine j_iload_n (i := 3) (t := 353) C d_L_law_352 rfl rfl rfl ?_
  refine j_iconst (x := 1) (t := 354) C d_L_law_353 rfl rfl ?_
  refine j_iadd (t := 355) C d_L_law_354 rfl ?_
  refine j_sld (N := 6 * j + 1) (t := 356) C d_L_law_355 hX (nI_add (6 * j) 1) (by omega) (by omega) rfl ?_
  refine j_callB (As := [_]) (t := 359) C (c_M_clear _ o2 s _) d_L_law_356 jb_M_clear ml_L_43 jv_M_clear hb rfl rfl rfl (Nat.le_of_ble_eq_true rfl) (by decide) (by omega) (by omega) (⟨rfl, hM, hW⟩) rfl (fun r356 w356 p356 => ?_)
  obtain ⟨rfl, hM2⟩ := p356
  dsimp only [jst]
  refine j_icmp_eq (tgt := 695) (t := 362) C d_L_law_359 (by decide) rfl (fun h359 => ?_) (fun h359 => absurd h359 (not_not_intro rfl))
  exact next _ _ _ _ _ hC2 hM2 (wf_clear hW) (by omega) (by omega)

set_option maxHeartbeats 4000000 in
set_option maxRecDepth 100000 in
/-- the law: literal -/
theorem law_6 {X : jX} {Q : State → Prop} {rt0 : Option FieldType} {b L o1 o2 : Nat} {xs : Nat → Int32} (C : jC X RL b_L_law (4, 99) rt0 7 600000 7302250) (hX : jSc X b L xs) (hL : L ≤ 3072) {j k n : Nat} {wa wb : jw} {s : jS} (hj6 : 6 * j + 6 ≤ L) (hC : RepC (xG X) wa o1 s) (hM : RepM (xG X) wb o2 s) (hW : WF s) (hk : k ≤ 60 + 4 * j) (hn : n ≤ 400000 + 1300 * j) (next : (∀ (wa' wb' : jw) (s' : jS) (k' n' : Nat), RepC (xG X) wa' o1 s' → RepM (xG X) wb' o2 s' → WF s' → k' ≤ 64 + 4 * j → n' ≤ 401300 + 1300 * j → J X (4, 99) Q (jj wa' wb') k' n' 695 [(0, .ref b), (1, .ref o1), (2, .ref o2), (3, .int (nI (6 * j)))] [])) : J X (4, 99) Q (jj wa wb) k n 364 [(0, .ref b), (1, .ref o1), (2, .ref o2), (3, .int (nI (6 * j)))] [] := by
  obtain ⟨fa, ha⟩ := hC.o
  obtain ⟨fb, hb⟩ := hM.o
  refine j_aload_n (i := 1) (t := 365) C d_L_law_364 rfl rfl (by first | exact jrv_r | exact jrv_n | exact jrv_f) rfl ?_
  refine j_aload_n (i := 0) (t := 366) C d_L_law_365 rfl rfl (by first | exact jrv_r | exact jrv_n | exact jrv_f) rfl ?_
  refine j_iload_n (i := 3) (t := 367) C d_L_law_366 rfl rfl rfl ?_
  refine j_iconst (x := 1) (t := 368) C d_L_law_367 rfl rfl ?_
  refine j_iadd (t := 369) C d_L_law_368 rfl ?_
  refine j_sld (N := 6 * j + 1) (t := 370) C d_L_law_369 hX (nI_add (6 * j) 1) (by omega) (by omega) rfl ?_
  refine j_aload_n (i := 0) (t := 371) C d_L_law_370 rfl rfl (by first | exact jrv_r | exact jrv_n | exact jrv_f) rfl ?_
  refine j_iload_n (i := 3) (t := 372) C d_L_law_371 rfl rfl rfl ?_
  refine j_iconst (x := 2) (t := 373) C d_L_law_372 rfl rfl ?_
  refine j_iadd (t := 374) C d_L_law_373 rfl ?_
  refine j_sld (N := 6 * j + 2) (t := 375) C d_L_law_374 hX (nI_add (6 * j) 2) (by omega) (by omega) rfl ?_
  refine j_i2l (t := 376) C d_L_law_375 rfl rfl ?_
  refine j_bipush (x := 32) (t := 378) C d_L_law_376 rfl rfl ?_
  refine j_lshl (t := 379) C d_L_law_378 rfl rfl ?_
  refine j_aload_n (i := 0) (t := 380) C d_L_law_379 rfl rfl (by first | exact jrv_r | exact jrv_n | exact jrv_f) rfl ?_
  refine j_iload_n (i := 3) (t := 381) C d_L_law_380 rfl rfl rfl ?_
  refine j_iconst (x := 3) (t := 382) C d_L_law_381 rfl rfl ?_
  refine j_iadd (t := 383) C d_L_law_382 rfl ?_
  refine j_sld (N := 6 * j + 3) (t := 384) C d_L_law_383 hX (nI_add (6 * j) 3) (by omega) (by omega) rfl ?_
  refine j_i2l (t := 385) C d_L_law_384 rfl rfl ?_
  refine j_ldc2 (t := 388) C d_L_law_385 ct_L_23 rfl ?_
  refine j_land (t := 389) C d_L_law_388 rfl ?_
  refine j_lor (t := 390) C d_L_law_389 rfl ?_
  refine j_callA (As := [_, _]) (t := 393) C (c_T_literal _ o1 s _ _) d_L_law_390 jb_T_literal ml_L_44 jv_T_literal ha rfl rfl rfl (Nat.le_of_ble_eq_true rfl) (by decide) (by omega) (by omega) (⟨rfl, hC, hW⟩) rfl (fun r390 w390 p390 => ?_)
  obtain ⟨rfl, hC2⟩ := p390
  dsimp only [jst]
  refine j_aload_n (i := 2) (t := 394) C d_L_law_393 rfl rfl (by first | exact jrv_r | exact jrv_n | exact jrv_f) rfl ?_
  refine j_aload_n (i := 0) (t := 395) C d_L_law_394 rfl rfl (by first | exact jrv_r | exact jrv_n | exact jrv_f) rfl ?_
  refine j_iload_n (i := 3) (t := 396) C d_L_law_395 rfl rfl rfl ?_
  refine j_iconst (x := 1) (t := 397) C d_L_law_396 rfl rfl ?_
  refine j_iadd (t := 398) C d_L_law_397 rfl ?_
  refine j_sld (N := 6 * j + 1) (t := 399) C d_L_law_398 hX (nI_add (6 * j) 1) (by omega) (by omega) rfl ?_
  refine j_aload_n (i := 0) (t := 400) C d_L_law_399 rfl rfl (by first | exact jrv_r | exact jrv_n | exact jrv_f) rfl ?_
  refine j_iload_n (i := 3) (t := 401) C d_L_law_400 rfl rfl rfl ?_
  refine j_iconst (x := 2) (t := 402) C d_L_law_401 rfl rfl ?_
  refine j_iadd (t := 403) C d_L_law_402 rfl ?_
  refine j_sld (N := 6 * j + 2) (t := 404) C d_L_law_403 hX (nI_add (6 * j) 2) (by omega) (by omega) rfl ?_
  refine j_i2l (t := 405) C d_L_law_404 rfl rfl ?_
  refine j_bipush (x := 32) (t := 407) C d_L_law_405 rfl rfl ?_
  refine j_lshl (t := 408) C d_L_law_407 rfl rfl ?_
  refine j_aload_n (i := 0) (t := 409) C d_L_law_408 rfl rfl (by first | exact jrv_r | exact jrv_n | exact jrv_f) rfl ?_
  refine j_iload_n (i := 3) (t := 410) C d_L_law_409 rfl rfl rfl ?_
  refine j_iconst (x := 3) (t := 411) C d_L_law_410 rfl rfl ?_
  refine j_iadd (t := 412) C d_L_law_411 rfl ?_
  refine j_sld (N := 6 * j + 3) (t := 413) C d_L_law_412 hX (nI_add (6 * j) 3) (by omega) (by omega) rfl ?_
  refine j_i2l (t := 414) C d_L_law_413 rfl rfl ?_
  refine j_ldc2 (t := 417) C d_L_law_414 ct_L_23 rfl ?_
  refine j_land (t := 418) C d_L_law_417 rfl ?_
  refine j_lor (t := 419) C d_L_law_418 rfl ?_
  refine j_callB (As := [_, _]) (t := 422) C (c_M_literal _ o2 s _ _) d_L_law_419 jb_M_literal ml_L_48 jv_M_literal hb rfl rfl rfl (Nat.le_of_ble_eq_true rfl) (by decide) (by omega) (by omega) (⟨rfl, hM, hW⟩) rfl (fun r419 w419 p419 => ?_)
  obtain ⟨rfl, hM2⟩ := p419
  dsimp only [jst]
  refine j_icmp_eq (tgt := 695) (t := 425) C d_L_law_422 (by decide) rfl (fun h422 => ?_) (fun h422 => absurd h422 (not_not_intro rfl))
  exact next _ _ _ _ _ hC2 hM2 (wf_literal hW) (by omega) (by omega)

set_option maxHeartbeats 4000000 in
set_option maxRecDepth 100000 in
/-- the law: literalText -/
theorem law_7 {X : jX} {Q : State → Prop} {rt0 : Option FieldType} {b L o1 o2 : Nat} {xs : Nat → Int32} (C : jC X RL b_L_law (4, 99) rt0 7 600000 7302250) (hX : jSc X b L xs) (hL : L ≤ 3072) {j k n : Nat} {wa wb : jw} {s : jS} (hj6 : 6 * j + 6 ≤ L) (hC : RepC (xG X) wa o1 s) (hM : RepM (xG X) wb o2 s) (hW : WF s) (hk : k ≤ 60 + 4 * j) (hn : n ≤ 400000 + 1300 * j) (next : (∀ (wa' wb' : jw) (s' : jS) (k' n' : Nat), RepC (xG X) wa' o1 s' → RepM (xG X) wb' o2 s' → WF s' → k' ≤ 64 + 4 * j → n' ≤ 401300 + 1300 * j → J X (4, 99) Q (jj wa' wb') k' n' 695 [(0, .ref b), (1, .ref o1), (2, .ref o2), (3, .int (nI (6 * j)))] [])) : J X (4, 99) Q (jj wa wb) k n 427 [(0, .ref b), (1, .ref o1), (2, .ref o2), (3, .int (nI (6 * j)))] [] := by
  obtain ⟨fa, ha⟩ := hC.o
  obtain ⟨fb, hb⟩ := hM.o
  refine j_aload_n (i := 1) (t := 428) C d_L_law_427 rfl rfl (by first | exact jrv_r | exact jrv_n | exact jrv_f) rfl ?_
  refine j_aload_n (i := 0) (t := 429) C d_L_law_428 rfl rfl (by first | exact jrv_r | exact jrv_n | exact jrv_f) rfl ?_
  refine j_iload_n (i := 3) (t := 430) C d_L_law_429 rfl rfl rfl ?_
  refine j_iconst (x := 1) (t := 431) C d_L_law_430 rfl rfl ?_
  refine j_iadd (t := 432) C d_L_law_431 rfl ?_
  refine j_sld (N := 6 * j + 1) (t := 433) C d_L_law_432 hX (nI_add (6 * j) 1) (by omega) (by omega) rfl ?_
  refine j_callA (As := [_]) (t := 436) C (c_T_literalText _ o1 s _) d_L_law_433 jb_T_literalText ml_L_49 jv_T_literalText ha rfl rfl rfl (Nat.le_of_ble_eq_true rfl) (by decide) (by omega) (by omega) (⟨rfl, hC, hW⟩) rfl (fun r433 w433 p433 => ?_)
  obtain ⟨rfl, hC2⟩ := p433
  dsimp only [jst]
  refine j_aload_n (i := 2) (t := 437) C d_L_law_436 rfl rfl (by first | exact jrv_r | exact jrv_n | exact jrv_f) rfl ?_
  refine j_aload_n (i := 0) (t := 438) C d_L_law_437 rfl rfl (by first | exact jrv_r | exact jrv_n | exact jrv_f) rfl ?_
  refine j_iload_n (i := 3) (t := 439) C d_L_law_438 rfl rfl rfl ?_
  refine j_iconst (x := 1) (t := 440) C d_L_law_439 rfl rfl ?_
  refine j_iadd (t := 441) C d_L_law_440 rfl ?_
  refine j_sld (N := 6 * j + 1) (t := 442) C d_L_law_441 hX (nI_add (6 * j) 1) (by omega) (by omega) rfl ?_
  refine j_callB (As := [_]) (t := 445) C (c_M_literalText _ o2 s _) d_L_law_442 jb_M_literalText ml_L_52 jv_M_literalText hb rfl rfl rfl (Nat.le_of_ble_eq_true rfl) (by decide) (by omega) (by omega) (⟨rfl, hM, hW⟩) rfl (fun r442 w442 p442 => ?_)
  obtain ⟨rfl, hM2⟩ := p442
  dsimp only [jst]
  refine j_icmp_eq (tgt := 695) (t := 448) C d_L_law_445 (by decide) rfl (fun h445 => ?_) (fun h445 => absurd h445 (not_not_intro rfl))
  exact next _ _ _ _ _ hC2 hM2 (wf_litText hW) (by omega) (by omega)

set_option maxHeartbeats 4000000 in
set_option maxRecDepth 100000 in
/-- the law: step -/
theorem law_8 {X : jX} {Q : State → Prop} {rt0 : Option FieldType} {b L o1 o2 : Nat} {xs : Nat → Int32} (C : jC X RL b_L_law (4, 99) rt0 7 600000 7302250) (hX : jSc X b L xs) (hL : L ≤ 3072) {j k n : Nat} {wa wb : jw} {s : jS} (hj6 : 6 * j + 6 ≤ L) (hC : RepC (xG X) wa o1 s) (hM : RepM (xG X) wb o2 s) (hW : WF s) (hk : k ≤ 60 + 4 * j) (hn : n ≤ 400000 + 1300 * j) (next : (∀ (wa' wb' : jw) (s' : jS) (k' n' : Nat), RepC (xG X) wa' o1 s' → RepM (xG X) wb' o2 s' → WF s' → k' ≤ 64 + 4 * j → n' ≤ 401300 + 1300 * j → J X (4, 99) Q (jj wa' wb') k' n' 695 [(0, .ref b), (1, .ref o1), (2, .ref o2), (3, .int (nI (6 * j)))] [])) : J X (4, 99) Q (jj wa wb) k n 450 [(0, .ref b), (1, .ref o1), (2, .ref o2), (3, .int (nI (6 * j)))] [] := by
  obtain ⟨fa, ha⟩ := hC.o
  obtain ⟨fb, hb⟩ := hM.o
  refine j_aload_n (i := 1) (t := 451) C d_L_law_450 rfl rfl (by first | exact jrv_r | exact jrv_n | exact jrv_f) rfl ?_
  refine j_aload_n (i := 0) (t := 452) C d_L_law_451 rfl rfl (by first | exact jrv_r | exact jrv_n | exact jrv_f) rfl ?_
  refine j_iload_n (i := 3) (t := 453) C d_L_law_452 rfl rfl rfl ?_
  refine j_iconst (x := 1) (t := 454) C d_L_law_453 rfl rfl ?_
  refine j_iadd (t := 455) C d_L_law_454 rfl ?_
  refine j_sld (N := 6 * j + 1) (t := 456) C d_L_law_455 hX (nI_add (6 * j) 1) (by omega) (by omega) rfl ?_
  refine j_aload_n (i := 0) (t := 457) C d_L_law_456 rfl rfl (by first | exact jrv_r | exact jrv_n | exact jrv_f) rfl ?_
  refine j_iload_n (i := 3) (t := 458) C d_L_law_457 rfl rfl rfl ?_
  refine j_iconst (x := 2) (t := 459) C d_L_law_458 rfl rfl ?_
  refine j_iadd (t := 460) C d_L_law_459 rfl ?_
  refine j_sld (N := 6 * j + 2) (t := 461) C d_L_law_460 hX (nI_add (6 * j) 2) (by omega) (by omega) rfl ?_
  refine j_aload_n (i := 0) (t := 462) C d_L_law_461 rfl rfl (by first | exact jrv_r | exact jrv_n | exact jrv_f) rfl ?_
  refine j_iload_n (i := 3) (t := 463) C d_L_law_462 rfl rfl rfl ?_
  refine j_iconst (x := 3) (t := 464) C d_L_law_463 rfl rfl ?_
  refine j_iadd (t := 465) C d_L_law_464 rfl ?_
  refine j_sld (N := 6 * j + 3) (t := 466) C d_L_law_465 hX (nI_add (6 * j) 3) (by omega) (by omega) rfl ?_
  refine j_aload_n (i := 0) (t := 467) C d_L_law_466 rfl rfl (by first | exact jrv_r | exact jrv_n | exact jrv_f) rfl ?_
  refine j_iload_n (i := 3) (t := 468) C d_L_law_467 rfl rfl rfl ?_
  refine j_iconst (x := 4) (t := 469) C d_L_law_468 rfl rfl ?_
  refine j_iadd (t := 470) C d_L_law_469 rfl ?_
  refine j_sld (N := 6 * j + 4) (t := 471) C d_L_law_470 hX (nI_add (6 * j) 4) (by omega) (by omega) rfl ?_
  refine j_aload_n (i := 0) (t := 472) C d_L_law_471 rfl rfl (by first | exact jrv_r | exact jrv_n | exact jrv_f) rfl ?_
  refine j_iload_n (i := 3) (t := 473) C d_L_law_472 rfl rfl rfl ?_
  refine j_iconst (x := 5) (t := 474) C d_L_law_473 rfl rfl ?_
  refine j_iadd (t := 475) C d_L_law_474 rfl ?_
  refine j_sld (N := 6 * j + 5) (t := 476) C d_L_law_475 hX (nI_add (6 * j) 5) (by omega) (by omega) rfl ?_
  refine j_callA (As := [_, _, _, _, _]) (t := 479) C (c_T_step _ o1 s _ _ _ _ _) d_L_law_476 jb_T_step ml_L_53 jv_T_step ha rfl rfl rfl (Nat.le_of_ble_eq_true rfl) (by decide) (by omega) (by omega) (⟨rfl, hC, hW⟩) rfl (fun r476 w476 p476 => ?_)
  obtain ⟨rfl, hC2⟩ := p476
  dsimp only [jst]
  refine j_aload_n (i := 2) (t := 480) C d_L_law_479 rfl rfl (by first | exact jrv_r | exact jrv_n | exact jrv_f) rfl ?_
  refine j_aload_n (i := 0) (t := 481) C d_L_law_480 rfl rfl (by first | exact jrv_r | exact jrv_n | exact jrv_f) rfl ?_
  refine j_iload_n (i := 3) (t := 482) C d_L_law_481 rfl rfl rfl ?_
  refine j_iconst (x := 1) (t := 483) C d_L_law_482 rfl rfl ?_
  refine j_iadd (t := 484) C d_L_law_483 rfl ?_
  refine j_sld (N := 6 * j + 1) (t := 485) C d_L_law_484 hX (nI_add (6 * j) 1) (by omega) (by omega) rfl ?_
  refine j_aload_n (i := 0) (t := 486) C d_L_law_485 rfl rfl (by first | exact jrv_r | exact jrv_n | exact jrv_f) rfl ?_
  refine j_iload_n (i := 3) (t := 487) C d_L_law_486 rfl rfl rfl ?_
  refine j_iconst (x := 2) (t := 488) C d_L_law_487 rfl rfl ?_
  refine j_iadd (t := 489) C d_L_law_488 rfl ?_
  refine j_sld (N := 6 * j + 2) (t := 490) C d_L_law_489 hX (nI_add (6 * j) 2) (by omega) (by omega) rfl ?_
  refine j_aload_n (i := 0) (t := 491) C d_L_law_490 rfl rfl (by first | exact jrv_r | exact jrv_n | exact jrv_f) rfl ?_
  refine j_iload_n (i := 3) (t := 492) C d_L_law_491 rfl rfl rfl ?_
  refine j_iconst (x := 3) (t := 493) C d_L_law_492 rfl rfl ?_
  refine j_iadd (t := 494) C d_L_law_493 rfl ?_
  refine j_sld (N := 6 * j + 3) (t := 495) C d_L_law_494 hX (nI_add (6 * j) 3) (by omega) (by omega) rfl ?_
  refine j_aload_n (i := 0) (t := 496) C d_L_law_495 rfl rfl (by first | exact jrv_r | exact jrv_n | exact jrv_f) rfl ?_
  refine j_iload_n (i := 3) (t := 497) C d_L_law_496 rfl rfl rfl ?_
  refine j_iconst (x := 4) (t := 498) C d_L_law_497 rfl rfl ?_
  refine j_iadd (t := 499) C d_L_law_498 rfl ?_
  refine j_sld (N := 6 * j + 4) (t := 500) C d_L_law_499 hX (nI_add (6 * j) 4) (by omega) (by omega) rfl ?_
  refine j_aload_n (i := 0) (t := 501) C d_L_law_500 rfl rfl (by first | exact jrv_r | exact jrv_n | exact jrv_f) rfl ?_
  refine j_iload_n (i := 3) (t := 502) C d_L_law_501 rfl rfl rfl ?_
  refine j_iconst (x := 5) (t := 503) C d_L_law_502 rfl rfl ?_
  refine j_iadd (t := 504) C d_L_law_503 rfl ?_
  refine j_sld (N := 6 * j + 5) (t := 505) C d_L_law_504 hX (nI_add (6 * j) 5) (by omega) (by omega) rfl ?_
  refine j_callB (As := [_, _, _, _, _]) (t := 508) C (c_M_step _ o2 s _ _ _ _ _) d_L_law_505 jb_M_step ml_L_57 jv_M_step hb rfl rfl rfl (Nat.le_of_ble_eq_true rfl) (by decide) (by omega) (by omega) (⟨rfl, hM, hW⟩) rfl (fun r505 w505 p505 => ?_)
  obtain ⟨rfl, hM2⟩ := p505
  dsimp only [jst]
  refine j_icmp_eq (tgt := 695) (t := 511) C d_L_law_508 (by decide) rfl (fun h508 => ?_) (fun h508 => absurd h508 (not_not_intro rfl))
  exact next _ _ _ _ _ hC2 hM2 (wf_step hW) (by omega) (by omega)

set_option maxHeartbeats 4000000 in
set_option maxRecDepth 100000 in
/-- the law: forget -/
theorem law_9 {X : jX} {Q : State → Prop} {rt0 : Option FieldType} {b L o1 o2 : Nat} {xs : Nat → Int32} (C : jC X RL b_L_law (4, 99) rt0 7 600000 7302250) (hX : jSc X b L xs) (hL : L ≤ 3072) {j k n : Nat} {wa wb : jw} {s : jS} (hj6 : 6 * j + 6 ≤ L) (hC : RepC (xG X) wa o1 s) (hM : RepM (xG X) wb o2 s) (hW : WF s) (hk : k ≤ 60 + 4 * j) (hn : n ≤ 400000 + 1300 * j) (next : (∀ (wa' wb' : jw) (s' : jS) (k' n' : Nat), RepC (xG X) wa' o1 s' → RepM (xG X) wb' o2 s' → WF s' → k' ≤ 64 + 4 * j → n' ≤ 401300 + 1300 * j → J X (4, 99) Q (jj wa' wb') k' n' 695 [(0, .ref b), (1, .ref o1), (2, .ref o2), (3, .int (nI (6 * j)))] [])) : J X (4, 99) Q (jj wa wb) k n 513 [(0, .ref b), (1, .ref o1), (2, .ref o2), (3, .int (nI (6 * j)))] [] := by
  obtain ⟨fa, ha⟩ := hC.o
  obtain ⟨fb, hb⟩ := hM.o
  refine j_aload_n (i := 1) (t := 514) C d_L_law_513 rfl rfl (by first | exact jrv_r | exact jrv_n | exact jrv_f) rfl ?_
  refine j_callA (As := []) (t := 517) C (c_T_forget _ o1 s) d_L_law_514 jb_T_forget ml_L_58 jv_T_forget ha rfl rfl rfl (Nat.le_of_ble_eq_true rfl) (by decide) (by omega) (by omega) (⟨rfl, hC, hW⟩) rfl (fun r514 w514 p514 => ?_)
  obtain ⟨rfl, hC2⟩ := p514
  dsimp only [jst]
  refine j_aload_n (i := 2) (t := 518) C d_L_law_517 rfl rfl (by first | exact jrv_r | exact jrv_n | exact jrv_f) rfl ?_
  refine j_callB (As := []) (t := 521) C (c_M_forget _ o2 s) d_L_law_518 jb_M_forget ml_L_61 jv_M_forget hb rfl rfl rfl (Nat.le_of_ble_eq_true rfl) (by decide) (by omega) (by omega) (⟨rfl, hM, hW⟩) rfl (fun r518 w518 p518 => ?_)
  obtain ⟨rfl, hM2⟩ := p518
  dsimp only [jst]
  refine j_goto (tgt := 695) C d_L_law_521 (by decide) ?_
  exact next _ _ _ _ _ hC2 hM2 (wf_forget hW) (by omega) (by omega)

set_option maxHeartbeats 4000000 in
set_option maxRecDepth 100000 in
/-- the law: scan -/
theorem law_10 {X : jX} {Q : State → Prop} {rt0 : Option FieldType} {b L o1 o2 : Nat} {xs : Nat → Int32} (C : jC X RL b_L_law (4, 99) rt0 7 600000 7302250) (hX : jSc X b L xs) (hL : L ≤ 3072) {j k n : Nat} {wa wb : jw} {s : jS} (hj6 : 6 * j + 6 ≤ L) (hC : RepC (xG X) wa o1 s) (hM : RepM (xG X) wb o2 s) (hW : WF s) (hk : k ≤ 60 + 4 * j) (hn : n ≤ 400000 + 1300 * j) (next : (∀ (wa' wb' : jw) (s' : jS) (k' n' : Nat), RepC (xG X) wa' o1 s' → RepM (xG X) wb' o2 s' → WF s' → k' ≤ 64 + 4 * j → n' ≤ 401300 + 1300 * j → J X (4, 99) Q (jj wa' wb') k' n' 695 [(0, .ref b), (1, .ref o1), (2, .ref o2), (3, .int (nI (6 * j)))] [])) : J X (4, 99) Q (jj wa wb) k n 524 [(0, .ref b), (1, .ref o1), (2, .ref o2), (3, .int (nI (6 * j)))] [] := by
  obtain ⟨fa, ha⟩ := hC.o
  obtain ⟨fb, hb⟩ := hM.o
  refine j_aload_n (i := 1) (t := 525) C d_L_law_524 rfl rfl (by first | exact jrv_r | exact jrv_n | exact jrv_f) rfl ?_
  refine j_aload_n (i := 0) (t := 526) C d_L_law_525 rfl rfl (by first | exact jrv_r | exact jrv_n | exact jrv_f) rfl ?_
  refine j_iload_n (i := 3) (t := 527) C d_L_law_526 rfl rfl rfl ?_
  refine j_iconst (x := 1) (t := 528) C d_L_law_527 rfl rfl ?_
  refine j_iadd (t := 529) C d_L_law_528 rfl ?_
  refine j_sld (N := 6 * j + 1) (t := 530) C d_L_law_529 hX (nI_add (6 * j) 1) (by omega) (by omega) rfl ?_
  refine j_callA (As := [_]) (t := 533) C (c_T_scan _ o1 s _) d_L_law_530 jb_T_scan ml_L_62 jv_T_scan ha rfl rfl rfl (Nat.le_of_ble_eq_true rfl) (by decide) (by omega) (by omega) (⟨rfl, hC, hW⟩) rfl (fun r530 w530 p530 => ?_)
  obtain ⟨rfl, hC2⟩ := p530
  dsimp only [jst]
  refine j_aload_n (i := 2) (t := 534) C d_L_law_533 rfl rfl (by first | exact jrv_r | exact jrv_n | exact jrv_f) rfl ?_
  refine j_aload_n (i := 0) (t := 535) C d_L_law_534 rfl rfl (by first | exact jrv_r | exact jrv_n | exact jrv_f) rfl ?_
  refine j_iload_n (i := 3) (t := 536) C d_L_law_535 rfl rfl rfl ?_
  refine j_iconst (x := 1) (t := 537) C d_L_law_536 rfl rfl ?_
  refine j_iadd (t := 538) C d_L_law_537 rfl ?_
  refine j_sld (N := 6 * j + 1) (t := 539) C d_L_law_538 hX (nI_add (6 * j) 1) (by omega) (by omega) rfl ?_
  refine j_callB (As := [_]) (t := 542) C (c_M_scan _ o2 s _) d_L_law_539 jb_M_scan ml_L_65 jv_M_scan hb rfl rfl rfl (Nat.le_of_ble_eq_true rfl) (by decide) (by omega) (by omega) (⟨rfl, hM, hW⟩) rfl (fun r539 w539 p539 => ?_)
  obtain ⟨rfl, hM2⟩ := p539
  dsimp only [jst]
  refine j_icmp_eq (tgt := 695) (t := 545) C d_L_law_542 (by decide) rfl (fun h542 => ?_) (fun h542 => absurd h542 (not_not_intro rfl))
  exact next _ _ _ _ _ hC2 hM2 (wf_scan hW) (by omega) (by omega)

set_option maxHeartbeats 4000000 in
set_option maxRecDepth 100000 in
/-- the law: truth -/
theorem law_11 {X : jX} {Q : State → Prop} {rt0 : Option FieldType} {b L o1 o2 : Nat} {xs : Nat → Int32} (C : jC X RL b_L_law (4, 99) rt0 7 600000 7302250) (hX : jSc X b L xs) (hL : L ≤ 3072) {j k n : Nat} {wa wb : jw} {s : jS} (hj6 : 6 * j + 6 ≤ L) (hC : RepC (xG X) wa o1 s) (hM : RepM (xG X) wb o2 s) (hW : WF s) (hk : k ≤ 60 + 4 * j) (hn : n ≤ 400000 + 1300 * j) (next : (∀ (wa' wb' : jw) (s' : jS) (k' n' : Nat), RepC (xG X) wa' o1 s' → RepM (xG X) wb' o2 s' → WF s' → k' ≤ 64 + 4 * j → n' ≤ 401300 + 1300 * j → J X (4, 99) Q (jj wa' wb') k' n' 695 [(0, .ref b), (1, .ref o1), (2, .ref o2), (3, .int (nI (6 * j)))] [])) : J X (4, 99) Q (jj wa wb) k n 547 [(0, .ref b), (1, .ref o1), (2, .ref o2), (3, .int (nI (6 * j)))] [] := by
  obtain ⟨fa, ha⟩ := hC.o
  obtain ⟨fb, hb⟩ := hM.o
  refine j_aload_n (i := 1) (t := 548) C d_L_law_547 rfl rfl (by first | exact jrv_r | exact jrv_n | exact jrv_f) rfl ?_
  refine j_aload_n (i := 0) (t := 549) C d_L_law_548 rfl rfl (by first | exact jrv_r | exact jrv_n | exact jrv_f) rfl ?_
  refine j_iload_n (i := 3) (t := 550) C d_L_law_549 rfl rfl rfl ?_
  refine j_iconst (x := 1) (t := 551) C d_L_law_550 rfl rfl ?_
  refine j_iadd (t := 552) C d_L_law_551 rfl ?_
  refine j_sld (N := 6 * j + 1) (t := 553) C d_L_law_552 hX (nI_add (6 * j) 1) (by omega) (by omega) rfl ?_
  refine j_callA (As := [_]) (t := 556) C (c_T_truth _ o1 s _) d_L_law_553 jb_T_truth ml_L_66 jv_T_truth ha rfl rfl rfl (Nat.le_of_ble_eq_true rfl) (by decide) (by omega) (by omega) (⟨rfl, hC, hW⟩) rfl (fun r553 w553 p553 => ?_)
  obtain ⟨rfl, rfl⟩ := p553
  dsimp only [jst]
  have hC2 := hC
  refine j_aload_n (i := 2) (t := 557) C d_L_law_556 rfl rfl (by first | exact jrv_r | exact jrv_n | exact jrv_f) rfl ?_
  refine j_aload_n (i := 0) (t := 558) C d_L_law_557 rfl rfl (by first | exact jrv_r | exact jrv_n | exact jrv_f) rfl ?_
  refine j_iload_n (i := 3) (t := 559) C d_L_law_558 rfl rfl rfl ?_
  refine j_iconst (x := 1) (t := 560) C d_L_law_559 rfl rfl ?_
  refine j_iadd (t := 561) C d_L_law_560 rfl ?_
  refine j_sld (N := 6 * j + 1) (t := 562) C d_L_law_561 hX (nI_add (6 * j) 1) (by omega) (by omega) rfl ?_
  refine j_callB (As := [_]) (t := 565) C (c_M_truth _ o2 s _) d_L_law_562 jb_M_truth ml_L_69 jv_M_truth hb rfl rfl rfl (Nat.le_of_ble_eq_true rfl) (by decide) (by omega) (by omega) (⟨rfl, hM, hW⟩) rfl (fun r562 w562 p562 => ?_)
  obtain ⟨rfl, hM2⟩ := p562
  dsimp only [jst]
  refine j_icmp_eq (tgt := 695) (t := 568) C d_L_law_565 (by decide) rfl (fun h565 => ?_) (fun h565 => absurd h565 (not_not_intro rfl))
  exact next _ _ _ _ _ hC2 hM2 hW (by omega) (by omega)

set_option maxHeartbeats 4000000 in
set_option maxRecDepth 100000 in
/-- the law: chosen -/
theorem law_12 {X : jX} {Q : State → Prop} {rt0 : Option FieldType} {b L o1 o2 : Nat} {xs : Nat → Int32} (C : jC X RL b_L_law (4, 99) rt0 7 600000 7302250) (hX : jSc X b L xs) (hL : L ≤ 3072) {j k n : Nat} {wa wb : jw} {s : jS} (hj6 : 6 * j + 6 ≤ L) (hC : RepC (xG X) wa o1 s) (hM : RepM (xG X) wb o2 s) (hW : WF s) (hk : k ≤ 60 + 4 * j) (hn : n ≤ 400000 + 1300 * j) (next : (∀ (wa' wb' : jw) (s' : jS) (k' n' : Nat), RepC (xG X) wa' o1 s' → RepM (xG X) wb' o2 s' → WF s' → k' ≤ 64 + 4 * j → n' ≤ 401300 + 1300 * j → J X (4, 99) Q (jj wa' wb') k' n' 695 [(0, .ref b), (1, .ref o1), (2, .ref o2), (3, .int (nI (6 * j)))] [])) : J X (4, 99) Q (jj wa wb) k n 570 [(0, .ref b), (1, .ref o1), (2, .ref o2), (3, .int (nI (6 * j)))] [] := by
  obtain ⟨fa, ha⟩ := hC.o
  obtain ⟨fb, hb⟩ := hM.o
  refine j_aload_n (i := 1) (t := 571) C d_L_law_570 rfl rfl (by first | exact jrv_r | exact jrv_n | exact jrv_f) rfl ?_
  refine j_aload_n (i := 0) (t := 572) C d_L_law_571 rfl rfl (by first | exact jrv_r | exact jrv_n | exact jrv_f) rfl ?_
  refine j_iload_n (i := 3) (t := 573) C d_L_law_572 rfl rfl rfl ?_
  refine j_iconst (x := 1) (t := 574) C d_L_law_573 rfl rfl ?_
  refine j_iadd (t := 575) C d_L_law_574 rfl ?_
  refine j_sld (N := 6 * j + 1) (t := 576) C d_L_law_575 hX (nI_add (6 * j) 1) (by omega) (by omega) rfl ?_
  refine j_callA (As := [_]) (t := 579) C (c_T_chosen _ o1 s _) d_L_law_576 jb_T_chosen ml_L_70 jv_T_chosen ha rfl rfl rfl (Nat.le_of_ble_eq_true rfl) (by decide) (by omega) (by omega) (⟨rfl, hC, hW⟩) rfl (fun r576 w576 p576 => ?_)
  obtain ⟨rfl, rfl⟩ := p576
  dsimp only [jst]
  have hC2 := hC
  refine j_aload_n (i := 2) (t := 580) C d_L_law_579 rfl rfl (by first | exact jrv_r | exact jrv_n | exact jrv_f) rfl ?_
  refine j_aload_n (i := 0) (t := 581) C d_L_law_580 rfl rfl (by first | exact jrv_r | exact jrv_n | exact jrv_f) rfl ?_
  refine j_iload_n (i := 3) (t := 582) C d_L_law_581 rfl rfl rfl ?_
  refine j_iconst (x := 1) (t := 583) C d_L_law_582 rfl rfl ?_
  refine j_iadd (t := 584) C d_L_law_583 rfl ?_
  refine j_sld (N := 6 * j + 1) (t := 585) C d_L_law_584 hX (nI_add (6 * j) 1) (by omega) (by omega) rfl ?_
  refine j_callB (As := [_]) (t := 588) C (c_M_chosen _ o2 s _) d_L_law_585 jb_M_chosen ml_L_73 jv_M_chosen hb rfl rfl rfl (Nat.le_of_ble_eq_true rfl) (by decide) (by omega) (by omega) (⟨rfl, hM, hW⟩) rfl (fun r585 w585 p585 => ?_)
  obtain ⟨rfl, hM2⟩ := p585
  dsimp only [jst]
  refine j_icmp_eq (tgt := 695) (t := 591) C d_L_law_588 (by decide) rfl (fun h588 => ?_) (fun h588 => absurd h588 (not_not_intro rfl))
  exact next _ _ _ _ _ hC2 hM2 hW (by omega) (by omega)

set_option maxHeartbeats 4000000 in
set_option maxRecDepth 100000 in
/-- the law: known -/
theorem law_13 {X : jX} {Q : State → Prop} {rt0 : Option FieldType} {b L o1 o2 : Nat} {xs : Nat → Int32} (C : jC X RL b_L_law (4, 99) rt0 7 600000 7302250) (hX : jSc X b L xs) (hL : L ≤ 3072) {j k n : Nat} {wa wb : jw} {s : jS} (hj6 : 6 * j + 6 ≤ L) (hC : RepC (xG X) wa o1 s) (hM : RepM (xG X) wb o2 s) (hW : WF s) (hk : k ≤ 60 + 4 * j) (hn : n ≤ 400000 + 1300 * j) (next : (∀ (wa' wb' : jw) (s' : jS) (k' n' : Nat), RepC (xG X) wa' o1 s' → RepM (xG X) wb' o2 s' → WF s' → k' ≤ 64 + 4 * j → n' ≤ 401300 + 1300 * j → J X (4, 99) Q (jj wa' wb') k' n' 695 [(0, .ref b), (1, .ref o1), (2, .ref o2), (3, .int (nI (6 * j)))] [])) : J X (4, 99) Q (jj wa wb) k n 593 [(0, .ref b), (1, .ref o1), (2, .ref o2), (3, .int (nI (6 * j)))] [] := by
  obtain ⟨fa, ha⟩ := hC.o
  obtain ⟨fb, hb⟩ := hM.o
  refine j_aload_n (i := 1) (t := 594) C d_L_law_593 rfl rfl (by first | exact jrv_r | exact jrv_n | exact jrv_f) rfl ?_
  refine j_aload_n (i := 0) (t := 595) C d_L_law_594 rfl rfl (by first | exact jrv_r | exact jrv_n | exact jrv_f) rfl ?_
  refine j_iload_n (i := 3) (t := 596) C d_L_law_595 rfl rfl rfl ?_
  refine j_iconst (x := 1) (t := 597) C d_L_law_596 rfl rfl ?_
  refine j_iadd (t := 598) C d_L_law_597 rfl ?_
  refine j_sld (N := 6 * j + 1) (t := 599) C d_L_law_598 hX (nI_add (6 * j) 1) (by omega) (by omega) rfl ?_
  refine j_aload_n (i := 0) (t := 600) C d_L_law_599 rfl rfl (by first | exact jrv_r | exact jrv_n | exact jrv_f) rfl ?_
  refine j_iload_n (i := 3) (t := 601) C d_L_law_600 rfl rfl rfl ?_
  refine j_iconst (x := 2) (t := 602) C d_L_law_601 rfl rfl ?_
  refine j_iadd (t := 603) C d_L_law_602 rfl ?_
  refine j_sld (N := 6 * j + 2) (t := 604) C d_L_law_603 hX (nI_add (6 * j) 2) (by omega) (by omega) rfl ?_
  refine j_aload_n (i := 0) (t := 605) C d_L_law_604 rfl rfl (by first | exact jrv_r | exact jrv_n | exact jrv_f) rfl ?_
  refine j_iload_n (i := 3) (t := 606) C d_L_law_605 rfl rfl rfl ?_
  refine j_iconst (x := 3) (t := 607) C d_L_law_606 rfl rfl ?_
  refine j_iadd (t := 608) C d_L_law_607 rfl ?_
  refine j_sld (N := 6 * j + 3) (t := 609) C d_L_law_608 hX (nI_add (6 * j) 3) (by omega) (by omega) rfl ?_
  refine j_callA (As := [_, _, _]) (t := 612) C (c_T_known _ o1 s _ _ _) d_L_law_609 jb_T_known ml_L_74 jv_T_known ha rfl rfl rfl (Nat.le_of_ble_eq_true rfl) (by decide) (by omega) (by omega) (⟨rfl, hC, hW⟩) rfl (fun r609 w609 p609 => ?_)
  obtain ⟨rfl, hC2⟩ := p609
  dsimp only [jst]
  refine j_aload_n (i := 2) (t := 613) C d_L_law_612 rfl rfl (by first | exact jrv_r | exact jrv_n | exact jrv_f) rfl ?_
  refine j_aload_n (i := 0) (t := 614) C d_L_law_613 rfl rfl (by first | exact jrv_r | exact jrv_n | exact jrv_f) rfl ?_
  refine j_iload_n (i := 3) (t := 615) C d_L_law_614 rfl rfl rfl ?_
  refine j_iconst (x := 1) (t := 616) C d_L_law_615 rfl rfl ?_
  refine j_iadd (t := 617) C d_L_law_616 rfl ?_
  refine j_sld (N := 6 * j + 1) (t := 618) C d_L_law_617 hX (nI_add (6 * j) 1) (by omega) (by omega) rfl ?_
  refine j_aload_n (i := 0) (t := 619) C d_L_law_618 rfl rfl (by first | exact jrv_r | exact jrv_n | exact jrv_f) rfl ?_
  refine j_iload_n (i := 3) (t := 620) C d_L_law_619 rfl rfl rfl ?_
  refine j_iconst (x := 2) (t := 621) C d_L_law_620 rfl rfl ?_
  refine j_iadd (t := 622) C d_L_law_621 rfl ?_
  refine j_sld (N := 6 * j + 2) (t := 623) C d_L_law_622 hX (nI_add (6 * j) 2) (by omega) (by omega) rfl ?_
  refine j_aload_n (i := 0) (t := 624) C d_L_law_623 rfl rfl (by first | exact jrv_r | exact jrv_n | exact jrv_f) rfl ?_
  refine j_iload_n (i := 3) (t := 625) C d_L_law_624 rfl rfl rfl ?_
  refine j_iconst (x := 3) (t := 626) C d_L_law_625 rfl rfl ?_
  refine j_iadd (t := 627) C d_L_law_626 rfl ?_
  refine j_sld (N := 6 * j + 3) (t := 628) C d_L_law_627 hX (nI_add (6 * j) 3) (by omega) (by omega) rfl ?_
  refine j_callB (As := [_, _, _]) (t := 631) C (c_M_known _ o2 s _ _ _) d_L_law_628 jb_M_known ml_L_78 jv_M_known hb rfl rfl rfl (Nat.le_of_ble_eq_true rfl) (by decide) (by omega) (by omega) (⟨rfl, hM, hW⟩) rfl (fun r628 w628 p628 => ?_)
  obtain ⟨rfl, hM2⟩ := p628
  dsimp only [jst]
  refine j_icmp_eq (tgt := 695) (t := 634) C d_L_law_631 (by decide) rfl (fun h631 => ?_) (fun h631 => absurd h631 (not_not_intro rfl))
  exact next _ _ _ _ _ hC2 hM2 (wf_known hW) (by omega) (by omega)

set_option maxHeartbeats 4000000 in
set_option maxRecDepth 100000 in
/-- the law: dictionary -/
theorem law_14 {X : jX} {Q : State → Prop} {rt0 : Option FieldType} {b L o1 o2 : Nat} {xs : Nat → Int32} (C : jC X RL b_L_law (4, 99) rt0 7 600000 7302250) (hX : jSc X b L xs) (hL : L ≤ 3072) {j k n : Nat} {wa wb : jw} {s : jS} (hj6 : 6 * j + 6 ≤ L) (hC : RepC (xG X) wa o1 s) (hM : RepM (xG X) wb o2 s) (hW : WF s) (hk : k ≤ 60 + 4 * j) (hn : n ≤ 400000 + 1300 * j) (next : (∀ (wa' wb' : jw) (s' : jS) (k' n' : Nat), RepC (xG X) wa' o1 s' → RepM (xG X) wb' o2 s' → WF s' → k' ≤ 64 + 4 * j → n' ≤ 401300 + 1300 * j → J X (4, 99) Q (jj wa' wb') k' n' 695 [(0, .ref b), (1, .ref o1), (2, .ref o2), (3, .int (nI (6 * j)))] [])) : J X (4, 99) Q (jj wa wb) k n 636 [(0, .ref b), (1, .ref o1), (2, .ref o2), (3, .int (nI (6 * j)))] [] := by
  obtain ⟨fa, ha⟩ := hC.o
  obtain ⟨fb, hb⟩ := hM.o
  refine j_aload_n (i := 1) (t := 637) C d_L_law_636 rfl rfl (by first | exact jrv_r | exact jrv_n | exact jrv_f) rfl ?_
  refine j_aload_n (i := 0) (t := 638) C d_L_law_637 rfl rfl (by first | exact jrv_r | exact jrv_n | exact jrv_f) rfl ?_
  refine j_iload_n (i := 3) (t := 639) C d_L_law_638 rfl rfl rfl ?_
  refine j_iconst (x := 1) (t := 640) C d_L_law_639 rfl rfl ?_
  refine j_iadd (t := 641) C d_L_law_640 rfl ?_
  refine j_sld (N := 6 * j + 1) (t := 642) C d_L_law_641 hX (nI_add (6 * j) 1) (by omega) (by omega) rfl ?_
  refine j_callA (As := [_]) (t := 645) C (c_T_dictionary _ o1 s _) d_L_law_642 jb_T_dictionary ml_L_79 jv_T_dictionary ha rfl rfl rfl (Nat.le_of_ble_eq_true rfl) (by decide) (by omega) (by omega) (⟨rfl, hC, hW⟩) rfl (fun r642 w642 p642 => ?_)
  obtain ⟨rfl, hC2⟩ := p642
  dsimp only [jst]
  refine j_aload_n (i := 2) (t := 646) C d_L_law_645 rfl rfl (by first | exact jrv_r | exact jrv_n | exact jrv_f) rfl ?_
  refine j_aload_n (i := 0) (t := 647) C d_L_law_646 rfl rfl (by first | exact jrv_r | exact jrv_n | exact jrv_f) rfl ?_
  refine j_iload_n (i := 3) (t := 648) C d_L_law_647 rfl rfl rfl ?_
  refine j_iconst (x := 1) (t := 649) C d_L_law_648 rfl rfl ?_
  refine j_iadd (t := 650) C d_L_law_649 rfl ?_
  refine j_sld (N := 6 * j + 1) (t := 651) C d_L_law_650 hX (nI_add (6 * j) 1) (by omega) (by omega) rfl ?_
  refine j_callB (As := [_]) (t := 654) C (c_M_dictionary _ o2 s _) d_L_law_651 jb_M_dictionary ml_L_82 jv_M_dictionary hb rfl rfl rfl (Nat.le_of_ble_eq_true rfl) (by decide) (by omega) (by omega) (⟨rfl, hM, hW⟩) rfl (fun r651 w651 p651 => ?_)
  obtain ⟨rfl, hM2⟩ := p651
  dsimp only [jst]
  refine j_icmp_eq (tgt := 695) (t := 657) C d_L_law_654 (by decide) rfl (fun h654 => ?_) (fun h654 => absurd h654 (not_not_intro rfl))
  exact next _ _ _ _ _ hC2 hM2 (wf_dict hW) (by omega) (by omega)

set_option maxHeartbeats 4000000 in
set_option maxRecDepth 100000 in
/-- the law: unknown -/
theorem law_15 {X : jX} {Q : State → Prop} {rt0 : Option FieldType} {b L o1 o2 : Nat} {xs : Nat → Int32} (C : jC X RL b_L_law (4, 99) rt0 7 600000 7302250) (hX : jSc X b L xs) (hL : L ≤ 3072) {j k n : Nat} {wa wb : jw} {s : jS} (hj6 : 6 * j + 6 ≤ L) (hC : RepC (xG X) wa o1 s) (hM : RepM (xG X) wb o2 s) (hW : WF s) (hk : k ≤ 60 + 4 * j) (hn : n ≤ 400000 + 1300 * j) (next : (∀ (wa' wb' : jw) (s' : jS) (k' n' : Nat), RepC (xG X) wa' o1 s' → RepM (xG X) wb' o2 s' → WF s' → k' ≤ 64 + 4 * j → n' ≤ 401300 + 1300 * j → J X (4, 99) Q (jj wa' wb') k' n' 695 [(0, .ref b), (1, .ref o1), (2, .ref o2), (3, .int (nI (6 * j)))] [])) : J X (4, 99) Q (jj wa wb) k n 659 [(0, .ref b), (1, .ref o1), (2, .ref o2), (3, .int (nI (6 * j)))] [] := by
  obtain ⟨fa, ha⟩ := hC.o
  obtain ⟨fb, hb⟩ := hM.o
  refine j_aload_n (i := 1) (t := 660) C d_L_law_659 rfl rfl (by first | exact jrv_r | exact jrv_n | exact jrv_f) rfl ?_
  refine j_aload_n (i := 0) (t := 661) C d_L_law_660 rfl rfl (by first | exact jrv_r | exact jrv_n | exact jrv_f) rfl ?_
  refine j_iload_n (i := 3) (t := 662) C d_L_law_661 rfl rfl rfl ?_
  refine j_iconst (x := 1) (t := 663) C d_L_law_662 rfl rfl ?_
  refine j_iadd (t := 664) C d_L_law_663 rfl ?_
  refine j_sld (N := 6 * j + 1) (t := 665) C d_L_law_664 hX (nI_add (6 * j) 1) (by omega) (by omega) rfl ?_
  refine j_callA (As := [_]) (t := 668) C (c_T_unknown _ o1 s _) d_L_law_665 jb_T_unknown ml_L_83 jv_T_unknown ha rfl rfl rfl (Nat.le_of_ble_eq_true rfl) (by decide) (by omega) (by omega) (⟨rfl, hC, hW⟩) rfl (fun r665 w665 p665 => ?_)
  obtain ⟨rfl, hC2⟩ := p665
  dsimp only [jst]
  refine j_aload_n (i := 2) (t := 669) C d_L_law_668 rfl rfl (by first | exact jrv_r | exact jrv_n | exact jrv_f) rfl ?_
  refine j_aload_n (i := 0) (t := 670) C d_L_law_669 rfl rfl (by first | exact jrv_r | exact jrv_n | exact jrv_f) rfl ?_
  refine j_iload_n (i := 3) (t := 671) C d_L_law_670 rfl rfl rfl ?_
  refine j_iconst (x := 1) (t := 672) C d_L_law_671 rfl rfl ?_
  refine j_iadd (t := 673) C d_L_law_672 rfl ?_
  refine j_sld (N := 6 * j + 1) (t := 674) C d_L_law_673 hX (nI_add (6 * j) 1) (by omega) (by omega) rfl ?_
  refine j_callB (As := [_]) (t := 677) C (c_M_unknown _ o2 s _) d_L_law_674 jb_M_unknown ml_L_86 jv_M_unknown hb rfl rfl rfl (Nat.le_of_ble_eq_true rfl) (by decide) (by omega) (by omega) (⟨rfl, hM, hW⟩) rfl (fun r674 w674 p674 => ?_)
  obtain ⟨rfl, hM2⟩ := p674
  dsimp only [jst]
  refine j_icmp_eq (tgt := 695) (t := 680) C d_L_law_677 (by decide) rfl (fun h677 => ?_) (fun h677 => absurd h677 (not_not_intro rfl))
  exact next _ _ _ _ _ hC2 hM2 (wf_unknown hW) (by omega) (by omega)

set_option maxHeartbeats 4000000 in
set_option maxRecDepth 100000 in
/-- the law: can -/
theorem law_16 {X : jX} {Q : State → Prop} {rt0 : Option FieldType} {b L o1 o2 : Nat} {xs : Nat → Int32} (C : jC X RL b_L_law (4, 99) rt0 7 600000 7302250) (hX : jSc X b L xs) (hL : L ≤ 3072) {j k n : Nat} {wa wb : jw} {s : jS} (hj6 : 6 * j + 6 ≤ L) (hC : RepC (xG X) wa o1 s) (hM : RepM (xG X) wb o2 s) (hW : WF s) (hk : k ≤ 60 + 4 * j) (hn : n ≤ 400000 + 1300 * j) (next : (∀ (wa' wb' : jw) (s' : jS) (k' n' : Nat), RepC (xG X) wa' o1 s' → RepM (xG X) wb' o2 s' → WF s' → k' ≤ 64 + 4 * j → n' ≤ 401300 + 1300 * j → J X (4, 99) Q (jj wa' wb') k' n' 695 [(0, .ref b), (1, .ref o1), (2, .ref o2), (3, .int (nI (6 * j)))] [])) : J X (4, 99) Q (jj wa wb) k n 682 [(0, .ref b), (1, .ref o1), (2, .ref o2), (3, .int (nI (6 * j)))] [] := by
  obtain ⟨fa, ha⟩ := hC.o
  obtain ⟨fb, hb⟩ := hM.o
  refine j_aload_n (i := 1) (t := 683) C d_L_law_682 rfl rfl (by first | exact jrv_r | exact jrv_n | exact jrv_f) rfl ?_
  refine j_callA (As := []) (t := 686) C (c_T_can _ o1 s) d_L_law_683 jb_T_can ml_L_87 jv_T_can ha rfl rfl rfl (Nat.le_of_ble_eq_true rfl) (by decide) (by omega) (by omega) (⟨rfl, hC, hW⟩) rfl (fun r683 w683 p683 => ?_)
  obtain ⟨rfl, hC2⟩ := p683
  dsimp only [jst]
  refine j_aload_n (i := 2) (t := 687) C d_L_law_686 rfl rfl (by first | exact jrv_r | exact jrv_n | exact jrv_f) rfl ?_
  refine j_callB (As := []) (t := 690) C (c_M_can _ o2 s) d_L_law_687 jb_M_can ml_L_91 jv_M_can hb rfl rfl rfl (Nat.le_of_ble_eq_true rfl) (by decide) (by omega) (by omega) (⟨rfl, hM, hW⟩) rfl (fun r687 w687 p687 => ?_)
  obtain ⟨rfl, hM2⟩ := p687
  dsimp only [jst]
  refine j_icmp_eq (tgt := 695) (t := 693) C d_L_law_690 (by decide) rfl (fun h690 => ?_) (fun h690 => absurd h690 (not_not_intro rfl))
  exact next _ _ _ _ _ hC2 hM2 hW (by omega) (by omega)

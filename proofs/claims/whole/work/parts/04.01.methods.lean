theorem dX10_init_0 : decode cX10_init 0 = .ok (.aload_n 0, 1) := by decide +kernel
theorem dX10_init_1 : decode cX10_init 1 = .ok (.invokespecial 1, 3) := by decide +kernel
theorem dX10_init_4 : decode cX10_init 4 = .ok (.aload_n 0, 1) := by decide +kernel
theorem dX10_init_5 : decode cX10_init 5 = .ok (.bipush 30, 2) := by decide +kernel
theorem dX10_init_7 : decode cX10_init 7 = .ok (.newarray .int, 2) := by decide +kernel
theorem dX10_init_9 : decode cX10_init 9 = .ok (.putfield 7, 3) := by decide +kernel
theorem dX10_init_12 : decode cX10_init 12 = .ok (.aload_n 0, 1) := by decide +kernel
theorem dX10_init_13 : decode cX10_init 13 = .ok (.bipush 120, 2) := by decide +kernel
theorem dX10_init_15 : decode cX10_init 15 = .ok (.newarray .boolean, 2) := by decide +kernel
theorem dX10_init_17 : decode cX10_init 17 = .ok (.putfield 13, 3) := by decide +kernel
theorem dX10_init_20 : decode cX10_init 20 = .ok (.aload_n 0, 1) := by decide +kernel
theorem dX10_init_21 : decode cX10_init 21 = .ok (.sipush 1200, 3) := by decide +kernel
theorem dX10_init_24 : decode cX10_init 24 = .ok (.newarray .int, 2) := by decide +kernel
theorem dX10_init_26 : decode cX10_init 26 = .ok (.putfield 17, 3) := by decide +kernel
theorem dX10_init_29 : decode cX10_init 29 = .ok (.aload_n 0, 1) := by decide +kernel
theorem dX10_init_30 : decode cX10_init 30 = .ok (.bipush 120, 2) := by decide +kernel
theorem dX10_init_32 : decode cX10_init 32 = .ok (.newarray .int, 2) := by decide +kernel
theorem dX10_init_34 : decode cX10_init 34 = .ok (.putfield 20, 3) := by decide +kernel
theorem dX10_init_37 : decode cX10_init 37 = .ok (.aload_n 0, 1) := by decide +kernel
theorem dX10_init_38 : decode cX10_init 38 = .ok (.bipush 120, 2) := by decide +kernel
theorem dX10_init_40 : decode cX10_init 40 = .ok (.newarray .int, 2) := by decide +kernel
theorem dX10_init_42 : decode cX10_init 42 = .ok (.putfield 23, 3) := by decide +kernel
theorem dX10_init_45 : decode cX10_init 45 = .ok (.aload_n 0, 1) := by decide +kernel
theorem dX10_init_46 : decode cX10_init 46 = .ok (.bipush 11, 2) := by decide +kernel
theorem dX10_init_48 : decode cX10_init 48 = .ok (.newarray .int, 2) := by decide +kernel
theorem dX10_init_50 : decode cX10_init 50 = .ok (.putfield 26, 3) := by decide +kernel
theorem dX10_init_53 : decode cX10_init 53 = .ok (.aload_n 0, 1) := by decide +kernel
theorem dX10_init_54 : decode cX10_init 54 = .ok (.bipush 90, 2) := by decide +kernel
theorem dX10_init_56 : decode cX10_init 56 = .ok (.newarray .int, 2) := by decide +kernel
theorem dX10_init_58 : decode cX10_init 58 = .ok (.putfield 29, 3) := by decide +kernel
theorem dX10_init_61 : decode cX10_init 61 = .ok (.aload_n 0, 1) := by decide +kernel
theorem dX10_init_62 : decode cX10_init 62 = .ok (.bipush 11, 2) := by decide +kernel
theorem dX10_init_64 : decode cX10_init 64 = .ok (.newarray .int, 2) := by decide +kernel
theorem dX10_init_66 : decode cX10_init 66 = .ok (.putfield 32, 3) := by decide +kernel
theorem dX10_init_69 : decode cX10_init 69 = .ok (.aload_n 0, 1) := by decide +kernel
theorem dX10_init_70 : decode cX10_init 70 = .ok (.bipush 90, 2) := by decide +kernel
theorem dX10_init_72 : decode cX10_init 72 = .ok (.newarray .int, 2) := by decide +kernel
theorem dX10_init_74 : decode cX10_init 74 = .ok (.putfield 35, 3) := by decide +kernel
theorem dX10_init_77 : decode cX10_init 77 = .ok (.aload_n 0, 1) := by decide +kernel
theorem dX10_init_78 : decode cX10_init 78 = .ok (.bipush 10, 2) := by decide +kernel
theorem dX10_init_80 : decode cX10_init 80 = .ok (.newarray .int, 2) := by decide +kernel
theorem dX10_init_82 : decode cX10_init 82 = .ok (.putfield 38, 3) := by decide +kernel
theorem dX10_init_85 : decode cX10_init 85 = .ok (.aload_n 0, 1) := by decide +kernel
theorem dX10_init_86 : decode cX10_init 86 = .ok (.bipush 10, 2) := by decide +kernel
theorem dX10_init_88 : decode cX10_init 88 = .ok (.newarray .int, 2) := by decide +kernel
theorem dX10_init_90 : decode cX10_init 90 = .ok (.putfield 41, 3) := by decide +kernel
theorem dX10_init_93 : decode cX10_init 93 = .ok (.aload_n 0, 1) := by decide +kernel
theorem dX10_init_94 : decode cX10_init 94 = .ok (.sipush 300, 3) := by decide +kernel
theorem dX10_init_97 : decode cX10_init 97 = .ok (.newarray .int, 2) := by decide +kernel
theorem dX10_init_99 : decode cX10_init 99 = .ok (.putfield 44, 3) := by decide +kernel
theorem dX10_init_102 : decode cX10_init 102 = .ok (.aload_n 0, 1) := by decide +kernel
theorem dX10_init_103 : decode cX10_init 103 = .ok (.iconst (-1), 1) := by decide +kernel
theorem dX10_init_104 : decode cX10_init 104 = .ok (.putfield 47, 3) := by decide +kernel
theorem dX10_init_107 : decode cX10_init 107 = .ok (.aload_n 0, 1) := by decide +kernel
theorem dX10_init_108 : decode cX10_init 108 = .ok (.bipush 60, 2) := by decide +kernel
theorem dX10_init_110 : decode cX10_init 110 = .ok (.newarray .int, 2) := by decide +kernel
theorem dX10_init_112 : decode cX10_init 112 = .ok (.putfield 51, 3) := by decide +kernel
theorem dX10_init_115 : decode cX10_init 115 = .ok (.aload_n 0, 1) := by decide +kernel
theorem dX10_init_116 : decode cX10_init 116 = .ok (.bipush 60, 2) := by decide +kernel
theorem dX10_init_118 : decode cX10_init 118 = .ok (.newarray .int, 2) := by decide +kernel
theorem dX10_init_120 : decode cX10_init 120 = .ok (.putfield 54, 3) := by decide +kernel
theorem dX10_init_123 : decode cX10_init 123 = .ok (.aload_n 0, 1) := by decide +kernel
theorem dX10_init_124 : decode cX10_init 124 = .ok (.bipush 60, 2) := by decide +kernel
theorem dX10_init_126 : decode cX10_init 126 = .ok (.newarray .boolean, 2) := by decide +kernel
theorem dX10_init_128 : decode cX10_init 128 = .ok (.putfield 57, 3) := by decide +kernel
theorem dX10_init_131 : decode cX10_init 131 = .ok (.aload_n 0, 1) := by decide +kernel
theorem dX10_init_132 : decode cX10_init 132 = .ok (.iconst 3, 1) := by decide +kernel
theorem dX10_init_133 : decode cX10_init 133 = .ok (.newarray .int, 2) := by decide +kernel
theorem dX10_init_135 : decode cX10_init 135 = .ok (.dup, 1) := by decide +kernel
theorem dX10_init_136 : decode cX10_init 136 = .ok (.iconst 0, 1) := by decide +kernel
theorem dX10_init_137 : decode cX10_init 137 = .ok (.iconst 1, 1) := by decide +kernel
theorem dX10_init_138 : decode cX10_init 138 = .ok (.iastore, 1) := by decide +kernel
theorem dX10_init_139 : decode cX10_init 139 = .ok (.dup, 1) := by decide +kernel
theorem dX10_init_140 : decode cX10_init 140 = .ok (.iconst 1, 1) := by decide +kernel
theorem dX10_init_141 : decode cX10_init 141 = .ok (.iconst 1, 1) := by decide +kernel
theorem dX10_init_142 : decode cX10_init 142 = .ok (.iastore, 1) := by decide +kernel
theorem dX10_init_143 : decode cX10_init 143 = .ok (.dup, 1) := by decide +kernel
theorem dX10_init_144 : decode cX10_init 144 = .ok (.iconst 2, 1) := by decide +kernel
theorem dX10_init_145 : decode cX10_init 145 = .ok (.iconst 1, 1) := by decide +kernel
theorem dX10_init_146 : decode cX10_init 146 = .ok (.iastore, 1) := by decide +kernel
theorem dX10_init_147 : decode cX10_init 147 = .ok (.putfield 60, 3) := by decide +kernel
theorem dX10_init_150 : decode cX10_init 150 = .ok (.aload_n 0, 1) := by decide +kernel
theorem dX10_init_151 : decode cX10_init 151 = .ok (.bipush 6, 2) := by decide +kernel
theorem dX10_init_153 : decode cX10_init 153 = .ok (.newarray .int, 2) := by decide +kernel
theorem dX10_init_155 : decode cX10_init 155 = .ok (.dup, 1) := by decide +kernel
theorem dX10_init_156 : decode cX10_init 156 = .ok (.iconst 0, 1) := by decide +kernel
theorem dX10_init_157 : decode cX10_init 157 = .ok (.iconst 0, 1) := by decide +kernel
theorem dX10_init_158 : decode cX10_init 158 = .ok (.iastore, 1) := by decide +kernel
theorem dX10_init_159 : decode cX10_init 159 = .ok (.dup, 1) := by decide +kernel
theorem dX10_init_160 : decode cX10_init 160 = .ok (.iconst 1, 1) := by decide +kernel
theorem dX10_init_161 : decode cX10_init 161 = .ok (.bipush 100, 2) := by decide +kernel
theorem dX10_init_163 : decode cX10_init 163 = .ok (.iastore, 1) := by decide +kernel
theorem dX10_init_164 : decode cX10_init 164 = .ok (.dup, 1) := by decide +kernel
theorem dX10_init_165 : decode cX10_init 165 = .ok (.iconst 2, 1) := by decide +kernel
theorem dX10_init_166 : decode cX10_init 166 = .ok (.iconst 0, 1) := by decide +kernel
theorem dX10_init_167 : decode cX10_init 167 = .ok (.iastore, 1) := by decide +kernel
theorem dX10_init_168 : decode cX10_init 168 = .ok (.dup, 1) := by decide +kernel
theorem dX10_init_169 : decode cX10_init 169 = .ok (.iconst 3, 1) := by decide +kernel
theorem dX10_init_170 : decode cX10_init 170 = .ok (.bipush 100, 2) := by decide +kernel
theorem dX10_init_172 : decode cX10_init 172 = .ok (.iastore, 1) := by decide +kernel
theorem dX10_init_173 : decode cX10_init 173 = .ok (.dup, 1) := by decide +kernel
theorem dX10_init_174 : decode cX10_init 174 = .ok (.iconst 4, 1) := by decide +kernel
theorem dX10_init_175 : decode cX10_init 175 = .ok (.iconst 0, 1) := by decide +kernel
theorem dX10_init_176 : decode cX10_init 176 = .ok (.iastore, 1) := by decide +kernel
theorem dX10_init_177 : decode cX10_init 177 = .ok (.dup, 1) := by decide +kernel
theorem dX10_init_178 : decode cX10_init 178 = .ok (.iconst 5, 1) := by decide +kernel
theorem dX10_init_179 : decode cX10_init 179 = .ok (.bipush 100, 2) := by decide +kernel
theorem dX10_init_181 : decode cX10_init 181 = .ok (.iastore, 1) := by decide +kernel
theorem dX10_init_182 : decode cX10_init 182 = .ok (.putfield 63, 3) := by decide +kernel
theorem dX10_init_185 : decode cX10_init 185 = .ok (.aload_n 0, 1) := by decide +kernel
theorem dX10_init_186 : decode cX10_init 186 = .ok (.bipush 6, 2) := by decide +kernel
theorem dX10_init_188 : decode cX10_init 188 = .ok (.newarray .int, 2) := by decide +kernel
theorem dX10_init_190 : decode cX10_init 190 = .ok (.dup, 1) := by decide +kernel
theorem dX10_init_191 : decode cX10_init 191 = .ok (.iconst 0, 1) := by decide +kernel
theorem dX10_init_192 : decode cX10_init 192 = .ok (.iconst 0, 1) := by decide +kernel
theorem dX10_init_193 : decode cX10_init 193 = .ok (.iastore, 1) := by decide +kernel
theorem dX10_init_194 : decode cX10_init 194 = .ok (.dup, 1) := by decide +kernel
theorem dX10_init_195 : decode cX10_init 195 = .ok (.iconst 1, 1) := by decide +kernel
theorem dX10_init_196 : decode cX10_init 196 = .ok (.bipush 100, 2) := by decide +kernel
theorem dX10_init_198 : decode cX10_init 198 = .ok (.iastore, 1) := by decide +kernel
theorem dX10_init_199 : decode cX10_init 199 = .ok (.dup, 1) := by decide +kernel
theorem dX10_init_200 : decode cX10_init 200 = .ok (.iconst 2, 1) := by decide +kernel
theorem dX10_init_201 : decode cX10_init 201 = .ok (.iconst 0, 1) := by decide +kernel
theorem dX10_init_202 : decode cX10_init 202 = .ok (.iastore, 1) := by decide +kernel
theorem dX10_init_203 : decode cX10_init 203 = .ok (.dup, 1) := by decide +kernel
theorem dX10_init_204 : decode cX10_init 204 = .ok (.iconst 3, 1) := by decide +kernel
theorem dX10_init_205 : decode cX10_init 205 = .ok (.bipush 100, 2) := by decide +kernel
theorem dX10_init_207 : decode cX10_init 207 = .ok (.iastore, 1) := by decide +kernel
theorem dX10_init_208 : decode cX10_init 208 = .ok (.dup, 1) := by decide +kernel
theorem dX10_init_209 : decode cX10_init 209 = .ok (.iconst 4, 1) := by decide +kernel
theorem dX10_init_210 : decode cX10_init 210 = .ok (.iconst 0, 1) := by decide +kernel
theorem dX10_init_211 : decode cX10_init 211 = .ok (.iastore, 1) := by decide +kernel
theorem dX10_init_212 : decode cX10_init 212 = .ok (.dup, 1) := by decide +kernel
theorem dX10_init_213 : decode cX10_init 213 = .ok (.iconst 5, 1) := by decide +kernel
theorem dX10_init_214 : decode cX10_init 214 = .ok (.bipush 100, 2) := by decide +kernel
theorem dX10_init_216 : decode cX10_init 216 = .ok (.iastore, 1) := by decide +kernel
theorem dX10_init_217 : decode cX10_init 217 = .ok (.putfield 66, 3) := by decide +kernel
theorem dX10_init_220 : decode cX10_init 220 = .ok (.aload_n 0, 1) := by decide +kernel
theorem dX10_init_221 : decode cX10_init 221 = .ok (.sipush 200, 3) := by decide +kernel
theorem dX10_init_224 : decode cX10_init 224 = .ok (.newarray .int, 2) := by decide +kernel
theorem dX10_init_226 : decode cX10_init 226 = .ok (.putfield 69, 3) := by decide +kernel
theorem dX10_init_229 : decode cX10_init 229 = .ok (.aload_n 0, 1) := by decide +kernel
theorem dX10_init_230 : decode cX10_init 230 = .ok (.sipush 200, 3) := by decide +kernel
theorem dX10_init_233 : decode cX10_init 233 = .ok (.newarray .int, 2) := by decide +kernel
theorem dX10_init_235 : decode cX10_init 235 = .ok (.putfield 72, 3) := by decide +kernel
theorem dX10_init_238 : decode cX10_init 238 = .ok (.aload_n 0, 1) := by decide +kernel
theorem dX10_init_239 : decode cX10_init 239 = .ok (.sipush 200, 3) := by decide +kernel
theorem dX10_init_242 : decode cX10_init 242 = .ok (.newarray .int, 2) := by decide +kernel
theorem dX10_init_244 : decode cX10_init 244 = .ok (.putfield 75, 3) := by decide +kernel
theorem dX10_init_247 : decode cX10_init 247 = .ok (.aload_n 0, 1) := by decide +kernel
theorem dX10_init_248 : decode cX10_init 248 = .ok (.sipush 200, 3) := by decide +kernel
theorem dX10_init_251 : decode cX10_init 251 = .ok (.newarray .int, 2) := by decide +kernel
theorem dX10_init_253 : decode cX10_init 253 = .ok (.putfield 78, 3) := by decide +kernel
theorem dX10_init_256 : decode cX10_init 256 = .ok (.aload_n 0, 1) := by decide +kernel
theorem dX10_init_257 : decode cX10_init 257 = .ok (.bipush 60, 2) := by decide +kernel
theorem dX10_init_259 : decode cX10_init 259 = .ok (.newarray .int, 2) := by decide +kernel
theorem dX10_init_261 : decode cX10_init 261 = .ok (.putfield 81, 3) := by decide +kernel
theorem dX10_init_264 : decode cX10_init 264 = .ok (.aload_n 0, 1) := by decide +kernel
theorem dX10_init_265 : decode cX10_init 265 = .ok (.bipush 60, 2) := by decide +kernel
theorem dX10_init_267 : decode cX10_init 267 = .ok (.newarray .int, 2) := by decide +kernel
theorem dX10_init_269 : decode cX10_init 269 = .ok (.putfield 84, 3) := by decide +kernel
theorem dX10_init_272 : decode cX10_init 272 = .ok (.aload_n 0, 1) := by decide +kernel
theorem dX10_init_273 : decode cX10_init 273 = .ok (.bipush 60, 2) := by decide +kernel
theorem dX10_init_275 : decode cX10_init 275 = .ok (.newarray .int, 2) := by decide +kernel
theorem dX10_init_277 : decode cX10_init 277 = .ok (.putfield 87, 3) := by decide +kernel
theorem dX10_init_280 : decode cX10_init 280 = .ok (.return_, 1) := by decide +kernel
def rmX10_init : Room := { frames := 1, cells := 25, slots := 3287, locals := 20 }
def fX10_init  (a0 : Nat) (h0 : PH) : Option (Unit × PH) :=
    nwB (.inl (0, 30, .inl (fun _ => 0))) h0 fun a1 h2 =>
    bn (wr 10 3 (.ref a1) a0 h2) fun h3 =>
    nwB (.inl (1, 120, .inl (fun _ => 0))) h3 fun a4 h5 =>
    bn (wr 10 5 (.ref a4) a0 h5) fun h6 =>
    nwB (.inl (0, 1200, .inl (fun _ => 0))) h6 fun a7 h8 =>
    bn (wr 10 6 (.ref a7) a0 h8) fun h9 =>
    nwB (.inl (0, 120, .inl (fun _ => 0))) h9 fun a10 h11 =>
    bn (wr 10 7 (.ref a10) a0 h11) fun h12 =>
    nwB (.inl (0, 120, .inl (fun _ => 0))) h12 fun a13 h14 =>
    bn (wr 10 8 (.ref a13) a0 h14) fun h15 =>
    nwB (.inl (0, 11, .inl (fun _ => 0))) h15 fun a16 h17 =>
    bn (wr 10 11 (.ref a16) a0 h17) fun h18 =>
    nwB (.inl (0, 90, .inl (fun _ => 0))) h18 fun a19 h20 =>
    bn (wr 10 12 (.ref a19) a0 h20) fun h21 =>
    nwB (.inl (0, 11, .inl (fun _ => 0))) h21 fun a22 h23 =>
    bn (wr 10 15 (.ref a22) a0 h23) fun h24 =>
    nwB (.inl (0, 90, .inl (fun _ => 0))) h24 fun a25 h26 =>
    bn (wr 10 16 (.ref a25) a0 h26) fun h27 =>
    nwB (.inl (0, 10, .inl (fun _ => 0))) h27 fun a28 h29 =>
    bn (wr 10 17 (.ref a28) a0 h29) fun h30 =>
    nwB (.inl (0, 10, .inl (fun _ => 0))) h30 fun a31 h32 =>
    bn (wr 10 18 (.ref a31) a0 h32) fun h33 =>
    nwB (.inl (0, 300, .inl (fun _ => 0))) h33 fun a34 h35 =>
    bn (wr 10 19 (.ref a34) a0 h35) fun h36 =>
    bn (wr 10 25 (.int (-1 : Int32)) a0 h36) fun h37 =>
    nwB (.inl (0, 60, .inl (fun _ => 0))) h37 fun a38 h39 =>
    bn (wr 10 28 (.ref a38) a0 h39) fun h40 =>
    nwB (.inl (0, 60, .inl (fun _ => 0))) h40 fun a41 h42 =>
    bn (wr 10 29 (.ref a41) a0 h42) fun h43 =>
    nwB (.inl (1, 60, .inl (fun _ => 0))) h43 fun a44 h45 =>
    bn (wr 10 30 (.ref a44) a0 h45) fun h46 =>
    nwB (.inl (0, 3, .inl (fun _ => 0))) h46 fun a47 h48 =>
    bn (astI a47 (0 : Int32) (1 : Int32) h48) fun h49 =>
    bn (astI a47 (1 : Int32) (1 : Int32) h49) fun h50 =>
    bn (astI a47 (2 : Int32) (1 : Int32) h50) fun h51 =>
    bn (wr 10 31 (.ref a47) a0 h51) fun h52 =>
    nwB (.inl (0, 6, .inl (fun _ => 0))) h52 fun a53 h54 =>
    bn (astI a53 (0 : Int32) (0 : Int32) h54) fun h55 =>
    bn (astI a53 (1 : Int32) (100 : Int32) h55) fun h56 =>
    bn (astI a53 (2 : Int32) (0 : Int32) h56) fun h57 =>
    bn (astI a53 (3 : Int32) (100 : Int32) h57) fun h58 =>
    bn (astI a53 (4 : Int32) (0 : Int32) h58) fun h59 =>
    bn (astI a53 (5 : Int32) (100 : Int32) h59) fun h60 =>
    bn (wr 10 32 (.ref a53) a0 h60) fun h61 =>
    nwB (.inl (0, 6, .inl (fun _ => 0))) h61 fun a62 h63 =>
    bn (astI a62 (0 : Int32) (0 : Int32) h63) fun h64 =>
    bn (astI a62 (1 : Int32) (100 : Int32) h64) fun h65 =>
    bn (astI a62 (2 : Int32) (0 : Int32) h65) fun h66 =>
    bn (astI a62 (3 : Int32) (100 : Int32) h66) fun h67 =>
    bn (astI a62 (4 : Int32) (0 : Int32) h67) fun h68 =>
    bn (astI a62 (5 : Int32) (100 : Int32) h68) fun h69 =>
    bn (wr 10 33 (.ref a62) a0 h69) fun h70 =>
    nwB (.inl (0, 200, .inl (fun _ => 0))) h70 fun a71 h72 =>
    bn (wr 10 36 (.ref a71) a0 h72) fun h73 =>
    nwB (.inl (0, 200, .inl (fun _ => 0))) h73 fun a74 h75 =>
    bn (wr 10 37 (.ref a74) a0 h75) fun h76 =>
    nwB (.inl (0, 200, .inl (fun _ => 0))) h76 fun a77 h78 =>
    bn (wr 10 38 (.ref a77) a0 h78) fun h79 =>
    nwB (.inl (0, 200, .inl (fun _ => 0))) h79 fun a80 h81 =>
    bn (wr 10 39 (.ref a80) a0 h81) fun h82 =>
    nwB (.inl (0, 60, .inl (fun _ => 0))) h82 fun a83 h84 =>
    bn (wr 10 41 (.ref a83) a0 h84) fun h85 =>
    nwB (.inl (0, 60, .inl (fun _ => 0))) h85 fun a86 h87 =>
    bn (wr 10 42 (.ref a86) a0 h87) fun h88 =>
    nwB (.inl (0, 60, .inl (fun _ => 0))) h88 fun a89 h90 =>
    bn (wr 10 43 (.ref a89) a0 h90) fun h91 =>
    some ((), h91)
set_option maxHeartbeats 4000000 in
set_option maxRecDepth 100000 in
theorem vfX10_init {p : Program} {l : Launch} {e : Env} {s : State} {m : MethodId} {args : Array Value} {below : List Frame} {meth : Method} {c : Code} {G : GX} (C : Cx p s m args meth c G cX10_init 1 RX10) (hr : meth.sig.returnType = none) (hin : meth.name = "<init>") (a0 : Nat) (h0 : PH) : J p l e rmX10_init s m args below meth c G 1 (qM below args s rvU G 25 3287) 0 0 h0 0 [(0, .ref a0)] [] (fX10_init  a0 h0) := by
  unfold fX10_init
  refine J_aload_n (pc := 0) C dX10_init_0 rfl 0 rfl ?_
  refine J_obj (pc := 1) C mlX10_1 wObjI wObjC dX10_init_1 (by decide) (Nat.le_of_ble_eq_true rfl) ?_
  refine J_aload_n (pc := 4) C dX10_init_4 rfl 0 rfl ?_
  refine J_bipush (pc := 5) (v := 30) C dX10_init_5 (by decide) ?_
  refine J_newI (pc := 7) (N := 30) C (by decide) (by decide) (by decide) (by decide) (by decide) dX10_init_7 (fun a1 h2 => ?_)
  refine J_putF (pc := 9) C flX10_7 cl10 ft10_3 rfl rfl hin cw10 dX10_init_9 (fun h3 => ?_)
  refine J_aload_n (pc := 12) C dX10_init_12 rfl 0 rfl ?_
  refine J_bipush (pc := 13) (v := 120) C dX10_init_13 (by decide) ?_
  refine J_newZ (pc := 15) (N := 120) C (by decide) (by decide) (by decide) (by decide) (by decide) dX10_init_15 (fun a4 h5 => ?_)
  refine J_putF (pc := 17) C flX10_13 cl10 ft10_5 rfl rfl hin cw10 dX10_init_17 (fun h6 => ?_)
  refine J_aload_n (pc := 20) C dX10_init_20 rfl 0 rfl ?_
  refine J_sipush (pc := 21) (v := 1200) C dX10_init_21 (by decide) ?_
  refine J_newI (pc := 24) (N := 1200) C (by decide) (by decide) (by decide) (by decide) (by decide) dX10_init_24 (fun a7 h8 => ?_)
  refine J_putF (pc := 26) C flX10_17 cl10 ft10_6 rfl rfl hin cw10 dX10_init_26 (fun h9 => ?_)
  refine J_aload_n (pc := 29) C dX10_init_29 rfl 0 rfl ?_
  refine J_bipush (pc := 30) (v := 120) C dX10_init_30 (by decide) ?_
  refine J_newI (pc := 32) (N := 120) C (by decide) (by decide) (by decide) (by decide) (by decide) dX10_init_32 (fun a10 h11 => ?_)
  refine J_putF (pc := 34) C flX10_20 cl10 ft10_7 rfl rfl hin cw10 dX10_init_34 (fun h12 => ?_)
  refine J_aload_n (pc := 37) C dX10_init_37 rfl 0 rfl ?_
  refine J_bipush (pc := 38) (v := 120) C dX10_init_38 (by decide) ?_
  refine J_newI (pc := 40) (N := 120) C (by decide) (by decide) (by decide) (by decide) (by decide) dX10_init_40 (fun a13 h14 => ?_)
  refine J_putF (pc := 42) C flX10_23 cl10 ft10_8 rfl rfl hin cw10 dX10_init_42 (fun h15 => ?_)
  refine J_aload_n (pc := 45) C dX10_init_45 rfl 0 rfl ?_
  refine J_bipush (pc := 46) (v := 11) C dX10_init_46 (by decide) ?_
  refine J_newI (pc := 48) (N := 11) C (by decide) (by decide) (by decide) (by decide) (by decide) dX10_init_48 (fun a16 h17 => ?_)
  refine J_putF (pc := 50) C flX10_26 cl10 ft10_11 rfl rfl hin cw10 dX10_init_50 (fun h18 => ?_)
  refine J_aload_n (pc := 53) C dX10_init_53 rfl 0 rfl ?_
  refine J_bipush (pc := 54) (v := 90) C dX10_init_54 (by decide) ?_
  refine J_newI (pc := 56) (N := 90) C (by decide) (by decide) (by decide) (by decide) (by decide) dX10_init_56 (fun a19 h20 => ?_)
  refine J_putF (pc := 58) C flX10_29 cl10 ft10_12 rfl rfl hin cw10 dX10_init_58 (fun h21 => ?_)
  refine J_aload_n (pc := 61) C dX10_init_61 rfl 0 rfl ?_
  refine J_bipush (pc := 62) (v := 11) C dX10_init_62 (by decide) ?_
  refine J_newI (pc := 64) (N := 11) C (by decide) (by decide) (by decide) (by decide) (by decide) dX10_init_64 (fun a22 h23 => ?_)
  refine J_putF (pc := 66) C flX10_32 cl10 ft10_15 rfl rfl hin cw10 dX10_init_66 (fun h24 => ?_)
  refine J_aload_n (pc := 69) C dX10_init_69 rfl 0 rfl ?_
  refine J_bipush (pc := 70) (v := 90) C dX10_init_70 (by decide) ?_
  refine J_newI (pc := 72) (N := 90) C (by decide) (by decide) (by decide) (by decide) (by decide) dX10_init_72 (fun a25 h26 => ?_)
  refine J_putF (pc := 74) C flX10_35 cl10 ft10_16 rfl rfl hin cw10 dX10_init_74 (fun h27 => ?_)
  refine J_aload_n (pc := 77) C dX10_init_77 rfl 0 rfl ?_
  refine J_bipush (pc := 78) (v := 10) C dX10_init_78 (by decide) ?_
  refine J_newI (pc := 80) (N := 10) C (by decide) (by decide) (by decide) (by decide) (by decide) dX10_init_80 (fun a28 h29 => ?_)
  refine J_putF (pc := 82) C flX10_38 cl10 ft10_17 rfl rfl hin cw10 dX10_init_82 (fun h30 => ?_)
  refine J_aload_n (pc := 85) C dX10_init_85 rfl 0 rfl ?_
  refine J_bipush (pc := 86) (v := 10) C dX10_init_86 (by decide) ?_
  refine J_newI (pc := 88) (N := 10) C (by decide) (by decide) (by decide) (by decide) (by decide) dX10_init_88 (fun a31 h32 => ?_)
  refine J_putF (pc := 90) C flX10_41 cl10 ft10_18 rfl rfl hin cw10 dX10_init_90 (fun h33 => ?_)
  refine J_aload_n (pc := 93) C dX10_init_93 rfl 0 rfl ?_
  refine J_sipush (pc := 94) (v := 300) C dX10_init_94 (by decide) ?_
  refine J_newI (pc := 97) (N := 300) C (by decide) (by decide) (by decide) (by decide) (by decide) dX10_init_97 (fun a34 h35 => ?_)
  refine J_putF (pc := 99) C flX10_44 cl10 ft10_19 rfl rfl hin cw10 dX10_init_99 (fun h36 => ?_)
  refine J_aload_n (pc := 102) C dX10_init_102 rfl 0 rfl ?_
  refine J_iconst (pc := 103) (v := -1) C dX10_init_103 (by decide) ?_
  refine J_put (pc := 104) C flX10_47 cl10 ft10_25 rfl rfl dX10_init_104 (fun h37 => ?_)
  refine J_aload_n (pc := 107) C dX10_init_107 rfl 0 rfl ?_
  refine J_bipush (pc := 108) (v := 60) C dX10_init_108 (by decide) ?_
  refine J_newI (pc := 110) (N := 60) C (by decide) (by decide) (by decide) (by decide) (by decide) dX10_init_110 (fun a38 h39 => ?_)
  refine J_putF (pc := 112) C flX10_51 cl10 ft10_28 rfl rfl hin cw10 dX10_init_112 (fun h40 => ?_)
  refine J_aload_n (pc := 115) C dX10_init_115 rfl 0 rfl ?_
  refine J_bipush (pc := 116) (v := 60) C dX10_init_116 (by decide) ?_
  refine J_newI (pc := 118) (N := 60) C (by decide) (by decide) (by decide) (by decide) (by decide) dX10_init_118 (fun a41 h42 => ?_)
  refine J_putF (pc := 120) C flX10_54 cl10 ft10_29 rfl rfl hin cw10 dX10_init_120 (fun h43 => ?_)
  refine J_aload_n (pc := 123) C dX10_init_123 rfl 0 rfl ?_
  refine J_bipush (pc := 124) (v := 60) C dX10_init_124 (by decide) ?_
  refine J_newZ (pc := 126) (N := 60) C (by decide) (by decide) (by decide) (by decide) (by decide) dX10_init_126 (fun a44 h45 => ?_)
  refine J_putF (pc := 128) C flX10_57 cl10 ft10_30 rfl rfl hin cw10 dX10_init_128 (fun h46 => ?_)
  refine J_aload_n (pc := 131) C dX10_init_131 rfl 0 rfl ?_
  refine J_iconst (pc := 132) (v := 3) C dX10_init_132 (by decide) ?_
  refine J_newI (pc := 133) (N := 3) C (by decide) (by decide) (by decide) (by decide) (by decide) dX10_init_133 (fun a47 h48 => ?_)
  refine J_dup (pc := 135) C dX10_init_135 rfl ?_
  refine J_iconst (pc := 136) (v := 0) C dX10_init_136 (by decide) ?_
  refine J_iconst (pc := 137) (v := 1) C dX10_init_137 (by decide) ?_
  refine J_iast (pc := 138) C dX10_init_138 (fun h49 => ?_)
  refine J_dup (pc := 139) C dX10_init_139 rfl ?_
  refine J_iconst (pc := 140) (v := 1) C dX10_init_140 (by decide) ?_
  refine J_iconst (pc := 141) (v := 1) C dX10_init_141 (by decide) ?_
  refine J_iast (pc := 142) C dX10_init_142 (fun h50 => ?_)
  refine J_dup (pc := 143) C dX10_init_143 rfl ?_
  refine J_iconst (pc := 144) (v := 2) C dX10_init_144 (by decide) ?_
  refine J_iconst (pc := 145) (v := 1) C dX10_init_145 (by decide) ?_
  refine J_iast (pc := 146) C dX10_init_146 (fun h51 => ?_)
  refine J_putF (pc := 147) C flX10_60 cl10 ft10_31 rfl rfl hin cw10 dX10_init_147 (fun h52 => ?_)
  refine J_aload_n (pc := 150) C dX10_init_150 rfl 0 rfl ?_
  refine J_bipush (pc := 151) (v := 6) C dX10_init_151 (by decide) ?_
  refine J_newI (pc := 153) (N := 6) C (by decide) (by decide) (by decide) (by decide) (by decide) dX10_init_153 (fun a53 h54 => ?_)
  refine J_dup (pc := 155) C dX10_init_155 rfl ?_
  refine J_iconst (pc := 156) (v := 0) C dX10_init_156 (by decide) ?_
  refine J_iconst (pc := 157) (v := 0) C dX10_init_157 (by decide) ?_
  refine J_iast (pc := 158) C dX10_init_158 (fun h55 => ?_)
  refine J_dup (pc := 159) C dX10_init_159 rfl ?_
  refine J_iconst (pc := 160) (v := 1) C dX10_init_160 (by decide) ?_
  refine J_bipush (pc := 161) (v := 100) C dX10_init_161 (by decide) ?_
  refine J_iast (pc := 163) C dX10_init_163 (fun h56 => ?_)
  refine J_dup (pc := 164) C dX10_init_164 rfl ?_
  refine J_iconst (pc := 165) (v := 2) C dX10_init_165 (by decide) ?_
  refine J_iconst (pc := 166) (v := 0) C dX10_init_166 (by decide) ?_
  refine J_iast (pc := 167) C dX10_init_167 (fun h57 => ?_)
  refine J_dup (pc := 168) C dX10_init_168 rfl ?_
  refine J_iconst (pc := 169) (v := 3) C dX10_init_169 (by decide) ?_
  refine J_bipush (pc := 170) (v := 100) C dX10_init_170 (by decide) ?_
  refine J_iast (pc := 172) C dX10_init_172 (fun h58 => ?_)
  refine J_dup (pc := 173) C dX10_init_173 rfl ?_
  refine J_iconst (pc := 174) (v := 4) C dX10_init_174 (by decide) ?_
  refine J_iconst (pc := 175) (v := 0) C dX10_init_175 (by decide) ?_
  refine J_iast (pc := 176) C dX10_init_176 (fun h59 => ?_)
  refine J_dup (pc := 177) C dX10_init_177 rfl ?_
  refine J_iconst (pc := 178) (v := 5) C dX10_init_178 (by decide) ?_
  refine J_bipush (pc := 179) (v := 100) C dX10_init_179 (by decide) ?_
  refine J_iast (pc := 181) C dX10_init_181 (fun h60 => ?_)
  refine J_putF (pc := 182) C flX10_63 cl10 ft10_32 rfl rfl hin cw10 dX10_init_182 (fun h61 => ?_)
  refine J_aload_n (pc := 185) C dX10_init_185 rfl 0 rfl ?_
  refine J_bipush (pc := 186) (v := 6) C dX10_init_186 (by decide) ?_
  refine J_newI (pc := 188) (N := 6) C (by decide) (by decide) (by decide) (by decide) (by decide) dX10_init_188 (fun a62 h63 => ?_)
  refine J_dup (pc := 190) C dX10_init_190 rfl ?_
  refine J_iconst (pc := 191) (v := 0) C dX10_init_191 (by decide) ?_
  refine J_iconst (pc := 192) (v := 0) C dX10_init_192 (by decide) ?_
  refine J_iast (pc := 193) C dX10_init_193 (fun h64 => ?_)
  refine J_dup (pc := 194) C dX10_init_194 rfl ?_
  refine J_iconst (pc := 195) (v := 1) C dX10_init_195 (by decide) ?_
  refine J_bipush (pc := 196) (v := 100) C dX10_init_196 (by decide) ?_
  refine J_iast (pc := 198) C dX10_init_198 (fun h65 => ?_)
  refine J_dup (pc := 199) C dX10_init_199 rfl ?_
  refine J_iconst (pc := 200) (v := 2) C dX10_init_200 (by decide) ?_
  refine J_iconst (pc := 201) (v := 0) C dX10_init_201 (by decide) ?_
  refine J_iast (pc := 202) C dX10_init_202 (fun h66 => ?_)
  refine J_dup (pc := 203) C dX10_init_203 rfl ?_
  refine J_iconst (pc := 204) (v := 3) C dX10_init_204 (by decide) ?_
  refine J_bipush (pc := 205) (v := 100) C dX10_init_205 (by decide) ?_
  refine J_iast (pc := 207) C dX10_init_207 (fun h67 => ?_)
  refine J_dup (pc := 208) C dX10_init_208 rfl ?_
  refine J_iconst (pc := 209) (v := 4) C dX10_init_209 (by decide) ?_
  refine J_iconst (pc := 210) (v := 0) C dX10_init_210 (by decide) ?_
  refine J_iast (pc := 211) C dX10_init_211 (fun h68 => ?_)
  refine J_dup (pc := 212) C dX10_init_212 rfl ?_
  refine J_iconst (pc := 213) (v := 5) C dX10_init_213 (by decide) ?_
  refine J_bipush (pc := 214) (v := 100) C dX10_init_214 (by decide) ?_
  refine J_iast (pc := 216) C dX10_init_216 (fun h69 => ?_)
  refine J_putF (pc := 217) C flX10_66 cl10 ft10_33 rfl rfl hin cw10 dX10_init_217 (fun h70 => ?_)
  refine J_aload_n (pc := 220) C dX10_init_220 rfl 0 rfl ?_
  refine J_sipush (pc := 221) (v := 200) C dX10_init_221 (by decide) ?_
  refine J_newI (pc := 224) (N := 200) C (by decide) (by decide) (by decide) (by decide) (by decide) dX10_init_224 (fun a71 h72 => ?_)
  refine J_putF (pc := 226) C flX10_69 cl10 ft10_36 rfl rfl hin cw10 dX10_init_226 (fun h73 => ?_)
  refine J_aload_n (pc := 229) C dX10_init_229 rfl 0 rfl ?_
  refine J_sipush (pc := 230) (v := 200) C dX10_init_230 (by decide) ?_
  refine J_newI (pc := 233) (N := 200) C (by decide) (by decide) (by decide) (by decide) (by decide) dX10_init_233 (fun a74 h75 => ?_)
  refine J_putF (pc := 235) C flX10_72 cl10 ft10_37 rfl rfl hin cw10 dX10_init_235 (fun h76 => ?_)
  refine J_aload_n (pc := 238) C dX10_init_238 rfl 0 rfl ?_
  refine J_sipush (pc := 239) (v := 200) C dX10_init_239 (by decide) ?_
  refine J_newI (pc := 242) (N := 200) C (by decide) (by decide) (by decide) (by decide) (by decide) dX10_init_242 (fun a77 h78 => ?_)
  refine J_putF (pc := 244) C flX10_75 cl10 ft10_38 rfl rfl hin cw10 dX10_init_244 (fun h79 => ?_)
  refine J_aload_n (pc := 247) C dX10_init_247 rfl 0 rfl ?_
  refine J_sipush (pc := 248) (v := 200) C dX10_init_248 (by decide) ?_
  refine J_newI (pc := 251) (N := 200) C (by decide) (by decide) (by decide) (by decide) (by decide) dX10_init_251 (fun a80 h81 => ?_)
  refine J_putF (pc := 253) C flX10_78 cl10 ft10_39 rfl rfl hin cw10 dX10_init_253 (fun h82 => ?_)
  refine J_aload_n (pc := 256) C dX10_init_256 rfl 0 rfl ?_
  refine J_bipush (pc := 257) (v := 60) C dX10_init_257 (by decide) ?_
  refine J_newI (pc := 259) (N := 60) C (by decide) (by decide) (by decide) (by decide) (by decide) dX10_init_259 (fun a83 h84 => ?_)
  refine J_putF (pc := 261) C flX10_81 cl10 ft10_41 rfl rfl hin cw10 dX10_init_261 (fun h85 => ?_)
  refine J_aload_n (pc := 264) C dX10_init_264 rfl 0 rfl ?_
  refine J_bipush (pc := 265) (v := 60) C dX10_init_265 (by decide) ?_
  refine J_newI (pc := 267) (N := 60) C (by decide) (by decide) (by decide) (by decide) (by decide) dX10_init_267 (fun a86 h87 => ?_)
  refine J_putF (pc := 269) C flX10_84 cl10 ft10_42 rfl rfl hin cw10 dX10_init_269 (fun h88 => ?_)
  refine J_aload_n (pc := 272) C dX10_init_272 rfl 0 rfl ?_
  refine J_bipush (pc := 273) (v := 60) C dX10_init_273 (by decide) ?_
  refine J_newI (pc := 275) (N := 60) C (by decide) (by decide) (by decide) (by decide) (by decide) dX10_init_275 (fun a89 h90 => ?_)
  refine J_putF (pc := 277) C flX10_87 cl10 ft10_43 rfl rfl hin cw10 dX10_init_277 (fun h91 => ?_)
  exact J_vret (pc := 280) C hr dX10_init_280
theorem mX10_init {l : Launch} {G : GX} (a0 : Nat) (h0 : PH) : ∀ z, fX10_init a0 h0 = some z → MC l G yX10_init cX10_init 1 none rmX10_init [.ref a0] h0 (rvU z.1) z.2 :=
  Met_J (own := RX10) (by decide) rfl (Nat.le_of_ble_eq_true rfl) (fun p e s m args below meth c C hr hn => vfX10_init C hr hn a0 h0)

theorem dX9_within_0 : decode cX9_within 0 = .ok (.iload_n 0, 1) := by decide +kernel
theorem dX9_within_1 : decode cX9_within 1 = .ok (.iload_n 1, 1) := by decide +kernel
theorem dX9_within_2 : decode cX9_within 2 = .ok (.if_icmp .lt 12, 3) := by decide +kernel
theorem dX9_within_5 : decode cX9_within 5 = .ok (.iload_n 0, 1) := by decide +kernel
theorem dX9_within_6 : decode cX9_within 6 = .ok (.iload_n 2, 1) := by decide +kernel
theorem dX9_within_7 : decode cX9_within 7 = .ok (.if_icmp .gt 7, 3) := by decide +kernel
theorem dX9_within_10 : decode cX9_within 10 = .ok (.iconst 1, 1) := by decide +kernel
theorem dX9_within_11 : decode cX9_within 11 = .ok (.goto 4, 3) := by decide +kernel
theorem dX9_within_14 : decode cX9_within 14 = .ok (.iconst 0, 1) := by decide +kernel
theorem dX9_within_15 : decode cX9_within 15 = .ok (.ireturn, 1) := by decide +kernel
def rmX9_within : Room := { frames := 0, cells := 0, slots := 0, locals := 0 }
def fX9_within  (xp0 : Int32) (xp1 : Int32) (xp2 : Int32) (h0 : PH) : Option (Int32 × PH) :=
    if xp0 < xp1 then (some ((0 : Int32), h0)) else
    if xp2 < xp0 then (some ((0 : Int32), h0)) else
    some ((1 : Int32), h0)
set_option maxHeartbeats 4000000 in
set_option maxRecDepth 100000 in
theorem vfX9_within {p : Program} {l : Launch} {e : Env} {s : State} {m : MethodId} {args : Array Value} {below : List Frame} {meth : Method} {c : Code} {G : GX} (C : Cx p s m args meth c G cX9_within 3 RX9) (hr : meth.sig.returnType = (some .boolean)) (xp0 : Int32) (xp1 : Int32) (xp2 : Int32) (h0 : PH) : J p l e rmX9_within s m args below meth c G 3 (qM below args s rvI G 0 0) 0 0 h0 0 [(0, .int xp0), (1, .int xp1), (2, .int xp2)] [] (fX9_within  xp0 xp1 xp2 h0) := by
  unfold fX9_within
  refine J_iload_n (pc := 0) C dX9_within_0 rfl 0 rfl ?_
  refine J_iload_n (pc := 1) C dX9_within_1 rfl 1 rfl ?_
  refine J_icmp_lt (pc := 2) (tgt := 14) C dX9_within_2 (by decide) ?_ ?_
  · refine J_iconst (pc := 14) (v := 0) C dX9_within_14 (by decide) ?_
    exact J_zret (pc := 15) C hr rfl dX9_within_15
  · refine J_iload_n (pc := 5) C dX9_within_5 rfl 0 rfl ?_
    refine J_iload_n (pc := 6) C dX9_within_6 rfl 2 rfl ?_
    refine J_icmp_gt (pc := 7) (tgt := 14) C dX9_within_7 (by decide) ?_ ?_
    · refine J_iconst (pc := 14) (v := 0) C dX9_within_14 (by decide) ?_
      exact J_zret (pc := 15) C hr rfl dX9_within_15
    · refine J_iconst (pc := 10) (v := 1) C dX9_within_10 (by decide) ?_
      refine J_goto (pc := 11) (tgt := 15) C dX9_within_11 (by decide) ?_
      exact J_zret (pc := 15) C hr rfl dX9_within_15
theorem mX9_within {l : Launch} {G : GX} (xp0 : Int32) (xp1 : Int32) (xp2 : Int32) (h0 : PH) : ∀ z, fX9_within xp0 xp1 xp2 h0 = some z → MC l G yX9_within cX9_within 3 (some .boolean) rmX9_within [.int xp0, .int xp1, .int xp2] h0 (rvI z.1) z.2 :=
  Met_J (own := RX9) (by decide) rfl (Nat.le_of_ble_eq_true rfl) (fun p e s m args below meth c C hr hn => vfX9_within C hr xp0 xp1 xp2 h0)

theorem dX5_init_0 : decode cX5_init 0 = .ok (.aload_n 0, 1) := by decide +kernel
theorem dX5_init_1 : decode cX5_init 1 = .ok (.invokespecial 3, 3) := by decide +kernel
theorem dX5_init_4 : decode cX5_init 4 = .ok (.aload_n 0, 1) := by decide +kernel
theorem dX5_init_5 : decode cX5_init 5 = .ok (.bipush 10, 2) := by decide +kernel
theorem dX5_init_7 : decode cX5_init 7 = .ok (.newarray .int, 2) := by decide +kernel
theorem dX5_init_9 : decode cX5_init 9 = .ok (.putfield 9, 3) := by decide +kernel
theorem dX5_init_12 : decode cX5_init 12 = .ok (.aload_n 0, 1) := by decide +kernel
theorem dX5_init_13 : decode cX5_init 13 = .ok (.iconst 0, 1) := by decide +kernel
theorem dX5_init_14 : decode cX5_init 14 = .ok (.putfield 15, 3) := by decide +kernel
theorem dX5_init_17 : decode cX5_init 17 = .ok (.aload_n 0, 1) := by decide +kernel
theorem dX5_init_18 : decode cX5_init 18 = .ok (.iconst 0, 1) := by decide +kernel
theorem dX5_init_19 : decode cX5_init 19 = .ok (.putfield 19, 3) := by decide +kernel
theorem dX5_init_22 : decode cX5_init 22 = .ok (.aload_n 0, 1) := by decide +kernel
theorem dX5_init_23 : decode cX5_init 23 = .ok (.iconst (-1), 1) := by decide +kernel
theorem dX5_init_24 : decode cX5_init 24 = .ok (.putfield 22, 3) := by decide +kernel
theorem dX5_init_27 : decode cX5_init 27 = .ok (.aload_n 0, 1) := by decide +kernel
theorem dX5_init_28 : decode cX5_init 28 = .ok (.iconst 0, 1) := by decide +kernel
theorem dX5_init_29 : decode cX5_init 29 = .ok (.putfield 25, 3) := by decide +kernel
theorem dX5_init_32 : decode cX5_init 32 = .ok (.return_, 1) := by decide +kernel
def rmX5_init : Room := { frames := 1, cells := 1, slots := 10, locals := 20 }
def fX5_init  (a0 : Nat) (h0 : PH) : Option (Unit × PH) :=
    nwB (.inl (0, 10, .inl (fun _ => 0))) h0 fun a1 h2 =>
    bn (wr 5 0 (.ref a1) a0 h2) fun h3 =>
    bn (wr 5 1 (.int (0 : Int32)) a0 h3) fun h4 =>
    bn (wr 5 2 (.int (0 : Int32)) a0 h4) fun h5 =>
    bn (wr 5 3 (.int (-1 : Int32)) a0 h5) fun h6 =>
    bn (wr 5 4 (.int (0 : Int32)) a0 h6) fun h7 =>
    some ((), h7)
set_option maxHeartbeats 4000000 in
set_option maxRecDepth 100000 in
theorem vfX5_init {p : Program} {l : Launch} {e : Env} {s : State} {m : MethodId} {args : Array Value} {below : List Frame} {meth : Method} {c : Code} {G : GX} (C : Cx p s m args meth c G cX5_init 1 RX5) (hr : meth.sig.returnType = none) (hin : meth.name = "<init>") (a0 : Nat) (h0 : PH) : J p l e rmX5_init s m args below meth c G 1 (qM below args s rvU G 1 10) 0 0 h0 0 [(0, .ref a0)] [] (fX5_init  a0 h0) := by
  unfold fX5_init
  refine J_aload_n (pc := 0) C dX5_init_0 rfl 0 rfl ?_
  refine J_obj (pc := 1) C mlX5_3 wObjI wObjC dX5_init_1 (by decide) (Nat.le_of_ble_eq_true rfl) ?_
  refine J_aload_n (pc := 4) C dX5_init_4 rfl 0 rfl ?_
  refine J_bipush (pc := 5) (v := 10) C dX5_init_5 (by decide) ?_
  refine J_newI (pc := 7) (N := 10) C (by decide) (by decide) (by decide) (by decide) (by decide) dX5_init_7 (fun a1 h2 => ?_)
  refine J_putF (pc := 9) C flX5_9 cl5 ft5_0 rfl rfl hin cw5 dX5_init_9 (fun h3 => ?_)
  refine J_aload_n (pc := 12) C dX5_init_12 rfl 0 rfl ?_
  refine J_iconst (pc := 13) (v := 0) C dX5_init_13 (by decide) ?_
  refine J_put (pc := 14) C flX5_15 cl5 ft5_1 rfl rfl dX5_init_14 (fun h4 => ?_)
  refine J_aload_n (pc := 17) C dX5_init_17 rfl 0 rfl ?_
  refine J_iconst (pc := 18) (v := 0) C dX5_init_18 (by decide) ?_
  refine J_put (pc := 19) C flX5_19 cl5 ft5_2 rfl rfl dX5_init_19 (fun h5 => ?_)
  refine J_aload_n (pc := 22) C dX5_init_22 rfl 0 rfl ?_
  refine J_iconst (pc := 23) (v := -1) C dX5_init_23 (by decide) ?_
  refine J_put (pc := 24) C flX5_22 cl5 ft5_3 rfl rfl dX5_init_24 (fun h6 => ?_)
  refine J_aload_n (pc := 27) C dX5_init_27 rfl 0 rfl ?_
  refine J_iconst (pc := 28) (v := 0) C dX5_init_28 (by decide) ?_
  refine J_put (pc := 29) C flX5_25 cl5 ft5_4 rfl rfl dX5_init_29 (fun h7 => ?_)
  exact J_vret (pc := 32) C hr dX5_init_32
theorem mX5_init {l : Launch} {G : GX} (a0 : Nat) (h0 : PH) : ∀ z, fX5_init a0 h0 = some z → MC l G yX5_init cX5_init 1 none rmX5_init [.ref a0] h0 (rvU z.1) z.2 :=
  Met_J (own := RX5) (by decide) rfl (Nat.le_of_ble_eq_true rfl) (fun p e s m args below meth c C hr hn => vfX5_init C hr hn a0 h0)

theorem dX7_addPiece_0 : decode cX7_addPiece 0 = .ok (.aload_n 0, 1) := by decide +kernel
theorem dX7_addPiece_1 : decode cX7_addPiece 1 = .ok (.getfield 30, 3) := by decide +kernel
theorem dX7_addPiece_4 : decode cX7_addPiece 4 = .ok (.bipush 120, 2) := by decide +kernel
theorem dX7_addPiece_6 : decode cX7_addPiece 6 = .ok (.if_icmp .lt 6, 3) := by decide +kernel
theorem dX7_addPiece_9 : decode cX7_addPiece 9 = .ok (.bipush (-5), 2) := by decide +kernel
theorem dX7_addPiece_11 : decode cX7_addPiece 11 = .ok (.ireturn, 1) := by decide +kernel
theorem dX7_addPiece_12 : decode cX7_addPiece 12 = .ok (.aload_n 0, 1) := by decide +kernel
theorem dX7_addPiece_13 : decode cX7_addPiece 13 = .ok (.getfield 11, 3) := by decide +kernel
theorem dX7_addPiece_16 : decode cX7_addPiece 16 = .ok (.aload_n 0, 1) := by decide +kernel
theorem dX7_addPiece_17 : decode cX7_addPiece 17 = .ok (.getfield 30, 3) := by decide +kernel
theorem dX7_addPiece_20 : decode cX7_addPiece 20 = .ok (.aload_n 1, 1) := by decide +kernel
theorem dX7_addPiece_21 : decode cX7_addPiece 21 = .ok (.aastore, 1) := by decide +kernel
theorem dX7_addPiece_22 : decode cX7_addPiece 22 = .ok (.aload_n 0, 1) := by decide +kernel
theorem dX7_addPiece_23 : decode cX7_addPiece 23 = .ok (.dup, 1) := by decide +kernel
theorem dX7_addPiece_24 : decode cX7_addPiece 24 = .ok (.getfield 30, 3) := by decide +kernel
theorem dX7_addPiece_27 : decode cX7_addPiece 27 = .ok (.iconst 1, 1) := by decide +kernel
theorem dX7_addPiece_28 : decode cX7_addPiece 28 = .ok (.iadd, 1) := by decide +kernel
theorem dX7_addPiece_29 : decode cX7_addPiece 29 = .ok (.putfield 30, 3) := by decide +kernel
theorem dX7_addPiece_32 : decode cX7_addPiece 32 = .ok (.aload_n 0, 1) := by decide +kernel
theorem dX7_addPiece_33 : decode cX7_addPiece 33 = .ok (.getfield 30, 3) := by decide +kernel
theorem dX7_addPiece_36 : decode cX7_addPiece 36 = .ok (.iconst 1, 1) := by decide +kernel
theorem dX7_addPiece_37 : decode cX7_addPiece 37 = .ok (.isub, 1) := by decide +kernel
theorem dX7_addPiece_38 : decode cX7_addPiece 38 = .ok (.ireturn, 1) := by decide +kernel
def rmX7_addPiece : Room := { frames := 0, cells := 0, slots := 0, locals := 0 }
def fX7_addPiece  (a0 : Nat) (ap0 : Nat) (h0 : PH) : Option (Int32 × PH) :=
    bn (rdI 7 4 a0 h0) fun x1 =>
    if x1 < (120 : Int32) then (bn (rdR 7 0 a0 h0) fun a2 =>
    bn (rdI 7 4 a0 h0) fun x3 =>
    bn (astR 3 5 a2 x3 ap0 h0) fun h4 =>
    bn (rdI 7 4 a0 h4) fun x5 =>
    bn (wr 7 4 (.int (x5 + (1 : Int32))) a0 h4) fun h6 =>
    bn (rdI 7 4 a0 h6) fun x7 =>
    some ((x7 - (1 : Int32)), h6)) else
    some ((-5 : Int32), h0)
set_option maxHeartbeats 4000000 in
set_option maxRecDepth 100000 in
theorem vfX7_addPiece {p : Program} {l : Launch} {e : Env} {s : State} {m : MethodId} {args : Array Value} {below : List Frame} {meth : Method} {c : Code} {G : GX} (C : Cx p s m args meth c G cX7_addPiece 2 RX7) (hr : meth.sig.returnType = (some .int)) (a0 : Nat) (ap0 : Nat) (h0 : PH) : J p l e rmX7_addPiece s m args below meth c G 2 (qM below args s rvI G 0 0) 0 0 h0 0 [(0, .ref a0), (1, .ref ap0)] [] (fX7_addPiece  a0 ap0 h0) := by
  unfold fX7_addPiece
  refine J_aload_n (pc := 0) C dX7_addPiece_0 rfl 0 rfl ?_
  refine J_getI (pc := 1) C flX7_30 dX7_addPiece_1 (fun x1 => ?_)
  refine J_bipush (pc := 4) (v := 120) C dX7_addPiece_4 (by decide) ?_
  refine J_icmp_lt (pc := 6) (tgt := 12) C dX7_addPiece_6 (by decide) ?_ ?_
  · refine J_aload_n (pc := 12) C dX7_addPiece_12 rfl 0 rfl ?_
    refine J_getR (pc := 13) C flX7_11 dX7_addPiece_13 (fun a2 => ?_)
    refine J_aload_n (pc := 16) C dX7_addPiece_16 rfl 0 rfl ?_
    refine J_getI (pc := 17) C flX7_30 dX7_addPiece_17 (fun x3 => ?_)
    refine J_aload_n (pc := 20) C dX7_addPiece_20 rfl 1 rfl ?_
    refine J_aast (pc := 21) C 3 5 "GoldLeaves$Piece" (fun _ => rfl) ⟨_, _, rfl⟩ dX7_addPiece_21 (fun h4 => ?_)
    refine J_aload_n (pc := 22) C dX7_addPiece_22 rfl 0 rfl ?_
    refine J_dup (pc := 23) C dX7_addPiece_23 rfl ?_
    refine J_getI (pc := 24) C flX7_30 dX7_addPiece_24 (fun x5 => ?_)
    refine J_iconst (pc := 27) (v := 1) C dX7_addPiece_27 (by decide) ?_
    refine J_iadd (pc := 28) C dX7_addPiece_28 ?_
    refine J_put (pc := 29) C flX7_30 cl7 ft7_4 rfl rfl dX7_addPiece_29 (fun h6 => ?_)
    refine J_aload_n (pc := 32) C dX7_addPiece_32 rfl 0 rfl ?_
    refine J_getI (pc := 33) C flX7_30 dX7_addPiece_33 (fun x7 => ?_)
    refine J_iconst (pc := 36) (v := 1) C dX7_addPiece_36 (by decide) ?_
    refine J_isub (pc := 37) C dX7_addPiece_37 ?_
    exact J_iret (pc := 38) C hr dX7_addPiece_38
  · refine J_bipush (pc := 9) (v := -5) C dX7_addPiece_9 (by decide) ?_
    exact J_iret (pc := 11) C hr dX7_addPiece_11
theorem mX7_addPiece {l : Launch} {G : GX} (a0 : Nat) (ap0 : Nat) (h0 : PH) : ∀ z, fX7_addPiece a0 ap0 h0 = some z → MC l G yX7_addPiece cX7_addPiece 2 (some .int) rmX7_addPiece [.ref a0, .ref ap0] h0 (rvI z.1) z.2 :=
  Met_J (own := RX7) (by decide) rfl (Nat.le_of_ble_eq_true rfl) (fun p e s m args below meth c C hr hn => vfX7_addPiece C hr a0 ap0 h0)


/-! what the fresh heap holds -/
theorem i_100_0 : eI e2 100 0 = 0 := by decide +kernel
theorem i_100_1 : eI e2 100 1 = 0 := by decide +kernel
theorem i_100_2 : eI e2 100 2 = 17 := by decide +kernel
theorem i_100_3 : eI e2 100 3 = 0 := by decide +kernel
theorem i_104_0 : eI e2 104 0 = 0 := by decide +kernel
theorem i_104_1 : eI e2 104 1 = 0 := by decide +kernel
theorem i_104_2 : eI e2 104 2 = 17 := by decide +kernel
theorem i_104_3 : eI e2 104 3 = 0 := by decide +kernel
theorem i_108_0 : eI e2 108 0 = 0 := by decide +kernel
theorem i_108_1 : eI e2 108 1 = 0 := by decide +kernel
theorem i_108_2 : eI e2 108 2 = 17 := by decide +kernel
theorem i_108_3 : eI e2 108 3 = 0 := by decide +kernel
theorem i_10_0 : eI e2 10 0 = 0 := by decide +kernel
theorem i_10_1 : eI e2 10 1 = 0 := by decide +kernel
theorem i_10_2 : eI e2 10 2 = 17 := by decide +kernel
theorem i_10_3 : eI e2 10 3 = 0 := by decide +kernel
theorem i_112_0 : eI e2 112 0 = 0 := by decide +kernel
theorem i_112_1 : eI e2 112 1 = 0 := by decide +kernel
theorem i_112_2 : eI e2 112 2 = 17 := by decide +kernel
theorem i_112_3 : eI e2 112 3 = 0 := by decide +kernel
theorem i_116_0 : eI e2 116 0 = 0 := by decide +kernel
theorem i_116_1 : eI e2 116 1 = 0 := by decide +kernel
theorem i_116_2 : eI e2 116 2 = 17 := by decide +kernel
theorem i_116_3 : eI e2 116 3 = 0 := by decide +kernel
theorem i_120_0 : eI e2 120 0 = 0 := by decide +kernel
theorem i_120_1 : eI e2 120 1 = 0 := by decide +kernel
theorem i_120_2 : eI e2 120 2 = 17 := by decide +kernel
theorem i_120_3 : eI e2 120 3 = 0 := by decide +kernel
theorem i_124_0 : eI e2 124 0 = 0 := by decide +kernel
theorem i_124_1 : eI e2 124 1 = 0 := by decide +kernel
theorem i_124_2 : eI e2 124 2 = 17 := by decide +kernel
theorem i_124_3 : eI e2 124 3 = 0 := by decide +kernel
theorem i_128_0 : eI e2 128 0 = 0 := by decide +kernel
theorem i_128_1 : eI e2 128 1 = 0 := by decide +kernel
theorem i_128_2 : eI e2 128 2 = 17 := by decide +kernel
theorem i_128_3 : eI e2 128 3 = 0 := by decide +kernel
theorem i_132_0 : eI e2 132 0 = 0 := by decide +kernel
theorem i_132_1 : eI e2 132 1 = 0 := by decide +kernel
theorem i_132_2 : eI e2 132 2 = 17 := by decide +kernel
theorem i_132_3 : eI e2 132 3 = 0 := by decide +kernel
theorem i_13_0 : eI e2 13 0 = -1 := by decide +kernel
theorem i_13_1 : eI e2 13 1 = -1 := by decide +kernel
theorem i_13_10 : eI e2 13 10 = -1 := by decide +kernel
theorem i_13_11 : eI e2 13 11 = -1 := by decide +kernel
theorem i_13_12 : eI e2 13 12 = -1 := by decide +kernel
theorem i_13_13 : eI e2 13 13 = -1 := by decide +kernel
theorem i_13_14 : eI e2 13 14 = -1 := by decide +kernel
theorem i_13_15 : eI e2 13 15 = -1 := by decide +kernel
theorem i_13_16 : eI e2 13 16 = -1 := by decide +kernel
theorem i_13_17 : eI e2 13 17 = -1 := by decide +kernel
theorem i_13_18 : eI e2 13 18 = -1 := by decide +kernel
theorem i_13_19 : eI e2 13 19 = -1 := by decide +kernel
theorem i_13_2 : eI e2 13 2 = -1 := by decide +kernel
theorem i_13_20 : eI e2 13 20 = -1 := by decide +kernel
theorem i_13_21 : eI e2 13 21 = -1 := by decide +kernel
theorem i_13_22 : eI e2 13 22 = -1 := by decide +kernel
theorem i_13_23 : eI e2 13 23 = -1 := by decide +kernel
theorem i_13_24 : eI e2 13 24 = -1 := by decide +kernel
theorem i_13_25 : eI e2 13 25 = -1 := by decide +kernel
theorem i_13_3 : eI e2 13 3 = -1 := by decide +kernel
theorem i_13_4 : eI e2 13 4 = -1 := by decide +kernel
theorem i_13_5 : eI e2 13 5 = -1 := by decide +kernel
theorem i_13_6 : eI e2 13 6 = -1 := by decide +kernel
theorem i_13_7 : eI e2 13 7 = -1 := by decide +kernel
theorem i_13_8 : eI e2 13 8 = -1 := by decide +kernel
theorem i_13_9 : eI e2 13 9 = -1 := by decide +kernel
theorem i_146_5 : eI e2 146 5 = 0 := by decide +kernel
theorem i_146_6 : eI e2 146 6 = -1 := by decide +kernel
theorem i_146_7 : eI e2 146 7 = 0 := by decide +kernel
theorem i_146_9 : eI e2 146 9 = 0 := by decide +kernel
theorem i_147_0 : eI e2 147 0 = 0 := by decide +kernel
theorem i_147_1 : eI e2 147 1 = 0 := by decide +kernel
theorem i_14_0 : eI e2 14 0 = 0 := by decide +kernel
theorem i_14_1 : eI e2 14 1 = 0 := by decide +kernel
theorem i_155_0 : eI e2 155 0 = 0 := by decide +kernel
theorem i_155_1 : eI e2 155 1 = 0 := by decide +kernel
theorem i_155_2 : eI e2 155 2 = 17 := by decide +kernel
theorem i_155_3 : eI e2 155 3 = 0 := by decide +kernel
theorem i_159_0 : eI e2 159 0 = 0 := by decide +kernel
theorem i_159_1 : eI e2 159 1 = 0 := by decide +kernel
theorem i_161_0 : eI e2 161 0 = 0 := by decide +kernel
theorem i_161_1 : eI e2 161 1 = 0 := by decide +kernel
theorem i_161_2 : eI e2 161 2 = 17 := by decide +kernel
theorem i_161_3 : eI e2 161 3 = 0 := by decide +kernel
theorem i_165_0 : eI e2 165 0 = 0 := by decide +kernel
theorem i_165_1 : eI e2 165 1 = 0 := by decide +kernel
theorem i_165_2 : eI e2 165 2 = 17 := by decide +kernel
theorem i_165_3 : eI e2 165 3 = 0 := by decide +kernel
theorem i_169_0 : eI e2 169 0 = 0 := by decide +kernel
theorem i_169_1 : eI e2 169 1 = 0 := by decide +kernel
theorem i_169_2 : eI e2 169 2 = 17 := by decide +kernel
theorem i_169_3 : eI e2 169 3 = 0 := by decide +kernel
theorem i_16_0 : eI e2 16 0 = 0 := by decide +kernel
theorem i_16_1 : eI e2 16 1 = 0 := by decide +kernel
theorem i_16_2 : eI e2 16 2 = 17 := by decide +kernel
theorem i_16_3 : eI e2 16 3 = 0 := by decide +kernel
theorem i_173_0 : eI e2 173 0 = 0 := by decide +kernel
theorem i_173_1 : eI e2 173 1 = 0 := by decide +kernel
theorem i_173_2 : eI e2 173 2 = 17 := by decide +kernel
theorem i_173_3 : eI e2 173 3 = 0 := by decide +kernel
theorem i_177_0 : eI e2 177 0 = 0 := by decide +kernel
theorem i_177_1 : eI e2 177 1 = 0 := by decide +kernel
theorem i_177_2 : eI e2 177 2 = 17 := by decide +kernel
theorem i_177_3 : eI e2 177 3 = 0 := by decide +kernel
theorem i_181_0 : eI e2 181 0 = 0 := by decide +kernel
theorem i_181_1 : eI e2 181 1 = 0 := by decide +kernel
theorem i_181_2 : eI e2 181 2 = 17 := by decide +kernel
theorem i_181_3 : eI e2 181 3 = 0 := by decide +kernel
theorem i_185_0 : eI e2 185 0 = 0 := by decide +kernel
theorem i_185_1 : eI e2 185 1 = 0 := by decide +kernel
theorem i_185_2 : eI e2 185 2 = 17 := by decide +kernel
theorem i_185_3 : eI e2 185 3 = 0 := by decide +kernel
theorem i_189_0 : eI e2 189 0 = 0 := by decide +kernel
theorem i_189_1 : eI e2 189 1 = 0 := by decide +kernel
theorem i_189_2 : eI e2 189 2 = 17 := by decide +kernel
theorem i_189_3 : eI e2 189 3 = 0 := by decide +kernel
theorem i_193_0 : eI e2 193 0 = 0 := by decide +kernel
theorem i_193_1 : eI e2 193 1 = 0 := by decide +kernel
theorem i_193_2 : eI e2 193 2 = 17 := by decide +kernel
theorem i_193_3 : eI e2 193 3 = 0 := by decide +kernel
theorem i_197_0 : eI e2 197 0 = 0 := by decide +kernel
theorem i_197_1 : eI e2 197 1 = 0 := by decide +kernel
theorem i_197_2 : eI e2 197 2 = 17 := by decide +kernel
theorem i_197_3 : eI e2 197 3 = 0 := by decide +kernel
theorem i_1_5 : eI e2 1 5 = 0 := by decide +kernel
theorem i_1_6 : eI e2 1 6 = -1 := by decide +kernel
theorem i_1_7 : eI e2 1 7 = 0 := by decide +kernel
theorem i_1_9 : eI e2 1 9 = 0 := by decide +kernel
theorem i_201_0 : eI e2 201 0 = 0 := by decide +kernel
theorem i_201_1 : eI e2 201 1 = 0 := by decide +kernel
theorem i_201_2 : eI e2 201 2 = 17 := by decide +kernel
theorem i_201_3 : eI e2 201 3 = 0 := by decide +kernel
theorem i_205_0 : eI e2 205 0 = 0 := by decide +kernel
theorem i_205_1 : eI e2 205 1 = 0 := by decide +kernel
theorem i_205_2 : eI e2 205 2 = 17 := by decide +kernel
theorem i_205_3 : eI e2 205 3 = 0 := by decide +kernel
theorem i_209_0 : eI e2 209 0 = 0 := by decide +kernel
theorem i_209_1 : eI e2 209 1 = 0 := by decide +kernel
theorem i_209_2 : eI e2 209 2 = 17 := by decide +kernel
theorem i_209_3 : eI e2 209 3 = 0 := by decide +kernel
theorem i_20_0 : eI e2 20 0 = 0 := by decide +kernel
theorem i_20_1 : eI e2 20 1 = 0 := by decide +kernel
theorem i_20_2 : eI e2 20 2 = 17 := by decide +kernel
theorem i_20_3 : eI e2 20 3 = 0 := by decide +kernel
theorem i_213_0 : eI e2 213 0 = 0 := by decide +kernel
theorem i_213_1 : eI e2 213 1 = 0 := by decide +kernel
theorem i_213_2 : eI e2 213 2 = 17 := by decide +kernel
theorem i_213_3 : eI e2 213 3 = 0 := by decide +kernel
theorem i_217_0 : eI e2 217 0 = 0 := by decide +kernel
theorem i_217_1 : eI e2 217 1 = 0 := by decide +kernel
theorem i_217_2 : eI e2 217 2 = 17 := by decide +kernel
theorem i_217_3 : eI e2 217 3 = 0 := by decide +kernel
theorem i_221_0 : eI e2 221 0 = 0 := by decide +kernel
theorem i_221_1 : eI e2 221 1 = 0 := by decide +kernel
theorem i_221_2 : eI e2 221 2 = 17 := by decide +kernel
theorem i_221_3 : eI e2 221 3 = 0 := by decide +kernel
theorem i_225_0 : eI e2 225 0 = 0 := by decide +kernel
theorem i_225_1 : eI e2 225 1 = 0 := by decide +kernel
theorem i_225_2 : eI e2 225 2 = 17 := by decide +kernel
theorem i_225_3 : eI e2 225 3 = 0 := by decide +kernel
theorem i_229_0 : eI e2 229 0 = 0 := by decide +kernel
theorem i_229_1 : eI e2 229 1 = 0 := by decide +kernel
theorem i_229_2 : eI e2 229 2 = 17 := by decide +kernel
theorem i_229_3 : eI e2 229 3 = 0 := by decide +kernel
theorem i_233_0 : eI e2 233 0 = 0 := by decide +kernel
theorem i_233_1 : eI e2 233 1 = 0 := by decide +kernel
theorem i_233_2 : eI e2 233 2 = 17 := by decide +kernel
theorem i_233_3 : eI e2 233 3 = 0 := by decide +kernel
theorem i_237_0 : eI e2 237 0 = 0 := by decide +kernel
theorem i_237_1 : eI e2 237 1 = 0 := by decide +kernel
theorem i_237_2 : eI e2 237 2 = 17 := by decide +kernel
theorem i_237_3 : eI e2 237 3 = 0 := by decide +kernel
theorem i_241_0 : eI e2 241 0 = 0 := by decide +kernel
theorem i_241_1 : eI e2 241 1 = 0 := by decide +kernel
theorem i_241_2 : eI e2 241 2 = 17 := by decide +kernel
theorem i_241_3 : eI e2 241 3 = 0 := by decide +kernel
theorem i_245_0 : eI e2 245 0 = 0 := by decide +kernel
theorem i_245_1 : eI e2 245 1 = 0 := by decide +kernel
theorem i_245_2 : eI e2 245 2 = 17 := by decide +kernel
theorem i_245_3 : eI e2 245 3 = 0 := by decide +kernel
theorem i_249_0 : eI e2 249 0 = 0 := by decide +kernel
theorem i_249_1 : eI e2 249 1 = 0 := by decide +kernel
theorem i_249_2 : eI e2 249 2 = 17 := by decide +kernel
theorem i_249_3 : eI e2 249 3 = 0 := by decide +kernel
theorem i_24_0 : eI e2 24 0 = 0 := by decide +kernel
theorem i_24_1 : eI e2 24 1 = 0 := by decide +kernel
theorem i_24_2 : eI e2 24 2 = 17 := by decide +kernel
theorem i_24_3 : eI e2 24 3 = 0 := by decide +kernel
theorem i_253_0 : eI e2 253 0 = 0 := by decide +kernel
theorem i_253_1 : eI e2 253 1 = 0 := by decide +kernel
theorem i_253_2 : eI e2 253 2 = 17 := by decide +kernel
theorem i_253_3 : eI e2 253 3 = 0 := by decide +kernel
theorem i_257_0 : eI e2 257 0 = 0 := by decide +kernel
theorem i_257_1 : eI e2 257 1 = 0 := by decide +kernel
theorem i_257_2 : eI e2 257 2 = 17 := by decide +kernel
theorem i_257_3 : eI e2 257 3 = 0 := by decide +kernel
theorem i_261_0 : eI e2 261 0 = 0 := by decide +kernel
theorem i_261_1 : eI e2 261 1 = 0 := by decide +kernel
theorem i_261_2 : eI e2 261 2 = 17 := by decide +kernel
theorem i_261_3 : eI e2 261 3 = 0 := by decide +kernel
theorem i_265_0 : eI e2 265 0 = 0 := by decide +kernel
theorem i_265_1 : eI e2 265 1 = 0 := by decide +kernel
theorem i_265_2 : eI e2 265 2 = 17 := by decide +kernel
theorem i_265_3 : eI e2 265 3 = 0 := by decide +kernel
theorem i_269_0 : eI e2 269 0 = 0 := by decide +kernel
theorem i_269_1 : eI e2 269 1 = 0 := by decide +kernel
theorem i_269_2 : eI e2 269 2 = 17 := by decide +kernel
theorem i_269_3 : eI e2 269 3 = 0 := by decide +kernel
theorem i_273_0 : eI e2 273 0 = 0 := by decide +kernel
theorem i_273_1 : eI e2 273 1 = 0 := by decide +kernel
theorem i_273_2 : eI e2 273 2 = 17 := by decide +kernel
theorem i_273_3 : eI e2 273 3 = 0 := by decide +kernel
theorem i_277_0 : eI e2 277 0 = 0 := by decide +kernel
theorem i_277_1 : eI e2 277 1 = 0 := by decide +kernel
theorem i_277_2 : eI e2 277 2 = 17 := by decide +kernel
theorem i_277_3 : eI e2 277 3 = 0 := by decide +kernel
theorem i_28_0 : eI e2 28 0 = 0 := by decide +kernel
theorem i_28_1 : eI e2 28 1 = 0 := by decide +kernel
theorem i_28_2 : eI e2 28 2 = 17 := by decide +kernel
theorem i_28_3 : eI e2 28 3 = 0 := by decide +kernel
theorem i_2_0 : eI e2 2 0 = 0 := by decide +kernel
theorem i_2_1 : eI e2 2 1 = 0 := by decide +kernel
theorem i_32_0 : eI e2 32 0 = 0 := by decide +kernel
theorem i_32_1 : eI e2 32 1 = 0 := by decide +kernel
theorem i_32_2 : eI e2 32 2 = 17 := by decide +kernel
theorem i_32_3 : eI e2 32 3 = 0 := by decide +kernel
theorem i_332_0 : eI e2 332 0 = 0 := by decide +kernel
theorem i_338_7 : eI e2 338 7 = 0 := by decide +kernel
theorem i_355_10 : eI e2 355 10 = -1 := by decide +kernel
theorem i_355_8 : eI e2 355 8 = 0 := by decide +kernel
theorem i_355_9 : eI e2 355 9 = -1 := by decide +kernel
theorem i_356_0 : eI e2 356 0 = 0 := by decide +kernel
theorem i_356_1 : eI e2 356 1 = 0 := by decide +kernel
theorem i_356_10 : eI e2 356 10 = 0 := by decide +kernel
theorem i_356_4 : eI e2 356 4 = 0 := by decide +kernel
theorem i_356_6 : eI e2 356 6 = 0 := by decide +kernel
theorem i_356_8 : eI e2 356 8 = 0 := by decide +kernel
theorem i_36_0 : eI e2 36 0 = 0 := by decide +kernel
theorem i_36_1 : eI e2 36 1 = 0 := by decide +kernel
theorem i_36_2 : eI e2 36 2 = 17 := by decide +kernel
theorem i_36_3 : eI e2 36 3 = 0 := by decide +kernel
theorem i_40_0 : eI e2 40 0 = 0 := by decide +kernel
theorem i_40_1 : eI e2 40 1 = 0 := by decide +kernel
theorem i_40_2 : eI e2 40 2 = 17 := by decide +kernel
theorem i_40_3 : eI e2 40 3 = 0 := by decide +kernel
theorem i_44_0 : eI e2 44 0 = 0 := by decide +kernel
theorem i_44_1 : eI e2 44 1 = 0 := by decide +kernel
theorem i_44_2 : eI e2 44 2 = 17 := by decide +kernel
theorem i_44_3 : eI e2 44 3 = 0 := by decide +kernel
theorem i_48_0 : eI e2 48 0 = 0 := by decide +kernel
theorem i_48_1 : eI e2 48 1 = 0 := by decide +kernel
theorem i_48_2 : eI e2 48 2 = 17 := by decide +kernel
theorem i_48_3 : eI e2 48 3 = 0 := by decide +kernel
theorem i_52_0 : eI e2 52 0 = 0 := by decide +kernel
theorem i_52_1 : eI e2 52 1 = 0 := by decide +kernel
theorem i_52_2 : eI e2 52 2 = 17 := by decide +kernel
theorem i_52_3 : eI e2 52 3 = 0 := by decide +kernel
theorem i_56_0 : eI e2 56 0 = 0 := by decide +kernel
theorem i_56_1 : eI e2 56 1 = 0 := by decide +kernel
theorem i_56_2 : eI e2 56 2 = 17 := by decide +kernel
theorem i_56_3 : eI e2 56 3 = 0 := by decide +kernel
theorem i_60_0 : eI e2 60 0 = 0 := by decide +kernel
theorem i_60_1 : eI e2 60 1 = 0 := by decide +kernel
theorem i_60_2 : eI e2 60 2 = 17 := by decide +kernel
theorem i_60_3 : eI e2 60 3 = 0 := by decide +kernel
theorem i_64_0 : eI e2 64 0 = 0 := by decide +kernel
theorem i_64_1 : eI e2 64 1 = 0 := by decide +kernel
theorem i_64_2 : eI e2 64 2 = 17 := by decide +kernel
theorem i_64_3 : eI e2 64 3 = 0 := by decide +kernel
theorem i_68_0 : eI e2 68 0 = 0 := by decide +kernel
theorem i_68_1 : eI e2 68 1 = 0 := by decide +kernel
theorem i_68_2 : eI e2 68 2 = 17 := by decide +kernel
theorem i_68_3 : eI e2 68 3 = 0 := by decide +kernel
theorem i_72_0 : eI e2 72 0 = 0 := by decide +kernel
theorem i_72_1 : eI e2 72 1 = 0 := by decide +kernel
theorem i_72_2 : eI e2 72 2 = 17 := by decide +kernel
theorem i_72_3 : eI e2 72 3 = 0 := by decide +kernel
theorem i_76_0 : eI e2 76 0 = 0 := by decide +kernel
theorem i_76_1 : eI e2 76 1 = 0 := by decide +kernel
theorem i_76_2 : eI e2 76 2 = 17 := by decide +kernel
theorem i_76_3 : eI e2 76 3 = 0 := by decide +kernel
theorem i_80_0 : eI e2 80 0 = 0 := by decide +kernel
theorem i_80_1 : eI e2 80 1 = 0 := by decide +kernel
theorem i_80_2 : eI e2 80 2 = 17 := by decide +kernel
theorem i_80_3 : eI e2 80 3 = 0 := by decide +kernel
theorem i_84_0 : eI e2 84 0 = 0 := by decide +kernel
theorem i_84_1 : eI e2 84 1 = 0 := by decide +kernel
theorem i_84_2 : eI e2 84 2 = 17 := by decide +kernel
theorem i_84_3 : eI e2 84 3 = 0 := by decide +kernel
theorem i_88_0 : eI e2 88 0 = 0 := by decide +kernel
theorem i_88_1 : eI e2 88 1 = 0 := by decide +kernel
theorem i_88_2 : eI e2 88 2 = 17 := by decide +kernel
theorem i_88_3 : eI e2 88 3 = 0 := by decide +kernel
theorem i_92_0 : eI e2 92 0 = 0 := by decide +kernel
theorem i_92_1 : eI e2 92 1 = 0 := by decide +kernel
theorem i_92_2 : eI e2 92 2 = 17 := by decide +kernel
theorem i_92_3 : eI e2 92 3 = 0 := by decide +kernel
theorem i_96_0 : eI e2 96 0 = 0 := by decide +kernel
theorem i_96_1 : eI e2 96 1 = 0 := by decide +kernel
theorem i_96_2 : eI e2 96 2 = 17 := by decide +kernel
theorem i_96_3 : eI e2 96 3 = 0 := by decide +kernel
theorem r_0_0 : eR e2 0 0 = some 1 := by decide +kernel
theorem r_0_1 : eR e2 0 1 = some 146 := by decide +kernel
theorem r_0_2 : eR e2 0 2 = some 291 := by decide +kernel
theorem r_0_3 : eR e2 0 3 = some 332 := by decide +kernel
theorem r_0_4 : eR e2 0 4 = some 338 := by decide +kernel
theorem r_0_5 : eR e2 0 5 = some 339 := by decide +kernel
theorem r_0_6 : eR e2 0 6 = some 342 := by decide +kernel
theorem r_0_7 : eR e2 0 7 = some 343 := by decide +kernel
theorem r_0_8 : eR e2 0 8 = some 349 := by decide +kernel
theorem r_100_4 : eR e2 100 4 = some 101 := by decide +kernel
theorem r_100_5 : eR e2 100 5 = some 102 := by decide +kernel
theorem r_100_6 : eR e2 100 6 = some 103 := by decide +kernel
theorem r_104_4 : eR e2 104 4 = some 105 := by decide +kernel
theorem r_104_5 : eR e2 104 5 = some 106 := by decide +kernel
theorem r_104_6 : eR e2 104 6 = some 107 := by decide +kernel
theorem r_108_4 : eR e2 108 4 = some 109 := by decide +kernel
theorem r_108_5 : eR e2 108 5 = some 110 := by decide +kernel
theorem r_108_6 : eR e2 108 6 = some 111 := by decide +kernel
theorem r_10_4 : eR e2 10 4 = some 11 := by decide +kernel
theorem r_10_5 : eR e2 10 5 = some 12 := by decide +kernel
theorem r_10_6 : eR e2 10 6 = some 13 := by decide +kernel
theorem r_112_4 : eR e2 112 4 = some 113 := by decide +kernel
theorem r_112_5 : eR e2 112 5 = some 114 := by decide +kernel
theorem r_112_6 : eR e2 112 6 = some 115 := by decide +kernel
theorem r_116_4 : eR e2 116 4 = some 117 := by decide +kernel
theorem r_116_5 : eR e2 116 5 = some 118 := by decide +kernel
theorem r_116_6 : eR e2 116 6 = some 119 := by decide +kernel
theorem r_120_4 : eR e2 120 4 = some 121 := by decide +kernel
theorem r_120_5 : eR e2 120 5 = some 122 := by decide +kernel
theorem r_120_6 : eR e2 120 6 = some 123 := by decide +kernel
theorem r_124_4 : eR e2 124 4 = some 125 := by decide +kernel
theorem r_124_5 : eR e2 124 5 = some 126 := by decide +kernel
theorem r_124_6 : eR e2 124 6 = some 127 := by decide +kernel
theorem r_128_4 : eR e2 128 4 = some 129 := by decide +kernel
theorem r_128_5 : eR e2 128 5 = some 130 := by decide +kernel
theorem r_128_6 : eR e2 128 6 = some 131 := by decide +kernel
theorem r_132_4 : eR e2 132 4 = some 133 := by decide +kernel
theorem r_132_5 : eR e2 132 5 = some 134 := by decide +kernel
theorem r_132_6 : eR e2 132 6 = some 135 := by decide +kernel
theorem r_136_0 : eR e2 136 0 = some 137 := by decide +kernel
theorem r_136_1 : eR e2 136 1 = some 138 := by decide +kernel
theorem r_136_2 : eR e2 136 2 = some 139 := by decide +kernel
theorem r_136_3 : eR e2 136 3 = some 140 := by decide +kernel
theorem r_146_0 : eR e2 146 0 = some 147 := by decide +kernel
theorem r_146_1 : eR e2 146 1 = some 155 := by decide +kernel
theorem r_146_10 : eR e2 146 10 = some 288 := by decide +kernel
theorem r_146_11 : eR e2 146 11 = some 289 := by decide +kernel
theorem r_146_12 : eR e2 146 12 = some 290 := by decide +kernel
theorem r_146_2 : eR e2 146 2 = some 159 := by decide +kernel
theorem r_146_3 : eR e2 146 3 = some 281 := by decide +kernel
theorem r_146_4 : eR e2 146 4 = some 286 := by decide +kernel
theorem r_146_8 : eR e2 146 8 = some 287 := by decide +kernel
theorem r_147_2 : eR e2 147 2 = some 148 := by decide +kernel
theorem r_147_3 : eR e2 147 3 = some 149 := by decide +kernel
theorem r_147_4 : eR e2 147 4 = some 150 := by decide +kernel
theorem r_147_5 : eR e2 147 5 = some 151 := by decide +kernel
theorem r_147_6 : eR e2 147 6 = some 152 := by decide +kernel
theorem r_147_7 : eR e2 147 7 = some 153 := by decide +kernel
theorem r_147_8 : eR e2 147 8 = some 154 := by decide +kernel
theorem r_14_2 : eR e2 14 2 = some 15 := by decide +kernel
theorem r_155_4 : eR e2 155 4 = some 156 := by decide +kernel
theorem r_155_5 : eR e2 155 5 = some 157 := by decide +kernel
theorem r_155_6 : eR e2 155 6 = some 158 := by decide +kernel
theorem r_159_2 : eR e2 159 2 = some 160 := by decide +kernel
theorem r_15_0 : eR e2 15 0 = some 16 := by decide +kernel
theorem r_15_1 : eR e2 15 1 = some 20 := by decide +kernel
theorem r_15_10 : eR e2 15 10 = some 56 := by decide +kernel
theorem r_15_11 : eR e2 15 11 = some 60 := by decide +kernel
theorem r_15_12 : eR e2 15 12 = some 64 := by decide +kernel
theorem r_15_13 : eR e2 15 13 = some 68 := by decide +kernel
theorem r_15_14 : eR e2 15 14 = some 72 := by decide +kernel
theorem r_15_15 : eR e2 15 15 = some 76 := by decide +kernel
theorem r_15_16 : eR e2 15 16 = some 80 := by decide +kernel
theorem r_15_17 : eR e2 15 17 = some 84 := by decide +kernel
theorem r_15_18 : eR e2 15 18 = some 88 := by decide +kernel
theorem r_15_19 : eR e2 15 19 = some 92 := by decide +kernel
theorem r_15_2 : eR e2 15 2 = some 24 := by decide +kernel
theorem r_15_20 : eR e2 15 20 = some 96 := by decide +kernel
theorem r_15_21 : eR e2 15 21 = some 100 := by decide +kernel
theorem r_15_22 : eR e2 15 22 = some 104 := by decide +kernel
theorem r_15_23 : eR e2 15 23 = some 108 := by decide +kernel
theorem r_15_24 : eR e2 15 24 = some 112 := by decide +kernel
theorem r_15_25 : eR e2 15 25 = some 116 := by decide +kernel
theorem r_15_26 : eR e2 15 26 = some 120 := by decide +kernel
theorem r_15_27 : eR e2 15 27 = some 124 := by decide +kernel
theorem r_15_28 : eR e2 15 28 = some 128 := by decide +kernel
theorem r_15_29 : eR e2 15 29 = some 132 := by decide +kernel
theorem r_15_3 : eR e2 15 3 = some 28 := by decide +kernel
theorem r_15_4 : eR e2 15 4 = some 32 := by decide +kernel
theorem r_15_5 : eR e2 15 5 = some 36 := by decide +kernel
theorem r_15_6 : eR e2 15 6 = some 40 := by decide +kernel
theorem r_15_7 : eR e2 15 7 = some 44 := by decide +kernel
theorem r_15_8 : eR e2 15 8 = some 48 := by decide +kernel
theorem r_15_9 : eR e2 15 9 = some 52 := by decide +kernel
theorem r_160_0 : eR e2 160 0 = some 161 := by decide +kernel
theorem r_160_1 : eR e2 160 1 = some 165 := by decide +kernel
theorem r_160_10 : eR e2 160 10 = some 201 := by decide +kernel
theorem r_160_11 : eR e2 160 11 = some 205 := by decide +kernel
theorem r_160_12 : eR e2 160 12 = some 209 := by decide +kernel
theorem r_160_13 : eR e2 160 13 = some 213 := by decide +kernel
theorem r_160_14 : eR e2 160 14 = some 217 := by decide +kernel
theorem r_160_15 : eR e2 160 15 = some 221 := by decide +kernel
theorem r_160_16 : eR e2 160 16 = some 225 := by decide +kernel
theorem r_160_17 : eR e2 160 17 = some 229 := by decide +kernel
theorem r_160_18 : eR e2 160 18 = some 233 := by decide +kernel
theorem r_160_19 : eR e2 160 19 = some 237 := by decide +kernel
theorem r_160_2 : eR e2 160 2 = some 169 := by decide +kernel
theorem r_160_20 : eR e2 160 20 = some 241 := by decide +kernel
theorem r_160_21 : eR e2 160 21 = some 245 := by decide +kernel
theorem r_160_22 : eR e2 160 22 = some 249 := by decide +kernel
theorem r_160_23 : eR e2 160 23 = some 253 := by decide +kernel
theorem r_160_24 : eR e2 160 24 = some 257 := by decide +kernel
theorem r_160_25 : eR e2 160 25 = some 261 := by decide +kernel
theorem r_160_26 : eR e2 160 26 = some 265 := by decide +kernel
theorem r_160_27 : eR e2 160 27 = some 269 := by decide +kernel
theorem r_160_28 : eR e2 160 28 = some 273 := by decide +kernel
theorem r_160_29 : eR e2 160 29 = some 277 := by decide +kernel
theorem r_160_3 : eR e2 160 3 = some 173 := by decide +kernel
theorem r_160_4 : eR e2 160 4 = some 177 := by decide +kernel
theorem r_160_5 : eR e2 160 5 = some 181 := by decide +kernel
theorem r_160_6 : eR e2 160 6 = some 185 := by decide +kernel
theorem r_160_7 : eR e2 160 7 = some 189 := by decide +kernel
theorem r_160_8 : eR e2 160 8 = some 193 := by decide +kernel
theorem r_160_9 : eR e2 160 9 = some 197 := by decide +kernel
theorem r_161_4 : eR e2 161 4 = some 162 := by decide +kernel
theorem r_161_5 : eR e2 161 5 = some 163 := by decide +kernel
theorem r_161_6 : eR e2 161 6 = some 164 := by decide +kernel
theorem r_165_4 : eR e2 165 4 = some 166 := by decide +kernel
theorem r_165_5 : eR e2 165 5 = some 167 := by decide +kernel
theorem r_165_6 : eR e2 165 6 = some 168 := by decide +kernel
theorem r_169_4 : eR e2 169 4 = some 170 := by decide +kernel
theorem r_169_5 : eR e2 169 5 = some 171 := by decide +kernel
theorem r_169_6 : eR e2 169 6 = some 172 := by decide +kernel
theorem r_16_4 : eR e2 16 4 = some 17 := by decide +kernel
theorem r_16_5 : eR e2 16 5 = some 18 := by decide +kernel
theorem r_16_6 : eR e2 16 6 = some 19 := by decide +kernel
theorem r_173_4 : eR e2 173 4 = some 174 := by decide +kernel
theorem r_173_5 : eR e2 173 5 = some 175 := by decide +kernel
theorem r_173_6 : eR e2 173 6 = some 176 := by decide +kernel
theorem r_177_4 : eR e2 177 4 = some 178 := by decide +kernel
theorem r_177_5 : eR e2 177 5 = some 179 := by decide +kernel
theorem r_177_6 : eR e2 177 6 = some 180 := by decide +kernel
theorem r_181_4 : eR e2 181 4 = some 182 := by decide +kernel
theorem r_181_5 : eR e2 181 5 = some 183 := by decide +kernel
theorem r_181_6 : eR e2 181 6 = some 184 := by decide +kernel
theorem r_185_4 : eR e2 185 4 = some 186 := by decide +kernel
theorem r_185_5 : eR e2 185 5 = some 187 := by decide +kernel
theorem r_185_6 : eR e2 185 6 = some 188 := by decide +kernel
theorem r_189_4 : eR e2 189 4 = some 190 := by decide +kernel
theorem r_189_5 : eR e2 189 5 = some 191 := by decide +kernel
theorem r_189_6 : eR e2 189 6 = some 192 := by decide +kernel
theorem r_193_4 : eR e2 193 4 = some 194 := by decide +kernel
theorem r_193_5 : eR e2 193 5 = some 195 := by decide +kernel
theorem r_193_6 : eR e2 193 6 = some 196 := by decide +kernel
theorem r_197_4 : eR e2 197 4 = some 198 := by decide +kernel
theorem r_197_5 : eR e2 197 5 = some 199 := by decide +kernel
theorem r_197_6 : eR e2 197 6 = some 200 := by decide +kernel
theorem r_1_0 : eR e2 1 0 = some 2 := by decide +kernel
theorem r_1_1 : eR e2 1 1 = some 10 := by decide +kernel
theorem r_1_10 : eR e2 1 10 = some 143 := by decide +kernel
theorem r_1_11 : eR e2 1 11 = some 144 := by decide +kernel
theorem r_1_12 : eR e2 1 12 = some 145 := by decide +kernel
theorem r_1_2 : eR e2 1 2 = some 14 := by decide +kernel
theorem r_1_3 : eR e2 1 3 = some 136 := by decide +kernel
theorem r_1_4 : eR e2 1 4 = some 141 := by decide +kernel
theorem r_1_8 : eR e2 1 8 = some 142 := by decide +kernel
theorem r_201_4 : eR e2 201 4 = some 202 := by decide +kernel
theorem r_201_5 : eR e2 201 5 = some 203 := by decide +kernel
theorem r_201_6 : eR e2 201 6 = some 204 := by decide +kernel
theorem r_205_4 : eR e2 205 4 = some 206 := by decide +kernel
theorem r_205_5 : eR e2 205 5 = some 207 := by decide +kernel
theorem r_205_6 : eR e2 205 6 = some 208 := by decide +kernel
theorem r_209_4 : eR e2 209 4 = some 210 := by decide +kernel
theorem r_209_5 : eR e2 209 5 = some 211 := by decide +kernel
theorem r_209_6 : eR e2 209 6 = some 212 := by decide +kernel
theorem r_20_4 : eR e2 20 4 = some 21 := by decide +kernel
theorem r_20_5 : eR e2 20 5 = some 22 := by decide +kernel
theorem r_20_6 : eR e2 20 6 = some 23 := by decide +kernel
theorem r_213_4 : eR e2 213 4 = some 214 := by decide +kernel
theorem r_213_5 : eR e2 213 5 = some 215 := by decide +kernel
theorem r_213_6 : eR e2 213 6 = some 216 := by decide +kernel
theorem r_217_4 : eR e2 217 4 = some 218 := by decide +kernel
theorem r_217_5 : eR e2 217 5 = some 219 := by decide +kernel
theorem r_217_6 : eR e2 217 6 = some 220 := by decide +kernel
theorem r_221_4 : eR e2 221 4 = some 222 := by decide +kernel
theorem r_221_5 : eR e2 221 5 = some 223 := by decide +kernel
theorem r_221_6 : eR e2 221 6 = some 224 := by decide +kernel
theorem r_225_4 : eR e2 225 4 = some 226 := by decide +kernel
theorem r_225_5 : eR e2 225 5 = some 227 := by decide +kernel
theorem r_225_6 : eR e2 225 6 = some 228 := by decide +kernel
theorem r_229_4 : eR e2 229 4 = some 230 := by decide +kernel
theorem r_229_5 : eR e2 229 5 = some 231 := by decide +kernel
theorem r_229_6 : eR e2 229 6 = some 232 := by decide +kernel
theorem r_233_4 : eR e2 233 4 = some 234 := by decide +kernel
theorem r_233_5 : eR e2 233 5 = some 235 := by decide +kernel
theorem r_233_6 : eR e2 233 6 = some 236 := by decide +kernel
theorem r_237_4 : eR e2 237 4 = some 238 := by decide +kernel
theorem r_237_5 : eR e2 237 5 = some 239 := by decide +kernel
theorem r_237_6 : eR e2 237 6 = some 240 := by decide +kernel
theorem r_241_4 : eR e2 241 4 = some 242 := by decide +kernel
theorem r_241_5 : eR e2 241 5 = some 243 := by decide +kernel
theorem r_241_6 : eR e2 241 6 = some 244 := by decide +kernel
theorem r_245_4 : eR e2 245 4 = some 246 := by decide +kernel
theorem r_245_5 : eR e2 245 5 = some 247 := by decide +kernel
theorem r_245_6 : eR e2 245 6 = some 248 := by decide +kernel
theorem r_249_4 : eR e2 249 4 = some 250 := by decide +kernel
theorem r_249_5 : eR e2 249 5 = some 251 := by decide +kernel
theorem r_249_6 : eR e2 249 6 = some 252 := by decide +kernel
theorem r_24_4 : eR e2 24 4 = some 25 := by decide +kernel
theorem r_24_5 : eR e2 24 5 = some 26 := by decide +kernel
theorem r_24_6 : eR e2 24 6 = some 27 := by decide +kernel
theorem r_253_4 : eR e2 253 4 = some 254 := by decide +kernel
theorem r_253_5 : eR e2 253 5 = some 255 := by decide +kernel
theorem r_253_6 : eR e2 253 6 = some 256 := by decide +kernel
theorem r_257_4 : eR e2 257 4 = some 258 := by decide +kernel
theorem r_257_5 : eR e2 257 5 = some 259 := by decide +kernel
theorem r_257_6 : eR e2 257 6 = some 260 := by decide +kernel
theorem r_261_4 : eR e2 261 4 = some 262 := by decide +kernel
theorem r_261_5 : eR e2 261 5 = some 263 := by decide +kernel
theorem r_261_6 : eR e2 261 6 = some 264 := by decide +kernel
theorem r_265_4 : eR e2 265 4 = some 266 := by decide +kernel
theorem r_265_5 : eR e2 265 5 = some 267 := by decide +kernel
theorem r_265_6 : eR e2 265 6 = some 268 := by decide +kernel
theorem r_269_4 : eR e2 269 4 = some 270 := by decide +kernel
theorem r_269_5 : eR e2 269 5 = some 271 := by decide +kernel
theorem r_269_6 : eR e2 269 6 = some 272 := by decide +kernel
theorem r_273_4 : eR e2 273 4 = some 274 := by decide +kernel
theorem r_273_5 : eR e2 273 5 = some 275 := by decide +kernel
theorem r_273_6 : eR e2 273 6 = some 276 := by decide +kernel
theorem r_277_4 : eR e2 277 4 = some 278 := by decide +kernel
theorem r_277_5 : eR e2 277 5 = some 279 := by decide +kernel
theorem r_277_6 : eR e2 277 6 = some 280 := by decide +kernel
theorem r_281_0 : eR e2 281 0 = some 282 := by decide +kernel
theorem r_281_1 : eR e2 281 1 = some 283 := by decide +kernel
theorem r_281_2 : eR e2 281 2 = some 284 := by decide +kernel
theorem r_281_3 : eR e2 281 3 = some 285 := by decide +kernel
theorem r_28_4 : eR e2 28 4 = some 29 := by decide +kernel
theorem r_28_5 : eR e2 28 5 = some 30 := by decide +kernel
theorem r_28_6 : eR e2 28 6 = some 31 := by decide +kernel
theorem r_291_0 : eR e2 291 0 = some 292 := by decide +kernel
theorem r_292_7 : eR e2 292 7 = some 299 := by decide +kernel
theorem r_292_8 : eR e2 292 8 = some 300 := by decide +kernel
theorem r_2_2 : eR e2 2 2 = some 3 := by decide +kernel
theorem r_2_3 : eR e2 2 3 = some 4 := by decide +kernel
theorem r_2_4 : eR e2 2 4 = some 5 := by decide +kernel
theorem r_2_5 : eR e2 2 5 = some 6 := by decide +kernel
theorem r_2_6 : eR e2 2 6 = some 7 := by decide +kernel
theorem r_2_7 : eR e2 2 7 = some 8 := by decide +kernel
theorem r_2_8 : eR e2 2 8 = some 9 := by decide +kernel
theorem r_32_4 : eR e2 32 4 = some 33 := by decide +kernel
theorem r_32_5 : eR e2 32 5 = some 34 := by decide +kernel
theorem r_32_6 : eR e2 32 6 = some 35 := by decide +kernel
theorem r_332_1 : eR e2 332 1 = some 333 := by decide +kernel
theorem r_332_3 : eR e2 332 3 = some 334 := by decide +kernel
theorem r_332_4 : eR e2 332 4 = some 335 := by decide +kernel
theorem r_332_5 : eR e2 332 5 = some 336 := by decide +kernel
theorem r_332_6 : eR e2 332 6 = some 337 := by decide +kernel
theorem r_338_0 : eR e2 338 0 = some 332 := by decide +kernel
theorem r_339_0 : eR e2 339 0 = some 1 := by decide +kernel
theorem r_342_0 : eR e2 342 0 = some 1 := by decide +kernel
theorem r_342_1 : eR e2 342 1 = some 10 := by decide +kernel
theorem r_343_0 : eR e2 343 0 = some 1 := by decide +kernel
theorem r_349_0 : eR e2 349 0 = some 1 := by decide +kernel
theorem r_349_2 : eR e2 349 2 = some 351 := by decide +kernel
theorem r_355_0 : eR e2 355 0 = some 356 := by decide +kernel
theorem r_355_2 : eR e2 355 2 = some 358 := by decide +kernel
theorem r_355_7 : eR e2 355 7 = some 361 := by decide +kernel
theorem r_36_4 : eR e2 36 4 = some 37 := by decide +kernel
theorem r_36_5 : eR e2 36 5 = some 38 := by decide +kernel
theorem r_36_6 : eR e2 36 6 = some 39 := by decide +kernel
theorem r_40_4 : eR e2 40 4 = some 41 := by decide +kernel
theorem r_40_5 : eR e2 40 5 = some 42 := by decide +kernel
theorem r_40_6 : eR e2 40 6 = some 43 := by decide +kernel
theorem r_44_4 : eR e2 44 4 = some 45 := by decide +kernel
theorem r_44_5 : eR e2 44 5 = some 46 := by decide +kernel
theorem r_44_6 : eR e2 44 6 = some 47 := by decide +kernel
theorem r_48_4 : eR e2 48 4 = some 49 := by decide +kernel
theorem r_48_5 : eR e2 48 5 = some 50 := by decide +kernel
theorem r_48_6 : eR e2 48 6 = some 51 := by decide +kernel
theorem r_52_4 : eR e2 52 4 = some 53 := by decide +kernel
theorem r_52_5 : eR e2 52 5 = some 54 := by decide +kernel
theorem r_52_6 : eR e2 52 6 = some 55 := by decide +kernel
theorem r_56_4 : eR e2 56 4 = some 57 := by decide +kernel
theorem r_56_5 : eR e2 56 5 = some 58 := by decide +kernel
theorem r_56_6 : eR e2 56 6 = some 59 := by decide +kernel
theorem r_60_4 : eR e2 60 4 = some 61 := by decide +kernel
theorem r_60_5 : eR e2 60 5 = some 62 := by decide +kernel
theorem r_60_6 : eR e2 60 6 = some 63 := by decide +kernel
theorem r_64_4 : eR e2 64 4 = some 65 := by decide +kernel
theorem r_64_5 : eR e2 64 5 = some 66 := by decide +kernel
theorem r_64_6 : eR e2 64 6 = some 67 := by decide +kernel
theorem r_68_4 : eR e2 68 4 = some 69 := by decide +kernel
theorem r_68_5 : eR e2 68 5 = some 70 := by decide +kernel
theorem r_68_6 : eR e2 68 6 = some 71 := by decide +kernel
theorem r_72_4 : eR e2 72 4 = some 73 := by decide +kernel
theorem r_72_5 : eR e2 72 5 = some 74 := by decide +kernel
theorem r_72_6 : eR e2 72 6 = some 75 := by decide +kernel
theorem r_76_4 : eR e2 76 4 = some 77 := by decide +kernel
theorem r_76_5 : eR e2 76 5 = some 78 := by decide +kernel
theorem r_76_6 : eR e2 76 6 = some 79 := by decide +kernel
theorem r_80_4 : eR e2 80 4 = some 81 := by decide +kernel
theorem r_80_5 : eR e2 80 5 = some 82 := by decide +kernel
theorem r_80_6 : eR e2 80 6 = some 83 := by decide +kernel
theorem r_84_4 : eR e2 84 4 = some 85 := by decide +kernel
theorem r_84_5 : eR e2 84 5 = some 86 := by decide +kernel
theorem r_84_6 : eR e2 84 6 = some 87 := by decide +kernel
theorem r_88_4 : eR e2 88 4 = some 89 := by decide +kernel
theorem r_88_5 : eR e2 88 5 = some 90 := by decide +kernel
theorem r_88_6 : eR e2 88 6 = some 91 := by decide +kernel
theorem r_92_4 : eR e2 92 4 = some 93 := by decide +kernel
theorem r_92_5 : eR e2 92 5 = some 94 := by decide +kernel
theorem r_92_6 : eR e2 92 6 = some 95 := by decide +kernel
theorem r_96_4 : eR e2 96 4 = some 97 := by decide +kernel
theorem r_96_5 : eR e2 96 5 = some 98 := by decide +kernel
theorem r_96_6 : eR e2 96 6 = some 99 := by decide +kernel
theorem s_0 : eS e2 0 = .inl 12 := by decide +kernel
theorem s_1 : eS e2 1 = .inl 2 := by decide +kernel
theorem s_10 : eS e2 10 = .inl 9 := by decide +kernel
theorem s_100 : eS e2 100 = .inl 9 := by decide +kernel
theorem s_101 : eS e2 101 = .inr (.int, 26) := by decide +kernel
theorem s_102 : eS e2 102 = .inr (.int, 26) := by decide +kernel
theorem s_103 : eS e2 103 = .inr (.int, 26) := by decide +kernel
theorem s_104 : eS e2 104 = .inl 9 := by decide +kernel
theorem s_105 : eS e2 105 = .inr (.int, 26) := by decide +kernel
theorem s_106 : eS e2 106 = .inr (.int, 26) := by decide +kernel
theorem s_107 : eS e2 107 = .inr (.int, 26) := by decide +kernel
theorem s_108 : eS e2 108 = .inl 9 := by decide +kernel
theorem s_109 : eS e2 109 = .inr (.int, 26) := by decide +kernel
theorem s_11 : eS e2 11 = .inr (.int, 26) := by decide +kernel
theorem s_110 : eS e2 110 = .inr (.int, 26) := by decide +kernel
theorem s_111 : eS e2 111 = .inr (.int, 26) := by decide +kernel
theorem s_112 : eS e2 112 = .inl 9 := by decide +kernel
theorem s_113 : eS e2 113 = .inr (.int, 26) := by decide +kernel
theorem s_114 : eS e2 114 = .inr (.int, 26) := by decide +kernel
theorem s_115 : eS e2 115 = .inr (.int, 26) := by decide +kernel
theorem s_116 : eS e2 116 = .inl 9 := by decide +kernel
theorem s_117 : eS e2 117 = .inr (.int, 26) := by decide +kernel
theorem s_118 : eS e2 118 = .inr (.int, 26) := by decide +kernel
theorem s_119 : eS e2 119 = .inr (.int, 26) := by decide +kernel
theorem s_12 : eS e2 12 = .inr (.int, 26) := by decide +kernel
theorem s_120 : eS e2 120 = .inl 9 := by decide +kernel
theorem s_121 : eS e2 121 = .inr (.int, 26) := by decide +kernel
theorem s_122 : eS e2 122 = .inr (.int, 26) := by decide +kernel
theorem s_123 : eS e2 123 = .inr (.int, 26) := by decide +kernel
theorem s_124 : eS e2 124 = .inl 9 := by decide +kernel
theorem s_125 : eS e2 125 = .inr (.int, 26) := by decide +kernel
theorem s_126 : eS e2 126 = .inr (.int, 26) := by decide +kernel
theorem s_127 : eS e2 127 = .inr (.int, 26) := by decide +kernel
theorem s_128 : eS e2 128 = .inl 9 := by decide +kernel
theorem s_129 : eS e2 129 = .inr (.int, 26) := by decide +kernel
theorem s_13 : eS e2 13 = .inr (.int, 26) := by decide +kernel
theorem s_130 : eS e2 130 = .inr (.int, 26) := by decide +kernel
theorem s_131 : eS e2 131 = .inr (.int, 26) := by decide +kernel
theorem s_132 : eS e2 132 = .inl 9 := by decide +kernel
theorem s_133 : eS e2 133 = .inr (.int, 26) := by decide +kernel
theorem s_134 : eS e2 134 = .inr (.int, 26) := by decide +kernel
theorem s_135 : eS e2 135 = .inr (.int, 26) := by decide +kernel
theorem s_136 : eS e2 136 = .inl 0 := by decide +kernel
theorem s_137 : eS e2 137 = .inr (.int, 10) := by decide +kernel
theorem s_138 : eS e2 138 = .inr (.int, 10) := by decide +kernel
theorem s_139 : eS e2 139 = .inr (.int, 10) := by decide +kernel
theorem s_14 : eS e2 14 = .inl 3 := by decide +kernel
theorem s_140 : eS e2 140 = .inr (.int, 80) := by decide +kernel
theorem s_141 : eS e2 141 = .inr (.int, 26) := by decide +kernel
theorem s_142 : eS e2 142 = .inr (.int, 4) := by decide +kernel
theorem s_143 : eS e2 143 = .inr (.int, 12) := by decide +kernel
theorem s_144 : eS e2 144 = .inr (.int, 12) := by decide +kernel
theorem s_145 : eS e2 145 = .inr (.int, 12) := by decide +kernel
theorem s_146 : eS e2 146 = .inl 2 := by decide +kernel
theorem s_147 : eS e2 147 = .inl 5 := by decide +kernel
theorem s_148 : eS e2 148 = .inr (.int, 24) := by decide +kernel
theorem s_149 : eS e2 149 = .inr (.int, 24) := by decide +kernel
theorem s_15 : eS e2 15 = .inr ((.object RX9), 30) := by decide +kernel
theorem s_150 : eS e2 150 = .inr (.int, 24) := by decide +kernel
theorem s_151 : eS e2 151 = .inr (.int, 192) := by decide +kernel
theorem s_152 : eS e2 152 = .inr (.int, 8) := by decide +kernel
theorem s_153 : eS e2 153 = .inr (.int, 8) := by decide +kernel
theorem s_154 : eS e2 154 = .inr (.int, 64) := by decide +kernel
theorem s_155 : eS e2 155 = .inl 9 := by decide +kernel
theorem s_156 : eS e2 156 = .inr (.int, 26) := by decide +kernel
theorem s_157 : eS e2 157 = .inr (.int, 26) := by decide +kernel
theorem s_158 : eS e2 158 = .inr (.int, 26) := by decide +kernel
theorem s_159 : eS e2 159 = .inl 3 := by decide +kernel
theorem s_16 : eS e2 16 = .inl 9 := by decide +kernel
theorem s_160 : eS e2 160 = .inr ((.object RX9), 30) := by decide +kernel
theorem s_161 : eS e2 161 = .inl 9 := by decide +kernel
theorem s_162 : eS e2 162 = .inr (.int, 26) := by decide +kernel
theorem s_163 : eS e2 163 = .inr (.int, 26) := by decide +kernel
theorem s_164 : eS e2 164 = .inr (.int, 26) := by decide +kernel
theorem s_165 : eS e2 165 = .inl 9 := by decide +kernel
theorem s_166 : eS e2 166 = .inr (.int, 26) := by decide +kernel
theorem s_167 : eS e2 167 = .inr (.int, 26) := by decide +kernel
theorem s_168 : eS e2 168 = .inr (.int, 26) := by decide +kernel
theorem s_169 : eS e2 169 = .inl 9 := by decide +kernel
theorem s_17 : eS e2 17 = .inr (.int, 26) := by decide +kernel
theorem s_170 : eS e2 170 = .inr (.int, 26) := by decide +kernel
theorem s_171 : eS e2 171 = .inr (.int, 26) := by decide +kernel
theorem s_172 : eS e2 172 = .inr (.int, 26) := by decide +kernel
theorem s_173 : eS e2 173 = .inl 9 := by decide +kernel
theorem s_174 : eS e2 174 = .inr (.int, 26) := by decide +kernel
theorem s_175 : eS e2 175 = .inr (.int, 26) := by decide +kernel
theorem s_176 : eS e2 176 = .inr (.int, 26) := by decide +kernel
theorem s_177 : eS e2 177 = .inl 9 := by decide +kernel
theorem s_178 : eS e2 178 = .inr (.int, 26) := by decide +kernel
theorem s_179 : eS e2 179 = .inr (.int, 26) := by decide +kernel
theorem s_18 : eS e2 18 = .inr (.int, 26) := by decide +kernel
theorem s_180 : eS e2 180 = .inr (.int, 26) := by decide +kernel
theorem s_181 : eS e2 181 = .inl 9 := by decide +kernel
theorem s_182 : eS e2 182 = .inr (.int, 26) := by decide +kernel
theorem s_183 : eS e2 183 = .inr (.int, 26) := by decide +kernel
theorem s_184 : eS e2 184 = .inr (.int, 26) := by decide +kernel
theorem s_185 : eS e2 185 = .inl 9 := by decide +kernel
theorem s_186 : eS e2 186 = .inr (.int, 26) := by decide +kernel
theorem s_187 : eS e2 187 = .inr (.int, 26) := by decide +kernel
theorem s_188 : eS e2 188 = .inr (.int, 26) := by decide +kernel
theorem s_189 : eS e2 189 = .inl 9 := by decide +kernel
theorem s_19 : eS e2 19 = .inr (.int, 26) := by decide +kernel
theorem s_190 : eS e2 190 = .inr (.int, 26) := by decide +kernel
theorem s_191 : eS e2 191 = .inr (.int, 26) := by decide +kernel
theorem s_192 : eS e2 192 = .inr (.int, 26) := by decide +kernel
theorem s_193 : eS e2 193 = .inl 9 := by decide +kernel
theorem s_194 : eS e2 194 = .inr (.int, 26) := by decide +kernel
theorem s_195 : eS e2 195 = .inr (.int, 26) := by decide +kernel
theorem s_196 : eS e2 196 = .inr (.int, 26) := by decide +kernel
theorem s_197 : eS e2 197 = .inl 9 := by decide +kernel
theorem s_198 : eS e2 198 = .inr (.int, 26) := by decide +kernel
theorem s_199 : eS e2 199 = .inr (.int, 26) := by decide +kernel
theorem s_2 : eS e2 2 = .inl 5 := by decide +kernel
theorem s_20 : eS e2 20 = .inl 9 := by decide +kernel
theorem s_200 : eS e2 200 = .inr (.int, 26) := by decide +kernel
theorem s_201 : eS e2 201 = .inl 9 := by decide +kernel
theorem s_202 : eS e2 202 = .inr (.int, 26) := by decide +kernel
theorem s_203 : eS e2 203 = .inr (.int, 26) := by decide +kernel
theorem s_204 : eS e2 204 = .inr (.int, 26) := by decide +kernel
theorem s_205 : eS e2 205 = .inl 9 := by decide +kernel
theorem s_206 : eS e2 206 = .inr (.int, 26) := by decide +kernel
theorem s_207 : eS e2 207 = .inr (.int, 26) := by decide +kernel
theorem s_208 : eS e2 208 = .inr (.int, 26) := by decide +kernel
theorem s_209 : eS e2 209 = .inl 9 := by decide +kernel
theorem s_21 : eS e2 21 = .inr (.int, 26) := by decide +kernel
theorem s_210 : eS e2 210 = .inr (.int, 26) := by decide +kernel
theorem s_211 : eS e2 211 = .inr (.int, 26) := by decide +kernel
theorem s_212 : eS e2 212 = .inr (.int, 26) := by decide +kernel
theorem s_213 : eS e2 213 = .inl 9 := by decide +kernel
theorem s_214 : eS e2 214 = .inr (.int, 26) := by decide +kernel
theorem s_215 : eS e2 215 = .inr (.int, 26) := by decide +kernel
theorem s_216 : eS e2 216 = .inr (.int, 26) := by decide +kernel
theorem s_217 : eS e2 217 = .inl 9 := by decide +kernel
theorem s_218 : eS e2 218 = .inr (.int, 26) := by decide +kernel
theorem s_219 : eS e2 219 = .inr (.int, 26) := by decide +kernel
theorem s_22 : eS e2 22 = .inr (.int, 26) := by decide +kernel
theorem s_220 : eS e2 220 = .inr (.int, 26) := by decide +kernel
theorem s_221 : eS e2 221 = .inl 9 := by decide +kernel
theorem s_222 : eS e2 222 = .inr (.int, 26) := by decide +kernel
theorem s_223 : eS e2 223 = .inr (.int, 26) := by decide +kernel
theorem s_224 : eS e2 224 = .inr (.int, 26) := by decide +kernel
theorem s_225 : eS e2 225 = .inl 9 := by decide +kernel
theorem s_226 : eS e2 226 = .inr (.int, 26) := by decide +kernel
theorem s_227 : eS e2 227 = .inr (.int, 26) := by decide +kernel
theorem s_228 : eS e2 228 = .inr (.int, 26) := by decide +kernel
theorem s_229 : eS e2 229 = .inl 9 := by decide +kernel
theorem s_23 : eS e2 23 = .inr (.int, 26) := by decide +kernel
theorem s_230 : eS e2 230 = .inr (.int, 26) := by decide +kernel
theorem s_231 : eS e2 231 = .inr (.int, 26) := by decide +kernel
theorem s_232 : eS e2 232 = .inr (.int, 26) := by decide +kernel
theorem s_233 : eS e2 233 = .inl 9 := by decide +kernel
theorem s_234 : eS e2 234 = .inr (.int, 26) := by decide +kernel
theorem s_235 : eS e2 235 = .inr (.int, 26) := by decide +kernel
theorem s_236 : eS e2 236 = .inr (.int, 26) := by decide +kernel
theorem s_237 : eS e2 237 = .inl 9 := by decide +kernel
theorem s_238 : eS e2 238 = .inr (.int, 26) := by decide +kernel
theorem s_239 : eS e2 239 = .inr (.int, 26) := by decide +kernel
theorem s_24 : eS e2 24 = .inl 9 := by decide +kernel
theorem s_240 : eS e2 240 = .inr (.int, 26) := by decide +kernel
theorem s_241 : eS e2 241 = .inl 9 := by decide +kernel
theorem s_242 : eS e2 242 = .inr (.int, 26) := by decide +kernel
theorem s_243 : eS e2 243 = .inr (.int, 26) := by decide +kernel
theorem s_244 : eS e2 244 = .inr (.int, 26) := by decide +kernel
theorem s_245 : eS e2 245 = .inl 9 := by decide +kernel
theorem s_246 : eS e2 246 = .inr (.int, 26) := by decide +kernel
theorem s_247 : eS e2 247 = .inr (.int, 26) := by decide +kernel
theorem s_248 : eS e2 248 = .inr (.int, 26) := by decide +kernel
theorem s_249 : eS e2 249 = .inl 9 := by decide +kernel
theorem s_25 : eS e2 25 = .inr (.int, 26) := by decide +kernel
theorem s_250 : eS e2 250 = .inr (.int, 26) := by decide +kernel
theorem s_251 : eS e2 251 = .inr (.int, 26) := by decide +kernel
theorem s_252 : eS e2 252 = .inr (.int, 26) := by decide +kernel
theorem s_253 : eS e2 253 = .inl 9 := by decide +kernel
theorem s_254 : eS e2 254 = .inr (.int, 26) := by decide +kernel
theorem s_255 : eS e2 255 = .inr (.int, 26) := by decide +kernel
theorem s_256 : eS e2 256 = .inr (.int, 26) := by decide +kernel
theorem s_257 : eS e2 257 = .inl 9 := by decide +kernel
theorem s_258 : eS e2 258 = .inr (.int, 26) := by decide +kernel
theorem s_259 : eS e2 259 = .inr (.int, 26) := by decide +kernel
theorem s_26 : eS e2 26 = .inr (.int, 26) := by decide +kernel
theorem s_260 : eS e2 260 = .inr (.int, 26) := by decide +kernel
theorem s_261 : eS e2 261 = .inl 9 := by decide +kernel
theorem s_262 : eS e2 262 = .inr (.int, 26) := by decide +kernel
theorem s_263 : eS e2 263 = .inr (.int, 26) := by decide +kernel
theorem s_264 : eS e2 264 = .inr (.int, 26) := by decide +kernel
theorem s_265 : eS e2 265 = .inl 9 := by decide +kernel
theorem s_266 : eS e2 266 = .inr (.int, 26) := by decide +kernel
theorem s_267 : eS e2 267 = .inr (.int, 26) := by decide +kernel
theorem s_268 : eS e2 268 = .inr (.int, 26) := by decide +kernel
theorem s_269 : eS e2 269 = .inl 9 := by decide +kernel
theorem s_27 : eS e2 27 = .inr (.int, 26) := by decide +kernel
theorem s_270 : eS e2 270 = .inr (.int, 26) := by decide +kernel
theorem s_271 : eS e2 271 = .inr (.int, 26) := by decide +kernel
theorem s_272 : eS e2 272 = .inr (.int, 26) := by decide +kernel
theorem s_273 : eS e2 273 = .inl 9 := by decide +kernel
theorem s_274 : eS e2 274 = .inr (.int, 26) := by decide +kernel
theorem s_275 : eS e2 275 = .inr (.int, 26) := by decide +kernel
theorem s_276 : eS e2 276 = .inr (.int, 26) := by decide +kernel
theorem s_277 : eS e2 277 = .inl 9 := by decide +kernel
theorem s_278 : eS e2 278 = .inr (.int, 26) := by decide +kernel
theorem s_279 : eS e2 279 = .inr (.int, 26) := by decide +kernel
theorem s_28 : eS e2 28 = .inl 9 := by decide +kernel
theorem s_280 : eS e2 280 = .inr (.int, 26) := by decide +kernel
theorem s_281 : eS e2 281 = .inl 0 := by decide +kernel
theorem s_282 : eS e2 282 = .inr (.int, 10) := by decide +kernel
theorem s_283 : eS e2 283 = .inr (.int, 10) := by decide +kernel
theorem s_284 : eS e2 284 = .inr (.int, 10) := by decide +kernel
theorem s_285 : eS e2 285 = .inr (.int, 80) := by decide +kernel
theorem s_286 : eS e2 286 = .inr (.int, 26) := by decide +kernel
theorem s_287 : eS e2 287 = .inr (.int, 4) := by decide +kernel
theorem s_288 : eS e2 288 = .inr (.int, 12) := by decide +kernel
theorem s_289 : eS e2 289 = .inr (.int, 12) := by decide +kernel
theorem s_29 : eS e2 29 = .inr (.int, 26) := by decide +kernel
theorem s_290 : eS e2 290 = .inr (.int, 12) := by decide +kernel
theorem s_291 : eS e2 291 = .inr ((.object RX11), 4) := by decide +kernel
theorem s_292 : eS e2 292 = .inl 11 := by decide +kernel
theorem s_299 : eS e2 299 = .inr (.int, 4) := by decide +kernel
theorem s_3 : eS e2 3 = .inr (.int, 24) := by decide +kernel
theorem s_30 : eS e2 30 = .inr (.int, 26) := by decide +kernel
theorem s_300 : eS e2 300 = .inr (.int, 4) := by decide +kernel
theorem s_31 : eS e2 31 = .inr (.int, 26) := by decide +kernel
theorem s_32 : eS e2 32 = .inl 9 := by decide +kernel
theorem s_33 : eS e2 33 = .inr (.int, 26) := by decide +kernel
theorem s_332 : eS e2 332 = .inl 10 := by decide +kernel
theorem s_333 : eS e2 333 = .inr (.int, 300) := by decide +kernel
theorem s_334 : eS e2 334 = .inr (.int, 301) := by decide +kernel
theorem s_335 : eS e2 335 = .inr (.int, 301) := by decide +kernel
theorem s_336 : eS e2 336 = .inr (.int, 301) := by decide +kernel
theorem s_337 : eS e2 337 = .inr (.int, 301) := by decide +kernel
theorem s_338 : eS e2 338 = .inl 8 := by decide +kernel
theorem s_339 : eS e2 339 = .inl 4 := by decide +kernel
theorem s_34 : eS e2 34 = .inr (.int, 26) := by decide +kernel
theorem s_342 : eS e2 342 = .inl 1 := by decide +kernel
theorem s_343 : eS e2 343 = .inl 6 := by decide +kernel
theorem s_349 : eS e2 349 = .inl 7 := by decide +kernel
theorem s_35 : eS e2 35 = .inr (.int, 26) := by decide +kernel
theorem s_351 : eS e2 351 = .inr (.int, 4) := by decide +kernel
theorem s_355 : eS e2 355 = .inl 13 := by decide +kernel
theorem s_356 : eS e2 356 = .inr (.int, 3038) := by decide +kernel
theorem s_358 : eS e2 358 = .inr (.int, 3492) := by decide +kernel
theorem s_36 : eS e2 36 = .inl 9 := by decide +kernel
theorem s_361 : eS e2 361 = .inr (.int, 300) := by decide +kernel
theorem s_37 : eS e2 37 = .inr (.int, 26) := by decide +kernel
theorem s_38 : eS e2 38 = .inr (.int, 26) := by decide +kernel
theorem s_39 : eS e2 39 = .inr (.int, 26) := by decide +kernel
theorem s_4 : eS e2 4 = .inr (.int, 24) := by decide +kernel
theorem s_40 : eS e2 40 = .inl 9 := by decide +kernel
theorem s_41 : eS e2 41 = .inr (.int, 26) := by decide +kernel
theorem s_42 : eS e2 42 = .inr (.int, 26) := by decide +kernel
theorem s_43 : eS e2 43 = .inr (.int, 26) := by decide +kernel
theorem s_44 : eS e2 44 = .inl 9 := by decide +kernel
theorem s_45 : eS e2 45 = .inr (.int, 26) := by decide +kernel
theorem s_46 : eS e2 46 = .inr (.int, 26) := by decide +kernel
theorem s_47 : eS e2 47 = .inr (.int, 26) := by decide +kernel
theorem s_48 : eS e2 48 = .inl 9 := by decide +kernel
theorem s_49 : eS e2 49 = .inr (.int, 26) := by decide +kernel
theorem s_5 : eS e2 5 = .inr (.int, 24) := by decide +kernel
theorem s_50 : eS e2 50 = .inr (.int, 26) := by decide +kernel
theorem s_51 : eS e2 51 = .inr (.int, 26) := by decide +kernel
theorem s_52 : eS e2 52 = .inl 9 := by decide +kernel
theorem s_53 : eS e2 53 = .inr (.int, 26) := by decide +kernel
theorem s_54 : eS e2 54 = .inr (.int, 26) := by decide +kernel
theorem s_55 : eS e2 55 = .inr (.int, 26) := by decide +kernel
theorem s_56 : eS e2 56 = .inl 9 := by decide +kernel
theorem s_57 : eS e2 57 = .inr (.int, 26) := by decide +kernel
theorem s_58 : eS e2 58 = .inr (.int, 26) := by decide +kernel
theorem s_59 : eS e2 59 = .inr (.int, 26) := by decide +kernel
theorem s_6 : eS e2 6 = .inr (.int, 192) := by decide +kernel
theorem s_60 : eS e2 60 = .inl 9 := by decide +kernel
theorem s_61 : eS e2 61 = .inr (.int, 26) := by decide +kernel
theorem s_62 : eS e2 62 = .inr (.int, 26) := by decide +kernel
theorem s_63 : eS e2 63 = .inr (.int, 26) := by decide +kernel
theorem s_64 : eS e2 64 = .inl 9 := by decide +kernel
theorem s_65 : eS e2 65 = .inr (.int, 26) := by decide +kernel
theorem s_66 : eS e2 66 = .inr (.int, 26) := by decide +kernel
theorem s_67 : eS e2 67 = .inr (.int, 26) := by decide +kernel
theorem s_68 : eS e2 68 = .inl 9 := by decide +kernel
theorem s_69 : eS e2 69 = .inr (.int, 26) := by decide +kernel
theorem s_7 : eS e2 7 = .inr (.int, 8) := by decide +kernel
theorem s_70 : eS e2 70 = .inr (.int, 26) := by decide +kernel
theorem s_71 : eS e2 71 = .inr (.int, 26) := by decide +kernel
theorem s_72 : eS e2 72 = .inl 9 := by decide +kernel
theorem s_73 : eS e2 73 = .inr (.int, 26) := by decide +kernel
theorem s_74 : eS e2 74 = .inr (.int, 26) := by decide +kernel
theorem s_75 : eS e2 75 = .inr (.int, 26) := by decide +kernel
theorem s_76 : eS e2 76 = .inl 9 := by decide +kernel
theorem s_77 : eS e2 77 = .inr (.int, 26) := by decide +kernel
theorem s_78 : eS e2 78 = .inr (.int, 26) := by decide +kernel
theorem s_79 : eS e2 79 = .inr (.int, 26) := by decide +kernel
theorem s_8 : eS e2 8 = .inr (.int, 8) := by decide +kernel
theorem s_80 : eS e2 80 = .inl 9 := by decide +kernel
theorem s_81 : eS e2 81 = .inr (.int, 26) := by decide +kernel
theorem s_82 : eS e2 82 = .inr (.int, 26) := by decide +kernel
theorem s_83 : eS e2 83 = .inr (.int, 26) := by decide +kernel
theorem s_84 : eS e2 84 = .inl 9 := by decide +kernel
theorem s_85 : eS e2 85 = .inr (.int, 26) := by decide +kernel
theorem s_86 : eS e2 86 = .inr (.int, 26) := by decide +kernel
theorem s_87 : eS e2 87 = .inr (.int, 26) := by decide +kernel
theorem s_88 : eS e2 88 = .inl 9 := by decide +kernel
theorem s_89 : eS e2 89 = .inr (.int, 26) := by decide +kernel
theorem s_9 : eS e2 9 = .inr (.int, 64) := by decide +kernel
theorem s_90 : eS e2 90 = .inr (.int, 26) := by decide +kernel
theorem s_91 : eS e2 91 = .inr (.int, 26) := by decide +kernel
theorem s_92 : eS e2 92 = .inl 9 := by decide +kernel
theorem s_93 : eS e2 93 = .inr (.int, 26) := by decide +kernel
theorem s_94 : eS e2 94 = .inr (.int, 26) := by decide +kernel
theorem s_95 : eS e2 95 = .inr (.int, 26) := by decide +kernel
theorem s_96 : eS e2 96 = .inl 9 := by decide +kernel
theorem s_97 : eS e2 97 = .inr (.int, 26) := by decide +kernel
theorem s_98 : eS e2 98 = .inr (.int, 26) := by decide +kernel
theorem s_99 : eS e2 99 = .inr (.int, 26) := by decide +kernel
theorem u_11 : ∀ k, k < 26 → eI e2 11 k = 1 := by decide +kernel
theorem u_12 : ∀ k, k < 26 → eI e2 12 k = 0 := by decide +kernel
theorem u_13 : ∀ k, k < 26 → eI e2 13 k = -1 := by decide +kernel
theorem u_141 : ∀ k, k < 26 → eI e2 141 k = 0 := by decide +kernel

/-! closed facts of numbers -/
theorem cqb_0_0_0 : B 0 0 (0 : Int32) := ⟨by decide +kernel, by decide +kernel⟩
theorem cqb_100000_100000_100000 : B 100000 100000 (100000 : Int32) := ⟨by decide +kernel, by decide +kernel⟩
theorem cqb_1000_1000_1000 : B 1000 1000 (1000 : Int32) := ⟨by decide +kernel, by decide +kernel⟩
theorem cqb_10_10_10 : B 10 10 (10 : Int32) := ⟨by decide +kernel, by decide +kernel⟩
theorem cqb_116130_116130_116130 : B 116130 116130 (116130 : Int32) := ⟨by decide +kernel, by decide +kernel⟩
theorem cqb_11_11_11 : B 11 11 (11 : Int32) := ⟨by decide +kernel, by decide +kernel⟩
theorem cqb_12288_12288_12288 : B 12288 12288 (12288 : Int32) := ⟨by decide +kernel, by decide +kernel⟩
theorem cqb_128_128_128 : B 128 128 (128 : Int32) := ⟨by decide +kernel, by decide +kernel⟩
theorem cqb_12_12_12 : B 12 12 (12 : Int32) := ⟨by decide +kernel, by decide +kernel⟩
theorem cqb_14_14_14 : B 14 14 (14 : Int32) := ⟨by decide +kernel, by decide +kernel⟩
theorem cqb_1567_1567_1567 : B 1567 1567 (1567 : Int32) := ⟨by decide +kernel, by decide +kernel⟩
theorem cqb_15_15_15 : B 15 15 (15 : Int32) := ⟨by decide +kernel, by decide +kernel⟩
theorem cqb_16_16_16 : B 16 16 (16 : Int32) := ⟨by decide +kernel, by decide +kernel⟩
theorem cqb_17_17_17 : B 17 17 (17 : Int32) := ⟨by decide +kernel, by decide +kernel⟩
theorem cqb_192_192_192 : B 192 192 (192 : Int32) := ⟨by decide +kernel, by decide +kernel⟩
theorem cqb_19595_19595_19595 : B 19595 19595 (19595 : Int32) := ⟨by decide +kernel, by decide +kernel⟩
theorem cqb_196_196_196 : B 196 196 (196 : Int32) := ⟨by decide +kernel, by decide +kernel⟩
theorem cqb_1_1_1 : B 1 1 (1 : Int32) := ⟨by decide +kernel, by decide +kernel⟩
theorem cqb_2047_2047_2047 : B 2047 2047 (2047 : Int32) := ⟨by decide +kernel, by decide +kernel⟩
theorem cqb_20_20_20 : B 20 20 (20 : Int32) := ⟨by decide +kernel, by decide +kernel⟩
theorem cqb_216_216_216 : B 216 216 (216 : Int32) := ⟨by decide +kernel, by decide +kernel⟩
theorem cqb_21709_21709_21709 : B 21709 21709 (21709 : Int32) := ⟨by decide +kernel, by decide +kernel⟩
theorem cqb_217_217_217 : B 217 217 (217 : Int32) := ⟨by decide +kernel, by decide +kernel⟩
theorem cqb_218_218_218 : B 218 218 (218 : Int32) := ⟨by decide +kernel, by decide +kernel⟩
theorem cqb_219_219_219 : B 219 219 (219 : Int32) := ⟨by decide +kernel, by decide +kernel⟩
theorem cqb_221_221_221 : B 221 221 (221 : Int32) := ⟨by decide +kernel, by decide +kernel⟩
theorem cqb_224_224_224 : B 224 224 (224 : Int32) := ⟨by decide +kernel, by decide +kernel⟩
theorem cqb_22554_22554_22554 : B 22554 22554 (22554 : Int32) := ⟨by decide +kernel, by decide +kernel⟩
theorem cqb_2276_2276_2276 : B 2276 2276 (2276 : Int32) := ⟨by decide +kernel, by decide +kernel⟩
theorem cqb_239_239_239 : B 239 239 (239 : Int32) := ⟨by decide +kernel, by decide +kernel⟩
theorem cqb_240_240_240 : B 240 240 (240 : Int32) := ⟨by decide +kernel, by decide +kernel⟩
theorem cqb_254_254_254 : B 254 254 (254 : Int32) := ⟨by decide +kernel, by decide +kernel⟩
theorem cqb_255_255_255 : B 255 255 (255 : Int32) := ⟨by decide +kernel, by decide +kernel⟩
theorem cqb_256_256_256 : B 256 256 (256 : Int32) := ⟨by decide +kernel, by decide +kernel⟩
theorem cqb_257_257_257 : B 257 257 (257 : Int32) := ⟨by decide +kernel, by decide +kernel⟩
theorem cqb_27439_27439_27439 : B 27439 27439 (27439 : Int32) := ⟨by decide +kernel, by decide +kernel⟩
theorem cqb_2896_2896_2896 : B 2896 2896 (2896 : Int32) := ⟨by decide +kernel, by decide +kernel⟩
theorem cqb_2_2_2 : B 2 2 (2 : Int32) := ⟨by decide +kernel, by decide +kernel⟩
theorem cqb_32768_32768_32768 : B 32768 32768 (32768 : Int32) := ⟨by decide +kernel, by decide +kernel⟩
theorem cqb_32_32_32 : B 32 32 (32 : Int32) := ⟨by decide +kernel, by decide +kernel⟩
theorem cqb_3406_3406_3406 : B 3406 3406 (3406 : Int32) := ⟨by decide +kernel, by decide +kernel⟩
theorem cqb_3784_3784_3784 : B 3784 3784 (3784 : Int32) := ⟨by decide +kernel, by decide +kernel⟩
theorem cqb_38470_38470_38470 : B 38470 38470 (38470 : Int32) := ⟨by decide +kernel, by decide +kernel⟩
theorem cqb_3_3_3 : B 3 3 (3 : Int32) := ⟨by decide +kernel, by decide +kernel⟩
theorem cqb_4017_4017_4017 : B 4017 4017 (4017 : Int32) := ⟨by decide +kernel, by decide +kernel⟩
theorem cqb_4096_4096_4096 : B 4096 4096 (4096 : Int32) := ⟨by decide +kernel, by decide +kernel⟩
theorem cqb_46802_46802_46802 : B 46802 46802 (46802 : Int32) := ⟨by decide +kernel, by decide +kernel⟩
theorem cqb_4_4_4 : B 4 4 (4 : Int32) := ⟨by decide +kernel, by decide +kernel⟩
theorem cqb_514_514_514 : B 514 514 (514 : Int32) := ⟨by decide +kernel, by decide +kernel⟩
theorem cqb_5329_5329_5329 : B 5329 5329 (5329 : Int32) := ⟨by decide +kernel, by decide +kernel⟩
theorem cqb_5_5_5 : B 5 5 (5 : Int32) := ⟨by decide +kernel, by decide +kernel⟩
theorem cqb_63_63_63 : B 63 63 (63 : Int32) := ⟨by decide +kernel, by decide +kernel⟩
theorem cqb_64_64_64 : B 64 64 (64 : Int32) := ⟨by decide +kernel, by decide +kernel⟩
theorem cqb_65535_65535_65535 : B 65535 65535 (65535 : Int32) := ⟨by decide +kernel, by decide +kernel⟩
theorem cqb_65536_65536_65536 : B 65536 65536 (65536 : Int32) := ⟨by decide +kernel, by decide +kernel⟩
theorem cqb_65_65_65 : B 65 65 (65 : Int32) := ⟨by decide +kernel, by decide +kernel⟩
theorem cqb_6_6_6 : B 6 6 (6 : Int32) := ⟨by decide +kernel, by decide +kernel⟩
theorem cqb_7471_7471_7471 : B 7471 7471 (7471 : Int32) := ⟨by decide +kernel, by decide +kernel⟩
theorem cqb_799_799_799 : B 799 799 (799 : Int32) := ⟨by decide +kernel, by decide +kernel⟩
theorem cqb_7_7_7 : B 7 7 (7 : Int32) := ⟨by decide +kernel, by decide +kernel⟩
theorem cqb_8_8_8 : B 8 8 (8 : Int32) := ⟨by decide +kernel, by decide +kernel⟩
theorem cqb_91881_91881_91881 : B 91881 91881 (91881 : Int32) := ⟨by decide +kernel, by decide +kernel⟩
theorem cqb_m1000_m1000_m1000 : B (-1000) (-1000) (-1000 : Int32) := ⟨by decide +kernel, by decide +kernel⟩
theorem cqb_m11059_m11059_m11059 : B (-11059) (-11059) (-11059 : Int32) := ⟨by decide +kernel, by decide +kernel⟩
theorem cqb_m1567_m1567_m1567 : B (-1567) (-1567) (-1567 : Int32) := ⟨by decide +kernel, by decide +kernel⟩
theorem cqb_m16_m16_m16 : B (-16) (-16) (-16 : Int32) := ⟨by decide +kernel, by decide +kernel⟩
theorem cqb_m1_m1_m1 : B (-1) (-1) (-1 : Int32) := ⟨by decide +kernel, by decide +kernel⟩
theorem cqb_m2047_m2047_m2047 : B (-2047) (-2047) (-2047 : Int32) := ⟨by decide +kernel, by decide +kernel⟩
theorem cqb_m2276_m2276_m2276 : B (-2276) (-2276) (-2276 : Int32) := ⟨by decide +kernel, by decide +kernel⟩
theorem cqb_m2896_m2896_m2896 : B (-2896) (-2896) (-2896 : Int32) := ⟨by decide +kernel, by decide +kernel⟩
theorem cqb_m3406_m3406_m3406 : B (-3406) (-3406) (-3406 : Int32) := ⟨by decide +kernel, by decide +kernel⟩
theorem cqb_m3784_m3784_m3784 : B (-3784) (-3784) (-3784 : Int32) := ⟨by decide +kernel, by decide +kernel⟩
theorem cqb_m4017_m4017_m4017 : B (-4017) (-4017) (-4017 : Int32) := ⟨by decide +kernel, by decide +kernel⟩
theorem cqb_m4096_m4096_m4096 : B (-4096) (-4096) (-4096 : Int32) := ⟨by decide +kernel, by decide +kernel⟩
theorem cqb_m799_m799_m799 : B (-799) (-799) (-799 : Int32) := ⟨by decide +kernel, by decide +kernel⟩
theorem cqn_0 : (0 : Int32).toInt = 0 := by decide +kernel
theorem cqn_1 : (1 : Int32).toInt = 1 := by decide +kernel
theorem cqn_100000 : (100000 : Int32).toInt = 100000 := by decide +kernel
theorem cqn_11 : (11 : Int32).toInt = 11 := by decide +kernel
theorem cqn_128 : (128 : Int32).toInt = 128 := by decide +kernel
theorem cqn_14 : (14 : Int32).toInt = 14 := by decide +kernel
theorem cqn_16 : (16 : Int32).toInt = 16 := by decide +kernel
theorem cqn_17 : (17 : Int32).toInt = 17 := by decide +kernel
theorem cqn_192 : (192 : Int32).toInt = 192 := by decide +kernel
theorem cqn_196 : (196 : Int32).toInt = 196 := by decide +kernel
theorem cqn_2 : (2 : Int32).toInt = 2 := by decide +kernel
theorem cqn_20 : (20 : Int32).toInt = 20 := by decide +kernel
theorem cqn_2047 : (2047 : Int32).toInt = 2047 := by decide +kernel
theorem cqn_216 : (216 : Int32).toInt = 216 := by decide +kernel
theorem cqn_217 : (217 : Int32).toInt = 217 := by decide +kernel
theorem cqn_21709 : (21709 : Int32).toInt = 21709 := by decide +kernel
theorem cqn_218 : (218 : Int32).toInt = 218 := by decide +kernel
theorem cqn_219 : (219 : Int32).toInt = 219 := by decide +kernel
theorem cqn_221 : (221 : Int32).toInt = 221 := by decide +kernel
theorem cqn_240 : (240 : Int32).toInt = 240 := by decide +kernel
theorem cqn_254 : (254 : Int32).toInt = 254 := by decide +kernel
theorem cqn_255 : (255 : Int32).toInt = 255 := by decide +kernel
theorem cqn_256 : (256 : Int32).toInt = 256 := by decide +kernel
theorem cqn_27439 : (27439 : Int32).toInt = 27439 := by decide +kernel
theorem cqn_3 : (3 : Int32).toInt = 3 := by decide +kernel
theorem cqn_32768 : (32768 : Int32).toInt = 32768 := by decide +kernel
theorem cqn_4 : (4 : Int32).toInt = 4 := by decide +kernel
theorem cqn_4096 : (4096 : Int32).toInt = 4096 := by decide +kernel
theorem cqn_5 : (5 : Int32).toInt = 5 := by decide +kernel
theorem cqn_5329 : (5329 : Int32).toInt = 5329 := by decide +kernel
theorem cqn_6 : (6 : Int32).toInt = 6 := by decide +kernel
theorem cqn_63 : (63 : Int32).toInt = 63 := by decide +kernel
theorem cqn_64 : (64 : Int32).toInt = 64 := by decide +kernel
theorem cqn_7 : (7 : Int32).toInt = 7 := by decide +kernel
theorem cqn_8 : (8 : Int32).toInt = 8 := by decide +kernel
theorem cqn_m1 : (-1 : Int32).toInt = -1 := by decide +kernel
theorem cqn_m1000 : (-1000 : Int32).toInt = -1000 := by decide +kernel
theorem cqn_m11059 : (-11059 : Int32).toInt = -11059 := by decide +kernel
theorem cqn_m16 : (-16 : Int32).toInt = -16 := by decide +kernel
theorem cqn_m2047 : (-2047 : Int32).toInt = -2047 := by decide +kernel

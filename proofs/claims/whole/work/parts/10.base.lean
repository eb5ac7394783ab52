/-! the cells behind both constructors; functional contracts -/
def SH : List ax_Cell := [(11, 17, [some 1, some 37, some 39, some 58, some 63, some 65, some 71, some 75, some 78, some 82, some 88, some 92, none, none, some 273, some 309, some 311]), (9, 7, [none, none, none, none, some 2, some 3, some 4]), (13, 6, []), (13, 6, []), (14, 8, [some 5, some 9, some 13, some 17, some 21, some 25, some 29, some 33]), (7, 8, [none, none, none, none, none, some 6, some 7, some 8]), (13, 24, []), (13, 144, []), (13, 144, []), (7, 8, [none, none, none, none, none, some 10, some 11, some 12]), (13, 24, []), (13, 144, []), (13, 144, []), (7, 8, [none, none, none, none, none, some 14, some 15, some 16]), (13, 24, []), (13, 144, []), (13, 144, []), (7, 8, [none, none, none, none, none, some 18, some 19, some 20]), (13, 24, []), (13, 144, []), (13, 144, []), (7, 8, [none, none, none, none, none, some 22, some 23, some 24]), (13, 24, []), (13, 144, []), (13, 144, []), (7, 8, [none, none, none, none, none, some 26, some 27, some 28]), (13, 24, []), (13, 144, []), (13, 144, []), (7, 8, [none, none, none, none, none, some 30, some 31, some 32]), (13, 24, []), (13, 144, []), (13, 144, []), (7, 8, [none, none, none, none, none, some 34, some 35, some 36]), (13, 24, []), (13, 144, []), (13, 144, []), (0, 1, [some 38]), (13, 1200, []), (4, 9, [some 40, some 41, some 47, some 48, some 49, some 50, none, some 51, none]), (16, 3, [some 52, some 54, some 56]), (1, 7, [none, some 42, some 43, some 44, none, some 45, some 46]), (13, 150, []), (13, 150, []), (13, 150, []), (13, 4, []), (13, 4, []), (13, 28, []), (13, 4, []), (13, 6, []), (13, 6, []), (13, 7, []), (3, 3, [none, none, some 53]), (13, 400, []), (3, 3, [none, none, some 55]), (13, 400, []), (3, 3, [none, none, some 57]), (13, 400, []), (8, 9, [some 59, none, none, none, some 60, some 61, some 62, none, none]), (13, 400, []), (13, 401, []), (13, 401, []), (13, 401, []), (3, 3, [none, none, some 64]), (13, 400, []), (1, 7, [none, some 66, some 67, some 68, none, some 69, some 70]), (13, 150, []), (13, 150, []), (13, 150, []), (13, 4, []), (13, 4, []), (2, 7, [some 39, none, none, none, some 72, some 73, some 74]), (13, 8, []), (13, 48, []), (13, 1000, []), (6, 5, [some 71, some 76, some 77, none, none]), (13, 24, []), (13, 24, []), (7, 8, [none, none, none, none, none, some 79, some 80, some 81]), (13, 24, []), (13, 144, []), (13, 144, []), (10, 6, [none, some 83, some 84, some 85, some 86, some 87]), (13, 7, []), (13, 8, []), (13, 8, []), (13, 128, []), (13, 128, []), (5, 5, [some 89, some 90, some 91, none, none]), (13, 3280, []), (13, 3280, []), (13, 7, []), (15, 5, []), (9, 7, [none, none, none, none, some 94, some 95, some 96]), (13, 6, []), (13, 6, []), (14, 8, [some 97, some 101, some 105, some 109, some 113, some 117, some 121, some 125]), (7, 8, [none, none, none, none, none, some 98, some 99, some 100]), (13, 24, []), (13, 144, []), (13, 144, []), (7, 8, [none, none, none, none, none, some 102, some 103, some 104]), (13, 24, []), (13, 144, []), (13, 144, []), (7, 8, [none, none, none, none, none, some 106, some 107, some 108]), (13, 24, []), (13, 144, []), (13, 144, []), (7, 8, [none, none, none, none, none, some 110, some 111, some 112]), (13, 24, []), (13, 144, []), (13, 144, []), (7, 8, [none, none, none, none, none, some 114, some 115, some 116]), (13, 24, []), (13, 144, []), (13, 144, []), (7, 8, [none, none, none, none, none, some 118, some 119, some 120]), (13, 24, []), (13, 144, []), (13, 144, []), (7, 8, [none, none, none, none, none, some 122, some 123, some 124]), (13, 24, []), (13, 144, []), (13, 144, []), (7, 8, [none, none, none, none, none, some 126, some 127, some 128]), (13, 24, []), (13, 144, []), (13, 144, []), (9, 7, [none, none, none, none, some 130, some 131, some 132]), (13, 6, []), (13, 6, []), (14, 8, [some 133, some 137, some 141, some 145, some 149, some 153, some 157, some 161]), (7, 8, [none, none, none, none, none, some 134, some 135, some 136]), (13, 24, []), (13, 144, []), (13, 144, []), (7, 8, [none, none, none, none, none, some 138, some 139, some 140]), (13, 24, []), (13, 144, []), (13, 144, []), (7, 8, [none, none, none, none, none, some 142, some 143, some 144]), (13, 24, []), (13, 144, []), (13, 144, []), (7, 8, [none, none, none, none, none, some 146, some 147, some 148]), (13, 24, []), (13, 144, []), (13, 144, []), (7, 8, [none, none, none, none, none, some 150, some 151, some 152]), (13, 24, []), (13, 144, []), (13, 144, []), (7, 8, [none, none, none, none, none, some 154, some 155, some 156]), (13, 24, []), (13, 144, []), (13, 144, []), (7, 8, [none, none, none, none, none, some 158, some 159, some 160]), (13, 24, []), (13, 144, []), (13, 144, []), (7, 8, [none, none, none, none, none, some 162, some 163, some 164]), (13, 24, []), (13, 144, []), (13, 144, []), (9, 7, [none, none, none, none, some 166, some 167, some 168]), (13, 6, []), (13, 6, []), (14, 8, [some 169, some 173, some 177, some 181, some 185, some 189, some 193, some 197]), (7, 8, [none, none, none, none, none, some 170, some 171, some 172]), (13, 24, []), (13, 144, []), (13, 144, []), (7, 8, [none, none, none, none, none, some 174, some 175, some 176]), (13, 24, []), (13, 144, []), (13, 144, []), (7, 8, [none, none, none, none, none, some 178, some 179, some 180]), (13, 24, []), (13, 144, []), (13, 144, []), (7, 8, [none, none, none, none, none, some 182, some 183, some 184]), (13, 24, []), (13, 144, []), (13, 144, []), (7, 8, [none, none, none, none, none, some 186, some 187, some 188]), (13, 24, []), (13, 144, []), (13, 144, []), (7, 8, [none, none, none, none, none, some 190, some 191, some 192]), (13, 24, []), (13, 144, []), (13, 144, []), (7, 8, [none, none, none, none, none, some 194, some 195, some 196]), (13, 24, []), (13, 144, []), (13, 144, []), (7, 8, [none, none, none, none, none, some 198, some 199, some 200]), (13, 24, []), (13, 144, []), (13, 144, []), (9, 7, [none, none, none, none, some 202, some 203, some 204]), (13, 6, []), (13, 6, []), (14, 8, [some 205, some 209, some 213, some 217, some 221, some 225, some 229, some 233]), (7, 8, [none, none, none, none, none, some 206, some 207, some 208]), (13, 24, []), (13, 144, []), (13, 144, []), (7, 8, [none, none, none, none, none, some 210, some 211, some 212]), (13, 24, []), (13, 144, []), (13, 144, []), (7, 8, [none, none, none, none, none, some 214, some 215, some 216]), (13, 24, []), (13, 144, []), (13, 144, []), (7, 8, [none, none, none, none, none, some 218, some 219, some 220]), (13, 24, []), (13, 144, []), (13, 144, []), (7, 8, [none, none, none, none, none, some 222, some 223, some 224]), (13, 24, []), (13, 144, []), (13, 144, []), (7, 8, [none, none, none, none, none, some 226, some 227, some 228]), (13, 24, []), (13, 144, []), (13, 144, []), (7, 8, [none, none, none, none, none, some 230, some 231, some 232]), (13, 24, []), (13, 144, []), (13, 144, []), (7, 8, [none, none, none, none, none, some 234, some 235, some 236]), (13, 24, []), (13, 144, []), (13, 144, []), (9, 7, [none, none, none, none, some 238, some 239, some 240]), (13, 6, []), (13, 6, []), (14, 8, [some 241, some 245, some 249, some 253, some 257, some 261, some 265, some 269]), (7, 8, [none, none, none, none, none, some 242, some 243, some 244]), (13, 24, []), (13, 144, []), (13, 144, []), (7, 8, [none, none, none, none, none, some 246, some 247, some 248]), (13, 24, []), (13, 144, []), (13, 144, []), (7, 8, [none, none, none, none, none, some 250, some 251, some 252]), (13, 24, []), (13, 144, []), (13, 144, []), (7, 8, [none, none, none, none, none, some 254, some 255, some 256]), (13, 24, []), (13, 144, []), (13, 144, []), (7, 8, [none, none, none, none, none, some 258, some 259, some 260]), (13, 24, []), (13, 144, []), (13, 144, []), (7, 8, [none, none, none, none, none, some 262, some 263, some 264]), (13, 24, []), (13, 144, []), (13, 144, []), (7, 8, [none, none, none, none, none, some 266, some 267, some 268]), (13, 24, []), (13, 144, []), (13, 144, []), (7, 8, [none, none, none, none, none, some 270, some 271, some 272]), (13, 24, []), (13, 144, []), (13, 144, []), (9, 7, [none, none, none, none, some 274, some 275, some 276]), (13, 6, []), (13, 6, []), (14, 8, [some 277, some 281, some 285, some 289, some 293, some 297, some 301, some 305]), (7, 8, [none, none, none, none, none, some 278, some 279, some 280]), (13, 24, []), (13, 144, []), (13, 144, []), (7, 8, [none, none, none, none, none, some 282, some 283, some 284]), (13, 24, []), (13, 144, []), (13, 144, []), (7, 8, [none, none, none, none, none, some 286, some 287, some 288]), (13, 24, []), (13, 144, []), (13, 144, []), (7, 8, [none, none, none, none, none, some 290, some 291, some 292]), (13, 24, []), (13, 144, []), (13, 144, []), (7, 8, [none, none, none, none, none, some 294, some 295, some 296]), (13, 24, []), (13, 144, []), (13, 144, []), (7, 8, [none, none, none, none, none, some 298, some 299, some 300]), (13, 24, []), (13, 144, []), (13, 144, []), (7, 8, [none, none, none, none, none, some 302, some 303, some 304]), (13, 24, []), (13, 144, []), (13, 144, []), (7, 8, [none, none, none, none, none, some 306, some 307, some 308]), (13, 24, []), (13, 144, []), (13, 144, []), (0, 1, [some 310]), (13, 1200, []), (4, 9, [some 312, some 313, some 319, some 320, some 321, some 322, none, some 323, none]), (16, 3, [some 324, some 326, some 328]), (1, 7, [none, some 314, some 315, some 316, none, some 317, some 318]), (13, 150, []), (13, 150, []), (13, 150, []), (13, 4, []), (13, 4, []), (13, 28, []), (13, 4, []), (13, 6, []), (13, 6, []), (13, 7, []), (3, 3, [none, none, some 325]), (13, 400, []), (3, 3, [none, none, some 327]), (13, 400, []), (3, 3, [none, none, some 329]), (13, 400, []), (12, 45, [some 331, some 332, some 333, some 334, none, none, some 335, some 336, some 337, some 338, some 339, some 340, some 341, none, none, none, none, none, none, none, none, none, none, none, none, none, none, none, some 342, some 343, none, none, none, none, some 344, none, some 345, some 346, some 347, none, some 348, some 349, some 350, none, none]), (13, 6894, []), (13, 6894, []), (13, 12820, []), (13, 2564, []), (13, 48, []), (13, 820, []), (13, 450, []), (13, 7, []), (13, 400, []), (13, 420, []), (13, 14, []), (13, 24, []), (13, 24, []), (13, 600, []), (13, 8, []), (13, 7, []), (13, 7, []), (13, 17496, []), (13, 17496, []), (13, 10, [])]
theorem sh_0 : ax_sh SH 0 = some (11, 17, [some 1, some 37, some 39, some 58, some 63, some 65, some 71, some 75, some 78, some 82, some 88, some 92, none, none, some 273, some 309, some 311]) := by decide +kernel
theorem sh_1 : ax_sh SH 1 = some (9, 7, [none, none, none, none, some 2, some 3, some 4]) := by decide +kernel
theorem sh_2 : ax_sh SH 2 = some (13, 6, []) := by decide +kernel
theorem sh_3 : ax_sh SH 3 = some (13, 6, []) := by decide +kernel
theorem sh_4 : ax_sh SH 4 = some (14, 8, [some 5, some 9, some 13, some 17, some 21, some 25, some 29, some 33]) := by decide +kernel
theorem sh_5 : ax_sh SH 5 = some (7, 8, [none, none, none, none, none, some 6, some 7, some 8]) := by decide +kernel
theorem sh_6 : ax_sh SH 6 = some (13, 24, []) := by decide +kernel
theorem sh_7 : ax_sh SH 7 = some (13, 144, []) := by decide +kernel
theorem sh_8 : ax_sh SH 8 = some (13, 144, []) := by decide +kernel
theorem sh_9 : ax_sh SH 9 = some (7, 8, [none, none, none, none, none, some 10, some 11, some 12]) := by decide +kernel
theorem sh_10 : ax_sh SH 10 = some (13, 24, []) := by decide +kernel
theorem sh_11 : ax_sh SH 11 = some (13, 144, []) := by decide +kernel
theorem sh_12 : ax_sh SH 12 = some (13, 144, []) := by decide +kernel
theorem sh_13 : ax_sh SH 13 = some (7, 8, [none, none, none, none, none, some 14, some 15, some 16]) := by decide +kernel
theorem sh_14 : ax_sh SH 14 = some (13, 24, []) := by decide +kernel
theorem sh_15 : ax_sh SH 15 = some (13, 144, []) := by decide +kernel
theorem sh_16 : ax_sh SH 16 = some (13, 144, []) := by decide +kernel
theorem sh_17 : ax_sh SH 17 = some (7, 8, [none, none, none, none, none, some 18, some 19, some 20]) := by decide +kernel
theorem sh_18 : ax_sh SH 18 = some (13, 24, []) := by decide +kernel
theorem sh_19 : ax_sh SH 19 = some (13, 144, []) := by decide +kernel
theorem sh_20 : ax_sh SH 20 = some (13, 144, []) := by decide +kernel
theorem sh_21 : ax_sh SH 21 = some (7, 8, [none, none, none, none, none, some 22, some 23, some 24]) := by decide +kernel
theorem sh_22 : ax_sh SH 22 = some (13, 24, []) := by decide +kernel
theorem sh_23 : ax_sh SH 23 = some (13, 144, []) := by decide +kernel
theorem sh_24 : ax_sh SH 24 = some (13, 144, []) := by decide +kernel
theorem sh_25 : ax_sh SH 25 = some (7, 8, [none, none, none, none, none, some 26, some 27, some 28]) := by decide +kernel
theorem sh_26 : ax_sh SH 26 = some (13, 24, []) := by decide +kernel
theorem sh_27 : ax_sh SH 27 = some (13, 144, []) := by decide +kernel
theorem sh_28 : ax_sh SH 28 = some (13, 144, []) := by decide +kernel
theorem sh_29 : ax_sh SH 29 = some (7, 8, [none, none, none, none, none, some 30, some 31, some 32]) := by decide +kernel
theorem sh_30 : ax_sh SH 30 = some (13, 24, []) := by decide +kernel
theorem sh_31 : ax_sh SH 31 = some (13, 144, []) := by decide +kernel
theorem sh_32 : ax_sh SH 32 = some (13, 144, []) := by decide +kernel
theorem sh_33 : ax_sh SH 33 = some (7, 8, [none, none, none, none, none, some 34, some 35, some 36]) := by decide +kernel
theorem sh_34 : ax_sh SH 34 = some (13, 24, []) := by decide +kernel
theorem sh_35 : ax_sh SH 35 = some (13, 144, []) := by decide +kernel
theorem sh_36 : ax_sh SH 36 = some (13, 144, []) := by decide +kernel
theorem sh_37 : ax_sh SH 37 = some (0, 1, [some 38]) := by decide +kernel
theorem sh_38 : ax_sh SH 38 = some (13, 1200, []) := by decide +kernel
theorem sh_39 : ax_sh SH 39 = some (4, 9, [some 40, some 41, some 47, some 48, some 49, some 50, none, some 51, none]) := by decide +kernel
theorem sh_40 : ax_sh SH 40 = some (16, 3, [some 52, some 54, some 56]) := by decide +kernel
theorem sh_41 : ax_sh SH 41 = some (1, 7, [none, some 42, some 43, some 44, none, some 45, some 46]) := by decide +kernel
theorem sh_42 : ax_sh SH 42 = some (13, 150, []) := by decide +kernel
theorem sh_43 : ax_sh SH 43 = some (13, 150, []) := by decide +kernel
theorem sh_44 : ax_sh SH 44 = some (13, 150, []) := by decide +kernel
theorem sh_45 : ax_sh SH 45 = some (13, 4, []) := by decide +kernel
theorem sh_46 : ax_sh SH 46 = some (13, 4, []) := by decide +kernel
theorem sh_47 : ax_sh SH 47 = some (13, 28, []) := by decide +kernel
theorem sh_48 : ax_sh SH 48 = some (13, 4, []) := by decide +kernel
theorem sh_49 : ax_sh SH 49 = some (13, 6, []) := by decide +kernel
theorem sh_50 : ax_sh SH 50 = some (13, 6, []) := by decide +kernel
theorem sh_51 : ax_sh SH 51 = some (13, 7, []) := by decide +kernel
theorem sh_52 : ax_sh SH 52 = some (3, 3, [none, none, some 53]) := by decide +kernel
theorem sh_53 : ax_sh SH 53 = some (13, 400, []) := by decide +kernel
theorem sh_54 : ax_sh SH 54 = some (3, 3, [none, none, some 55]) := by decide +kernel
theorem sh_55 : ax_sh SH 55 = some (13, 400, []) := by decide +kernel
theorem sh_56 : ax_sh SH 56 = some (3, 3, [none, none, some 57]) := by decide +kernel
theorem sh_57 : ax_sh SH 57 = some (13, 400, []) := by decide +kernel
theorem sh_58 : ax_sh SH 58 = some (8, 9, [some 59, none, none, none, some 60, some 61, some 62, none, none]) := by decide +kernel
theorem sh_59 : ax_sh SH 59 = some (13, 400, []) := by decide +kernel
theorem sh_60 : ax_sh SH 60 = some (13, 401, []) := by decide +kernel
theorem sh_61 : ax_sh SH 61 = some (13, 401, []) := by decide +kernel
theorem sh_62 : ax_sh SH 62 = some (13, 401, []) := by decide +kernel
theorem sh_63 : ax_sh SH 63 = some (3, 3, [none, none, some 64]) := by decide +kernel
theorem sh_64 : ax_sh SH 64 = some (13, 400, []) := by decide +kernel
theorem sh_65 : ax_sh SH 65 = some (1, 7, [none, some 66, some 67, some 68, none, some 69, some 70]) := by decide +kernel
theorem sh_66 : ax_sh SH 66 = some (13, 150, []) := by decide +kernel
theorem sh_67 : ax_sh SH 67 = some (13, 150, []) := by decide +kernel
theorem sh_68 : ax_sh SH 68 = some (13, 150, []) := by decide +kernel
theorem sh_69 : ax_sh SH 69 = some (13, 4, []) := by decide +kernel
theorem sh_70 : ax_sh SH 70 = some (13, 4, []) := by decide +kernel
theorem sh_71 : ax_sh SH 71 = some (2, 7, [some 39, none, none, none, some 72, some 73, some 74]) := by decide +kernel
theorem sh_72 : ax_sh SH 72 = some (13, 8, []) := by decide +kernel
theorem sh_73 : ax_sh SH 73 = some (13, 48, []) := by decide +kernel
theorem sh_74 : ax_sh SH 74 = some (13, 1000, []) := by decide +kernel
theorem sh_75 : ax_sh SH 75 = some (6, 5, [some 71, some 76, some 77, none, none]) := by decide +kernel
theorem sh_76 : ax_sh SH 76 = some (13, 24, []) := by decide +kernel
theorem sh_77 : ax_sh SH 77 = some (13, 24, []) := by decide +kernel
theorem sh_78 : ax_sh SH 78 = some (7, 8, [none, none, none, none, none, some 79, some 80, some 81]) := by decide +kernel
theorem sh_79 : ax_sh SH 79 = some (13, 24, []) := by decide +kernel
theorem sh_80 : ax_sh SH 80 = some (13, 144, []) := by decide +kernel
theorem sh_81 : ax_sh SH 81 = some (13, 144, []) := by decide +kernel
theorem sh_82 : ax_sh SH 82 = some (10, 6, [none, some 83, some 84, some 85, some 86, some 87]) := by decide +kernel
theorem sh_83 : ax_sh SH 83 = some (13, 7, []) := by decide +kernel
theorem sh_84 : ax_sh SH 84 = some (13, 8, []) := by decide +kernel
theorem sh_85 : ax_sh SH 85 = some (13, 8, []) := by decide +kernel
theorem sh_86 : ax_sh SH 86 = some (13, 128, []) := by decide +kernel
theorem sh_87 : ax_sh SH 87 = some (13, 128, []) := by decide +kernel
theorem sh_88 : ax_sh SH 88 = some (5, 5, [some 89, some 90, some 91, none, none]) := by decide +kernel
theorem sh_89 : ax_sh SH 89 = some (13, 3280, []) := by decide +kernel
theorem sh_90 : ax_sh SH 90 = some (13, 3280, []) := by decide +kernel
theorem sh_91 : ax_sh SH 91 = some (13, 7, []) := by decide +kernel
theorem sh_92 : ax_sh SH 92 = some (15, 5, []) := by decide +kernel
theorem sh_93 : ax_sh SH 93 = some (9, 7, [none, none, none, none, some 94, some 95, some 96]) := by decide +kernel
theorem sh_94 : ax_sh SH 94 = some (13, 6, []) := by decide +kernel
theorem sh_95 : ax_sh SH 95 = some (13, 6, []) := by decide +kernel
theorem sh_96 : ax_sh SH 96 = some (14, 8, [some 97, some 101, some 105, some 109, some 113, some 117, some 121, some 125]) := by decide +kernel
theorem sh_97 : ax_sh SH 97 = some (7, 8, [none, none, none, none, none, some 98, some 99, some 100]) := by decide +kernel
theorem sh_98 : ax_sh SH 98 = some (13, 24, []) := by decide +kernel
theorem sh_99 : ax_sh SH 99 = some (13, 144, []) := by decide +kernel
theorem sh_100 : ax_sh SH 100 = some (13, 144, []) := by decide +kernel
theorem sh_101 : ax_sh SH 101 = some (7, 8, [none, none, none, none, none, some 102, some 103, some 104]) := by decide +kernel
theorem sh_102 : ax_sh SH 102 = some (13, 24, []) := by decide +kernel
theorem sh_103 : ax_sh SH 103 = some (13, 144, []) := by decide +kernel
theorem sh_104 : ax_sh SH 104 = some (13, 144, []) := by decide +kernel
theorem sh_105 : ax_sh SH 105 = some (7, 8, [none, none, none, none, none, some 106, some 107, some 108]) := by decide +kernel
theorem sh_106 : ax_sh SH 106 = some (13, 24, []) := by decide +kernel
theorem sh_107 : ax_sh SH 107 = some (13, 144, []) := by decide +kernel
theorem sh_108 : ax_sh SH 108 = some (13, 144, []) := by decide +kernel
theorem sh_109 : ax_sh SH 109 = some (7, 8, [none, none, none, none, none, some 110, some 111, some 112]) := by decide +kernel
theorem sh_110 : ax_sh SH 110 = some (13, 24, []) := by decide +kernel
theorem sh_111 : ax_sh SH 111 = some (13, 144, []) := by decide +kernel
theorem sh_112 : ax_sh SH 112 = some (13, 144, []) := by decide +kernel
theorem sh_113 : ax_sh SH 113 = some (7, 8, [none, none, none, none, none, some 114, some 115, some 116]) := by decide +kernel
theorem sh_114 : ax_sh SH 114 = some (13, 24, []) := by decide +kernel
theorem sh_115 : ax_sh SH 115 = some (13, 144, []) := by decide +kernel
theorem sh_116 : ax_sh SH 116 = some (13, 144, []) := by decide +kernel
theorem sh_117 : ax_sh SH 117 = some (7, 8, [none, none, none, none, none, some 118, some 119, some 120]) := by decide +kernel
theorem sh_118 : ax_sh SH 118 = some (13, 24, []) := by decide +kernel
theorem sh_119 : ax_sh SH 119 = some (13, 144, []) := by decide +kernel
theorem sh_120 : ax_sh SH 120 = some (13, 144, []) := by decide +kernel
theorem sh_121 : ax_sh SH 121 = some (7, 8, [none, none, none, none, none, some 122, some 123, some 124]) := by decide +kernel
theorem sh_122 : ax_sh SH 122 = some (13, 24, []) := by decide +kernel
theorem sh_123 : ax_sh SH 123 = some (13, 144, []) := by decide +kernel
theorem sh_124 : ax_sh SH 124 = some (13, 144, []) := by decide +kernel
theorem sh_125 : ax_sh SH 125 = some (7, 8, [none, none, none, none, none, some 126, some 127, some 128]) := by decide +kernel
theorem sh_126 : ax_sh SH 126 = some (13, 24, []) := by decide +kernel
theorem sh_127 : ax_sh SH 127 = some (13, 144, []) := by decide +kernel
theorem sh_128 : ax_sh SH 128 = some (13, 144, []) := by decide +kernel
theorem sh_129 : ax_sh SH 129 = some (9, 7, [none, none, none, none, some 130, some 131, some 132]) := by decide +kernel
theorem sh_130 : ax_sh SH 130 = some (13, 6, []) := by decide +kernel
theorem sh_131 : ax_sh SH 131 = some (13, 6, []) := by decide +kernel
theorem sh_132 : ax_sh SH 132 = some (14, 8, [some 133, some 137, some 141, some 145, some 149, some 153, some 157, some 161]) := by decide +kernel
theorem sh_133 : ax_sh SH 133 = some (7, 8, [none, none, none, none, none, some 134, some 135, some 136]) := by decide +kernel
theorem sh_134 : ax_sh SH 134 = some (13, 24, []) := by decide +kernel
theorem sh_135 : ax_sh SH 135 = some (13, 144, []) := by decide +kernel
theorem sh_136 : ax_sh SH 136 = some (13, 144, []) := by decide +kernel
theorem sh_137 : ax_sh SH 137 = some (7, 8, [none, none, none, none, none, some 138, some 139, some 140]) := by decide +kernel
theorem sh_138 : ax_sh SH 138 = some (13, 24, []) := by decide +kernel
theorem sh_139 : ax_sh SH 139 = some (13, 144, []) := by decide +kernel
theorem sh_140 : ax_sh SH 140 = some (13, 144, []) := by decide +kernel
theorem sh_141 : ax_sh SH 141 = some (7, 8, [none, none, none, none, none, some 142, some 143, some 144]) := by decide +kernel
theorem sh_142 : ax_sh SH 142 = some (13, 24, []) := by decide +kernel
theorem sh_143 : ax_sh SH 143 = some (13, 144, []) := by decide +kernel
theorem sh_144 : ax_sh SH 144 = some (13, 144, []) := by decide +kernel
theorem sh_145 : ax_sh SH 145 = some (7, 8, [none, none, none, none, none, some 146, some 147, some 148]) := by decide +kernel
theorem sh_146 : ax_sh SH 146 = some (13, 24, []) := by decide +kernel
theorem sh_147 : ax_sh SH 147 = some (13, 144, []) := by decide +kernel
theorem sh_148 : ax_sh SH 148 = some (13, 144, []) := by decide +kernel
theorem sh_149 : ax_sh SH 149 = some (7, 8, [none, none, none, none, none, some 150, some 151, some 152]) := by decide +kernel
theorem sh_150 : ax_sh SH 150 = some (13, 24, []) := by decide +kernel
theorem sh_151 : ax_sh SH 151 = some (13, 144, []) := by decide +kernel
theorem sh_152 : ax_sh SH 152 = some (13, 144, []) := by decide +kernel
theorem sh_153 : ax_sh SH 153 = some (7, 8, [none, none, none, none, none, some 154, some 155, some 156]) := by decide +kernel
theorem sh_154 : ax_sh SH 154 = some (13, 24, []) := by decide +kernel
theorem sh_155 : ax_sh SH 155 = some (13, 144, []) := by decide +kernel
theorem sh_156 : ax_sh SH 156 = some (13, 144, []) := by decide +kernel
theorem sh_157 : ax_sh SH 157 = some (7, 8, [none, none, none, none, none, some 158, some 159, some 160]) := by decide +kernel
theorem sh_158 : ax_sh SH 158 = some (13, 24, []) := by decide +kernel
theorem sh_159 : ax_sh SH 159 = some (13, 144, []) := by decide +kernel
theorem sh_160 : ax_sh SH 160 = some (13, 144, []) := by decide +kernel
theorem sh_161 : ax_sh SH 161 = some (7, 8, [none, none, none, none, none, some 162, some 163, some 164]) := by decide +kernel
theorem sh_162 : ax_sh SH 162 = some (13, 24, []) := by decide +kernel
theorem sh_163 : ax_sh SH 163 = some (13, 144, []) := by decide +kernel
theorem sh_164 : ax_sh SH 164 = some (13, 144, []) := by decide +kernel
theorem sh_165 : ax_sh SH 165 = some (9, 7, [none, none, none, none, some 166, some 167, some 168]) := by decide +kernel
theorem sh_166 : ax_sh SH 166 = some (13, 6, []) := by decide +kernel
theorem sh_167 : ax_sh SH 167 = some (13, 6, []) := by decide +kernel
theorem sh_168 : ax_sh SH 168 = some (14, 8, [some 169, some 173, some 177, some 181, some 185, some 189, some 193, some 197]) := by decide +kernel
theorem sh_169 : ax_sh SH 169 = some (7, 8, [none, none, none, none, none, some 170, some 171, some 172]) := by decide +kernel
theorem sh_170 : ax_sh SH 170 = some (13, 24, []) := by decide +kernel
theorem sh_171 : ax_sh SH 171 = some (13, 144, []) := by decide +kernel
theorem sh_172 : ax_sh SH 172 = some (13, 144, []) := by decide +kernel
theorem sh_173 : ax_sh SH 173 = some (7, 8, [none, none, none, none, none, some 174, some 175, some 176]) := by decide +kernel
theorem sh_174 : ax_sh SH 174 = some (13, 24, []) := by decide +kernel
theorem sh_175 : ax_sh SH 175 = some (13, 144, []) := by decide +kernel
theorem sh_176 : ax_sh SH 176 = some (13, 144, []) := by decide +kernel
theorem sh_177 : ax_sh SH 177 = some (7, 8, [none, none, none, none, none, some 178, some 179, some 180]) := by decide +kernel
theorem sh_178 : ax_sh SH 178 = some (13, 24, []) := by decide +kernel
theorem sh_179 : ax_sh SH 179 = some (13, 144, []) := by decide +kernel
theorem sh_180 : ax_sh SH 180 = some (13, 144, []) := by decide +kernel
theorem sh_181 : ax_sh SH 181 = some (7, 8, [none, none, none, none, none, some 182, some 183, some 184]) := by decide +kernel
theorem sh_182 : ax_sh SH 182 = some (13, 24, []) := by decide +kernel
theorem sh_183 : ax_sh SH 183 = some (13, 144, []) := by decide +kernel
theorem sh_184 : ax_sh SH 184 = some (13, 144, []) := by decide +kernel
theorem sh_185 : ax_sh SH 185 = some (7, 8, [none, none, none, none, none, some 186, some 187, some 188]) := by decide +kernel
theorem sh_186 : ax_sh SH 186 = some (13, 24, []) := by decide +kernel
theorem sh_187 : ax_sh SH 187 = some (13, 144, []) := by decide +kernel
theorem sh_188 : ax_sh SH 188 = some (13, 144, []) := by decide +kernel
theorem sh_189 : ax_sh SH 189 = some (7, 8, [none, none, none, none, none, some 190, some 191, some 192]) := by decide +kernel
theorem sh_190 : ax_sh SH 190 = some (13, 24, []) := by decide +kernel
theorem sh_191 : ax_sh SH 191 = some (13, 144, []) := by decide +kernel
theorem sh_192 : ax_sh SH 192 = some (13, 144, []) := by decide +kernel
theorem sh_193 : ax_sh SH 193 = some (7, 8, [none, none, none, none, none, some 194, some 195, some 196]) := by decide +kernel
theorem sh_194 : ax_sh SH 194 = some (13, 24, []) := by decide +kernel
theorem sh_195 : ax_sh SH 195 = some (13, 144, []) := by decide +kernel
theorem sh_196 : ax_sh SH 196 = some (13, 144, []) := by decide +kernel
theorem sh_197 : ax_sh SH 197 = some (7, 8, [none, none, none, none, none, some 198, some 199, some 200]) := by decide +kernel
theorem sh_198 : ax_sh SH 198 = some (13, 24, []) := by decide +kernel
theorem sh_199 : ax_sh SH 199 = some (13, 144, []) := by decide +kernel
theorem sh_200 : ax_sh SH 200 = some (13, 144, []) := by decide +kernel
theorem sh_201 : ax_sh SH 201 = some (9, 7, [none, none, none, none, some 202, some 203, some 204]) := by decide +kernel
theorem sh_202 : ax_sh SH 202 = some (13, 6, []) := by decide +kernel
theorem sh_203 : ax_sh SH 203 = some (13, 6, []) := by decide +kernel
theorem sh_204 : ax_sh SH 204 = some (14, 8, [some 205, some 209, some 213, some 217, some 221, some 225, some 229, some 233]) := by decide +kernel
theorem sh_205 : ax_sh SH 205 = some (7, 8, [none, none, none, none, none, some 206, some 207, some 208]) := by decide +kernel
theorem sh_206 : ax_sh SH 206 = some (13, 24, []) := by decide +kernel
theorem sh_207 : ax_sh SH 207 = some (13, 144, []) := by decide +kernel
theorem sh_208 : ax_sh SH 208 = some (13, 144, []) := by decide +kernel
theorem sh_209 : ax_sh SH 209 = some (7, 8, [none, none, none, none, none, some 210, some 211, some 212]) := by decide +kernel
theorem sh_210 : ax_sh SH 210 = some (13, 24, []) := by decide +kernel
theorem sh_211 : ax_sh SH 211 = some (13, 144, []) := by decide +kernel
theorem sh_212 : ax_sh SH 212 = some (13, 144, []) := by decide +kernel
theorem sh_213 : ax_sh SH 213 = some (7, 8, [none, none, none, none, none, some 214, some 215, some 216]) := by decide +kernel
theorem sh_214 : ax_sh SH 214 = some (13, 24, []) := by decide +kernel
theorem sh_215 : ax_sh SH 215 = some (13, 144, []) := by decide +kernel
theorem sh_216 : ax_sh SH 216 = some (13, 144, []) := by decide +kernel
theorem sh_217 : ax_sh SH 217 = some (7, 8, [none, none, none, none, none, some 218, some 219, some 220]) := by decide +kernel
theorem sh_218 : ax_sh SH 218 = some (13, 24, []) := by decide +kernel
theorem sh_219 : ax_sh SH 219 = some (13, 144, []) := by decide +kernel
theorem sh_220 : ax_sh SH 220 = some (13, 144, []) := by decide +kernel
theorem sh_221 : ax_sh SH 221 = some (7, 8, [none, none, none, none, none, some 222, some 223, some 224]) := by decide +kernel
theorem sh_222 : ax_sh SH 222 = some (13, 24, []) := by decide +kernel
theorem sh_223 : ax_sh SH 223 = some (13, 144, []) := by decide +kernel
theorem sh_224 : ax_sh SH 224 = some (13, 144, []) := by decide +kernel
theorem sh_225 : ax_sh SH 225 = some (7, 8, [none, none, none, none, none, some 226, some 227, some 228]) := by decide +kernel
theorem sh_226 : ax_sh SH 226 = some (13, 24, []) := by decide +kernel
theorem sh_227 : ax_sh SH 227 = some (13, 144, []) := by decide +kernel
theorem sh_228 : ax_sh SH 228 = some (13, 144, []) := by decide +kernel
theorem sh_229 : ax_sh SH 229 = some (7, 8, [none, none, none, none, none, some 230, some 231, some 232]) := by decide +kernel
theorem sh_230 : ax_sh SH 230 = some (13, 24, []) := by decide +kernel
theorem sh_231 : ax_sh SH 231 = some (13, 144, []) := by decide +kernel
theorem sh_232 : ax_sh SH 232 = some (13, 144, []) := by decide +kernel
theorem sh_233 : ax_sh SH 233 = some (7, 8, [none, none, none, none, none, some 234, some 235, some 236]) := by decide +kernel
theorem sh_234 : ax_sh SH 234 = some (13, 24, []) := by decide +kernel
theorem sh_235 : ax_sh SH 235 = some (13, 144, []) := by decide +kernel
theorem sh_236 : ax_sh SH 236 = some (13, 144, []) := by decide +kernel
theorem sh_237 : ax_sh SH 237 = some (9, 7, [none, none, none, none, some 238, some 239, some 240]) := by decide +kernel
theorem sh_238 : ax_sh SH 238 = some (13, 6, []) := by decide +kernel
theorem sh_239 : ax_sh SH 239 = some (13, 6, []) := by decide +kernel
theorem sh_240 : ax_sh SH 240 = some (14, 8, [some 241, some 245, some 249, some 253, some 257, some 261, some 265, some 269]) := by decide +kernel
theorem sh_241 : ax_sh SH 241 = some (7, 8, [none, none, none, none, none, some 242, some 243, some 244]) := by decide +kernel
theorem sh_242 : ax_sh SH 242 = some (13, 24, []) := by decide +kernel
theorem sh_243 : ax_sh SH 243 = some (13, 144, []) := by decide +kernel
theorem sh_244 : ax_sh SH 244 = some (13, 144, []) := by decide +kernel
theorem sh_245 : ax_sh SH 245 = some (7, 8, [none, none, none, none, none, some 246, some 247, some 248]) := by decide +kernel
theorem sh_246 : ax_sh SH 246 = some (13, 24, []) := by decide +kernel
theorem sh_247 : ax_sh SH 247 = some (13, 144, []) := by decide +kernel
theorem sh_248 : ax_sh SH 248 = some (13, 144, []) := by decide +kernel
theorem sh_249 : ax_sh SH 249 = some (7, 8, [none, none, none, none, none, some 250, some 251, some 252]) := by decide +kernel
theorem sh_250 : ax_sh SH 250 = some (13, 24, []) := by decide +kernel
theorem sh_251 : ax_sh SH 251 = some (13, 144, []) := by decide +kernel
theorem sh_252 : ax_sh SH 252 = some (13, 144, []) := by decide +kernel
theorem sh_253 : ax_sh SH 253 = some (7, 8, [none, none, none, none, none, some 254, some 255, some 256]) := by decide +kernel
theorem sh_254 : ax_sh SH 254 = some (13, 24, []) := by decide +kernel
theorem sh_255 : ax_sh SH 255 = some (13, 144, []) := by decide +kernel
theorem sh_256 : ax_sh SH 256 = some (13, 144, []) := by decide +kernel
theorem sh_257 : ax_sh SH 257 = some (7, 8, [none, none, none, none, none, some 258, some 259, some 260]) := by decide +kernel
theorem sh_258 : ax_sh SH 258 = some (13, 24, []) := by decide +kernel
theorem sh_259 : ax_sh SH 259 = some (13, 144, []) := by decide +kernel
theorem sh_260 : ax_sh SH 260 = some (13, 144, []) := by decide +kernel
theorem sh_261 : ax_sh SH 261 = some (7, 8, [none, none, none, none, none, some 262, some 263, some 264]) := by decide +kernel
theorem sh_262 : ax_sh SH 262 = some (13, 24, []) := by decide +kernel
theorem sh_263 : ax_sh SH 263 = some (13, 144, []) := by decide +kernel
theorem sh_264 : ax_sh SH 264 = some (13, 144, []) := by decide +kernel
theorem sh_265 : ax_sh SH 265 = some (7, 8, [none, none, none, none, none, some 266, some 267, some 268]) := by decide +kernel
theorem sh_266 : ax_sh SH 266 = some (13, 24, []) := by decide +kernel
theorem sh_267 : ax_sh SH 267 = some (13, 144, []) := by decide +kernel
theorem sh_268 : ax_sh SH 268 = some (13, 144, []) := by decide +kernel
theorem sh_269 : ax_sh SH 269 = some (7, 8, [none, none, none, none, none, some 270, some 271, some 272]) := by decide +kernel
theorem sh_270 : ax_sh SH 270 = some (13, 24, []) := by decide +kernel
theorem sh_271 : ax_sh SH 271 = some (13, 144, []) := by decide +kernel
theorem sh_272 : ax_sh SH 272 = some (13, 144, []) := by decide +kernel
theorem sh_273 : ax_sh SH 273 = some (9, 7, [none, none, none, none, some 274, some 275, some 276]) := by decide +kernel
theorem sh_274 : ax_sh SH 274 = some (13, 6, []) := by decide +kernel
theorem sh_275 : ax_sh SH 275 = some (13, 6, []) := by decide +kernel
theorem sh_276 : ax_sh SH 276 = some (14, 8, [some 277, some 281, some 285, some 289, some 293, some 297, some 301, some 305]) := by decide +kernel
theorem sh_277 : ax_sh SH 277 = some (7, 8, [none, none, none, none, none, some 278, some 279, some 280]) := by decide +kernel
theorem sh_278 : ax_sh SH 278 = some (13, 24, []) := by decide +kernel
theorem sh_279 : ax_sh SH 279 = some (13, 144, []) := by decide +kernel
theorem sh_280 : ax_sh SH 280 = some (13, 144, []) := by decide +kernel
theorem sh_281 : ax_sh SH 281 = some (7, 8, [none, none, none, none, none, some 282, some 283, some 284]) := by decide +kernel
theorem sh_282 : ax_sh SH 282 = some (13, 24, []) := by decide +kernel
theorem sh_283 : ax_sh SH 283 = some (13, 144, []) := by decide +kernel
theorem sh_284 : ax_sh SH 284 = some (13, 144, []) := by decide +kernel
theorem sh_285 : ax_sh SH 285 = some (7, 8, [none, none, none, none, none, some 286, some 287, some 288]) := by decide +kernel
theorem sh_286 : ax_sh SH 286 = some (13, 24, []) := by decide +kernel
theorem sh_287 : ax_sh SH 287 = some (13, 144, []) := by decide +kernel
theorem sh_288 : ax_sh SH 288 = some (13, 144, []) := by decide +kernel
theorem sh_289 : ax_sh SH 289 = some (7, 8, [none, none, none, none, none, some 290, some 291, some 292]) := by decide +kernel
theorem sh_290 : ax_sh SH 290 = some (13, 24, []) := by decide +kernel
theorem sh_291 : ax_sh SH 291 = some (13, 144, []) := by decide +kernel
theorem sh_292 : ax_sh SH 292 = some (13, 144, []) := by decide +kernel
theorem sh_293 : ax_sh SH 293 = some (7, 8, [none, none, none, none, none, some 294, some 295, some 296]) := by decide +kernel
theorem sh_294 : ax_sh SH 294 = some (13, 24, []) := by decide +kernel
theorem sh_295 : ax_sh SH 295 = some (13, 144, []) := by decide +kernel
theorem sh_296 : ax_sh SH 296 = some (13, 144, []) := by decide +kernel
theorem sh_297 : ax_sh SH 297 = some (7, 8, [none, none, none, none, none, some 298, some 299, some 300]) := by decide +kernel
theorem sh_298 : ax_sh SH 298 = some (13, 24, []) := by decide +kernel
theorem sh_299 : ax_sh SH 299 = some (13, 144, []) := by decide +kernel
theorem sh_300 : ax_sh SH 300 = some (13, 144, []) := by decide +kernel
theorem sh_301 : ax_sh SH 301 = some (7, 8, [none, none, none, none, none, some 302, some 303, some 304]) := by decide +kernel
theorem sh_302 : ax_sh SH 302 = some (13, 24, []) := by decide +kernel
theorem sh_303 : ax_sh SH 303 = some (13, 144, []) := by decide +kernel
theorem sh_304 : ax_sh SH 304 = some (13, 144, []) := by decide +kernel
theorem sh_305 : ax_sh SH 305 = some (7, 8, [none, none, none, none, none, some 306, some 307, some 308]) := by decide +kernel
theorem sh_306 : ax_sh SH 306 = some (13, 24, []) := by decide +kernel
theorem sh_307 : ax_sh SH 307 = some (13, 144, []) := by decide +kernel
theorem sh_308 : ax_sh SH 308 = some (13, 144, []) := by decide +kernel
theorem sh_309 : ax_sh SH 309 = some (0, 1, [some 310]) := by decide +kernel
theorem sh_310 : ax_sh SH 310 = some (13, 1200, []) := by decide +kernel
theorem sh_311 : ax_sh SH 311 = some (4, 9, [some 312, some 313, some 319, some 320, some 321, some 322, none, some 323, none]) := by decide +kernel
theorem sh_312 : ax_sh SH 312 = some (16, 3, [some 324, some 326, some 328]) := by decide +kernel
theorem sh_313 : ax_sh SH 313 = some (1, 7, [none, some 314, some 315, some 316, none, some 317, some 318]) := by decide +kernel
theorem sh_314 : ax_sh SH 314 = some (13, 150, []) := by decide +kernel
theorem sh_315 : ax_sh SH 315 = some (13, 150, []) := by decide +kernel
theorem sh_316 : ax_sh SH 316 = some (13, 150, []) := by decide +kernel
theorem sh_317 : ax_sh SH 317 = some (13, 4, []) := by decide +kernel
theorem sh_318 : ax_sh SH 318 = some (13, 4, []) := by decide +kernel
theorem sh_319 : ax_sh SH 319 = some (13, 28, []) := by decide +kernel
theorem sh_320 : ax_sh SH 320 = some (13, 4, []) := by decide +kernel
theorem sh_321 : ax_sh SH 321 = some (13, 6, []) := by decide +kernel
theorem sh_322 : ax_sh SH 322 = some (13, 6, []) := by decide +kernel
theorem sh_323 : ax_sh SH 323 = some (13, 7, []) := by decide +kernel
theorem sh_324 : ax_sh SH 324 = some (3, 3, [none, none, some 325]) := by decide +kernel
theorem sh_325 : ax_sh SH 325 = some (13, 400, []) := by decide +kernel
theorem sh_326 : ax_sh SH 326 = some (3, 3, [none, none, some 327]) := by decide +kernel
theorem sh_327 : ax_sh SH 327 = some (13, 400, []) := by decide +kernel
theorem sh_328 : ax_sh SH 328 = some (3, 3, [none, none, some 329]) := by decide +kernel
theorem sh_329 : ax_sh SH 329 = some (13, 400, []) := by decide +kernel
theorem sh_330 : ax_sh SH 330 = some (12, 45, [some 331, some 332, some 333, some 334, none, none, some 335, some 336, some 337, some 338, some 339, some 340, some 341, none, none, none, none, none, none, none, none, none, none, none, none, none, none, none, some 342, some 343, none, none, none, none, some 344, none, some 345, some 346, some 347, none, some 348, some 349, some 350, none, none]) := by decide +kernel
theorem sh_331 : ax_sh SH 331 = some (13, 6894, []) := by decide +kernel
theorem sh_332 : ax_sh SH 332 = some (13, 6894, []) := by decide +kernel
theorem sh_333 : ax_sh SH 333 = some (13, 12820, []) := by decide +kernel
theorem sh_334 : ax_sh SH 334 = some (13, 2564, []) := by decide +kernel
theorem sh_335 : ax_sh SH 335 = some (13, 48, []) := by decide +kernel
theorem sh_336 : ax_sh SH 336 = some (13, 820, []) := by decide +kernel
theorem sh_337 : ax_sh SH 337 = some (13, 450, []) := by decide +kernel
theorem sh_338 : ax_sh SH 338 = some (13, 7, []) := by decide +kernel
theorem sh_339 : ax_sh SH 339 = some (13, 400, []) := by decide +kernel
theorem sh_340 : ax_sh SH 340 = some (13, 420, []) := by decide +kernel
theorem sh_341 : ax_sh SH 341 = some (13, 14, []) := by decide +kernel
theorem sh_342 : ax_sh SH 342 = some (13, 24, []) := by decide +kernel
theorem sh_343 : ax_sh SH 343 = some (13, 24, []) := by decide +kernel
theorem sh_344 : ax_sh SH 344 = some (13, 600, []) := by decide +kernel
theorem sh_345 : ax_sh SH 345 = some (13, 8, []) := by decide +kernel
theorem sh_346 : ax_sh SH 346 = some (13, 7, []) := by decide +kernel
theorem sh_347 : ax_sh SH 347 = some (13, 7, []) := by decide +kernel
theorem sh_348 : ax_sh SH 348 = some (13, 17496, []) := by decide +kernel
theorem sh_349 : ax_sh SH 349 = some (13, 17496, []) := by decide +kernel
theorem sh_350 : ax_sh SH 350 = some (13, 10, []) := by decide +kernel
def f_up (f : Int → Int) (i v : Int) : Int → Int := fun j => if j = i then v else f j
theorem f_up_same (f : Int → Int) (i v : Int) : f_up f i v i = v := by
  unfold f_up
  rw [if_pos rfl]
theorem f_up_ne {f : Int → Int} {i v j x : Int} (h : j ≠ i) (hx : f j = x) : f_up f i v j = x := by
  unfold f_up
  rw [if_neg h]
  exact hx
theorem ax_up_hit (M : ax_Mem) (a i v : Int) : ax_up M a i v a i = v := by
  unfold ax_up
  rw [if_pos ⟨rfl, rfl⟩]
theorem ax_up_miss {M : ax_Mem} {a i v b j x : Int} (h : ¬ (b = a ∧ j = i)) (hx : M b j = x) : ax_up M a i v b j = x := by
  unfold ax_up
  rw [if_neg h]
  exact hx
theorem ax_up_rowhit {M : ax_Mem} {a i v : Int} {f : Int → Int} (h : M a = f) : ax_up M a i v a = f_up f i v := by
  subst h
  funext j
  unfold ax_up f_up
  simp
theorem ax_up_rowmiss {M : ax_Mem} {a i v b : Int} {f : Int → Int} (h : b ≠ a) (hf : M b = f) : ax_up M a i v b = f := by
  subst hf
  funext j
  unfold ax_up
  simp [h]
def f_cp (f : Int → Int) (sp : Int) (g : Int → Int) (dp n : Int) : Int → Int := fun i => if dp ≤ i ∧ i < dp + n then f (sp + (i - dp)) else g i
theorem ax_cp_fr {M M2 : ax_Mem} {a sp b dp n : Int} (e : M2 = ax_cp M a sp b dp n) : ∀ x i : Int, ¬ (x = b) → M2 x i = M x i := by
  subst e
  intro x i h
  unfold ax_cp
  rw [if_neg (fun q => h q.1)]
theorem ax_cp_row {M M2 : ax_Mem} {a sp b dp n : Int} {f g : Int → Int} (e : M2 = ax_cp M a sp b dp n) (hf : M a = f) (hg : M b = g) : M2 b = f_cp f sp g dp n := by
  subst e
  subst hf
  subst hg
  funext i
  unfold ax_cp f_cp
  simp
abbrev ax_P (P : Option ax_V → ax_Mem → Prop) : ax_Post := fun v S2 M2 => S2 = SH ∧ P v M2
/-- a method's contract behind the constructors: what it answers and leaves -/
def ax_G (E : ax_Env) (l : Launch) (d : Nat) (I : ax_I) (av : List ax_V) (M : ax_Mem) (P : Option ax_V → ax_Mem → Prop) : Prop := ax_M E l d 0 0 I av SH M (ax_P P)
section AXF
variable {E : ax_Env} {l : Launch} {d : Nat} {I : ax_I} {pc pc' : Nat} {ls ls' ls2 : List (Option ax_V)} {st st2 : List ax_V} {M M1 M2 : ax_Mem} {Q : ax_Post}
theorem ax_start {av : List ax_V} {P : Option ax_V → ax_Mem → Prop} (hy : plainName I.1.cls = true) (hn : av.length ≤ I.2.2.1) (hl : av.map some ++ List.replicate (I.2.2.1 - av.length) none = ls) (kk : (∀ v ∈ av, ax_cv v) → ax_cm M → ax_W E l d 0 0 I 0 ls [] SH M (ax_P P)) : ax_G E l d I av M P := ax_enter hy hn hl kk
theorem ax_invG {index ci n : Nat} {Y : ax_I} {a : Int} {c1 : ax_Cell} {P : Option ax_V → ax_Mem → Prop} (av rest : List ax_V) (hdg : decode I.2.1 pc = .ok (.invokevirtual index, 3)) (L : ax_MV I.1.cls index Y ci n) (hs : ax_sh SH a = some c1) (hci : c1.1 = ci) (hst : st = av.reverse ++ .inr a :: rest) (hn : av.length = n) (hr : rest.length ≤ 8) (hM : ax_G E l d Y (.inr a :: av) M P) (hp : pc + 3 = pc')
    (kk : ∀ (v : Option ax_V) (M2 : ax_Mem), P v M2 → ax_co v → ax_cm M2 → ax_W E l (d + 1) 0 0 I pc' ls (v.toList ++ rest) SH M2 Q) : ax_W E l (d + 1) 0 0 I pc ls st SH M Q := by
  refine ax_inv (kc := 0) (ks := 0) av rest hdg L hs hci hst hn hr hM hp (fun v S' M' h hco hrt hcm => ?_)
  obtain ⟨rfl, h⟩ := h
  exact kk v M' h hco hcm
theorem ax_insG {index n : Nat} {Y : ax_I} {P : Option ax_V → ax_Mem → Prop} (av rest : List ax_V) (hdg : decode I.2.1 pc = .ok (.invokestatic index, 3)) (L : ax_MS I.1.cls index Y n ∨ ∃ host, ax_MSN I.1.cls index Y host n) (hst : st = av.reverse ++ rest) (hn : av.length = n) (hr : rest.length ≤ 8) (hM : ax_G E l d Y av M P) (hp : pc + 3 = pc')
    (kk : ∀ (v : Option ax_V) (M2 : ax_Mem), P v M2 → ax_co v → ax_cm M2 → ax_W E l (d + 1) 0 0 I pc' ls (v.toList ++ rest) SH M2 Q) : ax_W E l (d + 1) 0 0 I pc ls st SH M Q := by
  refine ax_ins_gen (kc := 0) (ks := 0) av rest hdg L hst hn hr hM hp (fun v S' M' h hco hrt hcm => ?_)
  obtain ⟨rfl, h⟩ := h
  exact kk v M' h hco hcm
theorem ax_invSG {index n i : Nat} {Y : ax_I} {a : Int} {P : Option ax_V → ax_Mem → Prop} (av rest : List ax_V) (hdg : decode I.2.1 pc = .ok (.invokevirtual index, 3)) (L : ax_MVS I.1.cls index Y n) (hi : i < 30) (ha : a = -(3 + (i : Int))) (hst : st = av.reverse ++ .inr a :: rest) (hn : av.length = n) (hr : rest.length ≤ 8) (hM : ax_G E l d Y (.inr a :: av) M P) (hp : pc + 3 = pc')
    (kk : ∀ (v : Option ax_V) (M2 : ax_Mem), P v M2 → ax_co v → ax_cm M2 → ax_W E l (d + 1) 0 0 I pc' ls (v.toList ++ rest) SH M2 Q) : ax_W E l (d + 1) 0 0 I pc ls st SH M Q := by
  refine ax_invS (kc := 0) (ks := 0) av rest hdg L hi ha hst hn hr hM hp (fun v S' M' h hco hrt hcm => ?_)
  obtain ⟨rfl, h⟩ := h
  exact kk v M' h hco hcm
theorem ax_reM (hm : M = M2) (kk : ax_W E l d 0 0 I pc ls st SH M2 Q) : ax_W E l d 0 0 I pc ls st SH M Q := hm ▸ kk
theorem ax_reS (hs : st = st2) (kk : ax_W E l d 0 0 I pc ls st2 SH M Q) : ax_W E l d 0 0 I pc ls st SH M Q := hs ▸ kk
theorem ax_reL (hs : ls = ls2) (kk : ax_W E l d 0 0 I pc ls2 st SH M Q) : ax_W E l d 0 0 I pc ls st SH M Q := hs ▸ kk
/-- fewer locals are told -/
theorem ax_less (keep : List Bool) (h : List.zipWith (fun (b : Bool) (v : Option ax_V) => if b then v else none) keep ls = ls2) (kk : ax_W E l d 0 0 I pc ls2 st SH M Q) : ax_W E l d 0 0 I pc ls st SH M Q := by
  have key : ∀ (i : Nat) (v : ax_V), ls2[i]? = some (some v) → ls[i]? = some (some v) := by
    intro i v hv
    rw [← h, List.getElem?_zipWith] at hv
    cases h1 : keep[i]? with
    | none => rw [h1] at hv; simp at hv
    | some b =>
      cases h2 : ls[i]? with
      | none => rw [h1, h2] at hv; simp at hv
      | some w =>
        rw [h1, h2] at hv
        simp only [Option.some.injEq] at hv
        split at hv
        · rw [hv]
        · cases hv
  intro p e R s m args below meth c mc ms Z H locs cells slots lc hX hR hZ hH hS hc1 hc2 hc3 hL hcl hcs
  exact kk p e R s m args below meth c mc ms Z H locs cells slots lc hX hR hZ hH hS hc1 hc2 hc3 ⟨hL.1, hL.2.1, fun i v hv => hL.2.2 i v (key i v hv)⟩ (fun i v hv => hcl i v (key i v hv)) hcs
end AXF
/-- truth as a number -/
def f_b (c : Prop) [Decidable c] : Int := if c then 1 else 0
theorem f_b_0 {c : Prop} [Decidable c] (h : f_b c = 0) : ¬ c := by
  intro hc
  unfold f_b at h
  rw [if_pos hc] at h
  cases h
theorem f_b_1 {c : Prop} [Decidable c] (h : f_b c ≠ 0) : c := by
  unfold f_b at h
  by_cases hc : c
  · exact hc
  · rw [if_neg hc] at h
    exact absurd rfl h
theorem f_b_t {c : Prop} [Decidable c] (h : c) : f_b c = 1 := if_pos h
theorem f_b_f {c : Prop} [Decidable c] (h : ¬ c) : f_b c = 0 := if_neg h
theorem f_b_01 (c : Prop) [Decidable c] : f_b c = 0 ∨ f_b c = 1 := by
  unfold f_b
  split
  · exact Or.inr rfl
  · exact Or.inl rfl

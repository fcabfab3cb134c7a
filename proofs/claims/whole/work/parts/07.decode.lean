theorem ax_kc : ∀ z, z < 226 → Cond.code (ax_nm z) (ax_by z) (ax_ml z) (ax_rt z) ∈ tables_1 := by
  intro z h
  match z, h with
  | 0, _ => exact ax_k0
  | 1, _ => exact ax_k1
  | 2, _ => exact ax_k2
  | 3, _ => exact ax_k3
  | 4, _ => exact ax_k4
  | 5, _ => exact ax_k5
  | 6, _ => exact ax_k6
  | 7, _ => exact ax_k7
  | 8, _ => exact ax_k8
  | 9, _ => exact ax_k9
  | 10, _ => exact ax_k10
  | 11, _ => exact ax_k11
  | 12, _ => exact ax_k12
  | 13, _ => exact ax_k13
  | 14, _ => exact ax_k14
  | 15, _ => exact ax_k15
  | 16, _ => exact ax_k16
  | 17, _ => exact ax_k17
  | 18, _ => exact ax_k18
  | 19, _ => exact ax_k19
  | 20, _ => exact ax_k20
  | 21, _ => exact ax_k21
  | 22, _ => exact ax_k22
  | 23, _ => exact ax_k23
  | 24, _ => exact ax_k24
  | 25, _ => exact ax_k25
  | 26, _ => exact ax_k26
  | 27, _ => exact ax_k27
  | 28, _ => exact ax_k28
  | 29, _ => exact ax_k29
  | 30, _ => exact ax_k30
  | 31, _ => exact ax_k31
  | 32, _ => exact ax_k32
  | 33, _ => exact ax_k33
  | 34, _ => exact ax_k34
  | 35, _ => exact ax_k35
  | 36, _ => exact ax_k36
  | 37, _ => exact ax_k37
  | 38, _ => exact ax_k38
  | 39, _ => exact ax_k39
  | 40, _ => exact ax_k40
  | 41, _ => exact ax_k41
  | 42, _ => exact ax_k42
  | 43, _ => exact ax_k43
  | 44, _ => exact ax_k44
  | 45, _ => exact ax_k45
  | 46, _ => exact ax_k46
  | 47, _ => exact ax_k47
  | 48, _ => exact ax_k48
  | 49, _ => exact ax_k49
  | 50, _ => exact ax_k50
  | 51, _ => exact ax_k51
  | 52, _ => exact ax_k52
  | 53, _ => exact ax_k53
  | 54, _ => exact ax_k54
  | 55, _ => exact ax_k55
  | 56, _ => exact ax_k56
  | 57, _ => exact ax_k57
  | 58, _ => exact ax_k58
  | 59, _ => exact ax_k59
  | 60, _ => exact ax_k60
  | 61, _ => exact ax_k61
  | 62, _ => exact ax_k62
  | 63, _ => exact ax_k63
  | 64, _ => exact ax_k64
  | 65, _ => exact ax_k65
  | 66, _ => exact ax_k66
  | 67, _ => exact ax_k67
  | 68, _ => exact ax_k68
  | 69, _ => exact ax_k69
  | 70, _ => exact ax_k70
  | 71, _ => exact ax_k71
  | 72, _ => exact ax_k72
  | 73, _ => exact ax_k73
  | 74, _ => exact ax_k74
  | 75, _ => exact ax_k75
  | 76, _ => exact ax_k76
  | 77, _ => exact ax_k77
  | 78, _ => exact ax_k78
  | 79, _ => exact ax_k79
  | 80, _ => exact ax_k80
  | 81, _ => exact ax_k81
  | 82, _ => exact ax_k82
  | 83, _ => exact ax_k83
  | 84, _ => exact ax_k84
  | 85, _ => exact ax_k85
  | 86, _ => exact ax_k86
  | 87, _ => exact ax_k87
  | 88, _ => exact ax_k88
  | 89, _ => exact ax_k89
  | 90, _ => exact ax_k90
  | 91, _ => exact ax_k91
  | 92, _ => exact ax_k92
  | 93, _ => exact ax_k93
  | 94, _ => exact ax_k94
  | 95, _ => exact ax_k95
  | 96, _ => exact ax_k96
  | 97, _ => exact ax_k97
  | 98, _ => exact ax_k98
  | 99, _ => exact ax_k99
  | 100, _ => exact ax_k100
  | 101, _ => exact ax_k101
  | 102, _ => exact ax_k102
  | 103, _ => exact ax_k103
  | 104, _ => exact ax_k104
  | 105, _ => exact ax_k105
  | 106, _ => exact ax_k106
  | 107, _ => exact ax_k107
  | 108, _ => exact ax_k108
  | 109, _ => exact ax_k109
  | 110, _ => exact ax_k110
  | 111, _ => exact ax_k111
  | 112, _ => exact ax_k112
  | 113, _ => exact ax_k113
  | 114, _ => exact ax_k114
  | 115, _ => exact ax_k115
  | 116, _ => exact ax_k116
  | 117, _ => exact ax_k117
  | 118, _ => exact ax_k118
  | 119, _ => exact ax_k119
  | 120, _ => exact ax_k120
  | 121, _ => exact ax_k121
  | 122, _ => exact ax_k122
  | 123, _ => exact ax_k123
  | 124, _ => exact ax_k124
  | 125, _ => exact ax_k125
  | 126, _ => exact ax_k126
  | 127, _ => exact ax_k127
  | 128, _ => exact ax_k128
  | 129, _ => exact ax_k129
  | 130, _ => exact ax_k130
  | 131, _ => exact ax_k131
  | 132, _ => exact ax_k132
  | 133, _ => exact ax_k133
  | 134, _ => exact ax_k134
  | 135, _ => exact ax_k135
  | 136, _ => exact ax_k136
  | 137, _ => exact ax_k137
  | 138, _ => exact ax_k138
  | 139, _ => exact ax_k139
  | 140, _ => exact ax_k140
  | 141, _ => exact ax_k141
  | 142, _ => exact ax_k142
  | 143, _ => exact ax_k143
  | 144, _ => exact ax_k144
  | 145, _ => exact ax_k145
  | 146, _ => exact ax_k146
  | 147, _ => exact ax_k147
  | 148, _ => exact ax_k148
  | 149, _ => exact ax_k149
  | 150, _ => exact ax_k150
  | 151, _ => exact ax_k151
  | 152, _ => exact ax_k152
  | 153, _ => exact ax_k153
  | 154, _ => exact ax_k154
  | 155, _ => exact ax_k155
  | 156, _ => exact ax_k156
  | 157, _ => exact ax_k157
  | 158, _ => exact ax_k158
  | 159, _ => exact ax_k159
  | 160, _ => exact ax_k160
  | 161, _ => exact ax_k161
  | 162, _ => exact ax_k162
  | 163, _ => exact ax_k163
  | 164, _ => exact ax_k164
  | 165, _ => exact ax_k165
  | 166, _ => exact ax_k166
  | 167, _ => exact ax_k167
  | 168, _ => exact ax_k168
  | 169, _ => exact ax_k169
  | 170, _ => exact ax_k170
  | 171, _ => exact ax_k171
  | 172, _ => exact ax_k172
  | 173, _ => exact ax_k173
  | 174, _ => exact ax_k174
  | 175, _ => exact ax_k175
  | 176, _ => exact ax_k176
  | 177, _ => exact ax_k177
  | 178, _ => exact ax_k178
  | 179, _ => exact ax_k179
  | 180, _ => exact ax_k180
  | 181, _ => exact ax_k181
  | 182, _ => exact ax_k182
  | 183, _ => exact ax_k183
  | 184, _ => exact ax_k184
  | 185, _ => exact ax_k185
  | 186, _ => exact ax_k186
  | 187, _ => exact ax_k187
  | 188, _ => exact ax_k188
  | 189, _ => exact ax_k189
  | 190, _ => exact ax_k190
  | 191, _ => exact ax_k191
  | 192, _ => exact ax_k192
  | 193, _ => exact ax_k193
  | 194, _ => exact ax_k194
  | 195, _ => exact ax_k195
  | 196, _ => exact ax_k196
  | 197, _ => exact ax_k197
  | 198, _ => exact ax_k198
  | 199, _ => exact ax_k199
  | 200, _ => exact ax_k200
  | 201, _ => exact ax_k201
  | 202, _ => exact ax_k202
  | 203, _ => exact ax_k203
  | 204, _ => exact ax_k204
  | 205, _ => exact ax_k205
  | 206, _ => exact ax_k206
  | 207, _ => exact ax_k207
  | 208, _ => exact ax_k208
  | 209, _ => exact ax_k209
  | 210, _ => exact ax_k210
  | 211, _ => exact ax_k211
  | 212, _ => exact ax_k212
  | 213, _ => exact ax_k213
  | 214, _ => exact ax_k214
  | 215, _ => exact ax_k215
  | 216, _ => exact ax_k216
  | 217, _ => exact ax_k217
  | 218, _ => exact ax_k218
  | 219, _ => exact ax_k219
  | 220, _ => exact ax_k220
  | 221, _ => exact ax_k221
  | 222, _ => exact ax_k222
  | 223, _ => exact ax_k223
  | 224, _ => exact ax_k224
  | 225, _ => exact ax_k225
  | z + 226, h => exact absurd h (by omega)
def ax_dk (b : ByteArray) (q : Nat × Instr × Nat) : Bool := decide (decode b q.1 = .ok q.2) && (ax_len q.2.1 == 0 || q.2.2 == ax_len q.2.1)
theorem ax_d0 : ∀ q ∈ ax_c0, ax_dk cX0_init q = true := by decide +kernel
theorem ax_d1 : ∀ q ∈ ax_c1, ax_dk cX0_startAnew q = true := by decide +kernel
theorem ax_d2 : ∀ q ∈ ax_c2, ax_dk cX0_takeFrom q = true := by decide +kernel
theorem ax_d3 : ∀ q ∈ ax_c3, ax_dk cX0_hasDish q = true := by decide +kernel
theorem ax_d4 : ∀ q ∈ ax_c4, ax_dk cX0_isOnMenu q = true := by decide +kernel
theorem ax_d5 : ∀ q ∈ ax_c5, ax_dk cX0_servedSet q = true := by decide +kernel
theorem ax_d6 : ∀ q ∈ ax_c6, ax_dk cX0_lastDish q = true := by decide +kernel
theorem ax_d7 : ∀ q ∈ ax_c7, ax_dk cX0_hungerBehind q = true := by decide +kernel
theorem ax_d8 : ∀ q ∈ ax_c8, ax_dk cX0_isFree q = true := by decide +kernel
theorem ax_d9 : ∀ q ∈ ax_c9, ax_dk cX0_mayServe q = true := by decide +kernel
theorem ax_d10_0 : ∀ q ∈ ([(0, .iload_n 2, 1), (1, .invokestatic 69, 3), (4, .istore 4, 2), (6, .aload_n 0, 1), (7, .getfield 14, 3), (10, .iload_n 1, 1), (11, .iconst 0, 1), (12, .invokevirtual 58, 3), (15, .istore 5, 2), (17, .aload_n 0, 1), (18, .getfield 14, 3), (21, .iload_n 1, 1), (22, .iconst 2, 1), (23, .invokevirtual 58, 3), (26, .istore 6, 2), (28, .aload_n 0, 1), (29, .iload 4, 2), (31, .invokevirtual 78, 3), (34, .istore 7, 2), (36, .iload_n 3, 1), (37, .iconst (-1), 1), (38, .if_icmp .ne 17, 3), (41, .iload 5, 2), (43, .iload 6, 2), (45, .iload 4, 2), (47, .iload 7, 2), (49, .iconst 0, 1), (50, .iconst 0, 1), (51, .invokestatic 81, 3), (54, .ireturn, 1), (55, .aload_n 0, 1), (56, .getfield 14, 3), (59, .iload_n 1, 1), (60, .iconst 1, 1), (61, .invokevirtual 58, 3), (64, .istore 8, 2), (66, .aload_n 0, 1), (67, .getfield 14, 3), (70, .iload_n 3, 1), (71, .iconst 1, 1), (72, .invokevirtual 58, 3), (75, .istore 9, 2), (77, .aload_n 0, 1), (78, .getfield 14, 3), (81, .iload_n 1, 1), (82, .iconst 4, 1), (83, .invokevirtual 58, 3), (86, .aload_n 0, 1), (87, .getfield 14, 3), (90, .iload_n 3, 1)] : List (Nat × Instr × Nat)), ax_dk cX0_does q = true := by decide +kernel
theorem ax_d10_1 : ∀ q ∈ ([(91, .iconst 4, 1), (92, .invokevirtual 58, 3), (95, .if_icmp .eq 7, 3), (98, .iconst 1, 1), (99, .goto 4, 3), (102, .iconst 0, 1), (103, .istore 10, 2), (105, .iload 5, 2), (107, .iload 6, 2), (109, .iload 4, 2), (111, .iload 7, 2), (113, .iload 8, 2), (115, .iload 9, 2), (117, .if_icmp .ne 7, 3), (120, .iconst 1, 1), (121, .goto 4, 3), (124, .iconst 0, 1), (125, .iload 10, 2), (127, .invokestatic 81, 3), (130, .istore 11, 2), (132, .iconst 0, 1), (133, .iload 11, 2), (135, .aload_n 0, 1), (136, .getfield 20, 3), (139, .iload 9, 2), (141, .iload 8, 2), (143, .invokevirtual 58, 3), (146, .iadd, 1), (147, .invokestatic 85, 3), (150, .ireturn, 1)] : List (Nat × Instr × Nat)), ax_dk cX0_does q = true := by decide +kernel
theorem ax_d11 : ∀ q ∈ ax_c11, ax_dk cX0_addCourse q = true := by decide +kernel
theorem ax_d12 : ∀ q ∈ ax_c12, ax_dk cX0_dropCourse q = true := by decide +kernel
theorem ax_d13 : ∀ q ∈ ax_c13, ax_dk cX0_addReading q = true := by decide +kernel
theorem ax_d14 : ∀ q ∈ ax_c14, ax_dk cX1_init q = true := by decide +kernel
theorem ax_d15 : ∀ q ∈ ax_c15, ax_dk cX1_beginNow q = true := by decide +kernel
theorem ax_d16 : ∀ q ∈ ax_c16, ax_dk cX1_beginFromNothing q = true := by decide +kernel
theorem ax_d17 : ∀ q ∈ ax_c17, ax_dk cX1_serveBy q = true := by decide +kernel
theorem ax_d18 : ∀ q ∈ ax_c18, ax_dk cX1_verdictNow q = true := by decide +kernel
theorem ax_d19 : ∀ q ∈ ax_c19, ax_dk cX1_cancels q = true := by decide +kernel
theorem ax_d20 : ∀ q ∈ ax_c20, ax_dk cX1_overturns q = true := by decide +kernel
theorem ax_d21 : ∀ q ∈ ax_c21, ax_dk cX1_dineBy q = true := by decide +kernel
theorem ax_d22 : ∀ q ∈ ax_c22, ax_dk cX1_staysBehind q = true := by decide +kernel
theorem ax_d23 : ∀ q ∈ ax_c23, ax_dk cX2_init q = true := by decide +kernel
theorem ax_d24 : ∀ q ∈ ax_c24, ax_dk cX2_isKept q = true := by decide +kernel
theorem ax_d25 : ∀ q ∈ ax_c25, ax_dk cX2_keep q = true := by decide +kernel
theorem ax_d26 : ∀ q ∈ ax_c26, ax_dk cX2_giveTo q = true := by decide +kernel
theorem ax_d27 : ∀ q ∈ ax_c27, ax_dk cX3_init q = true := by decide +kernel
theorem ax_d28 : ∀ q ∈ ax_c28, ax_dk cX3_spent q = true := by decide +kernel
theorem ax_d29 : ∀ q ∈ ax_c29, ax_dk cX3_many q = true := by decide +kernel
theorem ax_d30 : ∀ q ∈ ax_c30, ax_dk cX3_dishAt q = true := by decide +kernel
theorem ax_d31 : ∀ q ∈ ax_c31, ax_dk cX3_seek q = true := by decide +kernel
theorem ax_d32_0 : ∀ q ∈ ([(0, .iload 6, 2), (2, .iconst 4, 1), (3, .if_icmp .lt 4, 3), (6, .return_, 1), (7, .iconst 0, 1), (8, .istore 7, 2), (10, .iload 7, 2), (12, .aload_n 0, 1), (13, .getfield 27, 3), (16, .getfield 62, 3), (19, .invokevirtual 31, 3), (22, .if_icmp .ge 150, 3), (25, .iload 5, 2), (27, .aload_n 0, 1), (28, .getfield 27, 3), (31, .getfield 62, 3), (34, .iload 7, 2), (36, .iconst 3, 1), (37, .invokevirtual 35, 3), (40, .iadd, 1), (41, .istore 8, 2), (43, .aload_n 0, 1), (44, .getfield 27, 3), (47, .iload 7, 2), (49, .iload_n 1, 1), (50, .iload_n 2, 1), (51, .invokevirtual 65, 3), (54, .ifCond .eq 112, 3), (57, .aload_n 0, 1), (58, .iload 8, 2), (60, .iload 6, 2), (62, .iconst 1, 1), (63, .iadd, 1), (64, .invokevirtual 69, 3), (67, .ifCond .eq 99, 3), (70, .aload_n 0, 1), (71, .getfield 14, 3), (74, .iload 6, 2), (76, .invokevirtual 39, 3), (79, .aload_n 0, 1), (80, .getfield 14, 3), (83, .aload_n 0, 1), (84, .getfield 14, 3), (87, .invokevirtual 73, 3), (90, .iconst 0, 1), (91, .iload 7, 2), (93, .invokevirtual 76, 3), (96, .iload 4, 2), (98, .iload_n 1, 1), (99, .aload_n 0, 1)] : List (Nat × Instr × Nat)), ax_dk cX3_tryBehind q = true := by decide +kernel
theorem ax_d32_1 : ∀ q ∈ ([(100, .getfield 27, 3), (103, .iload 7, 2), (105, .iload_n 2, 1), (106, .iload_n 3, 1), (107, .invokevirtual 80, 3), (110, .invokestatic 84, 3), (113, .iadd, 1), (114, .istore 9, 2), (116, .iload 9, 2), (118, .invokestatic 48, 3), (121, .iload_n 1, 1), (122, .if_icmp .ne 23, 3), (125, .aload_n 0, 1), (126, .iload 8, 2), (128, .putfield 23, 3), (131, .aload_n 0, 1), (132, .getfield 20, 3), (135, .aload_n 0, 1), (136, .getfield 14, 3), (139, .invokevirtual 87, 3), (142, .goto 24, 3), (145, .aload_n 0, 1), (146, .iload_n 1, 1), (147, .iload_n 2, 1), (148, .iload 7, 2), (150, .invokestatic 91, 3), (153, .iload 7, 2), (155, .iload 9, 2), (157, .iload 8, 2), (159, .iload 6, 2), (161, .iconst 1, 1), (162, .iadd, 1), (163, .invokevirtual 58, 3), (166, .iinc 7 1, 3), (169, .goto (-159), 3), (172, .return_, 1)] : List (Nat × Instr × Nat)), ax_dk cX3_tryBehind q = true := by decide +kernel
theorem ax_d33 : ∀ q ∈ ax_c33, ax_dk cX3_isBetter q = true := by decide +kernel
theorem ax_d34 : ∀ q ∈ ax_c34, ax_dk cX4_init q = true := by decide +kernel
theorem ax_d35 : ∀ q ∈ ax_c35, ax_dk cX4_gain q = true := by decide +kernel
theorem ax_d36 : ∀ q ∈ ax_c36, ax_dk cX4_opening q = true := by decide +kernel
theorem ax_d37 : ∀ q ∈ ax_c37, ax_dk cX4_solve q = true := by decide +kernel
theorem ax_d38 : ∀ q ∈ ax_c38, ax_dk cX4_takeIfBetter q = true := by decide +kernel
theorem ax_d39 : ∀ q ∈ ax_c39, ax_dk cX4_ifServed q = true := by decide +kernel
theorem ax_d40 : ∀ q ∈ ax_c40, ax_dk cX4_ifNone q = true := by decide +kernel
theorem ax_d41 : ∀ q ∈ ax_c41, ax_dk cX4_gains q = true := by decide +kernel
theorem ax_d42 : ∀ q ∈ ax_c42, ax_dk cX5_init q = true := by decide +kernel
theorem ax_d43 : ∀ q ∈ ax_c43, ax_dk cX5_readInto q = true := by decide +kernel
theorem ax_d44 : ∀ q ∈ ax_c44, ax_dk cX5_takesItem q = true := by decide +kernel
theorem ax_d45 : ∀ q ∈ ax_c45, ax_dk cX5_takesCourt q = true := by decide +kernel
theorem ax_d46 : ∀ q ∈ ax_c46, ax_dk cX5_takesDish q = true := by decide +kernel
theorem ax_d47 : ∀ q ∈ ax_c47, ax_dk cX5_takesFollows q = true := by decide +kernel
theorem ax_d48 : ∀ q ∈ ax_c48, ax_dk cX5_takesNumbers q = true := by decide +kernel
theorem ax_d49 : ∀ q ∈ ax_c49, ax_dk cX5_isWord q = true := by decide +kernel
theorem ax_d50_0 : ∀ q ∈ ([(0, .aload_n 0, 1), (1, .getfield 20, 3), (4, .aload_n 0, 1), (5, .getfield 33, 3), (8, .invokevirtual 36, 3), (11, .if_icmp .ge 33, 3), (14, .aload_n 0, 1), (15, .getfield 33, 3), (18, .aload_n 0, 1), (19, .getfield 20, 3), (22, .iconst 0, 1), (23, .invokevirtual 81, 3), (26, .bipush 32, 2), (28, .if_icmp .ne 16, 3), (31, .aload_n 0, 1), (32, .dup, 1), (33, .getfield 20, 3), (36, .iconst 1, 1), (37, .iadd, 1), (38, .putfield 20, 3), (41, .goto (-41), 3), (44, .aload_n 0, 1), (45, .aload_n 0, 1), (46, .getfield 20, 3), (49, .putfield 24, 3), (52, .aload_n 0, 1), (53, .getfield 20, 3), (56, .aload_n 0, 1), (57, .getfield 33, 3), (60, .invokevirtual 36, 3), (63, .if_icmp .lt 9, 3), (66, .aload_n 0, 1), (67, .iconst 0, 1), (68, .putfield 27, 3), (71, .return_, 1), (72, .aload_n 0, 1), (73, .aload_n 0, 1), (74, .getfield 33, 3), (77, .aload_n 0, 1), (78, .getfield 20, 3), (81, .iconst 0, 1), (82, .invokevirtual 81, 3), (85, .invokestatic 128, 3), (88, .putfield 27, 3), (91, .aload_n 0, 1), (92, .aload_n 0, 1), (93, .getfield 33, 3), (96, .aload_n 0, 1), (97, .getfield 20, 3), (100, .iconst 0, 1)] : List (Nat × Instr × Nat)), ax_dk cX5_next q = true := by decide +kernel
theorem ax_d50_1 : ∀ q ∈ ([(101, .invokevirtual 81, 3), (104, .bipush 48, 2), (106, .isub, 1), (107, .putfield 30, 3), (110, .aload_n 0, 1), (111, .dup, 1), (112, .getfield 20, 3), (115, .iconst 1, 1), (116, .iadd, 1), (117, .putfield 20, 3), (120, .aload_n 0, 1), (121, .getfield 27, 3), (124, .iconst 1, 1), (125, .if_icmp .eq 11, 3), (128, .aload_n 0, 1), (129, .getfield 27, 3), (132, .iconst 2, 1), (133, .if_icmp .ne 7, 3), (136, .iconst 1, 1), (137, .goto 4, 3), (140, .iconst 0, 1), (141, .istore_n 1, 1), (142, .iload_n 1, 1), (143, .ifCond .eq 97, 3), (146, .aload_n 0, 1), (147, .getfield 20, 3), (150, .aload_n 0, 1), (151, .getfield 33, 3), (154, .invokevirtual 36, 3), (157, .if_icmp .ge 83, 3), (160, .aload_n 0, 1), (161, .getfield 33, 3), (164, .aload_n 0, 1), (165, .getfield 20, 3), (168, .iconst 0, 1), (169, .invokevirtual 81, 3), (172, .invokestatic 128, 3), (175, .aload_n 0, 1), (176, .getfield 27, 3), (179, .if_icmp .ne 61, 3), (182, .aload_n 0, 1), (183, .aload_n 0, 1), (184, .getfield 20, 3), (187, .aload_n 0, 1), (188, .getfield 24, 3), (191, .isub, 1), (192, .iconst 2, 1), (193, .if_icmp .ge 29, 3), (196, .bipush 10, 2), (198, .aload_n 0, 1)] : List (Nat × Instr × Nat)), ax_dk cX5_next q = true := by decide +kernel
theorem ax_d50_2 : ∀ q ∈ ([(199, .getfield 30, 3), (202, .imul, 1), (203, .aload_n 0, 1), (204, .getfield 33, 3), (207, .aload_n 0, 1), (208, .getfield 20, 3), (211, .iconst 0, 1), (212, .invokevirtual 81, 3), (215, .iadd, 1), (216, .bipush 48, 2), (218, .isub, 1), (219, .goto 5, 3), (222, .bipush 100, 2), (224, .putfield 30, 3), (227, .aload_n 0, 1), (228, .dup, 1), (229, .getfield 20, 3), (232, .iconst 1, 1), (233, .iadd, 1), (234, .putfield 20, 3), (237, .goto (-95), 3), (240, .return_, 1)] : List (Nat × Instr × Nat)), ax_dk cX5_next q = true := by decide +kernel
theorem ax_d51 : ∀ q ∈ ax_c51, ax_dk cX5_sortOf q = true := by decide +kernel
theorem ax_d52 : ∀ q ∈ ax_c52, ax_dk cX6_init q = true := by decide +kernel
theorem ax_d53 : ∀ q ∈ ax_c53, ax_dk cX6_many q = true := by decide +kernel
theorem ax_d54 : ∀ q ∈ ax_c54, ax_dk cX6_cell q = true := by decide +kernel
theorem ax_d55 : ∀ q ∈ ax_c55, ax_dk cX6_put q = true := by decide +kernel
theorem ax_d56 : ∀ q ∈ ax_c56, ax_dk cX6_grow q = true := by decide +kernel
theorem ax_d57 : ∀ q ∈ ax_c57, ax_dk cX6_cut q = true := by decide +kernel
theorem ax_d58 : ∀ q ∈ ax_c58, ax_dk cX6_takeFrom q = true := by decide +kernel
theorem ax_d59 : ∀ q ∈ ax_c59, ax_dk cX6_mixInto q = true := by decide +kernel
theorem ax_d60 : ∀ q ∈ ax_c60, ax_dk cX6_mixRowInto q = true := by decide +kernel
theorem ax_d61 : ∀ q ∈ ax_c61, ax_dk cX7_init q = true := by decide +kernel
theorem ax_d62 : ∀ q ∈ ax_c62, ax_dk cX7_widen q = true := by decide +kernel
theorem ax_d63 : ∀ q ∈ ax_c63, ax_dk cX7_least q = true := by decide +kernel
theorem ax_d64 : ∀ q ∈ ax_c64, ax_dk cX7_size q = true := by decide +kernel
theorem ax_d65 : ∀ q ∈ ax_c65, ax_dk cX7_narrow q = true := by decide +kernel
theorem ax_d66 : ∀ q ∈ ax_c66, ax_dk cX7_left q = true := by decide +kernel
theorem ax_d67 : ∀ q ∈ ax_c67, ax_dk cX7_leastFor q = true := by decide +kernel
theorem ax_d68 : ∀ q ∈ ax_c68, ax_dk cX7_mostFor q = true := by decide +kernel
theorem ax_d69 : ∀ q ∈ ax_c69, ax_dk cX8_init q = true := by decide +kernel
theorem ax_d70 : ∀ q ∈ ax_c70, ax_dk cX8_many q = true := by decide +kernel
theorem ax_d71 : ∀ q ∈ ax_c71, ax_dk cX8_pull q = true := by decide +kernel
theorem ax_d72 : ∀ q ∈ ax_c72, ax_dk cX8_pulled q = true := by decide +kernel
theorem ax_d73 : ∀ q ∈ ax_c73, ax_dk cX8_menuFromNow q = true := by decide +kernel
theorem ax_d74 : ∀ q ∈ ax_c74, ax_dk cX8_menuFromNothing q = true := by decide +kernel
theorem ax_d75 : ∀ q ∈ ax_c75, ax_dk cX8_readingFromNothing q = true := by decide +kernel
theorem ax_d76 : ∀ q ∈ ax_c76, ax_dk cX8_waysTo q = true := by decide +kernel
theorem ax_d77 : ∀ q ∈ ax_c77, ax_dk cX8_pullOf q = true := by decide +kernel
theorem ax_d78 : ∀ q ∈ ax_c78, ax_dk cX8_takeMenu q = true := by decide +kernel
theorem ax_d79 : ∀ q ∈ ax_c79, ax_dk cX8_serveAll q = true := by decide +kernel
theorem ax_d80_0 : ∀ q ∈ ([(0, .aload_n 0, 1), (1, .invokespecial 1, 3), (4, .aload_n 0, 1), (5, .new 7, 3), (8, .dup, 1), (9, .invokespecial 9, 3), (12, .putfield 10, 3), (15, .aload_n 0, 1), (16, .new 7, 3), (19, .dup, 1), (20, .invokespecial 9, 3), (23, .putfield 16, 3), (26, .aload_n 0, 1), (27, .new 19, 3), (30, .dup, 1), (31, .invokespecial 21, 3), (34, .putfield 22, 3), (37, .aload_n 0, 1), (38, .new 19, 3), (41, .dup, 1), (42, .invokespecial 21, 3), (45, .putfield 26, 3), (48, .aload_n 0, 1), (49, .new 29, 3), (52, .dup, 1), (53, .sipush 150, 3), (56, .iconst 1, 1), (57, .invokespecial 31, 3), (60, .putfield 34, 3), (63, .aload_n 0, 1), (64, .new 38, 3), (67, .dup, 1), (68, .aload_n 0, 1), (69, .getfield 34, 3), (72, .invokespecial 40, 3), (75, .putfield 43, 3), (78, .aload_n 0, 1), (79, .new 47, 3), (82, .dup, 1), (83, .aload_n 0, 1), (84, .getfield 10, 3), (87, .invokespecial 49, 3), (90, .putfield 52, 3), (93, .aload_n 0, 1), (94, .new 56, 3), (97, .dup, 1), (98, .aload_n 0, 1), (99, .getfield 10, 3), (102, .invokespecial 58, 3), (105, .putfield 59, 3)] : List (Nat × Instr × Nat)), ax_dk cX9_init q = true := by decide +kernel
theorem ax_d80_1 : ∀ q ∈ ([(108, .aload_n 0, 1), (109, .new 63, 3), (112, .dup, 1), (113, .aload_n 0, 1), (114, .getfield 10, 3), (117, .invokespecial 65, 3), (120, .putfield 66, 3), (123, .aload_n 0, 1), (124, .new 70, 3), (127, .dup, 1), (128, .aload_n 0, 1), (129, .getfield 10, 3), (132, .invokespecial 72, 3), (135, .putfield 73, 3), (138, .aload_n 0, 1), (139, .new 77, 3), (142, .dup, 1), (143, .invokespecial 79, 3), (146, .putfield 80, 3), (149, .aload_n 0, 1), (150, .lconst 0, 1), (151, .putfield 84, 3), (154, .aload_n 0, 1), (155, .lconst 1, 1), (156, .putfield 88, 3), (159, .aload_n 0, 1), (160, .iconst 0, 1), (161, .putfield 91, 3), (164, .aload_n 0, 1), (165, .iconst 0, 1), (166, .putfield 95, 3), (169, .aload_n 0, 1), (170, .iconst 0, 1), (171, .putfield 98, 3), (174, .aload_n 0, 1), (175, .getfield 10, 3), (178, .iconst 5, 1), (179, .invokevirtual 101, 3), (182, .return_, 1)] : List (Nat × Instr × Nat)), ax_dk cX9_init q = true := by decide +kernel
theorem ax_d81 : ∀ q ∈ ax_c81, ax_dk cX9_court q = true := by decide +kernel
theorem ax_d82_0 : ∀ q ∈ ([(0, .iconst 0, 1), (1, .iload_n 1, 1), (2, .invokestatic 120, 3), (5, .ifCond .eq 37, 3), (8, .iconst 1, 1), (9, .iload_n 2, 1), (10, .invokestatic 120, 3), (13, .ifCond .eq 29, 3), (16, .iconst 2, 1), (17, .iload_n 3, 1), (18, .invokestatic 120, 3), (21, .ifCond .eq 21, 3), (24, .iconst 3, 1), (25, .iload 4, 2), (27, .invokestatic 120, 3), (30, .ifCond .eq 12, 3), (33, .iconst 4, 1), (34, .iload 5, 2), (36, .invokestatic 120, 3), (39, .ifCond .ne 12, 3), (42, .aload_n 0, 1), (43, .bipush (-2), 2), (45, .bipush (-2), 2), (47, .invokevirtual 109, 3), (50, .ireturn, 1), (51, .aload_n 0, 1), (52, .getfield 10, 3), (55, .getfield 113, 3), (58, .invokevirtual 124, 3), (61, .istore 6, 2), (63, .iload 6, 2), (65, .iconst (-1), 1), (66, .if_icmp .ne 12, 3), (69, .aload_n 0, 1), (70, .bipush (-4), 2), (72, .bipush (-4), 2), (74, .invokevirtual 109, 3), (77, .ireturn, 1), (78, .aload_n 0, 1), (79, .getfield 10, 3), (82, .getfield 113, 3), (85, .iload 6, 2), (87, .iconst 0, 1), (88, .iload_n 1, 1), (89, .invokevirtual 127, 3), (92, .aload_n 0, 1), (93, .getfield 10, 3), (96, .getfield 113, 3), (99, .iload 6, 2), (101, .iconst 1, 1)] : List (Nat × Instr × Nat)), ax_dk cX9_dish q = true := by decide +kernel
theorem ax_d82_1 : ∀ q ∈ ([(102, .iload_n 2, 1), (103, .invokevirtual 127, 3), (106, .aload_n 0, 1), (107, .getfield 10, 3), (110, .getfield 113, 3), (113, .iload 6, 2), (115, .iconst 2, 1), (116, .iload_n 3, 1), (117, .invokevirtual 127, 3), (120, .aload_n 0, 1), (121, .getfield 10, 3), (124, .getfield 113, 3), (127, .iload 6, 2), (129, .iconst 3, 1), (130, .iload 4, 2), (132, .invokevirtual 127, 3), (135, .aload_n 0, 1), (136, .getfield 10, 3), (139, .getfield 113, 3), (142, .iload 6, 2), (144, .iconst 4, 1), (145, .iload 5, 2), (147, .invokevirtual 127, 3), (150, .iload 6, 2), (152, .ireturn, 1)] : List (Nat × Instr × Nat)), ax_dk cX9_dish q = true := by decide +kernel
theorem ax_d83 : ∀ q ∈ ax_c83, ax_dk cX9_book q = true := by decide +kernel
theorem ax_d84 : ∀ q ∈ ax_c84, ax_dk cX9_lean q = true := by decide +kernel
theorem ax_d85 : ∀ q ∈ ax_c85, ax_dk cX9_type q = true := by decide +kernel
theorem ax_d86 : ∀ q ∈ ax_c86, ax_dk cX9_clear q = true := by decide +kernel
theorem ax_d87 : ∀ q ∈ ax_c87, ax_dk cX9_read q = true := by decide +kernel
theorem ax_d88 : ∀ q ∈ ax_c88, ax_dk cX9_serve q = true := by decide +kernel
theorem ax_d89 : ∀ q ∈ ax_c89, ax_dk cX9_undo q = true := by decide +kernel
theorem ax_d90 : ∀ q ∈ ax_c90, ax_dk cX9_of q = true := by decide +kernel
theorem ax_d91 : ∀ q ∈ ax_c91, ax_dk cX9_course q = true := by decide +kernel
theorem ax_d92 : ∀ q ∈ ax_c92, ax_dk cX9_leans q = true := by decide +kernel
theorem ax_d93 : ∀ q ∈ ax_c93, ax_dk cX9_verdict q = true := by decide +kernel
theorem ax_d94 : ∀ q ∈ ax_c94, ax_dk cX9_menu q = true := by decide +kernel
theorem ax_d95 : ∀ q ∈ ax_c95, ax_dk cX9_wipe q = true := by decide +kernel
theorem ax_d96 : ∀ q ∈ ax_c96, ax_dk cX9_comes q = true := by decide +kernel
theorem ax_d97 : ∀ q ∈ ax_c97, ax_dk cX9_did q = true := by decide +kernel
theorem ax_d98 : ∀ q ∈ ax_c98, ax_dk cX9_play q = true := by decide +kernel
theorem ax_d99 : ∀ q ∈ ax_c99, ax_dk cX9_first q = true := by decide +kernel
theorem ax_d100 : ∀ q ∈ ax_c100, ax_dk cX9_pardon q = true := by decide +kernel
theorem ax_d101 : ∀ q ∈ ax_c101, ax_dk cX9_cancel q = true := by decide +kernel
theorem ax_d102 : ∀ q ∈ ax_c102, ax_dk cX9_undoes q = true := by decide +kernel
theorem ax_d103 : ∀ q ∈ ax_c103, ax_dk cX9_reading q = true := by decide +kernel
theorem ax_d104 : ∀ q ∈ ax_c104, ax_dk cX9_forget q = true := by decide +kernel
theorem ax_d105 : ∀ q ∈ ax_c105, ax_dk cX9_before q = true := by decide +kernel
theorem ax_d106 : ∀ q ∈ ax_c106, ax_dk cX9_tells q = true := by decide +kernel
theorem ax_d107 : ∀ q ∈ ax_c107, ax_dk cX9_sure q = true := by decide +kernel
theorem ax_d108 : ∀ q ∈ ax_c108, ax_dk cX9_burnt q = true := by decide +kernel
theorem ax_d109 : ∀ q ∈ ax_c109, ax_dk cX9_dinners q = true := by decide +kernel
theorem ax_d110 : ∀ q ∈ ax_c110, ax_dk cX9_part q = true := by decide +kernel
theorem ax_d111 : ∀ q ∈ ax_c111, ax_dk cX9_image q = true := by decide +kernel
theorem ax_d112 : ∀ q ∈ ax_c112, ax_dk cX9_from q = true := by decide +kernel
theorem ax_d113 : ∀ q ∈ ax_c113, ax_dk cX9_status q = true := by decide +kernel
theorem ax_d114 : ∀ q ∈ ax_c114, ax_dk cX9_count q = true := by decide +kernel
theorem ax_d115_0 : ∀ q ∈ ([(0, .ldc2_w 304, 3), (3, .lstore_n 1, 1), (4, .iconst 0, 1), (5, .istore_n 3, 1), (6, .iload_n 3, 1), (7, .iconst 5, 1), (8, .if_icmp .gt 20, 3), (11, .lload_n 1, 1), (12, .aload_n 0, 1), (13, .iload_n 3, 1), (14, .invokevirtual 301, 3), (17, .i2l, 1), (18, .invokestatic 306, 3), (21, .lstore_n 1, 1), (22, .iinc 3 1, 3), (25, .goto (-19), 3), (28, .lload_n 1, 1), (29, .aload_n 0, 1), (30, .getfield 10, 3), (33, .getfield 141, 3), (36, .i2l, 1), (37, .invokestatic 306, 3), (40, .lstore_n 1, 1), (41, .aload_n 0, 1), (42, .getfield 10, 3), (45, .getfield 135, 3), (48, .lload_n 1, 1), (49, .iconst 5, 1), (50, .invokevirtual 310, 3), (53, .lstore_n 1, 1), (54, .aload_n 0, 1), (55, .getfield 10, 3), (58, .getfield 113, 3), (61, .lload_n 1, 1), (62, .iconst 5, 1), (63, .invokevirtual 310, 3), (66, .lstore_n 1, 1), (67, .aload_n 0, 1), (68, .getfield 10, 3), (71, .getfield 169, 3), (74, .lload_n 1, 1), (75, .iconst 3, 1), (76, .invokevirtual 310, 3), (79, .lstore_n 1, 1), (80, .aload_n 0, 1), (81, .getfield 10, 3), (84, .getfield 192, 3), (87, .lload_n 1, 1), (88, .iconst 1, 1), (89, .invokevirtual 310, 3)] : List (Nat × Instr × Nat)), ax_dk cX9_digest q = true := by decide +kernel
theorem ax_d115_1 : ∀ q ∈ ([(92, .lstore_n 1, 1), (93, .iconst 0, 1), (94, .istore_n 3, 1), (95, .iload_n 3, 1), (96, .aload_n 0, 1), (97, .getfield 10, 3), (100, .getfield 243, 3), (103, .invokevirtual 116, 3), (106, .if_icmp .ge 36, 3), (109, .aload_n 0, 1), (110, .getfield 10, 3), (113, .getfield 243, 3), (116, .lload_n 1, 1), (117, .iload_n 3, 1), (118, .iconst 3, 1), (119, .aload_n 0, 1), (120, .getfield 10, 3), (123, .getfield 243, 3), (126, .iload_n 3, 1), (127, .iconst 2, 1), (128, .invokevirtual 138, 3), (131, .iadd, 1), (132, .invokevirtual 313, 3), (135, .lstore_n 1, 1), (136, .iinc 3 1, 3), (139, .goto (-44), 3), (142, .lload_n 1, 1), (143, .aload_n 0, 1), (144, .getfield 84, 3), (147, .invokestatic 306, 3), (150, .aload_n 0, 1), (151, .getfield 88, 3), (154, .invokestatic 306, 3), (157, .lreturn, 1)] : List (Nat × Instr × Nat)), ax_dk cX9_digest q = true := by decide +kernel
theorem ax_d116 : ∀ q ∈ ax_c116, ax_dk cX9_refuse q = true := by decide +kernel
theorem ax_d117 : ∀ q ∈ ax_c117, ax_dk cX9_howMany q = true := by decide +kernel
theorem ax_d118 : ∀ q ∈ ax_c118, ax_dk cX9_imageAt q = true := by decide +kernel
theorem ax_d119 : ∀ q ∈ ax_c119, ax_dk cX9_fitReadings q = true := by decide +kernel
theorem ax_d120 : ∀ q ∈ ax_c120, ax_dk cX9_setFraction q = true := by decide +kernel
theorem ax_d121 : ∀ q ∈ ax_c121, ax_dk cX9_isWithin q = true := by decide +kernel
theorem ax_d122 : ∀ q ∈ ax_c122, ax_dk cX9_isSide q = true := by decide +kernel
theorem ax_d123 : ∀ q ∈ ax_c123, ax_dk cX9_isTaste q = true := by decide +kernel
theorem ax_d124 : ∀ q ∈ ax_c124, ax_dk cX9_isVerdict q = true := by decide +kernel
theorem ax_d125 : ∀ q ∈ ax_c125, ax_dk cX9_fitsDish q = true := by decide +kernel
theorem ax_d126 : ∀ q ∈ ax_c126, ax_dk cX9_verdictOf q = true := by decide +kernel
theorem ax_d127 : ∀ q ∈ ax_c127, ax_dk cX9_power q = true := by decide +kernel
theorem ax_d128 : ∀ q ∈ ax_c128, ax_dk cX9_toSide q = true := by decide +kernel
theorem ax_d129 : ∀ q ∈ ax_c129, ax_dk cX9_holds q = true := by decide +kernel
theorem ax_d130 : ∀ q ∈ ax_c130, ax_dk cX9_with q = true := by decide +kernel
theorem ax_d131 : ∀ q ∈ ax_c131, ax_dk cX9_mix q = true := by decide +kernel
theorem ax_d132 : ∀ q ∈ ax_c132, ax_dk cX9_toPower q = true := by decide +kernel
theorem ax_d133 : ∀ q ∈ ax_c133, ax_dk cX9_commonDivisor q = true := by decide +kernel
theorem ax_d134_0 : ∀ q ∈ ([(0, .aload_n 0, 1), (1, .invokespecial 1, 3), (4, .aload_n 0, 1), (5, .sipush 181, 3), (8, .newarray .int, 2), (10, .putfield 7, 3), (13, .aload_n 0, 1), (14, .sipush 362, 3), (17, .newarray .int, 2), (19, .putfield 13, 3), (22, .aload_n 0, 1), (23, .iconst 2, 1), (24, .newarray .boolean, 2), (26, .putfield 16, 3), (29, .aload_n 0, 1), (30, .iconst 3, 1), (31, .newarray .int, 2), (33, .putfield 20, 3), (36, .aload_n 0, 1), (37, .lconst 1, 1), (38, .putfield 23, 3), (41, .aload_n 0, 1), (42, .bipush 8, 2), (44, .newarray .int, 2), (46, .putfield 27, 3), (49, .aload_n 0, 1), (50, .bipush 6, 2), (52, .newarray .int, 2), (54, .putfield 30, 3), (57, .aload_n 0, 1), (58, .bipush 6, 2), (60, .newarray .int, 2), (62, .putfield 33, 3), (65, .aload_n 0, 1), (66, .bipush 6, 2), (68, .newarray .int, 2), (70, .putfield 36, 3), (73, .aload_n 0, 1), (74, .bipush 6, 2), (76, .newarray .int, 2), (78, .putfield 39, 3), (81, .aload_n 0, 1), (82, .bipush 6, 2), (84, .newarray .int, 2), (86, .putfield 42, 3), (89, .aload_n 0, 1), (90, .bipush 6, 2), (92, .newarray .int, 2), (94, .putfield 45, 3), (97, .aload_n 0, 1)] : List (Nat × Instr × Nat)), ax_dk cX10_init q = true := by decide +kernel
theorem ax_d134_1 : ∀ q ∈ ([(98, .iconst 4, 1), (99, .newarray .int, 2), (101, .putfield 48, 3), (104, .aload_n 0, 1), (105, .bipush 6, 2), (107, .newarray .int, 2), (109, .putfield 51, 3), (112, .aload_n 0, 1), (113, .iconst 3, 1), (114, .newarray .int, 2), (116, .putfield 54, 3), (119, .aload_n 0, 1), (120, .sipush 150, 3), (123, .newarray .int, 2), (125, .putfield 57, 3), (128, .aload_n 0, 1), (129, .sipush 181, 3), (132, .newarray .int, 2), (134, .putfield 60, 3), (137, .aload_n 0, 1), (138, .iconst 5, 1), (139, .newarray .int, 2), (141, .putfield 63, 3), (144, .aload_n 0, 1), (145, .getfield 7, 3), (148, .iconst 5, 1), (149, .invokestatic 66, 3), (152, .return_, 1)] : List (Nat × Instr × Nat)), ax_dk cX10_init q = true := by decide +kernel
theorem ax_d135 : ∀ q ∈ ax_c135, ax_dk cX10_in q = true := by decide +kernel
theorem ax_d136 : ∀ q ∈ ax_c136, ax_dk cX10_bad q = true := by decide +kernel
theorem ax_d137 : ∀ q ∈ ax_c137, ax_dk cX10_no q = true := by decide +kernel
theorem ax_d138 : ∀ q ∈ ax_c138, ax_dk cX10_full q = true := by decide +kernel
theorem ax_d139 : ∀ q ∈ ax_c139, ax_dk cX10_begin q = true := by decide +kernel
theorem ax_d140 : ∀ q ∈ ax_c140, ax_dk cX10_dishes q = true := by decide +kernel
theorem ax_d141 : ∀ q ∈ ax_c141, ax_dk cX10_isDish q = true := by decide +kernel
theorem ax_d142 : ∀ q ∈ ax_c142, ax_dk cX10_isSide q = true := by decide +kernel
theorem ax_d143 : ∀ q ∈ ax_c143, ax_dk cX10_isTaste q = true := by decide +kernel
theorem ax_d144 : ∀ q ∈ ax_c144, ax_dk cX10_get q = true := by decide +kernel
theorem ax_d145 : ∀ q ∈ ax_c145, ax_dk cX10_court q = true := by decide +kernel
theorem ax_d146 : ∀ q ∈ ax_c146, ax_dk cX10_layDish q = true := by decide +kernel
theorem ax_d147 : ∀ q ∈ ax_c147, ax_dk cX10_dish q = true := by decide +kernel
theorem ax_d148 : ∀ q ∈ ax_c148, ax_dk cX10_book q = true := by decide +kernel
theorem ax_d149 : ∀ q ∈ ax_c149, ax_dk cX10_lean q = true := by decide +kernel
theorem ax_d150 : ∀ q ∈ ax_c150, ax_dk cX10_layEmpty q = true := by decide +kernel
theorem ax_d151 : ∀ q ∈ ax_c151, ax_dk cX10_layHand q = true := by decide +kernel
theorem ax_d152 : ∀ q ∈ ax_c152, ax_dk cX10_hungry q = true := by decide +kernel
theorem ax_d153 : ∀ q ∈ ax_c153, ax_dk cX10_sauce q = true := by decide +kernel
theorem ax_d154 : ∀ q ∈ ax_c154, ax_dk cX10_power q = true := by decide +kernel
theorem ax_d155 : ∀ q ∈ ax_c155, ax_dk cX10_does q = true := by decide +kernel
theorem ax_d156 : ∀ q ∈ ax_c156, ax_dk cX10_comesOn q = true := by decide +kernel
theorem ax_d157 : ∀ q ∈ ax_c157, ax_dk cX10_wasServed q = true := by decide +kernel
theorem ax_d158 : ∀ q ∈ ax_c158, ax_dk cX10_isOf q = true := by decide +kernel
theorem ax_d159 : ∀ q ∈ ax_c159, ax_dk cX10_mayServe q = true := by decide +kernel
theorem ax_d160 : ∀ q ∈ ax_c160, ax_dk cX10_verdictOf q = true := by decide +kernel
theorem ax_d161_0 : ∀ q ∈ ([(0, .aload_n 0, 1), (1, .iload_n 1, 1), (2, .invokevirtual 148, 3), (5, .ifCond .eq 10, 3), (8, .iload_n 2, 1), (9, .invokestatic 151, 3), (12, .ifCond .ne 10, 3), (15, .aload_n 0, 1), (16, .bipush (-2), 2), (18, .invokevirtual 82, 3), (21, .ireturn, 1), (22, .aload_n 0, 1), (23, .invokevirtual 154, 3), (26, .aload_n 0, 1), (27, .iload_n 1, 1), (28, .iload_n 2, 1), (29, .invokevirtual 157, 3), (32, .ifCond .ne 8, 3), (35, .aload_n 0, 1), (36, .invokevirtual 160, 3), (39, .ireturn, 1), (40, .bipush 71, 2), (42, .iconst 4, 1), (43, .aload_n 0, 1), (44, .getfield 7, 3), (47, .iconst 3, 1), (48, .iaload, 1), (49, .imul, 1), (50, .iadd, 1), (51, .istore_n 3, 1), (52, .aload_n 0, 1), (53, .getfield 7, 3), (56, .iload_n 3, 1), (57, .iconst 3, 1), (58, .iadd, 1), (59, .aload_n 0, 1), (60, .getfield 7, 3), (63, .iconst 2, 1), (64, .iaload, 1), (65, .iastore, 1), (66, .aload_n 0, 1), (67, .iload_n 1, 1), (68, .iload_n 2, 1), (69, .iconst 1, 1), (70, .invokevirtual 163, 3), (73, .istore 4, 2), (75, .aload_n 0, 1), (76, .getfield 7, 3), (79, .iload_n 3, 1), (80, .iload_n 1, 1)] : List (Nat × Instr × Nat)), ax_dk cX10_serve q = true := by decide +kernel
theorem ax_d161_1 : ∀ q ∈ ([(81, .iastore, 1), (82, .aload_n 0, 1), (83, .getfield 7, 3), (86, .iload_n 3, 1), (87, .iconst 1, 1), (88, .iadd, 1), (89, .iload_n 2, 1), (90, .iastore, 1), (91, .aload_n 0, 1), (92, .getfield 7, 3), (95, .iload_n 3, 1), (96, .iconst 2, 1), (97, .iadd, 1), (98, .iload 4, 2), (100, .iastore, 1), (101, .aload_n 0, 1), (102, .getfield 7, 3), (105, .iconst 3, 1), (106, .dup2, 1), (107, .iaload, 1), (108, .iconst 1, 1), (109, .iadd, 1), (110, .iastore, 1), (111, .aload_n 0, 1), (112, .getfield 7, 3), (115, .iconst 2, 1), (116, .aload_n 0, 1), (117, .getfield 109, 3), (120, .iastore, 1), (121, .iload 4, 2), (123, .ireturn, 1)] : List (Nat × Instr × Nat)), ax_dk cX10_serve q = true := by decide +kernel
theorem ax_d162 : ∀ q ∈ ax_c162, ax_dk cX10_undo q = true := by decide +kernel
theorem ax_d163 : ∀ q ∈ ax_c163, ax_dk cX10_of q = true := by decide +kernel
theorem ax_d164 : ∀ q ∈ ax_c164, ax_dk cX10_course q = true := by decide +kernel
theorem ax_d165 : ∀ q ∈ ax_c165, ax_dk cX10_leans q = true := by decide +kernel
theorem ax_d166 : ∀ q ∈ ax_c166, ax_dk cX10_verdict q = true := by decide +kernel
theorem ax_d167 : ∀ q ∈ ax_c167, ax_dk cX10_menu q = true := by decide +kernel
theorem ax_d168 : ∀ q ∈ ax_c168, ax_dk cX10_wipe q = true := by decide +kernel
theorem ax_d169 : ∀ q ∈ ax_c169, ax_dk cX10_goMenu q = true := by decide +kernel
theorem ax_d170 : ∀ q ∈ ax_c170, ax_dk cX10_goNow q = true := by decide +kernel
theorem ax_d171 : ∀ q ∈ ax_c171, ax_dk cX10_comes q = true := by decide +kernel
theorem ax_d172 : ∀ q ∈ ax_c172, ax_dk cX10_did q = true := by decide +kernel
theorem ax_d173 : ∀ q ∈ ax_c173, ax_dk cX10_layTurn q = true := by decide +kernel
theorem ax_d174 : ∀ q ∈ ax_c174, ax_dk cX10_backTo q = true := by decide +kernel
theorem ax_d175 : ∀ q ∈ ax_c175, ax_dk cX10_judge q = true := by decide +kernel
theorem ax_d176_0 : ∀ q ∈ ([(0, .iconst 0, 1), (1, .istore_n 3, 1), (2, .aload_n 0, 1), (3, .invokevirtual 154, 3), (6, .aload_n 0, 1), (7, .iconst 0, 1), (8, .invokevirtual 184, 3), (11, .iload_n 3, 1), (12, .ifCond .gt 14, 3), (15, .aload_n 0, 1), (16, .getfield 42, 3), (19, .iconst 0, 1), (20, .iaload, 1), (21, .bipush 8, 2), (23, .if_icmp .gt 161, 3), (26, .iload_n 2, 1), (27, .iload_n 3, 1), (28, .iadd, 1), (29, .iconst 2, 1), (30, .irem, 1), (31, .istore 4, 2), (33, .iload_n 3, 1), (34, .iload_n 1, 1), (35, .if_icmp .eq 14, 3), (38, .aload_n 0, 1), (39, .getfield 42, 3), (42, .iload_n 3, 1), (43, .iaload, 1), (44, .bipush 8, 2), (46, .if_icmp .le 45, 3), (49, .iload_n 3, 1), (50, .iload_n 1, 1), (51, .if_icmp .ne 10, 3), (54, .aload_n 0, 1), (55, .getfield 109, 3), (58, .goto 9, 3), (61, .aload_n 0, 1), (62, .getfield 45, 3), (65, .iload_n 3, 1), (66, .iaload, 1), (67, .istore 5, 2), (69, .iinc 3 (-1), 3), (72, .aload_n 0, 1), (73, .iload_n 3, 1), (74, .invokevirtual 188, 3), (77, .aload_n 0, 1), (78, .iload_n 3, 1), (79, .iconst 1, 1), (80, .iload 4, 2), (82, .isub, 1)] : List (Nat × Instr × Nat)), ax_dk cX10_layPlay q = true := by decide +kernel
theorem ax_d176_1 : ∀ q ∈ ([(83, .iload 5, 2), (85, .invokevirtual 191, 3), (88, .goto 93, 3), (91, .aload_n 0, 1), (92, .getfield 42, 3), (95, .iload_n 3, 1), (96, .iaload, 1), (97, .bipush 8, 2), (99, .if_icmp .eq 31, 3), (102, .aload_n 0, 1), (103, .getfield 42, 3), (106, .iload_n 3, 1), (107, .iaload, 1), (108, .aload_n 0, 1), (109, .invokevirtual 70, 3), (112, .if_icmp .ge 59, 3), (115, .aload_n 0, 1), (116, .aload_n 0, 1), (117, .getfield 42, 3), (120, .iload_n 3, 1), (121, .iaload, 1), (122, .iload 4, 2), (124, .invokevirtual 157, 3), (127, .ifCond .eq 44, 3), (130, .aload_n 0, 1), (131, .getfield 42, 3), (134, .iload_n 3, 1), (135, .iaload, 1), (136, .bipush 8, 2), (138, .if_icmp .ne 7, 3), (141, .iconst 0, 1), (142, .goto 16, 3), (145, .aload_n 0, 1), (146, .aload_n 0, 1), (147, .getfield 42, 3), (150, .iload_n 3, 1), (151, .iaload, 1), (152, .iload 4, 2), (154, .iconst 1, 1), (155, .invokevirtual 163, 3), (158, .istore 5, 2), (160, .iinc 3 1, 3), (163, .aload_n 0, 1), (164, .iload_n 3, 1), (165, .invokevirtual 184, 3), (168, .goto 13, 3), (171, .aload_n 0, 1), (172, .getfield 42, 3), (175, .iload_n 3, 1), (176, .dup2, 1)] : List (Nat × Instr × Nat)), ax_dk cX10_layPlay q = true := by decide +kernel
theorem ax_d176_2 : ∀ q ∈ ([(177, .iaload, 1), (178, .iconst 1, 1), (179, .iadd, 1), (180, .iastore, 1), (181, .goto (-170), 3), (184, .aload_n 0, 1), (185, .getfield 45, 3), (188, .iconst 0, 1), (189, .iaload, 1), (190, .ireturn, 1)] : List (Nat × Instr × Nat)), ax_dk cX10_layPlay q = true := by decide +kernel
theorem ax_d177 : ∀ q ∈ ax_c177, ax_dk cX10_play q = true := by decide +kernel
theorem ax_d178 : ∀ q ∈ ax_c178, ax_dk cX10_first q = true := by decide +kernel
theorem ax_d179 : ∀ q ∈ ax_c179, ax_dk cX10_judgeRow q = true := by decide +kernel
theorem ax_d180 : ∀ q ∈ ax_c180, ax_dk cX10_butterOf q = true := by decide +kernel
theorem ax_d181_0 : ∀ q ∈ ([(0, .iconst 0, 1), (1, .istore_n 2, 1), (2, .aload_n 0, 1), (3, .iconst (-1), 1), (4, .putfield 198, 3), (7, .aload_n 0, 1), (8, .iconst 0, 1), (9, .putfield 201, 3), (12, .aload_n 0, 1), (13, .invokevirtual 154, 3), (16, .aload_n 0, 1), (17, .iconst 0, 1), (18, .invokevirtual 184, 3), (21, .aload_n 0, 1), (22, .iconst 0, 1), (23, .iload_n 1, 1), (24, .iconst 0, 1), (25, .invokevirtual 204, 3), (28, .aload_n 0, 1), (29, .getfield 198, 3), (32, .iconst (-1), 1), (33, .if_icmp .ne 7, 3), (36, .iconst 1, 1), (37, .goto 4, 3), (40, .iconst 0, 1), (41, .istore_n 3, 1), (42, .iload_n 3, 1), (43, .ifCond .eq 119, 3), (46, .iload_n 2, 1), (47, .iconst 4, 1), (48, .if_icmp .eq 16, 3), (51, .aload_n 0, 1), (52, .getfield 42, 3), (55, .iload_n 2, 1), (56, .iaload, 1), (57, .aload_n 0, 1), (58, .invokevirtual 70, 3), (61, .if_icmp .lt 38, 3), (64, .iinc 2 (-1), 3), (67, .iload_n 2, 1), (68, .ifCond .lt 7, 3), (71, .iconst 1, 1), (72, .goto 4, 3), (75, .iconst 0, 1), (76, .istore_n 3, 1), (77, .iload_n 3, 1), (78, .ifCond .eq (-36), 3), (81, .aload_n 0, 1), (82, .iload_n 2, 1), (83, .invokevirtual 188, 3)] : List (Nat × Instr × Nat)), ax_dk cX10_layPardon q = true := by decide +kernel
theorem ax_d181_1 : ∀ q ∈ ([(86, .aload_n 0, 1), (87, .getfield 42, 3), (90, .iload_n 2, 1), (91, .dup2, 1), (92, .iaload, 1), (93, .iconst 1, 1), (94, .iadd, 1), (95, .iastore, 1), (96, .goto (-54), 3), (99, .aload_n 0, 1), (100, .aload_n 0, 1), (101, .getfield 42, 3), (104, .iload_n 2, 1), (105, .iaload, 1), (106, .iload_n 1, 1), (107, .invokevirtual 157, 3), (110, .ifCond .eq 39, 3), (113, .aload_n 0, 1), (114, .aload_n 0, 1), (115, .getfield 42, 3), (118, .iload_n 2, 1), (119, .iaload, 1), (120, .iload_n 1, 1), (121, .iconst 1, 1), (122, .invokevirtual 163, 3), (125, .istore 4, 2), (127, .iinc 2 1, 3), (130, .aload_n 0, 1), (131, .iload_n 2, 1), (132, .invokevirtual 184, 3), (135, .aload_n 0, 1), (136, .iload_n 2, 1), (137, .iload_n 1, 1), (138, .aload_n 0, 1), (139, .iload_n 2, 1), (140, .invokevirtual 207, 3), (143, .invokevirtual 204, 3), (146, .goto (-104), 3), (149, .aload_n 0, 1), (150, .getfield 42, 3), (153, .iload_n 2, 1), (154, .dup2, 1), (155, .iaload, 1), (156, .iconst 1, 1), (157, .iadd, 1), (158, .iastore, 1), (159, .goto (-117), 3), (162, .return_, 1)] : List (Nat × Instr × Nat)), ax_dk cX10_layPardon q = true := by decide +kernel
theorem ax_d182 : ∀ q ∈ ax_c182, ax_dk cX10_pardon q = true := by decide +kernel
theorem ax_d183 : ∀ q ∈ ax_c183, ax_dk cX10_cancels q = true := by decide +kernel
theorem ax_d184_0 : ∀ q ∈ ([(0, .iload_n 1, 1), (1, .iconst (-1), 1), (2, .if_icmp .ge 10, 3), (5, .aload_n 0, 1), (6, .bipush (-10), 2), (8, .invokevirtual 82, 3), (11, .ireturn, 1), (12, .iconst 0, 1), (13, .istore_n 2, 1), (14, .bipush (-5), 2), (16, .istore_n 3, 1), (17, .iconst 0, 1), (18, .istore 4, 2), (20, .iload 4, 2), (22, .aload_n 0, 1), (23, .invokevirtual 70, 3), (26, .if_icmp .ge 118, 3), (29, .iload 4, 2), (31, .iconst 1, 1), (32, .iadd, 1), (33, .istore 5, 2), (35, .iload 5, 2), (37, .aload_n 0, 1), (38, .invokevirtual 70, 3), (41, .if_icmp .ge 97, 3), (44, .aload_n 0, 1), (45, .invokevirtual 154, 3), (48, .aload_n 0, 1), (49, .getfield 116, 3), (52, .bipush 8, 2), (54, .if_icmp .ge 25, 3), (57, .aload_n 0, 1), (58, .iload 4, 2), (60, .invokevirtual 141, 3), (63, .ifCond .ne 16, 3), (66, .aload_n 0, 1), (67, .iload 5, 2), (69, .invokevirtual 141, 3), (72, .ifCond .ne 7, 3), (75, .iconst 1, 1), (76, .goto 4, 3), (79, .iconst 0, 1), (80, .istore 6, 2), (82, .iload 6, 2), (84, .ifCond .eq 48, 3), (87, .aload_n 0, 1), (88, .iload 4, 2), (90, .iconst 0, 1), (91, .iload 5, 2), (93, .invokevirtual 213, 3)] : List (Nat × Instr × Nat)), ax_dk cX10_cancel q = true := by decide +kernel
theorem ax_d184_1 : ∀ q ∈ ([(96, .ifCond .eq 36, 3), (99, .aload_n 0, 1), (100, .iload 5, 2), (102, .iconst 1, 1), (103, .iload 4, 2), (105, .invokevirtual 213, 3), (108, .ifCond .eq 24, 3), (111, .iload_n 2, 1), (112, .iload_n 1, 1), (113, .if_icmp .ne 14, 3), (116, .bipush 10, 2), (118, .iload 4, 2), (120, .imul, 1), (121, .iload 5, 2), (123, .iadd, 1), (124, .goto 4, 3), (127, .iload_n 3, 1), (128, .istore_n 3, 1), (129, .iinc 2 1, 3), (132, .iinc 5 1, 3), (135, .goto (-100), 3), (138, .iinc 4 1, 3), (141, .goto (-121), 3), (144, .iload_n 1, 1), (145, .iconst (-1), 1), (146, .if_icmp .ne 7, 3), (149, .iload_n 2, 1), (150, .goto 4, 3), (153, .iload_n 3, 1), (154, .ireturn, 1)] : List (Nat × Instr × Nat)), ax_dk cX10_cancel q = true := by decide +kernel
theorem ax_d185 : ∀ q ∈ ax_c185, ax_dk cX10_undoes q = true := by decide +kernel
theorem ax_d186_0 : ∀ q ∈ ([(0, .iload_n 1, 1), (1, .invokestatic 151, 3), (4, .ifCond .eq 15, 3), (7, .iload_n 2, 1), (8, .i2l, 1), (9, .lconst 0, 1), (10, .ldc2_w 92, 3), (13, .invokestatic 74, 3), (16, .ifCond .ne 10, 3), (19, .aload_n 0, 1), (20, .bipush (-2), 2), (22, .invokevirtual 82, 3), (25, .ireturn, 1), (26, .aload_n 0, 1), (27, .getfield 7, 3), (30, .iconst 5, 1), (31, .iaload, 1), (32, .bipush 6, 2), (34, .if_icmp .ne 8, 3), (37, .aload_n 0, 1), (38, .invokevirtual 94, 3), (41, .ireturn, 1), (42, .bipush 115, 2), (44, .bipush 11, 2), (46, .aload_n 0, 1), (47, .getfield 7, 3), (50, .iconst 5, 1), (51, .iaload, 1), (52, .imul, 1), (53, .iadd, 1), (54, .istore_n 3, 1), (55, .aload_n 0, 1), (56, .getfield 7, 3), (59, .iload_n 3, 1), (60, .iload_n 1, 1), (61, .iastore, 1), (62, .aload_n 0, 1), (63, .getfield 7, 3), (66, .iload_n 3, 1), (67, .iconst 1, 1), (68, .iadd, 1), (69, .iload_n 2, 1), (70, .iastore, 1), (71, .aload_n 0, 1), (72, .getfield 7, 3), (75, .iload_n 3, 1), (76, .iconst 2, 1), (77, .iadd, 1), (78, .aload_n 0, 1), (79, .getfield 7, 3)] : List (Nat × Instr × Nat)), ax_dk cX10_reading q = true := by decide +kernel
theorem ax_d186_1 : ∀ q ∈ ([(82, .iconst 4, 1), (83, .iaload, 1), (84, .iastore, 1), (85, .iconst 0, 1), (86, .istore 4, 2), (88, .iload 4, 2), (90, .aload_n 0, 1), (91, .getfield 7, 3), (94, .iconst 4, 1), (95, .iaload, 1), (96, .if_icmp .ge 30, 3), (99, .aload_n 0, 1), (100, .getfield 7, 3), (103, .iload_n 3, 1), (104, .iconst 3, 1), (105, .iadd, 1), (106, .iload 4, 2), (108, .iadd, 1), (109, .aload_n 0, 1), (110, .getfield 7, 3), (113, .bipush 107, 2), (115, .iload 4, 2), (117, .iadd, 1), (118, .iaload, 1), (119, .iastore, 1), (120, .iinc 4 1, 3), (123, .goto (-35), 3), (126, .aload_n 0, 1), (127, .getfield 7, 3), (130, .iconst 5, 1), (131, .dup2, 1), (132, .iaload, 1), (133, .iconst 1, 1), (134, .iadd, 1), (135, .iastore, 1), (136, .aload_n 0, 1), (137, .getfield 7, 3), (140, .iconst 5, 1), (141, .iaload, 1), (142, .ireturn, 1)] : List (Nat × Instr × Nat)), ax_dk cX10_reading q = true := by decide +kernel
theorem ax_d187 : ∀ q ∈ ax_c187, ax_dk cX10_forget q = true := by decide +kernel
theorem ax_d188 : ∀ q ∈ ax_c188, ax_dk cX10_turnsBy q = true := by decide +kernel
theorem ax_d189 : ∀ q ∈ ax_c189, ax_dk cX10_layTurns q = true := by decide +kernel
theorem ax_d190 : ∀ q ∈ ax_c190, ax_dk cX10_canBe q = true := by decide +kernel
theorem ax_d191 : ∀ q ∈ ax_c191, ax_dk cX10_before q = true := by decide +kernel
theorem ax_d192_0 : ∀ q ∈ ([(0, .iload_n 1, 1), (1, .invokestatic 151, 3), (4, .ifCond .ne 10, 3), (7, .aload_n 0, 1), (8, .bipush (-2), 2), (10, .invokevirtual 82, 3), (13, .ireturn, 1), (14, .aload_n 0, 1), (15, .bipush 107, 2), (17, .aload_n 0, 1), (18, .getfield 7, 3), (21, .iconst 4, 1), (22, .iaload, 1), (23, .iload_n 1, 1), (24, .invokevirtual 220, 3), (27, .istore_n 2, 1), (28, .aload_n 0, 1), (29, .invokevirtual 223, 3), (32, .iconst 0, 1), (33, .istore_n 3, 1), (34, .iload_n 3, 1), (35, .iconst 3, 1), (36, .if_icmp .ge 16, 3), (39, .aload_n 0, 1), (40, .getfield 54, 3), (43, .iload_n 3, 1), (44, .iconst 0, 1), (45, .iastore, 1), (46, .iinc 3 1, 3), (49, .goto (-15), 3), (52, .bipush (-30), 2), (54, .istore_n 3, 1), (55, .iload_n 3, 1), (56, .bipush 30, 2), (58, .if_icmp .gt 36, 3), (61, .aload_n 0, 1), (62, .iload_n 3, 1), (63, .invokevirtual 226, 3), (66, .ifCond .eq 22, 3), (69, .iload_n 3, 1), (70, .iload_n 2, 1), (71, .iadd, 1), (72, .invokestatic 169, 3), (75, .istore 4, 2), (77, .aload_n 0, 1), (78, .getfield 54, 3), (81, .iload 4, 2), (83, .dup2, 1), (84, .iaload, 1), (85, .iconst 1, 1)] : List (Nat × Instr × Nat)), ax_dk cX10_tells q = true := by decide +kernel
theorem ax_d192_1 : ∀ q ∈ ([(86, .iadd, 1), (87, .iastore, 1), (88, .iinc 3 1, 3), (91, .goto (-36), 3), (94, .aload_n 0, 1), (95, .getfield 54, 3), (98, .iconst 0, 1), (99, .iaload, 1), (100, .aload_n 0, 1), (101, .getfield 54, 3), (104, .iconst 1, 1), (105, .iaload, 1), (106, .if_icmp .le 12, 3), (109, .aload_n 0, 1), (110, .getfield 54, 3), (113, .iconst 0, 1), (114, .iaload, 1), (115, .goto 9, 3), (118, .aload_n 0, 1), (119, .getfield 54, 3), (122, .iconst 1, 1), (123, .iaload, 1), (124, .istore_n 3, 1), (125, .iload_n 3, 1), (126, .aload_n 0, 1), (127, .getfield 54, 3), (130, .iconst 2, 1), (131, .iaload, 1), (132, .if_icmp .le 7, 3), (135, .iload_n 3, 1), (136, .goto 9, 3), (139, .aload_n 0, 1), (140, .getfield 54, 3), (143, .iconst 2, 1), (144, .iaload, 1), (145, .ireturn, 1)] : List (Nat × Instr × Nat)), ax_dk cX10_tells q = true := by decide +kernel
theorem ax_d193 : ∀ q ∈ ax_c193, ax_dk cX10_sure q = true := by decide +kernel
theorem ax_d194 : ∀ q ∈ ax_c194, ax_dk cX10_fraction q = true := by decide +kernel
theorem ax_d195_0 : ∀ q ∈ ([(0, .iload_n 1, 1), (1, .invokestatic 151, 3), (4, .ifCond .eq 27, 3), (7, .iload_n 2, 1), (8, .i2l, 1), (9, .lconst 0, 1), (10, .ldc2_w 232, 3), (13, .invokestatic 74, 3), (16, .ifCond .eq 15, 3), (19, .iload_n 3, 1), (20, .i2l, 1), (21, .lconst 0, 1), (22, .ldc2_w 92, 3), (25, .invokestatic 74, 3), (28, .ifCond .ne 10, 3), (31, .aload_n 0, 1), (32, .bipush (-2), 2), (34, .invokevirtual 82, 3), (37, .ireturn, 1), (38, .lconst 0, 1), (39, .lstore 4, 2), (41, .lconst 1, 1), (42, .lstore 6, 2), (44, .iconst 0, 1), (45, .istore 8, 2), (47, .iload 8, 2), (49, .aload_n 0, 1), (50, .getfield 7, 3), (53, .iconst 4, 1), (54, .iaload, 1), (55, .if_icmp .ge 17, 3), (58, .lload 6, 2), (60, .ldc2_w 232, 3), (63, .lmul, 1), (64, .lstore 6, 2), (66, .iinc 8 1, 3), (69, .goto (-22), 3), (72, .iconst 0, 1), (73, .istore 8, 2), (75, .iload 8, 2), (77, .iconst 1, 1), (78, .aload_n 0, 1), (79, .getfield 7, 3), (82, .iconst 4, 1), (83, .iaload, 1), (84, .ishl, 1), (85, .if_icmp .ge 87, 3), (88, .lconst 1, 1), (89, .lstore 9, 2), (91, .iconst 0, 1)] : List (Nat × Instr × Nat)), ax_dk cX10_burnt q = true := by decide +kernel
theorem ax_d195_1 : ∀ q ∈ ([(92, .istore 11, 2), (94, .iload 11, 2), (96, .aload_n 0, 1), (97, .getfield 7, 3), (100, .iconst 4, 1), (101, .iaload, 1), (102, .if_icmp .ge 35, 3), (105, .lload 9, 2), (107, .iload 8, 2), (109, .iload 11, 2), (111, .ishr, 1), (112, .iconst 1, 1), (113, .iand, 1), (114, .iconst 1, 1), (115, .if_icmp .ne 8, 3), (118, .iload_n 2, 1), (119, .i2l, 1), (120, .goto 8, 3), (123, .bipush 10, 2), (125, .iload_n 2, 1), (126, .isub, 1), (127, .i2l, 1), (128, .lmul, 1), (129, .lstore 9, 2), (131, .iinc 11 1, 3), (134, .goto (-40), 3), (137, .aload_n 0, 1), (138, .iload_n 1, 1), (139, .iload 8, 2), (141, .invokevirtual 176, 3), (144, .lload 4, 2), (146, .aload_n 0, 1), (147, .getfield 109, 3), (150, .invokestatic 169, 3), (153, .iload_n 3, 1), (154, .if_icmp .ne 8, 3), (157, .lload 9, 2), (159, .goto 4, 3), (162, .lconst 0, 1), (163, .ladd, 1), (164, .lstore 4, 2), (166, .iinc 8 1, 3), (169, .goto (-94), 3), (172, .aload_n 0, 1), (173, .lload 4, 2), (175, .lload 6, 2), (177, .invokevirtual 234, 3), (180, .iconst 1, 1), (181, .ireturn, 1)] : List (Nat × Instr × Nat)), ax_dk cX10_burnt q = true := by decide +kernel
theorem ax_d196_0 : ∀ q ∈ ([(0, .iload_n 1, 1), (1, .i2l, 1), (2, .lconst 0, 1), (3, .ldc2_w 238, 3), (6, .invokestatic 74, 3), (9, .ifCond .eq 15, 3), (12, .iload_n 2, 1), (13, .i2l, 1), (14, .lconst 0, 1), (15, .ldc2_w 240, 3), (18, .invokestatic 74, 3), (21, .ifCond .ne 10, 3), (24, .aload_n 0, 1), (25, .bipush (-2), 2), (27, .invokevirtual 82, 3), (30, .ireturn, 1), (31, .iload_n 1, 1), (32, .i2l, 1), (33, .lstore_n 3, 1), (34, .iconst 0, 1), (35, .istore 5, 2), (37, .iconst 0, 1), (38, .istore 6, 2), (40, .iload 6, 2), (42, .iload_n 2, 1), (43, .if_icmp .ge 131, 3), (46, .aload_n 0, 1), (47, .invokevirtual 154, 3), (50, .iconst 0, 1), (51, .istore 7, 2), (53, .iconst 1, 1), (54, .istore 8, 2), (56, .iload 8, 2), (58, .ifCond .eq 90, 3), (61, .aload_n 0, 1), (62, .getfield 116, 3), (65, .bipush 9, 2), (67, .if_icmp .ge 81, 3), (70, .lload_n 3, 1), (71, .ldc2_w 242, 3), (74, .lmul, 1), (75, .ldc2_w 244, 3), (78, .ladd, 1), (79, .ldc2_w 246, 3), (82, .lrem, 1), (83, .lstore_n 3, 1), (84, .lload_n 3, 1), (85, .ldc2_w 248, 3), (88, .ldiv, 1), (89, .ldc2_w 80, 3)] : List (Nat × Instr × Nat)), ax_dk cX10_dinners q = true := by decide +kernel
theorem ax_d196_1 : ∀ q ∈ ([(92, .lrem, 1), (93, .l2i, 1), (94, .istore 9, 2), (96, .iload 9, 2), (98, .aload_n 0, 1), (99, .invokevirtual 70, 3), (102, .if_icmp .ge 18, 3), (105, .aload_n 0, 1), (106, .iload 9, 2), (108, .iload 7, 2), (110, .invokevirtual 157, 3), (113, .ifCond .eq 7, 3), (116, .iconst 1, 1), (117, .goto 4, 3), (120, .iconst 0, 1), (121, .istore 8, 2), (123, .iload 8, 2), (125, .ifCond .eq 20, 3), (128, .aload_n 0, 1), (129, .iload 9, 2), (131, .iload 7, 2), (133, .iconst 1, 1), (134, .invokevirtual 163, 3), (137, .istore 10, 2), (139, .iconst 1, 1), (140, .iload 7, 2), (142, .isub, 1), (143, .istore 7, 2), (145, .goto (-89), 3), (148, .iload 5, 2), (150, .aload_n 0, 1), (151, .getfield 109, 3), (154, .invokestatic 169, 3), (157, .ifCond .ne 7, 3), (160, .iconst 1, 1), (161, .goto 4, 3), (164, .iconst 0, 1), (165, .iadd, 1), (166, .istore 5, 2), (168, .iinc 6 1, 3), (171, .goto (-131), 3), (174, .iload 5, 2), (176, .ireturn, 1)] : List (Nat × Instr × Nat)), ax_dk cX10_dinners q = true := by decide +kernel
theorem ax_d197 : ∀ q ∈ ax_c197, ax_dk cX10_type q = true := by decide +kernel
theorem ax_d198 : ∀ q ∈ ax_c198, ax_dk cX10_clear q = true := by decide +kernel
theorem ax_d199 : ∀ q ∈ ax_c199, ax_dk cX10_isSmall q = true := by decide +kernel
theorem ax_d200 : ∀ q ∈ ax_c200, ax_dk cX10_isFigure q = true := by decide +kernel
theorem ax_d201_0 : ∀ q ∈ ([(0, .aload_n 0, 1), (1, .iload_n 1, 1), (2, .putfield 263, 3), (5, .aload_n 0, 1), (6, .getfield 263, 3), (9, .aload_n 0, 1), (10, .getfield 252, 3), (13, .if_icmp .ge 30, 3), (16, .aload_n 0, 1), (17, .getfield 57, 3), (20, .aload_n 0, 1), (21, .getfield 263, 3), (24, .iaload, 1), (25, .bipush 32, 2), (27, .if_icmp .ne 16, 3), (30, .aload_n 0, 1), (31, .dup, 1), (32, .getfield 263, 3), (35, .iconst 1, 1), (36, .iadd, 1), (37, .putfield 263, 3), (40, .goto (-35), 3), (43, .aload_n 0, 1), (44, .iconst 0, 1), (45, .putfield 266, 3), (48, .aload_n 0, 1), (49, .iconst 0, 1), (50, .putfield 269, 3), (53, .aload_n 0, 1), (54, .iconst 0, 1), (55, .putfield 272, 3), (58, .aload_n 0, 1), (59, .getfield 263, 3), (62, .aload_n 0, 1), (63, .getfield 252, 3), (66, .if_icmp .ne 4, 3), (69, .return_, 1), (70, .aload_n 0, 1), (71, .getfield 57, 3), (74, .aload_n 0, 1), (75, .getfield 263, 3), (78, .iaload, 1), (79, .istore_n 2, 1), (80, .aload_n 0, 1), (81, .iload_n 2, 1), (82, .invokestatic 275, 3), (85, .ifCond .eq 7, 3), (88, .iconst 1, 1), (89, .goto 25, 3), (92, .iload_n 2, 1)] : List (Nat × Instr × Nat)), ax_dk cX10_lookAt q = true := by decide +kernel
theorem ax_d201_1 : ∀ q ∈ ([(93, .invokestatic 278, 3), (96, .ifCond .eq 7, 3), (99, .iconst 2, 1), (100, .goto 14, 3), (103, .iload_n 2, 1), (104, .bipush 59, 2), (106, .if_icmp .ne 7, 3), (109, .iconst 3, 1), (110, .goto 4, 3), (113, .iconst 4, 1), (114, .putfield 269, 3), (117, .aload_n 0, 1), (118, .iconst 1, 1), (119, .putfield 266, 3), (122, .aload_n 0, 1), (123, .getfield 269, 3), (126, .iconst 3, 1), (127, .if_icmp .ge 7, 3), (130, .iconst 1, 1), (131, .goto 4, 3), (134, .iconst 0, 1), (135, .istore_n 3, 1), (136, .iload_n 3, 1), (137, .ifCond .eq 78, 3), (140, .aload_n 0, 1), (141, .getfield 263, 3), (144, .aload_n 0, 1), (145, .getfield 266, 3), (148, .iadd, 1), (149, .aload_n 0, 1), (150, .getfield 252, 3), (153, .if_icmp .ge 62, 3), (156, .aload_n 0, 1), (157, .getfield 57, 3), (160, .aload_n 0, 1), (161, .getfield 263, 3), (164, .aload_n 0, 1), (165, .getfield 266, 3), (168, .iadd, 1), (169, .iaload, 1), (170, .istore 4, 2), (172, .aload_n 0, 1), (173, .getfield 269, 3), (176, .iconst 1, 1), (177, .if_icmp .ne 11, 3), (180, .iload 4, 2), (182, .invokestatic 275, 3), (185, .goto 8, 3), (188, .iload 4, 2), (190, .invokestatic 278, 3)] : List (Nat × Instr × Nat)), ax_dk cX10_lookAt q = true := by decide +kernel
theorem ax_d201_2 : ∀ q ∈ ([(193, .istore_n 3, 1), (194, .aload_n 0, 1), (195, .dup, 1), (196, .getfield 266, 3), (199, .iload_n 3, 1), (200, .ifCond .eq 7, 3), (203, .iconst 1, 1), (204, .goto 4, 3), (207, .iconst 0, 1), (208, .iadd, 1), (209, .putfield 266, 3), (212, .goto (-76), 3), (215, .iconst 0, 1), (216, .istore 4, 2), (218, .iload 4, 2), (220, .aload_n 0, 1), (221, .getfield 266, 3), (224, .if_icmp .ge 50, 3), (227, .iload 4, 2), (229, .iconst 2, 1), (230, .if_icmp .ge 44, 3), (233, .aload_n 0, 1), (234, .getfield 269, 3), (237, .iconst 2, 1), (238, .if_icmp .ne 36, 3), (241, .aload_n 0, 1), (242, .bipush 10, 2), (244, .aload_n 0, 1), (245, .getfield 272, 3), (248, .imul, 1), (249, .aload_n 0, 1), (250, .getfield 57, 3), (253, .aload_n 0, 1), (254, .getfield 263, 3), (257, .iload 4, 2), (259, .iadd, 1), (260, .iaload, 1), (261, .iadd, 1), (262, .bipush 48, 2), (264, .isub, 1), (265, .putfield 272, 3), (268, .iinc 4 1, 3), (271, .goto (-53), 3), (274, .aload_n 0, 1), (275, .aload_n 0, 1), (276, .getfield 269, 3), (279, .iconst 2, 1), (280, .if_icmp .ne 15, 3), (283, .aload_n 0, 1), (284, .getfield 266, 3)] : List (Nat × Instr × Nat)), ax_dk cX10_lookAt q = true := by decide +kernel
theorem ax_d201_3 : ∀ q ∈ ([(287, .iconst 2, 1), (288, .if_icmp .le 7, 3), (291, .iconst 4, 1), (292, .goto 7, 3), (295, .aload_n 0, 1), (296, .getfield 269, 3), (299, .putfield 269, 3), (302, .return_, 1)] : List (Nat × Instr × Nat)), ax_dk cX10_lookAt q = true := by decide +kernel
theorem ax_d202 : ∀ q ∈ ax_c202, ax_dk cX10_goBehind q = true := by decide +kernel
theorem ax_d203 : ∀ q ∈ ax_c203, ax_dk cX10_isWord q = true := by decide +kernel
theorem ax_d204 : ∀ q ∈ ax_c204, ax_dk cX10_takes q = true := by decide +kernel
theorem ax_d205 : ∀ q ∈ ax_c205, ax_dk cX10_takesFirst q = true := by decide +kernel
theorem ax_d206 : ∀ q ∈ ax_c206, ax_dk cX10_takesDish q = true := by decide +kernel
theorem ax_d207 : ∀ q ∈ ax_c207, ax_dk cX10_takesBook q = true := by decide +kernel
theorem ax_d208 : ∀ q ∈ ax_c208, ax_dk cX10_takesItem q = true := by decide +kernel
theorem ax_d209 : ∀ q ∈ ax_c209, ax_dk cX10_read q = true := by decide +kernel
theorem ax_d210 : ∀ q ∈ ax_c210, ax_dk cX10_part q = true := by decide +kernel
theorem ax_d211 : ∀ q ∈ ax_c211, ax_dk cX10_image q = true := by decide +kernel
theorem ax_d212 : ∀ q ∈ ax_c212, ax_dk cX10_from q = true := by decide +kernel
theorem ax_d213 : ∀ q ∈ ax_c213, ax_dk cX10_status q = true := by decide +kernel
theorem ax_d214 : ∀ q ∈ ax_c214, ax_dk cX10_counted q = true := by decide +kernel
theorem ax_d215 : ∀ q ∈ ax_c215, ax_dk cX10_count q = true := by decide +kernel
theorem ax_d216 : ∀ q ∈ ax_c216, ax_dk cX10_sums q = true := by decide +kernel
theorem ax_d217_0 : ∀ q ∈ ([(0, .ldc2_w 312, 3), (3, .lstore_n 1, 1), (4, .iconst 0, 1), (5, .istore_n 3, 1), (6, .iload_n 3, 1), (7, .bipush 6, 2), (9, .if_icmp .ge 22, 3), (12, .ldc2_w 310, 3), (15, .lload_n 1, 1), (16, .lmul, 1), (17, .aload_n 0, 1), (18, .iload_n 3, 1), (19, .invokevirtual 307, 3), (22, .i2l, 1), (23, .ladd, 1), (24, .lstore_n 1, 1), (25, .iinc 3 1, 3), (28, .goto (-22), 3), (31, .ldc2_w 310, 3), (34, .lload_n 1, 1), (35, .lmul, 1), (36, .aload_n 0, 1), (37, .getfield 7, 3), (40, .iconst 2, 1), (41, .iaload, 1), (42, .i2l, 1), (43, .ladd, 1), (44, .lstore_n 1, 1), (45, .aload_n 0, 1), (46, .lload_n 1, 1), (47, .bipush 46, 2), (49, .bipush 25, 2), (51, .invokevirtual 314, 3), (54, .lstore_n 1, 1), (55, .aload_n 0, 1), (56, .lload_n 1, 1), (57, .bipush 6, 2), (59, .iconst 5, 1), (60, .aload_n 0, 1), (61, .invokevirtual 70, 3), (64, .imul, 1), (65, .invokevirtual 314, 3), (68, .lstore_n 1, 1), (69, .iconst 0, 1), (70, .istore_n 3, 1), (71, .iload_n 3, 1), (72, .aload_n 0, 1), (73, .getfield 7, 3), (76, .iconst 3, 1), (77, .iaload, 1)] : List (Nat × Instr × Nat)), ax_dk cX10_digest q = true := by decide +kernel
theorem ax_d217_1 : ∀ q ∈ ([(78, .if_icmp .ge 22, 3), (81, .aload_n 0, 1), (82, .lload_n 1, 1), (83, .bipush 71, 2), (85, .iconst 4, 1), (86, .iload_n 3, 1), (87, .imul, 1), (88, .iadd, 1), (89, .iconst 3, 1), (90, .invokevirtual 314, 3), (93, .lstore_n 1, 1), (94, .iinc 3 1, 3), (97, .goto (-26), 3), (100, .aload_n 0, 1), (101, .lload_n 1, 1), (102, .bipush 107, 2), (104, .aload_n 0, 1), (105, .getfield 7, 3), (108, .iconst 4, 1), (109, .iaload, 1), (110, .invokevirtual 314, 3), (113, .lstore_n 1, 1), (114, .iconst 0, 1), (115, .istore_n 3, 1), (116, .iload_n 3, 1), (117, .aload_n 0, 1), (118, .getfield 7, 3), (121, .iconst 5, 1), (122, .iaload, 1), (123, .if_icmp .ge 38, 3), (126, .aload_n 0, 1), (127, .lload_n 1, 1), (128, .bipush 115, 2), (130, .bipush 11, 2), (132, .iload_n 3, 1), (133, .imul, 1), (134, .iadd, 1), (135, .iconst 3, 1), (136, .aload_n 0, 1), (137, .getfield 7, 3), (140, .bipush 115, 2), (142, .bipush 11, 2), (144, .iload_n 3, 1), (145, .imul, 1), (146, .iadd, 1), (147, .iconst 2, 1), (148, .iadd, 1), (149, .iaload, 1), (150, .iadd, 1), (151, .invokevirtual 314, 3)] : List (Nat × Instr × Nat)), ax_dk cX10_digest q = true := by decide +kernel
theorem ax_d217_2 : ∀ q ∈ ([(154, .lstore_n 1, 1), (155, .iinc 3 1, 3), (158, .goto (-42), 3), (161, .ldc2_w 310, 3), (164, .ldc2_w 310, 3), (167, .lload_n 1, 1), (168, .lmul, 1), (169, .aload_n 0, 1), (170, .getfield 229, 3), (173, .ladd, 1), (174, .lmul, 1), (175, .aload_n 0, 1), (176, .getfield 23, 3), (179, .ladd, 1), (180, .lreturn, 1)] : List (Nat × Instr × Nat)), ax_dk cX10_digest q = true := by decide +kernel
theorem ax_d218 : ∀ q ∈ ax_c218, ax_dk cJ6_bitCount_0f7a4 q = true := by decide +kernel
theorem ax_d219 : ∀ q ∈ ax_c219, ax_dk cJ0_length_8abf5 q = true := by decide +kernel
theorem ax_d220 : ∀ q ∈ ax_c220, ax_dk cJ0_charAt_5068e q = true := by decide +kernel
theorem ax_d221 : ∀ q ∈ ax_c221, ax_dk cJ0_coder_7d493 q = true := by decide +kernel
theorem ax_d222 : ∀ q ∈ ax_c222, ax_dk cJ0_isLatin1_aae02 q = true := by decide +kernel
theorem ax_d223 : ∀ q ∈ ax_c223, ax_dk cJ0_checkIndex_df160 q = true := by decide +kernel
theorem ax_d224 : ∀ q ∈ ax_c224, ax_dk cJ1_charAt_3b067 q = true := by decide +kernel
theorem ax_d225 : ∀ q ∈ ax_c225, ax_dk cJ3_checkIndex_8e157 q = true := by decide +kernel
theorem ax_d226_0 : ∀ q ∈ ([(0, .new 7, 3), (3, .dup, 1), (4, .invokespecial 9, 3), (7, .astore_n 1, 1), (8, .new 10, 3), (11, .dup, 1), (12, .invokespecial 12, 3), (15, .astore_n 2, 1), (16, .iconst 0, 1), (17, .istore_n 3, 1), (18, .iload_n 3, 1), (19, .aload_n 0, 1), (20, .arraylength, 1), (21, .bipush 6, 2), (23, .isub, 1), (24, .if_icmp .gt 1067, 3), (27, .aload_n 0, 1), (28, .iload_n 3, 1), (29, .iaload, 1), (30, .bipush 63, 2), (32, .iand, 1), (33, .tableswitch 1052 0 34 #[155, 178, 241, 284, 307, 330, 343, 356, 389, 402, 435, 468, 481, 494, 517, 530, 553, 586, 619, 652, 685, 708, 731, 764, 777, 800, 823, 846, 889, 922, 946, 969, 992, 1015, 1038], 155), (188, .aload_n 1, 1), (189, .aload_n 0, 1), (190, .iload_n 3, 1), (191, .iconst 1, 1), (192, .iadd, 1), (193, .iaload, 1), (194, .invokevirtual 13, 3), (197, .aload_n 2, 1), (198, .aload_n 0, 1), (199, .iload_n 3, 1), (200, .iconst 1, 1), (201, .iadd, 1), (202, .iaload, 1), (203, .invokevirtual 17, 3), (206, .if_icmp .eq 879, 3), (209, .iconst 0, 1), (210, .ireturn, 1), (211, .aload_n 1, 1), (212, .aload_n 0, 1), (213, .iload_n 3, 1), (214, .iconst 1, 1), (215, .iadd, 1), (216, .iaload, 1), (217, .aload_n 0, 1), (218, .iload_n 3, 1), (219, .iconst 2, 1), (220, .iadd, 1), (221, .iaload, 1)] : List (Nat × Instr × Nat)), ax_dk cL_law q = true := by decide +kernel
theorem ax_d226_1 : ∀ q ∈ ([(222, .aload_n 0, 1), (223, .iload_n 3, 1), (224, .iconst 3, 1), (225, .iadd, 1), (226, .iaload, 1), (227, .aload_n 0, 1), (228, .iload_n 3, 1), (229, .iconst 4, 1), (230, .iadd, 1), (231, .iaload, 1), (232, .aload_n 0, 1), (233, .iload_n 3, 1), (234, .iconst 5, 1), (235, .iadd, 1), (236, .iaload, 1), (237, .invokevirtual 18, 3), (240, .aload_n 2, 1), (241, .aload_n 0, 1), (242, .iload_n 3, 1), (243, .iconst 1, 1), (244, .iadd, 1), (245, .iaload, 1), (246, .aload_n 0, 1), (247, .iload_n 3, 1), (248, .iconst 2, 1), (249, .iadd, 1), (250, .iaload, 1), (251, .aload_n 0, 1), (252, .iload_n 3, 1), (253, .iconst 3, 1), (254, .iadd, 1), (255, .iaload, 1), (256, .aload_n 0, 1), (257, .iload_n 3, 1), (258, .iconst 4, 1), (259, .iadd, 1), (260, .iaload, 1), (261, .aload_n 0, 1), (262, .iload_n 3, 1), (263, .iconst 5, 1), (264, .iadd, 1), (265, .iaload, 1), (266, .invokevirtual 22, 3), (269, .if_icmp .eq 816, 3), (272, .iconst 0, 1), (273, .ireturn, 1), (274, .aload_n 1, 1), (275, .aload_n 0, 1), (276, .iload_n 3, 1), (277, .iconst 1, 1)] : List (Nat × Instr × Nat)), ax_dk cL_law q = true := by decide +kernel
theorem ax_d226_2 : ∀ q ∈ ([(278, .iadd, 1), (279, .iaload, 1), (280, .aload_n 0, 1), (281, .iload_n 3, 1), (282, .iconst 2, 1), (283, .iadd, 1), (284, .iaload, 1), (285, .aload_n 0, 1), (286, .iload_n 3, 1), (287, .iconst 3, 1), (288, .iadd, 1), (289, .iaload, 1), (290, .invokevirtual 23, 3), (293, .aload_n 2, 1), (294, .aload_n 0, 1), (295, .iload_n 3, 1), (296, .iconst 1, 1), (297, .iadd, 1), (298, .iaload, 1), (299, .aload_n 0, 1), (300, .iload_n 3, 1), (301, .iconst 2, 1), (302, .iadd, 1), (303, .iaload, 1), (304, .aload_n 0, 1), (305, .iload_n 3, 1), (306, .iconst 3, 1), (307, .iadd, 1), (308, .iaload, 1), (309, .invokevirtual 27, 3), (312, .if_icmp .eq 773, 3), (315, .iconst 0, 1), (316, .ireturn, 1), (317, .aload_n 1, 1), (318, .aload_n 0, 1), (319, .iload_n 3, 1), (320, .iconst 1, 1), (321, .iadd, 1), (322, .iaload, 1), (323, .invokevirtual 28, 3), (326, .aload_n 2, 1), (327, .aload_n 0, 1), (328, .iload_n 3, 1), (329, .iconst 1, 1), (330, .iadd, 1), (331, .iaload, 1), (332, .invokevirtual 31, 3), (335, .if_icmp .eq 750, 3), (338, .iconst 0, 1), (339, .ireturn, 1)] : List (Nat × Instr × Nat)), ax_dk cL_law q = true := by decide +kernel
theorem ax_d226_3 : ∀ q ∈ ([(340, .aload_n 1, 1), (341, .aload_n 0, 1), (342, .iload_n 3, 1), (343, .iconst 1, 1), (344, .iadd, 1), (345, .iaload, 1), (346, .invokevirtual 32, 3), (349, .aload_n 2, 1), (350, .aload_n 0, 1), (351, .iload_n 3, 1), (352, .iconst 1, 1), (353, .iadd, 1), (354, .iaload, 1), (355, .invokevirtual 35, 3), (358, .if_icmp .eq 727, 3), (361, .iconst 0, 1), (362, .ireturn, 1), (363, .aload_n 1, 1), (364, .invokevirtual 36, 3), (367, .aload_n 2, 1), (368, .invokevirtual 40, 3), (371, .if_icmp .eq 714, 3), (374, .iconst 0, 1), (375, .ireturn, 1), (376, .aload_n 1, 1), (377, .invokevirtual 41, 3), (380, .aload_n 2, 1), (381, .invokevirtual 44, 3), (384, .if_icmp .eq 701, 3), (387, .iconst 0, 1), (388, .ireturn, 1), (389, .aload_n 1, 1), (390, .aload_n 0, 1), (391, .iload_n 3, 1), (392, .iconst 1, 1), (393, .iadd, 1), (394, .iaload, 1), (395, .aload_n 0, 1), (396, .iload_n 3, 1), (397, .iconst 2, 1), (398, .iadd, 1), (399, .iaload, 1), (400, .invokevirtual 45, 3), (403, .aload_n 2, 1), (404, .aload_n 0, 1), (405, .iload_n 3, 1), (406, .iconst 1, 1), (407, .iadd, 1), (408, .iaload, 1), (409, .aload_n 0, 1)] : List (Nat × Instr × Nat)), ax_dk cL_law q = true := by decide +kernel
theorem ax_d226_4 : ∀ q ∈ ([(410, .iload_n 3, 1), (411, .iconst 2, 1), (412, .iadd, 1), (413, .iaload, 1), (414, .invokevirtual 49, 3), (417, .if_icmp .eq 668, 3), (420, .iconst 0, 1), (421, .ireturn, 1), (422, .aload_n 1, 1), (423, .invokevirtual 50, 3), (426, .aload_n 2, 1), (427, .invokevirtual 53, 3), (430, .if_icmp .eq 655, 3), (433, .iconst 0, 1), (434, .ireturn, 1), (435, .aload_n 1, 1), (436, .aload_n 0, 1), (437, .iload_n 3, 1), (438, .iconst 1, 1), (439, .iadd, 1), (440, .iaload, 1), (441, .aload_n 0, 1), (442, .iload_n 3, 1), (443, .iconst 2, 1), (444, .iadd, 1), (445, .iaload, 1), (446, .invokevirtual 54, 3), (449, .aload_n 2, 1), (450, .aload_n 0, 1), (451, .iload_n 3, 1), (452, .iconst 1, 1), (453, .iadd, 1), (454, .iaload, 1), (455, .aload_n 0, 1), (456, .iload_n 3, 1), (457, .iconst 2, 1), (458, .iadd, 1), (459, .iaload, 1), (460, .invokevirtual 57, 3), (463, .if_icmp .eq 622, 3), (466, .iconst 0, 1), (467, .ireturn, 1), (468, .aload_n 1, 1), (469, .aload_n 0, 1), (470, .iload_n 3, 1), (471, .iconst 1, 1), (472, .iadd, 1), (473, .iaload, 1), (474, .aload_n 0, 1), (475, .iload_n 3, 1)] : List (Nat × Instr × Nat)), ax_dk cL_law q = true := by decide +kernel
theorem ax_d226_5 : ∀ q ∈ ([(476, .iconst 2, 1), (477, .iadd, 1), (478, .iaload, 1), (479, .invokevirtual 58, 3), (482, .aload_n 2, 1), (483, .aload_n 0, 1), (484, .iload_n 3, 1), (485, .iconst 1, 1), (486, .iadd, 1), (487, .iaload, 1), (488, .aload_n 0, 1), (489, .iload_n 3, 1), (490, .iconst 2, 1), (491, .iadd, 1), (492, .iaload, 1), (493, .invokevirtual 61, 3), (496, .if_icmp .eq 589, 3), (499, .iconst 0, 1), (500, .ireturn, 1), (501, .aload_n 1, 1), (502, .invokevirtual 62, 3), (505, .aload_n 2, 1), (506, .invokevirtual 65, 3), (509, .if_icmp .eq 576, 3), (512, .iconst 0, 1), (513, .ireturn, 1), (514, .aload_n 1, 1), (515, .invokevirtual 66, 3), (518, .aload_n 2, 1), (519, .invokevirtual 69, 3), (522, .if_icmp .eq 563, 3), (525, .iconst 0, 1), (526, .ireturn, 1), (527, .aload_n 1, 1), (528, .aload_n 0, 1), (529, .iload_n 3, 1), (530, .iconst 1, 1), (531, .iadd, 1), (532, .iaload, 1), (533, .invokevirtual 70, 3), (536, .aload_n 2, 1), (537, .aload_n 0, 1), (538, .iload_n 3, 1), (539, .iconst 1, 1), (540, .iadd, 1), (541, .iaload, 1), (542, .invokevirtual 73, 3), (545, .if_icmp .eq 540, 3), (548, .iconst 0, 1), (549, .ireturn, 1)] : List (Nat × Instr × Nat)), ax_dk cL_law q = true := by decide +kernel
theorem ax_d226_6 : ∀ q ∈ ([(550, .aload_n 1, 1), (551, .invokevirtual 74, 3), (554, .aload_n 2, 1), (555, .invokevirtual 77, 3), (558, .if_icmp .eq 527, 3), (561, .iconst 0, 1), (562, .ireturn, 1), (563, .aload_n 1, 1), (564, .aload_n 0, 1), (565, .iload_n 3, 1), (566, .iconst 1, 1), (567, .iadd, 1), (568, .iaload, 1), (569, .invokevirtual 78, 3), (572, .aload_n 2, 1), (573, .aload_n 0, 1), (574, .iload_n 3, 1), (575, .iconst 1, 1), (576, .iadd, 1), (577, .iaload, 1), (578, .invokevirtual 81, 3), (581, .if_icmp .eq 504, 3), (584, .iconst 0, 1), (585, .ireturn, 1), (586, .aload_n 1, 1), (587, .aload_n 0, 1), (588, .iload_n 3, 1), (589, .iconst 1, 1), (590, .iadd, 1), (591, .iaload, 1), (592, .aload_n 0, 1), (593, .iload_n 3, 1), (594, .iconst 2, 1), (595, .iadd, 1), (596, .iaload, 1), (597, .invokevirtual 82, 3), (600, .aload_n 2, 1), (601, .aload_n 0, 1), (602, .iload_n 3, 1), (603, .iconst 1, 1), (604, .iadd, 1), (605, .iaload, 1), (606, .aload_n 0, 1), (607, .iload_n 3, 1), (608, .iconst 2, 1), (609, .iadd, 1), (610, .iaload, 1), (611, .invokevirtual 85, 3), (614, .if_icmp .eq 471, 3), (617, .iconst 0, 1)] : List (Nat × Instr × Nat)), ax_dk cL_law q = true := by decide +kernel
theorem ax_d226_7 : ∀ q ∈ ([(618, .ireturn, 1), (619, .aload_n 1, 1), (620, .aload_n 0, 1), (621, .iload_n 3, 1), (622, .iconst 1, 1), (623, .iadd, 1), (624, .iaload, 1), (625, .aload_n 0, 1), (626, .iload_n 3, 1), (627, .iconst 2, 1), (628, .iadd, 1), (629, .iaload, 1), (630, .invokevirtual 86, 3), (633, .aload_n 2, 1), (634, .aload_n 0, 1), (635, .iload_n 3, 1), (636, .iconst 1, 1), (637, .iadd, 1), (638, .iaload, 1), (639, .aload_n 0, 1), (640, .iload_n 3, 1), (641, .iconst 2, 1), (642, .iadd, 1), (643, .iaload, 1), (644, .invokevirtual 89, 3), (647, .if_icmp .eq 438, 3), (650, .iconst 0, 1), (651, .ireturn, 1), (652, .aload_n 1, 1), (653, .aload_n 0, 1), (654, .iload_n 3, 1), (655, .iconst 1, 1), (656, .iadd, 1), (657, .iaload, 1), (658, .aload_n 0, 1), (659, .iload_n 3, 1), (660, .iconst 2, 1), (661, .iadd, 1), (662, .iaload, 1), (663, .invokevirtual 90, 3), (666, .aload_n 2, 1), (667, .aload_n 0, 1), (668, .iload_n 3, 1), (669, .iconst 1, 1), (670, .iadd, 1), (671, .iaload, 1), (672, .aload_n 0, 1), (673, .iload_n 3, 1), (674, .iconst 2, 1), (675, .iadd, 1)] : List (Nat × Instr × Nat)), ax_dk cL_law q = true := by decide +kernel
theorem ax_d226_8 : ∀ q ∈ ([(676, .iaload, 1), (677, .invokevirtual 93, 3), (680, .if_icmp .eq 405, 3), (683, .iconst 0, 1), (684, .ireturn, 1), (685, .aload_n 1, 1), (686, .aload_n 0, 1), (687, .iload_n 3, 1), (688, .iconst 1, 1), (689, .iadd, 1), (690, .iaload, 1), (691, .aload_n 0, 1), (692, .iload_n 3, 1), (693, .iconst 2, 1), (694, .iadd, 1), (695, .iaload, 1), (696, .invokevirtual 94, 3), (699, .aload_n 2, 1), (700, .aload_n 0, 1), (701, .iload_n 3, 1), (702, .iconst 1, 1), (703, .iadd, 1), (704, .iaload, 1), (705, .aload_n 0, 1), (706, .iload_n 3, 1), (707, .iconst 2, 1), (708, .iadd, 1), (709, .iaload, 1), (710, .invokevirtual 97, 3), (713, .if_icmp .eq 372, 3), (716, .iconst 0, 1), (717, .ireturn, 1), (718, .aload_n 1, 1), (719, .aload_n 0, 1), (720, .iload_n 3, 1), (721, .iconst 1, 1), (722, .iadd, 1), (723, .iaload, 1), (724, .invokevirtual 98, 3), (727, .aload_n 2, 1), (728, .aload_n 0, 1), (729, .iload_n 3, 1), (730, .iconst 1, 1), (731, .iadd, 1), (732, .iaload, 1), (733, .invokevirtual 101, 3), (736, .if_icmp .eq 349, 3), (739, .iconst 0, 1), (740, .ireturn, 1), (741, .aload_n 1, 1)] : List (Nat × Instr × Nat)), ax_dk cL_law q = true := by decide +kernel
theorem ax_d226_9 : ∀ q ∈ ([(742, .aload_n 0, 1), (743, .iload_n 3, 1), (744, .iconst 1, 1), (745, .iadd, 1), (746, .iaload, 1), (747, .invokevirtual 102, 3), (750, .aload_n 2, 1), (751, .aload_n 0, 1), (752, .iload_n 3, 1), (753, .iconst 1, 1), (754, .iadd, 1), (755, .iaload, 1), (756, .invokevirtual 105, 3), (759, .if_icmp .eq 326, 3), (762, .iconst 0, 1), (763, .ireturn, 1), (764, .aload_n 1, 1), (765, .aload_n 0, 1), (766, .iload_n 3, 1), (767, .iconst 1, 1), (768, .iadd, 1), (769, .iaload, 1), (770, .aload_n 0, 1), (771, .iload_n 3, 1), (772, .iconst 2, 1), (773, .iadd, 1), (774, .iaload, 1), (775, .invokevirtual 106, 3), (778, .aload_n 2, 1), (779, .aload_n 0, 1), (780, .iload_n 3, 1), (781, .iconst 1, 1), (782, .iadd, 1), (783, .iaload, 1), (784, .aload_n 0, 1), (785, .iload_n 3, 1), (786, .iconst 2, 1), (787, .iadd, 1), (788, .iaload, 1), (789, .invokevirtual 109, 3), (792, .if_icmp .eq 293, 3), (795, .iconst 0, 1), (796, .ireturn, 1), (797, .aload_n 1, 1), (798, .invokevirtual 110, 3), (801, .aload_n 2, 1), (802, .invokevirtual 113, 3), (805, .if_icmp .eq 280, 3), (808, .iconst 0, 1), (809, .ireturn, 1)] : List (Nat × Instr × Nat)), ax_dk cL_law q = true := by decide +kernel
theorem ax_d226_10 : ∀ q ∈ ([(810, .aload_n 1, 1), (811, .aload_n 0, 1), (812, .iload_n 3, 1), (813, .iconst 1, 1), (814, .iadd, 1), (815, .iaload, 1), (816, .invokevirtual 114, 3), (819, .aload_n 2, 1), (820, .aload_n 0, 1), (821, .iload_n 3, 1), (822, .iconst 1, 1), (823, .iadd, 1), (824, .iaload, 1), (825, .invokevirtual 117, 3), (828, .if_icmp .eq 257, 3), (831, .iconst 0, 1), (832, .ireturn, 1), (833, .aload_n 1, 1), (834, .aload_n 0, 1), (835, .iload_n 3, 1), (836, .iconst 1, 1), (837, .iadd, 1), (838, .iaload, 1), (839, .invokevirtual 118, 3), (842, .aload_n 2, 1), (843, .aload_n 0, 1), (844, .iload_n 3, 1), (845, .iconst 1, 1), (846, .iadd, 1), (847, .iaload, 1), (848, .invokevirtual 121, 3), (851, .if_icmp .eq 234, 3), (854, .iconst 0, 1), (855, .ireturn, 1), (856, .aload_n 1, 1), (857, .aload_n 0, 1), (858, .iload_n 3, 1), (859, .iconst 1, 1), (860, .iadd, 1), (861, .iaload, 1), (862, .invokevirtual 122, 3), (865, .aload_n 2, 1), (866, .aload_n 0, 1), (867, .iload_n 3, 1), (868, .iconst 1, 1), (869, .iadd, 1), (870, .iaload, 1), (871, .invokevirtual 125, 3), (874, .if_icmp .eq 211, 3), (877, .iconst 0, 1)] : List (Nat × Instr × Nat)), ax_dk cL_law q = true := by decide +kernel
theorem ax_d226_11 : ∀ q ∈ ([(878, .ireturn, 1), (879, .aload_n 1, 1), (880, .aload_n 0, 1), (881, .iload_n 3, 1), (882, .iconst 1, 1), (883, .iadd, 1), (884, .iaload, 1), (885, .aload_n 0, 1), (886, .iload_n 3, 1), (887, .iconst 2, 1), (888, .iadd, 1), (889, .iaload, 1), (890, .aload_n 0, 1), (891, .iload_n 3, 1), (892, .iconst 3, 1), (893, .iadd, 1), (894, .iaload, 1), (895, .invokevirtual 126, 3), (898, .aload_n 2, 1), (899, .aload_n 0, 1), (900, .iload_n 3, 1), (901, .iconst 1, 1), (902, .iadd, 1), (903, .iaload, 1), (904, .aload_n 0, 1), (905, .iload_n 3, 1), (906, .iconst 2, 1), (907, .iadd, 1), (908, .iaload, 1), (909, .aload_n 0, 1), (910, .iload_n 3, 1), (911, .iconst 3, 1), (912, .iadd, 1), (913, .iaload, 1), (914, .invokevirtual 129, 3), (917, .if_icmp .eq 168, 3), (920, .iconst 0, 1), (921, .ireturn, 1), (922, .aload_n 1, 1), (923, .aload_n 0, 1), (924, .iload_n 3, 1), (925, .iconst 1, 1), (926, .iadd, 1), (927, .iaload, 1), (928, .aload_n 0, 1), (929, .iload_n 3, 1), (930, .iconst 2, 1), (931, .iadd, 1), (932, .iaload, 1), (933, .invokevirtual 130, 3)] : List (Nat × Instr × Nat)), ax_dk cL_law q = true := by decide +kernel
theorem ax_d226_12 : ∀ q ∈ ([(936, .aload_n 2, 1), (937, .aload_n 0, 1), (938, .iload_n 3, 1), (939, .iconst 1, 1), (940, .iadd, 1), (941, .iaload, 1), (942, .aload_n 0, 1), (943, .iload_n 3, 1), (944, .iconst 2, 1), (945, .iadd, 1), (946, .iaload, 1), (947, .invokevirtual 133, 3), (950, .if_icmp .eq 135, 3), (953, .iconst 0, 1), (954, .ireturn, 1), (955, .aload_n 1, 1), (956, .aload_n 0, 1), (957, .iload_n 3, 1), (958, .iconst 1, 1), (959, .iadd, 1), (960, .iaload, 1), (961, .invokevirtual 134, 3), (964, .aload_n 2, 1), (965, .aload_n 0, 1), (966, .iload_n 3, 1), (967, .iconst 1, 1), (968, .iadd, 1), (969, .iaload, 1), (970, .invokevirtual 138, 3), (973, .lcmp, 1), (974, .ifCond .eq 111, 3), (977, .iconst 0, 1), (978, .ireturn, 1), (979, .aload_n 1, 1), (980, .aload_n 0, 1), (981, .iload_n 3, 1), (982, .iconst 1, 1), (983, .iadd, 1), (984, .iaload, 1), (985, .invokevirtual 139, 3), (988, .aload_n 2, 1), (989, .aload_n 0, 1), (990, .iload_n 3, 1), (991, .iconst 1, 1), (992, .iadd, 1), (993, .iaload, 1), (994, .invokevirtual 142, 3), (997, .if_icmp .eq 88, 3), (1000, .iconst 0, 1), (1001, .ireturn, 1)] : List (Nat × Instr × Nat)), ax_dk cL_law q = true := by decide +kernel
theorem ax_d226_13 : ∀ q ∈ ([(1002, .aload_n 1, 1), (1003, .aload_n 0, 1), (1004, .iload_n 3, 1), (1005, .iconst 1, 1), (1006, .iadd, 1), (1007, .iaload, 1), (1008, .invokevirtual 143, 3), (1011, .aload_n 2, 1), (1012, .aload_n 0, 1), (1013, .iload_n 3, 1), (1014, .iconst 1, 1), (1015, .iadd, 1), (1016, .iaload, 1), (1017, .invokevirtual 146, 3), (1020, .if_icmp .eq 65, 3), (1023, .iconst 0, 1), (1024, .ireturn, 1), (1025, .aload_n 1, 1), (1026, .aload_n 0, 1), (1027, .iload_n 3, 1), (1028, .iconst 1, 1), (1029, .iadd, 1), (1030, .iaload, 1), (1031, .invokevirtual 147, 3), (1034, .aload_n 2, 1), (1035, .aload_n 0, 1), (1036, .iload_n 3, 1), (1037, .iconst 1, 1), (1038, .iadd, 1), (1039, .iaload, 1), (1040, .invokevirtual 150, 3), (1043, .if_icmp .eq 42, 3), (1046, .iconst 0, 1), (1047, .ireturn, 1), (1048, .aload_n 1, 1), (1049, .aload_n 0, 1), (1050, .iload_n 3, 1), (1051, .iconst 1, 1), (1052, .iadd, 1), (1053, .iaload, 1), (1054, .invokevirtual 151, 3), (1057, .aload_n 2, 1), (1058, .aload_n 0, 1), (1059, .iload_n 3, 1), (1060, .iconst 1, 1), (1061, .iadd, 1), (1062, .iaload, 1), (1063, .invokevirtual 154, 3), (1066, .if_icmp .eq 19, 3), (1069, .iconst 0, 1)] : List (Nat × Instr × Nat)), ax_dk cL_law q = true := by decide +kernel
theorem ax_d226_14 : ∀ q ∈ ([(1070, .ireturn, 1), (1071, .aload_n 1, 1), (1072, .invokevirtual 155, 3), (1075, .aload_n 2, 1), (1076, .invokevirtual 159, 3), (1079, .lcmp, 1), (1080, .ifCond .eq 5, 3), (1083, .iconst 0, 1), (1084, .ireturn, 1), (1085, .iinc 3 6, 3), (1088, .goto (-1070), 3), (1091, .iconst 1, 1), (1092, .ireturn, 1)] : List (Nat × Instr × Nat)), ax_dk cL_law q = true := by decide +kernel

set_option maxRecDepth 100000 in
theorem ax_d10 : ∀ q ∈ ax_c10, ax_dk cX0_does q = true := List.forall_mem_append.mpr ⟨ax_d10_0, ax_d10_1⟩
set_option maxRecDepth 100000 in
theorem ax_d32 : ∀ q ∈ ax_c32, ax_dk cX3_tryBehind q = true := List.forall_mem_append.mpr ⟨ax_d32_0, ax_d32_1⟩
set_option maxRecDepth 100000 in
theorem ax_d50 : ∀ q ∈ ax_c50, ax_dk cX5_next q = true := List.forall_mem_append.mpr ⟨ax_d50_0, List.forall_mem_append.mpr ⟨ax_d50_1, ax_d50_2⟩⟩
set_option maxRecDepth 100000 in
theorem ax_d80 : ∀ q ∈ ax_c80, ax_dk cX9_init q = true := List.forall_mem_append.mpr ⟨ax_d80_0, ax_d80_1⟩
set_option maxRecDepth 100000 in
theorem ax_d82 : ∀ q ∈ ax_c82, ax_dk cX9_dish q = true := List.forall_mem_append.mpr ⟨ax_d82_0, ax_d82_1⟩
set_option maxRecDepth 100000 in
theorem ax_d115 : ∀ q ∈ ax_c115, ax_dk cX9_digest q = true := List.forall_mem_append.mpr ⟨ax_d115_0, ax_d115_1⟩
set_option maxRecDepth 100000 in
theorem ax_d134 : ∀ q ∈ ax_c134, ax_dk cX10_init q = true := List.forall_mem_append.mpr ⟨ax_d134_0, ax_d134_1⟩
set_option maxRecDepth 100000 in
theorem ax_d161 : ∀ q ∈ ax_c161, ax_dk cX10_serve q = true := List.forall_mem_append.mpr ⟨ax_d161_0, ax_d161_1⟩
set_option maxRecDepth 100000 in
theorem ax_d176 : ∀ q ∈ ax_c176, ax_dk cX10_layPlay q = true := List.forall_mem_append.mpr ⟨ax_d176_0, List.forall_mem_append.mpr ⟨ax_d176_1, ax_d176_2⟩⟩
set_option maxRecDepth 100000 in
theorem ax_d181 : ∀ q ∈ ax_c181, ax_dk cX10_layPardon q = true := List.forall_mem_append.mpr ⟨ax_d181_0, ax_d181_1⟩
set_option maxRecDepth 100000 in
theorem ax_d184 : ∀ q ∈ ax_c184, ax_dk cX10_cancel q = true := List.forall_mem_append.mpr ⟨ax_d184_0, ax_d184_1⟩
set_option maxRecDepth 100000 in
theorem ax_d186 : ∀ q ∈ ax_c186, ax_dk cX10_reading q = true := List.forall_mem_append.mpr ⟨ax_d186_0, ax_d186_1⟩
set_option maxRecDepth 100000 in
theorem ax_d192 : ∀ q ∈ ax_c192, ax_dk cX10_tells q = true := List.forall_mem_append.mpr ⟨ax_d192_0, ax_d192_1⟩
set_option maxRecDepth 100000 in
theorem ax_d195 : ∀ q ∈ ax_c195, ax_dk cX10_burnt q = true := List.forall_mem_append.mpr ⟨ax_d195_0, ax_d195_1⟩
set_option maxRecDepth 100000 in
theorem ax_d196 : ∀ q ∈ ax_c196, ax_dk cX10_dinners q = true := List.forall_mem_append.mpr ⟨ax_d196_0, ax_d196_1⟩
set_option maxRecDepth 100000 in
theorem ax_d201 : ∀ q ∈ ax_c201, ax_dk cX10_lookAt q = true := List.forall_mem_append.mpr ⟨ax_d201_0, List.forall_mem_append.mpr ⟨ax_d201_1, List.forall_mem_append.mpr ⟨ax_d201_2, ax_d201_3⟩⟩⟩
set_option maxRecDepth 100000 in
theorem ax_d217 : ∀ q ∈ ax_c217, ax_dk cX10_digest q = true := List.forall_mem_append.mpr ⟨ax_d217_0, List.forall_mem_append.mpr ⟨ax_d217_1, ax_d217_2⟩⟩
set_option maxRecDepth 100000 in
theorem ax_d226 : ∀ q ∈ ax_c226, ax_dk cL_law q = true := List.forall_mem_append.mpr ⟨ax_d226_0, List.forall_mem_append.mpr ⟨ax_d226_1, List.forall_mem_append.mpr ⟨ax_d226_2, List.forall_mem_append.mpr ⟨ax_d226_3, List.forall_mem_append.mpr ⟨ax_d226_4, List.forall_mem_append.mpr ⟨ax_d226_5, List.forall_mem_append.mpr ⟨ax_d226_6, List.forall_mem_append.mpr ⟨ax_d226_7, List.forall_mem_append.mpr ⟨ax_d226_8, List.forall_mem_append.mpr ⟨ax_d226_9, List.forall_mem_append.mpr ⟨ax_d226_10, List.forall_mem_append.mpr ⟨ax_d226_11, List.forall_mem_append.mpr ⟨ax_d226_12, List.forall_mem_append.mpr ⟨ax_d226_13, ax_d226_14⟩⟩⟩⟩⟩⟩⟩⟩⟩⟩⟩⟩⟩⟩
theorem ax_dd : ∀ z, z < 227 → ∀ q ∈ ax_codes.getD z [], ax_dk (ax_by z) q = true := by
  intro z h
  match z, h with
  | 0, _ => exact ax_d0
  | 1, _ => exact ax_d1
  | 2, _ => exact ax_d2
  | 3, _ => exact ax_d3
  | 4, _ => exact ax_d4
  | 5, _ => exact ax_d5
  | 6, _ => exact ax_d6
  | 7, _ => exact ax_d7
  | 8, _ => exact ax_d8
  | 9, _ => exact ax_d9
  | 10, _ => exact ax_d10
  | 11, _ => exact ax_d11
  | 12, _ => exact ax_d12
  | 13, _ => exact ax_d13
  | 14, _ => exact ax_d14
  | 15, _ => exact ax_d15
  | 16, _ => exact ax_d16
  | 17, _ => exact ax_d17
  | 18, _ => exact ax_d18
  | 19, _ => exact ax_d19
  | 20, _ => exact ax_d20
  | 21, _ => exact ax_d21
  | 22, _ => exact ax_d22
  | 23, _ => exact ax_d23
  | 24, _ => exact ax_d24
  | 25, _ => exact ax_d25
  | 26, _ => exact ax_d26
  | 27, _ => exact ax_d27
  | 28, _ => exact ax_d28
  | 29, _ => exact ax_d29
  | 30, _ => exact ax_d30
  | 31, _ => exact ax_d31
  | 32, _ => exact ax_d32
  | 33, _ => exact ax_d33
  | 34, _ => exact ax_d34
  | 35, _ => exact ax_d35
  | 36, _ => exact ax_d36
  | 37, _ => exact ax_d37
  | 38, _ => exact ax_d38
  | 39, _ => exact ax_d39
  | 40, _ => exact ax_d40
  | 41, _ => exact ax_d41
  | 42, _ => exact ax_d42
  | 43, _ => exact ax_d43
  | 44, _ => exact ax_d44
  | 45, _ => exact ax_d45
  | 46, _ => exact ax_d46
  | 47, _ => exact ax_d47
  | 48, _ => exact ax_d48
  | 49, _ => exact ax_d49
  | 50, _ => exact ax_d50
  | 51, _ => exact ax_d51
  | 52, _ => exact ax_d52
  | 53, _ => exact ax_d53
  | 54, _ => exact ax_d54
  | 55, _ => exact ax_d55
  | 56, _ => exact ax_d56
  | 57, _ => exact ax_d57
  | 58, _ => exact ax_d58
  | 59, _ => exact ax_d59
  | 60, _ => exact ax_d60
  | 61, _ => exact ax_d61
  | 62, _ => exact ax_d62
  | 63, _ => exact ax_d63
  | 64, _ => exact ax_d64
  | 65, _ => exact ax_d65
  | 66, _ => exact ax_d66
  | 67, _ => exact ax_d67
  | 68, _ => exact ax_d68
  | 69, _ => exact ax_d69
  | 70, _ => exact ax_d70
  | 71, _ => exact ax_d71
  | 72, _ => exact ax_d72
  | 73, _ => exact ax_d73
  | 74, _ => exact ax_d74
  | 75, _ => exact ax_d75
  | 76, _ => exact ax_d76
  | 77, _ => exact ax_d77
  | 78, _ => exact ax_d78
  | 79, _ => exact ax_d79
  | 80, _ => exact ax_d80
  | 81, _ => exact ax_d81
  | 82, _ => exact ax_d82
  | 83, _ => exact ax_d83
  | 84, _ => exact ax_d84
  | 85, _ => exact ax_d85
  | 86, _ => exact ax_d86
  | 87, _ => exact ax_d87
  | 88, _ => exact ax_d88
  | 89, _ => exact ax_d89
  | 90, _ => exact ax_d90
  | 91, _ => exact ax_d91
  | 92, _ => exact ax_d92
  | 93, _ => exact ax_d93
  | 94, _ => exact ax_d94
  | 95, _ => exact ax_d95
  | 96, _ => exact ax_d96
  | 97, _ => exact ax_d97
  | 98, _ => exact ax_d98
  | 99, _ => exact ax_d99
  | 100, _ => exact ax_d100
  | 101, _ => exact ax_d101
  | 102, _ => exact ax_d102
  | 103, _ => exact ax_d103
  | 104, _ => exact ax_d104
  | 105, _ => exact ax_d105
  | 106, _ => exact ax_d106
  | 107, _ => exact ax_d107
  | 108, _ => exact ax_d108
  | 109, _ => exact ax_d109
  | 110, _ => exact ax_d110
  | 111, _ => exact ax_d111
  | 112, _ => exact ax_d112
  | 113, _ => exact ax_d113
  | 114, _ => exact ax_d114
  | 115, _ => exact ax_d115
  | 116, _ => exact ax_d116
  | 117, _ => exact ax_d117
  | 118, _ => exact ax_d118
  | 119, _ => exact ax_d119
  | 120, _ => exact ax_d120
  | 121, _ => exact ax_d121
  | 122, _ => exact ax_d122
  | 123, _ => exact ax_d123
  | 124, _ => exact ax_d124
  | 125, _ => exact ax_d125
  | 126, _ => exact ax_d126
  | 127, _ => exact ax_d127
  | 128, _ => exact ax_d128
  | 129, _ => exact ax_d129
  | 130, _ => exact ax_d130
  | 131, _ => exact ax_d131
  | 132, _ => exact ax_d132
  | 133, _ => exact ax_d133
  | 134, _ => exact ax_d134
  | 135, _ => exact ax_d135
  | 136, _ => exact ax_d136
  | 137, _ => exact ax_d137
  | 138, _ => exact ax_d138
  | 139, _ => exact ax_d139
  | 140, _ => exact ax_d140
  | 141, _ => exact ax_d141
  | 142, _ => exact ax_d142
  | 143, _ => exact ax_d143
  | 144, _ => exact ax_d144
  | 145, _ => exact ax_d145
  | 146, _ => exact ax_d146
  | 147, _ => exact ax_d147
  | 148, _ => exact ax_d148
  | 149, _ => exact ax_d149
  | 150, _ => exact ax_d150
  | 151, _ => exact ax_d151
  | 152, _ => exact ax_d152
  | 153, _ => exact ax_d153
  | 154, _ => exact ax_d154
  | 155, _ => exact ax_d155
  | 156, _ => exact ax_d156
  | 157, _ => exact ax_d157
  | 158, _ => exact ax_d158
  | 159, _ => exact ax_d159
  | 160, _ => exact ax_d160
  | 161, _ => exact ax_d161
  | 162, _ => exact ax_d162
  | 163, _ => exact ax_d163
  | 164, _ => exact ax_d164
  | 165, _ => exact ax_d165
  | 166, _ => exact ax_d166
  | 167, _ => exact ax_d167
  | 168, _ => exact ax_d168
  | 169, _ => exact ax_d169
  | 170, _ => exact ax_d170
  | 171, _ => exact ax_d171
  | 172, _ => exact ax_d172
  | 173, _ => exact ax_d173
  | 174, _ => exact ax_d174
  | 175, _ => exact ax_d175
  | 176, _ => exact ax_d176
  | 177, _ => exact ax_d177
  | 178, _ => exact ax_d178
  | 179, _ => exact ax_d179
  | 180, _ => exact ax_d180
  | 181, _ => exact ax_d181
  | 182, _ => exact ax_d182
  | 183, _ => exact ax_d183
  | 184, _ => exact ax_d184
  | 185, _ => exact ax_d185
  | 186, _ => exact ax_d186
  | 187, _ => exact ax_d187
  | 188, _ => exact ax_d188
  | 189, _ => exact ax_d189
  | 190, _ => exact ax_d190
  | 191, _ => exact ax_d191
  | 192, _ => exact ax_d192
  | 193, _ => exact ax_d193
  | 194, _ => exact ax_d194
  | 195, _ => exact ax_d195
  | 196, _ => exact ax_d196
  | 197, _ => exact ax_d197
  | 198, _ => exact ax_d198
  | 199, _ => exact ax_d199
  | 200, _ => exact ax_d200
  | 201, _ => exact ax_d201
  | 202, _ => exact ax_d202
  | 203, _ => exact ax_d203
  | 204, _ => exact ax_d204
  | 205, _ => exact ax_d205
  | 206, _ => exact ax_d206
  | 207, _ => exact ax_d207
  | 208, _ => exact ax_d208
  | 209, _ => exact ax_d209
  | 210, _ => exact ax_d210
  | 211, _ => exact ax_d211
  | 212, _ => exact ax_d212
  | 213, _ => exact ax_d213
  | 214, _ => exact ax_d214
  | 215, _ => exact ax_d215
  | 216, _ => exact ax_d216
  | 217, _ => exact ax_d217
  | 218, _ => exact ax_d218
  | 219, _ => exact ax_d219
  | 220, _ => exact ax_d220
  | 221, _ => exact ax_d221
  | 222, _ => exact ax_d222
  | 223, _ => exact ax_d223
  | 224, _ => exact ax_d224
  | 225, _ => exact ax_d225
  | 226, _ => exact ax_d226
  | z + 227, h => exact absurd h (by omega)

theorem dX7_takes_0 : decode cX7_takes 0 = .ok (.aload_n 0, 1) := by decide +kernel
theorem dX7_takes_1 : decode cX7_takes 1 = .ok (.aload_n 1, 1) := by decide +kernel
theorem dX7_takes_2 : decode cX7_takes 2 = .ok (.getfield 13, 3) := by decide +kernel
theorem dX7_takes_5 : decode cX7_takes 5 = .ok (.putfield 13, 3) := by decide +kernel
theorem dX7_takes_8 : decode cX7_takes 8 = .ok (.aload_n 1, 1) := by decide +kernel
theorem dX7_takes_9 : decode cX7_takes 9 = .ok (.getfield 7, 3) := by decide +kernel
theorem dX7_takes_12 : decode cX7_takes 12 = .ok (.iconst 0, 1) := by decide +kernel
theorem dX7_takes_13 : decode cX7_takes 13 = .ok (.aload_n 0, 1) := by decide +kernel
theorem dX7_takes_14 : decode cX7_takes 14 = .ok (.getfield 7, 3) := by decide +kernel
theorem dX7_takes_17 : decode cX7_takes 17 = .ok (.iconst 0, 1) := by decide +kernel
theorem dX7_takes_18 : decode cX7_takes 18 = .ok (.aload_n 0, 1) := by decide +kernel
theorem dX7_takes_19 : decode cX7_takes 19 = .ok (.getfield 13, 3) := by decide +kernel
theorem dX7_takes_22 : decode cX7_takes 22 = .ok (.invokestatic 20, 3) := by decide +kernel
theorem dX7_takes_25 : decode cX7_takes 25 = .ok (.return_, 1) := by decide +kernel
theorem u1_0 {d : Nat} {R : gR} {μ : gM} {l1 : Value} {st : List Value} {x : Nat}  : gc_W (gc_S d) cX7_takes 7 2 R 0 [.ref x, l1] st μ ↔ gc_W (gc_S d) cX7_takes 7 2 R 1 [.ref x, l1] (.ref x :: st) μ := us_aload_n dX7_takes_0 rfl
theorem u1_1 {d : Nat} {R : gR} {μ : gM} {l0 : Value} {st : List Value} {x : Nat}  : gc_W (gc_S d) cX7_takes 7 2 R 1 [l0, .ref x] st μ ↔ gc_W (gc_S d) cX7_takes 7 2 R 2 [l0, .ref x] (.ref x :: st) μ := us_aload_n dX7_takes_1 rfl
theorem u1_2 {d : Nat} {R : gR} {μ : gM} {L : List Value} {st : List Value} {o : Nat} (hk : gc_kd o = 7) : gc_W (gc_S d) cX7_takes 7 2 R 2 L (.ref o :: st) μ ↔ gc_W (gc_S d) cX7_takes 7 2 R 5 L (gc_fv o 1 μ :: st) μ := us_getf dX7_takes_2 gf_7_13 hk
theorem u1_5 {d : Nat} {R : gR} {μ : gM} {L : List Value} {st : List Value} {o : Nat} {x : Int32} (hk : gc_kd o = 7) (hj : gc_fk o 1 = 0) : gc_W (gc_S d) cX7_takes 7 2 R 5 L (.int x :: .ref o :: st) μ ↔ gc_W (gc_S d) cX7_takes 7 2 R 8 L st (gc_up μ o 1 x) := us_putf dX7_takes_5 gf_7_13 hk hj rfl
theorem u1_8 {d : Nat} {R : gR} {μ : gM} {l0 : Value} {st : List Value} {x : Nat}  : gc_W (gc_S d) cX7_takes 7 2 R 8 [l0, .ref x] st μ ↔ gc_W (gc_S d) cX7_takes 7 2 R 9 [l0, .ref x] (.ref x :: st) μ := us_aload_n dX7_takes_8 rfl
theorem u1_9 {d : Nat} {R : gR} {μ : gM} {L : List Value} {st : List Value} {o : Nat} (hk : gc_kd o = 7) : gc_W (gc_S d) cX7_takes 7 2 R 9 L (.ref o :: st) μ ↔ gc_W (gc_S d) cX7_takes 7 2 R 12 L (gc_fv o 0 μ :: st) μ := us_getf dX7_takes_9 gf_7_7 hk
theorem u1_12 {d : Nat} {R : gR} {μ : gM} {L : List Value} {st : List Value}   : gc_W (gc_S d) cX7_takes 7 2 R 12 L st μ ↔ gc_W (gc_S d) cX7_takes 7 2 R 13 L (.int 0 :: st) μ := us_iconst dX7_takes_12 ci_iconst_0
theorem u1_13 {d : Nat} {R : gR} {μ : gM} {l1 : Value} {st : List Value} {x : Nat}  : gc_W (gc_S d) cX7_takes 7 2 R 13 [.ref x, l1] st μ ↔ gc_W (gc_S d) cX7_takes 7 2 R 14 [.ref x, l1] (.ref x :: st) μ := us_aload_n dX7_takes_13 rfl
theorem u1_14 {d : Nat} {R : gR} {μ : gM} {L : List Value} {st : List Value} {o : Nat} (hk : gc_kd o = 7) : gc_W (gc_S d) cX7_takes 7 2 R 14 L (.ref o :: st) μ ↔ gc_W (gc_S d) cX7_takes 7 2 R 17 L (gc_fv o 0 μ :: st) μ := us_getf dX7_takes_14 gf_7_7 hk
theorem u1_17 {d : Nat} {R : gR} {μ : gM} {L : List Value} {st : List Value}   : gc_W (gc_S d) cX7_takes 7 2 R 17 L st μ ↔ gc_W (gc_S d) cX7_takes 7 2 R 18 L (.int 0 :: st) μ := us_iconst dX7_takes_17 ci_iconst_0
theorem u1_18 {d : Nat} {R : gR} {μ : gM} {l1 : Value} {st : List Value} {x : Nat}  : gc_W (gc_S d) cX7_takes 7 2 R 18 [.ref x, l1] st μ ↔ gc_W (gc_S d) cX7_takes 7 2 R 19 [.ref x, l1] (.ref x :: st) μ := us_aload_n dX7_takes_18 rfl
theorem u1_19 {d : Nat} {R : gR} {μ : gM} {L : List Value} {st : List Value} {o : Nat} (hk : gc_kd o = 7) : gc_W (gc_S d) cX7_takes 7 2 R 19 L (.ref o :: st) μ ↔ gc_W (gc_S d) cX7_takes 7 2 R 22 L (gc_fv o 1 μ :: st) μ := us_getf dX7_takes_19 gf_7_13 hk
theorem u1_22 {d : Nat} {R : gR} {μ : gM} {L : List Value} {o1 o2 : Nat} {sp dp z : Int32} (hk1 : gc_kd o1 = 20) (hk2 : gc_kd o2 = 20) : gc_W (gc_S d) cX7_takes 7 2 R 22 L [.int z, .int dp, .ref o2, .int sp, .ref o1] μ ↔ ((¬ sp < 0 ∧ ¬ dp < 0 ∧ ¬ z < 0 ∧ sp.toNatClampNeg + z.toNatClampNeg ≤ gc_al o1 ∧ dp.toNatClampNeg + z.toNatClampNeg ≤ gc_al o2) ∧ gc_W (gc_S d) cX7_takes 7 2 R 25 L [] (gc_cp μ o1 o2 sp.toNatClampNeg dp.toNatClampNeg z.toNatClampNeg)) := us_copy dX7_takes_22 gs_7_20 rfl hk1 hk2
theorem u1_25 {d : Nat} {R : gR} {μ : gM} {L : List Value}   : gc_W (gc_S d) cX7_takes 7 2 R 25 L [] μ ↔ R none μ := us_vret dX7_takes_25 rfl
theorem s1 {d : Nat} {R : gR} {μ : gM} {o : Nat} {a0 : Nat} : gc_S (d + 1) 1 [.ref o, .ref a0] μ R ↔ gc_W (gc_S d) cX7_takes 7 2 R 0 [.ref o, .ref a0] [] μ := us_call (gm_1) rfl rfl
theorem dX2_joined_0 : decode cX2_joined 0 = .ok (.iload_n 0, 1) := by decide +kernel
theorem dX2_joined_1 : decode cX2_joined 1 = .ok (.tableswitch 202 37 62 #[143, 188, 202, 202, 202, 127, 119, 202, 123, 202, 131, 202, 202, 202, 202, 202, 202, 202, 202, 202, 202, 202, 202, 155, 166, 177], 119) := by decide +kernel
theorem dX2_joined_120 : decode cX2_joined 120 = .ok (.iload_n 1, 1) := by decide +kernel
theorem dX2_joined_121 : decode cX2_joined 121 = .ok (.iload_n 2, 1) := by decide +kernel
theorem dX2_joined_122 : decode cX2_joined 122 = .ok (.iadd, 1) := by decide +kernel
theorem dX2_joined_123 : decode cX2_joined 123 = .ok (.ireturn, 1) := by decide +kernel
theorem dX2_joined_124 : decode cX2_joined 124 = .ok (.iload_n 1, 1) := by decide +kernel
theorem dX2_joined_125 : decode cX2_joined 125 = .ok (.iload_n 2, 1) := by decide +kernel
theorem dX2_joined_126 : decode cX2_joined 126 = .ok (.isub, 1) := by decide +kernel
theorem dX2_joined_127 : decode cX2_joined 127 = .ok (.ireturn, 1) := by decide +kernel
theorem dX2_joined_128 : decode cX2_joined 128 = .ok (.iload_n 1, 1) := by decide +kernel
theorem dX2_joined_129 : decode cX2_joined 129 = .ok (.iload_n 2, 1) := by decide +kernel
theorem dX2_joined_130 : decode cX2_joined 130 = .ok (.imul, 1) := by decide +kernel
theorem dX2_joined_131 : decode cX2_joined 131 = .ok (.ireturn, 1) := by decide +kernel
theorem dX2_joined_132 : decode cX2_joined 132 = .ok (.iload_n 2, 1) := by decide +kernel
theorem dX2_joined_133 : decode cX2_joined 133 = .ok (.ifCond .ne 7, 3) := by decide +kernel
theorem dX2_joined_136 : decode cX2_joined 136 = .ok (.iconst 0, 1) := by decide +kernel
theorem dX2_joined_137 : decode cX2_joined 137 = .ok (.goto 6, 3) := by decide +kernel
theorem dX2_joined_140 : decode cX2_joined 140 = .ok (.iload_n 1, 1) := by decide +kernel
theorem dX2_joined_141 : decode cX2_joined 141 = .ok (.iload_n 2, 1) := by decide +kernel
theorem dX2_joined_142 : decode cX2_joined 142 = .ok (.idiv, 1) := by decide +kernel
theorem dX2_joined_143 : decode cX2_joined 143 = .ok (.ireturn, 1) := by decide +kernel
theorem dX2_joined_144 : decode cX2_joined 144 = .ok (.iload_n 2, 1) := by decide +kernel
theorem dX2_joined_145 : decode cX2_joined 145 = .ok (.ifCond .ne 7, 3) := by decide +kernel
theorem dX2_joined_148 : decode cX2_joined 148 = .ok (.iconst 0, 1) := by decide +kernel
theorem dX2_joined_149 : decode cX2_joined 149 = .ok (.goto 6, 3) := by decide +kernel
theorem dX2_joined_152 : decode cX2_joined 152 = .ok (.iload_n 1, 1) := by decide +kernel
theorem dX2_joined_153 : decode cX2_joined 153 = .ok (.iload_n 2, 1) := by decide +kernel
theorem dX2_joined_154 : decode cX2_joined 154 = .ok (.irem, 1) := by decide +kernel
theorem dX2_joined_155 : decode cX2_joined 155 = .ok (.ireturn, 1) := by decide +kernel
theorem dX2_joined_156 : decode cX2_joined 156 = .ok (.iload_n 1, 1) := by decide +kernel
theorem dX2_joined_157 : decode cX2_joined 157 = .ok (.iload_n 2, 1) := by decide +kernel
theorem dX2_joined_158 : decode cX2_joined 158 = .ok (.if_icmp .ge 7, 3) := by decide +kernel
theorem dX2_joined_161 : decode cX2_joined 161 = .ok (.iconst 1, 1) := by decide +kernel
theorem dX2_joined_162 : decode cX2_joined 162 = .ok (.goto 4, 3) := by decide +kernel
theorem dX2_joined_165 : decode cX2_joined 165 = .ok (.iconst 0, 1) := by decide +kernel
theorem dX2_joined_166 : decode cX2_joined 166 = .ok (.ireturn, 1) := by decide +kernel
theorem dX2_joined_167 : decode cX2_joined 167 = .ok (.iload_n 1, 1) := by decide +kernel
theorem dX2_joined_168 : decode cX2_joined 168 = .ok (.iload_n 2, 1) := by decide +kernel
theorem dX2_joined_169 : decode cX2_joined 169 = .ok (.if_icmp .ne 7, 3) := by decide +kernel
theorem dX2_joined_172 : decode cX2_joined 172 = .ok (.iconst 1, 1) := by decide +kernel
theorem dX2_joined_173 : decode cX2_joined 173 = .ok (.goto 4, 3) := by decide +kernel
theorem dX2_joined_176 : decode cX2_joined 176 = .ok (.iconst 0, 1) := by decide +kernel
theorem dX2_joined_177 : decode cX2_joined 177 = .ok (.ireturn, 1) := by decide +kernel
theorem dX2_joined_178 : decode cX2_joined 178 = .ok (.iload_n 1, 1) := by decide +kernel
theorem dX2_joined_179 : decode cX2_joined 179 = .ok (.iload_n 2, 1) := by decide +kernel
theorem dX2_joined_180 : decode cX2_joined 180 = .ok (.if_icmp .le 7, 3) := by decide +kernel
theorem dX2_joined_183 : decode cX2_joined 183 = .ok (.iconst 1, 1) := by decide +kernel
theorem dX2_joined_184 : decode cX2_joined 184 = .ok (.goto 4, 3) := by decide +kernel
theorem dX2_joined_187 : decode cX2_joined 187 = .ok (.iconst 0, 1) := by decide +kernel
theorem dX2_joined_188 : decode cX2_joined 188 = .ok (.ireturn, 1) := by decide +kernel
theorem dX2_joined_189 : decode cX2_joined 189 = .ok (.iload_n 1, 1) := by decide +kernel
theorem dX2_joined_190 : decode cX2_joined 190 = .ok (.ifCond .eq 11, 3) := by decide +kernel
theorem dX2_joined_193 : decode cX2_joined 193 = .ok (.iload_n 2, 1) := by decide +kernel
theorem dX2_joined_194 : decode cX2_joined 194 = .ok (.ifCond .eq 7, 3) := by decide +kernel
theorem dX2_joined_197 : decode cX2_joined 197 = .ok (.iconst 1, 1) := by decide +kernel
theorem dX2_joined_198 : decode cX2_joined 198 = .ok (.goto 4, 3) := by decide +kernel
theorem dX2_joined_201 : decode cX2_joined 201 = .ok (.iconst 0, 1) := by decide +kernel
theorem dX2_joined_202 : decode cX2_joined 202 = .ok (.ireturn, 1) := by decide +kernel
theorem dX2_joined_203 : decode cX2_joined 203 = .ok (.iload_n 1, 1) := by decide +kernel
theorem dX2_joined_204 : decode cX2_joined 204 = .ok (.ifCond .ne 7, 3) := by decide +kernel
theorem dX2_joined_207 : decode cX2_joined 207 = .ok (.iload_n 2, 1) := by decide +kernel
theorem dX2_joined_208 : decode cX2_joined 208 = .ok (.ifCond .eq 7, 3) := by decide +kernel
theorem dX2_joined_211 : decode cX2_joined 211 = .ok (.iconst 1, 1) := by decide +kernel
theorem dX2_joined_212 : decode cX2_joined 212 = .ok (.goto 4, 3) := by decide +kernel
theorem dX2_joined_215 : decode cX2_joined 215 = .ok (.iconst 0, 1) := by decide +kernel
theorem dX2_joined_216 : decode cX2_joined 216 = .ok (.ireturn, 1) := by decide +kernel
theorem u10_0 {d : Nat} {R : gR} {μ : gM} {l1 l2 : Value} {st : List Value} {x : Int32}  : gc_W (gc_S d) cX2_joined 2 0 R 0 [.int x, l1, l2] st μ ↔ gc_W (gc_S d) cX2_joined 2 0 R 1 [.int x, l1, l2] (.int x :: st) μ := us_iload_n dX2_joined_0 rfl
theorem u10_1 {d : Nat} {R : gR} {μ : gM} {L : List Value} {st : List Value} {x : Int32}  : gc_W (gc_S d) cX2_joined 2 0 R 1 L (.int x :: st) μ ↔ if x = 37 then gc_W (gc_S d) cX2_joined 2 0 R 144 L st μ else (if x = 38 then gc_W (gc_S d) cX2_joined 2 0 R 189 L st μ else (if x = 39 then gc_W (gc_S d) cX2_joined 2 0 R 203 L st μ else (if x = 40 then gc_W (gc_S d) cX2_joined 2 0 R 203 L st μ else (if x = 41 then gc_W (gc_S d) cX2_joined 2 0 R 203 L st μ else (if x = 42 then gc_W (gc_S d) cX2_joined 2 0 R 128 L st μ else (if x = 43 then gc_W (gc_S d) cX2_joined 2 0 R 120 L st μ else (if x = 44 then gc_W (gc_S d) cX2_joined 2 0 R 203 L st μ else (if x = 45 then gc_W (gc_S d) cX2_joined 2 0 R 124 L st μ else (if x = 46 then gc_W (gc_S d) cX2_joined 2 0 R 203 L st μ else (if x = 47 then gc_W (gc_S d) cX2_joined 2 0 R 132 L st μ else (if x = 48 then gc_W (gc_S d) cX2_joined 2 0 R 203 L st μ else (if x = 49 then gc_W (gc_S d) cX2_joined 2 0 R 203 L st μ else (if x = 50 then gc_W (gc_S d) cX2_joined 2 0 R 203 L st μ else (if x = 51 then gc_W (gc_S d) cX2_joined 2 0 R 203 L st μ else (if x = 52 then gc_W (gc_S d) cX2_joined 2 0 R 203 L st μ else (if x = 53 then gc_W (gc_S d) cX2_joined 2 0 R 203 L st μ else (if x = 54 then gc_W (gc_S d) cX2_joined 2 0 R 203 L st μ else (if x = 55 then gc_W (gc_S d) cX2_joined 2 0 R 203 L st μ else (if x = 56 then gc_W (gc_S d) cX2_joined 2 0 R 203 L st μ else (if x = 57 then gc_W (gc_S d) cX2_joined 2 0 R 203 L st μ else (if x = 58 then gc_W (gc_S d) cX2_joined 2 0 R 203 L st μ else (if x = 59 then gc_W (gc_S d) cX2_joined 2 0 R 203 L st μ else (if x = 60 then gc_W (gc_S d) cX2_joined 2 0 R 156 L st μ else (if x = 61 then gc_W (gc_S d) cX2_joined 2 0 R 167 L st μ else (if x = 62 then gc_W (gc_S d) cX2_joined 2 0 R 178 L st μ else (gc_W (gc_S d) cX2_joined 2 0 R 203 L st μ)))))))))))))))))))))))))) := us_tsw [(37, 144), (38, 189), (39, 203), (40, 203), (41, 203), (42, 128), (43, 120), (44, 203), (45, 124), (46, 203), (47, 132), (48, 203), (49, 203), (50, 203), (51, 203), (52, 203), (53, 203), (54, 203), (55, 203), (56, 203), (57, 203), (58, 203), (59, 203), (60, 156), (61, 167), (62, 178)] dX2_joined_1 rfl (by decide) (by decide +kernel) (dt := 203) rfl
theorem u10_120 {d : Nat} {R : gR} {μ : gM} {l0 l2 : Value} {st : List Value} {x : Int32}  : gc_W (gc_S d) cX2_joined 2 0 R 120 [l0, .int x, l2] st μ ↔ gc_W (gc_S d) cX2_joined 2 0 R 121 [l0, .int x, l2] (.int x :: st) μ := us_iload_n dX2_joined_120 rfl
theorem u10_121 {d : Nat} {R : gR} {μ : gM} {l0 l1 : Value} {st : List Value} {x : Int32}  : gc_W (gc_S d) cX2_joined 2 0 R 121 [l0, l1, .int x] st μ ↔ gc_W (gc_S d) cX2_joined 2 0 R 122 [l0, l1, .int x] (.int x :: st) μ := us_iload_n dX2_joined_121 rfl
theorem u10_122 {d : Nat} {R : gR} {μ : gM} {L : List Value} {st : List Value} {x y : Int32}  : gc_W (gc_S d) cX2_joined 2 0 R 122 L (.int y :: .int x :: st) μ ↔ gc_W (gc_S d) cX2_joined 2 0 R 123 L (.int (x + y) :: st) μ := us_iadd dX2_joined_122
theorem u10_123 {d : Nat} {R : gR} {μ : gM} {L : List Value} {v : Int32}  : gc_W (gc_S d) cX2_joined 2 0 R 123 L [.int v] μ ↔ R (some (.int v)) μ := us_iret dX2_joined_123 rfl
theorem u10_124 {d : Nat} {R : gR} {μ : gM} {l0 l2 : Value} {st : List Value} {x : Int32}  : gc_W (gc_S d) cX2_joined 2 0 R 124 [l0, .int x, l2] st μ ↔ gc_W (gc_S d) cX2_joined 2 0 R 125 [l0, .int x, l2] (.int x :: st) μ := us_iload_n dX2_joined_124 rfl
theorem u10_125 {d : Nat} {R : gR} {μ : gM} {l0 l1 : Value} {st : List Value} {x : Int32}  : gc_W (gc_S d) cX2_joined 2 0 R 125 [l0, l1, .int x] st μ ↔ gc_W (gc_S d) cX2_joined 2 0 R 126 [l0, l1, .int x] (.int x :: st) μ := us_iload_n dX2_joined_125 rfl
theorem u10_126 {d : Nat} {R : gR} {μ : gM} {L : List Value} {st : List Value} {x y : Int32}  : gc_W (gc_S d) cX2_joined 2 0 R 126 L (.int y :: .int x :: st) μ ↔ gc_W (gc_S d) cX2_joined 2 0 R 127 L (.int (x - y) :: st) μ := us_isub dX2_joined_126
theorem u10_127 {d : Nat} {R : gR} {μ : gM} {L : List Value} {v : Int32}  : gc_W (gc_S d) cX2_joined 2 0 R 127 L [.int v] μ ↔ R (some (.int v)) μ := us_iret dX2_joined_127 rfl
theorem u10_128 {d : Nat} {R : gR} {μ : gM} {l0 l2 : Value} {st : List Value} {x : Int32}  : gc_W (gc_S d) cX2_joined 2 0 R 128 [l0, .int x, l2] st μ ↔ gc_W (gc_S d) cX2_joined 2 0 R 129 [l0, .int x, l2] (.int x :: st) μ := us_iload_n dX2_joined_128 rfl
theorem u10_129 {d : Nat} {R : gR} {μ : gM} {l0 l1 : Value} {st : List Value} {x : Int32}  : gc_W (gc_S d) cX2_joined 2 0 R 129 [l0, l1, .int x] st μ ↔ gc_W (gc_S d) cX2_joined 2 0 R 130 [l0, l1, .int x] (.int x :: st) μ := us_iload_n dX2_joined_129 rfl
theorem u10_130 {d : Nat} {R : gR} {μ : gM} {L : List Value} {st : List Value} {x y : Int32}  : gc_W (gc_S d) cX2_joined 2 0 R 130 L (.int y :: .int x :: st) μ ↔ gc_W (gc_S d) cX2_joined 2 0 R 131 L (.int (x * y) :: st) μ := us_imul dX2_joined_130
theorem u10_131 {d : Nat} {R : gR} {μ : gM} {L : List Value} {v : Int32}  : gc_W (gc_S d) cX2_joined 2 0 R 131 L [.int v] μ ↔ R (some (.int v)) μ := us_iret dX2_joined_131 rfl
theorem u10_132 {d : Nat} {R : gR} {μ : gM} {l0 l1 : Value} {st : List Value} {x : Int32}  : gc_W (gc_S d) cX2_joined 2 0 R 132 [l0, l1, .int x] st μ ↔ gc_W (gc_S d) cX2_joined 2 0 R 133 [l0, l1, .int x] (.int x :: st) μ := us_iload_n dX2_joined_132 rfl
theorem u10_133 {d : Nat} {R : gR} {μ : gM} {L : List Value} {st : List Value} {x : Int32}  : gc_W (gc_S d) cX2_joined 2 0 R 133 L (.int x :: st) μ ↔ if x = 0 then gc_W (gc_S d) cX2_joined 2 0 R 136 L st μ else gc_W (gc_S d) cX2_joined 2 0 R 140 L st μ := us_ifne dX2_joined_133 rfl
theorem u10_136 {d : Nat} {R : gR} {μ : gM} {L : List Value} {st : List Value}   : gc_W (gc_S d) cX2_joined 2 0 R 136 L st μ ↔ gc_W (gc_S d) cX2_joined 2 0 R 137 L (.int 0 :: st) μ := us_iconst dX2_joined_136 ci_iconst_0
theorem u10_137 {d : Nat} {R : gR} {μ : gM} {L : List Value} {st : List Value}  : gc_W (gc_S d) cX2_joined 2 0 R 137 L st μ ↔ gc_W (gc_S d) cX2_joined 2 0 R 143 L st μ := us_goto dX2_joined_137 rfl
theorem u10_140 {d : Nat} {R : gR} {μ : gM} {l0 l2 : Value} {st : List Value} {x : Int32}  : gc_W (gc_S d) cX2_joined 2 0 R 140 [l0, .int x, l2] st μ ↔ gc_W (gc_S d) cX2_joined 2 0 R 141 [l0, .int x, l2] (.int x :: st) μ := us_iload_n dX2_joined_140 rfl
theorem u10_141 {d : Nat} {R : gR} {μ : gM} {l0 l1 : Value} {st : List Value} {x : Int32}  : gc_W (gc_S d) cX2_joined 2 0 R 141 [l0, l1, .int x] st μ ↔ gc_W (gc_S d) cX2_joined 2 0 R 142 [l0, l1, .int x] (.int x :: st) μ := us_iload_n dX2_joined_141 rfl
theorem u10_142 {d : Nat} {R : gR} {μ : gM} {L : List Value} {st : List Value} {x y : Int32}  : gc_W (gc_S d) cX2_joined 2 0 R 142 L (.int y :: .int x :: st) μ ↔ (¬ y = 0 ∧ gc_W (gc_S d) cX2_joined 2 0 R 143 L (.int (x / y) :: st) μ) := us_idiv dX2_joined_142
theorem u10_143 {d : Nat} {R : gR} {μ : gM} {L : List Value} {v : Int32}  : gc_W (gc_S d) cX2_joined 2 0 R 143 L [.int v] μ ↔ R (some (.int v)) μ := us_iret dX2_joined_143 rfl
theorem u10_144 {d : Nat} {R : gR} {μ : gM} {l0 l1 : Value} {st : List Value} {x : Int32}  : gc_W (gc_S d) cX2_joined 2 0 R 144 [l0, l1, .int x] st μ ↔ gc_W (gc_S d) cX2_joined 2 0 R 145 [l0, l1, .int x] (.int x :: st) μ := us_iload_n dX2_joined_144 rfl
theorem u10_145 {d : Nat} {R : gR} {μ : gM} {L : List Value} {st : List Value} {x : Int32}  : gc_W (gc_S d) cX2_joined 2 0 R 145 L (.int x :: st) μ ↔ if x = 0 then gc_W (gc_S d) cX2_joined 2 0 R 148 L st μ else gc_W (gc_S d) cX2_joined 2 0 R 152 L st μ := us_ifne dX2_joined_145 rfl
theorem u10_148 {d : Nat} {R : gR} {μ : gM} {L : List Value} {st : List Value}   : gc_W (gc_S d) cX2_joined 2 0 R 148 L st μ ↔ gc_W (gc_S d) cX2_joined 2 0 R 149 L (.int 0 :: st) μ := us_iconst dX2_joined_148 ci_iconst_0
theorem u10_149 {d : Nat} {R : gR} {μ : gM} {L : List Value} {st : List Value}  : gc_W (gc_S d) cX2_joined 2 0 R 149 L st μ ↔ gc_W (gc_S d) cX2_joined 2 0 R 155 L st μ := us_goto dX2_joined_149 rfl
theorem u10_152 {d : Nat} {R : gR} {μ : gM} {l0 l2 : Value} {st : List Value} {x : Int32}  : gc_W (gc_S d) cX2_joined 2 0 R 152 [l0, .int x, l2] st μ ↔ gc_W (gc_S d) cX2_joined 2 0 R 153 [l0, .int x, l2] (.int x :: st) μ := us_iload_n dX2_joined_152 rfl
theorem u10_153 {d : Nat} {R : gR} {μ : gM} {l0 l1 : Value} {st : List Value} {x : Int32}  : gc_W (gc_S d) cX2_joined 2 0 R 153 [l0, l1, .int x] st μ ↔ gc_W (gc_S d) cX2_joined 2 0 R 154 [l0, l1, .int x] (.int x :: st) μ := us_iload_n dX2_joined_153 rfl
theorem u10_154 {d : Nat} {R : gR} {μ : gM} {L : List Value} {st : List Value} {x y : Int32}  : gc_W (gc_S d) cX2_joined 2 0 R 154 L (.int y :: .int x :: st) μ ↔ (¬ y = 0 ∧ gc_W (gc_S d) cX2_joined 2 0 R 155 L (.int (x - x / y * y) :: st) μ) := us_irem dX2_joined_154
theorem u10_155 {d : Nat} {R : gR} {μ : gM} {L : List Value} {v : Int32}  : gc_W (gc_S d) cX2_joined 2 0 R 155 L [.int v] μ ↔ R (some (.int v)) μ := us_iret dX2_joined_155 rfl
theorem u10_156 {d : Nat} {R : gR} {μ : gM} {l0 l2 : Value} {st : List Value} {x : Int32}  : gc_W (gc_S d) cX2_joined 2 0 R 156 [l0, .int x, l2] st μ ↔ gc_W (gc_S d) cX2_joined 2 0 R 157 [l0, .int x, l2] (.int x :: st) μ := us_iload_n dX2_joined_156 rfl
theorem u10_157 {d : Nat} {R : gR} {μ : gM} {l0 l1 : Value} {st : List Value} {x : Int32}  : gc_W (gc_S d) cX2_joined 2 0 R 157 [l0, l1, .int x] st μ ↔ gc_W (gc_S d) cX2_joined 2 0 R 158 [l0, l1, .int x] (.int x :: st) μ := us_iload_n dX2_joined_157 rfl
theorem u10_158 {d : Nat} {R : gR} {μ : gM} {L : List Value} {st : List Value} {x y : Int32}  : gc_W (gc_S d) cX2_joined 2 0 R 158 L (.int y :: .int x :: st) μ ↔ if y ≤ x then gc_W (gc_S d) cX2_joined 2 0 R 165 L st μ else gc_W (gc_S d) cX2_joined 2 0 R 161 L st μ := us_icge dX2_joined_158 rfl
theorem u10_161 {d : Nat} {R : gR} {μ : gM} {L : List Value} {st : List Value}   : gc_W (gc_S d) cX2_joined 2 0 R 161 L st μ ↔ gc_W (gc_S d) cX2_joined 2 0 R 162 L (.int 1 :: st) μ := us_iconst dX2_joined_161 ci_iconst_1
theorem u10_162 {d : Nat} {R : gR} {μ : gM} {L : List Value} {st : List Value}  : gc_W (gc_S d) cX2_joined 2 0 R 162 L st μ ↔ gc_W (gc_S d) cX2_joined 2 0 R 166 L st μ := us_goto dX2_joined_162 rfl
theorem u10_165 {d : Nat} {R : gR} {μ : gM} {L : List Value} {st : List Value}   : gc_W (gc_S d) cX2_joined 2 0 R 165 L st μ ↔ gc_W (gc_S d) cX2_joined 2 0 R 166 L (.int 0 :: st) μ := us_iconst dX2_joined_165 ci_iconst_0
theorem u10_166 {d : Nat} {R : gR} {μ : gM} {L : List Value} {v : Int32}  : gc_W (gc_S d) cX2_joined 2 0 R 166 L [.int v] μ ↔ R (some (.int v)) μ := us_iret dX2_joined_166 rfl
theorem u10_167 {d : Nat} {R : gR} {μ : gM} {l0 l2 : Value} {st : List Value} {x : Int32}  : gc_W (gc_S d) cX2_joined 2 0 R 167 [l0, .int x, l2] st μ ↔ gc_W (gc_S d) cX2_joined 2 0 R 168 [l0, .int x, l2] (.int x :: st) μ := us_iload_n dX2_joined_167 rfl
theorem u10_168 {d : Nat} {R : gR} {μ : gM} {l0 l1 : Value} {st : List Value} {x : Int32}  : gc_W (gc_S d) cX2_joined 2 0 R 168 [l0, l1, .int x] st μ ↔ gc_W (gc_S d) cX2_joined 2 0 R 169 [l0, l1, .int x] (.int x :: st) μ := us_iload_n dX2_joined_168 rfl
theorem u10_169 {d : Nat} {R : gR} {μ : gM} {L : List Value} {st : List Value} {x y : Int32}  : gc_W (gc_S d) cX2_joined 2 0 R 169 L (.int y :: .int x :: st) μ ↔ if x = y then gc_W (gc_S d) cX2_joined 2 0 R 172 L st μ else gc_W (gc_S d) cX2_joined 2 0 R 176 L st μ := us_icne dX2_joined_169 rfl
theorem u10_172 {d : Nat} {R : gR} {μ : gM} {L : List Value} {st : List Value}   : gc_W (gc_S d) cX2_joined 2 0 R 172 L st μ ↔ gc_W (gc_S d) cX2_joined 2 0 R 173 L (.int 1 :: st) μ := us_iconst dX2_joined_172 ci_iconst_1
theorem u10_173 {d : Nat} {R : gR} {μ : gM} {L : List Value} {st : List Value}  : gc_W (gc_S d) cX2_joined 2 0 R 173 L st μ ↔ gc_W (gc_S d) cX2_joined 2 0 R 177 L st μ := us_goto dX2_joined_173 rfl
theorem u10_176 {d : Nat} {R : gR} {μ : gM} {L : List Value} {st : List Value}   : gc_W (gc_S d) cX2_joined 2 0 R 176 L st μ ↔ gc_W (gc_S d) cX2_joined 2 0 R 177 L (.int 0 :: st) μ := us_iconst dX2_joined_176 ci_iconst_0
theorem u10_177 {d : Nat} {R : gR} {μ : gM} {L : List Value} {v : Int32}  : gc_W (gc_S d) cX2_joined 2 0 R 177 L [.int v] μ ↔ R (some (.int v)) μ := us_iret dX2_joined_177 rfl
theorem u10_178 {d : Nat} {R : gR} {μ : gM} {l0 l2 : Value} {st : List Value} {x : Int32}  : gc_W (gc_S d) cX2_joined 2 0 R 178 [l0, .int x, l2] st μ ↔ gc_W (gc_S d) cX2_joined 2 0 R 179 [l0, .int x, l2] (.int x :: st) μ := us_iload_n dX2_joined_178 rfl
theorem u10_179 {d : Nat} {R : gR} {μ : gM} {l0 l1 : Value} {st : List Value} {x : Int32}  : gc_W (gc_S d) cX2_joined 2 0 R 179 [l0, l1, .int x] st μ ↔ gc_W (gc_S d) cX2_joined 2 0 R 180 [l0, l1, .int x] (.int x :: st) μ := us_iload_n dX2_joined_179 rfl
theorem u10_180 {d : Nat} {R : gR} {μ : gM} {L : List Value} {st : List Value} {x y : Int32}  : gc_W (gc_S d) cX2_joined 2 0 R 180 L (.int y :: .int x :: st) μ ↔ if x ≤ y then gc_W (gc_S d) cX2_joined 2 0 R 187 L st μ else gc_W (gc_S d) cX2_joined 2 0 R 183 L st μ := us_icle dX2_joined_180 rfl
theorem u10_183 {d : Nat} {R : gR} {μ : gM} {L : List Value} {st : List Value}   : gc_W (gc_S d) cX2_joined 2 0 R 183 L st μ ↔ gc_W (gc_S d) cX2_joined 2 0 R 184 L (.int 1 :: st) μ := us_iconst dX2_joined_183 ci_iconst_1
theorem u10_184 {d : Nat} {R : gR} {μ : gM} {L : List Value} {st : List Value}  : gc_W (gc_S d) cX2_joined 2 0 R 184 L st μ ↔ gc_W (gc_S d) cX2_joined 2 0 R 188 L st μ := us_goto dX2_joined_184 rfl
theorem u10_187 {d : Nat} {R : gR} {μ : gM} {L : List Value} {st : List Value}   : gc_W (gc_S d) cX2_joined 2 0 R 187 L st μ ↔ gc_W (gc_S d) cX2_joined 2 0 R 188 L (.int 0 :: st) μ := us_iconst dX2_joined_187 ci_iconst_0
theorem u10_188 {d : Nat} {R : gR} {μ : gM} {L : List Value} {v : Int32}  : gc_W (gc_S d) cX2_joined 2 0 R 188 L [.int v] μ ↔ R (some (.int v)) μ := us_iret dX2_joined_188 rfl
theorem u10_189 {d : Nat} {R : gR} {μ : gM} {l0 l2 : Value} {st : List Value} {x : Int32}  : gc_W (gc_S d) cX2_joined 2 0 R 189 [l0, .int x, l2] st μ ↔ gc_W (gc_S d) cX2_joined 2 0 R 190 [l0, .int x, l2] (.int x :: st) μ := us_iload_n dX2_joined_189 rfl
theorem u10_190 {d : Nat} {R : gR} {μ : gM} {L : List Value} {st : List Value} {x : Int32}  : gc_W (gc_S d) cX2_joined 2 0 R 190 L (.int x :: st) μ ↔ if x = 0 then gc_W (gc_S d) cX2_joined 2 0 R 201 L st μ else gc_W (gc_S d) cX2_joined 2 0 R 193 L st μ := us_ifeq dX2_joined_190 rfl
theorem u10_193 {d : Nat} {R : gR} {μ : gM} {l0 l1 : Value} {st : List Value} {x : Int32}  : gc_W (gc_S d) cX2_joined 2 0 R 193 [l0, l1, .int x] st μ ↔ gc_W (gc_S d) cX2_joined 2 0 R 194 [l0, l1, .int x] (.int x :: st) μ := us_iload_n dX2_joined_193 rfl
theorem u10_194 {d : Nat} {R : gR} {μ : gM} {L : List Value} {st : List Value} {x : Int32}  : gc_W (gc_S d) cX2_joined 2 0 R 194 L (.int x :: st) μ ↔ if x = 0 then gc_W (gc_S d) cX2_joined 2 0 R 201 L st μ else gc_W (gc_S d) cX2_joined 2 0 R 197 L st μ := us_ifeq dX2_joined_194 rfl
theorem u10_197 {d : Nat} {R : gR} {μ : gM} {L : List Value} {st : List Value}   : gc_W (gc_S d) cX2_joined 2 0 R 197 L st μ ↔ gc_W (gc_S d) cX2_joined 2 0 R 198 L (.int 1 :: st) μ := us_iconst dX2_joined_197 ci_iconst_1
theorem u10_198 {d : Nat} {R : gR} {μ : gM} {L : List Value} {st : List Value}  : gc_W (gc_S d) cX2_joined 2 0 R 198 L st μ ↔ gc_W (gc_S d) cX2_joined 2 0 R 202 L st μ := us_goto dX2_joined_198 rfl
theorem u10_201 {d : Nat} {R : gR} {μ : gM} {L : List Value} {st : List Value}   : gc_W (gc_S d) cX2_joined 2 0 R 201 L st μ ↔ gc_W (gc_S d) cX2_joined 2 0 R 202 L (.int 0 :: st) μ := us_iconst dX2_joined_201 ci_iconst_0
theorem u10_202 {d : Nat} {R : gR} {μ : gM} {L : List Value} {v : Int32}  : gc_W (gc_S d) cX2_joined 2 0 R 202 L [.int v] μ ↔ R (some (.int v)) μ := us_iret dX2_joined_202 rfl
theorem u10_203 {d : Nat} {R : gR} {μ : gM} {l0 l2 : Value} {st : List Value} {x : Int32}  : gc_W (gc_S d) cX2_joined 2 0 R 203 [l0, .int x, l2] st μ ↔ gc_W (gc_S d) cX2_joined 2 0 R 204 [l0, .int x, l2] (.int x :: st) μ := us_iload_n dX2_joined_203 rfl
theorem u10_204 {d : Nat} {R : gR} {μ : gM} {L : List Value} {st : List Value} {x : Int32}  : gc_W (gc_S d) cX2_joined 2 0 R 204 L (.int x :: st) μ ↔ if x = 0 then gc_W (gc_S d) cX2_joined 2 0 R 207 L st μ else gc_W (gc_S d) cX2_joined 2 0 R 211 L st μ := us_ifne dX2_joined_204 rfl
theorem u10_207 {d : Nat} {R : gR} {μ : gM} {l0 l1 : Value} {st : List Value} {x : Int32}  : gc_W (gc_S d) cX2_joined 2 0 R 207 [l0, l1, .int x] st μ ↔ gc_W (gc_S d) cX2_joined 2 0 R 208 [l0, l1, .int x] (.int x :: st) μ := us_iload_n dX2_joined_207 rfl
theorem u10_208 {d : Nat} {R : gR} {μ : gM} {L : List Value} {st : List Value} {x : Int32}  : gc_W (gc_S d) cX2_joined 2 0 R 208 L (.int x :: st) μ ↔ if x = 0 then gc_W (gc_S d) cX2_joined 2 0 R 215 L st μ else gc_W (gc_S d) cX2_joined 2 0 R 211 L st μ := us_ifeq dX2_joined_208 rfl
theorem u10_211 {d : Nat} {R : gR} {μ : gM} {L : List Value} {st : List Value}   : gc_W (gc_S d) cX2_joined 2 0 R 211 L st μ ↔ gc_W (gc_S d) cX2_joined 2 0 R 212 L (.int 1 :: st) μ := us_iconst dX2_joined_211 ci_iconst_1
theorem u10_212 {d : Nat} {R : gR} {μ : gM} {L : List Value} {st : List Value}  : gc_W (gc_S d) cX2_joined 2 0 R 212 L st μ ↔ gc_W (gc_S d) cX2_joined 2 0 R 216 L st μ := us_goto dX2_joined_212 rfl
theorem u10_215 {d : Nat} {R : gR} {μ : gM} {L : List Value} {st : List Value}   : gc_W (gc_S d) cX2_joined 2 0 R 215 L st μ ↔ gc_W (gc_S d) cX2_joined 2 0 R 216 L (.int 0 :: st) μ := us_iconst dX2_joined_215 ci_iconst_0
theorem u10_216 {d : Nat} {R : gR} {μ : gM} {L : List Value} {v : Int32}  : gc_W (gc_S d) cX2_joined 2 0 R 216 L [.int v] μ ↔ R (some (.int v)) μ := us_iret dX2_joined_216 rfl
theorem s10 {d : Nat} {R : gR} {μ : gM} {a0 a1 a2 : Int32} : gc_S (d + 1) 10 [.int a0, .int a1, .int a2] μ R ↔ gc_W (gc_S d) cX2_joined 2 0 R 0 [.int a0, .int a1, .int a2] [] μ := us_call (gm_10) rfl rfl
theorem dX2_workedOut_0 : decode cX2_workedOut 0 = .ok (.iconst (-1), 1) := by decide +kernel
theorem dX2_workedOut_1 : decode cX2_workedOut 1 = .ok (.istore 4, 2) := by decide +kernel
theorem dX2_workedOut_3 : decode cX2_workedOut 3 = .ok (.iconst 0, 1) := by decide +kernel
theorem dX2_workedOut_4 : decode cX2_workedOut 4 = .ok (.istore 5, 2) := by decide +kernel
theorem dX2_workedOut_6 : decode cX2_workedOut 6 = .ok (.iload 5, 2) := by decide +kernel
theorem dX2_workedOut_8 : decode cX2_workedOut 8 = .ok (.aload_n 0, 1) := by decide +kernel
theorem dX2_workedOut_9 : decode cX2_workedOut 9 = .ok (.getfield 14, 3) := by decide +kernel
theorem dX2_workedOut_12 : decode cX2_workedOut 12 = .ok (.getfield 41, 3) := by decide +kernel
theorem dX2_workedOut_15 : decode cX2_workedOut 15 = .ok (.if_icmp .ge 137, 3) := by decide +kernel
theorem dX2_workedOut_18 : decode cX2_workedOut 18 = .ok (.aload_n 0, 1) := by decide +kernel
theorem dX2_workedOut_19 : decode cX2_workedOut 19 = .ok (.getfield 14, 3) := by decide +kernel
theorem dX2_workedOut_22 : decode cX2_workedOut 22 = .ok (.getfield 48, 3) := by decide +kernel
theorem dX2_workedOut_25 : decode cX2_workedOut 25 = .ok (.iload 5, 2) := by decide +kernel
theorem dX2_workedOut_27 : decode cX2_workedOut 27 = .ok (.iaload, 1) := by decide +kernel
theorem dX2_workedOut_28 : decode cX2_workedOut 28 = .ok (.istore 6, 2) := by decide +kernel
theorem dX2_workedOut_30 : decode cX2_workedOut 30 = .ok (.iload 6, 2) := by decide +kernel
theorem dX2_workedOut_32 : decode cX2_workedOut 32 = .ok (.bipush (-3), 2) := by decide +kernel
theorem dX2_workedOut_34 : decode cX2_workedOut 34 = .ok (.if_icmp .lt 48, 3) := by decide +kernel
theorem dX2_workedOut_37 : decode cX2_workedOut 37 = .ok (.iinc 4 1, 3) := by decide +kernel
theorem dX2_workedOut_40 : decode cX2_workedOut 40 = .ok (.aload_n 0, 1) := by decide +kernel
theorem dX2_workedOut_41 : decode cX2_workedOut 41 = .ok (.getfield 20, 3) := by decide +kernel
theorem dX2_workedOut_44 : decode cX2_workedOut 44 = .ok (.iload 4, 2) := by decide +kernel
theorem dX2_workedOut_46 : decode cX2_workedOut 46 = .ok (.iload 6, 2) := by decide +kernel
theorem dX2_workedOut_48 : decode cX2_workedOut 48 = .ok (.ifCond .lt 8, 3) := by decide +kernel
theorem dX2_workedOut_51 : decode cX2_workedOut 51 = .ok (.iload 6, 2) := by decide +kernel
theorem dX2_workedOut_53 : decode cX2_workedOut 53 = .ok (.goto 25, 3) := by decide +kernel
theorem dX2_workedOut_56 : decode cX2_workedOut 56 = .ok (.iload 6, 2) := by decide +kernel
theorem dX2_workedOut_58 : decode cX2_workedOut 58 = .ok (.iconst (-1), 1) := by decide +kernel
theorem dX2_workedOut_59 : decode cX2_workedOut 59 = .ok (.if_icmp .ne 7, 3) := by decide +kernel
theorem dX2_workedOut_62 : decode cX2_workedOut 62 = .ok (.iload_n 1, 1) := by decide +kernel
theorem dX2_workedOut_63 : decode cX2_workedOut 63 = .ok (.goto 15, 3) := by decide +kernel
theorem dX2_workedOut_66 : decode cX2_workedOut 66 = .ok (.iload 6, 2) := by decide +kernel
theorem dX2_workedOut_68 : decode cX2_workedOut 68 = .ok (.bipush (-2), 2) := by decide +kernel
theorem dX2_workedOut_70 : decode cX2_workedOut 70 = .ok (.if_icmp .ne 7, 3) := by decide +kernel
theorem dX2_workedOut_73 : decode cX2_workedOut 73 = .ok (.iload_n 2, 1) := by decide +kernel
theorem dX2_workedOut_74 : decode cX2_workedOut 74 = .ok (.goto 4, 3) := by decide +kernel
theorem dX2_workedOut_77 : decode cX2_workedOut 77 = .ok (.iload_n 3, 1) := by decide +kernel
theorem dX2_workedOut_78 : decode cX2_workedOut 78 = .ok (.iastore, 1) := by decide +kernel
theorem dX2_workedOut_79 : decode cX2_workedOut 79 = .ok (.goto 67, 3) := by decide +kernel
theorem dX2_workedOut_82 : decode cX2_workedOut 82 = .ok (.iload 6, 2) := by decide +kernel
theorem dX2_workedOut_84 : decode cX2_workedOut 84 = .ok (.bipush (-33), 2) := by decide +kernel
theorem dX2_workedOut_86 : decode cX2_workedOut 86 = .ok (.if_icmp .ne 28, 3) := by decide +kernel
theorem dX2_workedOut_89 : decode cX2_workedOut 89 = .ok (.aload_n 0, 1) := by decide +kernel
theorem dX2_workedOut_90 : decode cX2_workedOut 90 = .ok (.getfield 20, 3) := by decide +kernel
theorem dX2_workedOut_93 : decode cX2_workedOut 93 = .ok (.iload 4, 2) := by decide +kernel
theorem dX2_workedOut_95 : decode cX2_workedOut 95 = .ok (.aload_n 0, 1) := by decide +kernel
theorem dX2_workedOut_96 : decode cX2_workedOut 96 = .ok (.getfield 20, 3) := by decide +kernel
theorem dX2_workedOut_99 : decode cX2_workedOut 99 = .ok (.iload 4, 2) := by decide +kernel
theorem dX2_workedOut_101 : decode cX2_workedOut 101 = .ok (.iaload, 1) := by decide +kernel
theorem dX2_workedOut_102 : decode cX2_workedOut 102 = .ok (.ifCond .ne 7, 3) := by decide +kernel
theorem dX2_workedOut_105 : decode cX2_workedOut 105 = .ok (.iconst 1, 1) := by decide +kernel
theorem dX2_workedOut_106 : decode cX2_workedOut 106 = .ok (.goto 4, 3) := by decide +kernel
theorem dX2_workedOut_109 : decode cX2_workedOut 109 = .ok (.iconst 0, 1) := by decide +kernel
theorem dX2_workedOut_110 : decode cX2_workedOut 110 = .ok (.iastore, 1) := by decide +kernel
theorem dX2_workedOut_111 : decode cX2_workedOut 111 = .ok (.goto 35, 3) := by decide +kernel
theorem dX2_workedOut_114 : decode cX2_workedOut 114 = .ok (.iinc 4 (-1), 3) := by decide +kernel
theorem dX2_workedOut_117 : decode cX2_workedOut 117 = .ok (.aload_n 0, 1) := by decide +kernel
theorem dX2_workedOut_118 : decode cX2_workedOut 118 = .ok (.getfield 20, 3) := by decide +kernel
theorem dX2_workedOut_121 : decode cX2_workedOut 121 = .ok (.iload 4, 2) := by decide +kernel
theorem dX2_workedOut_123 : decode cX2_workedOut 123 = .ok (.iload 6, 2) := by decide +kernel
theorem dX2_workedOut_125 : decode cX2_workedOut 125 = .ok (.ineg, 1) := by decide +kernel
theorem dX2_workedOut_126 : decode cX2_workedOut 126 = .ok (.aload_n 0, 1) := by decide +kernel
theorem dX2_workedOut_127 : decode cX2_workedOut 127 = .ok (.getfield 20, 3) := by decide +kernel
theorem dX2_workedOut_130 : decode cX2_workedOut 130 = .ok (.iload 4, 2) := by decide +kernel
theorem dX2_workedOut_132 : decode cX2_workedOut 132 = .ok (.iaload, 1) := by decide +kernel
theorem dX2_workedOut_133 : decode cX2_workedOut 133 = .ok (.aload_n 0, 1) := by decide +kernel
theorem dX2_workedOut_134 : decode cX2_workedOut 134 = .ok (.getfield 20, 3) := by decide +kernel
theorem dX2_workedOut_137 : decode cX2_workedOut 137 = .ok (.iload 4, 2) := by decide +kernel
theorem dX2_workedOut_139 : decode cX2_workedOut 139 = .ok (.iconst 1, 1) := by decide +kernel
theorem dX2_workedOut_140 : decode cX2_workedOut 140 = .ok (.iadd, 1) := by decide +kernel
theorem dX2_workedOut_141 : decode cX2_workedOut 141 = .ok (.iaload, 1) := by decide +kernel
theorem dX2_workedOut_142 : decode cX2_workedOut 142 = .ok (.invokestatic 85, 3) := by decide +kernel
theorem dX2_workedOut_145 : decode cX2_workedOut 145 = .ok (.iastore, 1) := by decide +kernel
theorem dX2_workedOut_146 : decode cX2_workedOut 146 = .ok (.iinc 5 1, 3) := by decide +kernel
theorem dX2_workedOut_149 : decode cX2_workedOut 149 = .ok (.goto (-143), 3) := by decide +kernel
theorem dX2_workedOut_152 : decode cX2_workedOut 152 = .ok (.iload 4, 2) := by decide +kernel
theorem dX2_workedOut_154 : decode cX2_workedOut 154 = .ok (.ifCond .ge 7, 3) := by decide +kernel
theorem dX2_workedOut_157 : decode cX2_workedOut 157 = .ok (.iconst 0, 1) := by decide +kernel
theorem dX2_workedOut_158 : decode cX2_workedOut 158 = .ok (.goto 10, 3) := by decide +kernel
theorem dX2_workedOut_161 : decode cX2_workedOut 161 = .ok (.aload_n 0, 1) := by decide +kernel
theorem dX2_workedOut_162 : decode cX2_workedOut 162 = .ok (.getfield 20, 3) := by decide +kernel
theorem dX2_workedOut_165 : decode cX2_workedOut 165 = .ok (.iload 4, 2) := by decide +kernel
theorem dX2_workedOut_167 : decode cX2_workedOut 167 = .ok (.iaload, 1) := by decide +kernel
theorem dX2_workedOut_168 : decode cX2_workedOut 168 = .ok (.ireturn, 1) := by decide +kernel
theorem u11_0 {d : Nat} {R : gR} {μ : gM} {L : List Value} {st : List Value}   : gc_W (gc_S d) cX2_workedOut 2 0 R 0 L st μ ↔ gc_W (gc_S d) cX2_workedOut 2 0 R 1 L (.int (-1) :: st) μ := us_iconst dX2_workedOut_0 ci_iconst_m1
theorem u11_1 {d : Nat} {R : gR} {μ : gM} {l0 l1 l2 l3 l4 l5 l6 : Value} {st : List Value} {x : Int32} (hs : gc_sk l4 = true) : gc_W (gc_S d) cX2_workedOut 2 0 R 1 [l0, l1, l2, l3, l4, l5, l6] (.int x :: st) μ ↔ gc_W (gc_S d) cX2_workedOut 2 0 R 3 [l0, l1, l2, l3, .int x, l5, l6] st μ := us_istore dX2_workedOut_1 rfl hs
theorem u11_3 {d : Nat} {R : gR} {μ : gM} {L : List Value} {st : List Value}   : gc_W (gc_S d) cX2_workedOut 2 0 R 3 L st μ ↔ gc_W (gc_S d) cX2_workedOut 2 0 R 4 L (.int 0 :: st) μ := us_iconst dX2_workedOut_3 ci_iconst_0
theorem u11_4 {d : Nat} {R : gR} {μ : gM} {l0 l1 l2 l3 l4 l5 l6 : Value} {st : List Value} {x : Int32} (hs : gc_sk l5 = true) : gc_W (gc_S d) cX2_workedOut 2 0 R 4 [l0, l1, l2, l3, l4, l5, l6] (.int x :: st) μ ↔ gc_W (gc_S d) cX2_workedOut 2 0 R 6 [l0, l1, l2, l3, l4, .int x, l6] st μ := us_istore dX2_workedOut_4 rfl hs
theorem u11_6 {d : Nat} {R : gR} {μ : gM} {l0 l1 l2 l3 l4 l6 : Value} {st : List Value} {x : Int32}  : gc_W (gc_S d) cX2_workedOut 2 0 R 6 [l0, l1, l2, l3, l4, .int x, l6] st μ ↔ gc_W (gc_S d) cX2_workedOut 2 0 R 8 [l0, l1, l2, l3, l4, .int x, l6] (.int x :: st) μ := us_iload dX2_workedOut_6 rfl
theorem u11_8 {d : Nat} {R : gR} {μ : gM} {l1 l2 l3 l4 l5 l6 : Value} {st : List Value} {x : Nat}  : gc_W (gc_S d) cX2_workedOut 2 0 R 8 [.ref x, l1, l2, l3, l4, l5, l6] st μ ↔ gc_W (gc_S d) cX2_workedOut 2 0 R 9 [.ref x, l1, l2, l3, l4, l5, l6] (.ref x :: st) μ := us_aload_n dX2_workedOut_8 rfl
theorem u11_9 {d : Nat} {R : gR} {μ : gM} {L : List Value} {st : List Value} {o : Nat} (hk : gc_kd o = 2) : gc_W (gc_S d) cX2_workedOut 2 0 R 9 L (.ref o :: st) μ ↔ gc_W (gc_S d) cX2_workedOut 2 0 R 12 L (gc_fv o 0 μ :: st) μ := us_getf dX2_workedOut_9 gf_2_14 hk
theorem u11_12 {d : Nat} {R : gR} {μ : gM} {L : List Value} {st : List Value} {o : Nat} (hk : gc_kd o = 7) : gc_W (gc_S d) cX2_workedOut 2 0 R 12 L (.ref o :: st) μ ↔ gc_W (gc_S d) cX2_workedOut 2 0 R 15 L (gc_fv o 1 μ :: st) μ := us_getf dX2_workedOut_12 gf_2_41 hk
theorem u11_15 {d : Nat} {R : gR} {μ : gM} {L : List Value} {st : List Value} {x y : Int32}  : gc_W (gc_S d) cX2_workedOut 2 0 R 15 L (.int y :: .int x :: st) μ ↔ if y ≤ x then gc_W (gc_S d) cX2_workedOut 2 0 R 152 L st μ else gc_W (gc_S d) cX2_workedOut 2 0 R 18 L st μ := us_icge dX2_workedOut_15 rfl
theorem u11_18 {d : Nat} {R : gR} {μ : gM} {l1 l2 l3 l4 l5 l6 : Value} {st : List Value} {x : Nat}  : gc_W (gc_S d) cX2_workedOut 2 0 R 18 [.ref x, l1, l2, l3, l4, l5, l6] st μ ↔ gc_W (gc_S d) cX2_workedOut 2 0 R 19 [.ref x, l1, l2, l3, l4, l5, l6] (.ref x :: st) μ := us_aload_n dX2_workedOut_18 rfl
theorem u11_19 {d : Nat} {R : gR} {μ : gM} {L : List Value} {st : List Value} {o : Nat} (hk : gc_kd o = 2) : gc_W (gc_S d) cX2_workedOut 2 0 R 19 L (.ref o :: st) μ ↔ gc_W (gc_S d) cX2_workedOut 2 0 R 22 L (gc_fv o 0 μ :: st) μ := us_getf dX2_workedOut_19 gf_2_14 hk
theorem u11_22 {d : Nat} {R : gR} {μ : gM} {L : List Value} {st : List Value} {o : Nat} (hk : gc_kd o = 7) : gc_W (gc_S d) cX2_workedOut 2 0 R 22 L (.ref o :: st) μ ↔ gc_W (gc_S d) cX2_workedOut 2 0 R 25 L (gc_fv o 0 μ :: st) μ := us_getf dX2_workedOut_22 gf_2_48 hk
theorem u11_25 {d : Nat} {R : gR} {μ : gM} {l0 l1 l2 l3 l4 l6 : Value} {st : List Value} {x : Int32}  : gc_W (gc_S d) cX2_workedOut 2 0 R 25 [l0, l1, l2, l3, l4, .int x, l6] st μ ↔ gc_W (gc_S d) cX2_workedOut 2 0 R 27 [l0, l1, l2, l3, l4, .int x, l6] (.int x :: st) μ := us_iload dX2_workedOut_25 rfl
theorem u11_27 {d : Nat} {R : gR} {μ : gM} {L : List Value} {st : List Value} {o : Nat} {i : Int32} (hk : gc_kd o = 20) : gc_W (gc_S d) cX2_workedOut 2 0 R 27 L (.int i :: .ref o :: st) μ ↔ (vp_in i (gc_al o) ∧ gc_W (gc_S d) cX2_workedOut 2 0 R 28 L (.int (μ o i.toNatClampNeg) :: st) μ) := us_iald dX2_workedOut_27 hk
theorem u11_28 {d : Nat} {R : gR} {μ : gM} {l0 l1 l2 l3 l4 l5 l6 : Value} {st : List Value} {x : Int32} (hs : gc_sk l6 = true) : gc_W (gc_S d) cX2_workedOut 2 0 R 28 [l0, l1, l2, l3, l4, l5, l6] (.int x :: st) μ ↔ gc_W (gc_S d) cX2_workedOut 2 0 R 30 [l0, l1, l2, l3, l4, l5, .int x] st μ := us_istore dX2_workedOut_28 rfl hs
theorem u11_30 {d : Nat} {R : gR} {μ : gM} {l0 l1 l2 l3 l4 l5 : Value} {st : List Value} {x : Int32}  : gc_W (gc_S d) cX2_workedOut 2 0 R 30 [l0, l1, l2, l3, l4, l5, .int x] st μ ↔ gc_W (gc_S d) cX2_workedOut 2 0 R 32 [l0, l1, l2, l3, l4, l5, .int x] (.int x :: st) μ := us_iload dX2_workedOut_30 rfl
theorem u11_32 {d : Nat} {R : gR} {μ : gM} {L : List Value} {st : List Value}   : gc_W (gc_S d) cX2_workedOut 2 0 R 32 L st μ ↔ gc_W (gc_S d) cX2_workedOut 2 0 R 34 L (.int (-3) :: st) μ := us_bipush dX2_workedOut_32 ci_bipush_m3
theorem u11_34 {d : Nat} {R : gR} {μ : gM} {L : List Value} {st : List Value} {x y : Int32}  : gc_W (gc_S d) cX2_workedOut 2 0 R 34 L (.int y :: .int x :: st) μ ↔ if x < y then gc_W (gc_S d) cX2_workedOut 2 0 R 82 L st μ else gc_W (gc_S d) cX2_workedOut 2 0 R 37 L st μ := us_iclt dX2_workedOut_34 rfl
theorem u11_37 {d : Nat} {R : gR} {μ : gM} {l0 l1 l2 l3 l5 l6 : Value} {st : List Value} {x : Int32}  : gc_W (gc_S d) cX2_workedOut 2 0 R 37 [l0, l1, l2, l3, .int x, l5, l6] st μ ↔ gc_W (gc_S d) cX2_workedOut 2 0 R 40 [l0, l1, l2, l3, .int (x + 1), l5, l6] st μ := us_iinc dX2_workedOut_37 rfl ci_iinc_1
theorem u11_40 {d : Nat} {R : gR} {μ : gM} {l1 l2 l3 l4 l5 l6 : Value} {st : List Value} {x : Nat}  : gc_W (gc_S d) cX2_workedOut 2 0 R 40 [.ref x, l1, l2, l3, l4, l5, l6] st μ ↔ gc_W (gc_S d) cX2_workedOut 2 0 R 41 [.ref x, l1, l2, l3, l4, l5, l6] (.ref x :: st) μ := us_aload_n dX2_workedOut_40 rfl
theorem u11_41 {d : Nat} {R : gR} {μ : gM} {L : List Value} {st : List Value} {o : Nat} (hk : gc_kd o = 2) : gc_W (gc_S d) cX2_workedOut 2 0 R 41 L (.ref o :: st) μ ↔ gc_W (gc_S d) cX2_workedOut 2 0 R 44 L (gc_fv o 1 μ :: st) μ := us_getf dX2_workedOut_41 gf_2_20 hk
theorem u11_44 {d : Nat} {R : gR} {μ : gM} {l0 l1 l2 l3 l5 l6 : Value} {st : List Value} {x : Int32}  : gc_W (gc_S d) cX2_workedOut 2 0 R 44 [l0, l1, l2, l3, .int x, l5, l6] st μ ↔ gc_W (gc_S d) cX2_workedOut 2 0 R 46 [l0, l1, l2, l3, .int x, l5, l6] (.int x :: st) μ := us_iload dX2_workedOut_44 rfl
theorem u11_46 {d : Nat} {R : gR} {μ : gM} {l0 l1 l2 l3 l4 l5 : Value} {st : List Value} {x : Int32}  : gc_W (gc_S d) cX2_workedOut 2 0 R 46 [l0, l1, l2, l3, l4, l5, .int x] st μ ↔ gc_W (gc_S d) cX2_workedOut 2 0 R 48 [l0, l1, l2, l3, l4, l5, .int x] (.int x :: st) μ := us_iload dX2_workedOut_46 rfl
theorem u11_48 {d : Nat} {R : gR} {μ : gM} {L : List Value} {st : List Value} {x : Int32}  : gc_W (gc_S d) cX2_workedOut 2 0 R 48 L (.int x :: st) μ ↔ if x < 0 then gc_W (gc_S d) cX2_workedOut 2 0 R 56 L st μ else gc_W (gc_S d) cX2_workedOut 2 0 R 51 L st μ := us_iflt dX2_workedOut_48 rfl
theorem u11_51 {d : Nat} {R : gR} {μ : gM} {l0 l1 l2 l3 l4 l5 : Value} {st : List Value} {x : Int32}  : gc_W (gc_S d) cX2_workedOut 2 0 R 51 [l0, l1, l2, l3, l4, l5, .int x] st μ ↔ gc_W (gc_S d) cX2_workedOut 2 0 R 53 [l0, l1, l2, l3, l4, l5, .int x] (.int x :: st) μ := us_iload dX2_workedOut_51 rfl
theorem u11_53 {d : Nat} {R : gR} {μ : gM} {L : List Value} {st : List Value}  : gc_W (gc_S d) cX2_workedOut 2 0 R 53 L st μ ↔ gc_W (gc_S d) cX2_workedOut 2 0 R 78 L st μ := us_goto dX2_workedOut_53 rfl
theorem u11_56 {d : Nat} {R : gR} {μ : gM} {l0 l1 l2 l3 l4 l5 : Value} {st : List Value} {x : Int32}  : gc_W (gc_S d) cX2_workedOut 2 0 R 56 [l0, l1, l2, l3, l4, l5, .int x] st μ ↔ gc_W (gc_S d) cX2_workedOut 2 0 R 58 [l0, l1, l2, l3, l4, l5, .int x] (.int x :: st) μ := us_iload dX2_workedOut_56 rfl
theorem u11_58 {d : Nat} {R : gR} {μ : gM} {L : List Value} {st : List Value}   : gc_W (gc_S d) cX2_workedOut 2 0 R 58 L st μ ↔ gc_W (gc_S d) cX2_workedOut 2 0 R 59 L (.int (-1) :: st) μ := us_iconst dX2_workedOut_58 ci_iconst_m1
theorem u11_59 {d : Nat} {R : gR} {μ : gM} {L : List Value} {st : List Value} {x y : Int32}  : gc_W (gc_S d) cX2_workedOut 2 0 R 59 L (.int y :: .int x :: st) μ ↔ if x = y then gc_W (gc_S d) cX2_workedOut 2 0 R 62 L st μ else gc_W (gc_S d) cX2_workedOut 2 0 R 66 L st μ := us_icne dX2_workedOut_59 rfl
theorem u11_62 {d : Nat} {R : gR} {μ : gM} {l0 l2 l3 l4 l5 l6 : Value} {st : List Value} {x : Int32}  : gc_W (gc_S d) cX2_workedOut 2 0 R 62 [l0, .int x, l2, l3, l4, l5, l6] st μ ↔ gc_W (gc_S d) cX2_workedOut 2 0 R 63 [l0, .int x, l2, l3, l4, l5, l6] (.int x :: st) μ := us_iload_n dX2_workedOut_62 rfl
theorem u11_63 {d : Nat} {R : gR} {μ : gM} {L : List Value} {st : List Value}  : gc_W (gc_S d) cX2_workedOut 2 0 R 63 L st μ ↔ gc_W (gc_S d) cX2_workedOut 2 0 R 78 L st μ := us_goto dX2_workedOut_63 rfl
theorem u11_66 {d : Nat} {R : gR} {μ : gM} {l0 l1 l2 l3 l4 l5 : Value} {st : List Value} {x : Int32}  : gc_W (gc_S d) cX2_workedOut 2 0 R 66 [l0, l1, l2, l3, l4, l5, .int x] st μ ↔ gc_W (gc_S d) cX2_workedOut 2 0 R 68 [l0, l1, l2, l3, l4, l5, .int x] (.int x :: st) μ := us_iload dX2_workedOut_66 rfl
theorem u11_68 {d : Nat} {R : gR} {μ : gM} {L : List Value} {st : List Value}   : gc_W (gc_S d) cX2_workedOut 2 0 R 68 L st μ ↔ gc_W (gc_S d) cX2_workedOut 2 0 R 70 L (.int (-2) :: st) μ := us_bipush dX2_workedOut_68 ci_bipush_m2
theorem u11_70 {d : Nat} {R : gR} {μ : gM} {L : List Value} {st : List Value} {x y : Int32}  : gc_W (gc_S d) cX2_workedOut 2 0 R 70 L (.int y :: .int x :: st) μ ↔ if x = y then gc_W (gc_S d) cX2_workedOut 2 0 R 73 L st μ else gc_W (gc_S d) cX2_workedOut 2 0 R 77 L st μ := us_icne dX2_workedOut_70 rfl
theorem u11_73 {d : Nat} {R : gR} {μ : gM} {l0 l1 l3 l4 l5 l6 : Value} {st : List Value} {x : Int32}  : gc_W (gc_S d) cX2_workedOut 2 0 R 73 [l0, l1, .int x, l3, l4, l5, l6] st μ ↔ gc_W (gc_S d) cX2_workedOut 2 0 R 74 [l0, l1, .int x, l3, l4, l5, l6] (.int x :: st) μ := us_iload_n dX2_workedOut_73 rfl
theorem u11_74 {d : Nat} {R : gR} {μ : gM} {L : List Value} {st : List Value}  : gc_W (gc_S d) cX2_workedOut 2 0 R 74 L st μ ↔ gc_W (gc_S d) cX2_workedOut 2 0 R 78 L st μ := us_goto dX2_workedOut_74 rfl
theorem u11_77 {d : Nat} {R : gR} {μ : gM} {l0 l1 l2 l4 l5 l6 : Value} {st : List Value} {x : Int32}  : gc_W (gc_S d) cX2_workedOut 2 0 R 77 [l0, l1, l2, .int x, l4, l5, l6] st μ ↔ gc_W (gc_S d) cX2_workedOut 2 0 R 78 [l0, l1, l2, .int x, l4, l5, l6] (.int x :: st) μ := us_iload_n dX2_workedOut_77 rfl
theorem u11_78 {d : Nat} {R : gR} {μ : gM} {L : List Value} {st : List Value} {o : Nat} {i x : Int32} (hk : gc_kd o = 20) : gc_W (gc_S d) cX2_workedOut 2 0 R 78 L (.int x :: .int i :: .ref o :: st) μ ↔ (vp_in i (gc_al o) ∧ gc_W (gc_S d) cX2_workedOut 2 0 R 79 L st (gc_up μ o i.toNatClampNeg x)) := us_iast dX2_workedOut_78 hk
theorem u11_79 {d : Nat} {R : gR} {μ : gM} {L : List Value} {st : List Value}  : gc_W (gc_S d) cX2_workedOut 2 0 R 79 L st μ ↔ gc_W (gc_S d) cX2_workedOut 2 0 R 146 L st μ := us_goto dX2_workedOut_79 rfl
theorem u11_82 {d : Nat} {R : gR} {μ : gM} {l0 l1 l2 l3 l4 l5 : Value} {st : List Value} {x : Int32}  : gc_W (gc_S d) cX2_workedOut 2 0 R 82 [l0, l1, l2, l3, l4, l5, .int x] st μ ↔ gc_W (gc_S d) cX2_workedOut 2 0 R 84 [l0, l1, l2, l3, l4, l5, .int x] (.int x :: st) μ := us_iload dX2_workedOut_82 rfl
theorem u11_84 {d : Nat} {R : gR} {μ : gM} {L : List Value} {st : List Value}   : gc_W (gc_S d) cX2_workedOut 2 0 R 84 L st μ ↔ gc_W (gc_S d) cX2_workedOut 2 0 R 86 L (.int (-33) :: st) μ := us_bipush dX2_workedOut_84 ci_bipush_m33
theorem u11_86 {d : Nat} {R : gR} {μ : gM} {L : List Value} {st : List Value} {x y : Int32}  : gc_W (gc_S d) cX2_workedOut 2 0 R 86 L (.int y :: .int x :: st) μ ↔ if x = y then gc_W (gc_S d) cX2_workedOut 2 0 R 89 L st μ else gc_W (gc_S d) cX2_workedOut 2 0 R 114 L st μ := us_icne dX2_workedOut_86 rfl
theorem u11_89 {d : Nat} {R : gR} {μ : gM} {l1 l2 l3 l4 l5 l6 : Value} {st : List Value} {x : Nat}  : gc_W (gc_S d) cX2_workedOut 2 0 R 89 [.ref x, l1, l2, l3, l4, l5, l6] st μ ↔ gc_W (gc_S d) cX2_workedOut 2 0 R 90 [.ref x, l1, l2, l3, l4, l5, l6] (.ref x :: st) μ := us_aload_n dX2_workedOut_89 rfl
theorem u11_90 {d : Nat} {R : gR} {μ : gM} {L : List Value} {st : List Value} {o : Nat} (hk : gc_kd o = 2) : gc_W (gc_S d) cX2_workedOut 2 0 R 90 L (.ref o :: st) μ ↔ gc_W (gc_S d) cX2_workedOut 2 0 R 93 L (gc_fv o 1 μ :: st) μ := us_getf dX2_workedOut_90 gf_2_20 hk
theorem u11_93 {d : Nat} {R : gR} {μ : gM} {l0 l1 l2 l3 l5 l6 : Value} {st : List Value} {x : Int32}  : gc_W (gc_S d) cX2_workedOut 2 0 R 93 [l0, l1, l2, l3, .int x, l5, l6] st μ ↔ gc_W (gc_S d) cX2_workedOut 2 0 R 95 [l0, l1, l2, l3, .int x, l5, l6] (.int x :: st) μ := us_iload dX2_workedOut_93 rfl
theorem u11_95 {d : Nat} {R : gR} {μ : gM} {l1 l2 l3 l4 l5 l6 : Value} {st : List Value} {x : Nat}  : gc_W (gc_S d) cX2_workedOut 2 0 R 95 [.ref x, l1, l2, l3, l4, l5, l6] st μ ↔ gc_W (gc_S d) cX2_workedOut 2 0 R 96 [.ref x, l1, l2, l3, l4, l5, l6] (.ref x :: st) μ := us_aload_n dX2_workedOut_95 rfl
theorem u11_96 {d : Nat} {R : gR} {μ : gM} {L : List Value} {st : List Value} {o : Nat} (hk : gc_kd o = 2) : gc_W (gc_S d) cX2_workedOut 2 0 R 96 L (.ref o :: st) μ ↔ gc_W (gc_S d) cX2_workedOut 2 0 R 99 L (gc_fv o 1 μ :: st) μ := us_getf dX2_workedOut_96 gf_2_20 hk
theorem u11_99 {d : Nat} {R : gR} {μ : gM} {l0 l1 l2 l3 l5 l6 : Value} {st : List Value} {x : Int32}  : gc_W (gc_S d) cX2_workedOut 2 0 R 99 [l0, l1, l2, l3, .int x, l5, l6] st μ ↔ gc_W (gc_S d) cX2_workedOut 2 0 R 101 [l0, l1, l2, l3, .int x, l5, l6] (.int x :: st) μ := us_iload dX2_workedOut_99 rfl
theorem u11_101 {d : Nat} {R : gR} {μ : gM} {L : List Value} {st : List Value} {o : Nat} {i : Int32} (hk : gc_kd o = 20) : gc_W (gc_S d) cX2_workedOut 2 0 R 101 L (.int i :: .ref o :: st) μ ↔ (vp_in i (gc_al o) ∧ gc_W (gc_S d) cX2_workedOut 2 0 R 102 L (.int (μ o i.toNatClampNeg) :: st) μ) := us_iald dX2_workedOut_101 hk
theorem u11_102 {d : Nat} {R : gR} {μ : gM} {L : List Value} {st : List Value} {x : Int32}  : gc_W (gc_S d) cX2_workedOut 2 0 R 102 L (.int x :: st) μ ↔ if x = 0 then gc_W (gc_S d) cX2_workedOut 2 0 R 105 L st μ else gc_W (gc_S d) cX2_workedOut 2 0 R 109 L st μ := us_ifne dX2_workedOut_102 rfl
theorem u11_105 {d : Nat} {R : gR} {μ : gM} {L : List Value} {st : List Value}   : gc_W (gc_S d) cX2_workedOut 2 0 R 105 L st μ ↔ gc_W (gc_S d) cX2_workedOut 2 0 R 106 L (.int 1 :: st) μ := us_iconst dX2_workedOut_105 ci_iconst_1
theorem u11_106 {d : Nat} {R : gR} {μ : gM} {L : List Value} {st : List Value}  : gc_W (gc_S d) cX2_workedOut 2 0 R 106 L st μ ↔ gc_W (gc_S d) cX2_workedOut 2 0 R 110 L st μ := us_goto dX2_workedOut_106 rfl
theorem u11_109 {d : Nat} {R : gR} {μ : gM} {L : List Value} {st : List Value}   : gc_W (gc_S d) cX2_workedOut 2 0 R 109 L st μ ↔ gc_W (gc_S d) cX2_workedOut 2 0 R 110 L (.int 0 :: st) μ := us_iconst dX2_workedOut_109 ci_iconst_0
theorem u11_110 {d : Nat} {R : gR} {μ : gM} {L : List Value} {st : List Value} {o : Nat} {i x : Int32} (hk : gc_kd o = 20) : gc_W (gc_S d) cX2_workedOut 2 0 R 110 L (.int x :: .int i :: .ref o :: st) μ ↔ (vp_in i (gc_al o) ∧ gc_W (gc_S d) cX2_workedOut 2 0 R 111 L st (gc_up μ o i.toNatClampNeg x)) := us_iast dX2_workedOut_110 hk
theorem u11_111 {d : Nat} {R : gR} {μ : gM} {L : List Value} {st : List Value}  : gc_W (gc_S d) cX2_workedOut 2 0 R 111 L st μ ↔ gc_W (gc_S d) cX2_workedOut 2 0 R 146 L st μ := us_goto dX2_workedOut_111 rfl
theorem u11_114 {d : Nat} {R : gR} {μ : gM} {l0 l1 l2 l3 l5 l6 : Value} {st : List Value} {x : Int32}  : gc_W (gc_S d) cX2_workedOut 2 0 R 114 [l0, l1, l2, l3, .int x, l5, l6] st μ ↔ gc_W (gc_S d) cX2_workedOut 2 0 R 117 [l0, l1, l2, l3, .int (x + (-1)), l5, l6] st μ := us_iinc dX2_workedOut_114 rfl ci_iinc_m1
theorem u11_117 {d : Nat} {R : gR} {μ : gM} {l1 l2 l3 l4 l5 l6 : Value} {st : List Value} {x : Nat}  : gc_W (gc_S d) cX2_workedOut 2 0 R 117 [.ref x, l1, l2, l3, l4, l5, l6] st μ ↔ gc_W (gc_S d) cX2_workedOut 2 0 R 118 [.ref x, l1, l2, l3, l4, l5, l6] (.ref x :: st) μ := us_aload_n dX2_workedOut_117 rfl
theorem u11_118 {d : Nat} {R : gR} {μ : gM} {L : List Value} {st : List Value} {o : Nat} (hk : gc_kd o = 2) : gc_W (gc_S d) cX2_workedOut 2 0 R 118 L (.ref o :: st) μ ↔ gc_W (gc_S d) cX2_workedOut 2 0 R 121 L (gc_fv o 1 μ :: st) μ := us_getf dX2_workedOut_118 gf_2_20 hk
theorem u11_121 {d : Nat} {R : gR} {μ : gM} {l0 l1 l2 l3 l5 l6 : Value} {st : List Value} {x : Int32}  : gc_W (gc_S d) cX2_workedOut 2 0 R 121 [l0, l1, l2, l3, .int x, l5, l6] st μ ↔ gc_W (gc_S d) cX2_workedOut 2 0 R 123 [l0, l1, l2, l3, .int x, l5, l6] (.int x :: st) μ := us_iload dX2_workedOut_121 rfl
theorem u11_123 {d : Nat} {R : gR} {μ : gM} {l0 l1 l2 l3 l4 l5 : Value} {st : List Value} {x : Int32}  : gc_W (gc_S d) cX2_workedOut 2 0 R 123 [l0, l1, l2, l3, l4, l5, .int x] st μ ↔ gc_W (gc_S d) cX2_workedOut 2 0 R 125 [l0, l1, l2, l3, l4, l5, .int x] (.int x :: st) μ := us_iload dX2_workedOut_123 rfl
theorem u11_125 {d : Nat} {R : gR} {μ : gM} {L : List Value} {st : List Value} {x : Int32}  : gc_W (gc_S d) cX2_workedOut 2 0 R 125 L (.int x :: st) μ ↔ gc_W (gc_S d) cX2_workedOut 2 0 R 126 L (.int (-x) :: st) μ := us_ineg dX2_workedOut_125
theorem u11_126 {d : Nat} {R : gR} {μ : gM} {l1 l2 l3 l4 l5 l6 : Value} {st : List Value} {x : Nat}  : gc_W (gc_S d) cX2_workedOut 2 0 R 126 [.ref x, l1, l2, l3, l4, l5, l6] st μ ↔ gc_W (gc_S d) cX2_workedOut 2 0 R 127 [.ref x, l1, l2, l3, l4, l5, l6] (.ref x :: st) μ := us_aload_n dX2_workedOut_126 rfl
theorem u11_127 {d : Nat} {R : gR} {μ : gM} {L : List Value} {st : List Value} {o : Nat} (hk : gc_kd o = 2) : gc_W (gc_S d) cX2_workedOut 2 0 R 127 L (.ref o :: st) μ ↔ gc_W (gc_S d) cX2_workedOut 2 0 R 130 L (gc_fv o 1 μ :: st) μ := us_getf dX2_workedOut_127 gf_2_20 hk
theorem u11_130 {d : Nat} {R : gR} {μ : gM} {l0 l1 l2 l3 l5 l6 : Value} {st : List Value} {x : Int32}  : gc_W (gc_S d) cX2_workedOut 2 0 R 130 [l0, l1, l2, l3, .int x, l5, l6] st μ ↔ gc_W (gc_S d) cX2_workedOut 2 0 R 132 [l0, l1, l2, l3, .int x, l5, l6] (.int x :: st) μ := us_iload dX2_workedOut_130 rfl
theorem u11_132 {d : Nat} {R : gR} {μ : gM} {L : List Value} {st : List Value} {o : Nat} {i : Int32} (hk : gc_kd o = 20) : gc_W (gc_S d) cX2_workedOut 2 0 R 132 L (.int i :: .ref o :: st) μ ↔ (vp_in i (gc_al o) ∧ gc_W (gc_S d) cX2_workedOut 2 0 R 133 L (.int (μ o i.toNatClampNeg) :: st) μ) := us_iald dX2_workedOut_132 hk
theorem u11_133 {d : Nat} {R : gR} {μ : gM} {l1 l2 l3 l4 l5 l6 : Value} {st : List Value} {x : Nat}  : gc_W (gc_S d) cX2_workedOut 2 0 R 133 [.ref x, l1, l2, l3, l4, l5, l6] st μ ↔ gc_W (gc_S d) cX2_workedOut 2 0 R 134 [.ref x, l1, l2, l3, l4, l5, l6] (.ref x :: st) μ := us_aload_n dX2_workedOut_133 rfl
theorem u11_134 {d : Nat} {R : gR} {μ : gM} {L : List Value} {st : List Value} {o : Nat} (hk : gc_kd o = 2) : gc_W (gc_S d) cX2_workedOut 2 0 R 134 L (.ref o :: st) μ ↔ gc_W (gc_S d) cX2_workedOut 2 0 R 137 L (gc_fv o 1 μ :: st) μ := us_getf dX2_workedOut_134 gf_2_20 hk
theorem u11_137 {d : Nat} {R : gR} {μ : gM} {l0 l1 l2 l3 l5 l6 : Value} {st : List Value} {x : Int32}  : gc_W (gc_S d) cX2_workedOut 2 0 R 137 [l0, l1, l2, l3, .int x, l5, l6] st μ ↔ gc_W (gc_S d) cX2_workedOut 2 0 R 139 [l0, l1, l2, l3, .int x, l5, l6] (.int x :: st) μ := us_iload dX2_workedOut_137 rfl
theorem u11_139 {d : Nat} {R : gR} {μ : gM} {L : List Value} {st : List Value}   : gc_W (gc_S d) cX2_workedOut 2 0 R 139 L st μ ↔ gc_W (gc_S d) cX2_workedOut 2 0 R 140 L (.int 1 :: st) μ := us_iconst dX2_workedOut_139 ci_iconst_1
theorem u11_140 {d : Nat} {R : gR} {μ : gM} {L : List Value} {st : List Value} {x y : Int32}  : gc_W (gc_S d) cX2_workedOut 2 0 R 140 L (.int y :: .int x :: st) μ ↔ gc_W (gc_S d) cX2_workedOut 2 0 R 141 L (.int (x + y) :: st) μ := us_iadd dX2_workedOut_140
theorem u11_141 {d : Nat} {R : gR} {μ : gM} {L : List Value} {st : List Value} {o : Nat} {i : Int32} (hk : gc_kd o = 20) : gc_W (gc_S d) cX2_workedOut 2 0 R 141 L (.int i :: .ref o :: st) μ ↔ (vp_in i (gc_al o) ∧ gc_W (gc_S d) cX2_workedOut 2 0 R 142 L (.int (μ o i.toNatClampNeg) :: st) μ) := us_iald dX2_workedOut_141 hk
theorem u11_142 {d : Nat} {R : gR} {μ : gM} {L : List Value}  {a0 a1 a2 : Int32} {s0 s1 : Value}  : gc_W (gc_S d) cX2_workedOut 2 0 R 142 L [.int a2, .int a1, .int a0, s0, s1] μ ↔ gc_S d 10 [.int a0, .int a1, .int a2] μ (fun v μ' => gc_W (gc_S d) cX2_workedOut 2 0 R 145 L (v.toList ++ [s0, s1]) μ') := us_stat dX2_workedOut_142 gs_2_85 gne_2_85 gn_2_85 gc_2_85_97 rfl rfl rfl rfl
theorem u11_145 {d : Nat} {R : gR} {μ : gM} {L : List Value} {st : List Value} {o : Nat} {i x : Int32} (hk : gc_kd o = 20) : gc_W (gc_S d) cX2_workedOut 2 0 R 145 L (.int x :: .int i :: .ref o :: st) μ ↔ (vp_in i (gc_al o) ∧ gc_W (gc_S d) cX2_workedOut 2 0 R 146 L st (gc_up μ o i.toNatClampNeg x)) := us_iast dX2_workedOut_145 hk
theorem u11_146 {d : Nat} {R : gR} {μ : gM} {l0 l1 l2 l3 l4 l6 : Value} {st : List Value} {x : Int32}  : gc_W (gc_S d) cX2_workedOut 2 0 R 146 [l0, l1, l2, l3, l4, .int x, l6] st μ ↔ gc_W (gc_S d) cX2_workedOut 2 0 R 149 [l0, l1, l2, l3, l4, .int (x + 1), l6] st μ := us_iinc dX2_workedOut_146 rfl ci_iinc_1
theorem u11_149 {d : Nat} {R : gR} {μ : gM} {L : List Value} {st : List Value}  : gc_W (gc_S d) cX2_workedOut 2 0 R 149 L st μ ↔ gc_W (gc_S d) cX2_workedOut 2 0 R 6 L st μ := us_goto dX2_workedOut_149 rfl
theorem u11_152 {d : Nat} {R : gR} {μ : gM} {l0 l1 l2 l3 l5 l6 : Value} {st : List Value} {x : Int32}  : gc_W (gc_S d) cX2_workedOut 2 0 R 152 [l0, l1, l2, l3, .int x, l5, l6] st μ ↔ gc_W (gc_S d) cX2_workedOut 2 0 R 154 [l0, l1, l2, l3, .int x, l5, l6] (.int x :: st) μ := us_iload dX2_workedOut_152 rfl
theorem u11_154 {d : Nat} {R : gR} {μ : gM} {L : List Value} {st : List Value} {x : Int32}  : gc_W (gc_S d) cX2_workedOut 2 0 R 154 L (.int x :: st) μ ↔ if 0 ≤ x then gc_W (gc_S d) cX2_workedOut 2 0 R 161 L st μ else gc_W (gc_S d) cX2_workedOut 2 0 R 157 L st μ := us_ifge dX2_workedOut_154 rfl
theorem u11_157 {d : Nat} {R : gR} {μ : gM} {L : List Value} {st : List Value}   : gc_W (gc_S d) cX2_workedOut 2 0 R 157 L st μ ↔ gc_W (gc_S d) cX2_workedOut 2 0 R 158 L (.int 0 :: st) μ := us_iconst dX2_workedOut_157 ci_iconst_0
theorem u11_158 {d : Nat} {R : gR} {μ : gM} {L : List Value} {st : List Value}  : gc_W (gc_S d) cX2_workedOut 2 0 R 158 L st μ ↔ gc_W (gc_S d) cX2_workedOut 2 0 R 168 L st μ := us_goto dX2_workedOut_158 rfl
theorem u11_161 {d : Nat} {R : gR} {μ : gM} {l1 l2 l3 l4 l5 l6 : Value} {st : List Value} {x : Nat}  : gc_W (gc_S d) cX2_workedOut 2 0 R 161 [.ref x, l1, l2, l3, l4, l5, l6] st μ ↔ gc_W (gc_S d) cX2_workedOut 2 0 R 162 [.ref x, l1, l2, l3, l4, l5, l6] (.ref x :: st) μ := us_aload_n dX2_workedOut_161 rfl
theorem u11_162 {d : Nat} {R : gR} {μ : gM} {L : List Value} {st : List Value} {o : Nat} (hk : gc_kd o = 2) : gc_W (gc_S d) cX2_workedOut 2 0 R 162 L (.ref o :: st) μ ↔ gc_W (gc_S d) cX2_workedOut 2 0 R 165 L (gc_fv o 1 μ :: st) μ := us_getf dX2_workedOut_162 gf_2_20 hk
theorem u11_165 {d : Nat} {R : gR} {μ : gM} {l0 l1 l2 l3 l5 l6 : Value} {st : List Value} {x : Int32}  : gc_W (gc_S d) cX2_workedOut 2 0 R 165 [l0, l1, l2, l3, .int x, l5, l6] st μ ↔ gc_W (gc_S d) cX2_workedOut 2 0 R 167 [l0, l1, l2, l3, .int x, l5, l6] (.int x :: st) μ := us_iload dX2_workedOut_165 rfl
theorem u11_167 {d : Nat} {R : gR} {μ : gM} {L : List Value} {st : List Value} {o : Nat} {i : Int32} (hk : gc_kd o = 20) : gc_W (gc_S d) cX2_workedOut 2 0 R 167 L (.int i :: .ref o :: st) μ ↔ (vp_in i (gc_al o) ∧ gc_W (gc_S d) cX2_workedOut 2 0 R 168 L (.int (μ o i.toNatClampNeg) :: st) μ) := us_iald dX2_workedOut_167 hk
theorem u11_168 {d : Nat} {R : gR} {μ : gM} {L : List Value} {v : Int32}  : gc_W (gc_S d) cX2_workedOut 2 0 R 168 L [.int v] μ ↔ R (some (.int v)) μ := us_iret dX2_workedOut_168 rfl
theorem s11 {d : Nat} {R : gR} {μ : gM} {o : Nat} {a0 a1 a2 : Int32} : gc_S (d + 1) 11 [.ref o, .int a0, .int a1, .int a2] μ R ↔ gc_W (gc_S d) cX2_workedOut 2 0 R 0 [.ref o, .int a0, .int a1, .int a2, .retAddr 0, .retAddr 0, .retAddr 0] [] μ := us_call (gm_11) rfl rfl
theorem dX5_weeps_0 : decode cX5_weeps 0 = .ok (.iload_n 2, 1) := by decide +kernel
theorem dX5_weeps_1 : decode cX5_weeps 1 = .ok (.iconst 4, 1) := by decide +kernel
theorem dX5_weeps_2 : decode cX5_weeps 2 = .ok (.idiv, 1) := by decide +kernel
theorem dX5_weeps_3 : decode cX5_weeps 3 = .ok (.iconst 1, 1) := by decide +kernel
theorem dX5_weeps_4 : decode cX5_weeps 4 = .ok (.iadd, 1) := by decide +kernel
theorem dX5_weeps_5 : decode cX5_weeps 5 = .ok (.ireturn, 1) := by decide +kernel
theorem u14_0 {d : Nat} {R : gR} {μ : gM} {l0 l1 : Value} {st : List Value} {x : Int32}  : gc_W (gc_S d) cX5_weeps 5 0 R 0 [l0, l1, .int x] st μ ↔ gc_W (gc_S d) cX5_weeps 5 0 R 1 [l0, l1, .int x] (.int x :: st) μ := us_iload_n dX5_weeps_0 rfl
theorem u14_1 {d : Nat} {R : gR} {μ : gM} {L : List Value} {st : List Value}   : gc_W (gc_S d) cX5_weeps 5 0 R 1 L st μ ↔ gc_W (gc_S d) cX5_weeps 5 0 R 2 L (.int 4 :: st) μ := us_iconst dX5_weeps_1 ci_iconst_4
theorem u14_2 {d : Nat} {R : gR} {μ : gM} {L : List Value} {st : List Value} {x y : Int32}  : gc_W (gc_S d) cX5_weeps 5 0 R 2 L (.int y :: .int x :: st) μ ↔ (¬ y = 0 ∧ gc_W (gc_S d) cX5_weeps 5 0 R 3 L (.int (x / y) :: st) μ) := us_idiv dX5_weeps_2
theorem u14_3 {d : Nat} {R : gR} {μ : gM} {L : List Value} {st : List Value}   : gc_W (gc_S d) cX5_weeps 5 0 R 3 L st μ ↔ gc_W (gc_S d) cX5_weeps 5 0 R 4 L (.int 1 :: st) μ := us_iconst dX5_weeps_3 ci_iconst_1
theorem u14_4 {d : Nat} {R : gR} {μ : gM} {L : List Value} {st : List Value} {x y : Int32}  : gc_W (gc_S d) cX5_weeps 5 0 R 4 L (.int y :: .int x :: st) μ ↔ gc_W (gc_S d) cX5_weeps 5 0 R 5 L (.int (x + y) :: st) μ := us_iadd dX5_weeps_4
theorem u14_5 {d : Nat} {R : gR} {μ : gM} {L : List Value} {v : Int32}  : gc_W (gc_S d) cX5_weeps 5 0 R 5 L [.int v] μ ↔ R (some (.int v)) μ := us_iret dX5_weeps_5 rfl
theorem s14 {d : Nat} {R : gR} {μ : gM} {o : Nat} {a0 a1 : Int32} : gc_S (d + 1) 14 [.ref o, .int a0, .int a1] μ R ↔ gc_W (gc_S d) cX5_weeps 5 0 R 0 [.ref o, .int a0, .int a1] [] μ := us_call (gm_14) rfl rfl
theorem dX3_weeps_0 : decode cX3_weeps 0 = .ok (.iload_n 2, 1) := by decide +kernel
theorem dX3_weeps_1 : decode cX3_weeps 1 = .ok (.bipush 50, 2) := by decide +kernel
theorem dX3_weeps_3 : decode cX3_weeps 3 = .ok (.if_icmp .ge 7, 3) := by decide +kernel
theorem dX3_weeps_6 : decode cX3_weeps 6 = .ok (.iconst 0, 1) := by decide +kernel
theorem dX3_weeps_7 : decode cX3_weeps 7 = .ok (.goto 9, 3) := by decide +kernel
theorem dX3_weeps_10 : decode cX3_weeps 10 = .ok (.aload_n 0, 1) := by decide +kernel
theorem dX3_weeps_11 : decode cX3_weeps 11 = .ok (.iload_n 1, 1) := by decide +kernel
theorem dX3_weeps_12 : decode cX3_weeps 12 = .ok (.iload_n 2, 1) := by decide +kernel
theorem dX3_weeps_13 : decode cX3_weeps 13 = .ok (.invokespecial 7, 3) := by decide +kernel
theorem dX3_weeps_16 : decode cX3_weeps 16 = .ok (.ireturn, 1) := by decide +kernel
theorem u15_0 {d : Nat} {R : gR} {μ : gM} {l0 l1 : Value} {st : List Value} {x : Int32}  : gc_W (gc_S d) cX3_weeps 3 0 R 0 [l0, l1, .int x] st μ ↔ gc_W (gc_S d) cX3_weeps 3 0 R 1 [l0, l1, .int x] (.int x :: st) μ := us_iload_n dX3_weeps_0 rfl
theorem u15_1 {d : Nat} {R : gR} {μ : gM} {L : List Value} {st : List Value}   : gc_W (gc_S d) cX3_weeps 3 0 R 1 L st μ ↔ gc_W (gc_S d) cX3_weeps 3 0 R 3 L (.int 50 :: st) μ := us_bipush dX3_weeps_1 ci_bipush_50
theorem u15_3 {d : Nat} {R : gR} {μ : gM} {L : List Value} {st : List Value} {x y : Int32}  : gc_W (gc_S d) cX3_weeps 3 0 R 3 L (.int y :: .int x :: st) μ ↔ if y ≤ x then gc_W (gc_S d) cX3_weeps 3 0 R 10 L st μ else gc_W (gc_S d) cX3_weeps 3 0 R 6 L st μ := us_icge dX3_weeps_3 rfl
theorem u15_6 {d : Nat} {R : gR} {μ : gM} {L : List Value} {st : List Value}   : gc_W (gc_S d) cX3_weeps 3 0 R 6 L st μ ↔ gc_W (gc_S d) cX3_weeps 3 0 R 7 L (.int 0 :: st) μ := us_iconst dX3_weeps_6 ci_iconst_0
theorem u15_7 {d : Nat} {R : gR} {μ : gM} {L : List Value} {st : List Value}  : gc_W (gc_S d) cX3_weeps 3 0 R 7 L st μ ↔ gc_W (gc_S d) cX3_weeps 3 0 R 16 L st μ := us_goto dX3_weeps_7 rfl
theorem u15_10 {d : Nat} {R : gR} {μ : gM} {l1 l2 : Value} {st : List Value} {x : Nat}  : gc_W (gc_S d) cX3_weeps 3 0 R 10 [.ref x, l1, l2] st μ ↔ gc_W (gc_S d) cX3_weeps 3 0 R 11 [.ref x, l1, l2] (.ref x :: st) μ := us_aload_n dX3_weeps_10 rfl
theorem u15_11 {d : Nat} {R : gR} {μ : gM} {l0 l2 : Value} {st : List Value} {x : Int32}  : gc_W (gc_S d) cX3_weeps 3 0 R 11 [l0, .int x, l2] st μ ↔ gc_W (gc_S d) cX3_weeps 3 0 R 12 [l0, .int x, l2] (.int x :: st) μ := us_iload_n dX3_weeps_11 rfl
theorem u15_12 {d : Nat} {R : gR} {μ : gM} {l0 l1 : Value} {st : List Value} {x : Int32}  : gc_W (gc_S d) cX3_weeps 3 0 R 12 [l0, l1, .int x] st μ ↔ gc_W (gc_S d) cX3_weeps 3 0 R 13 [l0, l1, .int x] (.int x :: st) μ := us_iload_n dX3_weeps_12 rfl
theorem u15_13 {d : Nat} {R : gR} {μ : gM} {L : List Value} {o kd : Nat} {a0 a1 : Int32} (hk : gc_kd o = kd) (hkd : Nat.blt kd 13 = true) : gc_W (gc_S d) cX3_weeps 3 0 R 13 L [.int a1, .int a0, .ref o] μ ↔ gc_S d 14 [.ref o, .int a0, .int a1] μ (fun v μ' => gc_W (gc_S d) cX3_weeps 3 0 R 16 L (v.toList ++ []) μ') := us_spec dX3_weeps_13 gn_3_7 gc_3_7_98 hk hkd rfl rfl rfl rfl
theorem u15_16 {d : Nat} {R : gR} {μ : gM} {L : List Value} {v : Int32}  : gc_W (gc_S d) cX3_weeps 3 0 R 16 L [.int v] μ ↔ R (some (.int v)) μ := us_iret dX3_weeps_16 rfl
theorem s15 {d : Nat} {R : gR} {μ : gM} {o : Nat} {a0 a1 : Int32} : gc_S (d + 1) 15 [.ref o, .int a0, .int a1] μ R ↔ gc_W (gc_S d) cX3_weeps 3 0 R 0 [.ref o, .int a0, .int a1] [] μ := us_call (gm_15) rfl rfl
theorem dX1_weeps_0 : decode cX1_weeps 0 = .ok (.iconst 0, 1) := by decide +kernel
theorem dX1_weeps_1 : decode cX1_weeps 1 = .ok (.aload_n 0, 1) := by decide +kernel
theorem dX1_weeps_2 : decode cX1_weeps 2 = .ok (.iload_n 1, 1) := by decide +kernel
theorem dX1_weeps_3 : decode cX1_weeps 3 = .ok (.iload_n 2, 1) := by decide +kernel
theorem dX1_weeps_4 : decode cX1_weeps 4 = .ok (.invokespecial 7, 3) := by decide +kernel
theorem dX1_weeps_7 : decode cX1_weeps 7 = .ok (.iload_n 1, 1) := by decide +kernel
theorem dX1_weeps_8 : decode cX1_weeps 8 = .ok (.isub, 1) := by decide +kernel
theorem dX1_weeps_9 : decode cX1_weeps 9 = .ok (.invokestatic 11, 3) := by decide +kernel
theorem dX1_weeps_12 : decode cX1_weeps 12 = .ok (.ireturn, 1) := by decide +kernel
theorem u16_0 {d : Nat} {R : gR} {μ : gM} {L : List Value} {st : List Value}   : gc_W (gc_S d) cX1_weeps 1 0 R 0 L st μ ↔ gc_W (gc_S d) cX1_weeps 1 0 R 1 L (.int 0 :: st) μ := us_iconst dX1_weeps_0 ci_iconst_0
theorem u16_1 {d : Nat} {R : gR} {μ : gM} {l1 l2 : Value} {st : List Value} {x : Nat}  : gc_W (gc_S d) cX1_weeps 1 0 R 1 [.ref x, l1, l2] st μ ↔ gc_W (gc_S d) cX1_weeps 1 0 R 2 [.ref x, l1, l2] (.ref x :: st) μ := us_aload_n dX1_weeps_1 rfl
theorem u16_2 {d : Nat} {R : gR} {μ : gM} {l0 l2 : Value} {st : List Value} {x : Int32}  : gc_W (gc_S d) cX1_weeps 1 0 R 2 [l0, .int x, l2] st μ ↔ gc_W (gc_S d) cX1_weeps 1 0 R 3 [l0, .int x, l2] (.int x :: st) μ := us_iload_n dX1_weeps_2 rfl
theorem u16_3 {d : Nat} {R : gR} {μ : gM} {l0 l1 : Value} {st : List Value} {x : Int32}  : gc_W (gc_S d) cX1_weeps 1 0 R 3 [l0, l1, .int x] st μ ↔ gc_W (gc_S d) cX1_weeps 1 0 R 4 [l0, l1, .int x] (.int x :: st) μ := us_iload_n dX1_weeps_3 rfl
theorem u16_4 {d : Nat} {R : gR} {μ : gM} {L : List Value} {o kd : Nat} {a0 a1 : Int32} {s0 : Value} (hk : gc_kd o = kd) (hkd : Nat.blt kd 13 = true) : gc_W (gc_S d) cX1_weeps 1 0 R 4 L [.int a1, .int a0, .ref o, s0] μ ↔ gc_S d 15 [.ref o, .int a0, .int a1] μ (fun v μ' => gc_W (gc_S d) cX1_weeps 1 0 R 7 L (v.toList ++ [s0]) μ') := us_spec dX1_weeps_4 gn_1_7 gc_1_7_98 hk hkd rfl rfl rfl rfl
theorem u16_7 {d : Nat} {R : gR} {μ : gM} {l0 l2 : Value} {st : List Value} {x : Int32}  : gc_W (gc_S d) cX1_weeps 1 0 R 7 [l0, .int x, l2] st μ ↔ gc_W (gc_S d) cX1_weeps 1 0 R 8 [l0, .int x, l2] (.int x :: st) μ := us_iload_n dX1_weeps_7 rfl
theorem u16_8 {d : Nat} {R : gR} {μ : gM} {L : List Value} {st : List Value} {x y : Int32}  : gc_W (gc_S d) cX1_weeps 1 0 R 8 L (.int y :: .int x :: st) μ ↔ gc_W (gc_S d) cX1_weeps 1 0 R 9 L (.int (x - y) :: st) μ := us_isub dX1_weeps_8
theorem u16_9 {d : Nat} {R : gR} {μ : gM} {L : List Value} {x y : Int32}  : gc_W (gc_S d) cX1_weeps 1 0 R 9 L [.int y, .int x] μ ↔ gc_W (gc_S d) cX1_weeps 1 0 R 12 L [.int (if x < y then y else x)] μ := us_max dX1_weeps_9 gs_1_11 rfl
theorem u16_12 {d : Nat} {R : gR} {μ : gM} {L : List Value} {v : Int32}  : gc_W (gc_S d) cX1_weeps 1 0 R 12 L [.int v] μ ↔ R (some (.int v)) μ := us_iret dX1_weeps_12 rfl
theorem s16 {d : Nat} {R : gR} {μ : gM} {o : Nat} {a0 a1 : Int32} : gc_S (d + 1) 16 [.ref o, .int a0, .int a1] μ R ↔ gc_W (gc_S d) cX1_weeps 1 0 R 0 [.ref o, .int a0, .int a1] [] μ := us_call (gm_16) rfl rfl
theorem dX8_weeps_0 : decode cX8_weeps 0 = .ok (.iconst 0, 1) := by decide +kernel
theorem dX8_weeps_1 : decode cX8_weeps 1 = .ok (.aload_n 0, 1) := by decide +kernel
theorem dX8_weeps_2 : decode cX8_weeps 2 = .ok (.iload_n 1, 1) := by decide +kernel
theorem dX8_weeps_3 : decode cX8_weeps 3 = .ok (.iload_n 2, 1) := by decide +kernel
theorem dX8_weeps_4 : decode cX8_weeps 4 = .ok (.invokespecial 7, 3) := by decide +kernel
theorem dX8_weeps_7 : decode cX8_weeps 7 = .ok (.iconst 3, 1) := by decide +kernel
theorem dX8_weeps_8 : decode cX8_weeps 8 = .ok (.isub, 1) := by decide +kernel
theorem dX8_weeps_9 : decode cX8_weeps 9 = .ok (.invokestatic 11, 3) := by decide +kernel
theorem dX8_weeps_12 : decode cX8_weeps 12 = .ok (.ireturn, 1) := by decide +kernel
theorem u17_0 {d : Nat} {R : gR} {μ : gM} {L : List Value} {st : List Value}   : gc_W (gc_S d) cX8_weeps 8 0 R 0 L st μ ↔ gc_W (gc_S d) cX8_weeps 8 0 R 1 L (.int 0 :: st) μ := us_iconst dX8_weeps_0 ci_iconst_0
theorem u17_1 {d : Nat} {R : gR} {μ : gM} {l1 l2 : Value} {st : List Value} {x : Nat}  : gc_W (gc_S d) cX8_weeps 8 0 R 1 [.ref x, l1, l2] st μ ↔ gc_W (gc_S d) cX8_weeps 8 0 R 2 [.ref x, l1, l2] (.ref x :: st) μ := us_aload_n dX8_weeps_1 rfl
theorem u17_2 {d : Nat} {R : gR} {μ : gM} {l0 l2 : Value} {st : List Value} {x : Int32}  : gc_W (gc_S d) cX8_weeps 8 0 R 2 [l0, .int x, l2] st μ ↔ gc_W (gc_S d) cX8_weeps 8 0 R 3 [l0, .int x, l2] (.int x :: st) μ := us_iload_n dX8_weeps_2 rfl
theorem u17_3 {d : Nat} {R : gR} {μ : gM} {l0 l1 : Value} {st : List Value} {x : Int32}  : gc_W (gc_S d) cX8_weeps 8 0 R 3 [l0, l1, .int x] st μ ↔ gc_W (gc_S d) cX8_weeps 8 0 R 4 [l0, l1, .int x] (.int x :: st) μ := us_iload_n dX8_weeps_3 rfl
theorem u17_4 {d : Nat} {R : gR} {μ : gM} {L : List Value} {o kd : Nat} {a0 a1 : Int32} {s0 : Value} (hk : gc_kd o = kd) (hkd : Nat.blt kd 13 = true) : gc_W (gc_S d) cX8_weeps 8 0 R 4 L [.int a1, .int a0, .ref o, s0] μ ↔ gc_S d 14 [.ref o, .int a0, .int a1] μ (fun v μ' => gc_W (gc_S d) cX8_weeps 8 0 R 7 L (v.toList ++ [s0]) μ') := us_spec dX8_weeps_4 gn_8_7 gc_8_7_98 hk hkd rfl rfl rfl rfl
theorem u17_7 {d : Nat} {R : gR} {μ : gM} {L : List Value} {st : List Value}   : gc_W (gc_S d) cX8_weeps 8 0 R 7 L st μ ↔ gc_W (gc_S d) cX8_weeps 8 0 R 8 L (.int 3 :: st) μ := us_iconst dX8_weeps_7 ci_iconst_3
theorem u17_8 {d : Nat} {R : gR} {μ : gM} {L : List Value} {st : List Value} {x y : Int32}  : gc_W (gc_S d) cX8_weeps 8 0 R 8 L (.int y :: .int x :: st) μ ↔ gc_W (gc_S d) cX8_weeps 8 0 R 9 L (.int (x - y) :: st) μ := us_isub dX8_weeps_8
theorem u17_9 {d : Nat} {R : gR} {μ : gM} {L : List Value} {x y : Int32}  : gc_W (gc_S d) cX8_weeps 8 0 R 9 L [.int y, .int x] μ ↔ gc_W (gc_S d) cX8_weeps 8 0 R 12 L [.int (if x < y then y else x)] μ := us_max dX8_weeps_9 gs_8_11 rfl
theorem u17_12 {d : Nat} {R : gR} {μ : gM} {L : List Value} {v : Int32}  : gc_W (gc_S d) cX8_weeps 8 0 R 12 L [.int v] μ ↔ R (some (.int v)) μ := us_iret dX8_weeps_12 rfl
theorem s17 {d : Nat} {R : gR} {μ : gM} {o : Nat} {a0 a1 : Int32} : gc_S (d + 1) 17 [.ref o, .int a0, .int a1] μ R ↔ gc_W (gc_S d) cX8_weeps 8 0 R 0 [.ref o, .int a0, .int a1] [] μ := us_call (gm_17) rfl rfl
theorem dX4_weeps_0 : decode cX4_weeps 0 = .ok (.aload_n 0, 1) := by decide +kernel
theorem dX4_weeps_1 : decode cX4_weeps 1 = .ok (.iload_n 1, 1) := by decide +kernel
theorem dX4_weeps_2 : decode cX4_weeps 2 = .ok (.iload_n 2, 1) := by decide +kernel
theorem dX4_weeps_3 : decode cX4_weeps 3 = .ok (.invokespecial 7, 3) := by decide +kernel
theorem dX4_weeps_6 : decode cX4_weeps 6 = .ok (.iload_n 1, 1) := by decide +kernel
theorem dX4_weeps_7 : decode cX4_weeps 7 = .ok (.iadd, 1) := by decide +kernel
theorem dX4_weeps_8 : decode cX4_weeps 8 = .ok (.ireturn, 1) := by decide +kernel
theorem u18_0 {d : Nat} {R : gR} {μ : gM} {l1 l2 : Value} {st : List Value} {x : Nat}  : gc_W (gc_S d) cX4_weeps 4 0 R 0 [.ref x, l1, l2] st μ ↔ gc_W (gc_S d) cX4_weeps 4 0 R 1 [.ref x, l1, l2] (.ref x :: st) μ := us_aload_n dX4_weeps_0 rfl
theorem u18_1 {d : Nat} {R : gR} {μ : gM} {l0 l2 : Value} {st : List Value} {x : Int32}  : gc_W (gc_S d) cX4_weeps 4 0 R 1 [l0, .int x, l2] st μ ↔ gc_W (gc_S d) cX4_weeps 4 0 R 2 [l0, .int x, l2] (.int x :: st) μ := us_iload_n dX4_weeps_1 rfl
theorem u18_2 {d : Nat} {R : gR} {μ : gM} {l0 l1 : Value} {st : List Value} {x : Int32}  : gc_W (gc_S d) cX4_weeps 4 0 R 2 [l0, l1, .int x] st μ ↔ gc_W (gc_S d) cX4_weeps 4 0 R 3 [l0, l1, .int x] (.int x :: st) μ := us_iload_n dX4_weeps_2 rfl
theorem u18_3 {d : Nat} {R : gR} {μ : gM} {L : List Value} {o kd : Nat} {a0 a1 : Int32} (hk : gc_kd o = kd) (hkd : Nat.blt kd 13 = true) : gc_W (gc_S d) cX4_weeps 4 0 R 3 L [.int a1, .int a0, .ref o] μ ↔ gc_S d 17 [.ref o, .int a0, .int a1] μ (fun v μ' => gc_W (gc_S d) cX4_weeps 4 0 R 6 L (v.toList ++ []) μ') := us_spec dX4_weeps_3 gn_4_7 gc_4_7_98 hk hkd rfl rfl rfl rfl
theorem u18_6 {d : Nat} {R : gR} {μ : gM} {l0 l2 : Value} {st : List Value} {x : Int32}  : gc_W (gc_S d) cX4_weeps 4 0 R 6 [l0, .int x, l2] st μ ↔ gc_W (gc_S d) cX4_weeps 4 0 R 7 [l0, .int x, l2] (.int x :: st) μ := us_iload_n dX4_weeps_6 rfl
theorem u18_7 {d : Nat} {R : gR} {μ : gM} {L : List Value} {st : List Value} {x y : Int32}  : gc_W (gc_S d) cX4_weeps 4 0 R 7 L (.int y :: .int x :: st) μ ↔ gc_W (gc_S d) cX4_weeps 4 0 R 8 L (.int (x + y) :: st) μ := us_iadd dX4_weeps_7
theorem u18_8 {d : Nat} {R : gR} {μ : gM} {L : List Value} {v : Int32}  : gc_W (gc_S d) cX4_weeps 4 0 R 8 L [.int v] μ ↔ R (some (.int v)) μ := us_iret dX4_weeps_8 rfl
theorem s18 {d : Nat} {R : gR} {μ : gM} {o : Nat} {a0 a1 : Int32} : gc_S (d + 1) 18 [.ref o, .int a0, .int a1] μ R ↔ gc_W (gc_S d) cX4_weeps 4 0 R 0 [.ref o, .int a0, .int a1] [] μ := us_call (gm_18) rfl rfl
theorem dX10_weeps_0 : decode cX10_weeps 0 = .ok (.iconst 2, 1) := by decide +kernel
theorem dX10_weeps_1 : decode cX10_weeps 1 = .ok (.aload_n 0, 1) := by decide +kernel
theorem dX10_weeps_2 : decode cX10_weeps 2 = .ok (.iload_n 1, 1) := by decide +kernel
theorem dX10_weeps_3 : decode cX10_weeps 3 = .ok (.iload_n 2, 1) := by decide +kernel
theorem dX10_weeps_4 : decode cX10_weeps 4 = .ok (.invokespecial 7, 3) := by decide +kernel
theorem dX10_weeps_7 : decode cX10_weeps 7 = .ok (.imul, 1) := by decide +kernel
theorem dX10_weeps_8 : decode cX10_weeps 8 = .ok (.ireturn, 1) := by decide +kernel
theorem u19_0 {d : Nat} {R : gR} {μ : gM} {L : List Value} {st : List Value}   : gc_W (gc_S d) cX10_weeps 10 0 R 0 L st μ ↔ gc_W (gc_S d) cX10_weeps 10 0 R 1 L (.int 2 :: st) μ := us_iconst dX10_weeps_0 ci_iconst_2
theorem u19_1 {d : Nat} {R : gR} {μ : gM} {l1 l2 : Value} {st : List Value} {x : Nat}  : gc_W (gc_S d) cX10_weeps 10 0 R 1 [.ref x, l1, l2] st μ ↔ gc_W (gc_S d) cX10_weeps 10 0 R 2 [.ref x, l1, l2] (.ref x :: st) μ := us_aload_n dX10_weeps_1 rfl
theorem u19_2 {d : Nat} {R : gR} {μ : gM} {l0 l2 : Value} {st : List Value} {x : Int32}  : gc_W (gc_S d) cX10_weeps 10 0 R 2 [l0, .int x, l2] st μ ↔ gc_W (gc_S d) cX10_weeps 10 0 R 3 [l0, .int x, l2] (.int x :: st) μ := us_iload_n dX10_weeps_2 rfl
theorem u19_3 {d : Nat} {R : gR} {μ : gM} {l0 l1 : Value} {st : List Value} {x : Int32}  : gc_W (gc_S d) cX10_weeps 10 0 R 3 [l0, l1, .int x] st μ ↔ gc_W (gc_S d) cX10_weeps 10 0 R 4 [l0, l1, .int x] (.int x :: st) μ := us_iload_n dX10_weeps_3 rfl
theorem u19_4 {d : Nat} {R : gR} {μ : gM} {L : List Value} {o kd : Nat} {a0 a1 : Int32} {s0 : Value} (hk : gc_kd o = kd) (hkd : Nat.blt kd 13 = true) : gc_W (gc_S d) cX10_weeps 10 0 R 4 L [.int a1, .int a0, .ref o, s0] μ ↔ gc_S d 14 [.ref o, .int a0, .int a1] μ (fun v μ' => gc_W (gc_S d) cX10_weeps 10 0 R 7 L (v.toList ++ [s0]) μ') := us_spec dX10_weeps_4 gn_10_7 gc_10_7_98 hk hkd rfl rfl rfl rfl
theorem u19_7 {d : Nat} {R : gR} {μ : gM} {L : List Value} {st : List Value} {x y : Int32}  : gc_W (gc_S d) cX10_weeps 10 0 R 7 L (.int y :: .int x :: st) μ ↔ gc_W (gc_S d) cX10_weeps 10 0 R 8 L (.int (x * y) :: st) μ := us_imul dX10_weeps_7
theorem u19_8 {d : Nat} {R : gR} {μ : gM} {L : List Value} {v : Int32}  : gc_W (gc_S d) cX10_weeps 10 0 R 8 L [.int v] μ ↔ R (some (.int v)) μ := us_iret dX10_weeps_8 rfl
theorem s19 {d : Nat} {R : gR} {μ : gM} {o : Nat} {a0 a1 : Int32} : gc_S (d + 1) 19 [.ref o, .int a0, .int a1] μ R ↔ gc_W (gc_S d) cX10_weeps 10 0 R 0 [.ref o, .int a0, .int a1] [] μ := us_call (gm_19) rfl rfl
theorem dX6_weeps_0 : decode cX6_weeps 0 = .ok (.aload_n 0, 1) := by decide +kernel
theorem dX6_weeps_1 : decode cX6_weeps 1 = .ok (.iload_n 1, 1) := by decide +kernel
theorem dX6_weeps_2 : decode cX6_weeps 2 = .ok (.iload_n 2, 1) := by decide +kernel
theorem dX6_weeps_3 : decode cX6_weeps 3 = .ok (.invokespecial 7, 3) := by decide +kernel
theorem dX6_weeps_6 : decode cX6_weeps 6 = .ok (.bipush 10, 2) := by decide +kernel
theorem dX6_weeps_8 : decode cX6_weeps 8 = .ok (.iadd, 1) := by decide +kernel
theorem dX6_weeps_9 : decode cX6_weeps 9 = .ok (.ireturn, 1) := by decide +kernel
theorem u20_0 {d : Nat} {R : gR} {μ : gM} {l1 l2 : Value} {st : List Value} {x : Nat}  : gc_W (gc_S d) cX6_weeps 6 0 R 0 [.ref x, l1, l2] st μ ↔ gc_W (gc_S d) cX6_weeps 6 0 R 1 [.ref x, l1, l2] (.ref x :: st) μ := us_aload_n dX6_weeps_0 rfl
theorem u20_1 {d : Nat} {R : gR} {μ : gM} {l0 l2 : Value} {st : List Value} {x : Int32}  : gc_W (gc_S d) cX6_weeps 6 0 R 1 [l0, .int x, l2] st μ ↔ gc_W (gc_S d) cX6_weeps 6 0 R 2 [l0, .int x, l2] (.int x :: st) μ := us_iload_n dX6_weeps_1 rfl
theorem u20_2 {d : Nat} {R : gR} {μ : gM} {l0 l1 : Value} {st : List Value} {x : Int32}  : gc_W (gc_S d) cX6_weeps 6 0 R 2 [l0, l1, .int x] st μ ↔ gc_W (gc_S d) cX6_weeps 6 0 R 3 [l0, l1, .int x] (.int x :: st) μ := us_iload_n dX6_weeps_2 rfl
theorem u20_3 {d : Nat} {R : gR} {μ : gM} {L : List Value} {o kd : Nat} {a0 a1 : Int32} (hk : gc_kd o = kd) (hkd : Nat.blt kd 13 = true) : gc_W (gc_S d) cX6_weeps 6 0 R 3 L [.int a1, .int a0, .ref o] μ ↔ gc_S d 19 [.ref o, .int a0, .int a1] μ (fun v μ' => gc_W (gc_S d) cX6_weeps 6 0 R 6 L (v.toList ++ []) μ') := us_spec dX6_weeps_3 gn_6_7 gc_6_7_98 hk hkd rfl rfl rfl rfl
theorem u20_6 {d : Nat} {R : gR} {μ : gM} {L : List Value} {st : List Value}   : gc_W (gc_S d) cX6_weeps 6 0 R 6 L st μ ↔ gc_W (gc_S d) cX6_weeps 6 0 R 8 L (.int 10 :: st) μ := us_bipush dX6_weeps_6 ci_bipush_10
theorem u20_8 {d : Nat} {R : gR} {μ : gM} {L : List Value} {st : List Value} {x y : Int32}  : gc_W (gc_S d) cX6_weeps 6 0 R 8 L (.int y :: .int x :: st) μ ↔ gc_W (gc_S d) cX6_weeps 6 0 R 9 L (.int (x + y) :: st) μ := us_iadd dX6_weeps_8
theorem u20_9 {d : Nat} {R : gR} {μ : gM} {L : List Value} {v : Int32}  : gc_W (gc_S d) cX6_weeps 6 0 R 9 L [.int v] μ ↔ R (some (.int v)) μ := us_iret dX6_weeps_9 rfl
theorem s20 {d : Nat} {R : gR} {μ : gM} {o : Nat} {a0 a1 : Int32} : gc_S (d + 1) 20 [.ref o, .int a0, .int a1] μ R ↔ gc_W (gc_S d) cX6_weeps 6 0 R 0 [.ref o, .int a0, .int a1] [] μ := us_call (gm_20) rfl rfl
theorem dX1_eases_0 : decode cX1_eases 0 = .ok (.aload_n 0, 1) := by decide +kernel
theorem dX1_eases_1 : decode cX1_eases 1 = .ok (.iload_n 1, 1) := by decide +kernel
theorem dX1_eases_2 : decode cX1_eases 2 = .ok (.iload_n 2, 1) := by decide +kernel
theorem dX1_eases_3 : decode cX1_eases 3 = .ok (.invokespecial 16, 3) := by decide +kernel
theorem dX1_eases_6 : decode cX1_eases 6 = .ok (.iload_n 1, 1) := by decide +kernel
theorem dX1_eases_7 : decode cX1_eases 7 = .ok (.iadd, 1) := by decide +kernel
theorem dX1_eases_8 : decode cX1_eases 8 = .ok (.ireturn, 1) := by decide +kernel
theorem u22_0 {d : Nat} {R : gR} {μ : gM} {l1 l2 : Value} {st : List Value} {x : Nat}  : gc_W (gc_S d) cX1_eases 1 0 R 0 [.ref x, l1, l2] st μ ↔ gc_W (gc_S d) cX1_eases 1 0 R 1 [.ref x, l1, l2] (.ref x :: st) μ := us_aload_n dX1_eases_0 rfl
theorem u22_1 {d : Nat} {R : gR} {μ : gM} {l0 l2 : Value} {st : List Value} {x : Int32}  : gc_W (gc_S d) cX1_eases 1 0 R 1 [l0, .int x, l2] st μ ↔ gc_W (gc_S d) cX1_eases 1 0 R 2 [l0, .int x, l2] (.int x :: st) μ := us_iload_n dX1_eases_1 rfl
theorem u22_2 {d : Nat} {R : gR} {μ : gM} {l0 l1 : Value} {st : List Value} {x : Int32}  : gc_W (gc_S d) cX1_eases 1 0 R 2 [l0, l1, .int x] st μ ↔ gc_W (gc_S d) cX1_eases 1 0 R 3 [l0, l1, .int x] (.int x :: st) μ := us_iload_n dX1_eases_2 rfl
theorem u22_3 {d : Nat} {R : gR} {μ : gM} {L : List Value} {o kd : Nat} {a0 a1 : Int32} (hk : gc_kd o = kd) (hkd : Nat.blt kd 13 = true) : gc_W (gc_S d) cX1_eases 1 0 R 3 L [.int a1, .int a0, .ref o] μ ↔ gc_S d 23 [.ref o, .int a0, .int a1] μ (fun v μ' => gc_W (gc_S d) cX1_eases 1 0 R 6 L (v.toList ++ []) μ') := us_spec dX1_eases_3 gn_1_16 gc_1_16_98 hk hkd rfl rfl rfl rfl
theorem u22_6 {d : Nat} {R : gR} {μ : gM} {l0 l2 : Value} {st : List Value} {x : Int32}  : gc_W (gc_S d) cX1_eases 1 0 R 6 [l0, .int x, l2] st μ ↔ gc_W (gc_S d) cX1_eases 1 0 R 7 [l0, .int x, l2] (.int x :: st) μ := us_iload_n dX1_eases_6 rfl
theorem u22_7 {d : Nat} {R : gR} {μ : gM} {L : List Value} {st : List Value} {x y : Int32}  : gc_W (gc_S d) cX1_eases 1 0 R 7 L (.int y :: .int x :: st) μ ↔ gc_W (gc_S d) cX1_eases 1 0 R 8 L (.int (x + y) :: st) μ := us_iadd dX1_eases_7
theorem u22_8 {d : Nat} {R : gR} {μ : gM} {L : List Value} {v : Int32}  : gc_W (gc_S d) cX1_eases 1 0 R 8 L [.int v] μ ↔ R (some (.int v)) μ := us_iret dX1_eases_8 rfl
theorem s22 {d : Nat} {R : gR} {μ : gM} {o : Nat} {a0 a1 : Int32} : gc_S (d + 1) 22 [.ref o, .int a0, .int a1] μ R ↔ gc_W (gc_S d) cX1_eases 1 0 R 0 [.ref o, .int a0, .int a1] [] μ := us_call (gm_22) rfl rfl
theorem dX5_eases_0 : decode cX5_eases 0 = .ok (.iload_n 2, 1) := by decide +kernel
theorem dX5_eases_1 : decode cX5_eases 1 = .ok (.iconst 2, 1) := by decide +kernel
theorem dX5_eases_2 : decode cX5_eases 2 = .ok (.idiv, 1) := by decide +kernel
theorem dX5_eases_3 : decode cX5_eases 3 = .ok (.ireturn, 1) := by decide +kernel
theorem u23_0 {d : Nat} {R : gR} {μ : gM} {l0 l1 : Value} {st : List Value} {x : Int32}  : gc_W (gc_S d) cX5_eases 5 0 R 0 [l0, l1, .int x] st μ ↔ gc_W (gc_S d) cX5_eases 5 0 R 1 [l0, l1, .int x] (.int x :: st) μ := us_iload_n dX5_eases_0 rfl
theorem u23_1 {d : Nat} {R : gR} {μ : gM} {L : List Value} {st : List Value}   : gc_W (gc_S d) cX5_eases 5 0 R 1 L st μ ↔ gc_W (gc_S d) cX5_eases 5 0 R 2 L (.int 2 :: st) μ := us_iconst dX5_eases_1 ci_iconst_2
theorem u23_2 {d : Nat} {R : gR} {μ : gM} {L : List Value} {st : List Value} {x y : Int32}  : gc_W (gc_S d) cX5_eases 5 0 R 2 L (.int y :: .int x :: st) μ ↔ (¬ y = 0 ∧ gc_W (gc_S d) cX5_eases 5 0 R 3 L (.int (x / y) :: st) μ) := us_idiv dX5_eases_2
theorem u23_3 {d : Nat} {R : gR} {μ : gM} {L : List Value} {v : Int32}  : gc_W (gc_S d) cX5_eases 5 0 R 3 L [.int v] μ ↔ R (some (.int v)) μ := us_iret dX5_eases_3 rfl
theorem s23 {d : Nat} {R : gR} {μ : gM} {o : Nat} {a0 a1 : Int32} : gc_S (d + 1) 23 [.ref o, .int a0, .int a1] μ R ↔ gc_W (gc_S d) cX5_eases 5 0 R 0 [.ref o, .int a0, .int a1] [] μ := us_call (gm_23) rfl rfl
theorem dX8_eases_0 : decode cX8_eases 0 = .ok (.aload_n 0, 1) := by decide +kernel
theorem dX8_eases_1 : decode cX8_eases 1 = .ok (.iload_n 1, 1) := by decide +kernel
theorem dX8_eases_2 : decode cX8_eases 2 = .ok (.iload_n 2, 1) := by decide +kernel
theorem dX8_eases_3 : decode cX8_eases 3 = .ok (.invokespecial 16, 3) := by decide +kernel
theorem dX8_eases_6 : decode cX8_eases 6 = .ok (.iconst 3, 1) := by decide +kernel
theorem dX8_eases_7 : decode cX8_eases 7 = .ok (.iadd, 1) := by decide +kernel
theorem dX8_eases_8 : decode cX8_eases 8 = .ok (.ireturn, 1) := by decide +kernel
theorem u24_0 {d : Nat} {R : gR} {μ : gM} {l1 l2 : Value} {st : List Value} {x : Nat}  : gc_W (gc_S d) cX8_eases 8 0 R 0 [.ref x, l1, l2] st μ ↔ gc_W (gc_S d) cX8_eases 8 0 R 1 [.ref x, l1, l2] (.ref x :: st) μ := us_aload_n dX8_eases_0 rfl
theorem u24_1 {d : Nat} {R : gR} {μ : gM} {l0 l2 : Value} {st : List Value} {x : Int32}  : gc_W (gc_S d) cX8_eases 8 0 R 1 [l0, .int x, l2] st μ ↔ gc_W (gc_S d) cX8_eases 8 0 R 2 [l0, .int x, l2] (.int x :: st) μ := us_iload_n dX8_eases_1 rfl
theorem u24_2 {d : Nat} {R : gR} {μ : gM} {l0 l1 : Value} {st : List Value} {x : Int32}  : gc_W (gc_S d) cX8_eases 8 0 R 2 [l0, l1, .int x] st μ ↔ gc_W (gc_S d) cX8_eases 8 0 R 3 [l0, l1, .int x] (.int x :: st) μ := us_iload_n dX8_eases_2 rfl
theorem u24_3 {d : Nat} {R : gR} {μ : gM} {L : List Value} {o kd : Nat} {a0 a1 : Int32} (hk : gc_kd o = kd) (hkd : Nat.blt kd 13 = true) : gc_W (gc_S d) cX8_eases 8 0 R 3 L [.int a1, .int a0, .ref o] μ ↔ gc_S d 23 [.ref o, .int a0, .int a1] μ (fun v μ' => gc_W (gc_S d) cX8_eases 8 0 R 6 L (v.toList ++ []) μ') := us_spec dX8_eases_3 gn_8_16 gc_8_16_98 hk hkd rfl rfl rfl rfl
theorem u24_6 {d : Nat} {R : gR} {μ : gM} {L : List Value} {st : List Value}   : gc_W (gc_S d) cX8_eases 8 0 R 6 L st μ ↔ gc_W (gc_S d) cX8_eases 8 0 R 7 L (.int 3 :: st) μ := us_iconst dX8_eases_6 ci_iconst_3
theorem u24_7 {d : Nat} {R : gR} {μ : gM} {L : List Value} {st : List Value} {x y : Int32}  : gc_W (gc_S d) cX8_eases 8 0 R 7 L (.int y :: .int x :: st) μ ↔ gc_W (gc_S d) cX8_eases 8 0 R 8 L (.int (x + y) :: st) μ := us_iadd dX8_eases_7
theorem u24_8 {d : Nat} {R : gR} {μ : gM} {L : List Value} {v : Int32}  : gc_W (gc_S d) cX8_eases 8 0 R 8 L [.int v] μ ↔ R (some (.int v)) μ := us_iret dX8_eases_8 rfl
theorem s24 {d : Nat} {R : gR} {μ : gM} {o : Nat} {a0 a1 : Int32} : gc_S (d + 1) 24 [.ref o, .int a0, .int a1] μ R ↔ gc_W (gc_S d) cX8_eases 8 0 R 0 [.ref o, .int a0, .int a1] [] μ := us_call (gm_24) rfl rfl
theorem dX6_eases_0 : decode cX6_eases 0 = .ok (.iconst 0, 1) := by decide +kernel
theorem dX6_eases_1 : decode cX6_eases 1 = .ok (.ireturn, 1) := by decide +kernel
theorem u25_0 {d : Nat} {R : gR} {μ : gM} {L : List Value} {st : List Value}   : gc_W (gc_S d) cX6_eases 6 0 R 0 L st μ ↔ gc_W (gc_S d) cX6_eases 6 0 R 1 L (.int 0 :: st) μ := us_iconst dX6_eases_0 ci_iconst_0
theorem u25_1 {d : Nat} {R : gR} {μ : gM} {L : List Value} {v : Int32}  : gc_W (gc_S d) cX6_eases 6 0 R 1 L [.int v] μ ↔ R (some (.int v)) μ := us_iret dX6_eases_1 rfl
theorem s25 {d : Nat} {R : gR} {μ : gM} {o : Nat} {a0 a1 : Int32} : gc_S (d + 1) 25 [.ref o, .int a0, .int a1] μ R ↔ gc_W (gc_S d) cX6_eases 6 0 R 0 [.ref o, .int a0, .int a1] [] μ := us_call (gm_25) rfl rfl
theorem dJ6_bitCount_0f7a4_0 : decode cJ6_bitCount_0f7a4 0 = .ok (.iload_n 0, 1) := by decide +kernel
theorem dJ6_bitCount_0f7a4_1 : decode cJ6_bitCount_0f7a4 1 = .ok (.iload_n 0, 1) := by decide +kernel
theorem dJ6_bitCount_0f7a4_2 : decode cJ6_bitCount_0f7a4 2 = .ok (.iconst 1, 1) := by decide +kernel
theorem dJ6_bitCount_0f7a4_3 : decode cJ6_bitCount_0f7a4 3 = .ok (.iushr, 1) := by decide +kernel
theorem dJ6_bitCount_0f7a4_4 : decode cJ6_bitCount_0f7a4 4 = .ok (.ldc_w 265, 3) := by decide +kernel
theorem dJ6_bitCount_0f7a4_7 : decode cJ6_bitCount_0f7a4 7 = .ok (.iand, 1) := by decide +kernel
theorem dJ6_bitCount_0f7a4_8 : decode cJ6_bitCount_0f7a4 8 = .ok (.isub, 1) := by decide +kernel
theorem dJ6_bitCount_0f7a4_9 : decode cJ6_bitCount_0f7a4 9 = .ok (.istore_n 0, 1) := by decide +kernel
theorem dJ6_bitCount_0f7a4_10 : decode cJ6_bitCount_0f7a4 10 = .ok (.iload_n 0, 1) := by decide +kernel
theorem dJ6_bitCount_0f7a4_11 : decode cJ6_bitCount_0f7a4 11 = .ok (.ldc_w 266, 3) := by decide +kernel
theorem dJ6_bitCount_0f7a4_14 : decode cJ6_bitCount_0f7a4 14 = .ok (.iand, 1) := by decide +kernel
theorem dJ6_bitCount_0f7a4_15 : decode cJ6_bitCount_0f7a4 15 = .ok (.iload_n 0, 1) := by decide +kernel
theorem dJ6_bitCount_0f7a4_16 : decode cJ6_bitCount_0f7a4 16 = .ok (.iconst 2, 1) := by decide +kernel
theorem dJ6_bitCount_0f7a4_17 : decode cJ6_bitCount_0f7a4 17 = .ok (.iushr, 1) := by decide +kernel
theorem dJ6_bitCount_0f7a4_18 : decode cJ6_bitCount_0f7a4 18 = .ok (.ldc_w 266, 3) := by decide +kernel
theorem dJ6_bitCount_0f7a4_21 : decode cJ6_bitCount_0f7a4 21 = .ok (.iand, 1) := by decide +kernel
theorem dJ6_bitCount_0f7a4_22 : decode cJ6_bitCount_0f7a4 22 = .ok (.iadd, 1) := by decide +kernel
theorem dJ6_bitCount_0f7a4_23 : decode cJ6_bitCount_0f7a4 23 = .ok (.istore_n 0, 1) := by decide +kernel
theorem dJ6_bitCount_0f7a4_24 : decode cJ6_bitCount_0f7a4 24 = .ok (.iload_n 0, 1) := by decide +kernel
theorem dJ6_bitCount_0f7a4_25 : decode cJ6_bitCount_0f7a4 25 = .ok (.iload_n 0, 1) := by decide +kernel
theorem dJ6_bitCount_0f7a4_26 : decode cJ6_bitCount_0f7a4 26 = .ok (.iconst 4, 1) := by decide +kernel
theorem dJ6_bitCount_0f7a4_27 : decode cJ6_bitCount_0f7a4 27 = .ok (.iushr, 1) := by decide +kernel
theorem dJ6_bitCount_0f7a4_28 : decode cJ6_bitCount_0f7a4 28 = .ok (.iadd, 1) := by decide +kernel
theorem dJ6_bitCount_0f7a4_29 : decode cJ6_bitCount_0f7a4 29 = .ok (.ldc_w 267, 3) := by decide +kernel
theorem dJ6_bitCount_0f7a4_32 : decode cJ6_bitCount_0f7a4 32 = .ok (.iand, 1) := by decide +kernel
theorem dJ6_bitCount_0f7a4_33 : decode cJ6_bitCount_0f7a4 33 = .ok (.istore_n 0, 1) := by decide +kernel
theorem dJ6_bitCount_0f7a4_34 : decode cJ6_bitCount_0f7a4 34 = .ok (.iload_n 0, 1) := by decide +kernel
theorem dJ6_bitCount_0f7a4_35 : decode cJ6_bitCount_0f7a4 35 = .ok (.iload_n 0, 1) := by decide +kernel
theorem dJ6_bitCount_0f7a4_36 : decode cJ6_bitCount_0f7a4 36 = .ok (.bipush 8, 2) := by decide +kernel
theorem dJ6_bitCount_0f7a4_38 : decode cJ6_bitCount_0f7a4 38 = .ok (.iushr, 1) := by decide +kernel
theorem dJ6_bitCount_0f7a4_39 : decode cJ6_bitCount_0f7a4 39 = .ok (.iadd, 1) := by decide +kernel
theorem dJ6_bitCount_0f7a4_40 : decode cJ6_bitCount_0f7a4 40 = .ok (.istore_n 0, 1) := by decide +kernel
theorem dJ6_bitCount_0f7a4_41 : decode cJ6_bitCount_0f7a4 41 = .ok (.iload_n 0, 1) := by decide +kernel
theorem dJ6_bitCount_0f7a4_42 : decode cJ6_bitCount_0f7a4 42 = .ok (.iload_n 0, 1) := by decide +kernel
theorem dJ6_bitCount_0f7a4_43 : decode cJ6_bitCount_0f7a4 43 = .ok (.bipush 16, 2) := by decide +kernel
theorem dJ6_bitCount_0f7a4_45 : decode cJ6_bitCount_0f7a4 45 = .ok (.iushr, 1) := by decide +kernel
theorem dJ6_bitCount_0f7a4_46 : decode cJ6_bitCount_0f7a4 46 = .ok (.iadd, 1) := by decide +kernel
theorem dJ6_bitCount_0f7a4_47 : decode cJ6_bitCount_0f7a4 47 = .ok (.istore_n 0, 1) := by decide +kernel
theorem dJ6_bitCount_0f7a4_48 : decode cJ6_bitCount_0f7a4 48 = .ok (.iload_n 0, 1) := by decide +kernel
theorem dJ6_bitCount_0f7a4_49 : decode cJ6_bitCount_0f7a4 49 = .ok (.bipush 63, 2) := by decide +kernel
theorem dJ6_bitCount_0f7a4_51 : decode cJ6_bitCount_0f7a4 51 = .ok (.iand, 1) := by decide +kernel
theorem dJ6_bitCount_0f7a4_52 : decode cJ6_bitCount_0f7a4 52 = .ok (.ireturn, 1) := by decide +kernel
theorem u30_0 {d : Nat} {R : gR} {μ : gM} {st : List Value} {x : Int32}  : gc_W (gc_S d) cJ6_bitCount_0f7a4 13 0 R 0 [.int x] st μ ↔ gc_W (gc_S d) cJ6_bitCount_0f7a4 13 0 R 1 [.int x] (.int x :: st) μ := us_iload_n dJ6_bitCount_0f7a4_0 rfl
theorem u30_1 {d : Nat} {R : gR} {μ : gM} {st : List Value} {x : Int32}  : gc_W (gc_S d) cJ6_bitCount_0f7a4 13 0 R 1 [.int x] st μ ↔ gc_W (gc_S d) cJ6_bitCount_0f7a4 13 0 R 2 [.int x] (.int x :: st) μ := us_iload_n dJ6_bitCount_0f7a4_1 rfl
theorem u30_2 {d : Nat} {R : gR} {μ : gM} {L : List Value} {st : List Value}   : gc_W (gc_S d) cJ6_bitCount_0f7a4 13 0 R 2 L st μ ↔ gc_W (gc_S d) cJ6_bitCount_0f7a4 13 0 R 3 L (.int 1 :: st) μ := us_iconst dJ6_bitCount_0f7a4_2 ci_iconst_1
theorem u30_3 {d : Nat} {R : gR} {μ : gM} {L : List Value} {st : List Value} {x y : Int32}  : gc_W (gc_S d) cJ6_bitCount_0f7a4 13 0 R 3 L (.int y :: .int x :: st) μ ↔ gc_W (gc_S d) cJ6_bitCount_0f7a4 13 0 R 4 L (.int ((x.toUInt32 >>> (y.toUInt32 &&& Int32.toUInt32 31)).toInt32) :: st) μ := us_iushr dJ6_bitCount_0f7a4_3
theorem u30_4 {d : Nat} {R : gR} {μ : gM} {L : List Value} {st : List Value}   : gc_W (gc_S d) cJ6_bitCount_0f7a4 13 0 R 4 L st μ ↔ gc_W (gc_S d) cJ6_bitCount_0f7a4 13 0 R 7 L (.int 1431655765 :: st) μ := us_ldcw dJ6_bitCount_0f7a4_4 gk_13_265
theorem u30_7 {d : Nat} {R : gR} {μ : gM} {L : List Value} {st : List Value} {x y : Int32}  : gc_W (gc_S d) cJ6_bitCount_0f7a4 13 0 R 7 L (.int y :: .int x :: st) μ ↔ gc_W (gc_S d) cJ6_bitCount_0f7a4 13 0 R 8 L (.int (x &&& y) :: st) μ := us_iand dJ6_bitCount_0f7a4_7
theorem u30_8 {d : Nat} {R : gR} {μ : gM} {L : List Value} {st : List Value} {x y : Int32}  : gc_W (gc_S d) cJ6_bitCount_0f7a4 13 0 R 8 L (.int y :: .int x :: st) μ ↔ gc_W (gc_S d) cJ6_bitCount_0f7a4 13 0 R 9 L (.int (x - y) :: st) μ := us_isub dJ6_bitCount_0f7a4_8
theorem u30_9 {d : Nat} {R : gR} {μ : gM} {l0 : Value} {st : List Value} {x : Int32} (hs : gc_sk l0 = true) : gc_W (gc_S d) cJ6_bitCount_0f7a4 13 0 R 9 [l0] (.int x :: st) μ ↔ gc_W (gc_S d) cJ6_bitCount_0f7a4 13 0 R 10 [.int x] st μ := us_istore_n dJ6_bitCount_0f7a4_9 rfl hs
theorem u30_10 {d : Nat} {R : gR} {μ : gM} {st : List Value} {x : Int32}  : gc_W (gc_S d) cJ6_bitCount_0f7a4 13 0 R 10 [.int x] st μ ↔ gc_W (gc_S d) cJ6_bitCount_0f7a4 13 0 R 11 [.int x] (.int x :: st) μ := us_iload_n dJ6_bitCount_0f7a4_10 rfl
theorem u30_11 {d : Nat} {R : gR} {μ : gM} {L : List Value} {st : List Value}   : gc_W (gc_S d) cJ6_bitCount_0f7a4 13 0 R 11 L st μ ↔ gc_W (gc_S d) cJ6_bitCount_0f7a4 13 0 R 14 L (.int 858993459 :: st) μ := us_ldcw dJ6_bitCount_0f7a4_11 gk_13_266
theorem u30_14 {d : Nat} {R : gR} {μ : gM} {L : List Value} {st : List Value} {x y : Int32}  : gc_W (gc_S d) cJ6_bitCount_0f7a4 13 0 R 14 L (.int y :: .int x :: st) μ ↔ gc_W (gc_S d) cJ6_bitCount_0f7a4 13 0 R 15 L (.int (x &&& y) :: st) μ := us_iand dJ6_bitCount_0f7a4_14
theorem u30_15 {d : Nat} {R : gR} {μ : gM} {st : List Value} {x : Int32}  : gc_W (gc_S d) cJ6_bitCount_0f7a4 13 0 R 15 [.int x] st μ ↔ gc_W (gc_S d) cJ6_bitCount_0f7a4 13 0 R 16 [.int x] (.int x :: st) μ := us_iload_n dJ6_bitCount_0f7a4_15 rfl
theorem u30_16 {d : Nat} {R : gR} {μ : gM} {L : List Value} {st : List Value}   : gc_W (gc_S d) cJ6_bitCount_0f7a4 13 0 R 16 L st μ ↔ gc_W (gc_S d) cJ6_bitCount_0f7a4 13 0 R 17 L (.int 2 :: st) μ := us_iconst dJ6_bitCount_0f7a4_16 ci_iconst_2
theorem u30_17 {d : Nat} {R : gR} {μ : gM} {L : List Value} {st : List Value} {x y : Int32}  : gc_W (gc_S d) cJ6_bitCount_0f7a4 13 0 R 17 L (.int y :: .int x :: st) μ ↔ gc_W (gc_S d) cJ6_bitCount_0f7a4 13 0 R 18 L (.int ((x.toUInt32 >>> (y.toUInt32 &&& Int32.toUInt32 31)).toInt32) :: st) μ := us_iushr dJ6_bitCount_0f7a4_17
theorem u30_18 {d : Nat} {R : gR} {μ : gM} {L : List Value} {st : List Value}   : gc_W (gc_S d) cJ6_bitCount_0f7a4 13 0 R 18 L st μ ↔ gc_W (gc_S d) cJ6_bitCount_0f7a4 13 0 R 21 L (.int 858993459 :: st) μ := us_ldcw dJ6_bitCount_0f7a4_18 gk_13_266
theorem u30_21 {d : Nat} {R : gR} {μ : gM} {L : List Value} {st : List Value} {x y : Int32}  : gc_W (gc_S d) cJ6_bitCount_0f7a4 13 0 R 21 L (.int y :: .int x :: st) μ ↔ gc_W (gc_S d) cJ6_bitCount_0f7a4 13 0 R 22 L (.int (x &&& y) :: st) μ := us_iand dJ6_bitCount_0f7a4_21
theorem u30_22 {d : Nat} {R : gR} {μ : gM} {L : List Value} {st : List Value} {x y : Int32}  : gc_W (gc_S d) cJ6_bitCount_0f7a4 13 0 R 22 L (.int y :: .int x :: st) μ ↔ gc_W (gc_S d) cJ6_bitCount_0f7a4 13 0 R 23 L (.int (x + y) :: st) μ := us_iadd dJ6_bitCount_0f7a4_22
theorem u30_23 {d : Nat} {R : gR} {μ : gM} {l0 : Value} {st : List Value} {x : Int32} (hs : gc_sk l0 = true) : gc_W (gc_S d) cJ6_bitCount_0f7a4 13 0 R 23 [l0] (.int x :: st) μ ↔ gc_W (gc_S d) cJ6_bitCount_0f7a4 13 0 R 24 [.int x] st μ := us_istore_n dJ6_bitCount_0f7a4_23 rfl hs
theorem u30_24 {d : Nat} {R : gR} {μ : gM} {st : List Value} {x : Int32}  : gc_W (gc_S d) cJ6_bitCount_0f7a4 13 0 R 24 [.int x] st μ ↔ gc_W (gc_S d) cJ6_bitCount_0f7a4 13 0 R 25 [.int x] (.int x :: st) μ := us_iload_n dJ6_bitCount_0f7a4_24 rfl
theorem u30_25 {d : Nat} {R : gR} {μ : gM} {st : List Value} {x : Int32}  : gc_W (gc_S d) cJ6_bitCount_0f7a4 13 0 R 25 [.int x] st μ ↔ gc_W (gc_S d) cJ6_bitCount_0f7a4 13 0 R 26 [.int x] (.int x :: st) μ := us_iload_n dJ6_bitCount_0f7a4_25 rfl
theorem u30_26 {d : Nat} {R : gR} {μ : gM} {L : List Value} {st : List Value}   : gc_W (gc_S d) cJ6_bitCount_0f7a4 13 0 R 26 L st μ ↔ gc_W (gc_S d) cJ6_bitCount_0f7a4 13 0 R 27 L (.int 4 :: st) μ := us_iconst dJ6_bitCount_0f7a4_26 ci_iconst_4
theorem u30_27 {d : Nat} {R : gR} {μ : gM} {L : List Value} {st : List Value} {x y : Int32}  : gc_W (gc_S d) cJ6_bitCount_0f7a4 13 0 R 27 L (.int y :: .int x :: st) μ ↔ gc_W (gc_S d) cJ6_bitCount_0f7a4 13 0 R 28 L (.int ((x.toUInt32 >>> (y.toUInt32 &&& Int32.toUInt32 31)).toInt32) :: st) μ := us_iushr dJ6_bitCount_0f7a4_27
theorem u30_28 {d : Nat} {R : gR} {μ : gM} {L : List Value} {st : List Value} {x y : Int32}  : gc_W (gc_S d) cJ6_bitCount_0f7a4 13 0 R 28 L (.int y :: .int x :: st) μ ↔ gc_W (gc_S d) cJ6_bitCount_0f7a4 13 0 R 29 L (.int (x + y) :: st) μ := us_iadd dJ6_bitCount_0f7a4_28
theorem u30_29 {d : Nat} {R : gR} {μ : gM} {L : List Value} {st : List Value}   : gc_W (gc_S d) cJ6_bitCount_0f7a4 13 0 R 29 L st μ ↔ gc_W (gc_S d) cJ6_bitCount_0f7a4 13 0 R 32 L (.int 252645135 :: st) μ := us_ldcw dJ6_bitCount_0f7a4_29 gk_13_267
theorem u30_32 {d : Nat} {R : gR} {μ : gM} {L : List Value} {st : List Value} {x y : Int32}  : gc_W (gc_S d) cJ6_bitCount_0f7a4 13 0 R 32 L (.int y :: .int x :: st) μ ↔ gc_W (gc_S d) cJ6_bitCount_0f7a4 13 0 R 33 L (.int (x &&& y) :: st) μ := us_iand dJ6_bitCount_0f7a4_32
theorem u30_33 {d : Nat} {R : gR} {μ : gM} {l0 : Value} {st : List Value} {x : Int32} (hs : gc_sk l0 = true) : gc_W (gc_S d) cJ6_bitCount_0f7a4 13 0 R 33 [l0] (.int x :: st) μ ↔ gc_W (gc_S d) cJ6_bitCount_0f7a4 13 0 R 34 [.int x] st μ := us_istore_n dJ6_bitCount_0f7a4_33 rfl hs
theorem u30_34 {d : Nat} {R : gR} {μ : gM} {st : List Value} {x : Int32}  : gc_W (gc_S d) cJ6_bitCount_0f7a4 13 0 R 34 [.int x] st μ ↔ gc_W (gc_S d) cJ6_bitCount_0f7a4 13 0 R 35 [.int x] (.int x :: st) μ := us_iload_n dJ6_bitCount_0f7a4_34 rfl
theorem u30_35 {d : Nat} {R : gR} {μ : gM} {st : List Value} {x : Int32}  : gc_W (gc_S d) cJ6_bitCount_0f7a4 13 0 R 35 [.int x] st μ ↔ gc_W (gc_S d) cJ6_bitCount_0f7a4 13 0 R 36 [.int x] (.int x :: st) μ := us_iload_n dJ6_bitCount_0f7a4_35 rfl
theorem u30_36 {d : Nat} {R : gR} {μ : gM} {L : List Value} {st : List Value}   : gc_W (gc_S d) cJ6_bitCount_0f7a4 13 0 R 36 L st μ ↔ gc_W (gc_S d) cJ6_bitCount_0f7a4 13 0 R 38 L (.int 8 :: st) μ := us_bipush dJ6_bitCount_0f7a4_36 ci_bipush_8
theorem u30_38 {d : Nat} {R : gR} {μ : gM} {L : List Value} {st : List Value} {x y : Int32}  : gc_W (gc_S d) cJ6_bitCount_0f7a4 13 0 R 38 L (.int y :: .int x :: st) μ ↔ gc_W (gc_S d) cJ6_bitCount_0f7a4 13 0 R 39 L (.int ((x.toUInt32 >>> (y.toUInt32 &&& Int32.toUInt32 31)).toInt32) :: st) μ := us_iushr dJ6_bitCount_0f7a4_38
theorem u30_39 {d : Nat} {R : gR} {μ : gM} {L : List Value} {st : List Value} {x y : Int32}  : gc_W (gc_S d) cJ6_bitCount_0f7a4 13 0 R 39 L (.int y :: .int x :: st) μ ↔ gc_W (gc_S d) cJ6_bitCount_0f7a4 13 0 R 40 L (.int (x + y) :: st) μ := us_iadd dJ6_bitCount_0f7a4_39
theorem u30_40 {d : Nat} {R : gR} {μ : gM} {l0 : Value} {st : List Value} {x : Int32} (hs : gc_sk l0 = true) : gc_W (gc_S d) cJ6_bitCount_0f7a4 13 0 R 40 [l0] (.int x :: st) μ ↔ gc_W (gc_S d) cJ6_bitCount_0f7a4 13 0 R 41 [.int x] st μ := us_istore_n dJ6_bitCount_0f7a4_40 rfl hs
theorem u30_41 {d : Nat} {R : gR} {μ : gM} {st : List Value} {x : Int32}  : gc_W (gc_S d) cJ6_bitCount_0f7a4 13 0 R 41 [.int x] st μ ↔ gc_W (gc_S d) cJ6_bitCount_0f7a4 13 0 R 42 [.int x] (.int x :: st) μ := us_iload_n dJ6_bitCount_0f7a4_41 rfl
theorem u30_42 {d : Nat} {R : gR} {μ : gM} {st : List Value} {x : Int32}  : gc_W (gc_S d) cJ6_bitCount_0f7a4 13 0 R 42 [.int x] st μ ↔ gc_W (gc_S d) cJ6_bitCount_0f7a4 13 0 R 43 [.int x] (.int x :: st) μ := us_iload_n dJ6_bitCount_0f7a4_42 rfl
theorem u30_43 {d : Nat} {R : gR} {μ : gM} {L : List Value} {st : List Value}   : gc_W (gc_S d) cJ6_bitCount_0f7a4 13 0 R 43 L st μ ↔ gc_W (gc_S d) cJ6_bitCount_0f7a4 13 0 R 45 L (.int 16 :: st) μ := us_bipush dJ6_bitCount_0f7a4_43 ci_bipush_16
theorem u30_45 {d : Nat} {R : gR} {μ : gM} {L : List Value} {st : List Value} {x y : Int32}  : gc_W (gc_S d) cJ6_bitCount_0f7a4 13 0 R 45 L (.int y :: .int x :: st) μ ↔ gc_W (gc_S d) cJ6_bitCount_0f7a4 13 0 R 46 L (.int ((x.toUInt32 >>> (y.toUInt32 &&& Int32.toUInt32 31)).toInt32) :: st) μ := us_iushr dJ6_bitCount_0f7a4_45
theorem u30_46 {d : Nat} {R : gR} {μ : gM} {L : List Value} {st : List Value} {x y : Int32}  : gc_W (gc_S d) cJ6_bitCount_0f7a4 13 0 R 46 L (.int y :: .int x :: st) μ ↔ gc_W (gc_S d) cJ6_bitCount_0f7a4 13 0 R 47 L (.int (x + y) :: st) μ := us_iadd dJ6_bitCount_0f7a4_46
theorem u30_47 {d : Nat} {R : gR} {μ : gM} {l0 : Value} {st : List Value} {x : Int32} (hs : gc_sk l0 = true) : gc_W (gc_S d) cJ6_bitCount_0f7a4 13 0 R 47 [l0] (.int x :: st) μ ↔ gc_W (gc_S d) cJ6_bitCount_0f7a4 13 0 R 48 [.int x] st μ := us_istore_n dJ6_bitCount_0f7a4_47 rfl hs
theorem u30_48 {d : Nat} {R : gR} {μ : gM} {st : List Value} {x : Int32}  : gc_W (gc_S d) cJ6_bitCount_0f7a4 13 0 R 48 [.int x] st μ ↔ gc_W (gc_S d) cJ6_bitCount_0f7a4 13 0 R 49 [.int x] (.int x :: st) μ := us_iload_n dJ6_bitCount_0f7a4_48 rfl
theorem u30_49 {d : Nat} {R : gR} {μ : gM} {L : List Value} {st : List Value}   : gc_W (gc_S d) cJ6_bitCount_0f7a4 13 0 R 49 L st μ ↔ gc_W (gc_S d) cJ6_bitCount_0f7a4 13 0 R 51 L (.int 63 :: st) μ := us_bipush dJ6_bitCount_0f7a4_49 ci_bipush_63
theorem u30_51 {d : Nat} {R : gR} {μ : gM} {L : List Value} {st : List Value} {x y : Int32}  : gc_W (gc_S d) cJ6_bitCount_0f7a4 13 0 R 51 L (.int y :: .int x :: st) μ ↔ gc_W (gc_S d) cJ6_bitCount_0f7a4 13 0 R 52 L (.int (x &&& y) :: st) μ := us_iand dJ6_bitCount_0f7a4_51
theorem u30_52 {d : Nat} {R : gR} {μ : gM} {L : List Value} {v : Int32}  : gc_W (gc_S d) cJ6_bitCount_0f7a4 13 0 R 52 L [.int v] μ ↔ R (some (.int v)) μ := us_iret dJ6_bitCount_0f7a4_52 rfl
theorem s30 {d : Nat} {R : gR} {μ : gM} {a0 : Int32} : gc_S (d + 1) 30 [.int a0] μ R ↔ gc_W (gc_S d) cJ6_bitCount_0f7a4 13 0 R 0 [.int a0] [] μ := us_call (gm_30) rfl rfl
theorem dX3_grieves_0 : decode cX3_grieves 0 = .ok (.iconst 1, 1) := by decide +kernel
theorem dX3_grieves_1 : decode cX3_grieves 1 = .ok (.ireturn, 1) := by decide +kernel
theorem u32_0 {d : Nat} {R : gR} {μ : gM} {L : List Value} {st : List Value}   : gc_W (gc_S d) cX3_grieves 3 0 R 0 L st μ ↔ gc_W (gc_S d) cX3_grieves 3 0 R 1 L (.int 1 :: st) μ := us_iconst dX3_grieves_0 ci_iconst_1
theorem u32_1 {d : Nat} {R : gR} {μ : gM} {L : List Value} {v : Int32}  : gc_W (gc_S d) cX3_grieves 3 0 R 1 L [.int v] μ ↔ R (some (.int v)) μ := us_iret dX3_grieves_1 rfl
theorem s32 {d : Nat} {R : gR} {μ : gM} {o : Nat} {a0 a1 : Int32} : gc_S (d + 1) 32 [.ref o, .int a0, .int a1] μ R ↔ gc_W (gc_S d) cX3_grieves 3 0 R 0 [.ref o, .int a0, .int a1] [] μ := us_call (gm_32) rfl rfl
theorem dX5_grieves_0 : decode cX5_grieves 0 = .ok (.iconst 2, 1) := by decide +kernel
theorem dX5_grieves_1 : decode cX5_grieves 1 = .ok (.ireturn, 1) := by decide +kernel
theorem u33_0 {d : Nat} {R : gR} {μ : gM} {L : List Value} {st : List Value}   : gc_W (gc_S d) cX5_grieves 5 0 R 0 L st μ ↔ gc_W (gc_S d) cX5_grieves 5 0 R 1 L (.int 2 :: st) μ := us_iconst dX5_grieves_0 ci_iconst_2
theorem u33_1 {d : Nat} {R : gR} {μ : gM} {L : List Value} {v : Int32}  : gc_W (gc_S d) cX5_grieves 5 0 R 1 L [.int v] μ ↔ R (some (.int v)) μ := us_iret dX5_grieves_1 rfl
theorem s33 {d : Nat} {R : gR} {μ : gM} {o : Nat} {a0 a1 : Int32} : gc_S (d + 1) 33 [.ref o, .int a0, .int a1] μ R ↔ gc_W (gc_S d) cX5_grieves 5 0 R 0 [.ref o, .int a0, .int a1] [] μ := us_call (gm_33) rfl rfl
theorem dX4_grieves_0 : decode cX4_grieves 0 = .ok (.iload_n 2, 1) := by decide +kernel
theorem dX4_grieves_1 : decode cX4_grieves 1 = .ok (.iconst 2, 1) := by decide +kernel
theorem dX4_grieves_2 : decode cX4_grieves 2 = .ok (.irem, 1) := by decide +kernel
theorem dX4_grieves_3 : decode cX4_grieves 3 = .ok (.ifCond .ne 12, 3) := by decide +kernel
theorem dX4_grieves_6 : decode cX4_grieves 6 = .ok (.aload_n 0, 1) := by decide +kernel
theorem dX4_grieves_7 : decode cX4_grieves 7 = .ok (.iload_n 1, 1) := by decide +kernel
theorem dX4_grieves_8 : decode cX4_grieves 8 = .ok (.iload_n 2, 1) := by decide +kernel
theorem dX4_grieves_9 : decode cX4_grieves 9 = .ok (.invokespecial 11, 3) := by decide +kernel
theorem dX4_grieves_12 : decode cX4_grieves 12 = .ok (.goto 4, 3) := by decide +kernel
theorem dX4_grieves_15 : decode cX4_grieves 15 = .ok (.iconst 0, 1) := by decide +kernel
theorem dX4_grieves_16 : decode cX4_grieves 16 = .ok (.ireturn, 1) := by decide +kernel
theorem u34_0 {d : Nat} {R : gR} {μ : gM} {l0 l1 : Value} {st : List Value} {x : Int32}  : gc_W (gc_S d) cX4_grieves 4 0 R 0 [l0, l1, .int x] st μ ↔ gc_W (gc_S d) cX4_grieves 4 0 R 1 [l0, l1, .int x] (.int x :: st) μ := us_iload_n dX4_grieves_0 rfl
theorem u34_1 {d : Nat} {R : gR} {μ : gM} {L : List Value} {st : List Value}   : gc_W (gc_S d) cX4_grieves 4 0 R 1 L st μ ↔ gc_W (gc_S d) cX4_grieves 4 0 R 2 L (.int 2 :: st) μ := us_iconst dX4_grieves_1 ci_iconst_2
theorem u34_2 {d : Nat} {R : gR} {μ : gM} {L : List Value} {st : List Value} {x y : Int32}  : gc_W (gc_S d) cX4_grieves 4 0 R 2 L (.int y :: .int x :: st) μ ↔ (¬ y = 0 ∧ gc_W (gc_S d) cX4_grieves 4 0 R 3 L (.int (x - x / y * y) :: st) μ) := us_irem dX4_grieves_2
theorem u34_3 {d : Nat} {R : gR} {μ : gM} {L : List Value} {st : List Value} {x : Int32}  : gc_W (gc_S d) cX4_grieves 4 0 R 3 L (.int x :: st) μ ↔ if x = 0 then gc_W (gc_S d) cX4_grieves 4 0 R 6 L st μ else gc_W (gc_S d) cX4_grieves 4 0 R 15 L st μ := us_ifne dX4_grieves_3 rfl
theorem u34_6 {d : Nat} {R : gR} {μ : gM} {l1 l2 : Value} {st : List Value} {x : Nat}  : gc_W (gc_S d) cX4_grieves 4 0 R 6 [.ref x, l1, l2] st μ ↔ gc_W (gc_S d) cX4_grieves 4 0 R 7 [.ref x, l1, l2] (.ref x :: st) μ := us_aload_n dX4_grieves_6 rfl
theorem u34_7 {d : Nat} {R : gR} {μ : gM} {l0 l2 : Value} {st : List Value} {x : Int32}  : gc_W (gc_S d) cX4_grieves 4 0 R 7 [l0, .int x, l2] st μ ↔ gc_W (gc_S d) cX4_grieves 4 0 R 8 [l0, .int x, l2] (.int x :: st) μ := us_iload_n dX4_grieves_7 rfl
theorem u34_8 {d : Nat} {R : gR} {μ : gM} {l0 l1 : Value} {st : List Value} {x : Int32}  : gc_W (gc_S d) cX4_grieves 4 0 R 8 [l0, l1, .int x] st μ ↔ gc_W (gc_S d) cX4_grieves 4 0 R 9 [l0, l1, .int x] (.int x :: st) μ := us_iload_n dX4_grieves_8 rfl
theorem u34_9 {d : Nat} {R : gR} {μ : gM} {L : List Value} {o kd : Nat} {a0 a1 : Int32} (hk : gc_kd o = kd) (hkd : Nat.blt kd 13 = true) : gc_W (gc_S d) cX4_grieves 4 0 R 9 L [.int a1, .int a0, .ref o] μ ↔ gc_S d 33 [.ref o, .int a0, .int a1] μ (fun v μ' => gc_W (gc_S d) cX4_grieves 4 0 R 12 L (v.toList ++ []) μ') := us_spec dX4_grieves_9 gn_4_11 gc_4_11_98 hk hkd rfl rfl rfl rfl
theorem u34_12 {d : Nat} {R : gR} {μ : gM} {L : List Value} {st : List Value}  : gc_W (gc_S d) cX4_grieves 4 0 R 12 L st μ ↔ gc_W (gc_S d) cX4_grieves 4 0 R 16 L st μ := us_goto dX4_grieves_12 rfl
theorem u34_15 {d : Nat} {R : gR} {μ : gM} {L : List Value} {st : List Value}   : gc_W (gc_S d) cX4_grieves 4 0 R 15 L st μ ↔ gc_W (gc_S d) cX4_grieves 4 0 R 16 L (.int 0 :: st) μ := us_iconst dX4_grieves_15 ci_iconst_0
theorem u34_16 {d : Nat} {R : gR} {μ : gM} {L : List Value} {v : Int32}  : gc_W (gc_S d) cX4_grieves 4 0 R 16 L [.int v] μ ↔ R (some (.int v)) μ := us_iret dX4_grieves_16 rfl
theorem s34 {d : Nat} {R : gR} {μ : gM} {o : Nat} {a0 a1 : Int32} : gc_S (d + 1) 34 [.ref o, .int a0, .int a1] μ R ↔ gc_W (gc_S d) cX4_grieves 4 0 R 0 [.ref o, .int a0, .int a1] [] μ := us_call (gm_34) rfl rfl
theorem dX10_grieves_0 : decode cX10_grieves 0 = .ok (.iconst 5, 1) := by decide +kernel
theorem dX10_grieves_1 : decode cX10_grieves 1 = .ok (.ireturn, 1) := by decide +kernel
theorem u35_0 {d : Nat} {R : gR} {μ : gM} {L : List Value} {st : List Value}   : gc_W (gc_S d) cX10_grieves 10 0 R 0 L st μ ↔ gc_W (gc_S d) cX10_grieves 10 0 R 1 L (.int 5 :: st) μ := us_iconst dX10_grieves_0 ci_iconst_5
theorem u35_1 {d : Nat} {R : gR} {μ : gM} {L : List Value} {v : Int32}  : gc_W (gc_S d) cX10_grieves 10 0 R 1 L [.int v] μ ↔ R (some (.int v)) μ := us_iret dX10_grieves_1 rfl
theorem s35 {d : Nat} {R : gR} {μ : gM} {o : Nat} {a0 a1 : Int32} : gc_S (d + 1) 35 [.ref o, .int a0, .int a1] μ R ↔ gc_W (gc_S d) cX10_grieves 10 0 R 0 [.ref o, .int a0, .int a1] [] μ := us_call (gm_35) rfl rfl
theorem dX6_grieves_0 : decode cX6_grieves 0 = .ok (.aload_n 0, 1) := by decide +kernel
theorem dX6_grieves_1 : decode cX6_grieves 1 = .ok (.iload_n 1, 1) := by decide +kernel
theorem dX6_grieves_2 : decode cX6_grieves 2 = .ok (.iload_n 2, 1) := by decide +kernel
theorem dX6_grieves_3 : decode cX6_grieves 3 = .ok (.invokespecial 11, 3) := by decide +kernel
theorem dX6_grieves_6 : decode cX6_grieves 6 = .ok (.iload_n 1, 1) := by decide +kernel
theorem dX6_grieves_7 : decode cX6_grieves 7 = .ok (.iconst 3, 1) := by decide +kernel
theorem dX6_grieves_8 : decode cX6_grieves 8 = .ok (.idiv, 1) := by decide +kernel
theorem dX6_grieves_9 : decode cX6_grieves 9 = .ok (.iadd, 1) := by decide +kernel
theorem dX6_grieves_10 : decode cX6_grieves 10 = .ok (.ireturn, 1) := by decide +kernel
theorem u36_0 {d : Nat} {R : gR} {μ : gM} {l1 l2 : Value} {st : List Value} {x : Nat}  : gc_W (gc_S d) cX6_grieves 6 0 R 0 [.ref x, l1, l2] st μ ↔ gc_W (gc_S d) cX6_grieves 6 0 R 1 [.ref x, l1, l2] (.ref x :: st) μ := us_aload_n dX6_grieves_0 rfl
theorem u36_1 {d : Nat} {R : gR} {μ : gM} {l0 l2 : Value} {st : List Value} {x : Int32}  : gc_W (gc_S d) cX6_grieves 6 0 R 1 [l0, .int x, l2] st μ ↔ gc_W (gc_S d) cX6_grieves 6 0 R 2 [l0, .int x, l2] (.int x :: st) μ := us_iload_n dX6_grieves_1 rfl
theorem u36_2 {d : Nat} {R : gR} {μ : gM} {l0 l1 : Value} {st : List Value} {x : Int32}  : gc_W (gc_S d) cX6_grieves 6 0 R 2 [l0, l1, .int x] st μ ↔ gc_W (gc_S d) cX6_grieves 6 0 R 3 [l0, l1, .int x] (.int x :: st) μ := us_iload_n dX6_grieves_2 rfl
theorem u36_3 {d : Nat} {R : gR} {μ : gM} {L : List Value} {o kd : Nat} {a0 a1 : Int32} (hk : gc_kd o = kd) (hkd : Nat.blt kd 13 = true) : gc_W (gc_S d) cX6_grieves 6 0 R 3 L [.int a1, .int a0, .ref o] μ ↔ gc_S d 35 [.ref o, .int a0, .int a1] μ (fun v μ' => gc_W (gc_S d) cX6_grieves 6 0 R 6 L (v.toList ++ []) μ') := us_spec dX6_grieves_3 gn_6_11 gc_6_11_98 hk hkd rfl rfl rfl rfl
theorem u36_6 {d : Nat} {R : gR} {μ : gM} {l0 l2 : Value} {st : List Value} {x : Int32}  : gc_W (gc_S d) cX6_grieves 6 0 R 6 [l0, .int x, l2] st μ ↔ gc_W (gc_S d) cX6_grieves 6 0 R 7 [l0, .int x, l2] (.int x :: st) μ := us_iload_n dX6_grieves_6 rfl
theorem u36_7 {d : Nat} {R : gR} {μ : gM} {L : List Value} {st : List Value}   : gc_W (gc_S d) cX6_grieves 6 0 R 7 L st μ ↔ gc_W (gc_S d) cX6_grieves 6 0 R 8 L (.int 3 :: st) μ := us_iconst dX6_grieves_7 ci_iconst_3
theorem u36_8 {d : Nat} {R : gR} {μ : gM} {L : List Value} {st : List Value} {x y : Int32}  : gc_W (gc_S d) cX6_grieves 6 0 R 8 L (.int y :: .int x :: st) μ ↔ (¬ y = 0 ∧ gc_W (gc_S d) cX6_grieves 6 0 R 9 L (.int (x / y) :: st) μ) := us_idiv dX6_grieves_8
theorem u36_9 {d : Nat} {R : gR} {μ : gM} {L : List Value} {st : List Value} {x y : Int32}  : gc_W (gc_S d) cX6_grieves 6 0 R 9 L (.int y :: .int x :: st) μ ↔ gc_W (gc_S d) cX6_grieves 6 0 R 10 L (.int (x + y) :: st) μ := us_iadd dX6_grieves_9
theorem u36_10 {d : Nat} {R : gR} {μ : gM} {L : List Value} {v : Int32}  : gc_W (gc_S d) cX6_grieves 6 0 R 10 L [.int v] μ ↔ R (some (.int v)) μ := us_iret dX6_grieves_10 rfl
theorem s36 {d : Nat} {R : gR} {μ : gM} {o : Nat} {a0 a1 : Int32} : gc_S (d + 1) 36 [.ref o, .int a0, .int a1] μ R ↔ gc_W (gc_S d) cX6_grieves 6 0 R 0 [.ref o, .int a0, .int a1] [] μ := us_call (gm_36) rfl rfl
theorem dX7_add_0 : decode cX7_add 0 = .ok (.aload_n 0, 1) := by decide +kernel
theorem dX7_add_1 : decode cX7_add 1 = .ok (.getfield 13, 3) := by decide +kernel
theorem dX7_add_4 : decode cX7_add 4 = .ok (.aload_n 0, 1) := by decide +kernel
theorem dX7_add_5 : decode cX7_add 5 = .ok (.getfield 7, 3) := by decide +kernel
theorem dX7_add_8 : decode cX7_add 8 = .ok (.arraylength, 1) := by decide +kernel
theorem dX7_add_9 : decode cX7_add 9 = .ok (.if_icmp .ge 23, 3) := by decide +kernel
theorem dX7_add_12 : decode cX7_add 12 = .ok (.aload_n 0, 1) := by decide +kernel
theorem dX7_add_13 : decode cX7_add 13 = .ok (.getfield 7, 3) := by decide +kernel
theorem dX7_add_16 : decode cX7_add 16 = .ok (.aload_n 0, 1) := by decide +kernel
theorem dX7_add_17 : decode cX7_add 17 = .ok (.getfield 13, 3) := by decide +kernel
theorem dX7_add_20 : decode cX7_add 20 = .ok (.iload_n 1, 1) := by decide +kernel
theorem dX7_add_21 : decode cX7_add 21 = .ok (.iastore, 1) := by decide +kernel
theorem dX7_add_22 : decode cX7_add 22 = .ok (.aload_n 0, 1) := by decide +kernel
theorem dX7_add_23 : decode cX7_add 23 = .ok (.dup, 1) := by decide +kernel
theorem dX7_add_24 : decode cX7_add 24 = .ok (.getfield 13, 3) := by decide +kernel
theorem dX7_add_27 : decode cX7_add 27 = .ok (.iconst 1, 1) := by decide +kernel
theorem dX7_add_28 : decode cX7_add 28 = .ok (.iadd, 1) := by decide +kernel
theorem dX7_add_29 : decode cX7_add 29 = .ok (.putfield 13, 3) := by decide +kernel
theorem dX7_add_32 : decode cX7_add 32 = .ok (.return_, 1) := by decide +kernel
theorem u41_0 {d : Nat} {R : gR} {μ : gM} {l1 : Value} {st : List Value} {x : Nat}  : gc_W (gc_S d) cX7_add 7 2 R 0 [.ref x, l1] st μ ↔ gc_W (gc_S d) cX7_add 7 2 R 1 [.ref x, l1] (.ref x :: st) μ := us_aload_n dX7_add_0 rfl
theorem u41_1 {d : Nat} {R : gR} {μ : gM} {L : List Value} {st : List Value} {o : Nat} (hk : gc_kd o = 7) : gc_W (gc_S d) cX7_add 7 2 R 1 L (.ref o :: st) μ ↔ gc_W (gc_S d) cX7_add 7 2 R 4 L (gc_fv o 1 μ :: st) μ := us_getf dX7_add_1 gf_7_13 hk
theorem u41_4 {d : Nat} {R : gR} {μ : gM} {l1 : Value} {st : List Value} {x : Nat}  : gc_W (gc_S d) cX7_add 7 2 R 4 [.ref x, l1] st μ ↔ gc_W (gc_S d) cX7_add 7 2 R 5 [.ref x, l1] (.ref x :: st) μ := us_aload_n dX7_add_4 rfl
theorem u41_5 {d : Nat} {R : gR} {μ : gM} {L : List Value} {st : List Value} {o : Nat} (hk : gc_kd o = 7) : gc_W (gc_S d) cX7_add 7 2 R 5 L (.ref o :: st) μ ↔ gc_W (gc_S d) cX7_add 7 2 R 8 L (gc_fv o 0 μ :: st) μ := us_getf dX7_add_5 gf_7_7 hk
theorem u41_8 {d : Nat} {R : gR} {μ : gM} {L : List Value} {st : List Value} {o : Nat} (hk : gc_kd o = 20) : gc_W (gc_S d) cX7_add 7 2 R 8 L (.ref o :: st) μ ↔ gc_W (gc_S d) cX7_add 7 2 R 9 L (.int (nI (gc_al o)) :: st) μ := us_alen dX7_add_8 hk
theorem u41_9 {d : Nat} {R : gR} {μ : gM} {L : List Value} {st : List Value} {x y : Int32}  : gc_W (gc_S d) cX7_add 7 2 R 9 L (.int y :: .int x :: st) μ ↔ if y ≤ x then gc_W (gc_S d) cX7_add 7 2 R 32 L st μ else gc_W (gc_S d) cX7_add 7 2 R 12 L st μ := us_icge dX7_add_9 rfl
theorem u41_12 {d : Nat} {R : gR} {μ : gM} {l1 : Value} {st : List Value} {x : Nat}  : gc_W (gc_S d) cX7_add 7 2 R 12 [.ref x, l1] st μ ↔ gc_W (gc_S d) cX7_add 7 2 R 13 [.ref x, l1] (.ref x :: st) μ := us_aload_n dX7_add_12 rfl
theorem u41_13 {d : Nat} {R : gR} {μ : gM} {L : List Value} {st : List Value} {o : Nat} (hk : gc_kd o = 7) : gc_W (gc_S d) cX7_add 7 2 R 13 L (.ref o :: st) μ ↔ gc_W (gc_S d) cX7_add 7 2 R 16 L (gc_fv o 0 μ :: st) μ := us_getf dX7_add_13 gf_7_7 hk
theorem u41_16 {d : Nat} {R : gR} {μ : gM} {l1 : Value} {st : List Value} {x : Nat}  : gc_W (gc_S d) cX7_add 7 2 R 16 [.ref x, l1] st μ ↔ gc_W (gc_S d) cX7_add 7 2 R 17 [.ref x, l1] (.ref x :: st) μ := us_aload_n dX7_add_16 rfl
theorem u41_17 {d : Nat} {R : gR} {μ : gM} {L : List Value} {st : List Value} {o : Nat} (hk : gc_kd o = 7) : gc_W (gc_S d) cX7_add 7 2 R 17 L (.ref o :: st) μ ↔ gc_W (gc_S d) cX7_add 7 2 R 20 L (gc_fv o 1 μ :: st) μ := us_getf dX7_add_17 gf_7_13 hk
theorem u41_20 {d : Nat} {R : gR} {μ : gM} {l0 : Value} {st : List Value} {x : Int32}  : gc_W (gc_S d) cX7_add 7 2 R 20 [l0, .int x] st μ ↔ gc_W (gc_S d) cX7_add 7 2 R 21 [l0, .int x] (.int x :: st) μ := us_iload_n dX7_add_20 rfl
theorem u41_21 {d : Nat} {R : gR} {μ : gM} {L : List Value} {st : List Value} {o : Nat} {i x : Int32} (hk : gc_kd o = 20) : gc_W (gc_S d) cX7_add 7 2 R 21 L (.int x :: .int i :: .ref o :: st) μ ↔ (vp_in i (gc_al o) ∧ gc_W (gc_S d) cX7_add 7 2 R 22 L st (gc_up μ o i.toNatClampNeg x)) := us_iast dX7_add_21 hk
theorem u41_22 {d : Nat} {R : gR} {μ : gM} {l1 : Value} {st : List Value} {x : Nat}  : gc_W (gc_S d) cX7_add 7 2 R 22 [.ref x, l1] st μ ↔ gc_W (gc_S d) cX7_add 7 2 R 23 [.ref x, l1] (.ref x :: st) μ := us_aload_n dX7_add_22 rfl
theorem u41_23 {d : Nat} {R : gR} {μ : gM} {L : List Value} {st : List Value} {x : Nat}  : gc_W (gc_S d) cX7_add 7 2 R 23 L (.ref x :: st) μ ↔ gc_W (gc_S d) cX7_add 7 2 R 24 L (.ref x :: .ref x :: st) μ := us_dup_r dX7_add_23
theorem u41_24 {d : Nat} {R : gR} {μ : gM} {L : List Value} {st : List Value} {o : Nat} (hk : gc_kd o = 7) : gc_W (gc_S d) cX7_add 7 2 R 24 L (.ref o :: st) μ ↔ gc_W (gc_S d) cX7_add 7 2 R 27 L (gc_fv o 1 μ :: st) μ := us_getf dX7_add_24 gf_7_13 hk
theorem u41_27 {d : Nat} {R : gR} {μ : gM} {L : List Value} {st : List Value}   : gc_W (gc_S d) cX7_add 7 2 R 27 L st μ ↔ gc_W (gc_S d) cX7_add 7 2 R 28 L (.int 1 :: st) μ := us_iconst dX7_add_27 ci_iconst_1
theorem u41_28 {d : Nat} {R : gR} {μ : gM} {L : List Value} {st : List Value} {x y : Int32}  : gc_W (gc_S d) cX7_add 7 2 R 28 L (.int y :: .int x :: st) μ ↔ gc_W (gc_S d) cX7_add 7 2 R 29 L (.int (x + y) :: st) μ := us_iadd dX7_add_28
theorem u41_29 {d : Nat} {R : gR} {μ : gM} {L : List Value} {st : List Value} {o : Nat} {x : Int32} (hk : gc_kd o = 7) (hj : gc_fk o 1 = 0) : gc_W (gc_S d) cX7_add 7 2 R 29 L (.int x :: .ref o :: st) μ ↔ gc_W (gc_S d) cX7_add 7 2 R 32 L st (gc_up μ o 1 x) := us_putf dX7_add_29 gf_7_13 hk hj rfl
theorem u41_32 {d : Nat} {R : gR} {μ : gM} {L : List Value}   : gc_W (gc_S d) cX7_add 7 2 R 32 L [] μ ↔ R none μ := us_vret dX7_add_32 rfl
theorem s41 {d : Nat} {R : gR} {μ : gM} {o : Nat} {a0 : Int32} : gc_S (d + 1) 41 [.ref o, .int a0] μ R ↔ gc_W (gc_S d) cX7_add 7 2 R 0 [.ref o, .int a0] [] μ := us_call (gm_41) rfl rfl
theorem dX5_folds_0 : decode cX5_folds 0 = .ok (.aload_n 1, 1) := by decide +kernel
theorem dX5_folds_1 : decode cX5_folds 1 = .ok (.getfield 7, 3) := by decide +kernel
theorem dX5_folds_4 : decode cX5_folds 4 = .ok (.bipush 12, 2) := by decide +kernel
theorem dX5_folds_6 : decode cX5_folds 6 = .ok (.invokevirtual 13, 3) := by decide +kernel
theorem dX5_folds_9 : decode cX5_folds 9 = .ok (.iload_n 2, 1) := by decide +kernel
theorem dX5_folds_10 : decode cX5_folds 10 = .ok (.aload_n 1, 1) := by decide +kernel
theorem dX5_folds_11 : decode cX5_folds 11 = .ok (.getfield 29, 3) := by decide +kernel
theorem dX5_folds_14 : decode cX5_folds 14 = .ok (.isub, 1) := by decide +kernel
theorem dX5_folds_15 : decode cX5_folds 15 = .ok (.ireturn, 1) := by decide +kernel
theorem u42_0 {d : Nat} {R : gR} {μ : gM} {l0 l2 : Value} {st : List Value} {x : Nat}  : gc_W (gc_S d) cX5_folds 5 0 R 0 [l0, .ref x, l2] st μ ↔ gc_W (gc_S d) cX5_folds 5 0 R 1 [l0, .ref x, l2] (.ref x :: st) μ := us_aload_n dX5_folds_0 rfl
theorem u42_1 {d : Nat} {R : gR} {μ : gM} {L : List Value} {st : List Value} {o : Nat} (hk : gc_kd o = 9) : gc_W (gc_S d) cX5_folds 5 0 R 1 L (.ref o :: st) μ ↔ gc_W (gc_S d) cX5_folds 5 0 R 4 L (gc_fv o 0 μ :: st) μ := us_getf dX5_folds_1 gf_5_7 hk
theorem u42_4 {d : Nat} {R : gR} {μ : gM} {L : List Value} {st : List Value}   : gc_W (gc_S d) cX5_folds 5 0 R 4 L st μ ↔ gc_W (gc_S d) cX5_folds 5 0 R 6 L (.int 12 :: st) μ := us_bipush dX5_folds_4 ci_bipush_12
theorem u42_6 {d : Nat} {R : gR} {μ : gM} {L : List Value} {o : Nat} {a0 : Int32} (hk : gc_kd o = 7) : gc_W (gc_S d) cX5_folds 5 0 R 6 L [.int a0, .ref o] μ ↔ gc_S d 41 [.ref o, .int a0] μ (fun v μ' => gc_W (gc_S d) cX5_folds 5 0 R 9 L (v.toList ++ []) μ') := us_virt dX5_folds_6 gn_5_13 gc_5_13_7 hk rfl rfl rfl rfl rfl
theorem u42_9 {d : Nat} {R : gR} {μ : gM} {l0 l1 : Value} {st : List Value} {x : Int32}  : gc_W (gc_S d) cX5_folds 5 0 R 9 [l0, l1, .int x] st μ ↔ gc_W (gc_S d) cX5_folds 5 0 R 10 [l0, l1, .int x] (.int x :: st) μ := us_iload_n dX5_folds_9 rfl
theorem u42_10 {d : Nat} {R : gR} {μ : gM} {l0 l2 : Value} {st : List Value} {x : Nat}  : gc_W (gc_S d) cX5_folds 5 0 R 10 [l0, .ref x, l2] st μ ↔ gc_W (gc_S d) cX5_folds 5 0 R 11 [l0, .ref x, l2] (.ref x :: st) μ := us_aload_n dX5_folds_10 rfl
theorem u42_11 {d : Nat} {R : gR} {μ : gM} {L : List Value} {st : List Value} {o : Nat} (hk : gc_kd o = 9) : gc_W (gc_S d) cX5_folds 5 0 R 11 L (.ref o :: st) μ ↔ gc_W (gc_S d) cX5_folds 5 0 R 14 L (gc_fv o 2 μ :: st) μ := us_getf dX5_folds_11 gf_5_29 hk
theorem u42_14 {d : Nat} {R : gR} {μ : gM} {L : List Value} {st : List Value} {x y : Int32}  : gc_W (gc_S d) cX5_folds 5 0 R 14 L (.int y :: .int x :: st) μ ↔ gc_W (gc_S d) cX5_folds 5 0 R 15 L (.int (x - y) :: st) μ := us_isub dX5_folds_14
theorem u42_15 {d : Nat} {R : gR} {μ : gM} {L : List Value} {v : Int32}  : gc_W (gc_S d) cX5_folds 5 0 R 15 L [.int v] μ ↔ R (some (.int v)) μ := us_iret dX5_folds_15 rfl
theorem s42 {d : Nat} {R : gR} {μ : gM} {o : Nat} {a1 : Int32} {a0 : Nat} : gc_S (d + 1) 42 [.ref o, .ref a0, .int a1] μ R ↔ gc_W (gc_S d) cX5_folds 5 0 R 0 [.ref o, .ref a0, .int a1] [] μ := us_call (gm_42) rfl rfl
theorem dX3_folds_0 : decode cX3_folds 0 = .ok (.aload_n 1, 1) := by decide +kernel
theorem dX3_folds_1 : decode cX3_folds 1 = .ok (.getfield 11, 3) := by decide +kernel
theorem dX3_folds_4 : decode cX3_folds 4 = .ok (.bipush 40, 2) := by decide +kernel
theorem dX3_folds_6 : decode cX3_folds 6 = .ok (.invokevirtual 17, 3) := by decide +kernel
theorem dX3_folds_9 : decode cX3_folds 9 = .ok (.aload_n 0, 1) := by decide +kernel
theorem dX3_folds_10 : decode cX3_folds 10 = .ok (.aload_n 1, 1) := by decide +kernel
theorem dX3_folds_11 : decode cX3_folds 11 = .ok (.iload_n 2, 1) := by decide +kernel
theorem dX3_folds_12 : decode cX3_folds 12 = .ok (.invokespecial 23, 3) := by decide +kernel
theorem dX3_folds_15 : decode cX3_folds 15 = .ok (.ineg, 1) := by decide +kernel
theorem dX3_folds_16 : decode cX3_folds 16 = .ok (.ireturn, 1) := by decide +kernel
theorem u43_0 {d : Nat} {R : gR} {μ : gM} {l0 l2 : Value} {st : List Value} {x : Nat}  : gc_W (gc_S d) cX3_folds 3 0 R 0 [l0, .ref x, l2] st μ ↔ gc_W (gc_S d) cX3_folds 3 0 R 1 [l0, .ref x, l2] (.ref x :: st) μ := us_aload_n dX3_folds_0 rfl
theorem u43_1 {d : Nat} {R : gR} {μ : gM} {L : List Value} {st : List Value} {o : Nat} (hk : gc_kd o = 9) : gc_W (gc_S d) cX3_folds 3 0 R 1 L (.ref o :: st) μ ↔ gc_W (gc_S d) cX3_folds 3 0 R 4 L (gc_fv o 0 μ :: st) μ := us_getf dX3_folds_1 gf_3_11 hk
theorem u43_4 {d : Nat} {R : gR} {μ : gM} {L : List Value} {st : List Value}   : gc_W (gc_S d) cX3_folds 3 0 R 4 L st μ ↔ gc_W (gc_S d) cX3_folds 3 0 R 6 L (.int 40 :: st) μ := us_bipush dX3_folds_4 ci_bipush_40
theorem u43_6 {d : Nat} {R : gR} {μ : gM} {L : List Value} {o : Nat} {a0 : Int32} (hk : gc_kd o = 7) : gc_W (gc_S d) cX3_folds 3 0 R 6 L [.int a0, .ref o] μ ↔ gc_S d 41 [.ref o, .int a0] μ (fun v μ' => gc_W (gc_S d) cX3_folds 3 0 R 9 L (v.toList ++ []) μ') := us_virt dX3_folds_6 gn_3_17 gc_3_17_7 hk rfl rfl rfl rfl rfl
theorem u43_9 {d : Nat} {R : gR} {μ : gM} {l1 l2 : Value} {st : List Value} {x : Nat}  : gc_W (gc_S d) cX3_folds 3 0 R 9 [.ref x, l1, l2] st μ ↔ gc_W (gc_S d) cX3_folds 3 0 R 10 [.ref x, l1, l2] (.ref x :: st) μ := us_aload_n dX3_folds_9 rfl
theorem u43_10 {d : Nat} {R : gR} {μ : gM} {l0 l2 : Value} {st : List Value} {x : Nat}  : gc_W (gc_S d) cX3_folds 3 0 R 10 [l0, .ref x, l2] st μ ↔ gc_W (gc_S d) cX3_folds 3 0 R 11 [l0, .ref x, l2] (.ref x :: st) μ := us_aload_n dX3_folds_10 rfl
theorem u43_11 {d : Nat} {R : gR} {μ : gM} {l0 l1 : Value} {st : List Value} {x : Int32}  : gc_W (gc_S d) cX3_folds 3 0 R 11 [l0, l1, .int x] st μ ↔ gc_W (gc_S d) cX3_folds 3 0 R 12 [l0, l1, .int x] (.int x :: st) μ := us_iload_n dX3_folds_11 rfl
theorem u43_12 {d : Nat} {R : gR} {μ : gM} {L : List Value} {o kd : Nat} {a1 : Int32} {a0 : Nat} (hk : gc_kd o = kd) (hkd : Nat.blt kd 13 = true) : gc_W (gc_S d) cX3_folds 3 0 R 12 L [.int a1, .ref a0, .ref o] μ ↔ gc_S d 42 [.ref o, .ref a0, .int a1] μ (fun v μ' => gc_W (gc_S d) cX3_folds 3 0 R 15 L (v.toList ++ []) μ') := us_spec dX3_folds_12 gn_3_23 gc_3_23_98 hk hkd rfl rfl rfl rfl
theorem u43_15 {d : Nat} {R : gR} {μ : gM} {L : List Value} {st : List Value} {x : Int32}  : gc_W (gc_S d) cX3_folds 3 0 R 15 L (.int x :: st) μ ↔ gc_W (gc_S d) cX3_folds 3 0 R 16 L (.int (-x) :: st) μ := us_ineg dX3_folds_15
theorem u43_16 {d : Nat} {R : gR} {μ : gM} {L : List Value} {v : Int32}  : gc_W (gc_S d) cX3_folds 3 0 R 16 L [.int v] μ ↔ R (some (.int v)) μ := us_iret dX3_folds_16 rfl
theorem s43 {d : Nat} {R : gR} {μ : gM} {o : Nat} {a1 : Int32} {a0 : Nat} : gc_S (d + 1) 43 [.ref o, .ref a0, .int a1] μ R ↔ gc_W (gc_S d) cX3_folds 3 0 R 0 [.ref o, .ref a0, .int a1] [] μ := us_call (gm_43) rfl rfl
theorem dX1_folds_0 : decode cX1_folds 0 = .ok (.aload_n 1, 1) := by decide +kernel
theorem dX1_folds_1 : decode cX1_folds 1 = .ok (.getfield 19, 3) := by decide +kernel
theorem dX1_folds_4 : decode cX1_folds 4 = .ok (.bipush 70, 2) := by decide +kernel
theorem dX1_folds_6 : decode cX1_folds 6 = .ok (.invokevirtual 25, 3) := by decide +kernel
theorem dX1_folds_9 : decode cX1_folds 9 = .ok (.aload_n 0, 1) := by decide +kernel
theorem dX1_folds_10 : decode cX1_folds 10 = .ok (.aload_n 1, 1) := by decide +kernel
theorem dX1_folds_11 : decode cX1_folds 11 = .ok (.iload_n 2, 1) := by decide +kernel
theorem dX1_folds_12 : decode cX1_folds 12 = .ok (.invokespecial 31, 3) := by decide +kernel
theorem dX1_folds_15 : decode cX1_folds 15 = .ok (.aload_n 1, 1) := by decide +kernel
theorem dX1_folds_16 : decode cX1_folds 16 = .ok (.getfield 35, 3) := by decide +kernel
theorem dX1_folds_19 : decode cX1_folds 19 = .ok (.ixor, 1) := by decide +kernel
theorem dX1_folds_20 : decode cX1_folds 20 = .ok (.ireturn, 1) := by decide +kernel
theorem u44_0 {d : Nat} {R : gR} {μ : gM} {l0 l2 : Value} {st : List Value} {x : Nat}  : gc_W (gc_S d) cX1_folds 1 0 R 0 [l0, .ref x, l2] st μ ↔ gc_W (gc_S d) cX1_folds 1 0 R 1 [l0, .ref x, l2] (.ref x :: st) μ := us_aload_n dX1_folds_0 rfl
theorem u44_1 {d : Nat} {R : gR} {μ : gM} {L : List Value} {st : List Value} {o : Nat} (hk : gc_kd o = 9) : gc_W (gc_S d) cX1_folds 1 0 R 1 L (.ref o :: st) μ ↔ gc_W (gc_S d) cX1_folds 1 0 R 4 L (gc_fv o 0 μ :: st) μ := us_getf dX1_folds_1 gf_1_19 hk
theorem u44_4 {d : Nat} {R : gR} {μ : gM} {L : List Value} {st : List Value}   : gc_W (gc_S d) cX1_folds 1 0 R 4 L st μ ↔ gc_W (gc_S d) cX1_folds 1 0 R 6 L (.int 70 :: st) μ := us_bipush dX1_folds_4 ci_bipush_70
theorem u44_6 {d : Nat} {R : gR} {μ : gM} {L : List Value} {o : Nat} {a0 : Int32} (hk : gc_kd o = 7) : gc_W (gc_S d) cX1_folds 1 0 R 6 L [.int a0, .ref o] μ ↔ gc_S d 41 [.ref o, .int a0] μ (fun v μ' => gc_W (gc_S d) cX1_folds 1 0 R 9 L (v.toList ++ []) μ') := us_virt dX1_folds_6 gn_1_25 gc_1_25_7 hk rfl rfl rfl rfl rfl
theorem u44_9 {d : Nat} {R : gR} {μ : gM} {l1 l2 : Value} {st : List Value} {x : Nat}  : gc_W (gc_S d) cX1_folds 1 0 R 9 [.ref x, l1, l2] st μ ↔ gc_W (gc_S d) cX1_folds 1 0 R 10 [.ref x, l1, l2] (.ref x :: st) μ := us_aload_n dX1_folds_9 rfl
theorem u44_10 {d : Nat} {R : gR} {μ : gM} {l0 l2 : Value} {st : List Value} {x : Nat}  : gc_W (gc_S d) cX1_folds 1 0 R 10 [l0, .ref x, l2] st μ ↔ gc_W (gc_S d) cX1_folds 1 0 R 11 [l0, .ref x, l2] (.ref x :: st) μ := us_aload_n dX1_folds_10 rfl
theorem u44_11 {d : Nat} {R : gR} {μ : gM} {l0 l1 : Value} {st : List Value} {x : Int32}  : gc_W (gc_S d) cX1_folds 1 0 R 11 [l0, l1, .int x] st μ ↔ gc_W (gc_S d) cX1_folds 1 0 R 12 [l0, l1, .int x] (.int x :: st) μ := us_iload_n dX1_folds_11 rfl
theorem u44_12 {d : Nat} {R : gR} {μ : gM} {L : List Value} {o kd : Nat} {a1 : Int32} {a0 : Nat} (hk : gc_kd o = kd) (hkd : Nat.blt kd 13 = true) : gc_W (gc_S d) cX1_folds 1 0 R 12 L [.int a1, .ref a0, .ref o] μ ↔ gc_S d 43 [.ref o, .ref a0, .int a1] μ (fun v μ' => gc_W (gc_S d) cX1_folds 1 0 R 15 L (v.toList ++ []) μ') := us_spec dX1_folds_12 gn_1_31 gc_1_31_98 hk hkd rfl rfl rfl rfl
theorem u44_15 {d : Nat} {R : gR} {μ : gM} {l0 l2 : Value} {st : List Value} {x : Nat}  : gc_W (gc_S d) cX1_folds 1 0 R 15 [l0, .ref x, l2] st μ ↔ gc_W (gc_S d) cX1_folds 1 0 R 16 [l0, .ref x, l2] (.ref x :: st) μ := us_aload_n dX1_folds_15 rfl
theorem u44_16 {d : Nat} {R : gR} {μ : gM} {L : List Value} {st : List Value} {o : Nat} (hk : gc_kd o = 9) : gc_W (gc_S d) cX1_folds 1 0 R 16 L (.ref o :: st) μ ↔ gc_W (gc_S d) cX1_folds 1 0 R 19 L (gc_fv o 1 μ :: st) μ := us_getf dX1_folds_16 gf_1_35 hk
theorem u44_19 {d : Nat} {R : gR} {μ : gM} {L : List Value} {st : List Value} {x y : Int32}  : gc_W (gc_S d) cX1_folds 1 0 R 19 L (.int y :: .int x :: st) μ ↔ gc_W (gc_S d) cX1_folds 1 0 R 20 L (.int (x ^^^ y) :: st) μ := us_ixor dX1_folds_19
theorem u44_20 {d : Nat} {R : gR} {μ : gM} {L : List Value} {v : Int32}  : gc_W (gc_S d) cX1_folds 1 0 R 20 L [.int v] μ ↔ R (some (.int v)) μ := us_iret dX1_folds_20 rfl
theorem s44 {d : Nat} {R : gR} {μ : gM} {o : Nat} {a1 : Int32} {a0 : Nat} : gc_S (d + 1) 44 [.ref o, .ref a0, .int a1] μ R ↔ gc_W (gc_S d) cX1_folds 1 0 R 0 [.ref o, .ref a0, .int a1] [] μ := us_call (gm_44) rfl rfl
theorem dX5_sighs_0 : decode cX5_sighs 0 = .ok (.aload_n 1, 1) := by decide +kernel
theorem dX5_sighs_1 : decode cX5_sighs 1 = .ok (.getfield 7, 3) := by decide +kernel
theorem dX5_sighs_4 : decode cX5_sighs 4 = .ok (.bipush 10, 2) := by decide +kernel
theorem dX5_sighs_6 : decode cX5_sighs 6 = .ok (.invokevirtual 13, 3) := by decide +kernel
theorem dX5_sighs_9 : decode cX5_sighs 9 = .ok (.iload_n 2, 1) := by decide +kernel
theorem dX5_sighs_10 : decode cX5_sighs 10 = .ok (.aload_n 1, 1) := by decide +kernel
theorem dX5_sighs_11 : decode cX5_sighs 11 = .ok (.getfield 19, 3) := by decide +kernel
theorem dX5_sighs_14 : decode cX5_sighs 14 = .ok (.iadd, 1) := by decide +kernel
theorem dX5_sighs_15 : decode cX5_sighs 15 = .ok (.ireturn, 1) := by decide +kernel
theorem u45_0 {d : Nat} {R : gR} {μ : gM} {l0 l2 : Value} {st : List Value} {x : Nat}  : gc_W (gc_S d) cX5_sighs 5 0 R 0 [l0, .ref x, l2] st μ ↔ gc_W (gc_S d) cX5_sighs 5 0 R 1 [l0, .ref x, l2] (.ref x :: st) μ := us_aload_n dX5_sighs_0 rfl
theorem u45_1 {d : Nat} {R : gR} {μ : gM} {L : List Value} {st : List Value} {o : Nat} (hk : gc_kd o = 9) : gc_W (gc_S d) cX5_sighs 5 0 R 1 L (.ref o :: st) μ ↔ gc_W (gc_S d) cX5_sighs 5 0 R 4 L (gc_fv o 0 μ :: st) μ := us_getf dX5_sighs_1 gf_5_7 hk
theorem u45_4 {d : Nat} {R : gR} {μ : gM} {L : List Value} {st : List Value}   : gc_W (gc_S d) cX5_sighs 5 0 R 4 L st μ ↔ gc_W (gc_S d) cX5_sighs 5 0 R 6 L (.int 10 :: st) μ := us_bipush dX5_sighs_4 ci_bipush_10
theorem u45_6 {d : Nat} {R : gR} {μ : gM} {L : List Value} {o : Nat} {a0 : Int32} (hk : gc_kd o = 7) : gc_W (gc_S d) cX5_sighs 5 0 R 6 L [.int a0, .ref o] μ ↔ gc_S d 41 [.ref o, .int a0] μ (fun v μ' => gc_W (gc_S d) cX5_sighs 5 0 R 9 L (v.toList ++ []) μ') := us_virt dX5_sighs_6 gn_5_13 gc_5_13_7 hk rfl rfl rfl rfl rfl
theorem u45_9 {d : Nat} {R : gR} {μ : gM} {l0 l1 : Value} {st : List Value} {x : Int32}  : gc_W (gc_S d) cX5_sighs 5 0 R 9 [l0, l1, .int x] st μ ↔ gc_W (gc_S d) cX5_sighs 5 0 R 10 [l0, l1, .int x] (.int x :: st) μ := us_iload_n dX5_sighs_9 rfl
theorem u45_10 {d : Nat} {R : gR} {μ : gM} {l0 l2 : Value} {st : List Value} {x : Nat}  : gc_W (gc_S d) cX5_sighs 5 0 R 10 [l0, .ref x, l2] st μ ↔ gc_W (gc_S d) cX5_sighs 5 0 R 11 [l0, .ref x, l2] (.ref x :: st) μ := us_aload_n dX5_sighs_10 rfl
theorem u45_11 {d : Nat} {R : gR} {μ : gM} {L : List Value} {st : List Value} {o : Nat} (hk : gc_kd o = 9) : gc_W (gc_S d) cX5_sighs 5 0 R 11 L (.ref o :: st) μ ↔ gc_W (gc_S d) cX5_sighs 5 0 R 14 L (gc_fv o 1 μ :: st) μ := us_getf dX5_sighs_11 gf_5_19 hk
theorem u45_14 {d : Nat} {R : gR} {μ : gM} {L : List Value} {st : List Value} {x y : Int32}  : gc_W (gc_S d) cX5_sighs 5 0 R 14 L (.int y :: .int x :: st) μ ↔ gc_W (gc_S d) cX5_sighs 5 0 R 15 L (.int (x + y) :: st) μ := us_iadd dX5_sighs_14
theorem u45_15 {d : Nat} {R : gR} {μ : gM} {L : List Value} {v : Int32}  : gc_W (gc_S d) cX5_sighs 5 0 R 15 L [.int v] μ ↔ R (some (.int v)) μ := us_iret dX5_sighs_15 rfl
theorem s45 {d : Nat} {R : gR} {μ : gM} {o : Nat} {a1 : Int32} {a0 : Nat} : gc_S (d + 1) 45 [.ref o, .ref a0, .int a1] μ R ↔ gc_W (gc_S d) cX5_sighs 5 0 R 0 [.ref o, .ref a0, .int a1] [] μ := us_call (gm_45) rfl rfl
theorem dX10_sighs_0 : decode cX10_sighs 0 = .ok (.aload_n 1, 1) := by decide +kernel
theorem dX10_sighs_1 : decode cX10_sighs 1 = .ok (.getfield 11, 3) := by decide +kernel
theorem dX10_sighs_4 : decode cX10_sighs 4 = .ok (.bipush 20, 2) := by decide +kernel
theorem dX10_sighs_6 : decode cX10_sighs 6 = .ok (.invokevirtual 17, 3) := by decide +kernel
theorem dX10_sighs_9 : decode cX10_sighs 9 = .ok (.aload_n 0, 1) := by decide +kernel
theorem dX10_sighs_10 : decode cX10_sighs 10 = .ok (.aload_n 1, 1) := by decide +kernel
theorem dX10_sighs_11 : decode cX10_sighs 11 = .ok (.iload_n 2, 1) := by decide +kernel
theorem dX10_sighs_12 : decode cX10_sighs 12 = .ok (.invokespecial 23, 3) := by decide +kernel
theorem dX10_sighs_15 : decode cX10_sighs 15 = .ok (.iconst 3, 1) := by decide +kernel
theorem dX10_sighs_16 : decode cX10_sighs 16 = .ok (.imul, 1) := by decide +kernel
theorem dX10_sighs_17 : decode cX10_sighs 17 = .ok (.ireturn, 1) := by decide +kernel
theorem u46_0 {d : Nat} {R : gR} {μ : gM} {l0 l2 : Value} {st : List Value} {x : Nat}  : gc_W (gc_S d) cX10_sighs 10 0 R 0 [l0, .ref x, l2] st μ ↔ gc_W (gc_S d) cX10_sighs 10 0 R 1 [l0, .ref x, l2] (.ref x :: st) μ := us_aload_n dX10_sighs_0 rfl
theorem u46_1 {d : Nat} {R : gR} {μ : gM} {L : List Value} {st : List Value} {o : Nat} (hk : gc_kd o = 9) : gc_W (gc_S d) cX10_sighs 10 0 R 1 L (.ref o :: st) μ ↔ gc_W (gc_S d) cX10_sighs 10 0 R 4 L (gc_fv o 0 μ :: st) μ := us_getf dX10_sighs_1 gf_10_11 hk
theorem u46_4 {d : Nat} {R : gR} {μ : gM} {L : List Value} {st : List Value}   : gc_W (gc_S d) cX10_sighs 10 0 R 4 L st μ ↔ gc_W (gc_S d) cX10_sighs 10 0 R 6 L (.int 20 :: st) μ := us_bipush dX10_sighs_4 ci_bipush_20
theorem u46_6 {d : Nat} {R : gR} {μ : gM} {L : List Value} {o : Nat} {a0 : Int32} (hk : gc_kd o = 7) : gc_W (gc_S d) cX10_sighs 10 0 R 6 L [.int a0, .ref o] μ ↔ gc_S d 41 [.ref o, .int a0] μ (fun v μ' => gc_W (gc_S d) cX10_sighs 10 0 R 9 L (v.toList ++ []) μ') := us_virt dX10_sighs_6 gn_10_17 gc_10_17_7 hk rfl rfl rfl rfl rfl
theorem u46_9 {d : Nat} {R : gR} {μ : gM} {l1 l2 : Value} {st : List Value} {x : Nat}  : gc_W (gc_S d) cX10_sighs 10 0 R 9 [.ref x, l1, l2] st μ ↔ gc_W (gc_S d) cX10_sighs 10 0 R 10 [.ref x, l1, l2] (.ref x :: st) μ := us_aload_n dX10_sighs_9 rfl
theorem u46_10 {d : Nat} {R : gR} {μ : gM} {l0 l2 : Value} {st : List Value} {x : Nat}  : gc_W (gc_S d) cX10_sighs 10 0 R 10 [l0, .ref x, l2] st μ ↔ gc_W (gc_S d) cX10_sighs 10 0 R 11 [l0, .ref x, l2] (.ref x :: st) μ := us_aload_n dX10_sighs_10 rfl
theorem u46_11 {d : Nat} {R : gR} {μ : gM} {l0 l1 : Value} {st : List Value} {x : Int32}  : gc_W (gc_S d) cX10_sighs 10 0 R 11 [l0, l1, .int x] st μ ↔ gc_W (gc_S d) cX10_sighs 10 0 R 12 [l0, l1, .int x] (.int x :: st) μ := us_iload_n dX10_sighs_11 rfl
theorem u46_12 {d : Nat} {R : gR} {μ : gM} {L : List Value} {o kd : Nat} {a1 : Int32} {a0 : Nat} (hk : gc_kd o = kd) (hkd : Nat.blt kd 13 = true) : gc_W (gc_S d) cX10_sighs 10 0 R 12 L [.int a1, .ref a0, .ref o] μ ↔ gc_S d 45 [.ref o, .ref a0, .int a1] μ (fun v μ' => gc_W (gc_S d) cX10_sighs 10 0 R 15 L (v.toList ++ []) μ') := us_spec dX10_sighs_12 gn_10_23 gc_10_23_98 hk hkd rfl rfl rfl rfl
theorem u46_15 {d : Nat} {R : gR} {μ : gM} {L : List Value} {st : List Value}   : gc_W (gc_S d) cX10_sighs 10 0 R 15 L st μ ↔ gc_W (gc_S d) cX10_sighs 10 0 R 16 L (.int 3 :: st) μ := us_iconst dX10_sighs_15 ci_iconst_3
theorem u46_16 {d : Nat} {R : gR} {μ : gM} {L : List Value} {st : List Value} {x y : Int32}  : gc_W (gc_S d) cX10_sighs 10 0 R 16 L (.int y :: .int x :: st) μ ↔ gc_W (gc_S d) cX10_sighs 10 0 R 17 L (.int (x * y) :: st) μ := us_imul dX10_sighs_16
theorem u46_17 {d : Nat} {R : gR} {μ : gM} {L : List Value} {v : Int32}  : gc_W (gc_S d) cX10_sighs 10 0 R 17 L [.int v] μ ↔ R (some (.int v)) μ := us_iret dX10_sighs_17 rfl
theorem s46 {d : Nat} {R : gR} {μ : gM} {o : Nat} {a1 : Int32} {a0 : Nat} : gc_S (d + 1) 46 [.ref o, .ref a0, .int a1] μ R ↔ gc_W (gc_S d) cX10_sighs 10 0 R 0 [.ref o, .ref a0, .int a1] [] μ := us_call (gm_46) rfl rfl
theorem dX5_blows_0 : decode cX5_blows 0 = .ok (.aload_n 1, 1) := by decide +kernel
theorem dX5_blows_1 : decode cX5_blows 1 = .ok (.getfield 7, 3) := by decide +kernel
theorem dX5_blows_4 : decode cX5_blows 4 = .ok (.bipush 11, 2) := by decide +kernel
theorem dX5_blows_6 : decode cX5_blows 6 = .ok (.invokevirtual 13, 3) := by decide +kernel
theorem dX5_blows_9 : decode cX5_blows 9 = .ok (.aload_n 0, 1) := by decide +kernel
theorem dX5_blows_10 : decode cX5_blows 10 = .ok (.aload_n 1, 1) := by decide +kernel
theorem dX5_blows_11 : decode cX5_blows 11 = .ok (.iload_n 2, 1) := by decide +kernel
theorem dX5_blows_12 : decode cX5_blows 12 = .ok (.invokevirtual 23, 3) := by decide +kernel
theorem dX5_blows_15 : decode cX5_blows 15 = .ok (.iconst 2, 1) := by decide +kernel
theorem dX5_blows_16 : decode cX5_blows 16 = .ok (.imul, 1) := by decide +kernel
theorem dX5_blows_17 : decode cX5_blows 17 = .ok (.ireturn, 1) := by decide +kernel
theorem u47_0 {d : Nat} {R : gR} {μ : gM} {l0 l2 : Value} {st : List Value} {x : Nat}  : gc_W (gc_S d) cX5_blows 5 0 R 0 [l0, .ref x, l2] st μ ↔ gc_W (gc_S d) cX5_blows 5 0 R 1 [l0, .ref x, l2] (.ref x :: st) μ := us_aload_n dX5_blows_0 rfl
theorem u47_1 {d : Nat} {R : gR} {μ : gM} {L : List Value} {st : List Value} {o : Nat} (hk : gc_kd o = 9) : gc_W (gc_S d) cX5_blows 5 0 R 1 L (.ref o :: st) μ ↔ gc_W (gc_S d) cX5_blows 5 0 R 4 L (gc_fv o 0 μ :: st) μ := us_getf dX5_blows_1 gf_5_7 hk
theorem u47_4 {d : Nat} {R : gR} {μ : gM} {L : List Value} {st : List Value}   : gc_W (gc_S d) cX5_blows 5 0 R 4 L st μ ↔ gc_W (gc_S d) cX5_blows 5 0 R 6 L (.int 11 :: st) μ := us_bipush dX5_blows_4 ci_bipush_11
theorem u47_6 {d : Nat} {R : gR} {μ : gM} {L : List Value} {o : Nat} {a0 : Int32} (hk : gc_kd o = 7) : gc_W (gc_S d) cX5_blows 5 0 R 6 L [.int a0, .ref o] μ ↔ gc_S d 41 [.ref o, .int a0] μ (fun v μ' => gc_W (gc_S d) cX5_blows 5 0 R 9 L (v.toList ++ []) μ') := us_virt dX5_blows_6 gn_5_13 gc_5_13_7 hk rfl rfl rfl rfl rfl
theorem u47_9 {d : Nat} {R : gR} {μ : gM} {l1 l2 : Value} {st : List Value} {x : Nat}  : gc_W (gc_S d) cX5_blows 5 0 R 9 [.ref x, l1, l2] st μ ↔ gc_W (gc_S d) cX5_blows 5 0 R 10 [.ref x, l1, l2] (.ref x :: st) μ := us_aload_n dX5_blows_9 rfl
theorem u47_10 {d : Nat} {R : gR} {μ : gM} {l0 l2 : Value} {st : List Value} {x : Nat}  : gc_W (gc_S d) cX5_blows 5 0 R 10 [l0, .ref x, l2] st μ ↔ gc_W (gc_S d) cX5_blows 5 0 R 11 [l0, .ref x, l2] (.ref x :: st) μ := us_aload_n dX5_blows_10 rfl
theorem u47_11 {d : Nat} {R : gR} {μ : gM} {l0 l1 : Value} {st : List Value} {x : Int32}  : gc_W (gc_S d) cX5_blows 5 0 R 11 [l0, l1, .int x] st μ ↔ gc_W (gc_S d) cX5_blows 5 0 R 12 [l0, l1, .int x] (.int x :: st) μ := us_iload_n dX5_blows_11 rfl
theorem u47_12_1 {d : Nat} {R : gR} {μ : gM} {L : List Value} {o : Nat} {a1 : Int32} {a0 : Nat} (hk : gc_kd o = 1) : gc_W (gc_S d) cX5_blows 5 0 R 12 L [.int a1, .ref a0, .ref o] μ ↔ gc_S d 45 [.ref o, .ref a0, .int a1] μ (fun v μ' => gc_W (gc_S d) cX5_blows 5 0 R 15 L (v.toList ++ []) μ') := us_virt dX5_blows_12 gn_5_23 gc_5_23_1 hk rfl rfl rfl rfl rfl
theorem u47_12_3 {d : Nat} {R : gR} {μ : gM} {L : List Value} {o : Nat} {a1 : Int32} {a0 : Nat} (hk : gc_kd o = 3) : gc_W (gc_S d) cX5_blows 5 0 R 12 L [.int a1, .ref a0, .ref o] μ ↔ gc_S d 45 [.ref o, .ref a0, .int a1] μ (fun v μ' => gc_W (gc_S d) cX5_blows 5 0 R 15 L (v.toList ++ []) μ') := us_virt dX5_blows_12 gn_5_23 gc_5_23_3 hk rfl rfl rfl rfl rfl
theorem u47_12_4 {d : Nat} {R : gR} {μ : gM} {L : List Value} {o : Nat} {a1 : Int32} {a0 : Nat} (hk : gc_kd o = 4) : gc_W (gc_S d) cX5_blows 5 0 R 12 L [.int a1, .ref a0, .ref o] μ ↔ gc_S d 45 [.ref o, .ref a0, .int a1] μ (fun v μ' => gc_W (gc_S d) cX5_blows 5 0 R 15 L (v.toList ++ []) μ') := us_virt dX5_blows_12 gn_5_23 gc_5_23_4 hk rfl rfl rfl rfl rfl
theorem u47_12_5 {d : Nat} {R : gR} {μ : gM} {L : List Value} {o : Nat} {a1 : Int32} {a0 : Nat} (hk : gc_kd o = 5) : gc_W (gc_S d) cX5_blows 5 0 R 12 L [.int a1, .ref a0, .ref o] μ ↔ gc_S d 45 [.ref o, .ref a0, .int a1] μ (fun v μ' => gc_W (gc_S d) cX5_blows 5 0 R 15 L (v.toList ++ []) μ') := us_virt dX5_blows_12 gn_5_23 gc_5_23_5 hk rfl rfl rfl rfl rfl
theorem u47_12_6 {d : Nat} {R : gR} {μ : gM} {L : List Value} {o : Nat} {a1 : Int32} {a0 : Nat} (hk : gc_kd o = 6) : gc_W (gc_S d) cX5_blows 5 0 R 12 L [.int a1, .ref a0, .ref o] μ ↔ gc_S d 46 [.ref o, .ref a0, .int a1] μ (fun v μ' => gc_W (gc_S d) cX5_blows 5 0 R 15 L (v.toList ++ []) μ') := us_virt dX5_blows_12 gn_5_23 gc_5_23_6 hk rfl rfl rfl rfl rfl
theorem u47_12_8 {d : Nat} {R : gR} {μ : gM} {L : List Value} {o : Nat} {a1 : Int32} {a0 : Nat} (hk : gc_kd o = 8) : gc_W (gc_S d) cX5_blows 5 0 R 12 L [.int a1, .ref a0, .ref o] μ ↔ gc_S d 45 [.ref o, .ref a0, .int a1] μ (fun v μ' => gc_W (gc_S d) cX5_blows 5 0 R 15 L (v.toList ++ []) μ') := us_virt dX5_blows_12 gn_5_23 gc_5_23_8 hk rfl rfl rfl rfl rfl
theorem u47_12_10 {d : Nat} {R : gR} {μ : gM} {L : List Value} {o : Nat} {a1 : Int32} {a0 : Nat} (hk : gc_kd o = 10) : gc_W (gc_S d) cX5_blows 5 0 R 12 L [.int a1, .ref a0, .ref o] μ ↔ gc_S d 46 [.ref o, .ref a0, .int a1] μ (fun v μ' => gc_W (gc_S d) cX5_blows 5 0 R 15 L (v.toList ++ []) μ') := us_virt dX5_blows_12 gn_5_23 gc_5_23_10 hk rfl rfl rfl rfl rfl
theorem u47_15 {d : Nat} {R : gR} {μ : gM} {L : List Value} {st : List Value}   : gc_W (gc_S d) cX5_blows 5 0 R 15 L st μ ↔ gc_W (gc_S d) cX5_blows 5 0 R 16 L (.int 2 :: st) μ := us_iconst dX5_blows_15 ci_iconst_2
theorem u47_16 {d : Nat} {R : gR} {μ : gM} {L : List Value} {st : List Value} {x y : Int32}  : gc_W (gc_S d) cX5_blows 5 0 R 16 L (.int y :: .int x :: st) μ ↔ gc_W (gc_S d) cX5_blows 5 0 R 17 L (.int (x * y) :: st) μ := us_imul dX5_blows_16
theorem u47_17 {d : Nat} {R : gR} {μ : gM} {L : List Value} {v : Int32}  : gc_W (gc_S d) cX5_blows 5 0 R 17 L [.int v] μ ↔ R (some (.int v)) μ := us_iret dX5_blows_17 rfl
theorem s47 {d : Nat} {R : gR} {μ : gM} {o : Nat} {a1 : Int32} {a0 : Nat} : gc_S (d + 1) 47 [.ref o, .ref a0, .int a1] μ R ↔ gc_W (gc_S d) cX5_blows 5 0 R 0 [.ref o, .ref a0, .int a1] [] μ := us_call (gm_47) rfl rfl
theorem dX1_tells_0 : decode cX1_tells 0 = .ok (.aload_n 1, 1) := by decide +kernel
theorem dX1_tells_1 : decode cX1_tells 1 = .ok (.getfield 19, 3) := by decide +kernel
theorem dX1_tells_4 : decode cX1_tells 4 = .ok (.bipush 71, 2) := by decide +kernel
theorem dX1_tells_6 : decode cX1_tells 6 = .ok (.invokevirtual 25, 3) := by decide +kernel
theorem dX1_tells_9 : decode cX1_tells 9 = .ok (.aload_n 0, 1) := by decide +kernel
theorem dX1_tells_10 : decode cX1_tells 10 = .ok (.aload_n 1, 1) := by decide +kernel
theorem dX1_tells_11 : decode cX1_tells 11 = .ok (.iload_n 2, 1) := by decide +kernel
theorem dX1_tells_12 : decode cX1_tells 12 = .ok (.invokevirtual 39, 3) := by decide +kernel
theorem dX1_tells_15 : decode cX1_tells 15 = .ok (.aload_n 0, 1) := by decide +kernel
theorem dX1_tells_16 : decode cX1_tells 16 = .ok (.aload_n 1, 1) := by decide +kernel
theorem dX1_tells_17 : decode cX1_tells 17 = .ok (.iload_n 2, 1) := by decide +kernel
theorem dX1_tells_18 : decode cX1_tells 18 = .ok (.invokespecial 44, 3) := by decide +kernel
theorem dX1_tells_21 : decode cX1_tells 21 = .ok (.isub, 1) := by decide +kernel
theorem dX1_tells_22 : decode cX1_tells 22 = .ok (.ireturn, 1) := by decide +kernel
theorem u48_0 {d : Nat} {R : gR} {μ : gM} {l0 l2 : Value} {st : List Value} {x : Nat}  : gc_W (gc_S d) cX1_tells 1 0 R 0 [l0, .ref x, l2] st μ ↔ gc_W (gc_S d) cX1_tells 1 0 R 1 [l0, .ref x, l2] (.ref x :: st) μ := us_aload_n dX1_tells_0 rfl
theorem u48_1 {d : Nat} {R : gR} {μ : gM} {L : List Value} {st : List Value} {o : Nat} (hk : gc_kd o = 9) : gc_W (gc_S d) cX1_tells 1 0 R 1 L (.ref o :: st) μ ↔ gc_W (gc_S d) cX1_tells 1 0 R 4 L (gc_fv o 0 μ :: st) μ := us_getf dX1_tells_1 gf_1_19 hk
theorem u48_4 {d : Nat} {R : gR} {μ : gM} {L : List Value} {st : List Value}   : gc_W (gc_S d) cX1_tells 1 0 R 4 L st μ ↔ gc_W (gc_S d) cX1_tells 1 0 R 6 L (.int 71 :: st) μ := us_bipush dX1_tells_4 ci_bipush_71
theorem u48_6 {d : Nat} {R : gR} {μ : gM} {L : List Value} {o : Nat} {a0 : Int32} (hk : gc_kd o = 7) : gc_W (gc_S d) cX1_tells 1 0 R 6 L [.int a0, .ref o] μ ↔ gc_S d 41 [.ref o, .int a0] μ (fun v μ' => gc_W (gc_S d) cX1_tells 1 0 R 9 L (v.toList ++ []) μ') := us_virt dX1_tells_6 gn_1_25 gc_1_25_7 hk rfl rfl rfl rfl rfl
theorem u48_9 {d : Nat} {R : gR} {μ : gM} {l1 l2 : Value} {st : List Value} {x : Nat}  : gc_W (gc_S d) cX1_tells 1 0 R 9 [.ref x, l1, l2] st μ ↔ gc_W (gc_S d) cX1_tells 1 0 R 10 [.ref x, l1, l2] (.ref x :: st) μ := us_aload_n dX1_tells_9 rfl
theorem u48_10 {d : Nat} {R : gR} {μ : gM} {l0 l2 : Value} {st : List Value} {x : Nat}  : gc_W (gc_S d) cX1_tells 1 0 R 10 [l0, .ref x, l2] st μ ↔ gc_W (gc_S d) cX1_tells 1 0 R 11 [l0, .ref x, l2] (.ref x :: st) μ := us_aload_n dX1_tells_10 rfl
theorem u48_11 {d : Nat} {R : gR} {μ : gM} {l0 l1 : Value} {st : List Value} {x : Int32}  : gc_W (gc_S d) cX1_tells 1 0 R 11 [l0, l1, .int x] st μ ↔ gc_W (gc_S d) cX1_tells 1 0 R 12 [l0, l1, .int x] (.int x :: st) μ := us_iload_n dX1_tells_11 rfl
theorem u48_12 {d : Nat} {R : gR} {μ : gM} {L : List Value} {o : Nat} {a1 : Int32} {a0 : Nat} (hk : gc_kd o = 1) : gc_W (gc_S d) cX1_tells 1 0 R 12 L [.int a1, .ref a0, .ref o] μ ↔ gc_S d 47 [.ref o, .ref a0, .int a1] μ (fun v μ' => gc_W (gc_S d) cX1_tells 1 0 R 15 L (v.toList ++ []) μ') := us_virt dX1_tells_12 gn_1_39 gc_1_39_1 hk rfl rfl rfl rfl rfl
theorem u48_15 {d : Nat} {R : gR} {μ : gM} {l1 l2 : Value} {st : List Value} {x : Nat}  : gc_W (gc_S d) cX1_tells 1 0 R 15 [.ref x, l1, l2] st μ ↔ gc_W (gc_S d) cX1_tells 1 0 R 16 [.ref x, l1, l2] (.ref x :: st) μ := us_aload_n dX1_tells_15 rfl
theorem u48_16 {d : Nat} {R : gR} {μ : gM} {l0 l2 : Value} {st : List Value} {x : Nat}  : gc_W (gc_S d) cX1_tells 1 0 R 16 [l0, .ref x, l2] st μ ↔ gc_W (gc_S d) cX1_tells 1 0 R 17 [l0, .ref x, l2] (.ref x :: st) μ := us_aload_n dX1_tells_16 rfl
theorem u48_17 {d : Nat} {R : gR} {μ : gM} {l0 l1 : Value} {st : List Value} {x : Int32}  : gc_W (gc_S d) cX1_tells 1 0 R 17 [l0, l1, .int x] st μ ↔ gc_W (gc_S d) cX1_tells 1 0 R 18 [l0, l1, .int x] (.int x :: st) μ := us_iload_n dX1_tells_17 rfl
theorem u48_18 {d : Nat} {R : gR} {μ : gM} {L : List Value} {o kd : Nat} {a1 : Int32} {a0 : Nat} {s0 : Value} (hk : gc_kd o = kd) (hkd : Nat.blt kd 13 = true) : gc_W (gc_S d) cX1_tells 1 0 R 18 L [.int a1, .ref a0, .ref o, s0] μ ↔ gc_S d 68 [.ref o, .ref a0, .int a1] μ (fun v μ' => gc_W (gc_S d) cX1_tells 1 0 R 21 L (v.toList ++ [s0]) μ') := us_spec dX1_tells_18 gn_1_44 gc_1_44_98 hk hkd rfl rfl rfl rfl
theorem u48_21 {d : Nat} {R : gR} {μ : gM} {L : List Value} {st : List Value} {x y : Int32}  : gc_W (gc_S d) cX1_tells 1 0 R 21 L (.int y :: .int x :: st) μ ↔ gc_W (gc_S d) cX1_tells 1 0 R 22 L (.int (x - y) :: st) μ := us_isub dX1_tells_21
theorem u48_22 {d : Nat} {R : gR} {μ : gM} {L : List Value} {v : Int32}  : gc_W (gc_S d) cX1_tells 1 0 R 22 L [.int v] μ ↔ R (some (.int v)) μ := us_iret dX1_tells_22 rfl
theorem s48 {d : Nat} {R : gR} {μ : gM} {o : Nat} {a1 : Int32} {a0 : Nat} : gc_S (d + 1) 48 [.ref o, .ref a0, .int a1] μ R ↔ gc_W (gc_S d) cX1_tells 1 0 R 0 [.ref o, .ref a0, .int a1] [] μ := us_call (gm_48) rfl rfl
theorem dX2_ahead_0 : decode cX2_ahead 0 = .ok (.aload_n 0, 1) := by decide +kernel
theorem dX2_ahead_1 : decode cX2_ahead 1 = .ok (.getfield 37, 3) := by decide +kernel
theorem dX2_ahead_4 : decode cX2_ahead 4 = .ok (.aload_n 0, 1) := by decide +kernel
theorem dX2_ahead_5 : decode cX2_ahead 5 = .ok (.getfield 24, 3) := by decide +kernel
theorem dX2_ahead_8 : decode cX2_ahead 8 = .ok (.getfield 41, 3) := by decide +kernel
theorem dX2_ahead_11 : decode cX2_ahead 11 = .ok (.if_icmp .ge 18, 3) := by decide +kernel
theorem dX2_ahead_14 : decode cX2_ahead 14 = .ok (.aload_n 0, 1) := by decide +kernel
theorem dX2_ahead_15 : decode cX2_ahead 15 = .ok (.getfield 24, 3) := by decide +kernel
theorem dX2_ahead_18 : decode cX2_ahead 18 = .ok (.getfield 48, 3) := by decide +kernel
theorem dX2_ahead_21 : decode cX2_ahead 21 = .ok (.aload_n 0, 1) := by decide +kernel
theorem dX2_ahead_22 : decode cX2_ahead 22 = .ok (.getfield 37, 3) := by decide +kernel
theorem dX2_ahead_25 : decode cX2_ahead 25 = .ok (.iaload, 1) := by decide +kernel
theorem dX2_ahead_26 : decode cX2_ahead 26 = .ok (.goto 4, 3) := by decide +kernel
theorem dX2_ahead_29 : decode cX2_ahead 29 = .ok (.iconst (-1), 1) := by decide +kernel
theorem dX2_ahead_30 : decode cX2_ahead 30 = .ok (.ireturn, 1) := by decide +kernel
theorem u49_0 {d : Nat} {R : gR} {μ : gM} {st : List Value} {x : Nat}  : gc_W (gc_S d) cX2_ahead 2 0 R 0 [.ref x] st μ ↔ gc_W (gc_S d) cX2_ahead 2 0 R 1 [.ref x] (.ref x :: st) μ := us_aload_n dX2_ahead_0 rfl
theorem u49_1 {d : Nat} {R : gR} {μ : gM} {L : List Value} {st : List Value} {o : Nat} (hk : gc_kd o = 2) : gc_W (gc_S d) cX2_ahead 2 0 R 1 L (.ref o :: st) μ ↔ gc_W (gc_S d) cX2_ahead 2 0 R 4 L (gc_fv o 4 μ :: st) μ := us_getf dX2_ahead_1 gf_2_37 hk
theorem u49_4 {d : Nat} {R : gR} {μ : gM} {st : List Value} {x : Nat}  : gc_W (gc_S d) cX2_ahead 2 0 R 4 [.ref x] st μ ↔ gc_W (gc_S d) cX2_ahead 2 0 R 5 [.ref x] (.ref x :: st) μ := us_aload_n dX2_ahead_4 rfl
theorem u49_5 {d : Nat} {R : gR} {μ : gM} {L : List Value} {st : List Value} {o : Nat} (hk : gc_kd o = 2) : gc_W (gc_S d) cX2_ahead 2 0 R 5 L (.ref o :: st) μ ↔ gc_W (gc_S d) cX2_ahead 2 0 R 8 L (gc_fv o 2 μ :: st) μ := us_getf dX2_ahead_5 gf_2_24 hk
theorem u49_8 {d : Nat} {R : gR} {μ : gM} {L : List Value} {st : List Value} {o : Nat} (hk : gc_kd o = 7) : gc_W (gc_S d) cX2_ahead 2 0 R 8 L (.ref o :: st) μ ↔ gc_W (gc_S d) cX2_ahead 2 0 R 11 L (gc_fv o 1 μ :: st) μ := us_getf dX2_ahead_8 gf_2_41 hk
theorem u49_11 {d : Nat} {R : gR} {μ : gM} {L : List Value} {st : List Value} {x y : Int32}  : gc_W (gc_S d) cX2_ahead 2 0 R 11 L (.int y :: .int x :: st) μ ↔ if y ≤ x then gc_W (gc_S d) cX2_ahead 2 0 R 29 L st μ else gc_W (gc_S d) cX2_ahead 2 0 R 14 L st μ := us_icge dX2_ahead_11 rfl
theorem u49_14 {d : Nat} {R : gR} {μ : gM} {st : List Value} {x : Nat}  : gc_W (gc_S d) cX2_ahead 2 0 R 14 [.ref x] st μ ↔ gc_W (gc_S d) cX2_ahead 2 0 R 15 [.ref x] (.ref x :: st) μ := us_aload_n dX2_ahead_14 rfl
theorem u49_15 {d : Nat} {R : gR} {μ : gM} {L : List Value} {st : List Value} {o : Nat} (hk : gc_kd o = 2) : gc_W (gc_S d) cX2_ahead 2 0 R 15 L (.ref o :: st) μ ↔ gc_W (gc_S d) cX2_ahead 2 0 R 18 L (gc_fv o 2 μ :: st) μ := us_getf dX2_ahead_15 gf_2_24 hk
theorem u49_18 {d : Nat} {R : gR} {μ : gM} {L : List Value} {st : List Value} {o : Nat} (hk : gc_kd o = 7) : gc_W (gc_S d) cX2_ahead 2 0 R 18 L (.ref o :: st) μ ↔ gc_W (gc_S d) cX2_ahead 2 0 R 21 L (gc_fv o 0 μ :: st) μ := us_getf dX2_ahead_18 gf_2_48 hk
theorem u49_21 {d : Nat} {R : gR} {μ : gM} {st : List Value} {x : Nat}  : gc_W (gc_S d) cX2_ahead 2 0 R 21 [.ref x] st μ ↔ gc_W (gc_S d) cX2_ahead 2 0 R 22 [.ref x] (.ref x :: st) μ := us_aload_n dX2_ahead_21 rfl
theorem u49_22 {d : Nat} {R : gR} {μ : gM} {L : List Value} {st : List Value} {o : Nat} (hk : gc_kd o = 2) : gc_W (gc_S d) cX2_ahead 2 0 R 22 L (.ref o :: st) μ ↔ gc_W (gc_S d) cX2_ahead 2 0 R 25 L (gc_fv o 4 μ :: st) μ := us_getf dX2_ahead_22 gf_2_37 hk
theorem u49_25 {d : Nat} {R : gR} {μ : gM} {L : List Value} {st : List Value} {o : Nat} {i : Int32} (hk : gc_kd o = 20) : gc_W (gc_S d) cX2_ahead 2 0 R 25 L (.int i :: .ref o :: st) μ ↔ (vp_in i (gc_al o) ∧ gc_W (gc_S d) cX2_ahead 2 0 R 26 L (.int (μ o i.toNatClampNeg) :: st) μ) := us_iald dX2_ahead_25 hk
theorem u49_26 {d : Nat} {R : gR} {μ : gM} {L : List Value} {st : List Value}  : gc_W (gc_S d) cX2_ahead 2 0 R 26 L st μ ↔ gc_W (gc_S d) cX2_ahead 2 0 R 30 L st μ := us_goto dX2_ahead_26 rfl
theorem u49_29 {d : Nat} {R : gR} {μ : gM} {L : List Value} {st : List Value}   : gc_W (gc_S d) cX2_ahead 2 0 R 29 L st μ ↔ gc_W (gc_S d) cX2_ahead 2 0 R 30 L (.int (-1) :: st) μ := us_iconst dX2_ahead_29 ci_iconst_m1
theorem u49_30 {d : Nat} {R : gR} {μ : gM} {L : List Value} {v : Int32}  : gc_W (gc_S d) cX2_ahead 2 0 R 30 L [.int v] μ ↔ R (some (.int v)) μ := us_iret dX2_ahead_30 rfl
theorem s49 {d : Nat} {R : gR} {μ : gM} {o : Nat} : gc_S (d + 1) 49 [.ref o] μ R ↔ gc_W (gc_S d) cX2_ahead 2 0 R 0 [.ref o] [] μ := us_call (gm_49) rfl rfl
theorem dX2_pass_0 : decode cX2_pass 0 = .ok (.aload_n 0, 1) := by decide +kernel
theorem dX2_pass_1 : decode cX2_pass 1 = .ok (.dup, 1) := by decide +kernel
theorem dX2_pass_2 : decode cX2_pass 2 = .ok (.getfield 37, 3) := by decide +kernel
theorem dX2_pass_5 : decode cX2_pass 5 = .ok (.iconst 1, 1) := by decide +kernel
theorem dX2_pass_6 : decode cX2_pass 6 = .ok (.iadd, 1) := by decide +kernel
theorem dX2_pass_7 : decode cX2_pass 7 = .ok (.putfield 37, 3) := by decide +kernel
theorem dX2_pass_10 : decode cX2_pass 10 = .ok (.return_, 1) := by decide +kernel
theorem u50_0 {d : Nat} {R : gR} {μ : gM} {st : List Value} {x : Nat}  : gc_W (gc_S d) cX2_pass 2 2 R 0 [.ref x] st μ ↔ gc_W (gc_S d) cX2_pass 2 2 R 1 [.ref x] (.ref x :: st) μ := us_aload_n dX2_pass_0 rfl
theorem u50_1 {d : Nat} {R : gR} {μ : gM} {L : List Value} {st : List Value} {x : Nat}  : gc_W (gc_S d) cX2_pass 2 2 R 1 L (.ref x :: st) μ ↔ gc_W (gc_S d) cX2_pass 2 2 R 2 L (.ref x :: .ref x :: st) μ := us_dup_r dX2_pass_1
theorem u50_2 {d : Nat} {R : gR} {μ : gM} {L : List Value} {st : List Value} {o : Nat} (hk : gc_kd o = 2) : gc_W (gc_S d) cX2_pass 2 2 R 2 L (.ref o :: st) μ ↔ gc_W (gc_S d) cX2_pass 2 2 R 5 L (gc_fv o 4 μ :: st) μ := us_getf dX2_pass_2 gf_2_37 hk
theorem u50_5 {d : Nat} {R : gR} {μ : gM} {L : List Value} {st : List Value}   : gc_W (gc_S d) cX2_pass 2 2 R 5 L st μ ↔ gc_W (gc_S d) cX2_pass 2 2 R 6 L (.int 1 :: st) μ := us_iconst dX2_pass_5 ci_iconst_1
theorem u50_6 {d : Nat} {R : gR} {μ : gM} {L : List Value} {st : List Value} {x y : Int32}  : gc_W (gc_S d) cX2_pass 2 2 R 6 L (.int y :: .int x :: st) μ ↔ gc_W (gc_S d) cX2_pass 2 2 R 7 L (.int (x + y) :: st) μ := us_iadd dX2_pass_6
theorem u50_7 {d : Nat} {R : gR} {μ : gM} {L : List Value} {st : List Value} {o : Nat} {x : Int32} (hk : gc_kd o = 2) (hj : gc_fk o 4 = 0) : gc_W (gc_S d) cX2_pass 2 2 R 7 L (.int x :: .ref o :: st) μ ↔ gc_W (gc_S d) cX2_pass 2 2 R 10 L st (gc_up μ o 4 x) := us_putf dX2_pass_7 gf_2_37 hk hj rfl
theorem u50_10 {d : Nat} {R : gR} {μ : gM} {L : List Value}   : gc_W (gc_S d) cX2_pass 2 2 R 10 L [] μ ↔ R none μ := us_vret dX2_pass_10 rfl
theorem s50 {d : Nat} {R : gR} {μ : gM} {o : Nat} : gc_S (d + 1) 50 [.ref o] μ R ↔ gc_W (gc_S d) cX2_pass 2 2 R 0 [.ref o] [] μ := us_call (gm_50) rfl rfl
theorem dX2_readNumber_0 : decode cX2_readNumber 0 = .ok (.iconst 0, 1) := by decide +kernel
theorem dX2_readNumber_1 : decode cX2_readNumber 1 = .ok (.istore_n 1, 1) := by decide +kernel
theorem dX2_readNumber_2 : decode cX2_readNumber 2 = .ok (.iconst 0, 1) := by decide +kernel
theorem dX2_readNumber_3 : decode cX2_readNumber 3 = .ok (.istore_n 2, 1) := by decide +kernel
theorem dX2_readNumber_4 : decode cX2_readNumber 4 = .ok (.iload_n 2, 1) := by decide +kernel
theorem dX2_readNumber_5 : decode cX2_readNumber 5 = .ok (.iconst 4, 1) := by decide +kernel
theorem dX2_readNumber_6 : decode cX2_readNumber 6 = .ok (.if_icmp .ge 44, 3) := by decide +kernel
theorem dX2_readNumber_9 : decode cX2_readNumber 9 = .ok (.aload_n 0, 1) := by decide +kernel
theorem dX2_readNumber_10 : decode cX2_readNumber 10 = .ok (.invokevirtual 54, 3) := by decide +kernel
theorem dX2_readNumber_13 : decode cX2_readNumber 13 = .ok (.bipush 48, 2) := by decide +kernel
theorem dX2_readNumber_15 : decode cX2_readNumber 15 = .ok (.if_icmp .lt 35, 3) := by decide +kernel
theorem dX2_readNumber_18 : decode cX2_readNumber 18 = .ok (.aload_n 0, 1) := by decide +kernel
theorem dX2_readNumber_19 : decode cX2_readNumber 19 = .ok (.invokevirtual 54, 3) := by decide +kernel
theorem dX2_readNumber_22 : decode cX2_readNumber 22 = .ok (.bipush 57, 2) := by decide +kernel
theorem dX2_readNumber_24 : decode cX2_readNumber 24 = .ok (.if_icmp .gt 26, 3) := by decide +kernel
theorem dX2_readNumber_27 : decode cX2_readNumber 27 = .ok (.iload_n 1, 1) := by decide +kernel
theorem dX2_readNumber_28 : decode cX2_readNumber 28 = .ok (.bipush 10, 2) := by decide +kernel
theorem dX2_readNumber_30 : decode cX2_readNumber 30 = .ok (.imul, 1) := by decide +kernel
theorem dX2_readNumber_31 : decode cX2_readNumber 31 = .ok (.aload_n 0, 1) := by decide +kernel
theorem dX2_readNumber_32 : decode cX2_readNumber 32 = .ok (.invokevirtual 54, 3) := by decide +kernel
theorem dX2_readNumber_35 : decode cX2_readNumber 35 = .ok (.iadd, 1) := by decide +kernel
theorem dX2_readNumber_36 : decode cX2_readNumber 36 = .ok (.bipush 48, 2) := by decide +kernel
theorem dX2_readNumber_38 : decode cX2_readNumber 38 = .ok (.isub, 1) := by decide +kernel
theorem dX2_readNumber_39 : decode cX2_readNumber 39 = .ok (.istore_n 1, 1) := by decide +kernel
theorem dX2_readNumber_40 : decode cX2_readNumber 40 = .ok (.aload_n 0, 1) := by decide +kernel
theorem dX2_readNumber_41 : decode cX2_readNumber 41 = .ok (.invokevirtual 58, 3) := by decide +kernel
theorem dX2_readNumber_44 : decode cX2_readNumber 44 = .ok (.iinc 2 1, 3) := by decide +kernel
theorem dX2_readNumber_47 : decode cX2_readNumber 47 = .ok (.goto (-43), 3) := by decide +kernel
theorem dX2_readNumber_50 : decode cX2_readNumber 50 = .ok (.aload_n 0, 1) := by decide +kernel
theorem dX2_readNumber_51 : decode cX2_readNumber 51 = .ok (.getfield 14, 3) := by decide +kernel
theorem dX2_readNumber_54 : decode cX2_readNumber 54 = .ok (.iload_n 1, 1) := by decide +kernel
theorem dX2_readNumber_55 : decode cX2_readNumber 55 = .ok (.invokevirtual 61, 3) := by decide +kernel
theorem dX2_readNumber_58 : decode cX2_readNumber 58 = .ok (.return_, 1) := by decide +kernel
theorem u51_0 {d : Nat} {R : gR} {μ : gM} {L : List Value} {st : List Value}   : gc_W (gc_S d) cX2_readNumber 2 2 R 0 L st μ ↔ gc_W (gc_S d) cX2_readNumber 2 2 R 1 L (.int 0 :: st) μ := us_iconst dX2_readNumber_0 ci_iconst_0
theorem u51_1 {d : Nat} {R : gR} {μ : gM} {l0 l1 l2 : Value} {st : List Value} {x : Int32} (hs : gc_sk l1 = true) : gc_W (gc_S d) cX2_readNumber 2 2 R 1 [l0, l1, l2] (.int x :: st) μ ↔ gc_W (gc_S d) cX2_readNumber 2 2 R 2 [l0, .int x, l2] st μ := us_istore_n dX2_readNumber_1 rfl hs
theorem u51_2 {d : Nat} {R : gR} {μ : gM} {L : List Value} {st : List Value}   : gc_W (gc_S d) cX2_readNumber 2 2 R 2 L st μ ↔ gc_W (gc_S d) cX2_readNumber 2 2 R 3 L (.int 0 :: st) μ := us_iconst dX2_readNumber_2 ci_iconst_0
theorem u51_3 {d : Nat} {R : gR} {μ : gM} {l0 l1 l2 : Value} {st : List Value} {x : Int32} (hs : gc_sk l2 = true) : gc_W (gc_S d) cX2_readNumber 2 2 R 3 [l0, l1, l2] (.int x :: st) μ ↔ gc_W (gc_S d) cX2_readNumber 2 2 R 4 [l0, l1, .int x] st μ := us_istore_n dX2_readNumber_3 rfl hs
theorem u51_4 {d : Nat} {R : gR} {μ : gM} {l0 l1 : Value} {st : List Value} {x : Int32}  : gc_W (gc_S d) cX2_readNumber 2 2 R 4 [l0, l1, .int x] st μ ↔ gc_W (gc_S d) cX2_readNumber 2 2 R 5 [l0, l1, .int x] (.int x :: st) μ := us_iload_n dX2_readNumber_4 rfl
theorem u51_5 {d : Nat} {R : gR} {μ : gM} {L : List Value} {st : List Value}   : gc_W (gc_S d) cX2_readNumber 2 2 R 5 L st μ ↔ gc_W (gc_S d) cX2_readNumber 2 2 R 6 L (.int 4 :: st) μ := us_iconst dX2_readNumber_5 ci_iconst_4
theorem u51_6 {d : Nat} {R : gR} {μ : gM} {L : List Value} {st : List Value} {x y : Int32}  : gc_W (gc_S d) cX2_readNumber 2 2 R 6 L (.int y :: .int x :: st) μ ↔ if y ≤ x then gc_W (gc_S d) cX2_readNumber 2 2 R 50 L st μ else gc_W (gc_S d) cX2_readNumber 2 2 R 9 L st μ := us_icge dX2_readNumber_6 rfl
theorem u51_9 {d : Nat} {R : gR} {μ : gM} {l1 l2 : Value} {st : List Value} {x : Nat}  : gc_W (gc_S d) cX2_readNumber 2 2 R 9 [.ref x, l1, l2] st μ ↔ gc_W (gc_S d) cX2_readNumber 2 2 R 10 [.ref x, l1, l2] (.ref x :: st) μ := us_aload_n dX2_readNumber_9 rfl
theorem u51_10 {d : Nat} {R : gR} {μ : gM} {L : List Value} {o : Nat} (hk : gc_kd o = 2) : gc_W (gc_S d) cX2_readNumber 2 2 R 10 L [.ref o] μ ↔ gc_S d 49 [.ref o] μ (fun v μ' => gc_W (gc_S d) cX2_readNumber 2 2 R 13 L (v.toList ++ []) μ') := us_virt dX2_readNumber_10 gn_2_54 gc_2_54_2 hk rfl rfl rfl rfl rfl
theorem u51_13 {d : Nat} {R : gR} {μ : gM} {L : List Value} {st : List Value}   : gc_W (gc_S d) cX2_readNumber 2 2 R 13 L st μ ↔ gc_W (gc_S d) cX2_readNumber 2 2 R 15 L (.int 48 :: st) μ := us_bipush dX2_readNumber_13 ci_bipush_48
theorem u51_15 {d : Nat} {R : gR} {μ : gM} {L : List Value} {st : List Value} {x y : Int32}  : gc_W (gc_S d) cX2_readNumber 2 2 R 15 L (.int y :: .int x :: st) μ ↔ if x < y then gc_W (gc_S d) cX2_readNumber 2 2 R 50 L st μ else gc_W (gc_S d) cX2_readNumber 2 2 R 18 L st μ := us_iclt dX2_readNumber_15 rfl
theorem u51_18 {d : Nat} {R : gR} {μ : gM} {l1 l2 : Value} {st : List Value} {x : Nat}  : gc_W (gc_S d) cX2_readNumber 2 2 R 18 [.ref x, l1, l2] st μ ↔ gc_W (gc_S d) cX2_readNumber 2 2 R 19 [.ref x, l1, l2] (.ref x :: st) μ := us_aload_n dX2_readNumber_18 rfl
theorem u51_19 {d : Nat} {R : gR} {μ : gM} {L : List Value} {o : Nat} (hk : gc_kd o = 2) : gc_W (gc_S d) cX2_readNumber 2 2 R 19 L [.ref o] μ ↔ gc_S d 49 [.ref o] μ (fun v μ' => gc_W (gc_S d) cX2_readNumber 2 2 R 22 L (v.toList ++ []) μ') := us_virt dX2_readNumber_19 gn_2_54 gc_2_54_2 hk rfl rfl rfl rfl rfl
theorem u51_22 {d : Nat} {R : gR} {μ : gM} {L : List Value} {st : List Value}   : gc_W (gc_S d) cX2_readNumber 2 2 R 22 L st μ ↔ gc_W (gc_S d) cX2_readNumber 2 2 R 24 L (.int 57 :: st) μ := us_bipush dX2_readNumber_22 ci_bipush_57
theorem u51_24 {d : Nat} {R : gR} {μ : gM} {L : List Value} {st : List Value} {x y : Int32}  : gc_W (gc_S d) cX2_readNumber 2 2 R 24 L (.int y :: .int x :: st) μ ↔ if y < x then gc_W (gc_S d) cX2_readNumber 2 2 R 50 L st μ else gc_W (gc_S d) cX2_readNumber 2 2 R 27 L st μ := us_icgt dX2_readNumber_24 rfl
theorem u51_27 {d : Nat} {R : gR} {μ : gM} {l0 l2 : Value} {st : List Value} {x : Int32}  : gc_W (gc_S d) cX2_readNumber 2 2 R 27 [l0, .int x, l2] st μ ↔ gc_W (gc_S d) cX2_readNumber 2 2 R 28 [l0, .int x, l2] (.int x :: st) μ := us_iload_n dX2_readNumber_27 rfl
theorem u51_28 {d : Nat} {R : gR} {μ : gM} {L : List Value} {st : List Value}   : gc_W (gc_S d) cX2_readNumber 2 2 R 28 L st μ ↔ gc_W (gc_S d) cX2_readNumber 2 2 R 30 L (.int 10 :: st) μ := us_bipush dX2_readNumber_28 ci_bipush_10
theorem u51_30 {d : Nat} {R : gR} {μ : gM} {L : List Value} {st : List Value} {x y : Int32}  : gc_W (gc_S d) cX2_readNumber 2 2 R 30 L (.int y :: .int x :: st) μ ↔ gc_W (gc_S d) cX2_readNumber 2 2 R 31 L (.int (x * y) :: st) μ := us_imul dX2_readNumber_30
theorem u51_31 {d : Nat} {R : gR} {μ : gM} {l1 l2 : Value} {st : List Value} {x : Nat}  : gc_W (gc_S d) cX2_readNumber 2 2 R 31 [.ref x, l1, l2] st μ ↔ gc_W (gc_S d) cX2_readNumber 2 2 R 32 [.ref x, l1, l2] (.ref x :: st) μ := us_aload_n dX2_readNumber_31 rfl
theorem u51_32 {d : Nat} {R : gR} {μ : gM} {L : List Value} {o : Nat} {s0 : Value} (hk : gc_kd o = 2) : gc_W (gc_S d) cX2_readNumber 2 2 R 32 L [.ref o, s0] μ ↔ gc_S d 49 [.ref o] μ (fun v μ' => gc_W (gc_S d) cX2_readNumber 2 2 R 35 L (v.toList ++ [s0]) μ') := us_virt dX2_readNumber_32 gn_2_54 gc_2_54_2 hk rfl rfl rfl rfl rfl
theorem u51_35 {d : Nat} {R : gR} {μ : gM} {L : List Value} {st : List Value} {x y : Int32}  : gc_W (gc_S d) cX2_readNumber 2 2 R 35 L (.int y :: .int x :: st) μ ↔ gc_W (gc_S d) cX2_readNumber 2 2 R 36 L (.int (x + y) :: st) μ := us_iadd dX2_readNumber_35
theorem u51_36 {d : Nat} {R : gR} {μ : gM} {L : List Value} {st : List Value}   : gc_W (gc_S d) cX2_readNumber 2 2 R 36 L st μ ↔ gc_W (gc_S d) cX2_readNumber 2 2 R 38 L (.int 48 :: st) μ := us_bipush dX2_readNumber_36 ci_bipush_48
theorem u51_38 {d : Nat} {R : gR} {μ : gM} {L : List Value} {st : List Value} {x y : Int32}  : gc_W (gc_S d) cX2_readNumber 2 2 R 38 L (.int y :: .int x :: st) μ ↔ gc_W (gc_S d) cX2_readNumber 2 2 R 39 L (.int (x - y) :: st) μ := us_isub dX2_readNumber_38
theorem u51_39 {d : Nat} {R : gR} {μ : gM} {l0 l1 l2 : Value} {st : List Value} {x : Int32} (hs : gc_sk l1 = true) : gc_W (gc_S d) cX2_readNumber 2 2 R 39 [l0, l1, l2] (.int x :: st) μ ↔ gc_W (gc_S d) cX2_readNumber 2 2 R 40 [l0, .int x, l2] st μ := us_istore_n dX2_readNumber_39 rfl hs
theorem u51_40 {d : Nat} {R : gR} {μ : gM} {l1 l2 : Value} {st : List Value} {x : Nat}  : gc_W (gc_S d) cX2_readNumber 2 2 R 40 [.ref x, l1, l2] st μ ↔ gc_W (gc_S d) cX2_readNumber 2 2 R 41 [.ref x, l1, l2] (.ref x :: st) μ := us_aload_n dX2_readNumber_40 rfl
theorem u51_41 {d : Nat} {R : gR} {μ : gM} {L : List Value} {o : Nat} (hk : gc_kd o = 2) : gc_W (gc_S d) cX2_readNumber 2 2 R 41 L [.ref o] μ ↔ gc_S d 50 [.ref o] μ (fun v μ' => gc_W (gc_S d) cX2_readNumber 2 2 R 44 L (v.toList ++ []) μ') := us_virt dX2_readNumber_41 gn_2_58 gc_2_58_2 hk rfl rfl rfl rfl rfl
theorem u51_44 {d : Nat} {R : gR} {μ : gM} {l0 l1 : Value} {st : List Value} {x : Int32}  : gc_W (gc_S d) cX2_readNumber 2 2 R 44 [l0, l1, .int x] st μ ↔ gc_W (gc_S d) cX2_readNumber 2 2 R 47 [l0, l1, .int (x + 1)] st μ := us_iinc dX2_readNumber_44 rfl ci_iinc_1
theorem u51_47 {d : Nat} {R : gR} {μ : gM} {L : List Value} {st : List Value}  : gc_W (gc_S d) cX2_readNumber 2 2 R 47 L st μ ↔ gc_W (gc_S d) cX2_readNumber 2 2 R 4 L st μ := us_goto dX2_readNumber_47 rfl
theorem u51_50 {d : Nat} {R : gR} {μ : gM} {l1 l2 : Value} {st : List Value} {x : Nat}  : gc_W (gc_S d) cX2_readNumber 2 2 R 50 [.ref x, l1, l2] st μ ↔ gc_W (gc_S d) cX2_readNumber 2 2 R 51 [.ref x, l1, l2] (.ref x :: st) μ := us_aload_n dX2_readNumber_50 rfl
theorem u51_51 {d : Nat} {R : gR} {μ : gM} {L : List Value} {st : List Value} {o : Nat} (hk : gc_kd o = 2) : gc_W (gc_S d) cX2_readNumber 2 2 R 51 L (.ref o :: st) μ ↔ gc_W (gc_S d) cX2_readNumber 2 2 R 54 L (gc_fv o 0 μ :: st) μ := us_getf dX2_readNumber_51 gf_2_14 hk
theorem u51_54 {d : Nat} {R : gR} {μ : gM} {l0 l2 : Value} {st : List Value} {x : Int32}  : gc_W (gc_S d) cX2_readNumber 2 2 R 54 [l0, .int x, l2] st μ ↔ gc_W (gc_S d) cX2_readNumber 2 2 R 55 [l0, .int x, l2] (.int x :: st) μ := us_iload_n dX2_readNumber_54 rfl
theorem u51_55 {d : Nat} {R : gR} {μ : gM} {L : List Value} {o : Nat} {a0 : Int32} (hk : gc_kd o = 7) : gc_W (gc_S d) cX2_readNumber 2 2 R 55 L [.int a0, .ref o] μ ↔ gc_S d 41 [.ref o, .int a0] μ (fun v μ' => gc_W (gc_S d) cX2_readNumber 2 2 R 58 L (v.toList ++ []) μ') := us_virt dX2_readNumber_55 gn_2_61 gc_2_61_7 hk rfl rfl rfl rfl rfl
theorem u51_58 {d : Nat} {R : gR} {μ : gM} {L : List Value}   : gc_W (gc_S d) cX2_readNumber 2 2 R 58 L [] μ ↔ R none μ := us_vret dX2_readNumber_58 rfl
theorem s51 {d : Nat} {R : gR} {μ : gM} {o : Nat} : gc_S (d + 1) 51 [.ref o] μ R ↔ gc_W (gc_S d) cX2_readNumber 2 2 R 0 [.ref o, .retAddr 0, .retAddr 0] [] μ := us_call (gm_51) rfl rfl
theorem dJ0_isLatin1_aae02_0 : decode cJ0_isLatin1_aae02 0 = .ok (.getstatic 38, 3) := by decide +kernel
theorem dJ0_isLatin1_aae02_3 : decode cJ0_isLatin1_aae02 3 = .ok (.ifCond .eq 14, 3) := by decide +kernel
theorem dJ0_isLatin1_aae02_6 : decode cJ0_isLatin1_aae02 6 = .ok (.aload_n 0, 1) := by decide +kernel
theorem dJ0_isLatin1_aae02_7 : decode cJ0_isLatin1_aae02 7 = .ok (.getfield 15, 3) := by decide +kernel
theorem dJ0_isLatin1_aae02_10 : decode cJ0_isLatin1_aae02 10 = .ok (.ifCond .ne 7, 3) := by decide +kernel
theorem dJ0_isLatin1_aae02_13 : decode cJ0_isLatin1_aae02 13 = .ok (.iconst 1, 1) := by decide +kernel
theorem dJ0_isLatin1_aae02_14 : decode cJ0_isLatin1_aae02 14 = .ok (.goto 4, 3) := by decide +kernel
theorem dJ0_isLatin1_aae02_17 : decode cJ0_isLatin1_aae02 17 = .ok (.iconst 0, 1) := by decide +kernel
theorem dJ0_isLatin1_aae02_18 : decode cJ0_isLatin1_aae02 18 = .ok (.ireturn, 1) := by decide +kernel
theorem u52_0 {d : Nat} {R : gR} {μ : gM} {L : List Value} {st : List Value}   : gc_W (gc_S d) cJ0_isLatin1_aae02 15 1 R 0 L st μ ↔ gc_W (gc_S d) cJ0_isLatin1_aae02 15 1 R 3 L (.int 1 :: st) μ := us_getst dJ0_isLatin1_aae02_0 (by decide +kernel)
theorem u52_3 {d : Nat} {R : gR} {μ : gM} {L : List Value} {st : List Value} {x : Int32}  : gc_W (gc_S d) cJ0_isLatin1_aae02 15 1 R 3 L (.int x :: st) μ ↔ if x = 0 then gc_W (gc_S d) cJ0_isLatin1_aae02 15 1 R 17 L st μ else gc_W (gc_S d) cJ0_isLatin1_aae02 15 1 R 6 L st μ := us_ifeq dJ0_isLatin1_aae02_3 rfl
theorem u52_6 {d : Nat} {R : gR} {μ : gM} {st : List Value} {x : Nat}  : gc_W (gc_S d) cJ0_isLatin1_aae02 15 1 R 6 [.ref x] st μ ↔ gc_W (gc_S d) cJ0_isLatin1_aae02 15 1 R 7 [.ref x] (.ref x :: st) μ := us_aload_n dJ0_isLatin1_aae02_6 rfl
theorem u52_7 {d : Nat} {R : gR} {μ : gM} {L : List Value} {st : List Value} {o : Nat} (hk : gc_kd o = 32) : gc_W (gc_S d) cJ0_isLatin1_aae02 15 1 R 7 L (.ref o :: st) μ ↔ gc_W (gc_S d) cJ0_isLatin1_aae02 15 1 R 10 L (gc_fv o 1 (fun _ _ => 0) :: st) μ := us_gets dJ0_isLatin1_aae02_7 (by decide +kernel) (by decide +kernel) hk
theorem u52_10 {d : Nat} {R : gR} {μ : gM} {L : List Value} {st : List Value} {x : Int32}  : gc_W (gc_S d) cJ0_isLatin1_aae02 15 1 R 10 L (.int x :: st) μ ↔ if x = 0 then gc_W (gc_S d) cJ0_isLatin1_aae02 15 1 R 13 L st μ else gc_W (gc_S d) cJ0_isLatin1_aae02 15 1 R 17 L st μ := us_ifne dJ0_isLatin1_aae02_10 rfl
theorem u52_13 {d : Nat} {R : gR} {μ : gM} {L : List Value} {st : List Value}   : gc_W (gc_S d) cJ0_isLatin1_aae02 15 1 R 13 L st μ ↔ gc_W (gc_S d) cJ0_isLatin1_aae02 15 1 R 14 L (.int 1 :: st) μ := us_iconst dJ0_isLatin1_aae02_13 ci_iconst_1
theorem u52_14 {d : Nat} {R : gR} {μ : gM} {L : List Value} {st : List Value}  : gc_W (gc_S d) cJ0_isLatin1_aae02 15 1 R 14 L st μ ↔ gc_W (gc_S d) cJ0_isLatin1_aae02 15 1 R 18 L st μ := us_goto dJ0_isLatin1_aae02_14 rfl
theorem u52_17 {d : Nat} {R : gR} {μ : gM} {L : List Value} {st : List Value}   : gc_W (gc_S d) cJ0_isLatin1_aae02 15 1 R 17 L st μ ↔ gc_W (gc_S d) cJ0_isLatin1_aae02 15 1 R 18 L (.int 0 :: st) μ := us_iconst dJ0_isLatin1_aae02_17 ci_iconst_0
theorem u52_18 {d : Nat} {R : gR} {μ : gM} {L : List Value} {v : Int32}  : gc_W (gc_S d) cJ0_isLatin1_aae02 15 1 R 18 L [.int v] μ ↔ ((v = 0 ∨ v = 1) ∧ R (some (.int v)) μ) := us_zret dJ0_isLatin1_aae02_18 rfl
theorem s52 {d : Nat} {R : gR} {μ : gM} {o : Nat} : gc_S (d + 1) 52 [.ref o] μ R ↔ gc_W (gc_S d) cJ0_isLatin1_aae02 15 1 R 0 [.ref o] [] μ := us_call (gm_52) rfl rfl
theorem dJ0_coder_7d493_0 : decode cJ0_coder_7d493 0 = .ok (.getstatic 38, 3) := by decide +kernel
theorem dJ0_coder_7d493_3 : decode cJ0_coder_7d493 3 = .ok (.ifCond .eq 10, 3) := by decide +kernel
theorem dJ0_coder_7d493_6 : decode cJ0_coder_7d493 6 = .ok (.aload_n 0, 1) := by decide +kernel
theorem dJ0_coder_7d493_7 : decode cJ0_coder_7d493 7 = .ok (.getfield 15, 3) := by decide +kernel
theorem dJ0_coder_7d493_10 : decode cJ0_coder_7d493 10 = .ok (.goto 4, 3) := by decide +kernel
theorem dJ0_coder_7d493_13 : decode cJ0_coder_7d493 13 = .ok (.iconst 1, 1) := by decide +kernel
theorem dJ0_coder_7d493_14 : decode cJ0_coder_7d493 14 = .ok (.ireturn, 1) := by decide +kernel
theorem u53_0 {d : Nat} {R : gR} {μ : gM} {L : List Value} {st : List Value}   : gc_W (gc_S d) cJ0_coder_7d493 15 1 R 0 L st μ ↔ gc_W (gc_S d) cJ0_coder_7d493 15 1 R 3 L (.int 1 :: st) μ := us_getst dJ0_coder_7d493_0 (by decide +kernel)
theorem u53_3 {d : Nat} {R : gR} {μ : gM} {L : List Value} {st : List Value} {x : Int32}  : gc_W (gc_S d) cJ0_coder_7d493 15 1 R 3 L (.int x :: st) μ ↔ if x = 0 then gc_W (gc_S d) cJ0_coder_7d493 15 1 R 13 L st μ else gc_W (gc_S d) cJ0_coder_7d493 15 1 R 6 L st μ := us_ifeq dJ0_coder_7d493_3 rfl
theorem u53_6 {d : Nat} {R : gR} {μ : gM} {st : List Value} {x : Nat}  : gc_W (gc_S d) cJ0_coder_7d493 15 1 R 6 [.ref x] st μ ↔ gc_W (gc_S d) cJ0_coder_7d493 15 1 R 7 [.ref x] (.ref x :: st) μ := us_aload_n dJ0_coder_7d493_6 rfl
theorem u53_7 {d : Nat} {R : gR} {μ : gM} {L : List Value} {st : List Value} {o : Nat} (hk : gc_kd o = 32) : gc_W (gc_S d) cJ0_coder_7d493 15 1 R 7 L (.ref o :: st) μ ↔ gc_W (gc_S d) cJ0_coder_7d493 15 1 R 10 L (gc_fv o 1 (fun _ _ => 0) :: st) μ := us_gets dJ0_coder_7d493_7 (by decide +kernel) (by decide +kernel) hk
theorem u53_10 {d : Nat} {R : gR} {μ : gM} {L : List Value} {st : List Value}  : gc_W (gc_S d) cJ0_coder_7d493 15 1 R 10 L st μ ↔ gc_W (gc_S d) cJ0_coder_7d493 15 1 R 14 L st μ := us_goto dJ0_coder_7d493_10 rfl
theorem u53_13 {d : Nat} {R : gR} {μ : gM} {L : List Value} {st : List Value}   : gc_W (gc_S d) cJ0_coder_7d493 15 1 R 13 L st μ ↔ gc_W (gc_S d) cJ0_coder_7d493 15 1 R 14 L (.int 1 :: st) μ := us_iconst dJ0_coder_7d493_13 ci_iconst_1
theorem u53_14 {d : Nat} {R : gR} {μ : gM} {L : List Value} {v : Int32}  : gc_W (gc_S d) cJ0_coder_7d493 15 1 R 14 L [.int v] μ ↔ ((v = 0 ∨ v = 1) ∧ R (some (.int v)) μ) := us_zret dJ0_coder_7d493_14 rfl
theorem s53 {d : Nat} {R : gR} {μ : gM} {o : Nat} : gc_S (d + 1) 53 [.ref o] μ R ↔ gc_W (gc_S d) cJ0_coder_7d493 15 1 R 0 [.ref o] [] μ := us_call (gm_53) rfl rfl
theorem dJ1_canEncode_9a6ad_0 : decode cJ1_canEncode_9a6ad 0 = .ok (.iload_n 0, 1) := by decide +kernel
theorem dJ1_canEncode_9a6ad_1 : decode cJ1_canEncode_9a6ad 1 = .ok (.ifCond .lt 14, 3) := by decide +kernel
theorem dJ1_canEncode_9a6ad_4 : decode cJ1_canEncode_9a6ad 4 = .ok (.iload_n 0, 1) := by decide +kernel
theorem dJ1_canEncode_9a6ad_5 : decode cJ1_canEncode_9a6ad 5 = .ok (.sipush 255, 3) := by decide +kernel
theorem dJ1_canEncode_9a6ad_8 : decode cJ1_canEncode_9a6ad 8 = .ok (.if_icmp .gt 7, 3) := by decide +kernel
theorem dJ1_canEncode_9a6ad_11 : decode cJ1_canEncode_9a6ad 11 = .ok (.iconst 1, 1) := by decide +kernel
theorem dJ1_canEncode_9a6ad_12 : decode cJ1_canEncode_9a6ad 12 = .ok (.goto 4, 3) := by decide +kernel
theorem dJ1_canEncode_9a6ad_15 : decode cJ1_canEncode_9a6ad 15 = .ok (.iconst 0, 1) := by decide +kernel
theorem dJ1_canEncode_9a6ad_16 : decode cJ1_canEncode_9a6ad 16 = .ok (.ireturn, 1) := by decide +kernel
theorem u54_0 {d : Nat} {R : gR} {μ : gM} {st : List Value} {x : Int32}  : gc_W (gc_S d) cJ1_canEncode_9a6ad 16 1 R 0 [.int x] st μ ↔ gc_W (gc_S d) cJ1_canEncode_9a6ad 16 1 R 1 [.int x] (.int x :: st) μ := us_iload_n dJ1_canEncode_9a6ad_0 rfl
theorem u54_1 {d : Nat} {R : gR} {μ : gM} {L : List Value} {st : List Value} {x : Int32}  : gc_W (gc_S d) cJ1_canEncode_9a6ad 16 1 R 1 L (.int x :: st) μ ↔ if x < 0 then gc_W (gc_S d) cJ1_canEncode_9a6ad 16 1 R 15 L st μ else gc_W (gc_S d) cJ1_canEncode_9a6ad 16 1 R 4 L st μ := us_iflt dJ1_canEncode_9a6ad_1 rfl
theorem u54_4 {d : Nat} {R : gR} {μ : gM} {st : List Value} {x : Int32}  : gc_W (gc_S d) cJ1_canEncode_9a6ad 16 1 R 4 [.int x] st μ ↔ gc_W (gc_S d) cJ1_canEncode_9a6ad 16 1 R 5 [.int x] (.int x :: st) μ := us_iload_n dJ1_canEncode_9a6ad_4 rfl
theorem u54_5 {d : Nat} {R : gR} {μ : gM} {L : List Value} {st : List Value}   : gc_W (gc_S d) cJ1_canEncode_9a6ad 16 1 R 5 L st μ ↔ gc_W (gc_S d) cJ1_canEncode_9a6ad 16 1 R 8 L (.int 255 :: st) μ := us_sipush dJ1_canEncode_9a6ad_5 ci_sipush_255
theorem u54_8 {d : Nat} {R : gR} {μ : gM} {L : List Value} {st : List Value} {x y : Int32}  : gc_W (gc_S d) cJ1_canEncode_9a6ad 16 1 R 8 L (.int y :: .int x :: st) μ ↔ if y < x then gc_W (gc_S d) cJ1_canEncode_9a6ad 16 1 R 15 L st μ else gc_W (gc_S d) cJ1_canEncode_9a6ad 16 1 R 11 L st μ := us_icgt dJ1_canEncode_9a6ad_8 rfl
theorem u54_11 {d : Nat} {R : gR} {μ : gM} {L : List Value} {st : List Value}   : gc_W (gc_S d) cJ1_canEncode_9a6ad 16 1 R 11 L st μ ↔ gc_W (gc_S d) cJ1_canEncode_9a6ad 16 1 R 12 L (.int 1 :: st) μ := us_iconst dJ1_canEncode_9a6ad_11 ci_iconst_1
theorem u54_12 {d : Nat} {R : gR} {μ : gM} {L : List Value} {st : List Value}  : gc_W (gc_S d) cJ1_canEncode_9a6ad 16 1 R 12 L st μ ↔ gc_W (gc_S d) cJ1_canEncode_9a6ad 16 1 R 16 L st μ := us_goto dJ1_canEncode_9a6ad_12 rfl
theorem u54_15 {d : Nat} {R : gR} {μ : gM} {L : List Value} {st : List Value}   : gc_W (gc_S d) cJ1_canEncode_9a6ad 16 1 R 15 L st μ ↔ gc_W (gc_S d) cJ1_canEncode_9a6ad 16 1 R 16 L (.int 0 :: st) μ := us_iconst dJ1_canEncode_9a6ad_15 ci_iconst_0
theorem u54_16 {d : Nat} {R : gR} {μ : gM} {L : List Value} {v : Int32}  : gc_W (gc_S d) cJ1_canEncode_9a6ad 16 1 R 16 L [.int v] μ ↔ ((v = 0 ∨ v = 1) ∧ R (some (.int v)) μ) := us_zret dJ1_canEncode_9a6ad_16 rfl
theorem s54 {d : Nat} {R : gR} {μ : gM} {a0 : Int32} : gc_S (d + 1) 54 [.int a0] μ R ↔ gc_W (gc_S d) cJ1_canEncode_9a6ad 16 1 R 0 [.int a0] [] μ := us_call (gm_54) rfl rfl
theorem dJ1_indexOfChar_4cfef_0 : decode cJ1_indexOfChar_4cfef 0 = .ok (.iload_n 1, 1) := by decide +kernel
theorem dJ1_indexOfChar_4cfef_1 : decode cJ1_indexOfChar_4cfef 1 = .ok (.i2b, 1) := by decide +kernel
theorem dJ1_indexOfChar_4cfef_2 : decode cJ1_indexOfChar_4cfef 2 = .ok (.istore 4, 2) := by decide +kernel
theorem dJ1_indexOfChar_4cfef_4 : decode cJ1_indexOfChar_4cfef 4 = .ok (.iload_n 2, 1) := by decide +kernel
theorem dJ1_indexOfChar_4cfef_5 : decode cJ1_indexOfChar_4cfef 5 = .ok (.istore 5, 2) := by decide +kernel
theorem dJ1_indexOfChar_4cfef_7 : decode cJ1_indexOfChar_4cfef 7 = .ok (.iload 5, 2) := by decide +kernel
theorem dJ1_indexOfChar_4cfef_9 : decode cJ1_indexOfChar_4cfef 9 = .ok (.iload_n 3, 1) := by decide +kernel
theorem dJ1_indexOfChar_4cfef_10 : decode cJ1_indexOfChar_4cfef 10 = .ok (.if_icmp .ge 21, 3) := by decide +kernel
theorem dJ1_indexOfChar_4cfef_13 : decode cJ1_indexOfChar_4cfef 13 = .ok (.aload_n 0, 1) := by decide +kernel
theorem dJ1_indexOfChar_4cfef_14 : decode cJ1_indexOfChar_4cfef 14 = .ok (.iload 5, 2) := by decide +kernel
theorem dJ1_indexOfChar_4cfef_16 : decode cJ1_indexOfChar_4cfef 16 = .ok (.baload, 1) := by decide +kernel
theorem dJ1_indexOfChar_4cfef_17 : decode cJ1_indexOfChar_4cfef 17 = .ok (.iload 4, 2) := by decide +kernel
theorem dJ1_indexOfChar_4cfef_19 : decode cJ1_indexOfChar_4cfef 19 = .ok (.if_icmp .ne 6, 3) := by decide +kernel
theorem dJ1_indexOfChar_4cfef_22 : decode cJ1_indexOfChar_4cfef 22 = .ok (.iload 5, 2) := by decide +kernel
theorem dJ1_indexOfChar_4cfef_24 : decode cJ1_indexOfChar_4cfef 24 = .ok (.ireturn, 1) := by decide +kernel
theorem dJ1_indexOfChar_4cfef_25 : decode cJ1_indexOfChar_4cfef 25 = .ok (.iinc 5 1, 3) := by decide +kernel
theorem dJ1_indexOfChar_4cfef_28 : decode cJ1_indexOfChar_4cfef 28 = .ok (.goto (-21), 3) := by decide +kernel
theorem dJ1_indexOfChar_4cfef_31 : decode cJ1_indexOfChar_4cfef 31 = .ok (.iconst (-1), 1) := by decide +kernel
theorem dJ1_indexOfChar_4cfef_32 : decode cJ1_indexOfChar_4cfef 32 = .ok (.ireturn, 1) := by decide +kernel
theorem u55_0 {d : Nat} {R : gR} {μ : gM} {l0 l2 l3 l4 l5 : Value} {st : List Value} {x : Int32}  : gc_W (gc_S d) cJ1_indexOfChar_4cfef 16 0 R 0 [l0, .int x, l2, l3, l4, l5] st μ ↔ gc_W (gc_S d) cJ1_indexOfChar_4cfef 16 0 R 1 [l0, .int x, l2, l3, l4, l5] (.int x :: st) μ := us_iload_n dJ1_indexOfChar_4cfef_0 rfl
theorem u55_1 {d : Nat} {R : gR} {μ : gM} {L : List Value} {st : List Value} {x : Int32}  : gc_W (gc_S d) cJ1_indexOfChar_4cfef 16 0 R 1 L (.int x :: st) μ ↔ gc_W (gc_S d) cJ1_indexOfChar_4cfef 16 0 R 2 L (.int (x.toInt8.toInt32) :: st) μ := us_i2b dJ1_indexOfChar_4cfef_1
theorem u55_2 {d : Nat} {R : gR} {μ : gM} {l0 l1 l2 l3 l4 l5 : Value} {st : List Value} {x : Int32} (hs : gc_sk l4 = true) : gc_W (gc_S d) cJ1_indexOfChar_4cfef 16 0 R 2 [l0, l1, l2, l3, l4, l5] (.int x :: st) μ ↔ gc_W (gc_S d) cJ1_indexOfChar_4cfef 16 0 R 4 [l0, l1, l2, l3, .int x, l5] st μ := us_istore dJ1_indexOfChar_4cfef_2 rfl hs
theorem u55_4 {d : Nat} {R : gR} {μ : gM} {l0 l1 l3 l4 l5 : Value} {st : List Value} {x : Int32}  : gc_W (gc_S d) cJ1_indexOfChar_4cfef 16 0 R 4 [l0, l1, .int x, l3, l4, l5] st μ ↔ gc_W (gc_S d) cJ1_indexOfChar_4cfef 16 0 R 5 [l0, l1, .int x, l3, l4, l5] (.int x :: st) μ := us_iload_n dJ1_indexOfChar_4cfef_4 rfl
theorem u55_5 {d : Nat} {R : gR} {μ : gM} {l0 l1 l2 l3 l4 l5 : Value} {st : List Value} {x : Int32} (hs : gc_sk l5 = true) : gc_W (gc_S d) cJ1_indexOfChar_4cfef 16 0 R 5 [l0, l1, l2, l3, l4, l5] (.int x :: st) μ ↔ gc_W (gc_S d) cJ1_indexOfChar_4cfef 16 0 R 7 [l0, l1, l2, l3, l4, .int x] st μ := us_istore dJ1_indexOfChar_4cfef_5 rfl hs
theorem u55_7 {d : Nat} {R : gR} {μ : gM} {l0 l1 l2 l3 l4 : Value} {st : List Value} {x : Int32}  : gc_W (gc_S d) cJ1_indexOfChar_4cfef 16 0 R 7 [l0, l1, l2, l3, l4, .int x] st μ ↔ gc_W (gc_S d) cJ1_indexOfChar_4cfef 16 0 R 9 [l0, l1, l2, l3, l4, .int x] (.int x :: st) μ := us_iload dJ1_indexOfChar_4cfef_7 rfl
theorem u55_9 {d : Nat} {R : gR} {μ : gM} {l0 l1 l2 l4 l5 : Value} {st : List Value} {x : Int32}  : gc_W (gc_S d) cJ1_indexOfChar_4cfef 16 0 R 9 [l0, l1, l2, .int x, l4, l5] st μ ↔ gc_W (gc_S d) cJ1_indexOfChar_4cfef 16 0 R 10 [l0, l1, l2, .int x, l4, l5] (.int x :: st) μ := us_iload_n dJ1_indexOfChar_4cfef_9 rfl
theorem u55_10 {d : Nat} {R : gR} {μ : gM} {L : List Value} {st : List Value} {x y : Int32}  : gc_W (gc_S d) cJ1_indexOfChar_4cfef 16 0 R 10 L (.int y :: .int x :: st) μ ↔ if y ≤ x then gc_W (gc_S d) cJ1_indexOfChar_4cfef 16 0 R 31 L st μ else gc_W (gc_S d) cJ1_indexOfChar_4cfef 16 0 R 13 L st μ := us_icge dJ1_indexOfChar_4cfef_10 rfl
theorem u55_13 {d : Nat} {R : gR} {μ : gM} {l1 l2 l3 l4 l5 : Value} {st : List Value} {x : Nat}  : gc_W (gc_S d) cJ1_indexOfChar_4cfef 16 0 R 13 [.ref x, l1, l2, l3, l4, l5] st μ ↔ gc_W (gc_S d) cJ1_indexOfChar_4cfef 16 0 R 14 [.ref x, l1, l2, l3, l4, l5] (.ref x :: st) μ := us_aload_n dJ1_indexOfChar_4cfef_13 rfl
theorem u55_14 {d : Nat} {R : gR} {μ : gM} {l0 l1 l2 l3 l4 : Value} {st : List Value} {x : Int32}  : gc_W (gc_S d) cJ1_indexOfChar_4cfef 16 0 R 14 [l0, l1, l2, l3, l4, .int x] st μ ↔ gc_W (gc_S d) cJ1_indexOfChar_4cfef 16 0 R 16 [l0, l1, l2, l3, l4, .int x] (.int x :: st) μ := us_iload dJ1_indexOfChar_4cfef_14 rfl
theorem u55_16 {d : Nat} {R : gR} {μ : gM} {L : List Value} {st : List Value} {o : Nat} {i : Int32} (hk : gc_kd o = 33) : gc_W (gc_S d) cJ1_indexOfChar_4cfef 16 0 R 16 L (.int i :: .ref o :: st) μ ↔ (vp_in i (gc_al o) ∧ gc_W (gc_S d) cJ1_indexOfChar_4cfef 16 0 R 17 L (.int (gc_ro o i.toNatClampNeg) :: st) μ) := us_bald dJ1_indexOfChar_4cfef_16 hk
theorem u55_17 {d : Nat} {R : gR} {μ : gM} {l0 l1 l2 l3 l5 : Value} {st : List Value} {x : Int32}  : gc_W (gc_S d) cJ1_indexOfChar_4cfef 16 0 R 17 [l0, l1, l2, l3, .int x, l5] st μ ↔ gc_W (gc_S d) cJ1_indexOfChar_4cfef 16 0 R 19 [l0, l1, l2, l3, .int x, l5] (.int x :: st) μ := us_iload dJ1_indexOfChar_4cfef_17 rfl
theorem u55_19 {d : Nat} {R : gR} {μ : gM} {L : List Value} {st : List Value} {x y : Int32}  : gc_W (gc_S d) cJ1_indexOfChar_4cfef 16 0 R 19 L (.int y :: .int x :: st) μ ↔ if x = y then gc_W (gc_S d) cJ1_indexOfChar_4cfef 16 0 R 22 L st μ else gc_W (gc_S d) cJ1_indexOfChar_4cfef 16 0 R 25 L st μ := us_icne dJ1_indexOfChar_4cfef_19 rfl
theorem u55_22 {d : Nat} {R : gR} {μ : gM} {l0 l1 l2 l3 l4 : Value} {st : List Value} {x : Int32}  : gc_W (gc_S d) cJ1_indexOfChar_4cfef 16 0 R 22 [l0, l1, l2, l3, l4, .int x] st μ ↔ gc_W (gc_S d) cJ1_indexOfChar_4cfef 16 0 R 24 [l0, l1, l2, l3, l4, .int x] (.int x :: st) μ := us_iload dJ1_indexOfChar_4cfef_22 rfl
theorem u55_24 {d : Nat} {R : gR} {μ : gM} {L : List Value} {v : Int32}  : gc_W (gc_S d) cJ1_indexOfChar_4cfef 16 0 R 24 L [.int v] μ ↔ R (some (.int v)) μ := us_iret dJ1_indexOfChar_4cfef_24 rfl
theorem u55_25 {d : Nat} {R : gR} {μ : gM} {l0 l1 l2 l3 l4 : Value} {st : List Value} {x : Int32}  : gc_W (gc_S d) cJ1_indexOfChar_4cfef 16 0 R 25 [l0, l1, l2, l3, l4, .int x] st μ ↔ gc_W (gc_S d) cJ1_indexOfChar_4cfef 16 0 R 28 [l0, l1, l2, l3, l4, .int (x + 1)] st μ := us_iinc dJ1_indexOfChar_4cfef_25 rfl ci_iinc_1
theorem u55_28 {d : Nat} {R : gR} {μ : gM} {L : List Value} {st : List Value}  : gc_W (gc_S d) cJ1_indexOfChar_4cfef 16 0 R 28 L st μ ↔ gc_W (gc_S d) cJ1_indexOfChar_4cfef 16 0 R 7 L st μ := us_goto dJ1_indexOfChar_4cfef_28 rfl
theorem u55_31 {d : Nat} {R : gR} {μ : gM} {L : List Value} {st : List Value}   : gc_W (gc_S d) cJ1_indexOfChar_4cfef 16 0 R 31 L st μ ↔ gc_W (gc_S d) cJ1_indexOfChar_4cfef 16 0 R 32 L (.int (-1) :: st) μ := us_iconst dJ1_indexOfChar_4cfef_31 ci_iconst_m1
theorem u55_32 {d : Nat} {R : gR} {μ : gM} {L : List Value} {v : Int32}  : gc_W (gc_S d) cJ1_indexOfChar_4cfef 16 0 R 32 L [.int v] μ ↔ R (some (.int v)) μ := us_iret dJ1_indexOfChar_4cfef_32 rfl
theorem s55 {d : Nat} {R : gR} {μ : gM} {a1 a2 a3 : Int32} {a0 : Nat} : gc_S (d + 1) 55 [.ref a0, .int a1, .int a2, .int a3] μ R ↔ gc_W (gc_S d) cJ1_indexOfChar_4cfef 16 0 R 0 [.ref a0, .int a1, .int a2, .int a3, .retAddr 0, .retAddr 0] [] μ := us_call (gm_55) rfl rfl
theorem dJ1_indexOf_4cfef_0 : decode cJ1_indexOf_4cfef 0 = .ok (.iload_n 1, 1) := by decide +kernel
theorem dJ1_indexOf_4cfef_1 : decode cJ1_indexOf_4cfef 1 = .ok (.invokestatic 88, 3) := by decide +kernel
theorem dJ1_indexOf_4cfef_4 : decode cJ1_indexOf_4cfef 4 = .ok (.ifCond .ne 5, 3) := by decide +kernel
theorem dJ1_indexOf_4cfef_7 : decode cJ1_indexOf_4cfef 7 = .ok (.iconst (-1), 1) := by decide +kernel
theorem dJ1_indexOf_4cfef_8 : decode cJ1_indexOf_4cfef 8 = .ok (.ireturn, 1) := by decide +kernel
theorem dJ1_indexOf_4cfef_9 : decode cJ1_indexOf_4cfef 9 = .ok (.iload_n 2, 1) := by decide +kernel
theorem dJ1_indexOf_4cfef_10 : decode cJ1_indexOf_4cfef 10 = .ok (.iconst 0, 1) := by decide +kernel
theorem dJ1_indexOf_4cfef_11 : decode cJ1_indexOf_4cfef 11 = .ok (.invokestatic 92, 3) := by decide +kernel
theorem dJ1_indexOf_4cfef_14 : decode cJ1_indexOf_4cfef 14 = .ok (.istore_n 2, 1) := by decide +kernel
theorem dJ1_indexOf_4cfef_15 : decode cJ1_indexOf_4cfef 15 = .ok (.iload_n 3, 1) := by decide +kernel
theorem dJ1_indexOf_4cfef_16 : decode cJ1_indexOf_4cfef 16 = .ok (.aload_n 0, 1) := by decide +kernel
theorem dJ1_indexOf_4cfef_17 : decode cJ1_indexOf_4cfef 17 = .ok (.arraylength, 1) := by decide +kernel
theorem dJ1_indexOf_4cfef_18 : decode cJ1_indexOf_4cfef 18 = .ok (.invokestatic 38, 3) := by decide +kernel
theorem dJ1_indexOf_4cfef_21 : decode cJ1_indexOf_4cfef 21 = .ok (.istore_n 3, 1) := by decide +kernel
theorem dJ1_indexOf_4cfef_22 : decode cJ1_indexOf_4cfef 22 = .ok (.iload_n 2, 1) := by decide +kernel
theorem dJ1_indexOf_4cfef_23 : decode cJ1_indexOf_4cfef 23 = .ok (.iload_n 3, 1) := by decide +kernel
theorem dJ1_indexOf_4cfef_24 : decode cJ1_indexOf_4cfef 24 = .ok (.if_icmp .lt 5, 3) := by decide +kernel
theorem dJ1_indexOf_4cfef_27 : decode cJ1_indexOf_4cfef 27 = .ok (.iconst (-1), 1) := by decide +kernel
theorem dJ1_indexOf_4cfef_28 : decode cJ1_indexOf_4cfef 28 = .ok (.ireturn, 1) := by decide +kernel
theorem dJ1_indexOf_4cfef_29 : decode cJ1_indexOf_4cfef 29 = .ok (.aload_n 0, 1) := by decide +kernel
theorem dJ1_indexOf_4cfef_30 : decode cJ1_indexOf_4cfef 30 = .ok (.iload_n 1, 1) := by decide +kernel
theorem dJ1_indexOf_4cfef_31 : decode cJ1_indexOf_4cfef 31 = .ok (.iload_n 2, 1) := by decide +kernel
theorem dJ1_indexOf_4cfef_32 : decode cJ1_indexOf_4cfef 32 = .ok (.iload_n 3, 1) := by decide +kernel
theorem dJ1_indexOf_4cfef_33 : decode cJ1_indexOf_4cfef 33 = .ok (.invokestatic 95, 3) := by decide +kernel
theorem dJ1_indexOf_4cfef_36 : decode cJ1_indexOf_4cfef 36 = .ok (.ireturn, 1) := by decide +kernel
theorem u56_0 {d : Nat} {R : gR} {μ : gM} {l0 l2 l3 : Value} {st : List Value} {x : Int32}  : gc_W (gc_S d) cJ1_indexOf_4cfef 16 0 R 0 [l0, .int x, l2, l3] st μ ↔ gc_W (gc_S d) cJ1_indexOf_4cfef 16 0 R 1 [l0, .int x, l2, l3] (.int x :: st) μ := us_iload_n dJ1_indexOf_4cfef_0 rfl
theorem u56_1 {d : Nat} {R : gR} {μ : gM} {L : List Value}  {a0 : Int32}  : gc_W (gc_S d) cJ1_indexOf_4cfef 16 0 R 1 L [.int a0] μ ↔ gc_S d 54 [.int a0] μ (fun v μ' => gc_W (gc_S d) cJ1_indexOf_4cfef 16 0 R 4 L (v.toList ++ []) μ') := us_stat dJ1_indexOf_4cfef_1 gs_16_88 gne_16_88 gn_16_88 gc_16_88_97 rfl rfl rfl rfl
theorem u56_4 {d : Nat} {R : gR} {μ : gM} {L : List Value} {st : List Value} {x : Int32}  : gc_W (gc_S d) cJ1_indexOf_4cfef 16 0 R 4 L (.int x :: st) μ ↔ if x = 0 then gc_W (gc_S d) cJ1_indexOf_4cfef 16 0 R 7 L st μ else gc_W (gc_S d) cJ1_indexOf_4cfef 16 0 R 9 L st μ := us_ifne dJ1_indexOf_4cfef_4 rfl
theorem u56_7 {d : Nat} {R : gR} {μ : gM} {L : List Value} {st : List Value}   : gc_W (gc_S d) cJ1_indexOf_4cfef 16 0 R 7 L st μ ↔ gc_W (gc_S d) cJ1_indexOf_4cfef 16 0 R 8 L (.int (-1) :: st) μ := us_iconst dJ1_indexOf_4cfef_7 ci_iconst_m1
theorem u56_8 {d : Nat} {R : gR} {μ : gM} {L : List Value} {v : Int32}  : gc_W (gc_S d) cJ1_indexOf_4cfef 16 0 R 8 L [.int v] μ ↔ R (some (.int v)) μ := us_iret dJ1_indexOf_4cfef_8 rfl
theorem u56_9 {d : Nat} {R : gR} {μ : gM} {l0 l1 l3 : Value} {st : List Value} {x : Int32}  : gc_W (gc_S d) cJ1_indexOf_4cfef 16 0 R 9 [l0, l1, .int x, l3] st μ ↔ gc_W (gc_S d) cJ1_indexOf_4cfef 16 0 R 10 [l0, l1, .int x, l3] (.int x :: st) μ := us_iload_n dJ1_indexOf_4cfef_9 rfl
theorem u56_10 {d : Nat} {R : gR} {μ : gM} {L : List Value} {st : List Value}   : gc_W (gc_S d) cJ1_indexOf_4cfef 16 0 R 10 L st μ ↔ gc_W (gc_S d) cJ1_indexOf_4cfef 16 0 R 11 L (.int 0 :: st) μ := us_iconst dJ1_indexOf_4cfef_10 ci_iconst_0
theorem u56_11 {d : Nat} {R : gR} {μ : gM} {L : List Value} {x y : Int32}  : gc_W (gc_S d) cJ1_indexOf_4cfef 16 0 R 11 L [.int y, .int x] μ ↔ gc_W (gc_S d) cJ1_indexOf_4cfef 16 0 R 14 L [.int (if x < y then y else x)] μ := us_max dJ1_indexOf_4cfef_11 gs_16_92 rfl
theorem u56_14 {d : Nat} {R : gR} {μ : gM} {l0 l1 l2 l3 : Value} {st : List Value} {x : Int32} (hs : gc_sk l2 = true) : gc_W (gc_S d) cJ1_indexOf_4cfef 16 0 R 14 [l0, l1, l2, l3] (.int x :: st) μ ↔ gc_W (gc_S d) cJ1_indexOf_4cfef 16 0 R 15 [l0, l1, .int x, l3] st μ := us_istore_n dJ1_indexOf_4cfef_14 rfl hs
theorem u56_15 {d : Nat} {R : gR} {μ : gM} {l0 l1 l2 : Value} {st : List Value} {x : Int32}  : gc_W (gc_S d) cJ1_indexOf_4cfef 16 0 R 15 [l0, l1, l2, .int x] st μ ↔ gc_W (gc_S d) cJ1_indexOf_4cfef 16 0 R 16 [l0, l1, l2, .int x] (.int x :: st) μ := us_iload_n dJ1_indexOf_4cfef_15 rfl
theorem u56_16 {d : Nat} {R : gR} {μ : gM} {l1 l2 l3 : Value} {st : List Value} {x : Nat}  : gc_W (gc_S d) cJ1_indexOf_4cfef 16 0 R 16 [.ref x, l1, l2, l3] st μ ↔ gc_W (gc_S d) cJ1_indexOf_4cfef 16 0 R 17 [.ref x, l1, l2, l3] (.ref x :: st) μ := us_aload_n dJ1_indexOf_4cfef_16 rfl
theorem u56_17 {d : Nat} {R : gR} {μ : gM} {L : List Value} {st : List Value} {o : Nat} (hk : gc_kd o = 33) : gc_W (gc_S d) cJ1_indexOf_4cfef 16 0 R 17 L (.ref o :: st) μ ↔ gc_W (gc_S d) cJ1_indexOf_4cfef 16 0 R 18 L (.int (nI (gc_al o)) :: st) μ := us_alen3 dJ1_indexOf_4cfef_17 hk
theorem u56_18 {d : Nat} {R : gR} {μ : gM} {L : List Value} {x y : Int32}  : gc_W (gc_S d) cJ1_indexOf_4cfef 16 0 R 18 L [.int y, .int x] μ ↔ gc_W (gc_S d) cJ1_indexOf_4cfef 16 0 R 21 L [.int (if y < x then y else x)] μ := us_min dJ1_indexOf_4cfef_18 gs_16_38 rfl
theorem u56_21 {d : Nat} {R : gR} {μ : gM} {l0 l1 l2 l3 : Value} {st : List Value} {x : Int32} (hs : gc_sk l3 = true) : gc_W (gc_S d) cJ1_indexOf_4cfef 16 0 R 21 [l0, l1, l2, l3] (.int x :: st) μ ↔ gc_W (gc_S d) cJ1_indexOf_4cfef 16 0 R 22 [l0, l1, l2, .int x] st μ := us_istore_n dJ1_indexOf_4cfef_21 rfl hs
theorem u56_22 {d : Nat} {R : gR} {μ : gM} {l0 l1 l3 : Value} {st : List Value} {x : Int32}  : gc_W (gc_S d) cJ1_indexOf_4cfef 16 0 R 22 [l0, l1, .int x, l3] st μ ↔ gc_W (gc_S d) cJ1_indexOf_4cfef 16 0 R 23 [l0, l1, .int x, l3] (.int x :: st) μ := us_iload_n dJ1_indexOf_4cfef_22 rfl
theorem u56_23 {d : Nat} {R : gR} {μ : gM} {l0 l1 l2 : Value} {st : List Value} {x : Int32}  : gc_W (gc_S d) cJ1_indexOf_4cfef 16 0 R 23 [l0, l1, l2, .int x] st μ ↔ gc_W (gc_S d) cJ1_indexOf_4cfef 16 0 R 24 [l0, l1, l2, .int x] (.int x :: st) μ := us_iload_n dJ1_indexOf_4cfef_23 rfl
theorem u56_24 {d : Nat} {R : gR} {μ : gM} {L : List Value} {st : List Value} {x y : Int32}  : gc_W (gc_S d) cJ1_indexOf_4cfef 16 0 R 24 L (.int y :: .int x :: st) μ ↔ if x < y then gc_W (gc_S d) cJ1_indexOf_4cfef 16 0 R 29 L st μ else gc_W (gc_S d) cJ1_indexOf_4cfef 16 0 R 27 L st μ := us_iclt dJ1_indexOf_4cfef_24 rfl
theorem u56_27 {d : Nat} {R : gR} {μ : gM} {L : List Value} {st : List Value}   : gc_W (gc_S d) cJ1_indexOf_4cfef 16 0 R 27 L st μ ↔ gc_W (gc_S d) cJ1_indexOf_4cfef 16 0 R 28 L (.int (-1) :: st) μ := us_iconst dJ1_indexOf_4cfef_27 ci_iconst_m1
theorem u56_28 {d : Nat} {R : gR} {μ : gM} {L : List Value} {v : Int32}  : gc_W (gc_S d) cJ1_indexOf_4cfef 16 0 R 28 L [.int v] μ ↔ R (some (.int v)) μ := us_iret dJ1_indexOf_4cfef_28 rfl
theorem u56_29 {d : Nat} {R : gR} {μ : gM} {l1 l2 l3 : Value} {st : List Value} {x : Nat}  : gc_W (gc_S d) cJ1_indexOf_4cfef 16 0 R 29 [.ref x, l1, l2, l3] st μ ↔ gc_W (gc_S d) cJ1_indexOf_4cfef 16 0 R 30 [.ref x, l1, l2, l3] (.ref x :: st) μ := us_aload_n dJ1_indexOf_4cfef_29 rfl
theorem u56_30 {d : Nat} {R : gR} {μ : gM} {l0 l2 l3 : Value} {st : List Value} {x : Int32}  : gc_W (gc_S d) cJ1_indexOf_4cfef 16 0 R 30 [l0, .int x, l2, l3] st μ ↔ gc_W (gc_S d) cJ1_indexOf_4cfef 16 0 R 31 [l0, .int x, l2, l3] (.int x :: st) μ := us_iload_n dJ1_indexOf_4cfef_30 rfl
theorem u56_31 {d : Nat} {R : gR} {μ : gM} {l0 l1 l3 : Value} {st : List Value} {x : Int32}  : gc_W (gc_S d) cJ1_indexOf_4cfef 16 0 R 31 [l0, l1, .int x, l3] st μ ↔ gc_W (gc_S d) cJ1_indexOf_4cfef 16 0 R 32 [l0, l1, .int x, l3] (.int x :: st) μ := us_iload_n dJ1_indexOf_4cfef_31 rfl
theorem u56_32 {d : Nat} {R : gR} {μ : gM} {l0 l1 l2 : Value} {st : List Value} {x : Int32}  : gc_W (gc_S d) cJ1_indexOf_4cfef 16 0 R 32 [l0, l1, l2, .int x] st μ ↔ gc_W (gc_S d) cJ1_indexOf_4cfef 16 0 R 33 [l0, l1, l2, .int x] (.int x :: st) μ := us_iload_n dJ1_indexOf_4cfef_32 rfl
theorem u56_33 {d : Nat} {R : gR} {μ : gM} {L : List Value}  {a1 a2 a3 : Int32} {a0 : Nat}  : gc_W (gc_S d) cJ1_indexOf_4cfef 16 0 R 33 L [.int a3, .int a2, .int a1, .ref a0] μ ↔ gc_S d 55 [.ref a0, .int a1, .int a2, .int a3] μ (fun v μ' => gc_W (gc_S d) cJ1_indexOf_4cfef 16 0 R 36 L (v.toList ++ []) μ') := us_stat dJ1_indexOf_4cfef_33 gs_16_95 gne_16_95 gn_16_95 gc_16_95_97 rfl rfl rfl rfl
theorem u56_36 {d : Nat} {R : gR} {μ : gM} {L : List Value} {v : Int32}  : gc_W (gc_S d) cJ1_indexOf_4cfef 16 0 R 36 L [.int v] μ ↔ R (some (.int v)) μ := us_iret dJ1_indexOf_4cfef_36 rfl
theorem s56 {d : Nat} {R : gR} {μ : gM} {a1 a2 a3 : Int32} {a0 : Nat} : gc_S (d + 1) 56 [.ref a0, .int a1, .int a2, .int a3] μ R ↔ gc_W (gc_S d) cJ1_indexOf_4cfef 16 0 R 0 [.ref a0, .int a1, .int a2, .int a3] [] μ := us_call (gm_56) rfl rfl
theorem dJ0_indexOf_7cf53_0 : decode cJ0_indexOf_7cf53 0 = .ok (.aload_n 0, 1) := by decide +kernel
theorem dJ0_indexOf_7cf53_1 : decode cJ0_indexOf_7cf53 1 = .ok (.invokevirtual 492, 3) := by decide +kernel
theorem dJ0_indexOf_7cf53_4 : decode cJ0_indexOf_7cf53 4 = .ok (.ifCond .eq 19, 3) := by decide +kernel
theorem dJ0_indexOf_7cf53_7 : decode cJ0_indexOf_7cf53 7 = .ok (.aload_n 0, 1) := by decide +kernel
theorem dJ0_indexOf_7cf53_8 : decode cJ0_indexOf_7cf53 8 = .ok (.getfield 9, 3) := by decide +kernel
theorem dJ0_indexOf_7cf53_11 : decode cJ0_indexOf_7cf53 11 = .ok (.iload_n 1, 1) := by decide +kernel
theorem dJ0_indexOf_7cf53_12 : decode cJ0_indexOf_7cf53 12 = .ok (.iload_n 2, 1) := by decide +kernel
theorem dJ0_indexOf_7cf53_13 : decode cJ0_indexOf_7cf53 13 = .ok (.aload_n 0, 1) := by decide +kernel
theorem dJ0_indexOf_7cf53_14 : decode cJ0_indexOf_7cf53 14 = .ok (.invokevirtual 505, 3) := by decide +kernel
theorem dJ0_indexOf_7cf53_17 : decode cJ0_indexOf_7cf53 17 = .ok (.invokestatic 637, 3) := by decide +kernel
theorem dJ0_indexOf_7cf53_20 : decode cJ0_indexOf_7cf53 20 = .ok (.goto 16, 3) := by decide +kernel
theorem dJ0_indexOf_7cf53_23 : decode cJ0_indexOf_7cf53 23 = .ok (.aload_n 0, 1) := by decide +kernel
theorem dJ0_indexOf_7cf53_24 : decode cJ0_indexOf_7cf53 24 = .ok (.getfield 9, 3) := by decide +kernel
theorem dJ0_indexOf_7cf53_27 : decode cJ0_indexOf_7cf53 27 = .ok (.iload_n 1, 1) := by decide +kernel
theorem dJ0_indexOf_7cf53_28 : decode cJ0_indexOf_7cf53 28 = .ok (.iload_n 2, 1) := by decide +kernel
theorem dJ0_indexOf_7cf53_29 : decode cJ0_indexOf_7cf53 29 = .ok (.aload_n 0, 1) := by decide +kernel
theorem dJ0_indexOf_7cf53_30 : decode cJ0_indexOf_7cf53 30 = .ok (.invokevirtual 505, 3) := by decide +kernel
theorem dJ0_indexOf_7cf53_33 : decode cJ0_indexOf_7cf53 33 = .ok (.invokestatic 640, 3) := by decide +kernel
theorem dJ0_indexOf_7cf53_36 : decode cJ0_indexOf_7cf53 36 = .ok (.ireturn, 1) := by decide +kernel
theorem u57_0 {d : Nat} {R : gR} {μ : gM} {l1 l2 : Value} {st : List Value} {x : Nat}  : gc_W (gc_S d) cJ0_indexOf_7cf53 15 0 R 0 [.ref x, l1, l2] st μ ↔ gc_W (gc_S d) cJ0_indexOf_7cf53 15 0 R 1 [.ref x, l1, l2] (.ref x :: st) μ := us_aload_n dJ0_indexOf_7cf53_0 rfl
theorem u57_1 {d : Nat} {R : gR} {μ : gM} {L : List Value} {o : Nat} (hk : gc_kd o = 32) : gc_W (gc_S d) cJ0_indexOf_7cf53 15 0 R 1 L [.ref o] μ ↔ gc_S d 52 [.ref o] μ (fun v μ' => gc_W (gc_S d) cJ0_indexOf_7cf53 15 0 R 4 L (v.toList ++ []) μ') := us_virt dJ0_indexOf_7cf53_1 gn_15_492 gc_15_492_15 hk rfl rfl rfl rfl rfl
theorem u57_4 {d : Nat} {R : gR} {μ : gM} {L : List Value} {st : List Value} {x : Int32}  : gc_W (gc_S d) cJ0_indexOf_7cf53 15 0 R 4 L (.int x :: st) μ ↔ if x = 0 then gc_W (gc_S d) cJ0_indexOf_7cf53 15 0 R 23 L st μ else gc_W (gc_S d) cJ0_indexOf_7cf53 15 0 R 7 L st μ := us_ifeq dJ0_indexOf_7cf53_4 rfl
theorem u57_7 {d : Nat} {R : gR} {μ : gM} {l1 l2 : Value} {st : List Value} {x : Nat}  : gc_W (gc_S d) cJ0_indexOf_7cf53 15 0 R 7 [.ref x, l1, l2] st μ ↔ gc_W (gc_S d) cJ0_indexOf_7cf53 15 0 R 8 [.ref x, l1, l2] (.ref x :: st) μ := us_aload_n dJ0_indexOf_7cf53_7 rfl
theorem u57_8 {d : Nat} {R : gR} {μ : gM} {L : List Value} {st : List Value} {o : Nat} (hk : gc_kd o = 32) : gc_W (gc_S d) cJ0_indexOf_7cf53 15 0 R 8 L (.ref o :: st) μ ↔ gc_W (gc_S d) cJ0_indexOf_7cf53 15 0 R 11 L (gc_fv o 0 (fun _ _ => 0) :: st) μ := us_gets dJ0_indexOf_7cf53_8 (by decide +kernel) (by decide +kernel) hk
theorem u57_11 {d : Nat} {R : gR} {μ : gM} {l0 l2 : Value} {st : List Value} {x : Int32}  : gc_W (gc_S d) cJ0_indexOf_7cf53 15 0 R 11 [l0, .int x, l2] st μ ↔ gc_W (gc_S d) cJ0_indexOf_7cf53 15 0 R 12 [l0, .int x, l2] (.int x :: st) μ := us_iload_n dJ0_indexOf_7cf53_11 rfl
theorem u57_12 {d : Nat} {R : gR} {μ : gM} {l0 l1 : Value} {st : List Value} {x : Int32}  : gc_W (gc_S d) cJ0_indexOf_7cf53 15 0 R 12 [l0, l1, .int x] st μ ↔ gc_W (gc_S d) cJ0_indexOf_7cf53 15 0 R 13 [l0, l1, .int x] (.int x :: st) μ := us_iload_n dJ0_indexOf_7cf53_12 rfl
theorem u57_13 {d : Nat} {R : gR} {μ : gM} {l1 l2 : Value} {st : List Value} {x : Nat}  : gc_W (gc_S d) cJ0_indexOf_7cf53 15 0 R 13 [.ref x, l1, l2] st μ ↔ gc_W (gc_S d) cJ0_indexOf_7cf53 15 0 R 14 [.ref x, l1, l2] (.ref x :: st) μ := us_aload_n dJ0_indexOf_7cf53_13 rfl
theorem u57_14 {d : Nat} {R : gR} {μ : gM} {L : List Value} {o : Nat} {s0 s1 s2 : Value} (hk : gc_kd o = 32) : gc_W (gc_S d) cJ0_indexOf_7cf53 15 0 R 14 L [.ref o, s0, s1, s2] μ ↔ gc_S d 251 [.ref o] μ (fun v μ' => gc_W (gc_S d) cJ0_indexOf_7cf53 15 0 R 17 L (v.toList ++ [s0, s1, s2]) μ') := us_virt dJ0_indexOf_7cf53_14 gn_15_505 gc_15_505_15 hk rfl rfl rfl rfl rfl
theorem u57_17 {d : Nat} {R : gR} {μ : gM} {L : List Value}  {a1 a2 a3 : Int32} {a0 : Nat}  : gc_W (gc_S d) cJ0_indexOf_7cf53 15 0 R 17 L [.int a3, .int a2, .int a1, .ref a0] μ ↔ gc_S d 56 [.ref a0, .int a1, .int a2, .int a3] μ (fun v μ' => gc_W (gc_S d) cJ0_indexOf_7cf53 15 0 R 20 L (v.toList ++ []) μ') := us_stat dJ0_indexOf_7cf53_17 gs_15_637 gne_15_637 gn_15_637 gc_15_637_97 rfl rfl rfl rfl
theorem u57_20 {d : Nat} {R : gR} {μ : gM} {L : List Value} {st : List Value}  : gc_W (gc_S d) cJ0_indexOf_7cf53 15 0 R 20 L st μ ↔ gc_W (gc_S d) cJ0_indexOf_7cf53 15 0 R 36 L st μ := us_goto dJ0_indexOf_7cf53_20 rfl
theorem u57_23 {d : Nat} {R : gR} {μ : gM} {l1 l2 : Value} {st : List Value} {x : Nat}  : gc_W (gc_S d) cJ0_indexOf_7cf53 15 0 R 23 [.ref x, l1, l2] st μ ↔ gc_W (gc_S d) cJ0_indexOf_7cf53 15 0 R 24 [.ref x, l1, l2] (.ref x :: st) μ := us_aload_n dJ0_indexOf_7cf53_23 rfl
theorem u57_24 {d : Nat} {R : gR} {μ : gM} {L : List Value} {st : List Value} {o : Nat} (hk : gc_kd o = 32) : gc_W (gc_S d) cJ0_indexOf_7cf53 15 0 R 24 L (.ref o :: st) μ ↔ gc_W (gc_S d) cJ0_indexOf_7cf53 15 0 R 27 L (gc_fv o 0 (fun _ _ => 0) :: st) μ := us_gets dJ0_indexOf_7cf53_24 (by decide +kernel) (by decide +kernel) hk
theorem u57_27 {d : Nat} {R : gR} {μ : gM} {l0 l2 : Value} {st : List Value} {x : Int32}  : gc_W (gc_S d) cJ0_indexOf_7cf53 15 0 R 27 [l0, .int x, l2] st μ ↔ gc_W (gc_S d) cJ0_indexOf_7cf53 15 0 R 28 [l0, .int x, l2] (.int x :: st) μ := us_iload_n dJ0_indexOf_7cf53_27 rfl
theorem u57_28 {d : Nat} {R : gR} {μ : gM} {l0 l1 : Value} {st : List Value} {x : Int32}  : gc_W (gc_S d) cJ0_indexOf_7cf53 15 0 R 28 [l0, l1, .int x] st μ ↔ gc_W (gc_S d) cJ0_indexOf_7cf53 15 0 R 29 [l0, l1, .int x] (.int x :: st) μ := us_iload_n dJ0_indexOf_7cf53_28 rfl
theorem u57_29 {d : Nat} {R : gR} {μ : gM} {l1 l2 : Value} {st : List Value} {x : Nat}  : gc_W (gc_S d) cJ0_indexOf_7cf53 15 0 R 29 [.ref x, l1, l2] st μ ↔ gc_W (gc_S d) cJ0_indexOf_7cf53 15 0 R 30 [.ref x, l1, l2] (.ref x :: st) μ := us_aload_n dJ0_indexOf_7cf53_29 rfl
theorem u57_30 {d : Nat} {R : gR} {μ : gM} {L : List Value} {o : Nat} {s0 s1 s2 : Value} (hk : gc_kd o = 32) : gc_W (gc_S d) cJ0_indexOf_7cf53 15 0 R 30 L [.ref o, s0, s1, s2] μ ↔ gc_S d 251 [.ref o] μ (fun v μ' => gc_W (gc_S d) cJ0_indexOf_7cf53 15 0 R 33 L (v.toList ++ [s0, s1, s2]) μ') := us_virt dJ0_indexOf_7cf53_30 gn_15_505 gc_15_505_15 hk rfl rfl rfl rfl rfl
theorem u57_36 {d : Nat} {R : gR} {μ : gM} {L : List Value} {v : Int32}  : gc_W (gc_S d) cJ0_indexOf_7cf53 15 0 R 36 L [.int v] μ ↔ R (some (.int v)) μ := us_iret dJ0_indexOf_7cf53_36 rfl
theorem s57 {d : Nat} {R : gR} {μ : gM} {o : Nat} {a0 a1 : Int32} : gc_S (d + 1) 57 [.ref o, .int a0, .int a1] μ R ↔ gc_W (gc_S d) cJ0_indexOf_7cf53 15 0 R 0 [.ref o, .int a0, .int a1] [] μ := us_call (gm_57) rfl rfl
theorem dJ0_indexOf_0f7a4_0 : decode cJ0_indexOf_0f7a4 0 = .ok (.aload_n 0, 1) := by decide +kernel
theorem dJ0_indexOf_0f7a4_1 : decode cJ0_indexOf_0f7a4 1 = .ok (.iload_n 1, 1) := by decide +kernel
theorem dJ0_indexOf_0f7a4_2 : decode cJ0_indexOf_0f7a4 2 = .ok (.iconst 0, 1) := by decide +kernel
theorem dJ0_indexOf_0f7a4_3 : decode cJ0_indexOf_0f7a4 3 = .ok (.invokevirtual 633, 3) := by decide +kernel
theorem dJ0_indexOf_0f7a4_6 : decode cJ0_indexOf_0f7a4 6 = .ok (.ireturn, 1) := by decide +kernel
theorem u58_0 {d : Nat} {R : gR} {μ : gM} {l1 : Value} {st : List Value} {x : Nat}  : gc_W (gc_S d) cJ0_indexOf_0f7a4 15 0 R 0 [.ref x, l1] st μ ↔ gc_W (gc_S d) cJ0_indexOf_0f7a4 15 0 R 1 [.ref x, l1] (.ref x :: st) μ := us_aload_n dJ0_indexOf_0f7a4_0 rfl
theorem u58_1 {d : Nat} {R : gR} {μ : gM} {l0 : Value} {st : List Value} {x : Int32}  : gc_W (gc_S d) cJ0_indexOf_0f7a4 15 0 R 1 [l0, .int x] st μ ↔ gc_W (gc_S d) cJ0_indexOf_0f7a4 15 0 R 2 [l0, .int x] (.int x :: st) μ := us_iload_n dJ0_indexOf_0f7a4_1 rfl
theorem u58_2 {d : Nat} {R : gR} {μ : gM} {L : List Value} {st : List Value}   : gc_W (gc_S d) cJ0_indexOf_0f7a4 15 0 R 2 L st μ ↔ gc_W (gc_S d) cJ0_indexOf_0f7a4 15 0 R 3 L (.int 0 :: st) μ := us_iconst dJ0_indexOf_0f7a4_2 ci_iconst_0
theorem u58_3 {d : Nat} {R : gR} {μ : gM} {L : List Value} {o : Nat} {a0 a1 : Int32} (hk : gc_kd o = 32) : gc_W (gc_S d) cJ0_indexOf_0f7a4 15 0 R 3 L [.int a1, .int a0, .ref o] μ ↔ gc_S d 57 [.ref o, .int a0, .int a1] μ (fun v μ' => gc_W (gc_S d) cJ0_indexOf_0f7a4 15 0 R 6 L (v.toList ++ []) μ') := us_virt dJ0_indexOf_0f7a4_3 gn_15_633 gc_15_633_15 hk rfl rfl rfl rfl rfl
theorem u58_6 {d : Nat} {R : gR} {μ : gM} {L : List Value} {v : Int32}  : gc_W (gc_S d) cJ0_indexOf_0f7a4 15 0 R 6 L [.int v] μ ↔ R (some (.int v)) μ := us_iret dJ0_indexOf_0f7a4_6 rfl
theorem s58 {d : Nat} {R : gR} {μ : gM} {o : Nat} {a0 : Int32} : gc_S (d + 1) 58 [.ref o, .int a0] μ R ↔ gc_W (gc_S d) cJ0_indexOf_0f7a4 15 0 R 0 [.ref o, .int a0] [] μ := us_call (gm_58) rfl rfl
theorem dX2_readAll_0 : decode cX2_readAll 0 = .ok (.aload_n 0, 1) := by decide +kernel
theorem dX2_readAll_1 : decode cX2_readAll 1 = .ok (.iload_n 1, 1) := by decide +kernel
theorem dX2_readAll_2 : decode cX2_readAll 2 = .ok (.invokevirtual 64, 3) := by decide +kernel
theorem dX2_readAll_5 : decode cX2_readAll 5 = .ok (.istore_n 2, 1) := by decide +kernel
theorem dX2_readAll_6 : decode cX2_readAll 6 = .ok (.aload_n 0, 1) := by decide +kernel
theorem dX2_readAll_7 : decode cX2_readAll 7 = .ok (.getfield 24, 3) := by decide +kernel
theorem dX2_readAll_10 : decode cX2_readAll 10 = .ok (.getfield 41, 3) := by decide +kernel
theorem dX2_readAll_13 : decode cX2_readAll 13 = .ok (.istore_n 3, 1) := by decide +kernel
theorem dX2_readAll_14 : decode cX2_readAll 14 = .ok (.iload_n 3, 1) := by decide +kernel
theorem dX2_readAll_15 : decode cX2_readAll 15 = .ok (.ifCond .le 41, 3) := by decide +kernel
theorem dX2_readAll_18 : decode cX2_readAll 18 = .ok (.iload_n 2, 1) := by decide +kernel
theorem dX2_readAll_19 : decode cX2_readAll 19 = .ok (.ifCond .eq 37, 3) := by decide +kernel
theorem dX2_readAll_22 : decode cX2_readAll 22 = .ok (.aload_n 0, 1) := by decide +kernel
theorem dX2_readAll_23 : decode cX2_readAll 23 = .ok (.invokevirtual 54, 3) := by decide +kernel
theorem dX2_readAll_26 : decode cX2_readAll 26 = .ok (.bipush 38, 2) := by decide +kernel
theorem dX2_readAll_28 : decode cX2_readAll 28 = .ok (.if_icmp .ne 28, 3) := by decide +kernel
theorem dX2_readAll_31 : decode cX2_readAll 31 = .ok (.aload_n 0, 1) := by decide +kernel
theorem dX2_readAll_32 : decode cX2_readAll 32 = .ok (.invokevirtual 58, 3) := by decide +kernel
theorem dX2_readAll_35 : decode cX2_readAll 35 = .ok (.aload_n 0, 1) := by decide +kernel
theorem dX2_readAll_36 : decode cX2_readAll 36 = .ok (.iload_n 1, 1) := by decide +kernel
theorem dX2_readAll_37 : decode cX2_readAll 37 = .ok (.invokevirtual 64, 3) := by decide +kernel
theorem dX2_readAll_40 : decode cX2_readAll 40 = .ok (.istore_n 2, 1) := by decide +kernel
theorem dX2_readAll_41 : decode cX2_readAll 41 = .ok (.aload_n 0, 1) := by decide +kernel
theorem dX2_readAll_42 : decode cX2_readAll 42 = .ok (.getfield 14, 3) := by decide +kernel
theorem dX2_readAll_45 : decode cX2_readAll 45 = .ok (.bipush (-38), 2) := by decide +kernel
theorem dX2_readAll_47 : decode cX2_readAll 47 = .ok (.invokevirtual 61, 3) := by decide +kernel
theorem dX2_readAll_50 : decode cX2_readAll 50 = .ok (.iinc 3 (-1), 3) := by decide +kernel
theorem dX2_readAll_53 : decode cX2_readAll 53 = .ok (.goto (-39), 3) := by decide +kernel
theorem dX2_readAll_56 : decode cX2_readAll 56 = .ok (.iload_n 2, 1) := by decide +kernel
theorem dX2_readAll_57 : decode cX2_readAll 57 = .ok (.ireturn, 1) := by decide +kernel
theorem u59_0 {d : Nat} {R : gR} {μ : gM} {l1 l2 l3 : Value} {st : List Value} {x : Nat}  : gc_W (gc_S d) cX2_readAll 2 1 R 0 [.ref x, l1, l2, l3] st μ ↔ gc_W (gc_S d) cX2_readAll 2 1 R 1 [.ref x, l1, l2, l3] (.ref x :: st) μ := us_aload_n dX2_readAll_0 rfl
theorem u59_1 {d : Nat} {R : gR} {μ : gM} {l0 l2 l3 : Value} {st : List Value} {x : Int32}  : gc_W (gc_S d) cX2_readAll 2 1 R 1 [l0, .int x, l2, l3] st μ ↔ gc_W (gc_S d) cX2_readAll 2 1 R 2 [l0, .int x, l2, l3] (.int x :: st) μ := us_iload_n dX2_readAll_1 rfl
theorem u59_2 {d : Nat} {R : gR} {μ : gM} {L : List Value} {o : Nat} {a0 : Int32} (hk : gc_kd o = 2) : gc_W (gc_S d) cX2_readAll 2 1 R 2 L [.int a0, .ref o] μ ↔ gc_S d 60 [.ref o, .int a0] μ (fun v μ' => gc_W (gc_S d) cX2_readAll 2 1 R 5 L (v.toList ++ []) μ') := us_virt dX2_readAll_2 gn_2_64 gc_2_64_2 hk rfl rfl rfl rfl rfl
theorem u59_5 {d : Nat} {R : gR} {μ : gM} {l0 l1 l2 l3 : Value} {st : List Value} {x : Int32} (hs : gc_sk l2 = true) : gc_W (gc_S d) cX2_readAll 2 1 R 5 [l0, l1, l2, l3] (.int x :: st) μ ↔ gc_W (gc_S d) cX2_readAll 2 1 R 6 [l0, l1, .int x, l3] st μ := us_istore_n dX2_readAll_5 rfl hs
theorem u59_6 {d : Nat} {R : gR} {μ : gM} {l1 l2 l3 : Value} {st : List Value} {x : Nat}  : gc_W (gc_S d) cX2_readAll 2 1 R 6 [.ref x, l1, l2, l3] st μ ↔ gc_W (gc_S d) cX2_readAll 2 1 R 7 [.ref x, l1, l2, l3] (.ref x :: st) μ := us_aload_n dX2_readAll_6 rfl
theorem u59_7 {d : Nat} {R : gR} {μ : gM} {L : List Value} {st : List Value} {o : Nat} (hk : gc_kd o = 2) : gc_W (gc_S d) cX2_readAll 2 1 R 7 L (.ref o :: st) μ ↔ gc_W (gc_S d) cX2_readAll 2 1 R 10 L (gc_fv o 2 μ :: st) μ := us_getf dX2_readAll_7 gf_2_24 hk
theorem u59_10 {d : Nat} {R : gR} {μ : gM} {L : List Value} {st : List Value} {o : Nat} (hk : gc_kd o = 7) : gc_W (gc_S d) cX2_readAll 2 1 R 10 L (.ref o :: st) μ ↔ gc_W (gc_S d) cX2_readAll 2 1 R 13 L (gc_fv o 1 μ :: st) μ := us_getf dX2_readAll_10 gf_2_41 hk
theorem u59_13 {d : Nat} {R : gR} {μ : gM} {l0 l1 l2 l3 : Value} {st : List Value} {x : Int32} (hs : gc_sk l3 = true) : gc_W (gc_S d) cX2_readAll 2 1 R 13 [l0, l1, l2, l3] (.int x :: st) μ ↔ gc_W (gc_S d) cX2_readAll 2 1 R 14 [l0, l1, l2, .int x] st μ := us_istore_n dX2_readAll_13 rfl hs
theorem u59_14 {d : Nat} {R : gR} {μ : gM} {l0 l1 l2 : Value} {st : List Value} {x : Int32}  : gc_W (gc_S d) cX2_readAll 2 1 R 14 [l0, l1, l2, .int x] st μ ↔ gc_W (gc_S d) cX2_readAll 2 1 R 15 [l0, l1, l2, .int x] (.int x :: st) μ := us_iload_n dX2_readAll_14 rfl
theorem u59_15 {d : Nat} {R : gR} {μ : gM} {L : List Value} {st : List Value} {x : Int32}  : gc_W (gc_S d) cX2_readAll 2 1 R 15 L (.int x :: st) μ ↔ if x ≤ 0 then gc_W (gc_S d) cX2_readAll 2 1 R 56 L st μ else gc_W (gc_S d) cX2_readAll 2 1 R 18 L st μ := us_ifle dX2_readAll_15 rfl
theorem u59_18 {d : Nat} {R : gR} {μ : gM} {l0 l1 l3 : Value} {st : List Value} {x : Int32}  : gc_W (gc_S d) cX2_readAll 2 1 R 18 [l0, l1, .int x, l3] st μ ↔ gc_W (gc_S d) cX2_readAll 2 1 R 19 [l0, l1, .int x, l3] (.int x :: st) μ := us_iload_n dX2_readAll_18 rfl
theorem u59_19 {d : Nat} {R : gR} {μ : gM} {L : List Value} {st : List Value} {x : Int32}  : gc_W (gc_S d) cX2_readAll 2 1 R 19 L (.int x :: st) μ ↔ if x = 0 then gc_W (gc_S d) cX2_readAll 2 1 R 56 L st μ else gc_W (gc_S d) cX2_readAll 2 1 R 22 L st μ := us_ifeq dX2_readAll_19 rfl
theorem u59_22 {d : Nat} {R : gR} {μ : gM} {l1 l2 l3 : Value} {st : List Value} {x : Nat}  : gc_W (gc_S d) cX2_readAll 2 1 R 22 [.ref x, l1, l2, l3] st μ ↔ gc_W (gc_S d) cX2_readAll 2 1 R 23 [.ref x, l1, l2, l3] (.ref x :: st) μ := us_aload_n dX2_readAll_22 rfl
theorem u59_23 {d : Nat} {R : gR} {μ : gM} {L : List Value} {o : Nat} (hk : gc_kd o = 2) : gc_W (gc_S d) cX2_readAll 2 1 R 23 L [.ref o] μ ↔ gc_S d 49 [.ref o] μ (fun v μ' => gc_W (gc_S d) cX2_readAll 2 1 R 26 L (v.toList ++ []) μ') := us_virt dX2_readAll_23 gn_2_54 gc_2_54_2 hk rfl rfl rfl rfl rfl
theorem u59_26 {d : Nat} {R : gR} {μ : gM} {L : List Value} {st : List Value}   : gc_W (gc_S d) cX2_readAll 2 1 R 26 L st μ ↔ gc_W (gc_S d) cX2_readAll 2 1 R 28 L (.int 38 :: st) μ := us_bipush dX2_readAll_26 ci_bipush_38
theorem u59_28 {d : Nat} {R : gR} {μ : gM} {L : List Value} {st : List Value} {x y : Int32}  : gc_W (gc_S d) cX2_readAll 2 1 R 28 L (.int y :: .int x :: st) μ ↔ if x = y then gc_W (gc_S d) cX2_readAll 2 1 R 31 L st μ else gc_W (gc_S d) cX2_readAll 2 1 R 56 L st μ := us_icne dX2_readAll_28 rfl
theorem u59_31 {d : Nat} {R : gR} {μ : gM} {l1 l2 l3 : Value} {st : List Value} {x : Nat}  : gc_W (gc_S d) cX2_readAll 2 1 R 31 [.ref x, l1, l2, l3] st μ ↔ gc_W (gc_S d) cX2_readAll 2 1 R 32 [.ref x, l1, l2, l3] (.ref x :: st) μ := us_aload_n dX2_readAll_31 rfl
theorem u59_32 {d : Nat} {R : gR} {μ : gM} {L : List Value} {o : Nat} (hk : gc_kd o = 2) : gc_W (gc_S d) cX2_readAll 2 1 R 32 L [.ref o] μ ↔ gc_S d 50 [.ref o] μ (fun v μ' => gc_W (gc_S d) cX2_readAll 2 1 R 35 L (v.toList ++ []) μ') := us_virt dX2_readAll_32 gn_2_58 gc_2_58_2 hk rfl rfl rfl rfl rfl
theorem u59_35 {d : Nat} {R : gR} {μ : gM} {l1 l2 l3 : Value} {st : List Value} {x : Nat}  : gc_W (gc_S d) cX2_readAll 2 1 R 35 [.ref x, l1, l2, l3] st μ ↔ gc_W (gc_S d) cX2_readAll 2 1 R 36 [.ref x, l1, l2, l3] (.ref x :: st) μ := us_aload_n dX2_readAll_35 rfl
theorem u59_36 {d : Nat} {R : gR} {μ : gM} {l0 l2 l3 : Value} {st : List Value} {x : Int32}  : gc_W (gc_S d) cX2_readAll 2 1 R 36 [l0, .int x, l2, l3] st μ ↔ gc_W (gc_S d) cX2_readAll 2 1 R 37 [l0, .int x, l2, l3] (.int x :: st) μ := us_iload_n dX2_readAll_36 rfl
theorem u59_37 {d : Nat} {R : gR} {μ : gM} {L : List Value} {o : Nat} {a0 : Int32} (hk : gc_kd o = 2) : gc_W (gc_S d) cX2_readAll 2 1 R 37 L [.int a0, .ref o] μ ↔ gc_S d 60 [.ref o, .int a0] μ (fun v μ' => gc_W (gc_S d) cX2_readAll 2 1 R 40 L (v.toList ++ []) μ') := us_virt dX2_readAll_37 gn_2_64 gc_2_64_2 hk rfl rfl rfl rfl rfl
theorem u59_40 {d : Nat} {R : gR} {μ : gM} {l0 l1 l2 l3 : Value} {st : List Value} {x : Int32} (hs : gc_sk l2 = true) : gc_W (gc_S d) cX2_readAll 2 1 R 40 [l0, l1, l2, l3] (.int x :: st) μ ↔ gc_W (gc_S d) cX2_readAll 2 1 R 41 [l0, l1, .int x, l3] st μ := us_istore_n dX2_readAll_40 rfl hs
theorem u59_41 {d : Nat} {R : gR} {μ : gM} {l1 l2 l3 : Value} {st : List Value} {x : Nat}  : gc_W (gc_S d) cX2_readAll 2 1 R 41 [.ref x, l1, l2, l3] st μ ↔ gc_W (gc_S d) cX2_readAll 2 1 R 42 [.ref x, l1, l2, l3] (.ref x :: st) μ := us_aload_n dX2_readAll_41 rfl
theorem u59_42 {d : Nat} {R : gR} {μ : gM} {L : List Value} {st : List Value} {o : Nat} (hk : gc_kd o = 2) : gc_W (gc_S d) cX2_readAll 2 1 R 42 L (.ref o :: st) μ ↔ gc_W (gc_S d) cX2_readAll 2 1 R 45 L (gc_fv o 0 μ :: st) μ := us_getf dX2_readAll_42 gf_2_14 hk
theorem u59_45 {d : Nat} {R : gR} {μ : gM} {L : List Value} {st : List Value}   : gc_W (gc_S d) cX2_readAll 2 1 R 45 L st μ ↔ gc_W (gc_S d) cX2_readAll 2 1 R 47 L (.int (-38) :: st) μ := us_bipush dX2_readAll_45 ci_bipush_m38
theorem u59_47 {d : Nat} {R : gR} {μ : gM} {L : List Value} {o : Nat} {a0 : Int32} (hk : gc_kd o = 7) : gc_W (gc_S d) cX2_readAll 2 1 R 47 L [.int a0, .ref o] μ ↔ gc_S d 41 [.ref o, .int a0] μ (fun v μ' => gc_W (gc_S d) cX2_readAll 2 1 R 50 L (v.toList ++ []) μ') := us_virt dX2_readAll_47 gn_2_61 gc_2_61_7 hk rfl rfl rfl rfl rfl
theorem u59_50 {d : Nat} {R : gR} {μ : gM} {l0 l1 l2 : Value} {st : List Value} {x : Int32}  : gc_W (gc_S d) cX2_readAll 2 1 R 50 [l0, l1, l2, .int x] st μ ↔ gc_W (gc_S d) cX2_readAll 2 1 R 53 [l0, l1, l2, .int (x + (-1))] st μ := us_iinc dX2_readAll_50 rfl ci_iinc_m1
theorem u59_53 {d : Nat} {R : gR} {μ : gM} {L : List Value} {st : List Value}  : gc_W (gc_S d) cX2_readAll 2 1 R 53 L st μ ↔ gc_W (gc_S d) cX2_readAll 2 1 R 14 L st μ := us_goto dX2_readAll_53 rfl
theorem u59_56 {d : Nat} {R : gR} {μ : gM} {l0 l1 l3 : Value} {st : List Value} {x : Int32}  : gc_W (gc_S d) cX2_readAll 2 1 R 56 [l0, l1, .int x, l3] st μ ↔ gc_W (gc_S d) cX2_readAll 2 1 R 57 [l0, l1, .int x, l3] (.int x :: st) μ := us_iload_n dX2_readAll_56 rfl
theorem u59_57 {d : Nat} {R : gR} {μ : gM} {L : List Value} {v : Int32}  : gc_W (gc_S d) cX2_readAll 2 1 R 57 L [.int v] μ ↔ ((v = 0 ∨ v = 1) ∧ R (some (.int v)) μ) := us_zret dX2_readAll_57 rfl
theorem s59 {d : Nat} {R : gR} {μ : gM} {o : Nat} {a0 : Int32} : gc_S (d + 1) 59 [.ref o, .int a0] μ R ↔ gc_W (gc_S d) cX2_readAll 2 1 R 0 [.ref o, .int a0, .retAddr 0, .retAddr 0] [] μ := us_call (gm_59) rfl rfl
theorem dX2_readCompared_0 : decode cX2_readCompared 0 = .ok (.aload_n 0, 1) := by decide +kernel
theorem dX2_readCompared_1 : decode cX2_readCompared 1 = .ok (.iload_n 1, 1) := by decide +kernel
theorem dX2_readCompared_2 : decode cX2_readCompared 2 = .ok (.invokevirtual 67, 3) := by decide +kernel
theorem dX2_readCompared_5 : decode cX2_readCompared 5 = .ok (.istore_n 2, 1) := by decide +kernel
theorem dX2_readCompared_6 : decode cX2_readCompared 6 = .ok (.aload_n 0, 1) := by decide +kernel
theorem dX2_readCompared_7 : decode cX2_readCompared 7 = .ok (.invokevirtual 54, 3) := by decide +kernel
theorem dX2_readCompared_10 : decode cX2_readCompared 10 = .ok (.istore_n 3, 1) := by decide +kernel
theorem dX2_readCompared_11 : decode cX2_readCompared 11 = .ok (.iload_n 2, 1) := by decide +kernel
theorem dX2_readCompared_12 : decode cX2_readCompared 12 = .ok (.ifCond .eq 40, 3) := by decide +kernel
theorem dX2_readCompared_15 : decode cX2_readCompared 15 = .ok (.iload_n 3, 1) := by decide +kernel
theorem dX2_readCompared_16 : decode cX2_readCompared 16 = .ok (.bipush 60, 2) := by decide +kernel
theorem dX2_readCompared_18 : decode cX2_readCompared 18 = .ok (.if_icmp .eq 15, 3) := by decide +kernel
theorem dX2_readCompared_21 : decode cX2_readCompared 21 = .ok (.iload_n 3, 1) := by decide +kernel
theorem dX2_readCompared_22 : decode cX2_readCompared 22 = .ok (.bipush 61, 2) := by decide +kernel
theorem dX2_readCompared_24 : decode cX2_readCompared 24 = .ok (.if_icmp .eq 9, 3) := by decide +kernel
theorem dX2_readCompared_27 : decode cX2_readCompared 27 = .ok (.iload_n 3, 1) := by decide +kernel
theorem dX2_readCompared_28 : decode cX2_readCompared 28 = .ok (.bipush 62, 2) := by decide +kernel
theorem dX2_readCompared_30 : decode cX2_readCompared 30 = .ok (.if_icmp .ne 22, 3) := by decide +kernel
theorem dX2_readCompared_33 : decode cX2_readCompared 33 = .ok (.aload_n 0, 1) := by decide +kernel
theorem dX2_readCompared_34 : decode cX2_readCompared 34 = .ok (.invokevirtual 58, 3) := by decide +kernel
theorem dX2_readCompared_37 : decode cX2_readCompared 37 = .ok (.aload_n 0, 1) := by decide +kernel
theorem dX2_readCompared_38 : decode cX2_readCompared 38 = .ok (.iload_n 1, 1) := by decide +kernel
theorem dX2_readCompared_39 : decode cX2_readCompared 39 = .ok (.invokevirtual 67, 3) := by decide +kernel
theorem dX2_readCompared_42 : decode cX2_readCompared 42 = .ok (.istore_n 2, 1) := by decide +kernel
theorem dX2_readCompared_43 : decode cX2_readCompared 43 = .ok (.aload_n 0, 1) := by decide +kernel
theorem dX2_readCompared_44 : decode cX2_readCompared 44 = .ok (.getfield 14, 3) := by decide +kernel
theorem dX2_readCompared_47 : decode cX2_readCompared 47 = .ok (.iload_n 3, 1) := by decide +kernel
theorem dX2_readCompared_48 : decode cX2_readCompared 48 = .ok (.ineg, 1) := by decide +kernel
theorem dX2_readCompared_49 : decode cX2_readCompared 49 = .ok (.invokevirtual 61, 3) := by decide +kernel
theorem dX2_readCompared_52 : decode cX2_readCompared 52 = .ok (.iload_n 2, 1) := by decide +kernel
theorem dX2_readCompared_53 : decode cX2_readCompared 53 = .ok (.ireturn, 1) := by decide +kernel
theorem u60_0 {d : Nat} {R : gR} {μ : gM} {l1 l2 l3 : Value} {st : List Value} {x : Nat}  : gc_W (gc_S d) cX2_readCompared 2 1 R 0 [.ref x, l1, l2, l3] st μ ↔ gc_W (gc_S d) cX2_readCompared 2 1 R 1 [.ref x, l1, l2, l3] (.ref x :: st) μ := us_aload_n dX2_readCompared_0 rfl
theorem u60_1 {d : Nat} {R : gR} {μ : gM} {l0 l2 l3 : Value} {st : List Value} {x : Int32}  : gc_W (gc_S d) cX2_readCompared 2 1 R 1 [l0, .int x, l2, l3] st μ ↔ gc_W (gc_S d) cX2_readCompared 2 1 R 2 [l0, .int x, l2, l3] (.int x :: st) μ := us_iload_n dX2_readCompared_1 rfl
theorem u60_2 {d : Nat} {R : gR} {μ : gM} {L : List Value} {o : Nat} {a0 : Int32} (hk : gc_kd o = 2) : gc_W (gc_S d) cX2_readCompared 2 1 R 2 L [.int a0, .ref o] μ ↔ gc_S d 63 [.ref o, .int a0] μ (fun v μ' => gc_W (gc_S d) cX2_readCompared 2 1 R 5 L (v.toList ++ []) μ') := us_virt dX2_readCompared_2 gn_2_67 gc_2_67_2 hk rfl rfl rfl rfl rfl
theorem u60_5 {d : Nat} {R : gR} {μ : gM} {l0 l1 l2 l3 : Value} {st : List Value} {x : Int32} (hs : gc_sk l2 = true) : gc_W (gc_S d) cX2_readCompared 2 1 R 5 [l0, l1, l2, l3] (.int x :: st) μ ↔ gc_W (gc_S d) cX2_readCompared 2 1 R 6 [l0, l1, .int x, l3] st μ := us_istore_n dX2_readCompared_5 rfl hs
theorem u60_6 {d : Nat} {R : gR} {μ : gM} {l1 l2 l3 : Value} {st : List Value} {x : Nat}  : gc_W (gc_S d) cX2_readCompared 2 1 R 6 [.ref x, l1, l2, l3] st μ ↔ gc_W (gc_S d) cX2_readCompared 2 1 R 7 [.ref x, l1, l2, l3] (.ref x :: st) μ := us_aload_n dX2_readCompared_6 rfl
theorem u60_7 {d : Nat} {R : gR} {μ : gM} {L : List Value} {o : Nat} (hk : gc_kd o = 2) : gc_W (gc_S d) cX2_readCompared 2 1 R 7 L [.ref o] μ ↔ gc_S d 49 [.ref o] μ (fun v μ' => gc_W (gc_S d) cX2_readCompared 2 1 R 10 L (v.toList ++ []) μ') := us_virt dX2_readCompared_7 gn_2_54 gc_2_54_2 hk rfl rfl rfl rfl rfl
theorem u60_10 {d : Nat} {R : gR} {μ : gM} {l0 l1 l2 l3 : Value} {st : List Value} {x : Int32} (hs : gc_sk l3 = true) : gc_W (gc_S d) cX2_readCompared 2 1 R 10 [l0, l1, l2, l3] (.int x :: st) μ ↔ gc_W (gc_S d) cX2_readCompared 2 1 R 11 [l0, l1, l2, .int x] st μ := us_istore_n dX2_readCompared_10 rfl hs
theorem u60_11 {d : Nat} {R : gR} {μ : gM} {l0 l1 l3 : Value} {st : List Value} {x : Int32}  : gc_W (gc_S d) cX2_readCompared 2 1 R 11 [l0, l1, .int x, l3] st μ ↔ gc_W (gc_S d) cX2_readCompared 2 1 R 12 [l0, l1, .int x, l3] (.int x :: st) μ := us_iload_n dX2_readCompared_11 rfl
theorem u60_12 {d : Nat} {R : gR} {μ : gM} {L : List Value} {st : List Value} {x : Int32}  : gc_W (gc_S d) cX2_readCompared 2 1 R 12 L (.int x :: st) μ ↔ if x = 0 then gc_W (gc_S d) cX2_readCompared 2 1 R 52 L st μ else gc_W (gc_S d) cX2_readCompared 2 1 R 15 L st μ := us_ifeq dX2_readCompared_12 rfl
theorem u60_15 {d : Nat} {R : gR} {μ : gM} {l0 l1 l2 : Value} {st : List Value} {x : Int32}  : gc_W (gc_S d) cX2_readCompared 2 1 R 15 [l0, l1, l2, .int x] st μ ↔ gc_W (gc_S d) cX2_readCompared 2 1 R 16 [l0, l1, l2, .int x] (.int x :: st) μ := us_iload_n dX2_readCompared_15 rfl
theorem u60_16 {d : Nat} {R : gR} {μ : gM} {L : List Value} {st : List Value}   : gc_W (gc_S d) cX2_readCompared 2 1 R 16 L st μ ↔ gc_W (gc_S d) cX2_readCompared 2 1 R 18 L (.int 60 :: st) μ := us_bipush dX2_readCompared_16 ci_bipush_60
theorem u60_18 {d : Nat} {R : gR} {μ : gM} {L : List Value} {st : List Value} {x y : Int32}  : gc_W (gc_S d) cX2_readCompared 2 1 R 18 L (.int y :: .int x :: st) μ ↔ if x = y then gc_W (gc_S d) cX2_readCompared 2 1 R 33 L st μ else gc_W (gc_S d) cX2_readCompared 2 1 R 21 L st μ := us_iceq dX2_readCompared_18 rfl
theorem u60_21 {d : Nat} {R : gR} {μ : gM} {l0 l1 l2 : Value} {st : List Value} {x : Int32}  : gc_W (gc_S d) cX2_readCompared 2 1 R 21 [l0, l1, l2, .int x] st μ ↔ gc_W (gc_S d) cX2_readCompared 2 1 R 22 [l0, l1, l2, .int x] (.int x :: st) μ := us_iload_n dX2_readCompared_21 rfl
theorem u60_22 {d : Nat} {R : gR} {μ : gM} {L : List Value} {st : List Value}   : gc_W (gc_S d) cX2_readCompared 2 1 R 22 L st μ ↔ gc_W (gc_S d) cX2_readCompared 2 1 R 24 L (.int 61 :: st) μ := us_bipush dX2_readCompared_22 ci_bipush_61
theorem u60_24 {d : Nat} {R : gR} {μ : gM} {L : List Value} {st : List Value} {x y : Int32}  : gc_W (gc_S d) cX2_readCompared 2 1 R 24 L (.int y :: .int x :: st) μ ↔ if x = y then gc_W (gc_S d) cX2_readCompared 2 1 R 33 L st μ else gc_W (gc_S d) cX2_readCompared 2 1 R 27 L st μ := us_iceq dX2_readCompared_24 rfl
theorem u60_27 {d : Nat} {R : gR} {μ : gM} {l0 l1 l2 : Value} {st : List Value} {x : Int32}  : gc_W (gc_S d) cX2_readCompared 2 1 R 27 [l0, l1, l2, .int x] st μ ↔ gc_W (gc_S d) cX2_readCompared 2 1 R 28 [l0, l1, l2, .int x] (.int x :: st) μ := us_iload_n dX2_readCompared_27 rfl
theorem u60_28 {d : Nat} {R : gR} {μ : gM} {L : List Value} {st : List Value}   : gc_W (gc_S d) cX2_readCompared 2 1 R 28 L st μ ↔ gc_W (gc_S d) cX2_readCompared 2 1 R 30 L (.int 62 :: st) μ := us_bipush dX2_readCompared_28 ci_bipush_62
theorem u60_30 {d : Nat} {R : gR} {μ : gM} {L : List Value} {st : List Value} {x y : Int32}  : gc_W (gc_S d) cX2_readCompared 2 1 R 30 L (.int y :: .int x :: st) μ ↔ if x = y then gc_W (gc_S d) cX2_readCompared 2 1 R 33 L st μ else gc_W (gc_S d) cX2_readCompared 2 1 R 52 L st μ := us_icne dX2_readCompared_30 rfl
theorem u60_33 {d : Nat} {R : gR} {μ : gM} {l1 l2 l3 : Value} {st : List Value} {x : Nat}  : gc_W (gc_S d) cX2_readCompared 2 1 R 33 [.ref x, l1, l2, l3] st μ ↔ gc_W (gc_S d) cX2_readCompared 2 1 R 34 [.ref x, l1, l2, l3] (.ref x :: st) μ := us_aload_n dX2_readCompared_33 rfl
theorem u60_34 {d : Nat} {R : gR} {μ : gM} {L : List Value} {o : Nat} (hk : gc_kd o = 2) : gc_W (gc_S d) cX2_readCompared 2 1 R 34 L [.ref o] μ ↔ gc_S d 50 [.ref o] μ (fun v μ' => gc_W (gc_S d) cX2_readCompared 2 1 R 37 L (v.toList ++ []) μ') := us_virt dX2_readCompared_34 gn_2_58 gc_2_58_2 hk rfl rfl rfl rfl rfl
theorem u60_37 {d : Nat} {R : gR} {μ : gM} {l1 l2 l3 : Value} {st : List Value} {x : Nat}  : gc_W (gc_S d) cX2_readCompared 2 1 R 37 [.ref x, l1, l2, l3] st μ ↔ gc_W (gc_S d) cX2_readCompared 2 1 R 38 [.ref x, l1, l2, l3] (.ref x :: st) μ := us_aload_n dX2_readCompared_37 rfl
theorem u60_38 {d : Nat} {R : gR} {μ : gM} {l0 l2 l3 : Value} {st : List Value} {x : Int32}  : gc_W (gc_S d) cX2_readCompared 2 1 R 38 [l0, .int x, l2, l3] st μ ↔ gc_W (gc_S d) cX2_readCompared 2 1 R 39 [l0, .int x, l2, l3] (.int x :: st) μ := us_iload_n dX2_readCompared_38 rfl
theorem u60_39 {d : Nat} {R : gR} {μ : gM} {L : List Value} {o : Nat} {a0 : Int32} (hk : gc_kd o = 2) : gc_W (gc_S d) cX2_readCompared 2 1 R 39 L [.int a0, .ref o] μ ↔ gc_S d 63 [.ref o, .int a0] μ (fun v μ' => gc_W (gc_S d) cX2_readCompared 2 1 R 42 L (v.toList ++ []) μ') := us_virt dX2_readCompared_39 gn_2_67 gc_2_67_2 hk rfl rfl rfl rfl rfl
theorem u60_42 {d : Nat} {R : gR} {μ : gM} {l0 l1 l2 l3 : Value} {st : List Value} {x : Int32} (hs : gc_sk l2 = true) : gc_W (gc_S d) cX2_readCompared 2 1 R 42 [l0, l1, l2, l3] (.int x :: st) μ ↔ gc_W (gc_S d) cX2_readCompared 2 1 R 43 [l0, l1, .int x, l3] st μ := us_istore_n dX2_readCompared_42 rfl hs
theorem u60_43 {d : Nat} {R : gR} {μ : gM} {l1 l2 l3 : Value} {st : List Value} {x : Nat}  : gc_W (gc_S d) cX2_readCompared 2 1 R 43 [.ref x, l1, l2, l3] st μ ↔ gc_W (gc_S d) cX2_readCompared 2 1 R 44 [.ref x, l1, l2, l3] (.ref x :: st) μ := us_aload_n dX2_readCompared_43 rfl
theorem u60_44 {d : Nat} {R : gR} {μ : gM} {L : List Value} {st : List Value} {o : Nat} (hk : gc_kd o = 2) : gc_W (gc_S d) cX2_readCompared 2 1 R 44 L (.ref o :: st) μ ↔ gc_W (gc_S d) cX2_readCompared 2 1 R 47 L (gc_fv o 0 μ :: st) μ := us_getf dX2_readCompared_44 gf_2_14 hk
theorem u60_47 {d : Nat} {R : gR} {μ : gM} {l0 l1 l2 : Value} {st : List Value} {x : Int32}  : gc_W (gc_S d) cX2_readCompared 2 1 R 47 [l0, l1, l2, .int x] st μ ↔ gc_W (gc_S d) cX2_readCompared 2 1 R 48 [l0, l1, l2, .int x] (.int x :: st) μ := us_iload_n dX2_readCompared_47 rfl
theorem u60_48 {d : Nat} {R : gR} {μ : gM} {L : List Value} {st : List Value} {x : Int32}  : gc_W (gc_S d) cX2_readCompared 2 1 R 48 L (.int x :: st) μ ↔ gc_W (gc_S d) cX2_readCompared 2 1 R 49 L (.int (-x) :: st) μ := us_ineg dX2_readCompared_48
theorem u60_49 {d : Nat} {R : gR} {μ : gM} {L : List Value} {o : Nat} {a0 : Int32} (hk : gc_kd o = 7) : gc_W (gc_S d) cX2_readCompared 2 1 R 49 L [.int a0, .ref o] μ ↔ gc_S d 41 [.ref o, .int a0] μ (fun v μ' => gc_W (gc_S d) cX2_readCompared 2 1 R 52 L (v.toList ++ []) μ') := us_virt dX2_readCompared_49 gn_2_61 gc_2_61_7 hk rfl rfl rfl rfl rfl
theorem u60_52 {d : Nat} {R : gR} {μ : gM} {l0 l1 l3 : Value} {st : List Value} {x : Int32}  : gc_W (gc_S d) cX2_readCompared 2 1 R 52 [l0, l1, .int x, l3] st μ ↔ gc_W (gc_S d) cX2_readCompared 2 1 R 53 [l0, l1, .int x, l3] (.int x :: st) μ := us_iload_n dX2_readCompared_52 rfl
theorem u60_53 {d : Nat} {R : gR} {μ : gM} {L : List Value} {v : Int32}  : gc_W (gc_S d) cX2_readCompared 2 1 R 53 L [.int v] μ ↔ ((v = 0 ∨ v = 1) ∧ R (some (.int v)) μ) := us_zret dX2_readCompared_53 rfl
theorem s60 {d : Nat} {R : gR} {μ : gM} {o : Nat} {a0 : Int32} : gc_S (d + 1) 60 [.ref o, .int a0] μ R ↔ gc_W (gc_S d) cX2_readCompared 2 1 R 0 [.ref o, .int a0, .retAddr 0, .retAddr 0] [] μ := us_call (gm_60) rfl rfl
theorem dX2_readLeast_0 : decode cX2_readLeast 0 = .ok (.aload_n 0, 1) := by decide +kernel
theorem dX2_readLeast_1 : decode cX2_readLeast 1 = .ok (.invokevirtual 54, 3) := by decide +kernel
theorem dX2_readLeast_4 : decode cX2_readLeast 4 = .ok (.istore_n 2, 1) := by decide +kernel
theorem dX2_readLeast_5 : decode cX2_readLeast 5 = .ok (.iload_n 2, 1) := by decide +kernel
theorem dX2_readLeast_6 : decode cX2_readLeast 6 = .ok (.bipush 48, 2) := by decide +kernel
theorem dX2_readLeast_8 : decode cX2_readLeast 8 = .ok (.if_icmp .lt 15, 3) := by decide +kernel
theorem dX2_readLeast_11 : decode cX2_readLeast 11 = .ok (.iload_n 2, 1) := by decide +kernel
theorem dX2_readLeast_12 : decode cX2_readLeast 12 = .ok (.bipush 57, 2) := by decide +kernel
theorem dX2_readLeast_14 : decode cX2_readLeast 14 = .ok (.if_icmp .gt 9, 3) := by decide +kernel
theorem dX2_readLeast_17 : decode cX2_readLeast 17 = .ok (.aload_n 0, 1) := by decide +kernel
theorem dX2_readLeast_18 : decode cX2_readLeast 18 = .ok (.invokevirtual 76, 3) := by decide +kernel
theorem dX2_readLeast_21 : decode cX2_readLeast 21 = .ok (.iconst 1, 1) := by decide +kernel
theorem dX2_readLeast_22 : decode cX2_readLeast 22 = .ok (.ireturn, 1) := by decide +kernel
theorem dX2_readLeast_23 : decode cX2_readLeast 23 = .ok (.iload_n 2, 1) := by decide +kernel
theorem dX2_readLeast_24 : decode cX2_readLeast 24 = .ok (.bipush 33, 2) := by decide +kernel
theorem dX2_readLeast_26 : decode cX2_readLeast 26 = .ok (.if_icmp .ne 31, 3) := by decide +kernel
theorem dX2_readLeast_29 : decode cX2_readLeast 29 = .ok (.iload_n 1, 1) := by decide +kernel
theorem dX2_readLeast_30 : decode cX2_readLeast 30 = .ok (.iconst 5, 1) := by decide +kernel
theorem dX2_readLeast_31 : decode cX2_readLeast 31 = .ok (.if_icmp .ge 26, 3) := by decide +kernel
theorem dX2_readLeast_34 : decode cX2_readLeast 34 = .ok (.aload_n 0, 1) := by decide +kernel
theorem dX2_readLeast_35 : decode cX2_readLeast 35 = .ok (.invokevirtual 58, 3) := by decide +kernel
theorem dX2_readLeast_38 : decode cX2_readLeast 38 = .ok (.aload_n 0, 1) := by decide +kernel
theorem dX2_readLeast_39 : decode cX2_readLeast 39 = .ok (.iload_n 1, 1) := by decide +kernel
theorem dX2_readLeast_40 : decode cX2_readLeast 40 = .ok (.iconst 1, 1) := by decide +kernel
theorem dX2_readLeast_41 : decode cX2_readLeast 41 = .ok (.iadd, 1) := by decide +kernel
theorem dX2_readLeast_42 : decode cX2_readLeast 42 = .ok (.invokevirtual 73, 3) := by decide +kernel
theorem dX2_readLeast_45 : decode cX2_readLeast 45 = .ok (.istore_n 3, 1) := by decide +kernel
theorem dX2_readLeast_46 : decode cX2_readLeast 46 = .ok (.aload_n 0, 1) := by decide +kernel
theorem dX2_readLeast_47 : decode cX2_readLeast 47 = .ok (.getfield 14, 3) := by decide +kernel
theorem dX2_readLeast_50 : decode cX2_readLeast 50 = .ok (.bipush (-33), 2) := by decide +kernel
theorem dX2_readLeast_52 : decode cX2_readLeast 52 = .ok (.invokevirtual 61, 3) := by decide +kernel
theorem dX2_readLeast_55 : decode cX2_readLeast 55 = .ok (.iload_n 3, 1) := by decide +kernel
theorem dX2_readLeast_56 : decode cX2_readLeast 56 = .ok (.ireturn, 1) := by decide +kernel
theorem dX2_readLeast_57 : decode cX2_readLeast 57 = .ok (.iload_n 2, 1) := by decide +kernel
theorem dX2_readLeast_58 : decode cX2_readLeast 58 = .ok (.bipush 40, 2) := by decide +kernel
theorem dX2_readLeast_60 : decode cX2_readLeast 60 = .ok (.if_icmp .ne 39, 3) := by decide +kernel
theorem dX2_readLeast_63 : decode cX2_readLeast 63 = .ok (.iload_n 1, 1) := by decide +kernel
theorem dX2_readLeast_64 : decode cX2_readLeast 64 = .ok (.iconst 5, 1) := by decide +kernel
theorem dX2_readLeast_65 : decode cX2_readLeast 65 = .ok (.if_icmp .ge 34, 3) := by decide +kernel
theorem dX2_readLeast_68 : decode cX2_readLeast 68 = .ok (.aload_n 0, 1) := by decide +kernel
theorem dX2_readLeast_69 : decode cX2_readLeast 69 = .ok (.invokevirtual 58, 3) := by decide +kernel
theorem dX2_readLeast_72 : decode cX2_readLeast 72 = .ok (.aload_n 0, 1) := by decide +kernel
theorem dX2_readLeast_73 : decode cX2_readLeast 73 = .ok (.iload_n 1, 1) := by decide +kernel
theorem dX2_readLeast_74 : decode cX2_readLeast 74 = .ok (.iconst 1, 1) := by decide +kernel
theorem dX2_readLeast_75 : decode cX2_readLeast 75 = .ok (.iadd, 1) := by decide +kernel
theorem dX2_readLeast_76 : decode cX2_readLeast 76 = .ok (.invokevirtual 44, 3) := by decide +kernel
theorem dX2_readLeast_79 : decode cX2_readLeast 79 = .ok (.ifCond .eq 12, 3) := by decide +kernel
theorem dX2_readLeast_82 : decode cX2_readLeast 82 = .ok (.aload_n 0, 1) := by decide +kernel
theorem dX2_readLeast_83 : decode cX2_readLeast 83 = .ok (.invokevirtual 54, 3) := by decide +kernel
theorem dX2_readLeast_86 : decode cX2_readLeast 86 = .ok (.bipush 41, 2) := by decide +kernel
theorem dX2_readLeast_88 : decode cX2_readLeast 88 = .ok (.if_icmp .eq 5, 3) := by decide +kernel
theorem dX2_readLeast_91 : decode cX2_readLeast 91 = .ok (.iconst 0, 1) := by decide +kernel
theorem dX2_readLeast_92 : decode cX2_readLeast 92 = .ok (.ireturn, 1) := by decide +kernel
theorem dX2_readLeast_93 : decode cX2_readLeast 93 = .ok (.aload_n 0, 1) := by decide +kernel
theorem dX2_readLeast_94 : decode cX2_readLeast 94 = .ok (.invokevirtual 58, 3) := by decide +kernel
theorem dX2_readLeast_97 : decode cX2_readLeast 97 = .ok (.iconst 1, 1) := by decide +kernel
theorem dX2_readLeast_98 : decode cX2_readLeast 98 = .ok (.ireturn, 1) := by decide +kernel
theorem dX2_readLeast_99 : decode cX2_readLeast 99 = .ok (.iload_n 2, 1) := by decide +kernel
theorem dX2_readLeast_100 : decode cX2_readLeast 100 = .ok (.ifCond .ge 7, 3) := by decide +kernel
theorem dX2_readLeast_103 : decode cX2_readLeast 103 = .ok (.iconst (-1), 1) := by decide +kernel
theorem dX2_readLeast_104 : decode cX2_readLeast 104 = .ok (.goto 12, 3) := by decide +kernel
theorem dX2_readLeast_107 : decode cX2_readLeast 107 = .ok (.aload_n 0, 1) := by decide +kernel
theorem dX2_readLeast_108 : decode cX2_readLeast 108 = .ok (.getfield 29, 3) := by decide +kernel
theorem dX2_readLeast_111 : decode cX2_readLeast 111 = .ok (.iload_n 2, 1) := by decide +kernel
theorem dX2_readLeast_112 : decode cX2_readLeast 112 = .ok (.i2c, 1) := by decide +kernel
theorem dX2_readLeast_113 : decode cX2_readLeast 113 = .ok (.invokevirtual 79, 3) := by decide +kernel
theorem dX2_readLeast_116 : decode cX2_readLeast 116 = .ok (.istore_n 3, 1) := by decide +kernel
theorem dX2_readLeast_117 : decode cX2_readLeast 117 = .ok (.iload_n 3, 1) := by decide +kernel
theorem dX2_readLeast_118 : decode cX2_readLeast 118 = .ok (.ifCond .ge 5, 3) := by decide +kernel
theorem dX2_readLeast_121 : decode cX2_readLeast 121 = .ok (.iconst 0, 1) := by decide +kernel
theorem dX2_readLeast_122 : decode cX2_readLeast 122 = .ok (.ireturn, 1) := by decide +kernel
theorem dX2_readLeast_123 : decode cX2_readLeast 123 = .ok (.aload_n 0, 1) := by decide +kernel
theorem dX2_readLeast_124 : decode cX2_readLeast 124 = .ok (.invokevirtual 58, 3) := by decide +kernel
theorem dX2_readLeast_127 : decode cX2_readLeast 127 = .ok (.aload_n 0, 1) := by decide +kernel
theorem dX2_readLeast_128 : decode cX2_readLeast 128 = .ok (.getfield 14, 3) := by decide +kernel
theorem dX2_readLeast_131 : decode cX2_readLeast 131 = .ok (.iconst (-1), 1) := by decide +kernel
theorem dX2_readLeast_132 : decode cX2_readLeast 132 = .ok (.iload_n 3, 1) := by decide +kernel
theorem dX2_readLeast_133 : decode cX2_readLeast 133 = .ok (.isub, 1) := by decide +kernel
theorem dX2_readLeast_134 : decode cX2_readLeast 134 = .ok (.invokevirtual 61, 3) := by decide +kernel
theorem dX2_readLeast_137 : decode cX2_readLeast 137 = .ok (.iconst 1, 1) := by decide +kernel
theorem dX2_readLeast_138 : decode cX2_readLeast 138 = .ok (.ireturn, 1) := by decide +kernel
theorem u61_0 {d : Nat} {R : gR} {μ : gM} {l1 l2 l3 : Value} {st : List Value} {x : Nat}  : gc_W (gc_S d) cX2_readLeast 2 1 R 0 [.ref x, l1, l2, l3] st μ ↔ gc_W (gc_S d) cX2_readLeast 2 1 R 1 [.ref x, l1, l2, l3] (.ref x :: st) μ := us_aload_n dX2_readLeast_0 rfl
theorem u61_1 {d : Nat} {R : gR} {μ : gM} {L : List Value} {o : Nat} (hk : gc_kd o = 2) : gc_W (gc_S d) cX2_readLeast 2 1 R 1 L [.ref o] μ ↔ gc_S d 49 [.ref o] μ (fun v μ' => gc_W (gc_S d) cX2_readLeast 2 1 R 4 L (v.toList ++ []) μ') := us_virt dX2_readLeast_1 gn_2_54 gc_2_54_2 hk rfl rfl rfl rfl rfl
theorem u61_4 {d : Nat} {R : gR} {μ : gM} {l0 l1 l2 l3 : Value} {st : List Value} {x : Int32} (hs : gc_sk l2 = true) : gc_W (gc_S d) cX2_readLeast 2 1 R 4 [l0, l1, l2, l3] (.int x :: st) μ ↔ gc_W (gc_S d) cX2_readLeast 2 1 R 5 [l0, l1, .int x, l3] st μ := us_istore_n dX2_readLeast_4 rfl hs
theorem u61_5 {d : Nat} {R : gR} {μ : gM} {l0 l1 l3 : Value} {st : List Value} {x : Int32}  : gc_W (gc_S d) cX2_readLeast 2 1 R 5 [l0, l1, .int x, l3] st μ ↔ gc_W (gc_S d) cX2_readLeast 2 1 R 6 [l0, l1, .int x, l3] (.int x :: st) μ := us_iload_n dX2_readLeast_5 rfl
theorem u61_6 {d : Nat} {R : gR} {μ : gM} {L : List Value} {st : List Value}   : gc_W (gc_S d) cX2_readLeast 2 1 R 6 L st μ ↔ gc_W (gc_S d) cX2_readLeast 2 1 R 8 L (.int 48 :: st) μ := us_bipush dX2_readLeast_6 ci_bipush_48
theorem u61_8 {d : Nat} {R : gR} {μ : gM} {L : List Value} {st : List Value} {x y : Int32}  : gc_W (gc_S d) cX2_readLeast 2 1 R 8 L (.int y :: .int x :: st) μ ↔ if x < y then gc_W (gc_S d) cX2_readLeast 2 1 R 23 L st μ else gc_W (gc_S d) cX2_readLeast 2 1 R 11 L st μ := us_iclt dX2_readLeast_8 rfl
theorem u61_11 {d : Nat} {R : gR} {μ : gM} {l0 l1 l3 : Value} {st : List Value} {x : Int32}  : gc_W (gc_S d) cX2_readLeast 2 1 R 11 [l0, l1, .int x, l3] st μ ↔ gc_W (gc_S d) cX2_readLeast 2 1 R 12 [l0, l1, .int x, l3] (.int x :: st) μ := us_iload_n dX2_readLeast_11 rfl
theorem u61_12 {d : Nat} {R : gR} {μ : gM} {L : List Value} {st : List Value}   : gc_W (gc_S d) cX2_readLeast 2 1 R 12 L st μ ↔ gc_W (gc_S d) cX2_readLeast 2 1 R 14 L (.int 57 :: st) μ := us_bipush dX2_readLeast_12 ci_bipush_57
theorem u61_14 {d : Nat} {R : gR} {μ : gM} {L : List Value} {st : List Value} {x y : Int32}  : gc_W (gc_S d) cX2_readLeast 2 1 R 14 L (.int y :: .int x :: st) μ ↔ if y < x then gc_W (gc_S d) cX2_readLeast 2 1 R 23 L st μ else gc_W (gc_S d) cX2_readLeast 2 1 R 17 L st μ := us_icgt dX2_readLeast_14 rfl
theorem u61_17 {d : Nat} {R : gR} {μ : gM} {l1 l2 l3 : Value} {st : List Value} {x : Nat}  : gc_W (gc_S d) cX2_readLeast 2 1 R 17 [.ref x, l1, l2, l3] st μ ↔ gc_W (gc_S d) cX2_readLeast 2 1 R 18 [.ref x, l1, l2, l3] (.ref x :: st) μ := us_aload_n dX2_readLeast_17 rfl
theorem u61_18 {d : Nat} {R : gR} {μ : gM} {L : List Value} {o : Nat} (hk : gc_kd o = 2) : gc_W (gc_S d) cX2_readLeast 2 1 R 18 L [.ref o] μ ↔ gc_S d 51 [.ref o] μ (fun v μ' => gc_W (gc_S d) cX2_readLeast 2 1 R 21 L (v.toList ++ []) μ') := us_virt dX2_readLeast_18 gn_2_76 gc_2_76_2 hk rfl rfl rfl rfl rfl
theorem u61_21 {d : Nat} {R : gR} {μ : gM} {L : List Value} {st : List Value}   : gc_W (gc_S d) cX2_readLeast 2 1 R 21 L st μ ↔ gc_W (gc_S d) cX2_readLeast 2 1 R 22 L (.int 1 :: st) μ := us_iconst dX2_readLeast_21 ci_iconst_1
theorem u61_22 {d : Nat} {R : gR} {μ : gM} {L : List Value} {v : Int32}  : gc_W (gc_S d) cX2_readLeast 2 1 R 22 L [.int v] μ ↔ ((v = 0 ∨ v = 1) ∧ R (some (.int v)) μ) := us_zret dX2_readLeast_22 rfl
theorem u61_23 {d : Nat} {R : gR} {μ : gM} {l0 l1 l3 : Value} {st : List Value} {x : Int32}  : gc_W (gc_S d) cX2_readLeast 2 1 R 23 [l0, l1, .int x, l3] st μ ↔ gc_W (gc_S d) cX2_readLeast 2 1 R 24 [l0, l1, .int x, l3] (.int x :: st) μ := us_iload_n dX2_readLeast_23 rfl
theorem u61_24 {d : Nat} {R : gR} {μ : gM} {L : List Value} {st : List Value}   : gc_W (gc_S d) cX2_readLeast 2 1 R 24 L st μ ↔ gc_W (gc_S d) cX2_readLeast 2 1 R 26 L (.int 33 :: st) μ := us_bipush dX2_readLeast_24 ci_bipush_33
theorem u61_26 {d : Nat} {R : gR} {μ : gM} {L : List Value} {st : List Value} {x y : Int32}  : gc_W (gc_S d) cX2_readLeast 2 1 R 26 L (.int y :: .int x :: st) μ ↔ if x = y then gc_W (gc_S d) cX2_readLeast 2 1 R 29 L st μ else gc_W (gc_S d) cX2_readLeast 2 1 R 57 L st μ := us_icne dX2_readLeast_26 rfl
theorem u61_29 {d : Nat} {R : gR} {μ : gM} {l0 l2 l3 : Value} {st : List Value} {x : Int32}  : gc_W (gc_S d) cX2_readLeast 2 1 R 29 [l0, .int x, l2, l3] st μ ↔ gc_W (gc_S d) cX2_readLeast 2 1 R 30 [l0, .int x, l2, l3] (.int x :: st) μ := us_iload_n dX2_readLeast_29 rfl
theorem u61_30 {d : Nat} {R : gR} {μ : gM} {L : List Value} {st : List Value}   : gc_W (gc_S d) cX2_readLeast 2 1 R 30 L st μ ↔ gc_W (gc_S d) cX2_readLeast 2 1 R 31 L (.int 5 :: st) μ := us_iconst dX2_readLeast_30 ci_iconst_5
theorem u61_31 {d : Nat} {R : gR} {μ : gM} {L : List Value} {st : List Value} {x y : Int32}  : gc_W (gc_S d) cX2_readLeast 2 1 R 31 L (.int y :: .int x :: st) μ ↔ if y ≤ x then gc_W (gc_S d) cX2_readLeast 2 1 R 57 L st μ else gc_W (gc_S d) cX2_readLeast 2 1 R 34 L st μ := us_icge dX2_readLeast_31 rfl
theorem u61_34 {d : Nat} {R : gR} {μ : gM} {l1 l2 l3 : Value} {st : List Value} {x : Nat}  : gc_W (gc_S d) cX2_readLeast 2 1 R 34 [.ref x, l1, l2, l3] st μ ↔ gc_W (gc_S d) cX2_readLeast 2 1 R 35 [.ref x, l1, l2, l3] (.ref x :: st) μ := us_aload_n dX2_readLeast_34 rfl
theorem u61_35 {d : Nat} {R : gR} {μ : gM} {L : List Value} {o : Nat} (hk : gc_kd o = 2) : gc_W (gc_S d) cX2_readLeast 2 1 R 35 L [.ref o] μ ↔ gc_S d 50 [.ref o] μ (fun v μ' => gc_W (gc_S d) cX2_readLeast 2 1 R 38 L (v.toList ++ []) μ') := us_virt dX2_readLeast_35 gn_2_58 gc_2_58_2 hk rfl rfl rfl rfl rfl
theorem u61_38 {d : Nat} {R : gR} {μ : gM} {l1 l2 l3 : Value} {st : List Value} {x : Nat}  : gc_W (gc_S d) cX2_readLeast 2 1 R 38 [.ref x, l1, l2, l3] st μ ↔ gc_W (gc_S d) cX2_readLeast 2 1 R 39 [.ref x, l1, l2, l3] (.ref x :: st) μ := us_aload_n dX2_readLeast_38 rfl
theorem u61_39 {d : Nat} {R : gR} {μ : gM} {l0 l2 l3 : Value} {st : List Value} {x : Int32}  : gc_W (gc_S d) cX2_readLeast 2 1 R 39 [l0, .int x, l2, l3] st μ ↔ gc_W (gc_S d) cX2_readLeast 2 1 R 40 [l0, .int x, l2, l3] (.int x :: st) μ := us_iload_n dX2_readLeast_39 rfl
theorem u61_40 {d : Nat} {R : gR} {μ : gM} {L : List Value} {st : List Value}   : gc_W (gc_S d) cX2_readLeast 2 1 R 40 L st μ ↔ gc_W (gc_S d) cX2_readLeast 2 1 R 41 L (.int 1 :: st) μ := us_iconst dX2_readLeast_40 ci_iconst_1
theorem u61_41 {d : Nat} {R : gR} {μ : gM} {L : List Value} {st : List Value} {x y : Int32}  : gc_W (gc_S d) cX2_readLeast 2 1 R 41 L (.int y :: .int x :: st) μ ↔ gc_W (gc_S d) cX2_readLeast 2 1 R 42 L (.int (x + y) :: st) μ := us_iadd dX2_readLeast_41
theorem u61_42 {d : Nat} {R : gR} {μ : gM} {L : List Value} {o : Nat} {a0 : Int32} (hk : gc_kd o = 2) : gc_W (gc_S d) cX2_readLeast 2 1 R 42 L [.int a0, .ref o] μ ↔ gc_S d 61 [.ref o, .int a0] μ (fun v μ' => gc_W (gc_S d) cX2_readLeast 2 1 R 45 L (v.toList ++ []) μ') := us_virt dX2_readLeast_42 gn_2_73 gc_2_73_2 hk rfl rfl rfl rfl rfl
theorem u61_45 {d : Nat} {R : gR} {μ : gM} {l0 l1 l2 l3 : Value} {st : List Value} {x : Int32} (hs : gc_sk l3 = true) : gc_W (gc_S d) cX2_readLeast 2 1 R 45 [l0, l1, l2, l3] (.int x :: st) μ ↔ gc_W (gc_S d) cX2_readLeast 2 1 R 46 [l0, l1, l2, .int x] st μ := us_istore_n dX2_readLeast_45 rfl hs
theorem u61_46 {d : Nat} {R : gR} {μ : gM} {l1 l2 l3 : Value} {st : List Value} {x : Nat}  : gc_W (gc_S d) cX2_readLeast 2 1 R 46 [.ref x, l1, l2, l3] st μ ↔ gc_W (gc_S d) cX2_readLeast 2 1 R 47 [.ref x, l1, l2, l3] (.ref x :: st) μ := us_aload_n dX2_readLeast_46 rfl
theorem u61_47 {d : Nat} {R : gR} {μ : gM} {L : List Value} {st : List Value} {o : Nat} (hk : gc_kd o = 2) : gc_W (gc_S d) cX2_readLeast 2 1 R 47 L (.ref o :: st) μ ↔ gc_W (gc_S d) cX2_readLeast 2 1 R 50 L (gc_fv o 0 μ :: st) μ := us_getf dX2_readLeast_47 gf_2_14 hk
theorem u61_50 {d : Nat} {R : gR} {μ : gM} {L : List Value} {st : List Value}   : gc_W (gc_S d) cX2_readLeast 2 1 R 50 L st μ ↔ gc_W (gc_S d) cX2_readLeast 2 1 R 52 L (.int (-33) :: st) μ := us_bipush dX2_readLeast_50 ci_bipush_m33
theorem u61_52 {d : Nat} {R : gR} {μ : gM} {L : List Value} {o : Nat} {a0 : Int32} (hk : gc_kd o = 7) : gc_W (gc_S d) cX2_readLeast 2 1 R 52 L [.int a0, .ref o] μ ↔ gc_S d 41 [.ref o, .int a0] μ (fun v μ' => gc_W (gc_S d) cX2_readLeast 2 1 R 55 L (v.toList ++ []) μ') := us_virt dX2_readLeast_52 gn_2_61 gc_2_61_7 hk rfl rfl rfl rfl rfl
theorem u61_55 {d : Nat} {R : gR} {μ : gM} {l0 l1 l2 : Value} {st : List Value} {x : Int32}  : gc_W (gc_S d) cX2_readLeast 2 1 R 55 [l0, l1, l2, .int x] st μ ↔ gc_W (gc_S d) cX2_readLeast 2 1 R 56 [l0, l1, l2, .int x] (.int x :: st) μ := us_iload_n dX2_readLeast_55 rfl
theorem u61_56 {d : Nat} {R : gR} {μ : gM} {L : List Value} {v : Int32}  : gc_W (gc_S d) cX2_readLeast 2 1 R 56 L [.int v] μ ↔ ((v = 0 ∨ v = 1) ∧ R (some (.int v)) μ) := us_zret dX2_readLeast_56 rfl
theorem u61_57 {d : Nat} {R : gR} {μ : gM} {l0 l1 l3 : Value} {st : List Value} {x : Int32}  : gc_W (gc_S d) cX2_readLeast 2 1 R 57 [l0, l1, .int x, l3] st μ ↔ gc_W (gc_S d) cX2_readLeast 2 1 R 58 [l0, l1, .int x, l3] (.int x :: st) μ := us_iload_n dX2_readLeast_57 rfl
theorem u61_58 {d : Nat} {R : gR} {μ : gM} {L : List Value} {st : List Value}   : gc_W (gc_S d) cX2_readLeast 2 1 R 58 L st μ ↔ gc_W (gc_S d) cX2_readLeast 2 1 R 60 L (.int 40 :: st) μ := us_bipush dX2_readLeast_58 ci_bipush_40
theorem u61_60 {d : Nat} {R : gR} {μ : gM} {L : List Value} {st : List Value} {x y : Int32}  : gc_W (gc_S d) cX2_readLeast 2 1 R 60 L (.int y :: .int x :: st) μ ↔ if x = y then gc_W (gc_S d) cX2_readLeast 2 1 R 63 L st μ else gc_W (gc_S d) cX2_readLeast 2 1 R 99 L st μ := us_icne dX2_readLeast_60 rfl
theorem u61_63 {d : Nat} {R : gR} {μ : gM} {l0 l2 l3 : Value} {st : List Value} {x : Int32}  : gc_W (gc_S d) cX2_readLeast 2 1 R 63 [l0, .int x, l2, l3] st μ ↔ gc_W (gc_S d) cX2_readLeast 2 1 R 64 [l0, .int x, l2, l3] (.int x :: st) μ := us_iload_n dX2_readLeast_63 rfl
theorem u61_64 {d : Nat} {R : gR} {μ : gM} {L : List Value} {st : List Value}   : gc_W (gc_S d) cX2_readLeast 2 1 R 64 L st μ ↔ gc_W (gc_S d) cX2_readLeast 2 1 R 65 L (.int 5 :: st) μ := us_iconst dX2_readLeast_64 ci_iconst_5
theorem u61_65 {d : Nat} {R : gR} {μ : gM} {L : List Value} {st : List Value} {x y : Int32}  : gc_W (gc_S d) cX2_readLeast 2 1 R 65 L (.int y :: .int x :: st) μ ↔ if y ≤ x then gc_W (gc_S d) cX2_readLeast 2 1 R 99 L st μ else gc_W (gc_S d) cX2_readLeast 2 1 R 68 L st μ := us_icge dX2_readLeast_65 rfl
theorem u61_68 {d : Nat} {R : gR} {μ : gM} {l1 l2 l3 : Value} {st : List Value} {x : Nat}  : gc_W (gc_S d) cX2_readLeast 2 1 R 68 [.ref x, l1, l2, l3] st μ ↔ gc_W (gc_S d) cX2_readLeast 2 1 R 69 [.ref x, l1, l2, l3] (.ref x :: st) μ := us_aload_n dX2_readLeast_68 rfl
theorem u61_69 {d : Nat} {R : gR} {μ : gM} {L : List Value} {o : Nat} (hk : gc_kd o = 2) : gc_W (gc_S d) cX2_readLeast 2 1 R 69 L [.ref o] μ ↔ gc_S d 50 [.ref o] μ (fun v μ' => gc_W (gc_S d) cX2_readLeast 2 1 R 72 L (v.toList ++ []) μ') := us_virt dX2_readLeast_69 gn_2_58 gc_2_58_2 hk rfl rfl rfl rfl rfl
theorem u61_72 {d : Nat} {R : gR} {μ : gM} {l1 l2 l3 : Value} {st : List Value} {x : Nat}  : gc_W (gc_S d) cX2_readLeast 2 1 R 72 [.ref x, l1, l2, l3] st μ ↔ gc_W (gc_S d) cX2_readLeast 2 1 R 73 [.ref x, l1, l2, l3] (.ref x :: st) μ := us_aload_n dX2_readLeast_72 rfl
theorem u61_73 {d : Nat} {R : gR} {μ : gM} {l0 l2 l3 : Value} {st : List Value} {x : Int32}  : gc_W (gc_S d) cX2_readLeast 2 1 R 73 [l0, .int x, l2, l3] st μ ↔ gc_W (gc_S d) cX2_readLeast 2 1 R 74 [l0, .int x, l2, l3] (.int x :: st) μ := us_iload_n dX2_readLeast_73 rfl
theorem u61_74 {d : Nat} {R : gR} {μ : gM} {L : List Value} {st : List Value}   : gc_W (gc_S d) cX2_readLeast 2 1 R 74 L st μ ↔ gc_W (gc_S d) cX2_readLeast 2 1 R 75 L (.int 1 :: st) μ := us_iconst dX2_readLeast_74 ci_iconst_1
theorem u61_75 {d : Nat} {R : gR} {μ : gM} {L : List Value} {st : List Value} {x y : Int32}  : gc_W (gc_S d) cX2_readLeast 2 1 R 75 L (.int y :: .int x :: st) μ ↔ gc_W (gc_S d) cX2_readLeast 2 1 R 76 L (.int (x + y) :: st) μ := us_iadd dX2_readLeast_75
theorem u61_76 {d : Nat} {R : gR} {μ : gM} {L : List Value} {o : Nat} {a0 : Int32} (hk : gc_kd o = 2) : gc_W (gc_S d) cX2_readLeast 2 1 R 76 L [.int a0, .ref o] μ ↔ gc_S d 64 [.ref o, .int a0] μ (fun v μ' => gc_W (gc_S d) cX2_readLeast 2 1 R 79 L (v.toList ++ []) μ') := us_virt dX2_readLeast_76 gn_2_44 gc_2_44_2 hk rfl rfl rfl rfl rfl
theorem u61_79 {d : Nat} {R : gR} {μ : gM} {L : List Value} {st : List Value} {x : Int32}  : gc_W (gc_S d) cX2_readLeast 2 1 R 79 L (.int x :: st) μ ↔ if x = 0 then gc_W (gc_S d) cX2_readLeast 2 1 R 91 L st μ else gc_W (gc_S d) cX2_readLeast 2 1 R 82 L st μ := us_ifeq dX2_readLeast_79 rfl
theorem u61_82 {d : Nat} {R : gR} {μ : gM} {l1 l2 l3 : Value} {st : List Value} {x : Nat}  : gc_W (gc_S d) cX2_readLeast 2 1 R 82 [.ref x, l1, l2, l3] st μ ↔ gc_W (gc_S d) cX2_readLeast 2 1 R 83 [.ref x, l1, l2, l3] (.ref x :: st) μ := us_aload_n dX2_readLeast_82 rfl
theorem u61_83 {d : Nat} {R : gR} {μ : gM} {L : List Value} {o : Nat} (hk : gc_kd o = 2) : gc_W (gc_S d) cX2_readLeast 2 1 R 83 L [.ref o] μ ↔ gc_S d 49 [.ref o] μ (fun v μ' => gc_W (gc_S d) cX2_readLeast 2 1 R 86 L (v.toList ++ []) μ') := us_virt dX2_readLeast_83 gn_2_54 gc_2_54_2 hk rfl rfl rfl rfl rfl
theorem u61_86 {d : Nat} {R : gR} {μ : gM} {L : List Value} {st : List Value}   : gc_W (gc_S d) cX2_readLeast 2 1 R 86 L st μ ↔ gc_W (gc_S d) cX2_readLeast 2 1 R 88 L (.int 41 :: st) μ := us_bipush dX2_readLeast_86 ci_bipush_41
theorem u61_88 {d : Nat} {R : gR} {μ : gM} {L : List Value} {st : List Value} {x y : Int32}  : gc_W (gc_S d) cX2_readLeast 2 1 R 88 L (.int y :: .int x :: st) μ ↔ if x = y then gc_W (gc_S d) cX2_readLeast 2 1 R 93 L st μ else gc_W (gc_S d) cX2_readLeast 2 1 R 91 L st μ := us_iceq dX2_readLeast_88 rfl
theorem u61_91 {d : Nat} {R : gR} {μ : gM} {L : List Value} {st : List Value}   : gc_W (gc_S d) cX2_readLeast 2 1 R 91 L st μ ↔ gc_W (gc_S d) cX2_readLeast 2 1 R 92 L (.int 0 :: st) μ := us_iconst dX2_readLeast_91 ci_iconst_0
theorem u61_92 {d : Nat} {R : gR} {μ : gM} {L : List Value} {v : Int32}  : gc_W (gc_S d) cX2_readLeast 2 1 R 92 L [.int v] μ ↔ ((v = 0 ∨ v = 1) ∧ R (some (.int v)) μ) := us_zret dX2_readLeast_92 rfl
theorem u61_93 {d : Nat} {R : gR} {μ : gM} {l1 l2 l3 : Value} {st : List Value} {x : Nat}  : gc_W (gc_S d) cX2_readLeast 2 1 R 93 [.ref x, l1, l2, l3] st μ ↔ gc_W (gc_S d) cX2_readLeast 2 1 R 94 [.ref x, l1, l2, l3] (.ref x :: st) μ := us_aload_n dX2_readLeast_93 rfl
theorem u61_94 {d : Nat} {R : gR} {μ : gM} {L : List Value} {o : Nat} (hk : gc_kd o = 2) : gc_W (gc_S d) cX2_readLeast 2 1 R 94 L [.ref o] μ ↔ gc_S d 50 [.ref o] μ (fun v μ' => gc_W (gc_S d) cX2_readLeast 2 1 R 97 L (v.toList ++ []) μ') := us_virt dX2_readLeast_94 gn_2_58 gc_2_58_2 hk rfl rfl rfl rfl rfl
theorem u61_97 {d : Nat} {R : gR} {μ : gM} {L : List Value} {st : List Value}   : gc_W (gc_S d) cX2_readLeast 2 1 R 97 L st μ ↔ gc_W (gc_S d) cX2_readLeast 2 1 R 98 L (.int 1 :: st) μ := us_iconst dX2_readLeast_97 ci_iconst_1
theorem u61_98 {d : Nat} {R : gR} {μ : gM} {L : List Value} {v : Int32}  : gc_W (gc_S d) cX2_readLeast 2 1 R 98 L [.int v] μ ↔ ((v = 0 ∨ v = 1) ∧ R (some (.int v)) μ) := us_zret dX2_readLeast_98 rfl
theorem u61_99 {d : Nat} {R : gR} {μ : gM} {l0 l1 l3 : Value} {st : List Value} {x : Int32}  : gc_W (gc_S d) cX2_readLeast 2 1 R 99 [l0, l1, .int x, l3] st μ ↔ gc_W (gc_S d) cX2_readLeast 2 1 R 100 [l0, l1, .int x, l3] (.int x :: st) μ := us_iload_n dX2_readLeast_99 rfl
theorem u61_100 {d : Nat} {R : gR} {μ : gM} {L : List Value} {st : List Value} {x : Int32}  : gc_W (gc_S d) cX2_readLeast 2 1 R 100 L (.int x :: st) μ ↔ if 0 ≤ x then gc_W (gc_S d) cX2_readLeast 2 1 R 107 L st μ else gc_W (gc_S d) cX2_readLeast 2 1 R 103 L st μ := us_ifge dX2_readLeast_100 rfl
theorem u61_103 {d : Nat} {R : gR} {μ : gM} {L : List Value} {st : List Value}   : gc_W (gc_S d) cX2_readLeast 2 1 R 103 L st μ ↔ gc_W (gc_S d) cX2_readLeast 2 1 R 104 L (.int (-1) :: st) μ := us_iconst dX2_readLeast_103 ci_iconst_m1
theorem u61_104 {d : Nat} {R : gR} {μ : gM} {L : List Value} {st : List Value}  : gc_W (gc_S d) cX2_readLeast 2 1 R 104 L st μ ↔ gc_W (gc_S d) cX2_readLeast 2 1 R 116 L st μ := us_goto dX2_readLeast_104 rfl
theorem u61_107 {d : Nat} {R : gR} {μ : gM} {l1 l2 l3 : Value} {st : List Value} {x : Nat}  : gc_W (gc_S d) cX2_readLeast 2 1 R 107 [.ref x, l1, l2, l3] st μ ↔ gc_W (gc_S d) cX2_readLeast 2 1 R 108 [.ref x, l1, l2, l3] (.ref x :: st) μ := us_aload_n dX2_readLeast_107 rfl
theorem u61_108 {d : Nat} {R : gR} {μ : gM} {L : List Value} {st : List Value} {o : Nat} (hk : gc_kd o = 2) : gc_W (gc_S d) cX2_readLeast 2 1 R 108 L (.ref o :: st) μ ↔ gc_W (gc_S d) cX2_readLeast 2 1 R 111 L (gc_fv o 3 μ :: st) μ := us_getf dX2_readLeast_108 gf_2_29 hk
theorem u61_111 {d : Nat} {R : gR} {μ : gM} {l0 l1 l3 : Value} {st : List Value} {x : Int32}  : gc_W (gc_S d) cX2_readLeast 2 1 R 111 [l0, l1, .int x, l3] st μ ↔ gc_W (gc_S d) cX2_readLeast 2 1 R 112 [l0, l1, .int x, l3] (.int x :: st) μ := us_iload_n dX2_readLeast_111 rfl
theorem u61_112 {d : Nat} {R : gR} {μ : gM} {L : List Value} {st : List Value} {x : Int32}  : gc_W (gc_S d) cX2_readLeast 2 1 R 112 L (.int x :: st) μ ↔ gc_W (gc_S d) cX2_readLeast 2 1 R 113 L (.int ((x.toUInt32 % 65536).toInt32) :: st) μ := us_i2c dX2_readLeast_112
theorem u61_113 {d : Nat} {R : gR} {μ : gM} {L : List Value} {o : Nat} {a0 : Int32} (hk : gc_kd o = 32) : gc_W (gc_S d) cX2_readLeast 2 1 R 113 L [.int a0, .ref o] μ ↔ gc_S d 58 [.ref o, .int a0] μ (fun v μ' => gc_W (gc_S d) cX2_readLeast 2 1 R 116 L (v.toList ++ []) μ') := us_virt dX2_readLeast_113 gn_2_79 gc_2_79_15 hk rfl rfl rfl rfl rfl
theorem u61_116 {d : Nat} {R : gR} {μ : gM} {l0 l1 l2 l3 : Value} {st : List Value} {x : Int32} (hs : gc_sk l3 = true) : gc_W (gc_S d) cX2_readLeast 2 1 R 116 [l0, l1, l2, l3] (.int x :: st) μ ↔ gc_W (gc_S d) cX2_readLeast 2 1 R 117 [l0, l1, l2, .int x] st μ := us_istore_n dX2_readLeast_116 rfl hs
theorem u61_117 {d : Nat} {R : gR} {μ : gM} {l0 l1 l2 : Value} {st : List Value} {x : Int32}  : gc_W (gc_S d) cX2_readLeast 2 1 R 117 [l0, l1, l2, .int x] st μ ↔ gc_W (gc_S d) cX2_readLeast 2 1 R 118 [l0, l1, l2, .int x] (.int x :: st) μ := us_iload_n dX2_readLeast_117 rfl
theorem u61_118 {d : Nat} {R : gR} {μ : gM} {L : List Value} {st : List Value} {x : Int32}  : gc_W (gc_S d) cX2_readLeast 2 1 R 118 L (.int x :: st) μ ↔ if 0 ≤ x then gc_W (gc_S d) cX2_readLeast 2 1 R 123 L st μ else gc_W (gc_S d) cX2_readLeast 2 1 R 121 L st μ := us_ifge dX2_readLeast_118 rfl
theorem u61_121 {d : Nat} {R : gR} {μ : gM} {L : List Value} {st : List Value}   : gc_W (gc_S d) cX2_readLeast 2 1 R 121 L st μ ↔ gc_W (gc_S d) cX2_readLeast 2 1 R 122 L (.int 0 :: st) μ := us_iconst dX2_readLeast_121 ci_iconst_0
theorem u61_122 {d : Nat} {R : gR} {μ : gM} {L : List Value} {v : Int32}  : gc_W (gc_S d) cX2_readLeast 2 1 R 122 L [.int v] μ ↔ ((v = 0 ∨ v = 1) ∧ R (some (.int v)) μ) := us_zret dX2_readLeast_122 rfl
theorem u61_123 {d : Nat} {R : gR} {μ : gM} {l1 l2 l3 : Value} {st : List Value} {x : Nat}  : gc_W (gc_S d) cX2_readLeast 2 1 R 123 [.ref x, l1, l2, l3] st μ ↔ gc_W (gc_S d) cX2_readLeast 2 1 R 124 [.ref x, l1, l2, l3] (.ref x :: st) μ := us_aload_n dX2_readLeast_123 rfl
theorem u61_124 {d : Nat} {R : gR} {μ : gM} {L : List Value} {o : Nat} (hk : gc_kd o = 2) : gc_W (gc_S d) cX2_readLeast 2 1 R 124 L [.ref o] μ ↔ gc_S d 50 [.ref o] μ (fun v μ' => gc_W (gc_S d) cX2_readLeast 2 1 R 127 L (v.toList ++ []) μ') := us_virt dX2_readLeast_124 gn_2_58 gc_2_58_2 hk rfl rfl rfl rfl rfl
theorem u61_127 {d : Nat} {R : gR} {μ : gM} {l1 l2 l3 : Value} {st : List Value} {x : Nat}  : gc_W (gc_S d) cX2_readLeast 2 1 R 127 [.ref x, l1, l2, l3] st μ ↔ gc_W (gc_S d) cX2_readLeast 2 1 R 128 [.ref x, l1, l2, l3] (.ref x :: st) μ := us_aload_n dX2_readLeast_127 rfl
theorem u61_128 {d : Nat} {R : gR} {μ : gM} {L : List Value} {st : List Value} {o : Nat} (hk : gc_kd o = 2) : gc_W (gc_S d) cX2_readLeast 2 1 R 128 L (.ref o :: st) μ ↔ gc_W (gc_S d) cX2_readLeast 2 1 R 131 L (gc_fv o 0 μ :: st) μ := us_getf dX2_readLeast_128 gf_2_14 hk
theorem u61_131 {d : Nat} {R : gR} {μ : gM} {L : List Value} {st : List Value}   : gc_W (gc_S d) cX2_readLeast 2 1 R 131 L st μ ↔ gc_W (gc_S d) cX2_readLeast 2 1 R 132 L (.int (-1) :: st) μ := us_iconst dX2_readLeast_131 ci_iconst_m1
theorem u61_132 {d : Nat} {R : gR} {μ : gM} {l0 l1 l2 : Value} {st : List Value} {x : Int32}  : gc_W (gc_S d) cX2_readLeast 2 1 R 132 [l0, l1, l2, .int x] st μ ↔ gc_W (gc_S d) cX2_readLeast 2 1 R 133 [l0, l1, l2, .int x] (.int x :: st) μ := us_iload_n dX2_readLeast_132 rfl
theorem u61_133 {d : Nat} {R : gR} {μ : gM} {L : List Value} {st : List Value} {x y : Int32}  : gc_W (gc_S d) cX2_readLeast 2 1 R 133 L (.int y :: .int x :: st) μ ↔ gc_W (gc_S d) cX2_readLeast 2 1 R 134 L (.int (x - y) :: st) μ := us_isub dX2_readLeast_133
theorem u61_134 {d : Nat} {R : gR} {μ : gM} {L : List Value} {o : Nat} {a0 : Int32} (hk : gc_kd o = 7) : gc_W (gc_S d) cX2_readLeast 2 1 R 134 L [.int a0, .ref o] μ ↔ gc_S d 41 [.ref o, .int a0] μ (fun v μ' => gc_W (gc_S d) cX2_readLeast 2 1 R 137 L (v.toList ++ []) μ') := us_virt dX2_readLeast_134 gn_2_61 gc_2_61_7 hk rfl rfl rfl rfl rfl
theorem u61_137 {d : Nat} {R : gR} {μ : gM} {L : List Value} {st : List Value}   : gc_W (gc_S d) cX2_readLeast 2 1 R 137 L st μ ↔ gc_W (gc_S d) cX2_readLeast 2 1 R 138 L (.int 1 :: st) μ := us_iconst dX2_readLeast_137 ci_iconst_1
theorem u61_138 {d : Nat} {R : gR} {μ : gM} {L : List Value} {v : Int32}  : gc_W (gc_S d) cX2_readLeast 2 1 R 138 L [.int v] μ ↔ ((v = 0 ∨ v = 1) ∧ R (some (.int v)) μ) := us_zret dX2_readLeast_138 rfl
theorem s61 {d : Nat} {R : gR} {μ : gM} {o : Nat} {a0 : Int32} : gc_S (d + 1) 61 [.ref o, .int a0] μ R ↔ gc_W (gc_S d) cX2_readLeast 2 1 R 0 [.ref o, .int a0, .retAddr 0, .retAddr 0] [] μ := us_call (gm_61) rfl rfl
theorem dX2_readProduct_0 : decode cX2_readProduct 0 = .ok (.aload_n 0, 1) := by decide +kernel
theorem dX2_readProduct_1 : decode cX2_readProduct 1 = .ok (.iload_n 1, 1) := by decide +kernel
theorem dX2_readProduct_2 : decode cX2_readProduct 2 = .ok (.invokevirtual 73, 3) := by decide +kernel
theorem dX2_readProduct_5 : decode cX2_readProduct 5 = .ok (.istore_n 2, 1) := by decide +kernel
theorem dX2_readProduct_6 : decode cX2_readProduct 6 = .ok (.aload_n 0, 1) := by decide +kernel
theorem dX2_readProduct_7 : decode cX2_readProduct 7 = .ok (.invokevirtual 54, 3) := by decide +kernel
theorem dX2_readProduct_10 : decode cX2_readProduct 10 = .ok (.istore_n 3, 1) := by decide +kernel
theorem dX2_readProduct_11 : decode cX2_readProduct 11 = .ok (.aload_n 0, 1) := by decide +kernel
theorem dX2_readProduct_12 : decode cX2_readProduct 12 = .ok (.getfield 24, 3) := by decide +kernel
theorem dX2_readProduct_15 : decode cX2_readProduct 15 = .ok (.getfield 41, 3) := by decide +kernel
theorem dX2_readProduct_18 : decode cX2_readProduct 18 = .ok (.istore 4, 2) := by decide +kernel
theorem dX2_readProduct_20 : decode cX2_readProduct 20 = .ok (.iload 4, 2) := by decide +kernel
theorem dX2_readProduct_22 : decode cX2_readProduct 22 = .ok (.ifCond .le 55, 3) := by decide +kernel
theorem dX2_readProduct_25 : decode cX2_readProduct 25 = .ok (.iload_n 2, 1) := by decide +kernel
theorem dX2_readProduct_26 : decode cX2_readProduct 26 = .ok (.ifCond .eq 51, 3) := by decide +kernel
theorem dX2_readProduct_29 : decode cX2_readProduct 29 = .ok (.iload_n 3, 1) := by decide +kernel
theorem dX2_readProduct_30 : decode cX2_readProduct 30 = .ok (.bipush 42, 2) := by decide +kernel
theorem dX2_readProduct_32 : decode cX2_readProduct 32 = .ok (.if_icmp .eq 15, 3) := by decide +kernel
theorem dX2_readProduct_35 : decode cX2_readProduct 35 = .ok (.iload_n 3, 1) := by decide +kernel
theorem dX2_readProduct_36 : decode cX2_readProduct 36 = .ok (.bipush 47, 2) := by decide +kernel
theorem dX2_readProduct_38 : decode cX2_readProduct 38 = .ok (.if_icmp .eq 9, 3) := by decide +kernel
theorem dX2_readProduct_41 : decode cX2_readProduct 41 = .ok (.iload_n 3, 1) := by decide +kernel
theorem dX2_readProduct_42 : decode cX2_readProduct 42 = .ok (.bipush 37, 2) := by decide +kernel
theorem dX2_readProduct_44 : decode cX2_readProduct 44 = .ok (.if_icmp .ne 33, 3) := by decide +kernel
theorem dX2_readProduct_47 : decode cX2_readProduct 47 = .ok (.aload_n 0, 1) := by decide +kernel
theorem dX2_readProduct_48 : decode cX2_readProduct 48 = .ok (.invokevirtual 58, 3) := by decide +kernel
theorem dX2_readProduct_51 : decode cX2_readProduct 51 = .ok (.aload_n 0, 1) := by decide +kernel
theorem dX2_readProduct_52 : decode cX2_readProduct 52 = .ok (.iload_n 1, 1) := by decide +kernel
theorem dX2_readProduct_53 : decode cX2_readProduct 53 = .ok (.invokevirtual 73, 3) := by decide +kernel
theorem dX2_readProduct_56 : decode cX2_readProduct 56 = .ok (.istore_n 2, 1) := by decide +kernel
theorem dX2_readProduct_57 : decode cX2_readProduct 57 = .ok (.aload_n 0, 1) := by decide +kernel
theorem dX2_readProduct_58 : decode cX2_readProduct 58 = .ok (.getfield 14, 3) := by decide +kernel
theorem dX2_readProduct_61 : decode cX2_readProduct 61 = .ok (.iload_n 3, 1) := by decide +kernel
theorem dX2_readProduct_62 : decode cX2_readProduct 62 = .ok (.ineg, 1) := by decide +kernel
theorem dX2_readProduct_63 : decode cX2_readProduct 63 = .ok (.invokevirtual 61, 3) := by decide +kernel
theorem dX2_readProduct_66 : decode cX2_readProduct 66 = .ok (.aload_n 0, 1) := by decide +kernel
theorem dX2_readProduct_67 : decode cX2_readProduct 67 = .ok (.invokevirtual 54, 3) := by decide +kernel
theorem dX2_readProduct_70 : decode cX2_readProduct 70 = .ok (.istore_n 3, 1) := by decide +kernel
theorem dX2_readProduct_71 : decode cX2_readProduct 71 = .ok (.iinc 4 (-1), 3) := by decide +kernel
theorem dX2_readProduct_74 : decode cX2_readProduct 74 = .ok (.goto (-54), 3) := by decide +kernel
theorem dX2_readProduct_77 : decode cX2_readProduct 77 = .ok (.iload_n 2, 1) := by decide +kernel
theorem dX2_readProduct_78 : decode cX2_readProduct 78 = .ok (.ireturn, 1) := by decide +kernel
theorem u62_0 {d : Nat} {R : gR} {μ : gM} {l1 l2 l3 l4 : Value} {st : List Value} {x : Nat}  : gc_W (gc_S d) cX2_readProduct 2 1 R 0 [.ref x, l1, l2, l3, l4] st μ ↔ gc_W (gc_S d) cX2_readProduct 2 1 R 1 [.ref x, l1, l2, l3, l4] (.ref x :: st) μ := us_aload_n dX2_readProduct_0 rfl
theorem u62_1 {d : Nat} {R : gR} {μ : gM} {l0 l2 l3 l4 : Value} {st : List Value} {x : Int32}  : gc_W (gc_S d) cX2_readProduct 2 1 R 1 [l0, .int x, l2, l3, l4] st μ ↔ gc_W (gc_S d) cX2_readProduct 2 1 R 2 [l0, .int x, l2, l3, l4] (.int x :: st) μ := us_iload_n dX2_readProduct_1 rfl
theorem u62_2 {d : Nat} {R : gR} {μ : gM} {L : List Value} {o : Nat} {a0 : Int32} (hk : gc_kd o = 2) : gc_W (gc_S d) cX2_readProduct 2 1 R 2 L [.int a0, .ref o] μ ↔ gc_S d 61 [.ref o, .int a0] μ (fun v μ' => gc_W (gc_S d) cX2_readProduct 2 1 R 5 L (v.toList ++ []) μ') := us_virt dX2_readProduct_2 gn_2_73 gc_2_73_2 hk rfl rfl rfl rfl rfl
theorem u62_5 {d : Nat} {R : gR} {μ : gM} {l0 l1 l2 l3 l4 : Value} {st : List Value} {x : Int32} (hs : gc_sk l2 = true) : gc_W (gc_S d) cX2_readProduct 2 1 R 5 [l0, l1, l2, l3, l4] (.int x :: st) μ ↔ gc_W (gc_S d) cX2_readProduct 2 1 R 6 [l0, l1, .int x, l3, l4] st μ := us_istore_n dX2_readProduct_5 rfl hs
theorem u62_6 {d : Nat} {R : gR} {μ : gM} {l1 l2 l3 l4 : Value} {st : List Value} {x : Nat}  : gc_W (gc_S d) cX2_readProduct 2 1 R 6 [.ref x, l1, l2, l3, l4] st μ ↔ gc_W (gc_S d) cX2_readProduct 2 1 R 7 [.ref x, l1, l2, l3, l4] (.ref x :: st) μ := us_aload_n dX2_readProduct_6 rfl
theorem u62_7 {d : Nat} {R : gR} {μ : gM} {L : List Value} {o : Nat} (hk : gc_kd o = 2) : gc_W (gc_S d) cX2_readProduct 2 1 R 7 L [.ref o] μ ↔ gc_S d 49 [.ref o] μ (fun v μ' => gc_W (gc_S d) cX2_readProduct 2 1 R 10 L (v.toList ++ []) μ') := us_virt dX2_readProduct_7 gn_2_54 gc_2_54_2 hk rfl rfl rfl rfl rfl
theorem u62_10 {d : Nat} {R : gR} {μ : gM} {l0 l1 l2 l3 l4 : Value} {st : List Value} {x : Int32} (hs : gc_sk l3 = true) : gc_W (gc_S d) cX2_readProduct 2 1 R 10 [l0, l1, l2, l3, l4] (.int x :: st) μ ↔ gc_W (gc_S d) cX2_readProduct 2 1 R 11 [l0, l1, l2, .int x, l4] st μ := us_istore_n dX2_readProduct_10 rfl hs
theorem u62_11 {d : Nat} {R : gR} {μ : gM} {l1 l2 l3 l4 : Value} {st : List Value} {x : Nat}  : gc_W (gc_S d) cX2_readProduct 2 1 R 11 [.ref x, l1, l2, l3, l4] st μ ↔ gc_W (gc_S d) cX2_readProduct 2 1 R 12 [.ref x, l1, l2, l3, l4] (.ref x :: st) μ := us_aload_n dX2_readProduct_11 rfl
theorem u62_12 {d : Nat} {R : gR} {μ : gM} {L : List Value} {st : List Value} {o : Nat} (hk : gc_kd o = 2) : gc_W (gc_S d) cX2_readProduct 2 1 R 12 L (.ref o :: st) μ ↔ gc_W (gc_S d) cX2_readProduct 2 1 R 15 L (gc_fv o 2 μ :: st) μ := us_getf dX2_readProduct_12 gf_2_24 hk
theorem u62_15 {d : Nat} {R : gR} {μ : gM} {L : List Value} {st : List Value} {o : Nat} (hk : gc_kd o = 7) : gc_W (gc_S d) cX2_readProduct 2 1 R 15 L (.ref o :: st) μ ↔ gc_W (gc_S d) cX2_readProduct 2 1 R 18 L (gc_fv o 1 μ :: st) μ := us_getf dX2_readProduct_15 gf_2_41 hk
theorem u62_18 {d : Nat} {R : gR} {μ : gM} {l0 l1 l2 l3 l4 : Value} {st : List Value} {x : Int32} (hs : gc_sk l4 = true) : gc_W (gc_S d) cX2_readProduct 2 1 R 18 [l0, l1, l2, l3, l4] (.int x :: st) μ ↔ gc_W (gc_S d) cX2_readProduct 2 1 R 20 [l0, l1, l2, l3, .int x] st μ := us_istore dX2_readProduct_18 rfl hs
theorem u62_20 {d : Nat} {R : gR} {μ : gM} {l0 l1 l2 l3 : Value} {st : List Value} {x : Int32}  : gc_W (gc_S d) cX2_readProduct 2 1 R 20 [l0, l1, l2, l3, .int x] st μ ↔ gc_W (gc_S d) cX2_readProduct 2 1 R 22 [l0, l1, l2, l3, .int x] (.int x :: st) μ := us_iload dX2_readProduct_20 rfl
theorem u62_22 {d : Nat} {R : gR} {μ : gM} {L : List Value} {st : List Value} {x : Int32}  : gc_W (gc_S d) cX2_readProduct 2 1 R 22 L (.int x :: st) μ ↔ if x ≤ 0 then gc_W (gc_S d) cX2_readProduct 2 1 R 77 L st μ else gc_W (gc_S d) cX2_readProduct 2 1 R 25 L st μ := us_ifle dX2_readProduct_22 rfl
theorem u62_25 {d : Nat} {R : gR} {μ : gM} {l0 l1 l3 l4 : Value} {st : List Value} {x : Int32}  : gc_W (gc_S d) cX2_readProduct 2 1 R 25 [l0, l1, .int x, l3, l4] st μ ↔ gc_W (gc_S d) cX2_readProduct 2 1 R 26 [l0, l1, .int x, l3, l4] (.int x :: st) μ := us_iload_n dX2_readProduct_25 rfl
theorem u62_26 {d : Nat} {R : gR} {μ : gM} {L : List Value} {st : List Value} {x : Int32}  : gc_W (gc_S d) cX2_readProduct 2 1 R 26 L (.int x :: st) μ ↔ if x = 0 then gc_W (gc_S d) cX2_readProduct 2 1 R 77 L st μ else gc_W (gc_S d) cX2_readProduct 2 1 R 29 L st μ := us_ifeq dX2_readProduct_26 rfl
theorem u62_29 {d : Nat} {R : gR} {μ : gM} {l0 l1 l2 l4 : Value} {st : List Value} {x : Int32}  : gc_W (gc_S d) cX2_readProduct 2 1 R 29 [l0, l1, l2, .int x, l4] st μ ↔ gc_W (gc_S d) cX2_readProduct 2 1 R 30 [l0, l1, l2, .int x, l4] (.int x :: st) μ := us_iload_n dX2_readProduct_29 rfl
theorem u62_30 {d : Nat} {R : gR} {μ : gM} {L : List Value} {st : List Value}   : gc_W (gc_S d) cX2_readProduct 2 1 R 30 L st μ ↔ gc_W (gc_S d) cX2_readProduct 2 1 R 32 L (.int 42 :: st) μ := us_bipush dX2_readProduct_30 ci_bipush_42
theorem u62_32 {d : Nat} {R : gR} {μ : gM} {L : List Value} {st : List Value} {x y : Int32}  : gc_W (gc_S d) cX2_readProduct 2 1 R 32 L (.int y :: .int x :: st) μ ↔ if x = y then gc_W (gc_S d) cX2_readProduct 2 1 R 47 L st μ else gc_W (gc_S d) cX2_readProduct 2 1 R 35 L st μ := us_iceq dX2_readProduct_32 rfl
theorem u62_35 {d : Nat} {R : gR} {μ : gM} {l0 l1 l2 l4 : Value} {st : List Value} {x : Int32}  : gc_W (gc_S d) cX2_readProduct 2 1 R 35 [l0, l1, l2, .int x, l4] st μ ↔ gc_W (gc_S d) cX2_readProduct 2 1 R 36 [l0, l1, l2, .int x, l4] (.int x :: st) μ := us_iload_n dX2_readProduct_35 rfl
theorem u62_36 {d : Nat} {R : gR} {μ : gM} {L : List Value} {st : List Value}   : gc_W (gc_S d) cX2_readProduct 2 1 R 36 L st μ ↔ gc_W (gc_S d) cX2_readProduct 2 1 R 38 L (.int 47 :: st) μ := us_bipush dX2_readProduct_36 ci_bipush_47
theorem u62_38 {d : Nat} {R : gR} {μ : gM} {L : List Value} {st : List Value} {x y : Int32}  : gc_W (gc_S d) cX2_readProduct 2 1 R 38 L (.int y :: .int x :: st) μ ↔ if x = y then gc_W (gc_S d) cX2_readProduct 2 1 R 47 L st μ else gc_W (gc_S d) cX2_readProduct 2 1 R 41 L st μ := us_iceq dX2_readProduct_38 rfl
theorem u62_41 {d : Nat} {R : gR} {μ : gM} {l0 l1 l2 l4 : Value} {st : List Value} {x : Int32}  : gc_W (gc_S d) cX2_readProduct 2 1 R 41 [l0, l1, l2, .int x, l4] st μ ↔ gc_W (gc_S d) cX2_readProduct 2 1 R 42 [l0, l1, l2, .int x, l4] (.int x :: st) μ := us_iload_n dX2_readProduct_41 rfl
theorem u62_42 {d : Nat} {R : gR} {μ : gM} {L : List Value} {st : List Value}   : gc_W (gc_S d) cX2_readProduct 2 1 R 42 L st μ ↔ gc_W (gc_S d) cX2_readProduct 2 1 R 44 L (.int 37 :: st) μ := us_bipush dX2_readProduct_42 ci_bipush_37
theorem u62_44 {d : Nat} {R : gR} {μ : gM} {L : List Value} {st : List Value} {x y : Int32}  : gc_W (gc_S d) cX2_readProduct 2 1 R 44 L (.int y :: .int x :: st) μ ↔ if x = y then gc_W (gc_S d) cX2_readProduct 2 1 R 47 L st μ else gc_W (gc_S d) cX2_readProduct 2 1 R 77 L st μ := us_icne dX2_readProduct_44 rfl
theorem u62_47 {d : Nat} {R : gR} {μ : gM} {l1 l2 l3 l4 : Value} {st : List Value} {x : Nat}  : gc_W (gc_S d) cX2_readProduct 2 1 R 47 [.ref x, l1, l2, l3, l4] st μ ↔ gc_W (gc_S d) cX2_readProduct 2 1 R 48 [.ref x, l1, l2, l3, l4] (.ref x :: st) μ := us_aload_n dX2_readProduct_47 rfl
theorem u62_48 {d : Nat} {R : gR} {μ : gM} {L : List Value} {o : Nat} (hk : gc_kd o = 2) : gc_W (gc_S d) cX2_readProduct 2 1 R 48 L [.ref o] μ ↔ gc_S d 50 [.ref o] μ (fun v μ' => gc_W (gc_S d) cX2_readProduct 2 1 R 51 L (v.toList ++ []) μ') := us_virt dX2_readProduct_48 gn_2_58 gc_2_58_2 hk rfl rfl rfl rfl rfl
theorem u62_51 {d : Nat} {R : gR} {μ : gM} {l1 l2 l3 l4 : Value} {st : List Value} {x : Nat}  : gc_W (gc_S d) cX2_readProduct 2 1 R 51 [.ref x, l1, l2, l3, l4] st μ ↔ gc_W (gc_S d) cX2_readProduct 2 1 R 52 [.ref x, l1, l2, l3, l4] (.ref x :: st) μ := us_aload_n dX2_readProduct_51 rfl
theorem u62_52 {d : Nat} {R : gR} {μ : gM} {l0 l2 l3 l4 : Value} {st : List Value} {x : Int32}  : gc_W (gc_S d) cX2_readProduct 2 1 R 52 [l0, .int x, l2, l3, l4] st μ ↔ gc_W (gc_S d) cX2_readProduct 2 1 R 53 [l0, .int x, l2, l3, l4] (.int x :: st) μ := us_iload_n dX2_readProduct_52 rfl
theorem u62_53 {d : Nat} {R : gR} {μ : gM} {L : List Value} {o : Nat} {a0 : Int32} (hk : gc_kd o = 2) : gc_W (gc_S d) cX2_readProduct 2 1 R 53 L [.int a0, .ref o] μ ↔ gc_S d 61 [.ref o, .int a0] μ (fun v μ' => gc_W (gc_S d) cX2_readProduct 2 1 R 56 L (v.toList ++ []) μ') := us_virt dX2_readProduct_53 gn_2_73 gc_2_73_2 hk rfl rfl rfl rfl rfl
theorem u62_56 {d : Nat} {R : gR} {μ : gM} {l0 l1 l2 l3 l4 : Value} {st : List Value} {x : Int32} (hs : gc_sk l2 = true) : gc_W (gc_S d) cX2_readProduct 2 1 R 56 [l0, l1, l2, l3, l4] (.int x :: st) μ ↔ gc_W (gc_S d) cX2_readProduct 2 1 R 57 [l0, l1, .int x, l3, l4] st μ := us_istore_n dX2_readProduct_56 rfl hs
theorem u62_57 {d : Nat} {R : gR} {μ : gM} {l1 l2 l3 l4 : Value} {st : List Value} {x : Nat}  : gc_W (gc_S d) cX2_readProduct 2 1 R 57 [.ref x, l1, l2, l3, l4] st μ ↔ gc_W (gc_S d) cX2_readProduct 2 1 R 58 [.ref x, l1, l2, l3, l4] (.ref x :: st) μ := us_aload_n dX2_readProduct_57 rfl
theorem u62_58 {d : Nat} {R : gR} {μ : gM} {L : List Value} {st : List Value} {o : Nat} (hk : gc_kd o = 2) : gc_W (gc_S d) cX2_readProduct 2 1 R 58 L (.ref o :: st) μ ↔ gc_W (gc_S d) cX2_readProduct 2 1 R 61 L (gc_fv o 0 μ :: st) μ := us_getf dX2_readProduct_58 gf_2_14 hk
theorem u62_61 {d : Nat} {R : gR} {μ : gM} {l0 l1 l2 l4 : Value} {st : List Value} {x : Int32}  : gc_W (gc_S d) cX2_readProduct 2 1 R 61 [l0, l1, l2, .int x, l4] st μ ↔ gc_W (gc_S d) cX2_readProduct 2 1 R 62 [l0, l1, l2, .int x, l4] (.int x :: st) μ := us_iload_n dX2_readProduct_61 rfl
theorem u62_62 {d : Nat} {R : gR} {μ : gM} {L : List Value} {st : List Value} {x : Int32}  : gc_W (gc_S d) cX2_readProduct 2 1 R 62 L (.int x :: st) μ ↔ gc_W (gc_S d) cX2_readProduct 2 1 R 63 L (.int (-x) :: st) μ := us_ineg dX2_readProduct_62
theorem u62_63 {d : Nat} {R : gR} {μ : gM} {L : List Value} {o : Nat} {a0 : Int32} (hk : gc_kd o = 7) : gc_W (gc_S d) cX2_readProduct 2 1 R 63 L [.int a0, .ref o] μ ↔ gc_S d 41 [.ref o, .int a0] μ (fun v μ' => gc_W (gc_S d) cX2_readProduct 2 1 R 66 L (v.toList ++ []) μ') := us_virt dX2_readProduct_63 gn_2_61 gc_2_61_7 hk rfl rfl rfl rfl rfl
theorem u62_66 {d : Nat} {R : gR} {μ : gM} {l1 l2 l3 l4 : Value} {st : List Value} {x : Nat}  : gc_W (gc_S d) cX2_readProduct 2 1 R 66 [.ref x, l1, l2, l3, l4] st μ ↔ gc_W (gc_S d) cX2_readProduct 2 1 R 67 [.ref x, l1, l2, l3, l4] (.ref x :: st) μ := us_aload_n dX2_readProduct_66 rfl
theorem u62_67 {d : Nat} {R : gR} {μ : gM} {L : List Value} {o : Nat} (hk : gc_kd o = 2) : gc_W (gc_S d) cX2_readProduct 2 1 R 67 L [.ref o] μ ↔ gc_S d 49 [.ref o] μ (fun v μ' => gc_W (gc_S d) cX2_readProduct 2 1 R 70 L (v.toList ++ []) μ') := us_virt dX2_readProduct_67 gn_2_54 gc_2_54_2 hk rfl rfl rfl rfl rfl
theorem u62_70 {d : Nat} {R : gR} {μ : gM} {l0 l1 l2 l3 l4 : Value} {st : List Value} {x : Int32} (hs : gc_sk l3 = true) : gc_W (gc_S d) cX2_readProduct 2 1 R 70 [l0, l1, l2, l3, l4] (.int x :: st) μ ↔ gc_W (gc_S d) cX2_readProduct 2 1 R 71 [l0, l1, l2, .int x, l4] st μ := us_istore_n dX2_readProduct_70 rfl hs
theorem u62_71 {d : Nat} {R : gR} {μ : gM} {l0 l1 l2 l3 : Value} {st : List Value} {x : Int32}  : gc_W (gc_S d) cX2_readProduct 2 1 R 71 [l0, l1, l2, l3, .int x] st μ ↔ gc_W (gc_S d) cX2_readProduct 2 1 R 74 [l0, l1, l2, l3, .int (x + (-1))] st μ := us_iinc dX2_readProduct_71 rfl ci_iinc_m1
theorem u62_74 {d : Nat} {R : gR} {μ : gM} {L : List Value} {st : List Value}  : gc_W (gc_S d) cX2_readProduct 2 1 R 74 L st μ ↔ gc_W (gc_S d) cX2_readProduct 2 1 R 20 L st μ := us_goto dX2_readProduct_74 rfl
theorem u62_77 {d : Nat} {R : gR} {μ : gM} {l0 l1 l3 l4 : Value} {st : List Value} {x : Int32}  : gc_W (gc_S d) cX2_readProduct 2 1 R 77 [l0, l1, .int x, l3, l4] st μ ↔ gc_W (gc_S d) cX2_readProduct 2 1 R 78 [l0, l1, .int x, l3, l4] (.int x :: st) μ := us_iload_n dX2_readProduct_77 rfl
theorem u62_78 {d : Nat} {R : gR} {μ : gM} {L : List Value} {v : Int32}  : gc_W (gc_S d) cX2_readProduct 2 1 R 78 L [.int v] μ ↔ ((v = 0 ∨ v = 1) ∧ R (some (.int v)) μ) := us_zret dX2_readProduct_78 rfl
theorem s62 {d : Nat} {R : gR} {μ : gM} {o : Nat} {a0 : Int32} : gc_S (d + 1) 62 [.ref o, .int a0] μ R ↔ gc_W (gc_S d) cX2_readProduct 2 1 R 0 [.ref o, .int a0, .retAddr 0, .retAddr 0, .retAddr 0] [] μ := us_call (gm_62) rfl rfl
theorem dX2_readSum_0 : decode cX2_readSum 0 = .ok (.aload_n 0, 1) := by decide +kernel
theorem dX2_readSum_1 : decode cX2_readSum 1 = .ok (.iload_n 1, 1) := by decide +kernel
theorem dX2_readSum_2 : decode cX2_readSum 2 = .ok (.invokevirtual 70, 3) := by decide +kernel
theorem dX2_readSum_5 : decode cX2_readSum 5 = .ok (.istore_n 2, 1) := by decide +kernel
theorem dX2_readSum_6 : decode cX2_readSum 6 = .ok (.aload_n 0, 1) := by decide +kernel
theorem dX2_readSum_7 : decode cX2_readSum 7 = .ok (.invokevirtual 54, 3) := by decide +kernel
theorem dX2_readSum_10 : decode cX2_readSum 10 = .ok (.istore_n 3, 1) := by decide +kernel
theorem dX2_readSum_11 : decode cX2_readSum 11 = .ok (.aload_n 0, 1) := by decide +kernel
theorem dX2_readSum_12 : decode cX2_readSum 12 = .ok (.getfield 24, 3) := by decide +kernel
theorem dX2_readSum_15 : decode cX2_readSum 15 = .ok (.getfield 41, 3) := by decide +kernel
theorem dX2_readSum_18 : decode cX2_readSum 18 = .ok (.istore 4, 2) := by decide +kernel
theorem dX2_readSum_20 : decode cX2_readSum 20 = .ok (.iload 4, 2) := by decide +kernel
theorem dX2_readSum_22 : decode cX2_readSum 22 = .ok (.ifCond .le 49, 3) := by decide +kernel
theorem dX2_readSum_25 : decode cX2_readSum 25 = .ok (.iload_n 2, 1) := by decide +kernel
theorem dX2_readSum_26 : decode cX2_readSum 26 = .ok (.ifCond .eq 45, 3) := by decide +kernel
theorem dX2_readSum_29 : decode cX2_readSum 29 = .ok (.iload_n 3, 1) := by decide +kernel
theorem dX2_readSum_30 : decode cX2_readSum 30 = .ok (.bipush 43, 2) := by decide +kernel
theorem dX2_readSum_32 : decode cX2_readSum 32 = .ok (.if_icmp .eq 9, 3) := by decide +kernel
theorem dX2_readSum_35 : decode cX2_readSum 35 = .ok (.iload_n 3, 1) := by decide +kernel
theorem dX2_readSum_36 : decode cX2_readSum 36 = .ok (.bipush 45, 2) := by decide +kernel
theorem dX2_readSum_38 : decode cX2_readSum 38 = .ok (.if_icmp .ne 33, 3) := by decide +kernel
theorem dX2_readSum_41 : decode cX2_readSum 41 = .ok (.aload_n 0, 1) := by decide +kernel
theorem dX2_readSum_42 : decode cX2_readSum 42 = .ok (.invokevirtual 58, 3) := by decide +kernel
theorem dX2_readSum_45 : decode cX2_readSum 45 = .ok (.aload_n 0, 1) := by decide +kernel
theorem dX2_readSum_46 : decode cX2_readSum 46 = .ok (.iload_n 1, 1) := by decide +kernel
theorem dX2_readSum_47 : decode cX2_readSum 47 = .ok (.invokevirtual 70, 3) := by decide +kernel
theorem dX2_readSum_50 : decode cX2_readSum 50 = .ok (.istore_n 2, 1) := by decide +kernel
theorem dX2_readSum_51 : decode cX2_readSum 51 = .ok (.aload_n 0, 1) := by decide +kernel
theorem dX2_readSum_52 : decode cX2_readSum 52 = .ok (.getfield 14, 3) := by decide +kernel
theorem dX2_readSum_55 : decode cX2_readSum 55 = .ok (.iload_n 3, 1) := by decide +kernel
theorem dX2_readSum_56 : decode cX2_readSum 56 = .ok (.ineg, 1) := by decide +kernel
theorem dX2_readSum_57 : decode cX2_readSum 57 = .ok (.invokevirtual 61, 3) := by decide +kernel
theorem dX2_readSum_60 : decode cX2_readSum 60 = .ok (.aload_n 0, 1) := by decide +kernel
theorem dX2_readSum_61 : decode cX2_readSum 61 = .ok (.invokevirtual 54, 3) := by decide +kernel
theorem dX2_readSum_64 : decode cX2_readSum 64 = .ok (.istore_n 3, 1) := by decide +kernel
theorem dX2_readSum_65 : decode cX2_readSum 65 = .ok (.iinc 4 (-1), 3) := by decide +kernel
theorem dX2_readSum_68 : decode cX2_readSum 68 = .ok (.goto (-48), 3) := by decide +kernel
theorem dX2_readSum_71 : decode cX2_readSum 71 = .ok (.iload_n 2, 1) := by decide +kernel
theorem dX2_readSum_72 : decode cX2_readSum 72 = .ok (.ireturn, 1) := by decide +kernel
theorem u63_0 {d : Nat} {R : gR} {μ : gM} {l1 l2 l3 l4 : Value} {st : List Value} {x : Nat}  : gc_W (gc_S d) cX2_readSum 2 1 R 0 [.ref x, l1, l2, l3, l4] st μ ↔ gc_W (gc_S d) cX2_readSum 2 1 R 1 [.ref x, l1, l2, l3, l4] (.ref x :: st) μ := us_aload_n dX2_readSum_0 rfl
theorem u63_1 {d : Nat} {R : gR} {μ : gM} {l0 l2 l3 l4 : Value} {st : List Value} {x : Int32}  : gc_W (gc_S d) cX2_readSum 2 1 R 1 [l0, .int x, l2, l3, l4] st μ ↔ gc_W (gc_S d) cX2_readSum 2 1 R 2 [l0, .int x, l2, l3, l4] (.int x :: st) μ := us_iload_n dX2_readSum_1 rfl
theorem u63_2 {d : Nat} {R : gR} {μ : gM} {L : List Value} {o : Nat} {a0 : Int32} (hk : gc_kd o = 2) : gc_W (gc_S d) cX2_readSum 2 1 R 2 L [.int a0, .ref o] μ ↔ gc_S d 62 [.ref o, .int a0] μ (fun v μ' => gc_W (gc_S d) cX2_readSum 2 1 R 5 L (v.toList ++ []) μ') := us_virt dX2_readSum_2 gn_2_70 gc_2_70_2 hk rfl rfl rfl rfl rfl
theorem u63_5 {d : Nat} {R : gR} {μ : gM} {l0 l1 l2 l3 l4 : Value} {st : List Value} {x : Int32} (hs : gc_sk l2 = true) : gc_W (gc_S d) cX2_readSum 2 1 R 5 [l0, l1, l2, l3, l4] (.int x :: st) μ ↔ gc_W (gc_S d) cX2_readSum 2 1 R 6 [l0, l1, .int x, l3, l4] st μ := us_istore_n dX2_readSum_5 rfl hs
theorem u63_6 {d : Nat} {R : gR} {μ : gM} {l1 l2 l3 l4 : Value} {st : List Value} {x : Nat}  : gc_W (gc_S d) cX2_readSum 2 1 R 6 [.ref x, l1, l2, l3, l4] st μ ↔ gc_W (gc_S d) cX2_readSum 2 1 R 7 [.ref x, l1, l2, l3, l4] (.ref x :: st) μ := us_aload_n dX2_readSum_6 rfl
theorem u63_7 {d : Nat} {R : gR} {μ : gM} {L : List Value} {o : Nat} (hk : gc_kd o = 2) : gc_W (gc_S d) cX2_readSum 2 1 R 7 L [.ref o] μ ↔ gc_S d 49 [.ref o] μ (fun v μ' => gc_W (gc_S d) cX2_readSum 2 1 R 10 L (v.toList ++ []) μ') := us_virt dX2_readSum_7 gn_2_54 gc_2_54_2 hk rfl rfl rfl rfl rfl
theorem u63_10 {d : Nat} {R : gR} {μ : gM} {l0 l1 l2 l3 l4 : Value} {st : List Value} {x : Int32} (hs : gc_sk l3 = true) : gc_W (gc_S d) cX2_readSum 2 1 R 10 [l0, l1, l2, l3, l4] (.int x :: st) μ ↔ gc_W (gc_S d) cX2_readSum 2 1 R 11 [l0, l1, l2, .int x, l4] st μ := us_istore_n dX2_readSum_10 rfl hs
theorem u63_11 {d : Nat} {R : gR} {μ : gM} {l1 l2 l3 l4 : Value} {st : List Value} {x : Nat}  : gc_W (gc_S d) cX2_readSum 2 1 R 11 [.ref x, l1, l2, l3, l4] st μ ↔ gc_W (gc_S d) cX2_readSum 2 1 R 12 [.ref x, l1, l2, l3, l4] (.ref x :: st) μ := us_aload_n dX2_readSum_11 rfl
theorem u63_12 {d : Nat} {R : gR} {μ : gM} {L : List Value} {st : List Value} {o : Nat} (hk : gc_kd o = 2) : gc_W (gc_S d) cX2_readSum 2 1 R 12 L (.ref o :: st) μ ↔ gc_W (gc_S d) cX2_readSum 2 1 R 15 L (gc_fv o 2 μ :: st) μ := us_getf dX2_readSum_12 gf_2_24 hk
theorem u63_15 {d : Nat} {R : gR} {μ : gM} {L : List Value} {st : List Value} {o : Nat} (hk : gc_kd o = 7) : gc_W (gc_S d) cX2_readSum 2 1 R 15 L (.ref o :: st) μ ↔ gc_W (gc_S d) cX2_readSum 2 1 R 18 L (gc_fv o 1 μ :: st) μ := us_getf dX2_readSum_15 gf_2_41 hk
theorem u63_18 {d : Nat} {R : gR} {μ : gM} {l0 l1 l2 l3 l4 : Value} {st : List Value} {x : Int32} (hs : gc_sk l4 = true) : gc_W (gc_S d) cX2_readSum 2 1 R 18 [l0, l1, l2, l3, l4] (.int x :: st) μ ↔ gc_W (gc_S d) cX2_readSum 2 1 R 20 [l0, l1, l2, l3, .int x] st μ := us_istore dX2_readSum_18 rfl hs
theorem u63_20 {d : Nat} {R : gR} {μ : gM} {l0 l1 l2 l3 : Value} {st : List Value} {x : Int32}  : gc_W (gc_S d) cX2_readSum 2 1 R 20 [l0, l1, l2, l3, .int x] st μ ↔ gc_W (gc_S d) cX2_readSum 2 1 R 22 [l0, l1, l2, l3, .int x] (.int x :: st) μ := us_iload dX2_readSum_20 rfl
theorem u63_22 {d : Nat} {R : gR} {μ : gM} {L : List Value} {st : List Value} {x : Int32}  : gc_W (gc_S d) cX2_readSum 2 1 R 22 L (.int x :: st) μ ↔ if x ≤ 0 then gc_W (gc_S d) cX2_readSum 2 1 R 71 L st μ else gc_W (gc_S d) cX2_readSum 2 1 R 25 L st μ := us_ifle dX2_readSum_22 rfl
theorem u63_25 {d : Nat} {R : gR} {μ : gM} {l0 l1 l3 l4 : Value} {st : List Value} {x : Int32}  : gc_W (gc_S d) cX2_readSum 2 1 R 25 [l0, l1, .int x, l3, l4] st μ ↔ gc_W (gc_S d) cX2_readSum 2 1 R 26 [l0, l1, .int x, l3, l4] (.int x :: st) μ := us_iload_n dX2_readSum_25 rfl
theorem u63_26 {d : Nat} {R : gR} {μ : gM} {L : List Value} {st : List Value} {x : Int32}  : gc_W (gc_S d) cX2_readSum 2 1 R 26 L (.int x :: st) μ ↔ if x = 0 then gc_W (gc_S d) cX2_readSum 2 1 R 71 L st μ else gc_W (gc_S d) cX2_readSum 2 1 R 29 L st μ := us_ifeq dX2_readSum_26 rfl
theorem u63_29 {d : Nat} {R : gR} {μ : gM} {l0 l1 l2 l4 : Value} {st : List Value} {x : Int32}  : gc_W (gc_S d) cX2_readSum 2 1 R 29 [l0, l1, l2, .int x, l4] st μ ↔ gc_W (gc_S d) cX2_readSum 2 1 R 30 [l0, l1, l2, .int x, l4] (.int x :: st) μ := us_iload_n dX2_readSum_29 rfl
theorem u63_30 {d : Nat} {R : gR} {μ : gM} {L : List Value} {st : List Value}   : gc_W (gc_S d) cX2_readSum 2 1 R 30 L st μ ↔ gc_W (gc_S d) cX2_readSum 2 1 R 32 L (.int 43 :: st) μ := us_bipush dX2_readSum_30 ci_bipush_43
theorem u63_32 {d : Nat} {R : gR} {μ : gM} {L : List Value} {st : List Value} {x y : Int32}  : gc_W (gc_S d) cX2_readSum 2 1 R 32 L (.int y :: .int x :: st) μ ↔ if x = y then gc_W (gc_S d) cX2_readSum 2 1 R 41 L st μ else gc_W (gc_S d) cX2_readSum 2 1 R 35 L st μ := us_iceq dX2_readSum_32 rfl
theorem u63_35 {d : Nat} {R : gR} {μ : gM} {l0 l1 l2 l4 : Value} {st : List Value} {x : Int32}  : gc_W (gc_S d) cX2_readSum 2 1 R 35 [l0, l1, l2, .int x, l4] st μ ↔ gc_W (gc_S d) cX2_readSum 2 1 R 36 [l0, l1, l2, .int x, l4] (.int x :: st) μ := us_iload_n dX2_readSum_35 rfl
theorem u63_36 {d : Nat} {R : gR} {μ : gM} {L : List Value} {st : List Value}   : gc_W (gc_S d) cX2_readSum 2 1 R 36 L st μ ↔ gc_W (gc_S d) cX2_readSum 2 1 R 38 L (.int 45 :: st) μ := us_bipush dX2_readSum_36 ci_bipush_45
theorem u63_38 {d : Nat} {R : gR} {μ : gM} {L : List Value} {st : List Value} {x y : Int32}  : gc_W (gc_S d) cX2_readSum 2 1 R 38 L (.int y :: .int x :: st) μ ↔ if x = y then gc_W (gc_S d) cX2_readSum 2 1 R 41 L st μ else gc_W (gc_S d) cX2_readSum 2 1 R 71 L st μ := us_icne dX2_readSum_38 rfl
theorem u63_41 {d : Nat} {R : gR} {μ : gM} {l1 l2 l3 l4 : Value} {st : List Value} {x : Nat}  : gc_W (gc_S d) cX2_readSum 2 1 R 41 [.ref x, l1, l2, l3, l4] st μ ↔ gc_W (gc_S d) cX2_readSum 2 1 R 42 [.ref x, l1, l2, l3, l4] (.ref x :: st) μ := us_aload_n dX2_readSum_41 rfl
theorem u63_42 {d : Nat} {R : gR} {μ : gM} {L : List Value} {o : Nat} (hk : gc_kd o = 2) : gc_W (gc_S d) cX2_readSum 2 1 R 42 L [.ref o] μ ↔ gc_S d 50 [.ref o] μ (fun v μ' => gc_W (gc_S d) cX2_readSum 2 1 R 45 L (v.toList ++ []) μ') := us_virt dX2_readSum_42 gn_2_58 gc_2_58_2 hk rfl rfl rfl rfl rfl
theorem u63_45 {d : Nat} {R : gR} {μ : gM} {l1 l2 l3 l4 : Value} {st : List Value} {x : Nat}  : gc_W (gc_S d) cX2_readSum 2 1 R 45 [.ref x, l1, l2, l3, l4] st μ ↔ gc_W (gc_S d) cX2_readSum 2 1 R 46 [.ref x, l1, l2, l3, l4] (.ref x :: st) μ := us_aload_n dX2_readSum_45 rfl
theorem u63_46 {d : Nat} {R : gR} {μ : gM} {l0 l2 l3 l4 : Value} {st : List Value} {x : Int32}  : gc_W (gc_S d) cX2_readSum 2 1 R 46 [l0, .int x, l2, l3, l4] st μ ↔ gc_W (gc_S d) cX2_readSum 2 1 R 47 [l0, .int x, l2, l3, l4] (.int x :: st) μ := us_iload_n dX2_readSum_46 rfl
theorem u63_47 {d : Nat} {R : gR} {μ : gM} {L : List Value} {o : Nat} {a0 : Int32} (hk : gc_kd o = 2) : gc_W (gc_S d) cX2_readSum 2 1 R 47 L [.int a0, .ref o] μ ↔ gc_S d 62 [.ref o, .int a0] μ (fun v μ' => gc_W (gc_S d) cX2_readSum 2 1 R 50 L (v.toList ++ []) μ') := us_virt dX2_readSum_47 gn_2_70 gc_2_70_2 hk rfl rfl rfl rfl rfl
theorem u63_50 {d : Nat} {R : gR} {μ : gM} {l0 l1 l2 l3 l4 : Value} {st : List Value} {x : Int32} (hs : gc_sk l2 = true) : gc_W (gc_S d) cX2_readSum 2 1 R 50 [l0, l1, l2, l3, l4] (.int x :: st) μ ↔ gc_W (gc_S d) cX2_readSum 2 1 R 51 [l0, l1, .int x, l3, l4] st μ := us_istore_n dX2_readSum_50 rfl hs
theorem u63_51 {d : Nat} {R : gR} {μ : gM} {l1 l2 l3 l4 : Value} {st : List Value} {x : Nat}  : gc_W (gc_S d) cX2_readSum 2 1 R 51 [.ref x, l1, l2, l3, l4] st μ ↔ gc_W (gc_S d) cX2_readSum 2 1 R 52 [.ref x, l1, l2, l3, l4] (.ref x :: st) μ := us_aload_n dX2_readSum_51 rfl
theorem u63_52 {d : Nat} {R : gR} {μ : gM} {L : List Value} {st : List Value} {o : Nat} (hk : gc_kd o = 2) : gc_W (gc_S d) cX2_readSum 2 1 R 52 L (.ref o :: st) μ ↔ gc_W (gc_S d) cX2_readSum 2 1 R 55 L (gc_fv o 0 μ :: st) μ := us_getf dX2_readSum_52 gf_2_14 hk
theorem u63_55 {d : Nat} {R : gR} {μ : gM} {l0 l1 l2 l4 : Value} {st : List Value} {x : Int32}  : gc_W (gc_S d) cX2_readSum 2 1 R 55 [l0, l1, l2, .int x, l4] st μ ↔ gc_W (gc_S d) cX2_readSum 2 1 R 56 [l0, l1, l2, .int x, l4] (.int x :: st) μ := us_iload_n dX2_readSum_55 rfl
theorem u63_56 {d : Nat} {R : gR} {μ : gM} {L : List Value} {st : List Value} {x : Int32}  : gc_W (gc_S d) cX2_readSum 2 1 R 56 L (.int x :: st) μ ↔ gc_W (gc_S d) cX2_readSum 2 1 R 57 L (.int (-x) :: st) μ := us_ineg dX2_readSum_56
theorem u63_57 {d : Nat} {R : gR} {μ : gM} {L : List Value} {o : Nat} {a0 : Int32} (hk : gc_kd o = 7) : gc_W (gc_S d) cX2_readSum 2 1 R 57 L [.int a0, .ref o] μ ↔ gc_S d 41 [.ref o, .int a0] μ (fun v μ' => gc_W (gc_S d) cX2_readSum 2 1 R 60 L (v.toList ++ []) μ') := us_virt dX2_readSum_57 gn_2_61 gc_2_61_7 hk rfl rfl rfl rfl rfl
theorem u63_60 {d : Nat} {R : gR} {μ : gM} {l1 l2 l3 l4 : Value} {st : List Value} {x : Nat}  : gc_W (gc_S d) cX2_readSum 2 1 R 60 [.ref x, l1, l2, l3, l4] st μ ↔ gc_W (gc_S d) cX2_readSum 2 1 R 61 [.ref x, l1, l2, l3, l4] (.ref x :: st) μ := us_aload_n dX2_readSum_60 rfl
theorem u63_61 {d : Nat} {R : gR} {μ : gM} {L : List Value} {o : Nat} (hk : gc_kd o = 2) : gc_W (gc_S d) cX2_readSum 2 1 R 61 L [.ref o] μ ↔ gc_S d 49 [.ref o] μ (fun v μ' => gc_W (gc_S d) cX2_readSum 2 1 R 64 L (v.toList ++ []) μ') := us_virt dX2_readSum_61 gn_2_54 gc_2_54_2 hk rfl rfl rfl rfl rfl
theorem u63_64 {d : Nat} {R : gR} {μ : gM} {l0 l1 l2 l3 l4 : Value} {st : List Value} {x : Int32} (hs : gc_sk l3 = true) : gc_W (gc_S d) cX2_readSum 2 1 R 64 [l0, l1, l2, l3, l4] (.int x :: st) μ ↔ gc_W (gc_S d) cX2_readSum 2 1 R 65 [l0, l1, l2, .int x, l4] st μ := us_istore_n dX2_readSum_64 rfl hs
theorem u63_65 {d : Nat} {R : gR} {μ : gM} {l0 l1 l2 l3 : Value} {st : List Value} {x : Int32}  : gc_W (gc_S d) cX2_readSum 2 1 R 65 [l0, l1, l2, l3, .int x] st μ ↔ gc_W (gc_S d) cX2_readSum 2 1 R 68 [l0, l1, l2, l3, .int (x + (-1))] st μ := us_iinc dX2_readSum_65 rfl ci_iinc_m1
theorem u63_68 {d : Nat} {R : gR} {μ : gM} {L : List Value} {st : List Value}  : gc_W (gc_S d) cX2_readSum 2 1 R 68 L st μ ↔ gc_W (gc_S d) cX2_readSum 2 1 R 20 L st μ := us_goto dX2_readSum_68 rfl
theorem u63_71 {d : Nat} {R : gR} {μ : gM} {l0 l1 l3 l4 : Value} {st : List Value} {x : Int32}  : gc_W (gc_S d) cX2_readSum 2 1 R 71 [l0, l1, .int x, l3, l4] st μ ↔ gc_W (gc_S d) cX2_readSum 2 1 R 72 [l0, l1, .int x, l3, l4] (.int x :: st) μ := us_iload_n dX2_readSum_71 rfl
theorem u63_72 {d : Nat} {R : gR} {μ : gM} {L : List Value} {v : Int32}  : gc_W (gc_S d) cX2_readSum 2 1 R 72 L [.int v] μ ↔ ((v = 0 ∨ v = 1) ∧ R (some (.int v)) μ) := us_zret dX2_readSum_72 rfl
theorem s63 {d : Nat} {R : gR} {μ : gM} {o : Nat} {a0 : Int32} : gc_S (d + 1) 63 [.ref o, .int a0] μ R ↔ gc_W (gc_S d) cX2_readSum 2 1 R 0 [.ref o, .int a0, .retAddr 0, .retAddr 0, .retAddr 0] [] μ := us_call (gm_63) rfl rfl
theorem dX2_readText_0 : decode cX2_readText 0 = .ok (.aload_n 0, 1) := by decide +kernel
theorem dX2_readText_1 : decode cX2_readText 1 = .ok (.iload_n 1, 1) := by decide +kernel
theorem dX2_readText_2 : decode cX2_readText 2 = .ok (.invokevirtual 51, 3) := by decide +kernel
theorem dX2_readText_5 : decode cX2_readText 5 = .ok (.istore_n 2, 1) := by decide +kernel
theorem dX2_readText_6 : decode cX2_readText 6 = .ok (.aload_n 0, 1) := by decide +kernel
theorem dX2_readText_7 : decode cX2_readText 7 = .ok (.getfield 24, 3) := by decide +kernel
theorem dX2_readText_10 : decode cX2_readText 10 = .ok (.getfield 41, 3) := by decide +kernel
theorem dX2_readText_13 : decode cX2_readText 13 = .ok (.istore_n 3, 1) := by decide +kernel
theorem dX2_readText_14 : decode cX2_readText 14 = .ok (.iload_n 3, 1) := by decide +kernel
theorem dX2_readText_15 : decode cX2_readText 15 = .ok (.ifCond .le 41, 3) := by decide +kernel
theorem dX2_readText_18 : decode cX2_readText 18 = .ok (.iload_n 2, 1) := by decide +kernel
theorem dX2_readText_19 : decode cX2_readText 19 = .ok (.ifCond .eq 37, 3) := by decide +kernel
theorem dX2_readText_22 : decode cX2_readText 22 = .ok (.aload_n 0, 1) := by decide +kernel
theorem dX2_readText_23 : decode cX2_readText 23 = .ok (.invokevirtual 54, 3) := by decide +kernel
theorem dX2_readText_26 : decode cX2_readText 26 = .ok (.bipush 124, 2) := by decide +kernel
theorem dX2_readText_28 : decode cX2_readText 28 = .ok (.if_icmp .ne 28, 3) := by decide +kernel
theorem dX2_readText_31 : decode cX2_readText 31 = .ok (.aload_n 0, 1) := by decide +kernel
theorem dX2_readText_32 : decode cX2_readText 32 = .ok (.invokevirtual 58, 3) := by decide +kernel
theorem dX2_readText_35 : decode cX2_readText 35 = .ok (.aload_n 0, 1) := by decide +kernel
theorem dX2_readText_36 : decode cX2_readText 36 = .ok (.iload_n 1, 1) := by decide +kernel
theorem dX2_readText_37 : decode cX2_readText 37 = .ok (.invokevirtual 51, 3) := by decide +kernel
theorem dX2_readText_40 : decode cX2_readText 40 = .ok (.istore_n 2, 1) := by decide +kernel
theorem dX2_readText_41 : decode cX2_readText 41 = .ok (.aload_n 0, 1) := by decide +kernel
theorem dX2_readText_42 : decode cX2_readText 42 = .ok (.getfield 14, 3) := by decide +kernel
theorem dX2_readText_45 : decode cX2_readText 45 = .ok (.bipush (-124), 2) := by decide +kernel
theorem dX2_readText_47 : decode cX2_readText 47 = .ok (.invokevirtual 61, 3) := by decide +kernel
theorem dX2_readText_50 : decode cX2_readText 50 = .ok (.iinc 3 (-1), 3) := by decide +kernel
theorem dX2_readText_53 : decode cX2_readText 53 = .ok (.goto (-39), 3) := by decide +kernel
theorem dX2_readText_56 : decode cX2_readText 56 = .ok (.iload_n 2, 1) := by decide +kernel
theorem dX2_readText_57 : decode cX2_readText 57 = .ok (.ireturn, 1) := by decide +kernel
theorem u64_0 {d : Nat} {R : gR} {μ : gM} {l1 l2 l3 : Value} {st : List Value} {x : Nat}  : gc_W (gc_S d) cX2_readText 2 1 R 0 [.ref x, l1, l2, l3] st μ ↔ gc_W (gc_S d) cX2_readText 2 1 R 1 [.ref x, l1, l2, l3] (.ref x :: st) μ := us_aload_n dX2_readText_0 rfl
theorem u64_1 {d : Nat} {R : gR} {μ : gM} {l0 l2 l3 : Value} {st : List Value} {x : Int32}  : gc_W (gc_S d) cX2_readText 2 1 R 1 [l0, .int x, l2, l3] st μ ↔ gc_W (gc_S d) cX2_readText 2 1 R 2 [l0, .int x, l2, l3] (.int x :: st) μ := us_iload_n dX2_readText_1 rfl
theorem u64_2 {d : Nat} {R : gR} {μ : gM} {L : List Value} {o : Nat} {a0 : Int32} (hk : gc_kd o = 2) : gc_W (gc_S d) cX2_readText 2 1 R 2 L [.int a0, .ref o] μ ↔ gc_S d 59 [.ref o, .int a0] μ (fun v μ' => gc_W (gc_S d) cX2_readText 2 1 R 5 L (v.toList ++ []) μ') := us_virt dX2_readText_2 gn_2_51 gc_2_51_2 hk rfl rfl rfl rfl rfl
theorem u64_5 {d : Nat} {R : gR} {μ : gM} {l0 l1 l2 l3 : Value} {st : List Value} {x : Int32} (hs : gc_sk l2 = true) : gc_W (gc_S d) cX2_readText 2 1 R 5 [l0, l1, l2, l3] (.int x :: st) μ ↔ gc_W (gc_S d) cX2_readText 2 1 R 6 [l0, l1, .int x, l3] st μ := us_istore_n dX2_readText_5 rfl hs
theorem u64_6 {d : Nat} {R : gR} {μ : gM} {l1 l2 l3 : Value} {st : List Value} {x : Nat}  : gc_W (gc_S d) cX2_readText 2 1 R 6 [.ref x, l1, l2, l3] st μ ↔ gc_W (gc_S d) cX2_readText 2 1 R 7 [.ref x, l1, l2, l3] (.ref x :: st) μ := us_aload_n dX2_readText_6 rfl
theorem u64_7 {d : Nat} {R : gR} {μ : gM} {L : List Value} {st : List Value} {o : Nat} (hk : gc_kd o = 2) : gc_W (gc_S d) cX2_readText 2 1 R 7 L (.ref o :: st) μ ↔ gc_W (gc_S d) cX2_readText 2 1 R 10 L (gc_fv o 2 μ :: st) μ := us_getf dX2_readText_7 gf_2_24 hk
theorem u64_10 {d : Nat} {R : gR} {μ : gM} {L : List Value} {st : List Value} {o : Nat} (hk : gc_kd o = 7) : gc_W (gc_S d) cX2_readText 2 1 R 10 L (.ref o :: st) μ ↔ gc_W (gc_S d) cX2_readText 2 1 R 13 L (gc_fv o 1 μ :: st) μ := us_getf dX2_readText_10 gf_2_41 hk
theorem u64_13 {d : Nat} {R : gR} {μ : gM} {l0 l1 l2 l3 : Value} {st : List Value} {x : Int32} (hs : gc_sk l3 = true) : gc_W (gc_S d) cX2_readText 2 1 R 13 [l0, l1, l2, l3] (.int x :: st) μ ↔ gc_W (gc_S d) cX2_readText 2 1 R 14 [l0, l1, l2, .int x] st μ := us_istore_n dX2_readText_13 rfl hs
theorem u64_14 {d : Nat} {R : gR} {μ : gM} {l0 l1 l2 : Value} {st : List Value} {x : Int32}  : gc_W (gc_S d) cX2_readText 2 1 R 14 [l0, l1, l2, .int x] st μ ↔ gc_W (gc_S d) cX2_readText 2 1 R 15 [l0, l1, l2, .int x] (.int x :: st) μ := us_iload_n dX2_readText_14 rfl
theorem u64_15 {d : Nat} {R : gR} {μ : gM} {L : List Value} {st : List Value} {x : Int32}  : gc_W (gc_S d) cX2_readText 2 1 R 15 L (.int x :: st) μ ↔ if x ≤ 0 then gc_W (gc_S d) cX2_readText 2 1 R 56 L st μ else gc_W (gc_S d) cX2_readText 2 1 R 18 L st μ := us_ifle dX2_readText_15 rfl
theorem u64_18 {d : Nat} {R : gR} {μ : gM} {l0 l1 l3 : Value} {st : List Value} {x : Int32}  : gc_W (gc_S d) cX2_readText 2 1 R 18 [l0, l1, .int x, l3] st μ ↔ gc_W (gc_S d) cX2_readText 2 1 R 19 [l0, l1, .int x, l3] (.int x :: st) μ := us_iload_n dX2_readText_18 rfl
theorem u64_19 {d : Nat} {R : gR} {μ : gM} {L : List Value} {st : List Value} {x : Int32}  : gc_W (gc_S d) cX2_readText 2 1 R 19 L (.int x :: st) μ ↔ if x = 0 then gc_W (gc_S d) cX2_readText 2 1 R 56 L st μ else gc_W (gc_S d) cX2_readText 2 1 R 22 L st μ := us_ifeq dX2_readText_19 rfl
theorem u64_22 {d : Nat} {R : gR} {μ : gM} {l1 l2 l3 : Value} {st : List Value} {x : Nat}  : gc_W (gc_S d) cX2_readText 2 1 R 22 [.ref x, l1, l2, l3] st μ ↔ gc_W (gc_S d) cX2_readText 2 1 R 23 [.ref x, l1, l2, l3] (.ref x :: st) μ := us_aload_n dX2_readText_22 rfl
theorem u64_23 {d : Nat} {R : gR} {μ : gM} {L : List Value} {o : Nat} (hk : gc_kd o = 2) : gc_W (gc_S d) cX2_readText 2 1 R 23 L [.ref o] μ ↔ gc_S d 49 [.ref o] μ (fun v μ' => gc_W (gc_S d) cX2_readText 2 1 R 26 L (v.toList ++ []) μ') := us_virt dX2_readText_23 gn_2_54 gc_2_54_2 hk rfl rfl rfl rfl rfl
theorem u64_26 {d : Nat} {R : gR} {μ : gM} {L : List Value} {st : List Value}   : gc_W (gc_S d) cX2_readText 2 1 R 26 L st μ ↔ gc_W (gc_S d) cX2_readText 2 1 R 28 L (.int 124 :: st) μ := us_bipush dX2_readText_26 ci_bipush_124
theorem u64_28 {d : Nat} {R : gR} {μ : gM} {L : List Value} {st : List Value} {x y : Int32}  : gc_W (gc_S d) cX2_readText 2 1 R 28 L (.int y :: .int x :: st) μ ↔ if x = y then gc_W (gc_S d) cX2_readText 2 1 R 31 L st μ else gc_W (gc_S d) cX2_readText 2 1 R 56 L st μ := us_icne dX2_readText_28 rfl
theorem u64_31 {d : Nat} {R : gR} {μ : gM} {l1 l2 l3 : Value} {st : List Value} {x : Nat}  : gc_W (gc_S d) cX2_readText 2 1 R 31 [.ref x, l1, l2, l3] st μ ↔ gc_W (gc_S d) cX2_readText 2 1 R 32 [.ref x, l1, l2, l3] (.ref x :: st) μ := us_aload_n dX2_readText_31 rfl
theorem u64_32 {d : Nat} {R : gR} {μ : gM} {L : List Value} {o : Nat} (hk : gc_kd o = 2) : gc_W (gc_S d) cX2_readText 2 1 R 32 L [.ref o] μ ↔ gc_S d 50 [.ref o] μ (fun v μ' => gc_W (gc_S d) cX2_readText 2 1 R 35 L (v.toList ++ []) μ') := us_virt dX2_readText_32 gn_2_58 gc_2_58_2 hk rfl rfl rfl rfl rfl
theorem u64_35 {d : Nat} {R : gR} {μ : gM} {l1 l2 l3 : Value} {st : List Value} {x : Nat}  : gc_W (gc_S d) cX2_readText 2 1 R 35 [.ref x, l1, l2, l3] st μ ↔ gc_W (gc_S d) cX2_readText 2 1 R 36 [.ref x, l1, l2, l3] (.ref x :: st) μ := us_aload_n dX2_readText_35 rfl
theorem u64_36 {d : Nat} {R : gR} {μ : gM} {l0 l2 l3 : Value} {st : List Value} {x : Int32}  : gc_W (gc_S d) cX2_readText 2 1 R 36 [l0, .int x, l2, l3] st μ ↔ gc_W (gc_S d) cX2_readText 2 1 R 37 [l0, .int x, l2, l3] (.int x :: st) μ := us_iload_n dX2_readText_36 rfl
theorem u64_37 {d : Nat} {R : gR} {μ : gM} {L : List Value} {o : Nat} {a0 : Int32} (hk : gc_kd o = 2) : gc_W (gc_S d) cX2_readText 2 1 R 37 L [.int a0, .ref o] μ ↔ gc_S d 59 [.ref o, .int a0] μ (fun v μ' => gc_W (gc_S d) cX2_readText 2 1 R 40 L (v.toList ++ []) μ') := us_virt dX2_readText_37 gn_2_51 gc_2_51_2 hk rfl rfl rfl rfl rfl
theorem u64_40 {d : Nat} {R : gR} {μ : gM} {l0 l1 l2 l3 : Value} {st : List Value} {x : Int32} (hs : gc_sk l2 = true) : gc_W (gc_S d) cX2_readText 2 1 R 40 [l0, l1, l2, l3] (.int x :: st) μ ↔ gc_W (gc_S d) cX2_readText 2 1 R 41 [l0, l1, .int x, l3] st μ := us_istore_n dX2_readText_40 rfl hs
theorem u64_41 {d : Nat} {R : gR} {μ : gM} {l1 l2 l3 : Value} {st : List Value} {x : Nat}  : gc_W (gc_S d) cX2_readText 2 1 R 41 [.ref x, l1, l2, l3] st μ ↔ gc_W (gc_S d) cX2_readText 2 1 R 42 [.ref x, l1, l2, l3] (.ref x :: st) μ := us_aload_n dX2_readText_41 rfl
theorem u64_42 {d : Nat} {R : gR} {μ : gM} {L : List Value} {st : List Value} {o : Nat} (hk : gc_kd o = 2) : gc_W (gc_S d) cX2_readText 2 1 R 42 L (.ref o :: st) μ ↔ gc_W (gc_S d) cX2_readText 2 1 R 45 L (gc_fv o 0 μ :: st) μ := us_getf dX2_readText_42 gf_2_14 hk
theorem u64_45 {d : Nat} {R : gR} {μ : gM} {L : List Value} {st : List Value}   : gc_W (gc_S d) cX2_readText 2 1 R 45 L st μ ↔ gc_W (gc_S d) cX2_readText 2 1 R 47 L (.int (-124) :: st) μ := us_bipush dX2_readText_45 ci_bipush_m124
theorem u64_47 {d : Nat} {R : gR} {μ : gM} {L : List Value} {o : Nat} {a0 : Int32} (hk : gc_kd o = 7) : gc_W (gc_S d) cX2_readText 2 1 R 47 L [.int a0, .ref o] μ ↔ gc_S d 41 [.ref o, .int a0] μ (fun v μ' => gc_W (gc_S d) cX2_readText 2 1 R 50 L (v.toList ++ []) μ') := us_virt dX2_readText_47 gn_2_61 gc_2_61_7 hk rfl rfl rfl rfl rfl
theorem u64_50 {d : Nat} {R : gR} {μ : gM} {l0 l1 l2 : Value} {st : List Value} {x : Int32}  : gc_W (gc_S d) cX2_readText 2 1 R 50 [l0, l1, l2, .int x] st μ ↔ gc_W (gc_S d) cX2_readText 2 1 R 53 [l0, l1, l2, .int (x + (-1))] st μ := us_iinc dX2_readText_50 rfl ci_iinc_m1
theorem u64_53 {d : Nat} {R : gR} {μ : gM} {L : List Value} {st : List Value}  : gc_W (gc_S d) cX2_readText 2 1 R 53 L st μ ↔ gc_W (gc_S d) cX2_readText 2 1 R 14 L st μ := us_goto dX2_readText_53 rfl
theorem u64_56 {d : Nat} {R : gR} {μ : gM} {l0 l1 l3 : Value} {st : List Value} {x : Int32}  : gc_W (gc_S d) cX2_readText 2 1 R 56 [l0, l1, .int x, l3] st μ ↔ gc_W (gc_S d) cX2_readText 2 1 R 57 [l0, l1, .int x, l3] (.int x :: st) μ := us_iload_n dX2_readText_56 rfl
theorem u64_57 {d : Nat} {R : gR} {μ : gM} {L : List Value} {v : Int32}  : gc_W (gc_S d) cX2_readText 2 1 R 57 L [.int v] μ ↔ ((v = 0 ∨ v = 1) ∧ R (some (.int v)) μ) := us_zret dX2_readText_57 rfl
theorem s64 {d : Nat} {R : gR} {μ : gM} {o : Nat} {a0 : Int32} : gc_S (d + 1) 64 [.ref o, .int a0] μ R ↔ gc_W (gc_S d) cX2_readText 2 1 R 0 [.ref o, .int a0, .retAddr 0, .retAddr 0] [] μ := us_call (gm_64) rfl rfl
theorem dX2_read_0 : decode cX2_read 0 = .ok (.aload_n 0, 1) := by decide +kernel
theorem dX2_read_1 : decode cX2_read 1 = .ok (.aload_n 1, 1) := by decide +kernel
theorem dX2_read_2 : decode cX2_read 2 = .ok (.putfield 24, 3) := by decide +kernel
theorem dX2_read_5 : decode cX2_read 5 = .ok (.aload_n 0, 1) := by decide +kernel
theorem dX2_read_6 : decode cX2_read 6 = .ok (.iload_n 2, 1) := by decide +kernel
theorem dX2_read_7 : decode cX2_read 7 = .ok (.ifCond .ne 8, 3) := by decide +kernel
theorem dX2_read_10 : decode cX2_read 10 = .ok (.ldc 33, 2) := by decide +kernel
theorem dX2_read_12 : decode cX2_read 12 = .ok (.goto 5, 3) := by decide +kernel
theorem dX2_read_15 : decode cX2_read 15 = .ok (.ldc 35, 2) := by decide +kernel
theorem dX2_read_17 : decode cX2_read 17 = .ok (.putfield 29, 3) := by decide +kernel
theorem dX2_read_20 : decode cX2_read 20 = .ok (.aload_n 0, 1) := by decide +kernel
theorem dX2_read_21 : decode cX2_read 21 = .ok (.iconst 0, 1) := by decide +kernel
theorem dX2_read_22 : decode cX2_read 22 = .ok (.putfield 37, 3) := by decide +kernel
theorem dX2_read_25 : decode cX2_read 25 = .ok (.aload_n 0, 1) := by decide +kernel
theorem dX2_read_26 : decode cX2_read 26 = .ok (.getfield 14, 3) := by decide +kernel
theorem dX2_read_29 : decode cX2_read 29 = .ok (.iconst 0, 1) := by decide +kernel
theorem dX2_read_30 : decode cX2_read 30 = .ok (.putfield 41, 3) := by decide +kernel
theorem dX2_read_33 : decode cX2_read 33 = .ok (.aload_n 0, 1) := by decide +kernel
theorem dX2_read_34 : decode cX2_read 34 = .ok (.iconst 0, 1) := by decide +kernel
theorem dX2_read_35 : decode cX2_read 35 = .ok (.invokevirtual 44, 3) := by decide +kernel
theorem dX2_read_38 : decode cX2_read 38 = .ok (.ifCond .eq 21, 3) := by decide +kernel
theorem dX2_read_41 : decode cX2_read 41 = .ok (.aload_n 0, 1) := by decide +kernel
theorem dX2_read_42 : decode cX2_read 42 = .ok (.getfield 37, 3) := by decide +kernel
theorem dX2_read_45 : decode cX2_read 45 = .ok (.aload_n 0, 1) := by decide +kernel
theorem dX2_read_46 : decode cX2_read 46 = .ok (.getfield 24, 3) := by decide +kernel
theorem dX2_read_49 : decode cX2_read 49 = .ok (.getfield 41, 3) := by decide +kernel
theorem dX2_read_52 : decode cX2_read 52 = .ok (.if_icmp .ne 7, 3) := by decide +kernel
theorem dX2_read_55 : decode cX2_read 55 = .ok (.iconst (-1), 1) := by decide +kernel
theorem dX2_read_56 : decode cX2_read 56 = .ok (.goto 7, 3) := by decide +kernel
theorem dX2_read_59 : decode cX2_read 59 = .ok (.aload_n 0, 1) := by decide +kernel
theorem dX2_read_60 : decode cX2_read 60 = .ok (.getfield 37, 3) := by decide +kernel
theorem dX2_read_63 : decode cX2_read 63 = .ok (.ireturn, 1) := by decide +kernel
theorem u65_0 {d : Nat} {R : gR} {μ : gM} {l1 l2 : Value} {st : List Value} {x : Nat}  : gc_W (gc_S d) cX2_read 2 0 R 0 [.ref x, l1, l2] st μ ↔ gc_W (gc_S d) cX2_read 2 0 R 1 [.ref x, l1, l2] (.ref x :: st) μ := us_aload_n dX2_read_0 rfl
theorem u65_1 {d : Nat} {R : gR} {μ : gM} {l0 l2 : Value} {st : List Value} {x : Nat}  : gc_W (gc_S d) cX2_read 2 0 R 1 [l0, .ref x, l2] st μ ↔ gc_W (gc_S d) cX2_read 2 0 R 2 [l0, .ref x, l2] (.ref x :: st) μ := us_aload_n dX2_read_1 rfl
theorem u65_2 {d : Nat} {R : gR} {μ : gM} {L : List Value} {st : List Value} {o q : Nat} (hk : gc_kd o = 2) (hj : gc_fk o 2 = 1) (hq : Nat.blt q 1000 = true) : gc_W (gc_S d) cX2_read 2 0 R 2 L (.ref q :: .ref o :: st) μ ↔ gc_W (gc_S d) cX2_read 2 0 R 5 L st (gc_up μ o 2 (nI q)) := us_putr dX2_read_2 gf_2_24 hk hj hq
theorem u65_5 {d : Nat} {R : gR} {μ : gM} {l1 l2 : Value} {st : List Value} {x : Nat}  : gc_W (gc_S d) cX2_read 2 0 R 5 [.ref x, l1, l2] st μ ↔ gc_W (gc_S d) cX2_read 2 0 R 6 [.ref x, l1, l2] (.ref x :: st) μ := us_aload_n dX2_read_5 rfl
theorem u65_6 {d : Nat} {R : gR} {μ : gM} {l0 l1 : Value} {st : List Value} {x : Int32}  : gc_W (gc_S d) cX2_read 2 0 R 6 [l0, l1, .int x] st μ ↔ gc_W (gc_S d) cX2_read 2 0 R 7 [l0, l1, .int x] (.int x :: st) μ := us_iload_n dX2_read_6 rfl
theorem u65_7 {d : Nat} {R : gR} {μ : gM} {L : List Value} {st : List Value} {x : Int32}  : gc_W (gc_S d) cX2_read 2 0 R 7 L (.int x :: st) μ ↔ if x = 0 then gc_W (gc_S d) cX2_read 2 0 R 10 L st μ else gc_W (gc_S d) cX2_read 2 0 R 15 L st μ := us_ifne dX2_read_7 rfl
theorem u65_10 {d : Nat} {R : gR} {μ : gM} {L : List Value} {st : List Value}   : gc_W (gc_S d) cX2_read 2 0 R 10 L st μ ↔ gc_W (gc_S d) cX2_read 2 0 R 12 L (.ref 103 :: st) μ := us_ldcs dX2_read_10 (by decide +kernel) (by decide +kernel)
theorem u65_12 {d : Nat} {R : gR} {μ : gM} {L : List Value} {st : List Value}  : gc_W (gc_S d) cX2_read 2 0 R 12 L st μ ↔ gc_W (gc_S d) cX2_read 2 0 R 17 L st μ := us_goto dX2_read_12 rfl
theorem u65_15 {d : Nat} {R : gR} {μ : gM} {L : List Value} {st : List Value}   : gc_W (gc_S d) cX2_read 2 0 R 15 L st μ ↔ gc_W (gc_S d) cX2_read 2 0 R 17 L (.ref 104 :: st) μ := us_ldcs dX2_read_15 (by decide +kernel) (by decide +kernel)
theorem u65_17 {d : Nat} {R : gR} {μ : gM} {L : List Value} {st : List Value} {o q : Nat} (hk : gc_kd o = 2) (hj : gc_fk o 3 = 1) (hq : Nat.blt q 1000 = true) : gc_W (gc_S d) cX2_read 2 0 R 17 L (.ref q :: .ref o :: st) μ ↔ gc_W (gc_S d) cX2_read 2 0 R 20 L st (gc_up μ o 3 (nI q)) := us_putr dX2_read_17 gf_2_29 hk hj hq
theorem u65_20 {d : Nat} {R : gR} {μ : gM} {l1 l2 : Value} {st : List Value} {x : Nat}  : gc_W (gc_S d) cX2_read 2 0 R 20 [.ref x, l1, l2] st μ ↔ gc_W (gc_S d) cX2_read 2 0 R 21 [.ref x, l1, l2] (.ref x :: st) μ := us_aload_n dX2_read_20 rfl
theorem u65_21 {d : Nat} {R : gR} {μ : gM} {L : List Value} {st : List Value}   : gc_W (gc_S d) cX2_read 2 0 R 21 L st μ ↔ gc_W (gc_S d) cX2_read 2 0 R 22 L (.int 0 :: st) μ := us_iconst dX2_read_21 ci_iconst_0
theorem u65_22 {d : Nat} {R : gR} {μ : gM} {L : List Value} {st : List Value} {o : Nat} {x : Int32} (hk : gc_kd o = 2) (hj : gc_fk o 4 = 0) : gc_W (gc_S d) cX2_read 2 0 R 22 L (.int x :: .ref o :: st) μ ↔ gc_W (gc_S d) cX2_read 2 0 R 25 L st (gc_up μ o 4 x) := us_putf dX2_read_22 gf_2_37 hk hj rfl
theorem u65_25 {d : Nat} {R : gR} {μ : gM} {l1 l2 : Value} {st : List Value} {x : Nat}  : gc_W (gc_S d) cX2_read 2 0 R 25 [.ref x, l1, l2] st μ ↔ gc_W (gc_S d) cX2_read 2 0 R 26 [.ref x, l1, l2] (.ref x :: st) μ := us_aload_n dX2_read_25 rfl
theorem u65_26 {d : Nat} {R : gR} {μ : gM} {L : List Value} {st : List Value} {o : Nat} (hk : gc_kd o = 2) : gc_W (gc_S d) cX2_read 2 0 R 26 L (.ref o :: st) μ ↔ gc_W (gc_S d) cX2_read 2 0 R 29 L (gc_fv o 0 μ :: st) μ := us_getf dX2_read_26 gf_2_14 hk
theorem u65_29 {d : Nat} {R : gR} {μ : gM} {L : List Value} {st : List Value}   : gc_W (gc_S d) cX2_read 2 0 R 29 L st μ ↔ gc_W (gc_S d) cX2_read 2 0 R 30 L (.int 0 :: st) μ := us_iconst dX2_read_29 ci_iconst_0
theorem u65_30 {d : Nat} {R : gR} {μ : gM} {L : List Value} {st : List Value} {o : Nat} {x : Int32} (hk : gc_kd o = 7) (hj : gc_fk o 1 = 0) : gc_W (gc_S d) cX2_read 2 0 R 30 L (.int x :: .ref o :: st) μ ↔ gc_W (gc_S d) cX2_read 2 0 R 33 L st (gc_up μ o 1 x) := us_putf dX2_read_30 gf_2_41 hk hj rfl
theorem u65_33 {d : Nat} {R : gR} {μ : gM} {l1 l2 : Value} {st : List Value} {x : Nat}  : gc_W (gc_S d) cX2_read 2 0 R 33 [.ref x, l1, l2] st μ ↔ gc_W (gc_S d) cX2_read 2 0 R 34 [.ref x, l1, l2] (.ref x :: st) μ := us_aload_n dX2_read_33 rfl
theorem u65_34 {d : Nat} {R : gR} {μ : gM} {L : List Value} {st : List Value}   : gc_W (gc_S d) cX2_read 2 0 R 34 L st μ ↔ gc_W (gc_S d) cX2_read 2 0 R 35 L (.int 0 :: st) μ := us_iconst dX2_read_34 ci_iconst_0
theorem u65_35 {d : Nat} {R : gR} {μ : gM} {L : List Value} {o : Nat} {a0 : Int32} (hk : gc_kd o = 2) : gc_W (gc_S d) cX2_read 2 0 R 35 L [.int a0, .ref o] μ ↔ gc_S d 64 [.ref o, .int a0] μ (fun v μ' => gc_W (gc_S d) cX2_read 2 0 R 38 L (v.toList ++ []) μ') := us_virt dX2_read_35 gn_2_44 gc_2_44_2 hk rfl rfl rfl rfl rfl
theorem u65_38 {d : Nat} {R : gR} {μ : gM} {L : List Value} {st : List Value} {x : Int32}  : gc_W (gc_S d) cX2_read 2 0 R 38 L (.int x :: st) μ ↔ if x = 0 then gc_W (gc_S d) cX2_read 2 0 R 59 L st μ else gc_W (gc_S d) cX2_read 2 0 R 41 L st μ := us_ifeq dX2_read_38 rfl
theorem u65_41 {d : Nat} {R : gR} {μ : gM} {l1 l2 : Value} {st : List Value} {x : Nat}  : gc_W (gc_S d) cX2_read 2 0 R 41 [.ref x, l1, l2] st μ ↔ gc_W (gc_S d) cX2_read 2 0 R 42 [.ref x, l1, l2] (.ref x :: st) μ := us_aload_n dX2_read_41 rfl
theorem u65_42 {d : Nat} {R : gR} {μ : gM} {L : List Value} {st : List Value} {o : Nat} (hk : gc_kd o = 2) : gc_W (gc_S d) cX2_read 2 0 R 42 L (.ref o :: st) μ ↔ gc_W (gc_S d) cX2_read 2 0 R 45 L (gc_fv o 4 μ :: st) μ := us_getf dX2_read_42 gf_2_37 hk
theorem u65_45 {d : Nat} {R : gR} {μ : gM} {l1 l2 : Value} {st : List Value} {x : Nat}  : gc_W (gc_S d) cX2_read 2 0 R 45 [.ref x, l1, l2] st μ ↔ gc_W (gc_S d) cX2_read 2 0 R 46 [.ref x, l1, l2] (.ref x :: st) μ := us_aload_n dX2_read_45 rfl
theorem u65_46 {d : Nat} {R : gR} {μ : gM} {L : List Value} {st : List Value} {o : Nat} (hk : gc_kd o = 2) : gc_W (gc_S d) cX2_read 2 0 R 46 L (.ref o :: st) μ ↔ gc_W (gc_S d) cX2_read 2 0 R 49 L (gc_fv o 2 μ :: st) μ := us_getf dX2_read_46 gf_2_24 hk
theorem u65_49 {d : Nat} {R : gR} {μ : gM} {L : List Value} {st : List Value} {o : Nat} (hk : gc_kd o = 7) : gc_W (gc_S d) cX2_read 2 0 R 49 L (.ref o :: st) μ ↔ gc_W (gc_S d) cX2_read 2 0 R 52 L (gc_fv o 1 μ :: st) μ := us_getf dX2_read_49 gf_2_41 hk
theorem u65_52 {d : Nat} {R : gR} {μ : gM} {L : List Value} {st : List Value} {x y : Int32}  : gc_W (gc_S d) cX2_read 2 0 R 52 L (.int y :: .int x :: st) μ ↔ if x = y then gc_W (gc_S d) cX2_read 2 0 R 55 L st μ else gc_W (gc_S d) cX2_read 2 0 R 59 L st μ := us_icne dX2_read_52 rfl
theorem u65_55 {d : Nat} {R : gR} {μ : gM} {L : List Value} {st : List Value}   : gc_W (gc_S d) cX2_read 2 0 R 55 L st μ ↔ gc_W (gc_S d) cX2_read 2 0 R 56 L (.int (-1) :: st) μ := us_iconst dX2_read_55 ci_iconst_m1
theorem u65_56 {d : Nat} {R : gR} {μ : gM} {L : List Value} {st : List Value}  : gc_W (gc_S d) cX2_read 2 0 R 56 L st μ ↔ gc_W (gc_S d) cX2_read 2 0 R 63 L st μ := us_goto dX2_read_56 rfl
theorem u65_59 {d : Nat} {R : gR} {μ : gM} {l1 l2 : Value} {st : List Value} {x : Nat}  : gc_W (gc_S d) cX2_read 2 0 R 59 [.ref x, l1, l2] st μ ↔ gc_W (gc_S d) cX2_read 2 0 R 60 [.ref x, l1, l2] (.ref x :: st) μ := us_aload_n dX2_read_59 rfl
theorem u65_60 {d : Nat} {R : gR} {μ : gM} {L : List Value} {st : List Value} {o : Nat} (hk : gc_kd o = 2) : gc_W (gc_S d) cX2_read 2 0 R 60 L (.ref o :: st) μ ↔ gc_W (gc_S d) cX2_read 2 0 R 63 L (gc_fv o 4 μ :: st) μ := us_getf dX2_read_60 gf_2_37 hk
theorem u65_63 {d : Nat} {R : gR} {μ : gM} {L : List Value} {v : Int32}  : gc_W (gc_S d) cX2_read 2 0 R 63 L [.int v] μ ↔ R (some (.int v)) μ := us_iret dX2_read_63 rfl
theorem s65 {d : Nat} {R : gR} {μ : gM} {o : Nat} {a1 : Int32} {a0 : Nat} : gc_S (d + 1) 65 [.ref o, .ref a0, .int a1] μ R ↔ gc_W (gc_S d) cX2_read 2 0 R 0 [.ref o, .ref a0, .int a1] [] μ := us_call (gm_65) rfl rfl
theorem dX8_blows_0 : decode cX8_blows 0 = .ok (.aload_n 1, 1) := by decide +kernel
theorem dX8_blows_1 : decode cX8_blows 1 = .ok (.getfield 19, 3) := by decide +kernel
theorem dX8_blows_4 : decode cX8_blows 4 = .ok (.bipush 30, 2) := by decide +kernel
theorem dX8_blows_6 : decode cX8_blows 6 = .ok (.invokevirtual 25, 3) := by decide +kernel
theorem dX8_blows_9 : decode cX8_blows 9 = .ok (.aload_n 0, 1) := by decide +kernel
theorem dX8_blows_10 : decode cX8_blows 10 = .ok (.aload_n 1, 1) := by decide +kernel
theorem dX8_blows_11 : decode cX8_blows 11 = .ok (.iload_n 2, 1) := by decide +kernel
theorem dX8_blows_12 : decode cX8_blows 12 = .ok (.invokespecial 31, 3) := by decide +kernel
theorem dX8_blows_15 : decode cX8_blows 15 = .ok (.aload_n 0, 1) := by decide +kernel
theorem dX8_blows_16 : decode cX8_blows 16 = .ok (.aload_n 1, 1) := by decide +kernel
theorem dX8_blows_17 : decode cX8_blows 17 = .ok (.iconst 1, 1) := by decide +kernel
theorem dX8_blows_18 : decode cX8_blows 18 = .ok (.invokevirtual 35, 3) := by decide +kernel
theorem dX8_blows_21 : decode cX8_blows 21 = .ok (.isub, 1) := by decide +kernel
theorem dX8_blows_22 : decode cX8_blows 22 = .ok (.ireturn, 1) := by decide +kernel
theorem u66_0 {d : Nat} {R : gR} {μ : gM} {l0 l2 : Value} {st : List Value} {x : Nat}  : gc_W (gc_S d) cX8_blows 8 0 R 0 [l0, .ref x, l2] st μ ↔ gc_W (gc_S d) cX8_blows 8 0 R 1 [l0, .ref x, l2] (.ref x :: st) μ := us_aload_n dX8_blows_0 rfl
theorem u66_1 {d : Nat} {R : gR} {μ : gM} {L : List Value} {st : List Value} {o : Nat} (hk : gc_kd o = 9) : gc_W (gc_S d) cX8_blows 8 0 R 1 L (.ref o :: st) μ ↔ gc_W (gc_S d) cX8_blows 8 0 R 4 L (gc_fv o 0 μ :: st) μ := us_getf dX8_blows_1 gf_8_19 hk
theorem u66_4 {d : Nat} {R : gR} {μ : gM} {L : List Value} {st : List Value}   : gc_W (gc_S d) cX8_blows 8 0 R 4 L st μ ↔ gc_W (gc_S d) cX8_blows 8 0 R 6 L (.int 30 :: st) μ := us_bipush dX8_blows_4 ci_bipush_30
theorem u66_6 {d : Nat} {R : gR} {μ : gM} {L : List Value} {o : Nat} {a0 : Int32} (hk : gc_kd o = 7) : gc_W (gc_S d) cX8_blows 8 0 R 6 L [.int a0, .ref o] μ ↔ gc_S d 41 [.ref o, .int a0] μ (fun v μ' => gc_W (gc_S d) cX8_blows 8 0 R 9 L (v.toList ++ []) μ') := us_virt dX8_blows_6 gn_8_25 gc_8_25_7 hk rfl rfl rfl rfl rfl
theorem u66_9 {d : Nat} {R : gR} {μ : gM} {l1 l2 : Value} {st : List Value} {x : Nat}  : gc_W (gc_S d) cX8_blows 8 0 R 9 [.ref x, l1, l2] st μ ↔ gc_W (gc_S d) cX8_blows 8 0 R 10 [.ref x, l1, l2] (.ref x :: st) μ := us_aload_n dX8_blows_9 rfl
theorem u66_10 {d : Nat} {R : gR} {μ : gM} {l0 l2 : Value} {st : List Value} {x : Nat}  : gc_W (gc_S d) cX8_blows 8 0 R 10 [l0, .ref x, l2] st μ ↔ gc_W (gc_S d) cX8_blows 8 0 R 11 [l0, .ref x, l2] (.ref x :: st) μ := us_aload_n dX8_blows_10 rfl
theorem u66_11 {d : Nat} {R : gR} {μ : gM} {l0 l1 : Value} {st : List Value} {x : Int32}  : gc_W (gc_S d) cX8_blows 8 0 R 11 [l0, l1, .int x] st μ ↔ gc_W (gc_S d) cX8_blows 8 0 R 12 [l0, l1, .int x] (.int x :: st) μ := us_iload_n dX8_blows_11 rfl
theorem u66_12 {d : Nat} {R : gR} {μ : gM} {L : List Value} {o kd : Nat} {a1 : Int32} {a0 : Nat} (hk : gc_kd o = kd) (hkd : Nat.blt kd 13 = true) : gc_W (gc_S d) cX8_blows 8 0 R 12 L [.int a1, .ref a0, .ref o] μ ↔ gc_S d 47 [.ref o, .ref a0, .int a1] μ (fun v μ' => gc_W (gc_S d) cX8_blows 8 0 R 15 L (v.toList ++ []) μ') := us_spec dX8_blows_12 gn_8_31 gc_8_31_98 hk hkd rfl rfl rfl rfl
theorem u66_15 {d : Nat} {R : gR} {μ : gM} {l1 l2 : Value} {st : List Value} {x : Nat}  : gc_W (gc_S d) cX8_blows 8 0 R 15 [.ref x, l1, l2] st μ ↔ gc_W (gc_S d) cX8_blows 8 0 R 16 [.ref x, l1, l2] (.ref x :: st) μ := us_aload_n dX8_blows_15 rfl
theorem u66_16 {d : Nat} {R : gR} {μ : gM} {l0 l2 : Value} {st : List Value} {x : Nat}  : gc_W (gc_S d) cX8_blows 8 0 R 16 [l0, .ref x, l2] st μ ↔ gc_W (gc_S d) cX8_blows 8 0 R 17 [l0, .ref x, l2] (.ref x :: st) μ := us_aload_n dX8_blows_16 rfl
theorem u66_17 {d : Nat} {R : gR} {μ : gM} {L : List Value} {st : List Value}   : gc_W (gc_S d) cX8_blows 8 0 R 17 L st μ ↔ gc_W (gc_S d) cX8_blows 8 0 R 18 L (.int 1 :: st) μ := us_iconst dX8_blows_17 ci_iconst_1
theorem u66_18_4 {d : Nat} {R : gR} {μ : gM} {L : List Value} {o : Nat} {a1 : Int32} {a0 : Nat} {s0 : Value} (hk : gc_kd o = 4) : gc_W (gc_S d) cX8_blows 8 0 R 18 L [.int a1, .ref a0, .ref o, s0] μ ↔ gc_S d 42 [.ref o, .ref a0, .int a1] μ (fun v μ' => gc_W (gc_S d) cX8_blows 8 0 R 21 L (v.toList ++ [s0]) μ') := us_virt dX8_blows_18 gn_8_35 gc_8_35_4 hk rfl rfl rfl rfl rfl
theorem u66_18_8 {d : Nat} {R : gR} {μ : gM} {L : List Value} {o : Nat} {a1 : Int32} {a0 : Nat} {s0 : Value} (hk : gc_kd o = 8) : gc_W (gc_S d) cX8_blows 8 0 R 18 L [.int a1, .ref a0, .ref o, s0] μ ↔ gc_S d 42 [.ref o, .ref a0, .int a1] μ (fun v μ' => gc_W (gc_S d) cX8_blows 8 0 R 21 L (v.toList ++ [s0]) μ') := us_virt dX8_blows_18 gn_8_35 gc_8_35_8 hk rfl rfl rfl rfl rfl
theorem u66_21 {d : Nat} {R : gR} {μ : gM} {L : List Value} {st : List Value} {x y : Int32}  : gc_W (gc_S d) cX8_blows 8 0 R 21 L (.int y :: .int x :: st) μ ↔ gc_W (gc_S d) cX8_blows 8 0 R 22 L (.int (x - y) :: st) μ := us_isub dX8_blows_21
theorem u66_22 {d : Nat} {R : gR} {μ : gM} {L : List Value} {v : Int32}  : gc_W (gc_S d) cX8_blows 8 0 R 22 L [.int v] μ ↔ R (some (.int v)) μ := us_iret dX8_blows_22 rfl
theorem s66 {d : Nat} {R : gR} {μ : gM} {o : Nat} {a1 : Int32} {a0 : Nat} : gc_S (d + 1) 66 [.ref o, .ref a0, .int a1] μ R ↔ gc_W (gc_S d) cX8_blows 8 0 R 0 [.ref o, .ref a0, .int a1] [] μ := us_call (gm_66) rfl rfl
theorem dX4_blows_0 : decode cX4_blows 0 = .ok (.aload_n 1, 1) := by decide +kernel
theorem dX4_blows_1 : decode cX4_blows 1 = .ok (.getfield 14, 3) := by decide +kernel
theorem dX4_blows_4 : decode cX4_blows 4 = .ok (.bipush 60, 2) := by decide +kernel
theorem dX4_blows_6 : decode cX4_blows 6 = .ok (.invokevirtual 20, 3) := by decide +kernel
theorem dX4_blows_9 : decode cX4_blows 9 = .ok (.aload_n 0, 1) := by decide +kernel
theorem dX4_blows_10 : decode cX4_blows 10 = .ok (.aload_n 1, 1) := by decide +kernel
theorem dX4_blows_11 : decode cX4_blows 11 = .ok (.iload_n 2, 1) := by decide +kernel
theorem dX4_blows_12 : decode cX4_blows 12 = .ok (.iconst 1, 1) := by decide +kernel
theorem dX4_blows_13 : decode cX4_blows 13 = .ok (.iadd, 1) := by decide +kernel
theorem dX4_blows_14 : decode cX4_blows 14 = .ok (.invokespecial 26, 3) := by decide +kernel
theorem dX4_blows_17 : decode cX4_blows 17 = .ok (.ireturn, 1) := by decide +kernel
theorem u67_0 {d : Nat} {R : gR} {μ : gM} {l0 l2 : Value} {st : List Value} {x : Nat}  : gc_W (gc_S d) cX4_blows 4 0 R 0 [l0, .ref x, l2] st μ ↔ gc_W (gc_S d) cX4_blows 4 0 R 1 [l0, .ref x, l2] (.ref x :: st) μ := us_aload_n dX4_blows_0 rfl
theorem u67_1 {d : Nat} {R : gR} {μ : gM} {L : List Value} {st : List Value} {o : Nat} (hk : gc_kd o = 9) : gc_W (gc_S d) cX4_blows 4 0 R 1 L (.ref o :: st) μ ↔ gc_W (gc_S d) cX4_blows 4 0 R 4 L (gc_fv o 0 μ :: st) μ := us_getf dX4_blows_1 gf_4_14 hk
theorem u67_4 {d : Nat} {R : gR} {μ : gM} {L : List Value} {st : List Value}   : gc_W (gc_S d) cX4_blows 4 0 R 4 L st μ ↔ gc_W (gc_S d) cX4_blows 4 0 R 6 L (.int 60 :: st) μ := us_bipush dX4_blows_4 ci_bipush_60
theorem u67_6 {d : Nat} {R : gR} {μ : gM} {L : List Value} {o : Nat} {a0 : Int32} (hk : gc_kd o = 7) : gc_W (gc_S d) cX4_blows 4 0 R 6 L [.int a0, .ref o] μ ↔ gc_S d 41 [.ref o, .int a0] μ (fun v μ' => gc_W (gc_S d) cX4_blows 4 0 R 9 L (v.toList ++ []) μ') := us_virt dX4_blows_6 gn_4_20 gc_4_20_7 hk rfl rfl rfl rfl rfl
theorem u67_9 {d : Nat} {R : gR} {μ : gM} {l1 l2 : Value} {st : List Value} {x : Nat}  : gc_W (gc_S d) cX4_blows 4 0 R 9 [.ref x, l1, l2] st μ ↔ gc_W (gc_S d) cX4_blows 4 0 R 10 [.ref x, l1, l2] (.ref x :: st) μ := us_aload_n dX4_blows_9 rfl
theorem u67_10 {d : Nat} {R : gR} {μ : gM} {l0 l2 : Value} {st : List Value} {x : Nat}  : gc_W (gc_S d) cX4_blows 4 0 R 10 [l0, .ref x, l2] st μ ↔ gc_W (gc_S d) cX4_blows 4 0 R 11 [l0, .ref x, l2] (.ref x :: st) μ := us_aload_n dX4_blows_10 rfl
theorem u67_11 {d : Nat} {R : gR} {μ : gM} {l0 l1 : Value} {st : List Value} {x : Int32}  : gc_W (gc_S d) cX4_blows 4 0 R 11 [l0, l1, .int x] st μ ↔ gc_W (gc_S d) cX4_blows 4 0 R 12 [l0, l1, .int x] (.int x :: st) μ := us_iload_n dX4_blows_11 rfl
theorem u67_12 {d : Nat} {R : gR} {μ : gM} {L : List Value} {st : List Value}   : gc_W (gc_S d) cX4_blows 4 0 R 12 L st μ ↔ gc_W (gc_S d) cX4_blows 4 0 R 13 L (.int 1 :: st) μ := us_iconst dX4_blows_12 ci_iconst_1
theorem u67_13 {d : Nat} {R : gR} {μ : gM} {L : List Value} {st : List Value} {x y : Int32}  : gc_W (gc_S d) cX4_blows 4 0 R 13 L (.int y :: .int x :: st) μ ↔ gc_W (gc_S d) cX4_blows 4 0 R 14 L (.int (x + y) :: st) μ := us_iadd dX4_blows_13
theorem u67_14 {d : Nat} {R : gR} {μ : gM} {L : List Value} {o kd : Nat} {a1 : Int32} {a0 : Nat} (hk : gc_kd o = kd) (hkd : Nat.blt kd 13 = true) : gc_W (gc_S d) cX4_blows 4 0 R 14 L [.int a1, .ref a0, .ref o] μ ↔ gc_S d 66 [.ref o, .ref a0, .int a1] μ (fun v μ' => gc_W (gc_S d) cX4_blows 4 0 R 17 L (v.toList ++ []) μ') := us_spec dX4_blows_14 gn_4_26 gc_4_26_98 hk hkd rfl rfl rfl rfl
theorem u67_17 {d : Nat} {R : gR} {μ : gM} {L : List Value} {v : Int32}  : gc_W (gc_S d) cX4_blows 4 0 R 17 L [.int v] μ ↔ R (some (.int v)) μ := us_iret dX4_blows_17 rfl
theorem s67 {d : Nat} {R : gR} {μ : gM} {o : Nat} {a1 : Int32} {a0 : Nat} : gc_S (d + 1) 67 [.ref o, .ref a0, .int a1] μ R ↔ gc_W (gc_S d) cX4_blows 4 0 R 0 [.ref o, .ref a0, .int a1] [] μ := us_call (gm_67) rfl rfl
theorem dX5_tells_0 : decode cX5_tells 0 = .ok (.aload_n 1, 1) := by decide +kernel
theorem dX5_tells_1 : decode cX5_tells 1 = .ok (.getfield 7, 3) := by decide +kernel
theorem dX5_tells_4 : decode cX5_tells 4 = .ok (.bipush 13, 2) := by decide +kernel
theorem dX5_tells_6 : decode cX5_tells 6 = .ok (.invokevirtual 13, 3) := by decide +kernel
theorem dX5_tells_9 : decode cX5_tells 9 = .ok (.aload_n 0, 1) := by decide +kernel
theorem dX5_tells_10 : decode cX5_tells 10 = .ok (.aload_n 1, 1) := by decide +kernel
theorem dX5_tells_11 : decode cX5_tells 11 = .ok (.iload_n 2, 1) := by decide +kernel
theorem dX5_tells_12 : decode cX5_tells 12 = .ok (.invokevirtual 32, 3) := by decide +kernel
theorem dX5_tells_15 : decode cX5_tells 15 = .ok (.aload_n 0, 1) := by decide +kernel
theorem dX5_tells_16 : decode cX5_tells 16 = .ok (.aload_n 1, 1) := by decide +kernel
theorem dX5_tells_17 : decode cX5_tells 17 = .ok (.iload_n 2, 1) := by decide +kernel
theorem dX5_tells_18 : decode cX5_tells 18 = .ok (.invokevirtual 35, 3) := by decide +kernel
theorem dX5_tells_21 : decode cX5_tells 21 = .ok (.ixor, 1) := by decide +kernel
theorem dX5_tells_22 : decode cX5_tells 22 = .ok (.ireturn, 1) := by decide +kernel
theorem u68_0 {d : Nat} {R : gR} {μ : gM} {l0 l2 : Value} {st : List Value} {x : Nat}  : gc_W (gc_S d) cX5_tells 5 0 R 0 [l0, .ref x, l2] st μ ↔ gc_W (gc_S d) cX5_tells 5 0 R 1 [l0, .ref x, l2] (.ref x :: st) μ := us_aload_n dX5_tells_0 rfl
theorem u68_1 {d : Nat} {R : gR} {μ : gM} {L : List Value} {st : List Value} {o : Nat} (hk : gc_kd o = 9) : gc_W (gc_S d) cX5_tells 5 0 R 1 L (.ref o :: st) μ ↔ gc_W (gc_S d) cX5_tells 5 0 R 4 L (gc_fv o 0 μ :: st) μ := us_getf dX5_tells_1 gf_5_7 hk
theorem u68_4 {d : Nat} {R : gR} {μ : gM} {L : List Value} {st : List Value}   : gc_W (gc_S d) cX5_tells 5 0 R 4 L st μ ↔ gc_W (gc_S d) cX5_tells 5 0 R 6 L (.int 13 :: st) μ := us_bipush dX5_tells_4 ci_bipush_13
theorem u68_6 {d : Nat} {R : gR} {μ : gM} {L : List Value} {o : Nat} {a0 : Int32} (hk : gc_kd o = 7) : gc_W (gc_S d) cX5_tells 5 0 R 6 L [.int a0, .ref o] μ ↔ gc_S d 41 [.ref o, .int a0] μ (fun v μ' => gc_W (gc_S d) cX5_tells 5 0 R 9 L (v.toList ++ []) μ') := us_virt dX5_tells_6 gn_5_13 gc_5_13_7 hk rfl rfl rfl rfl rfl
theorem u68_9 {d : Nat} {R : gR} {μ : gM} {l1 l2 : Value} {st : List Value} {x : Nat}  : gc_W (gc_S d) cX5_tells 5 0 R 9 [.ref x, l1, l2] st μ ↔ gc_W (gc_S d) cX5_tells 5 0 R 10 [.ref x, l1, l2] (.ref x :: st) μ := us_aload_n dX5_tells_9 rfl
theorem u68_10 {d : Nat} {R : gR} {μ : gM} {l0 l2 : Value} {st : List Value} {x : Nat}  : gc_W (gc_S d) cX5_tells 5 0 R 10 [l0, .ref x, l2] st μ ↔ gc_W (gc_S d) cX5_tells 5 0 R 11 [l0, .ref x, l2] (.ref x :: st) μ := us_aload_n dX5_tells_10 rfl
theorem u68_11 {d : Nat} {R : gR} {μ : gM} {l0 l1 : Value} {st : List Value} {x : Int32}  : gc_W (gc_S d) cX5_tells 5 0 R 11 [l0, l1, .int x] st μ ↔ gc_W (gc_S d) cX5_tells 5 0 R 12 [l0, l1, .int x] (.int x :: st) μ := us_iload_n dX5_tells_11 rfl
theorem u68_12_1 {d : Nat} {R : gR} {μ : gM} {L : List Value} {o : Nat} {a1 : Int32} {a0 : Nat} (hk : gc_kd o = 1) : gc_W (gc_S d) cX5_tells 5 0 R 12 L [.int a1, .ref a0, .ref o] μ ↔ gc_S d 47 [.ref o, .ref a0, .int a1] μ (fun v μ' => gc_W (gc_S d) cX5_tells 5 0 R 15 L (v.toList ++ []) μ') := us_virt dX5_tells_12 gn_5_32 gc_5_32_1 hk rfl rfl rfl rfl rfl
theorem u68_12_3 {d : Nat} {R : gR} {μ : gM} {L : List Value} {o : Nat} {a1 : Int32} {a0 : Nat} (hk : gc_kd o = 3) : gc_W (gc_S d) cX5_tells 5 0 R 12 L [.int a1, .ref a0, .ref o] μ ↔ gc_S d 47 [.ref o, .ref a0, .int a1] μ (fun v μ' => gc_W (gc_S d) cX5_tells 5 0 R 15 L (v.toList ++ []) μ') := us_virt dX5_tells_12 gn_5_32 gc_5_32_3 hk rfl rfl rfl rfl rfl
theorem u68_12_4 {d : Nat} {R : gR} {μ : gM} {L : List Value} {o : Nat} {a1 : Int32} {a0 : Nat} (hk : gc_kd o = 4) : gc_W (gc_S d) cX5_tells 5 0 R 12 L [.int a1, .ref a0, .ref o] μ ↔ gc_S d 67 [.ref o, .ref a0, .int a1] μ (fun v μ' => gc_W (gc_S d) cX5_tells 5 0 R 15 L (v.toList ++ []) μ') := us_virt dX5_tells_12 gn_5_32 gc_5_32_4 hk rfl rfl rfl rfl rfl
theorem u68_12_5 {d : Nat} {R : gR} {μ : gM} {L : List Value} {o : Nat} {a1 : Int32} {a0 : Nat} (hk : gc_kd o = 5) : gc_W (gc_S d) cX5_tells 5 0 R 12 L [.int a1, .ref a0, .ref o] μ ↔ gc_S d 47 [.ref o, .ref a0, .int a1] μ (fun v μ' => gc_W (gc_S d) cX5_tells 5 0 R 15 L (v.toList ++ []) μ') := us_virt dX5_tells_12 gn_5_32 gc_5_32_5 hk rfl rfl rfl rfl rfl
theorem u68_12_6 {d : Nat} {R : gR} {μ : gM} {L : List Value} {o : Nat} {a1 : Int32} {a0 : Nat} (hk : gc_kd o = 6) : gc_W (gc_S d) cX5_tells 5 0 R 12 L [.int a1, .ref a0, .ref o] μ ↔ gc_S d 47 [.ref o, .ref a0, .int a1] μ (fun v μ' => gc_W (gc_S d) cX5_tells 5 0 R 15 L (v.toList ++ []) μ') := us_virt dX5_tells_12 gn_5_32 gc_5_32_6 hk rfl rfl rfl rfl rfl
theorem u68_12_8 {d : Nat} {R : gR} {μ : gM} {L : List Value} {o : Nat} {a1 : Int32} {a0 : Nat} (hk : gc_kd o = 8) : gc_W (gc_S d) cX5_tells 5 0 R 12 L [.int a1, .ref a0, .ref o] μ ↔ gc_S d 66 [.ref o, .ref a0, .int a1] μ (fun v μ' => gc_W (gc_S d) cX5_tells 5 0 R 15 L (v.toList ++ []) μ') := us_virt dX5_tells_12 gn_5_32 gc_5_32_8 hk rfl rfl rfl rfl rfl
theorem u68_12_10 {d : Nat} {R : gR} {μ : gM} {L : List Value} {o : Nat} {a1 : Int32} {a0 : Nat} (hk : gc_kd o = 10) : gc_W (gc_S d) cX5_tells 5 0 R 12 L [.int a1, .ref a0, .ref o] μ ↔ gc_S d 47 [.ref o, .ref a0, .int a1] μ (fun v μ' => gc_W (gc_S d) cX5_tells 5 0 R 15 L (v.toList ++ []) μ') := us_virt dX5_tells_12 gn_5_32 gc_5_32_10 hk rfl rfl rfl rfl rfl
theorem u68_15 {d : Nat} {R : gR} {μ : gM} {l1 l2 : Value} {st : List Value} {x : Nat}  : gc_W (gc_S d) cX5_tells 5 0 R 15 [.ref x, l1, l2] st μ ↔ gc_W (gc_S d) cX5_tells 5 0 R 16 [.ref x, l1, l2] (.ref x :: st) μ := us_aload_n dX5_tells_15 rfl
theorem u68_16 {d : Nat} {R : gR} {μ : gM} {l0 l2 : Value} {st : List Value} {x : Nat}  : gc_W (gc_S d) cX5_tells 5 0 R 16 [l0, .ref x, l2] st μ ↔ gc_W (gc_S d) cX5_tells 5 0 R 17 [l0, .ref x, l2] (.ref x :: st) μ := us_aload_n dX5_tells_16 rfl
theorem u68_17 {d : Nat} {R : gR} {μ : gM} {l0 l1 : Value} {st : List Value} {x : Int32}  : gc_W (gc_S d) cX5_tells 5 0 R 17 [l0, l1, .int x] st μ ↔ gc_W (gc_S d) cX5_tells 5 0 R 18 [l0, l1, .int x] (.int x :: st) μ := us_iload_n dX5_tells_17 rfl
theorem u68_18_1 {d : Nat} {R : gR} {μ : gM} {L : List Value} {o : Nat} {a1 : Int32} {a0 : Nat} {s0 : Value} (hk : gc_kd o = 1) : gc_W (gc_S d) cX5_tells 5 0 R 18 L [.int a1, .ref a0, .ref o, s0] μ ↔ gc_S d 44 [.ref o, .ref a0, .int a1] μ (fun v μ' => gc_W (gc_S d) cX5_tells 5 0 R 21 L (v.toList ++ [s0]) μ') := us_virt dX5_tells_18 gn_5_35 gc_5_35_1 hk rfl rfl rfl rfl rfl
theorem u68_18_3 {d : Nat} {R : gR} {μ : gM} {L : List Value} {o : Nat} {a1 : Int32} {a0 : Nat} {s0 : Value} (hk : gc_kd o = 3) : gc_W (gc_S d) cX5_tells 5 0 R 18 L [.int a1, .ref a0, .ref o, s0] μ ↔ gc_S d 43 [.ref o, .ref a0, .int a1] μ (fun v μ' => gc_W (gc_S d) cX5_tells 5 0 R 21 L (v.toList ++ [s0]) μ') := us_virt dX5_tells_18 gn_5_35 gc_5_35_3 hk rfl rfl rfl rfl rfl
theorem u68_18_4 {d : Nat} {R : gR} {μ : gM} {L : List Value} {o : Nat} {a1 : Int32} {a0 : Nat} {s0 : Value} (hk : gc_kd o = 4) : gc_W (gc_S d) cX5_tells 5 0 R 18 L [.int a1, .ref a0, .ref o, s0] μ ↔ gc_S d 42 [.ref o, .ref a0, .int a1] μ (fun v μ' => gc_W (gc_S d) cX5_tells 5 0 R 21 L (v.toList ++ [s0]) μ') := us_virt dX5_tells_18 gn_5_35 gc_5_35_4 hk rfl rfl rfl rfl rfl
theorem u68_18_5 {d : Nat} {R : gR} {μ : gM} {L : List Value} {o : Nat} {a1 : Int32} {a0 : Nat} {s0 : Value} (hk : gc_kd o = 5) : gc_W (gc_S d) cX5_tells 5 0 R 18 L [.int a1, .ref a0, .ref o, s0] μ ↔ gc_S d 42 [.ref o, .ref a0, .int a1] μ (fun v μ' => gc_W (gc_S d) cX5_tells 5 0 R 21 L (v.toList ++ [s0]) μ') := us_virt dX5_tells_18 gn_5_35 gc_5_35_5 hk rfl rfl rfl rfl rfl
theorem u68_18_6 {d : Nat} {R : gR} {μ : gM} {L : List Value} {o : Nat} {a1 : Int32} {a0 : Nat} {s0 : Value} (hk : gc_kd o = 6) : gc_W (gc_S d) cX5_tells 5 0 R 18 L [.int a1, .ref a0, .ref o, s0] μ ↔ gc_S d 42 [.ref o, .ref a0, .int a1] μ (fun v μ' => gc_W (gc_S d) cX5_tells 5 0 R 21 L (v.toList ++ [s0]) μ') := us_virt dX5_tells_18 gn_5_35 gc_5_35_6 hk rfl rfl rfl rfl rfl
theorem u68_18_8 {d : Nat} {R : gR} {μ : gM} {L : List Value} {o : Nat} {a1 : Int32} {a0 : Nat} {s0 : Value} (hk : gc_kd o = 8) : gc_W (gc_S d) cX5_tells 5 0 R 18 L [.int a1, .ref a0, .ref o, s0] μ ↔ gc_S d 42 [.ref o, .ref a0, .int a1] μ (fun v μ' => gc_W (gc_S d) cX5_tells 5 0 R 21 L (v.toList ++ [s0]) μ') := us_virt dX5_tells_18 gn_5_35 gc_5_35_8 hk rfl rfl rfl rfl rfl
theorem u68_18_10 {d : Nat} {R : gR} {μ : gM} {L : List Value} {o : Nat} {a1 : Int32} {a0 : Nat} {s0 : Value} (hk : gc_kd o = 10) : gc_W (gc_S d) cX5_tells 5 0 R 18 L [.int a1, .ref a0, .ref o, s0] μ ↔ gc_S d 42 [.ref o, .ref a0, .int a1] μ (fun v μ' => gc_W (gc_S d) cX5_tells 5 0 R 21 L (v.toList ++ [s0]) μ') := us_virt dX5_tells_18 gn_5_35 gc_5_35_10 hk rfl rfl rfl rfl rfl
theorem u68_21 {d : Nat} {R : gR} {μ : gM} {L : List Value} {st : List Value} {x y : Int32}  : gc_W (gc_S d) cX5_tells 5 0 R 21 L (.int y :: .int x :: st) μ ↔ gc_W (gc_S d) cX5_tells 5 0 R 22 L (.int (x ^^^ y) :: st) μ := us_ixor dX5_tells_21
theorem u68_22 {d : Nat} {R : gR} {μ : gM} {L : List Value} {v : Int32}  : gc_W (gc_S d) cX5_tells 5 0 R 22 L [.int v] μ ↔ R (some (.int v)) μ := us_iret dX5_tells_22 rfl
theorem s68 {d : Nat} {R : gR} {μ : gM} {o : Nat} {a1 : Int32} {a0 : Nat} : gc_S (d + 1) 68 [.ref o, .ref a0, .int a1] μ R ↔ gc_W (gc_S d) cX5_tells 5 0 R 0 [.ref o, .ref a0, .int a1] [] μ := us_call (gm_68) rfl rfl
theorem dX6_tells_0 : decode cX6_tells 0 = .ok (.aload_n 1, 1) := by decide +kernel
theorem dX6_tells_1 : decode cX6_tells 1 = .ok (.getfield 14, 3) := by decide +kernel
theorem dX6_tells_4 : decode cX6_tells 4 = .ok (.bipush 50, 2) := by decide +kernel
theorem dX6_tells_6 : decode cX6_tells 6 = .ok (.invokevirtual 20, 3) := by decide +kernel
theorem dX6_tells_9 : decode cX6_tells 9 = .ok (.aload_n 0, 1) := by decide +kernel
theorem dX6_tells_10 : decode cX6_tells 10 = .ok (.aload_n 1, 1) := by decide +kernel
theorem dX6_tells_11 : decode cX6_tells 11 = .ok (.iload_n 2, 1) := by decide +kernel
theorem dX6_tells_12 : decode cX6_tells 12 = .ok (.invokespecial 26, 3) := by decide +kernel
theorem dX6_tells_15 : decode cX6_tells 15 = .ok (.aload_n 0, 1) := by decide +kernel
theorem dX6_tells_16 : decode cX6_tells 16 = .ok (.aload_n 1, 1) := by decide +kernel
theorem dX6_tells_17 : decode cX6_tells 17 = .ok (.iconst 2, 1) := by decide +kernel
theorem dX6_tells_18 : decode cX6_tells 18 = .ok (.invokevirtual 30, 3) := by decide +kernel
theorem dX6_tells_21 : decode cX6_tells 21 = .ok (.isub, 1) := by decide +kernel
theorem dX6_tells_22 : decode cX6_tells 22 = .ok (.ireturn, 1) := by decide +kernel
theorem u69_0 {d : Nat} {R : gR} {μ : gM} {l0 l2 : Value} {st : List Value} {x : Nat}  : gc_W (gc_S d) cX6_tells 6 0 R 0 [l0, .ref x, l2] st μ ↔ gc_W (gc_S d) cX6_tells 6 0 R 1 [l0, .ref x, l2] (.ref x :: st) μ := us_aload_n dX6_tells_0 rfl
theorem u69_1 {d : Nat} {R : gR} {μ : gM} {L : List Value} {st : List Value} {o : Nat} (hk : gc_kd o = 9) : gc_W (gc_S d) cX6_tells 6 0 R 1 L (.ref o :: st) μ ↔ gc_W (gc_S d) cX6_tells 6 0 R 4 L (gc_fv o 0 μ :: st) μ := us_getf dX6_tells_1 gf_6_14 hk
theorem u69_4 {d : Nat} {R : gR} {μ : gM} {L : List Value} {st : List Value}   : gc_W (gc_S d) cX6_tells 6 0 R 4 L st μ ↔ gc_W (gc_S d) cX6_tells 6 0 R 6 L (.int 50 :: st) μ := us_bipush dX6_tells_4 ci_bipush_50
theorem u69_6 {d : Nat} {R : gR} {μ : gM} {L : List Value} {o : Nat} {a0 : Int32} (hk : gc_kd o = 7) : gc_W (gc_S d) cX6_tells 6 0 R 6 L [.int a0, .ref o] μ ↔ gc_S d 41 [.ref o, .int a0] μ (fun v μ' => gc_W (gc_S d) cX6_tells 6 0 R 9 L (v.toList ++ []) μ') := us_virt dX6_tells_6 gn_6_20 gc_6_20_7 hk rfl rfl rfl rfl rfl
theorem u69_9 {d : Nat} {R : gR} {μ : gM} {l1 l2 : Value} {st : List Value} {x : Nat}  : gc_W (gc_S d) cX6_tells 6 0 R 9 [.ref x, l1, l2] st μ ↔ gc_W (gc_S d) cX6_tells 6 0 R 10 [.ref x, l1, l2] (.ref x :: st) μ := us_aload_n dX6_tells_9 rfl
theorem u69_10 {d : Nat} {R : gR} {μ : gM} {l0 l2 : Value} {st : List Value} {x : Nat}  : gc_W (gc_S d) cX6_tells 6 0 R 10 [l0, .ref x, l2] st μ ↔ gc_W (gc_S d) cX6_tells 6 0 R 11 [l0, .ref x, l2] (.ref x :: st) μ := us_aload_n dX6_tells_10 rfl
theorem u69_11 {d : Nat} {R : gR} {μ : gM} {l0 l1 : Value} {st : List Value} {x : Int32}  : gc_W (gc_S d) cX6_tells 6 0 R 11 [l0, l1, .int x] st μ ↔ gc_W (gc_S d) cX6_tells 6 0 R 12 [l0, l1, .int x] (.int x :: st) μ := us_iload_n dX6_tells_11 rfl
theorem u69_12 {d : Nat} {R : gR} {μ : gM} {L : List Value} {o kd : Nat} {a1 : Int32} {a0 : Nat} (hk : gc_kd o = kd) (hkd : Nat.blt kd 13 = true) : gc_W (gc_S d) cX6_tells 6 0 R 12 L [.int a1, .ref a0, .ref o] μ ↔ gc_S d 68 [.ref o, .ref a0, .int a1] μ (fun v μ' => gc_W (gc_S d) cX6_tells 6 0 R 15 L (v.toList ++ []) μ') := us_spec dX6_tells_12 gn_6_26 gc_6_26_98 hk hkd rfl rfl rfl rfl
theorem u69_15 {d : Nat} {R : gR} {μ : gM} {l1 l2 : Value} {st : List Value} {x : Nat}  : gc_W (gc_S d) cX6_tells 6 0 R 15 [.ref x, l1, l2] st μ ↔ gc_W (gc_S d) cX6_tells 6 0 R 16 [.ref x, l1, l2] (.ref x :: st) μ := us_aload_n dX6_tells_15 rfl
theorem u69_16 {d : Nat} {R : gR} {μ : gM} {l0 l2 : Value} {st : List Value} {x : Nat}  : gc_W (gc_S d) cX6_tells 6 0 R 16 [l0, .ref x, l2] st μ ↔ gc_W (gc_S d) cX6_tells 6 0 R 17 [l0, .ref x, l2] (.ref x :: st) μ := us_aload_n dX6_tells_16 rfl
theorem u69_17 {d : Nat} {R : gR} {μ : gM} {L : List Value} {st : List Value}   : gc_W (gc_S d) cX6_tells 6 0 R 17 L st μ ↔ gc_W (gc_S d) cX6_tells 6 0 R 18 L (.int 2 :: st) μ := us_iconst dX6_tells_17 ci_iconst_2
theorem u69_18 {d : Nat} {R : gR} {μ : gM} {L : List Value} {o : Nat} {a1 : Int32} {a0 : Nat} {s0 : Value} (hk : gc_kd o = 6) : gc_W (gc_S d) cX6_tells 6 0 R 18 L [.int a1, .ref a0, .ref o, s0] μ ↔ gc_S d 46 [.ref o, .ref a0, .int a1] μ (fun v μ' => gc_W (gc_S d) cX6_tells 6 0 R 21 L (v.toList ++ [s0]) μ') := us_virt dX6_tells_18 gn_6_30 gc_6_30_6 hk rfl rfl rfl rfl rfl
theorem u69_21 {d : Nat} {R : gR} {μ : gM} {L : List Value} {st : List Value} {x y : Int32}  : gc_W (gc_S d) cX6_tells 6 0 R 21 L (.int y :: .int x :: st) μ ↔ gc_W (gc_S d) cX6_tells 6 0 R 22 L (.int (x - y) :: st) μ := us_isub dX6_tells_21
theorem u69_22 {d : Nat} {R : gR} {μ : gM} {L : List Value} {v : Int32}  : gc_W (gc_S d) cX6_tells 6 0 R 22 L [.int v] μ ↔ R (some (.int v)) μ := us_iret dX6_tells_22 rfl
theorem s69 {d : Nat} {R : gR} {μ : gM} {o : Nat} {a1 : Int32} {a0 : Nat} : gc_S (d + 1) 69 [.ref o, .ref a0, .int a1] μ R ↔ gc_W (gc_S d) cX6_tells 6 0 R 0 [.ref o, .ref a0, .int a1] [] μ := us_call (gm_69) rfl rfl
theorem dX7_has_0 : decode cX7_has 0 = .ok (.iload_n 1, 1) := by decide +kernel
theorem dX7_has_1 : decode cX7_has 1 = .ok (.ifCond .lt 15, 3) := by decide +kernel
theorem dX7_has_4 : decode cX7_has 4 = .ok (.iload_n 1, 1) := by decide +kernel
theorem dX7_has_5 : decode cX7_has 5 = .ok (.aload_n 0, 1) := by decide +kernel
theorem dX7_has_6 : decode cX7_has 6 = .ok (.getfield 13, 3) := by decide +kernel
theorem dX7_has_9 : decode cX7_has 9 = .ok (.if_icmp .ge 7, 3) := by decide +kernel
theorem dX7_has_12 : decode cX7_has 12 = .ok (.iconst 1, 1) := by decide +kernel
theorem dX7_has_13 : decode cX7_has 13 = .ok (.goto 4, 3) := by decide +kernel
theorem dX7_has_16 : decode cX7_has 16 = .ok (.iconst 0, 1) := by decide +kernel
theorem dX7_has_17 : decode cX7_has 17 = .ok (.ireturn, 1) := by decide +kernel
theorem u70_0 {d : Nat} {R : gR} {μ : gM} {l0 : Value} {st : List Value} {x : Int32}  : gc_W (gc_S d) cX7_has 7 1 R 0 [l0, .int x] st μ ↔ gc_W (gc_S d) cX7_has 7 1 R 1 [l0, .int x] (.int x :: st) μ := us_iload_n dX7_has_0 rfl
theorem u70_1 {d : Nat} {R : gR} {μ : gM} {L : List Value} {st : List Value} {x : Int32}  : gc_W (gc_S d) cX7_has 7 1 R 1 L (.int x :: st) μ ↔ if x < 0 then gc_W (gc_S d) cX7_has 7 1 R 16 L st μ else gc_W (gc_S d) cX7_has 7 1 R 4 L st μ := us_iflt dX7_has_1 rfl
theorem u70_4 {d : Nat} {R : gR} {μ : gM} {l0 : Value} {st : List Value} {x : Int32}  : gc_W (gc_S d) cX7_has 7 1 R 4 [l0, .int x] st μ ↔ gc_W (gc_S d) cX7_has 7 1 R 5 [l0, .int x] (.int x :: st) μ := us_iload_n dX7_has_4 rfl
theorem u70_5 {d : Nat} {R : gR} {μ : gM} {l1 : Value} {st : List Value} {x : Nat}  : gc_W (gc_S d) cX7_has 7 1 R 5 [.ref x, l1] st μ ↔ gc_W (gc_S d) cX7_has 7 1 R 6 [.ref x, l1] (.ref x :: st) μ := us_aload_n dX7_has_5 rfl
theorem u70_6 {d : Nat} {R : gR} {μ : gM} {L : List Value} {st : List Value} {o : Nat} (hk : gc_kd o = 7) : gc_W (gc_S d) cX7_has 7 1 R 6 L (.ref o :: st) μ ↔ gc_W (gc_S d) cX7_has 7 1 R 9 L (gc_fv o 1 μ :: st) μ := us_getf dX7_has_6 gf_7_13 hk
theorem u70_9 {d : Nat} {R : gR} {μ : gM} {L : List Value} {st : List Value} {x y : Int32}  : gc_W (gc_S d) cX7_has 7 1 R 9 L (.int y :: .int x :: st) μ ↔ if y ≤ x then gc_W (gc_S d) cX7_has 7 1 R 16 L st μ else gc_W (gc_S d) cX7_has 7 1 R 12 L st μ := us_icge dX7_has_9 rfl
theorem u70_12 {d : Nat} {R : gR} {μ : gM} {L : List Value} {st : List Value}   : gc_W (gc_S d) cX7_has 7 1 R 12 L st μ ↔ gc_W (gc_S d) cX7_has 7 1 R 13 L (.int 1 :: st) μ := us_iconst dX7_has_12 ci_iconst_1
theorem u70_13 {d : Nat} {R : gR} {μ : gM} {L : List Value} {st : List Value}  : gc_W (gc_S d) cX7_has 7 1 R 13 L st μ ↔ gc_W (gc_S d) cX7_has 7 1 R 17 L st μ := us_goto dX7_has_13 rfl
theorem u70_16 {d : Nat} {R : gR} {μ : gM} {L : List Value} {st : List Value}   : gc_W (gc_S d) cX7_has 7 1 R 16 L st μ ↔ gc_W (gc_S d) cX7_has 7 1 R 17 L (.int 0 :: st) μ := us_iconst dX7_has_16 ci_iconst_0
theorem u70_17 {d : Nat} {R : gR} {μ : gM} {L : List Value} {v : Int32}  : gc_W (gc_S d) cX7_has 7 1 R 17 L [.int v] μ ↔ ((v = 0 ∨ v = 1) ∧ R (some (.int v)) μ) := us_zret dX7_has_17 rfl
theorem s70 {d : Nat} {R : gR} {μ : gM} {o : Nat} {a0 : Int32} : gc_S (d + 1) 70 [.ref o, .int a0] μ R ↔ gc_W (gc_S d) cX7_has 7 1 R 0 [.ref o, .int a0] [] μ := us_call (gm_70) rfl rfl
theorem dX7_holds_0 : decode cX7_holds 0 = .ok (.iload_n 1, 1) := by decide +kernel
theorem dX7_holds_1 : decode cX7_holds 1 = .ok (.ifCond .lt 29, 3) := by decide +kernel
theorem dX7_holds_4 : decode cX7_holds 4 = .ok (.iload_n 2, 1) := by decide +kernel
theorem dX7_holds_5 : decode cX7_holds 5 = .ok (.ifCond .lt 25, 3) := by decide +kernel
theorem dX7_holds_8 : decode cX7_holds 8 = .ok (.iload_n 1, 1) := by decide +kernel
theorem dX7_holds_9 : decode cX7_holds 9 = .ok (.aload_n 0, 1) := by decide +kernel
theorem dX7_holds_10 : decode cX7_holds 10 = .ok (.getfield 13, 3) := by decide +kernel
theorem dX7_holds_13 : decode cX7_holds 13 = .ok (.if_icmp .gt 17, 3) := by decide +kernel
theorem dX7_holds_16 : decode cX7_holds 16 = .ok (.iload_n 2, 1) := by decide +kernel
theorem dX7_holds_17 : decode cX7_holds 17 = .ok (.aload_n 0, 1) := by decide +kernel
theorem dX7_holds_18 : decode cX7_holds 18 = .ok (.getfield 13, 3) := by decide +kernel
theorem dX7_holds_21 : decode cX7_holds 21 = .ok (.iload_n 1, 1) := by decide +kernel
theorem dX7_holds_22 : decode cX7_holds 22 = .ok (.isub, 1) := by decide +kernel
theorem dX7_holds_23 : decode cX7_holds 23 = .ok (.if_icmp .gt 7, 3) := by decide +kernel
theorem dX7_holds_26 : decode cX7_holds 26 = .ok (.iconst 1, 1) := by decide +kernel
theorem dX7_holds_27 : decode cX7_holds 27 = .ok (.goto 4, 3) := by decide +kernel
theorem dX7_holds_30 : decode cX7_holds 30 = .ok (.iconst 0, 1) := by decide +kernel
theorem dX7_holds_31 : decode cX7_holds 31 = .ok (.ireturn, 1) := by decide +kernel
theorem u71_0 {d : Nat} {R : gR} {μ : gM} {l0 l2 : Value} {st : List Value} {x : Int32}  : gc_W (gc_S d) cX7_holds 7 1 R 0 [l0, .int x, l2] st μ ↔ gc_W (gc_S d) cX7_holds 7 1 R 1 [l0, .int x, l2] (.int x :: st) μ := us_iload_n dX7_holds_0 rfl
theorem u71_1 {d : Nat} {R : gR} {μ : gM} {L : List Value} {st : List Value} {x : Int32}  : gc_W (gc_S d) cX7_holds 7 1 R 1 L (.int x :: st) μ ↔ if x < 0 then gc_W (gc_S d) cX7_holds 7 1 R 30 L st μ else gc_W (gc_S d) cX7_holds 7 1 R 4 L st μ := us_iflt dX7_holds_1 rfl
theorem u71_4 {d : Nat} {R : gR} {μ : gM} {l0 l1 : Value} {st : List Value} {x : Int32}  : gc_W (gc_S d) cX7_holds 7 1 R 4 [l0, l1, .int x] st μ ↔ gc_W (gc_S d) cX7_holds 7 1 R 5 [l0, l1, .int x] (.int x :: st) μ := us_iload_n dX7_holds_4 rfl
theorem u71_5 {d : Nat} {R : gR} {μ : gM} {L : List Value} {st : List Value} {x : Int32}  : gc_W (gc_S d) cX7_holds 7 1 R 5 L (.int x :: st) μ ↔ if x < 0 then gc_W (gc_S d) cX7_holds 7 1 R 30 L st μ else gc_W (gc_S d) cX7_holds 7 1 R 8 L st μ := us_iflt dX7_holds_5 rfl
theorem u71_8 {d : Nat} {R : gR} {μ : gM} {l0 l2 : Value} {st : List Value} {x : Int32}  : gc_W (gc_S d) cX7_holds 7 1 R 8 [l0, .int x, l2] st μ ↔ gc_W (gc_S d) cX7_holds 7 1 R 9 [l0, .int x, l2] (.int x :: st) μ := us_iload_n dX7_holds_8 rfl
theorem u71_9 {d : Nat} {R : gR} {μ : gM} {l1 l2 : Value} {st : List Value} {x : Nat}  : gc_W (gc_S d) cX7_holds 7 1 R 9 [.ref x, l1, l2] st μ ↔ gc_W (gc_S d) cX7_holds 7 1 R 10 [.ref x, l1, l2] (.ref x :: st) μ := us_aload_n dX7_holds_9 rfl
theorem u71_10 {d : Nat} {R : gR} {μ : gM} {L : List Value} {st : List Value} {o : Nat} (hk : gc_kd o = 7) : gc_W (gc_S d) cX7_holds 7 1 R 10 L (.ref o :: st) μ ↔ gc_W (gc_S d) cX7_holds 7 1 R 13 L (gc_fv o 1 μ :: st) μ := us_getf dX7_holds_10 gf_7_13 hk
theorem u71_13 {d : Nat} {R : gR} {μ : gM} {L : List Value} {st : List Value} {x y : Int32}  : gc_W (gc_S d) cX7_holds 7 1 R 13 L (.int y :: .int x :: st) μ ↔ if y < x then gc_W (gc_S d) cX7_holds 7 1 R 30 L st μ else gc_W (gc_S d) cX7_holds 7 1 R 16 L st μ := us_icgt dX7_holds_13 rfl
theorem u71_16 {d : Nat} {R : gR} {μ : gM} {l0 l1 : Value} {st : List Value} {x : Int32}  : gc_W (gc_S d) cX7_holds 7 1 R 16 [l0, l1, .int x] st μ ↔ gc_W (gc_S d) cX7_holds 7 1 R 17 [l0, l1, .int x] (.int x :: st) μ := us_iload_n dX7_holds_16 rfl
theorem u71_17 {d : Nat} {R : gR} {μ : gM} {l1 l2 : Value} {st : List Value} {x : Nat}  : gc_W (gc_S d) cX7_holds 7 1 R 17 [.ref x, l1, l2] st μ ↔ gc_W (gc_S d) cX7_holds 7 1 R 18 [.ref x, l1, l2] (.ref x :: st) μ := us_aload_n dX7_holds_17 rfl
theorem u71_18 {d : Nat} {R : gR} {μ : gM} {L : List Value} {st : List Value} {o : Nat} (hk : gc_kd o = 7) : gc_W (gc_S d) cX7_holds 7 1 R 18 L (.ref o :: st) μ ↔ gc_W (gc_S d) cX7_holds 7 1 R 21 L (gc_fv o 1 μ :: st) μ := us_getf dX7_holds_18 gf_7_13 hk
theorem u71_21 {d : Nat} {R : gR} {μ : gM} {l0 l2 : Value} {st : List Value} {x : Int32}  : gc_W (gc_S d) cX7_holds 7 1 R 21 [l0, .int x, l2] st μ ↔ gc_W (gc_S d) cX7_holds 7 1 R 22 [l0, .int x, l2] (.int x :: st) μ := us_iload_n dX7_holds_21 rfl
theorem u71_22 {d : Nat} {R : gR} {μ : gM} {L : List Value} {st : List Value} {x y : Int32}  : gc_W (gc_S d) cX7_holds 7 1 R 22 L (.int y :: .int x :: st) μ ↔ gc_W (gc_S d) cX7_holds 7 1 R 23 L (.int (x - y) :: st) μ := us_isub dX7_holds_22
theorem u71_23 {d : Nat} {R : gR} {μ : gM} {L : List Value} {st : List Value} {x y : Int32}  : gc_W (gc_S d) cX7_holds 7 1 R 23 L (.int y :: .int x :: st) μ ↔ if y < x then gc_W (gc_S d) cX7_holds 7 1 R 30 L st μ else gc_W (gc_S d) cX7_holds 7 1 R 26 L st μ := us_icgt dX7_holds_23 rfl
theorem u71_26 {d : Nat} {R : gR} {μ : gM} {L : List Value} {st : List Value}   : gc_W (gc_S d) cX7_holds 7 1 R 26 L st μ ↔ gc_W (gc_S d) cX7_holds 7 1 R 27 L (.int 1 :: st) μ := us_iconst dX7_holds_26 ci_iconst_1
theorem u71_27 {d : Nat} {R : gR} {μ : gM} {L : List Value} {st : List Value}  : gc_W (gc_S d) cX7_holds 7 1 R 27 L st μ ↔ gc_W (gc_S d) cX7_holds 7 1 R 31 L st μ := us_goto dX7_holds_27 rfl
theorem u71_30 {d : Nat} {R : gR} {μ : gM} {L : List Value} {st : List Value}   : gc_W (gc_S d) cX7_holds 7 1 R 30 L st μ ↔ gc_W (gc_S d) cX7_holds 7 1 R 31 L (.int 0 :: st) μ := us_iconst dX7_holds_30 ci_iconst_0
theorem u71_31 {d : Nat} {R : gR} {μ : gM} {L : List Value} {v : Int32}  : gc_W (gc_S d) cX7_holds 7 1 R 31 L [.int v] μ ↔ ((v = 0 ∨ v = 1) ∧ R (some (.int v)) μ) := us_zret dX7_holds_31 rfl
theorem s71 {d : Nat} {R : gR} {μ : gM} {o : Nat} {a0 a1 : Int32} : gc_S (d + 1) 71 [.ref o, .int a0, .int a1] μ R ↔ gc_W (gc_S d) cX7_holds 7 1 R 0 [.ref o, .int a0, .int a1] [] μ := us_call (gm_71) rfl rfl
theorem dX7_startAnew_0 : decode cX7_startAnew 0 = .ok (.iconst 0, 1) := by decide +kernel
theorem dX7_startAnew_1 : decode cX7_startAnew 1 = .ok (.istore_n 3, 1) := by decide +kernel
theorem dX7_startAnew_2 : decode cX7_startAnew 2 = .ok (.iload_n 3, 1) := by decide +kernel
theorem dX7_startAnew_3 : decode cX7_startAnew 3 = .ok (.aload_n 0, 1) := by decide +kernel
theorem dX7_startAnew_4 : decode cX7_startAnew 4 = .ok (.getfield 7, 3) := by decide +kernel
theorem dX7_startAnew_7 : decode cX7_startAnew 7 = .ok (.arraylength, 1) := by decide +kernel
theorem dX7_startAnew_8 : decode cX7_startAnew 8 = .ok (.if_icmp .ge 16, 3) := by decide +kernel
theorem dX7_startAnew_11 : decode cX7_startAnew 11 = .ok (.aload_n 0, 1) := by decide +kernel
theorem dX7_startAnew_12 : decode cX7_startAnew 12 = .ok (.getfield 7, 3) := by decide +kernel
theorem dX7_startAnew_15 : decode cX7_startAnew 15 = .ok (.iload_n 3, 1) := by decide +kernel
theorem dX7_startAnew_16 : decode cX7_startAnew 16 = .ok (.iconst 0, 1) := by decide +kernel
theorem dX7_startAnew_17 : decode cX7_startAnew 17 = .ok (.iastore, 1) := by decide +kernel
theorem dX7_startAnew_18 : decode cX7_startAnew 18 = .ok (.iinc 3 1, 3) := by decide +kernel
theorem dX7_startAnew_21 : decode cX7_startAnew 21 = .ok (.goto (-19), 3) := by decide +kernel
theorem dX7_startAnew_24 : decode cX7_startAnew 24 = .ok (.aload_n 0, 1) := by decide +kernel
theorem dX7_startAnew_25 : decode cX7_startAnew 25 = .ok (.iload_n 1, 1) := by decide +kernel
theorem dX7_startAnew_26 : decode cX7_startAnew 26 = .ok (.putfield 17, 3) := by decide +kernel
theorem dX7_startAnew_29 : decode cX7_startAnew 29 = .ok (.aload_n 0, 1) := by decide +kernel
theorem dX7_startAnew_30 : decode cX7_startAnew 30 = .ok (.iload_n 2, 1) := by decide +kernel
theorem dX7_startAnew_31 : decode cX7_startAnew 31 = .ok (.putfield 13, 3) := by decide +kernel
theorem dX7_startAnew_34 : decode cX7_startAnew 34 = .ok (.return_, 1) := by decide +kernel
theorem u72_0 {d : Nat} {R : gR} {μ : gM} {L : List Value} {st : List Value}   : gc_W (gc_S d) cX7_startAnew 7 2 R 0 L st μ ↔ gc_W (gc_S d) cX7_startAnew 7 2 R 1 L (.int 0 :: st) μ := us_iconst dX7_startAnew_0 ci_iconst_0
theorem u72_1 {d : Nat} {R : gR} {μ : gM} {l0 l1 l2 l3 : Value} {st : List Value} {x : Int32} (hs : gc_sk l3 = true) : gc_W (gc_S d) cX7_startAnew 7 2 R 1 [l0, l1, l2, l3] (.int x :: st) μ ↔ gc_W (gc_S d) cX7_startAnew 7 2 R 2 [l0, l1, l2, .int x] st μ := us_istore_n dX7_startAnew_1 rfl hs
theorem u72_2 {d : Nat} {R : gR} {μ : gM} {l0 l1 l2 : Value} {st : List Value} {x : Int32}  : gc_W (gc_S d) cX7_startAnew 7 2 R 2 [l0, l1, l2, .int x] st μ ↔ gc_W (gc_S d) cX7_startAnew 7 2 R 3 [l0, l1, l2, .int x] (.int x :: st) μ := us_iload_n dX7_startAnew_2 rfl
theorem u72_3 {d : Nat} {R : gR} {μ : gM} {l1 l2 l3 : Value} {st : List Value} {x : Nat}  : gc_W (gc_S d) cX7_startAnew 7 2 R 3 [.ref x, l1, l2, l3] st μ ↔ gc_W (gc_S d) cX7_startAnew 7 2 R 4 [.ref x, l1, l2, l3] (.ref x :: st) μ := us_aload_n dX7_startAnew_3 rfl
theorem u72_4 {d : Nat} {R : gR} {μ : gM} {L : List Value} {st : List Value} {o : Nat} (hk : gc_kd o = 7) : gc_W (gc_S d) cX7_startAnew 7 2 R 4 L (.ref o :: st) μ ↔ gc_W (gc_S d) cX7_startAnew 7 2 R 7 L (gc_fv o 0 μ :: st) μ := us_getf dX7_startAnew_4 gf_7_7 hk
theorem u72_7 {d : Nat} {R : gR} {μ : gM} {L : List Value} {st : List Value} {o : Nat} (hk : gc_kd o = 20) : gc_W (gc_S d) cX7_startAnew 7 2 R 7 L (.ref o :: st) μ ↔ gc_W (gc_S d) cX7_startAnew 7 2 R 8 L (.int (nI (gc_al o)) :: st) μ := us_alen dX7_startAnew_7 hk
theorem u72_8 {d : Nat} {R : gR} {μ : gM} {L : List Value} {st : List Value} {x y : Int32}  : gc_W (gc_S d) cX7_startAnew 7 2 R 8 L (.int y :: .int x :: st) μ ↔ if y ≤ x then gc_W (gc_S d) cX7_startAnew 7 2 R 24 L st μ else gc_W (gc_S d) cX7_startAnew 7 2 R 11 L st μ := us_icge dX7_startAnew_8 rfl
theorem u72_11 {d : Nat} {R : gR} {μ : gM} {l1 l2 l3 : Value} {st : List Value} {x : Nat}  : gc_W (gc_S d) cX7_startAnew 7 2 R 11 [.ref x, l1, l2, l3] st μ ↔ gc_W (gc_S d) cX7_startAnew 7 2 R 12 [.ref x, l1, l2, l3] (.ref x :: st) μ := us_aload_n dX7_startAnew_11 rfl
theorem u72_12 {d : Nat} {R : gR} {μ : gM} {L : List Value} {st : List Value} {o : Nat} (hk : gc_kd o = 7) : gc_W (gc_S d) cX7_startAnew 7 2 R 12 L (.ref o :: st) μ ↔ gc_W (gc_S d) cX7_startAnew 7 2 R 15 L (gc_fv o 0 μ :: st) μ := us_getf dX7_startAnew_12 gf_7_7 hk
theorem u72_15 {d : Nat} {R : gR} {μ : gM} {l0 l1 l2 : Value} {st : List Value} {x : Int32}  : gc_W (gc_S d) cX7_startAnew 7 2 R 15 [l0, l1, l2, .int x] st μ ↔ gc_W (gc_S d) cX7_startAnew 7 2 R 16 [l0, l1, l2, .int x] (.int x :: st) μ := us_iload_n dX7_startAnew_15 rfl
theorem u72_16 {d : Nat} {R : gR} {μ : gM} {L : List Value} {st : List Value}   : gc_W (gc_S d) cX7_startAnew 7 2 R 16 L st μ ↔ gc_W (gc_S d) cX7_startAnew 7 2 R 17 L (.int 0 :: st) μ := us_iconst dX7_startAnew_16 ci_iconst_0
theorem u72_17 {d : Nat} {R : gR} {μ : gM} {L : List Value} {st : List Value} {o : Nat} {i x : Int32} (hk : gc_kd o = 20) : gc_W (gc_S d) cX7_startAnew 7 2 R 17 L (.int x :: .int i :: .ref o :: st) μ ↔ (vp_in i (gc_al o) ∧ gc_W (gc_S d) cX7_startAnew 7 2 R 18 L st (gc_up μ o i.toNatClampNeg x)) := us_iast dX7_startAnew_17 hk
theorem u72_18 {d : Nat} {R : gR} {μ : gM} {l0 l1 l2 : Value} {st : List Value} {x : Int32}  : gc_W (gc_S d) cX7_startAnew 7 2 R 18 [l0, l1, l2, .int x] st μ ↔ gc_W (gc_S d) cX7_startAnew 7 2 R 21 [l0, l1, l2, .int (x + 1)] st μ := us_iinc dX7_startAnew_18 rfl ci_iinc_1
theorem u72_21 {d : Nat} {R : gR} {μ : gM} {L : List Value} {st : List Value}  : gc_W (gc_S d) cX7_startAnew 7 2 R 21 L st μ ↔ gc_W (gc_S d) cX7_startAnew 7 2 R 2 L st μ := us_goto dX7_startAnew_21 rfl
theorem u72_24 {d : Nat} {R : gR} {μ : gM} {l1 l2 l3 : Value} {st : List Value} {x : Nat}  : gc_W (gc_S d) cX7_startAnew 7 2 R 24 [.ref x, l1, l2, l3] st μ ↔ gc_W (gc_S d) cX7_startAnew 7 2 R 25 [.ref x, l1, l2, l3] (.ref x :: st) μ := us_aload_n dX7_startAnew_24 rfl
theorem u72_25 {d : Nat} {R : gR} {μ : gM} {l0 l2 l3 : Value} {st : List Value} {x : Int32}  : gc_W (gc_S d) cX7_startAnew 7 2 R 25 [l0, .int x, l2, l3] st μ ↔ gc_W (gc_S d) cX7_startAnew 7 2 R 26 [l0, .int x, l2, l3] (.int x :: st) μ := us_iload_n dX7_startAnew_25 rfl
theorem u72_26 {d : Nat} {R : gR} {μ : gM} {L : List Value} {st : List Value} {o : Nat} {x : Int32} (hk : gc_kd o = 7) (hj : gc_fk o 2 = 0) : gc_W (gc_S d) cX7_startAnew 7 2 R 26 L (.int x :: .ref o :: st) μ ↔ gc_W (gc_S d) cX7_startAnew 7 2 R 29 L st (gc_up μ o 2 x) := us_putf dX7_startAnew_26 gf_7_17 hk hj rfl
theorem u72_29 {d : Nat} {R : gR} {μ : gM} {l1 l2 l3 : Value} {st : List Value} {x : Nat}  : gc_W (gc_S d) cX7_startAnew 7 2 R 29 [.ref x, l1, l2, l3] st μ ↔ gc_W (gc_S d) cX7_startAnew 7 2 R 30 [.ref x, l1, l2, l3] (.ref x :: st) μ := us_aload_n dX7_startAnew_29 rfl
theorem u72_30 {d : Nat} {R : gR} {μ : gM} {l0 l1 l3 : Value} {st : List Value} {x : Int32}  : gc_W (gc_S d) cX7_startAnew 7 2 R 30 [l0, l1, .int x, l3] st μ ↔ gc_W (gc_S d) cX7_startAnew 7 2 R 31 [l0, l1, .int x, l3] (.int x :: st) μ := us_iload_n dX7_startAnew_30 rfl
theorem u72_31 {d : Nat} {R : gR} {μ : gM} {L : List Value} {st : List Value} {o : Nat} {x : Int32} (hk : gc_kd o = 7) (hj : gc_fk o 1 = 0) : gc_W (gc_S d) cX7_startAnew 7 2 R 31 L (.int x :: .ref o :: st) μ ↔ gc_W (gc_S d) cX7_startAnew 7 2 R 34 L st (gc_up μ o 1 x) := us_putf dX7_startAnew_31 gf_7_13 hk hj rfl
theorem u72_34 {d : Nat} {R : gR} {μ : gM} {L : List Value}   : gc_W (gc_S d) cX7_startAnew 7 2 R 34 L [] μ ↔ R none μ := us_vret dX7_startAnew_34 rfl
theorem s72 {d : Nat} {R : gR} {μ : gM} {o : Nat} {a0 a1 : Int32} : gc_S (d + 1) 72 [.ref o, .int a0, .int a1] μ R ↔ gc_W (gc_S d) cX7_startAnew 7 2 R 0 [.ref o, .int a0, .int a1, .retAddr 0] [] μ := us_call (gm_72) rfl rfl
theorem dJ0_length_8abf5_0 : decode cJ0_length_8abf5 0 = .ok (.aload_n 0, 1) := by decide +kernel
theorem dJ0_length_8abf5_1 : decode cJ0_length_8abf5 1 = .ok (.getfield 9, 3) := by decide +kernel
theorem dJ0_length_8abf5_4 : decode cJ0_length_8abf5 4 = .ok (.arraylength, 1) := by decide +kernel
theorem dJ0_length_8abf5_5 : decode cJ0_length_8abf5 5 = .ok (.aload_n 0, 1) := by decide +kernel
theorem dJ0_length_8abf5_6 : decode cJ0_length_8abf5 6 = .ok (.invokevirtual 335, 3) := by decide +kernel
theorem dJ0_length_8abf5_9 : decode cJ0_length_8abf5 9 = .ok (.ishr, 1) := by decide +kernel
theorem dJ0_length_8abf5_10 : decode cJ0_length_8abf5 10 = .ok (.ireturn, 1) := by decide +kernel
theorem u251_0 {d : Nat} {R : gR} {μ : gM} {st : List Value} {x : Nat}  : gc_W (gc_S d) cJ0_length_8abf5 15 0 R 0 [.ref x] st μ ↔ gc_W (gc_S d) cJ0_length_8abf5 15 0 R 1 [.ref x] (.ref x :: st) μ := us_aload_n dJ0_length_8abf5_0 rfl
theorem u251_1 {d : Nat} {R : gR} {μ : gM} {L : List Value} {st : List Value} {o : Nat} (hk : gc_kd o = 32) : gc_W (gc_S d) cJ0_length_8abf5 15 0 R 1 L (.ref o :: st) μ ↔ gc_W (gc_S d) cJ0_length_8abf5 15 0 R 4 L (gc_fv o 0 (fun _ _ => 0) :: st) μ := us_gets dJ0_length_8abf5_1 (by decide +kernel) (by decide +kernel) hk
theorem u251_4 {d : Nat} {R : gR} {μ : gM} {L : List Value} {st : List Value} {o : Nat} (hk : gc_kd o = 33) : gc_W (gc_S d) cJ0_length_8abf5 15 0 R 4 L (.ref o :: st) μ ↔ gc_W (gc_S d) cJ0_length_8abf5 15 0 R 5 L (.int (nI (gc_al o)) :: st) μ := us_alen3 dJ0_length_8abf5_4 hk
theorem u251_5 {d : Nat} {R : gR} {μ : gM} {st : List Value} {x : Nat}  : gc_W (gc_S d) cJ0_length_8abf5 15 0 R 5 [.ref x] st μ ↔ gc_W (gc_S d) cJ0_length_8abf5 15 0 R 6 [.ref x] (.ref x :: st) μ := us_aload_n dJ0_length_8abf5_5 rfl
theorem u251_6 {d : Nat} {R : gR} {μ : gM} {L : List Value} {o : Nat} {s0 : Value} (hk : gc_kd o = 32) : gc_W (gc_S d) cJ0_length_8abf5 15 0 R 6 L [.ref o, s0] μ ↔ gc_S d 53 [.ref o] μ (fun v μ' => gc_W (gc_S d) cJ0_length_8abf5 15 0 R 9 L (v.toList ++ [s0]) μ') := us_virt dJ0_length_8abf5_6 gn_15_335 gc_15_335_15 hk rfl rfl rfl rfl rfl
theorem u251_9 {d : Nat} {R : gR} {μ : gM} {L : List Value} {st : List Value} {x y : Int32}  : gc_W (gc_S d) cJ0_length_8abf5 15 0 R 9 L (.int y :: .int x :: st) μ ↔ gc_W (gc_S d) cJ0_length_8abf5 15 0 R 10 L (.int (x >>> (y &&& 31)) :: st) μ := us_ishr dJ0_length_8abf5_9
theorem u251_10 {d : Nat} {R : gR} {μ : gM} {L : List Value} {v : Int32}  : gc_W (gc_S d) cJ0_length_8abf5 15 0 R 10 L [.int v] μ ↔ R (some (.int v)) μ := us_iret dJ0_length_8abf5_10 rfl
theorem s251 {d : Nat} {R : gR} {μ : gM} {o : Nat} : gc_S (d + 1) 251 [.ref o] μ R ↔ gc_W (gc_S d) cJ0_length_8abf5 15 0 R 0 [.ref o] [] μ := us_call (gm_251) rfl rfl

/-! X7_ban -/
theorem d_X7_ban_0 : decode mX7_ban.2.1 0 = .ok (.aload_n 0, 1) := by decide +kernel
theorem d_X7_ban_1 : decode mX7_ban.2.1 1 = .ok (.iconst 0, 1) := by decide +kernel
theorem d_X7_ban_2 : decode mX7_ban.2.1 2 = .ok (.putfield 37, 3) := by decide +kernel
theorem d_X7_ban_5 : decode mX7_ban.2.1 5 = .ok (.aload_n 0, 1) := by decide +kernel
theorem d_X7_ban_6 : decode mX7_ban.2.1 6 = .ok (.invokevirtual 160, 3) := by decide +kernel
theorem d_X7_ban_9 : decode mX7_ban.2.1 9 = .ok (.aload_n 0, 1) := by decide +kernel
theorem d_X7_ban_10 : decode mX7_ban.2.1 10 = .ok (.iload_n 2, 1) := by decide +kernel
theorem d_X7_ban_11 : decode mX7_ban.2.1 11 = .ok (.invokevirtual 179, 3) := by decide +kernel
theorem d_X7_ban_14 : decode mX7_ban.2.1 14 = .ok (.ifCond .eq 12, 3) := by decide +kernel
theorem d_X7_ban_17 : decode mX7_ban.2.1 17 = .ok (.aload_n 0, 1) := by decide +kernel
theorem d_X7_ban_18 : decode mX7_ban.2.1 18 = .ok (.iload_n 1, 1) := by decide +kernel
theorem d_X7_ban_19 : decode mX7_ban.2.1 19 = .ok (.iload_n 3, 1) := by decide +kernel
theorem d_X7_ban_20 : decode mX7_ban.2.1 20 = .ok (.invokevirtual 219, 3) := by decide +kernel
theorem d_X7_ban_23 : decode mX7_ban.2.1 23 = .ok (.ifCond .ne 9, 3) := by decide +kernel
theorem d_X7_ban_26 : decode mX7_ban.2.1 26 = .ok (.aload_n 0, 1) := by decide +kernel
theorem d_X7_ban_27 : decode mX7_ban.2.1 27 = .ok (.iconst 1, 1) := by decide +kernel
theorem d_X7_ban_28 : decode mX7_ban.2.1 28 = .ok (.invokevirtual 163, 3) := by decide +kernel
theorem d_X7_ban_31 : decode mX7_ban.2.1 31 = .ok (.ireturn, 1) := by decide +kernel
theorem d_X7_ban_32 : decode mX7_ban.2.1 32 = .ok (.iload_n 1, 1) := by decide +kernel
theorem d_X7_ban_33 : decode mX7_ban.2.1 33 = .ok (.iconst 0, 1) := by decide +kernel
theorem d_X7_ban_34 : decode mX7_ban.2.1 34 = .ok (.iconst 2, 1) := by decide +kernel
theorem d_X7_ban_35 : decode mX7_ban.2.1 35 = .ok (.invokestatic 41, 3) := by decide +kernel
theorem d_X7_ban_38 : decode mX7_ban.2.1 38 = .ok (.ifCond .eq 31, 3) := by decide +kernel
theorem d_X7_ban_41 : decode mX7_ban.2.1 41 = .ok (.iload_n 1, 1) := by decide +kernel
theorem d_X7_ban_42 : decode mX7_ban.2.1 42 = .ok (.iconst 2, 1) := by decide +kernel
theorem d_X7_ban_43 : decode mX7_ban.2.1 43 = .ok (.if_icmp .ne 8, 3) := by decide +kernel
theorem d_X7_ban_46 : decode mX7_ban.2.1 46 = .ok (.iload_n 2, 1) := by decide +kernel
theorem d_X7_ban_47 : decode mX7_ban.2.1 47 = .ok (.iload_n 3, 1) := by decide +kernel
theorem d_X7_ban_48 : decode mX7_ban.2.1 48 = .ok (.if_icmp .eq 21, 3) := by decide +kernel
theorem d_X7_ban_51 : decode mX7_ban.2.1 51 = .ok (.iload 4, 2) := by decide +kernel
theorem d_X7_ban_53 : decode mX7_ban.2.1 53 = .ok (.iconst 0, 1) := by decide +kernel
theorem d_X7_ban_54 : decode mX7_ban.2.1 54 = .ok (.iload 5, 2) := by decide +kernel
theorem d_X7_ban_56 : decode mX7_ban.2.1 56 = .ok (.invokestatic 41, 3) := by decide +kernel
theorem d_X7_ban_59 : decode mX7_ban.2.1 59 = .ok (.ifCond .eq 10, 3) := by decide +kernel
theorem d_X7_ban_62 : decode mX7_ban.2.1 62 = .ok (.iload 5, 2) := by decide +kernel
theorem d_X7_ban_64 : decode mX7_ban.2.1 64 = .ok (.bipush 55, 2) := by decide +kernel
theorem d_X7_ban_66 : decode mX7_ban.2.1 66 = .ok (.if_icmp .le 9, 3) := by decide +kernel
theorem d_X7_ban_69 : decode mX7_ban.2.1 69 = .ok (.aload_n 0, 1) := by decide +kernel
theorem d_X7_ban_70 : decode mX7_ban.2.1 70 = .ok (.iconst 2, 1) := by decide +kernel
theorem d_X7_ban_71 : decode mX7_ban.2.1 71 = .ok (.invokevirtual 163, 3) := by decide +kernel
theorem d_X7_ban_74 : decode mX7_ban.2.1 74 = .ok (.ireturn, 1) := by decide +kernel
theorem d_X7_ban_75 : decode mX7_ban.2.1 75 = .ok (.aload_n 0, 1) := by decide +kernel
theorem d_X7_ban_76 : decode mX7_ban.2.1 76 = .ok (.getfield 7, 3) := by decide +kernel
theorem d_X7_ban_79 : decode mX7_ban.2.1 79 = .ok (.iconst 5, 1) := by decide +kernel
theorem d_X7_ban_80 : decode mX7_ban.2.1 80 = .ok (.iaload, 1) := by decide +kernel
theorem d_X7_ban_81 : decode mX7_ban.2.1 81 = .ok (.bipush 10, 2) := by decide +kernel
theorem d_X7_ban_83 : decode mX7_ban.2.1 83 = .ok (.if_icmp .ne 9, 3) := by decide +kernel
theorem d_X7_ban_86 : decode mX7_ban.2.1 86 = .ok (.aload_n 0, 1) := by decide +kernel
theorem d_X7_ban_87 : decode mX7_ban.2.1 87 = .ok (.iconst 3, 1) := by decide +kernel
theorem d_X7_ban_88 : decode mX7_ban.2.1 88 = .ok (.invokevirtual 163, 3) := by decide +kernel
theorem d_X7_ban_91 : decode mX7_ban.2.1 91 = .ok (.ireturn, 1) := by decide +kernel
theorem d_X7_ban_92 : decode mX7_ban.2.1 92 = .ok (.aload_n 0, 1) := by decide +kernel
theorem d_X7_ban_93 : decode mX7_ban.2.1 93 = .ok (.getfield 7, 3) := by decide +kernel
theorem d_X7_ban_96 : decode mX7_ban.2.1 96 = .ok (.iconst 5, 1) := by decide +kernel
theorem d_X7_ban_97 : decode mX7_ban.2.1 97 = .ok (.iaload, 1) := by decide +kernel
theorem d_X7_ban_98 : decode mX7_ban.2.1 98 = .ok (.istore 6, 2) := by decide +kernel
theorem d_X7_ban_100 : decode mX7_ban.2.1 100 = .ok (.sipush 438, 3) := by decide +kernel
theorem d_X7_ban_103 : decode mX7_ban.2.1 103 = .ok (.iconst 5, 1) := by decide +kernel
theorem d_X7_ban_104 : decode mX7_ban.2.1 104 = .ok (.iload 6, 2) := by decide +kernel
theorem d_X7_ban_106 : decode mX7_ban.2.1 106 = .ok (.imul, 1) := by decide +kernel
theorem d_X7_ban_107 : decode mX7_ban.2.1 107 = .ok (.iadd, 1) := by decide +kernel
theorem d_X7_ban_108 : decode mX7_ban.2.1 108 = .ok (.istore 7, 2) := by decide +kernel
theorem d_X7_ban_110 : decode mX7_ban.2.1 110 = .ok (.aload_n 0, 1) := by decide +kernel
theorem d_X7_ban_111 : decode mX7_ban.2.1 111 = .ok (.getfield 7, 3) := by decide +kernel
theorem d_X7_ban_114 : decode mX7_ban.2.1 114 = .ok (.iload 7, 2) := by decide +kernel
theorem d_X7_ban_116 : decode mX7_ban.2.1 116 = .ok (.iload_n 1, 1) := by decide +kernel
theorem d_X7_ban_117 : decode mX7_ban.2.1 117 = .ok (.iastore, 1) := by decide +kernel
theorem d_X7_ban_118 : decode mX7_ban.2.1 118 = .ok (.aload_n 0, 1) := by decide +kernel
theorem d_X7_ban_119 : decode mX7_ban.2.1 119 = .ok (.getfield 7, 3) := by decide +kernel
theorem d_X7_ban_122 : decode mX7_ban.2.1 122 = .ok (.iload 7, 2) := by decide +kernel
theorem d_X7_ban_124 : decode mX7_ban.2.1 124 = .ok (.iconst 1, 1) := by decide +kernel
theorem d_X7_ban_125 : decode mX7_ban.2.1 125 = .ok (.iadd, 1) := by decide +kernel
theorem d_X7_ban_126 : decode mX7_ban.2.1 126 = .ok (.iload_n 2, 1) := by decide +kernel
theorem d_X7_ban_127 : decode mX7_ban.2.1 127 = .ok (.iastore, 1) := by decide +kernel
theorem d_X7_ban_128 : decode mX7_ban.2.1 128 = .ok (.aload_n 0, 1) := by decide +kernel
theorem d_X7_ban_129 : decode mX7_ban.2.1 129 = .ok (.getfield 7, 3) := by decide +kernel
theorem d_X7_ban_132 : decode mX7_ban.2.1 132 = .ok (.iload 7, 2) := by decide +kernel
theorem d_X7_ban_134 : decode mX7_ban.2.1 134 = .ok (.iconst 2, 1) := by decide +kernel
theorem d_X7_ban_135 : decode mX7_ban.2.1 135 = .ok (.iadd, 1) := by decide +kernel
theorem d_X7_ban_136 : decode mX7_ban.2.1 136 = .ok (.iload_n 3, 1) := by decide +kernel
theorem d_X7_ban_137 : decode mX7_ban.2.1 137 = .ok (.iastore, 1) := by decide +kernel
theorem d_X7_ban_138 : decode mX7_ban.2.1 138 = .ok (.aload_n 0, 1) := by decide +kernel
theorem d_X7_ban_139 : decode mX7_ban.2.1 139 = .ok (.getfield 7, 3) := by decide +kernel
theorem d_X7_ban_142 : decode mX7_ban.2.1 142 = .ok (.iload 7, 2) := by decide +kernel
theorem d_X7_ban_144 : decode mX7_ban.2.1 144 = .ok (.iconst 3, 1) := by decide +kernel
theorem d_X7_ban_145 : decode mX7_ban.2.1 145 = .ok (.iadd, 1) := by decide +kernel
theorem d_X7_ban_146 : decode mX7_ban.2.1 146 = .ok (.iload 4, 2) := by decide +kernel
theorem d_X7_ban_148 : decode mX7_ban.2.1 148 = .ok (.iastore, 1) := by decide +kernel
theorem d_X7_ban_149 : decode mX7_ban.2.1 149 = .ok (.aload_n 0, 1) := by decide +kernel
theorem d_X7_ban_150 : decode mX7_ban.2.1 150 = .ok (.getfield 7, 3) := by decide +kernel
theorem d_X7_ban_153 : decode mX7_ban.2.1 153 = .ok (.iload 7, 2) := by decide +kernel
theorem d_X7_ban_155 : decode mX7_ban.2.1 155 = .ok (.iconst 4, 1) := by decide +kernel
theorem d_X7_ban_156 : decode mX7_ban.2.1 156 = .ok (.iadd, 1) := by decide +kernel
theorem d_X7_ban_157 : decode mX7_ban.2.1 157 = .ok (.iload 5, 2) := by decide +kernel
theorem d_X7_ban_159 : decode mX7_ban.2.1 159 = .ok (.iastore, 1) := by decide +kernel
theorem d_X7_ban_160 : decode mX7_ban.2.1 160 = .ok (.aload_n 0, 1) := by decide +kernel
theorem d_X7_ban_161 : decode mX7_ban.2.1 161 = .ok (.getfield 7, 3) := by decide +kernel
theorem d_X7_ban_164 : decode mX7_ban.2.1 164 = .ok (.iconst 5, 1) := by decide +kernel
theorem d_X7_ban_165 : decode mX7_ban.2.1 165 = .ok (.dup2, 1) := by decide +kernel
theorem d_X7_ban_166 : decode mX7_ban.2.1 166 = .ok (.iaload, 1) := by decide +kernel
theorem d_X7_ban_167 : decode mX7_ban.2.1 167 = .ok (.iconst 1, 1) := by decide +kernel
theorem d_X7_ban_168 : decode mX7_ban.2.1 168 = .ok (.iadd, 1) := by decide +kernel
theorem d_X7_ban_169 : decode mX7_ban.2.1 169 = .ok (.iastore, 1) := by decide +kernel
theorem d_X7_ban_170 : decode mX7_ban.2.1 170 = .ok (.iload_n 1, 1) := by decide +kernel
theorem d_X7_ban_171 : decode mX7_ban.2.1 171 = .ok (.iconst 2, 1) := by decide +kernel
theorem d_X7_ban_172 : decode mX7_ban.2.1 172 = .ok (.if_icmp .ne 16, 3) := by decide +kernel
theorem d_X7_ban_175 : decode mX7_ban.2.1 175 = .ok (.aload_n 0, 1) := by decide +kernel
theorem d_X7_ban_176 : decode mX7_ban.2.1 176 = .ok (.iload_n 2, 1) := by decide +kernel
theorem d_X7_ban_177 : decode mX7_ban.2.1 177 = .ok (.iload_n 3, 1) := by decide +kernel
theorem d_X7_ban_178 : decode mX7_ban.2.1 178 = .ok (.iload 4, 2) := by decide +kernel
theorem d_X7_ban_180 : decode mX7_ban.2.1 180 = .ok (.iload 5, 2) := by decide +kernel
theorem d_X7_ban_182 : decode mX7_ban.2.1 182 = .ok (.invokevirtual 223, 3) := by decide +kernel
theorem d_X7_ban_185 : decode mX7_ban.2.1 185 = .ok (.goto 4, 3) := by decide +kernel
theorem d_X7_ban_188 : decode mX7_ban.2.1 188 = .ok (.iconst 0, 1) := by decide +kernel
theorem d_X7_ban_189 : decode mX7_ban.2.1 189 = .ok (.istore 8, 2) := by decide +kernel
theorem d_X7_ban_191 : decode mX7_ban.2.1 191 = .ok (.iconst 0, 1) := by decide +kernel
theorem d_X7_ban_192 : decode mX7_ban.2.1 192 = .ok (.istore 9, 2) := by decide +kernel
theorem d_X7_ban_194 : decode mX7_ban.2.1 194 = .ok (.iload 9, 2) := by decide +kernel
theorem d_X7_ban_196 : decode mX7_ban.2.1 196 = .ok (.aload_n 0, 1) := by decide +kernel
theorem d_X7_ban_197 : decode mX7_ban.2.1 197 = .ok (.getfield 7, 3) := by decide +kernel
theorem d_X7_ban_200 : decode mX7_ban.2.1 200 = .ok (.iconst 4, 1) := by decide +kernel
theorem d_X7_ban_201 : decode mX7_ban.2.1 201 = .ok (.iaload, 1) := by decide +kernel
theorem d_X7_ban_202 : decode mX7_ban.2.1 202 = .ok (.if_icmp .ge 63, 3) := by decide +kernel
theorem d_X7_ban_205 : decode mX7_ban.2.1 205 = .ok (.iload_n 1, 1) := by decide +kernel
theorem d_X7_ban_206 : decode mX7_ban.2.1 206 = .ok (.iconst 2, 1) := by decide +kernel
theorem d_X7_ban_207 : decode mX7_ban.2.1 207 = .ok (.if_icmp .ge 58, 3) := by decide +kernel
theorem d_X7_ban_210 : decode mX7_ban.2.1 210 = .ok (.aload_n 0, 1) := by decide +kernel
theorem d_X7_ban_211 : decode mX7_ban.2.1 211 = .ok (.iload 9, 2) := by decide +kernel
theorem d_X7_ban_213 : decode mX7_ban.2.1 213 = .ok (.invokevirtual 49, 3) := by decide +kernel
theorem d_X7_ban_216 : decode mX7_ban.2.1 216 = .ok (.ifCond .eq 43, 3) := by decide +kernel
theorem d_X7_ban_219 : decode mX7_ban.2.1 219 = .ok (.aload_n 0, 1) := by decide +kernel
theorem d_X7_ban_220 : decode mX7_ban.2.1 220 = .ok (.iload 6, 2) := by decide +kernel
theorem d_X7_ban_222 : decode mX7_ban.2.1 222 = .ok (.aload_n 0, 1) := by decide +kernel
theorem d_X7_ban_223 : decode mX7_ban.2.1 223 = .ok (.iload 9, 2) := by decide +kernel
theorem d_X7_ban_225 : decode mX7_ban.2.1 225 = .ok (.iconst 0, 1) := by decide +kernel
theorem d_X7_ban_226 : decode mX7_ban.2.1 226 = .ok (.invokevirtual 45, 3) := by decide +kernel
theorem d_X7_ban_229 : decode mX7_ban.2.1 229 = .ok (.aload_n 0, 1) := by decide +kernel
theorem d_X7_ban_230 : decode mX7_ban.2.1 230 = .ok (.iload 9, 2) := by decide +kernel
theorem d_X7_ban_232 : decode mX7_ban.2.1 232 = .ok (.iconst 1, 1) := by decide +kernel
theorem d_X7_ban_233 : decode mX7_ban.2.1 233 = .ok (.invokevirtual 45, 3) := by decide +kernel
theorem d_X7_ban_236 : decode mX7_ban.2.1 236 = .ok (.aload_n 0, 1) := by decide +kernel
theorem d_X7_ban_237 : decode mX7_ban.2.1 237 = .ok (.iload 9, 2) := by decide +kernel
theorem d_X7_ban_239 : decode mX7_ban.2.1 239 = .ok (.iconst 2, 1) := by decide +kernel
theorem d_X7_ban_240 : decode mX7_ban.2.1 240 = .ok (.invokevirtual 45, 3) := by decide +kernel
theorem d_X7_ban_243 : decode mX7_ban.2.1 243 = .ok (.invokevirtual 97, 3) := by decide +kernel
theorem d_X7_ban_246 : decode mX7_ban.2.1 246 = .ok (.ifCond .eq 13, 3) := by decide +kernel
theorem d_X7_ban_249 : decode mX7_ban.2.1 249 = .ok (.aload_n 0, 1) := by decide +kernel
theorem d_X7_ban_250 : decode mX7_ban.2.1 250 = .ok (.iload 9, 2) := by decide +kernel
theorem d_X7_ban_252 : decode mX7_ban.2.1 252 = .ok (.iconst 1, 1) := by decide +kernel
theorem d_X7_ban_253 : decode mX7_ban.2.1 253 = .ok (.invokevirtual 157, 3) := by decide +kernel
theorem d_X7_ban_256 : decode mX7_ban.2.1 256 = .ok (.iinc 8 1, 3) := by decide +kernel
theorem d_X7_ban_259 : decode mX7_ban.2.1 259 = .ok (.iinc 9 1, 3) := by decide +kernel
theorem d_X7_ban_262 : decode mX7_ban.2.1 262 = .ok (.goto (-68), 3) := by decide +kernel
theorem d_X7_ban_265 : decode mX7_ban.2.1 265 = .ok (.aload_n 0, 1) := by decide +kernel
theorem d_X7_ban_266 : decode mX7_ban.2.1 266 = .ok (.invokevirtual 166, 3) := by decide +kernel
theorem d_X7_ban_269 : decode mX7_ban.2.1 269 = .ok (.iload 8, 2) := by decide +kernel
theorem d_X7_ban_271 : decode mX7_ban.2.1 271 = .ok (.ireturn, 1) := by decide +kernel
def T_X7_ban_265 (Q : Int32 → Mem → Prop) (v0 : Nat) (v8 : Int32) (M : Mem) : Prop := (kd v0 = 7) ∧ T_X7_keeps (fun M2 => Q v8 M2)  v0 M
set_option maxRecDepth 100000 in
set_option maxHeartbeats 4000000 in
theorem B_X7_ban_265 {g : GG} (Q : Int32 → Mem → Prop) (v0 : Nat) (v8 : Int32) (M : Mem) (h : T_X7_ban_265 Q v0 v8 M) : WP g 14 mX7_ban 265 [some (.ref (g.1 + v0)), none, none, none, none, none, none, none, some (.int v8), none] [] M 0 (oI Q noX) := by
  unfold T_X7_ban_265 at h
  refine R_aload_n (pc := 265) d_X7_ban_265 rfl rfl ?_
  obtain ⟨k1, h⟩ := h
  refine R_callV (pc := 266) (As := []) (rest := []) (c_X7_keeps (g := g) v0 M _ h) rfl rfl cal_RX7_166 ins_X7_keeps sel_X7_keeps (cls_at k1 clsOK7) (by decide) (by decide) rfl rfl (Nat.le_of_ble_eq_true rfl) d_X7_ban_266 (k_V (fun M2 h => ?_)) (fun _ _ h9 => False.elim h9)
  try dsimp only at h
  refine R_iload (pc := 269) d_X7_ban_269 rfl ?_
  exact R_retv (pc := 271) d_X7_ban_271 h
def T_X7_ban_259 (κ194 : Nat → Int32 → Int32 → Int32 → Int32 → Mem → Prop) (Q : Int32 → Mem → Prop) (v0 : Nat) (v1 : Int32) (v6 : Int32) (v8 : Int32) (v9 : Int32) (M : Mem) : Prop := ∀ x1 : Int32, x1 = v9 + 1 → κ194 v0 v1 v6 v8 x1 M
set_option maxRecDepth 100000 in
set_option maxHeartbeats 4000000 in
theorem B_X7_ban_259 {g : GG} (Q : Int32 → Mem → Prop) (κ194 : Nat → Int32 → Int32 → Int32 → Int32 → Mem → Prop) (hκ194 : ∀ (v0 : Nat) (v1 : Int32) (v6 : Int32) (v8 : Int32) (v9 : Int32) (M : Mem), κ194 v0 v1 v6 v8 v9 M → WP g 14 mX7_ban 194 [some (.ref (g.1 + v0)), some (.int v1), none, none, none, none, some (.int v6), none, some (.int v8), some (.int v9)] [] M 0 (oI Q noX)) (v0 : Nat) (v1 : Int32) (v6 : Int32) (v8 : Int32) (v9 : Int32) (M : Mem) (h : T_X7_ban_259 κ194 Q v0 v1 v6 v8 v9 M) : WP g 14 mX7_ban 259 [some (.ref (g.1 + v0)), some (.int v1), none, none, none, none, some (.int v6), none, some (.int v8), some (.int v9)] [] M 0 (oI Q noX) := by
  unfold T_X7_ban_259 at h
  obtain ⟨x1, ex1⟩ : ∃ z : Int32, z = v9 + 1 := ⟨_, rfl⟩
  have h := h x1 ex1
  refine R_iinc (pc := 259) (v := x1) (L' := [some (.ref (g.1 + v0)), some (.int v1), none, none, none, none, some (.int v6), none, some (.int v8), some (.int x1)]) d_X7_ban_259 rfl (by rw [ex1]; rfl) (by decide) rfl ?_
  refine R_goto (pc := 262) (tgt := 194) d_X7_ban_262 (by decide) ?_
  exact WP_sub (hκ194 v0 v1 v6 v8 x1 M h) (by decide) (ls_s (ls_s (ls_n (ls_n (ls_n (ls_n (ls_s (ls_n (ls_s (ls_s ls_0))))))))))
def T_X7_ban_194 (Q : Int32 → Mem → Prop) : Nat → Nat → Int32 → Int32 → Int32 → Int32 → Mem → Prop
  | 0, _, _, _, _, _, _ => False
  | n + 1, v0, v1, v6, v8, v9, M => (kd v0 = 7) ∧ (kd (rf v0 1) = 9) ∧ (vp_in 4 (ln (rf v0 1))) ∧ if (M.1 (rf v0 1) (Int32.toNatClampNeg 4)) ≤ v9 then (T_X7_ban_265 Q v0 v8 M) else (if (2 : Int32) ≤ v1 then (T_X7_ban_265 Q v0 v8 M) else (T_X7_isBooked (fun y5 M4 => if y5 = 0 then (T_X7_ban_259 (T_X7_ban_194 Q n) Q v0 v1 v6 v8 v9 M4) else (T_X7_of (fun y7 M6 => T_X7_of (fun y9 M8 => T_X7_of (fun y11 M10 => T_X7_breaks (fun y13 M12 => if y13 = 0 then (T_X7_ban_259 (T_X7_ban_194 Q n) Q v0 v1 v6 v8 v9 M12) else (T_X7_cancels (fun M14 => ∀ x15 : Int32, x15 = v8 + 1 → T_X7_ban_259 (T_X7_ban_194 Q n) Q v0 v1 v6 x15 v9 M14)  v0 v9 1 M12))  v0 v6 y7 y9 y11 M10)  v0 v9 2 M8)  v0 v9 1 M6)  v0 v9 0 M4))  v0 v9 M))
set_option maxRecDepth 100000 in
set_option maxHeartbeats 4000000 in
theorem B_X7_ban_194 {g : GG} (Q : Int32 → Mem → Prop) : ∀ (n : Nat) (v0 : Nat) (v1 : Int32) (v6 : Int32) (v8 : Int32) (v9 : Int32) (M : Mem), T_X7_ban_194 Q n v0 v1 v6 v8 v9 M → WP g 14 mX7_ban 194 [some (.ref (g.1 + v0)), some (.int v1), none, none, none, none, some (.int v6), none, some (.int v8), some (.int v9)] [] M 0 (oI Q noX) := by
  intro n
  induction n with
  | zero => intro v0 v1 v6 v8 v9 M h; exact h.elim
  | succ n hκ194 =>
    intro v0 v1 v6 v8 v9 M h
    unfold T_X7_ban_194 at h
    refine R_iload (pc := 194) d_X7_ban_194 rfl ?_
    refine R_aload_n (pc := 196) d_X7_ban_196 rfl rfl ?_
    obtain ⟨k1, h⟩ := h
    refine R_getR (pc := 197) fld_RX7_7 rfl rfl k1 d_X7_ban_197 ?_
    refine R_iconst (pc := 200) (v := 4) d_X7_ban_200 (by decide) ?_
    obtain ⟨k2, h⟩ := h
    obtain ⟨k3, h⟩ := h
    refine R_iald (pc := 201) k2 k3 d_X7_ban_201 ?_
    refine R_icmp_ge (pc := 202) (tgt := 265) d_X7_ban_202 (by decide) (fun c => ?_) (fun c => ?_)
    · rw [if_pos c] at h
      exact WP_sub (B_X7_ban_265 Q v0 v8 M h) (by decide) (ls_s (ls_n (ls_n (ls_n (ls_n (ls_n (ls_n (ls_n (ls_s (ls_n ls_0))))))))))
    · rw [if_neg c] at h
      refine R_iload_n (pc := 205) d_X7_ban_205 rfl rfl ?_
      refine R_iconst (pc := 206) (v := 2) d_X7_ban_206 (by decide) ?_
      refine R_icmp_ge (pc := 207) (tgt := 265) d_X7_ban_207 (by decide) (fun c => ?_) (fun c => ?_)
      · rw [if_pos c] at h
        exact WP_sub (B_X7_ban_265 Q v0 v8 M h) (by decide) (ls_s (ls_n (ls_n (ls_n (ls_n (ls_n (ls_n (ls_n (ls_s (ls_n ls_0))))))))))
      · rw [if_neg c] at h
        refine R_aload_n (pc := 210) d_X7_ban_210 rfl rfl ?_
        refine R_iload (pc := 211) d_X7_ban_211 rfl ?_
        refine R_callV (pc := 213) (As := [.int v9]) (rest := []) (c_X7_isBooked (g := g) v0 v9 M _ h) rfl rfl cal_RX7_49 ins_X7_isBooked sel_X7_isBooked (cls_at k1 clsOK7) (by decide) (by decide) rfl rfl (Nat.le_of_ble_eq_true rfl) d_X7_ban_213 (k_Z (fun y5 M4 h => ?_)) (fun _ _ h9 => False.elim h9)
        try dsimp only at h
        refine R_if_eq (pc := 216) (tgt := 259) d_X7_ban_216 (by decide) (fun c => ?_) (fun c => ?_)
        · rw [if_pos c] at h
          exact WP_sub (B_X7_ban_259 Q (T_X7_ban_194 Q n) hκ194 v0 v1 v6 v8 v9 M4 h) (by decide) (ls_s (ls_s (ls_n (ls_n (ls_n (ls_n (ls_s (ls_n (ls_s (ls_s ls_0))))))))))
        · rw [if_neg c] at h
          refine R_aload_n (pc := 219) d_X7_ban_219 rfl rfl ?_
          refine R_iload (pc := 220) d_X7_ban_220 rfl ?_
          refine R_aload_n (pc := 222) d_X7_ban_222 rfl rfl ?_
          refine R_iload (pc := 223) d_X7_ban_223 rfl ?_
          refine R_iconst (pc := 225) (v := 0) d_X7_ban_225 (by decide) ?_
          refine R_callV (pc := 226) (As := [.int v9, .int 0]) (rest := [.int v6, .ref (g.1 + v0)]) (c_X7_of (g := g) v0 v9 0 M4 _ h) rfl rfl cal_RX7_45 ins_X7_of sel_X7_of (cls_at k1 clsOK7) (by decide) (by decide) rfl rfl (Nat.le_of_ble_eq_true rfl) d_X7_ban_226 (k_I (fun y7 M6 h => ?_)) (fun _ _ h9 => False.elim h9)
          try dsimp only at h
          refine R_aload_n (pc := 229) d_X7_ban_229 rfl rfl ?_
          refine R_iload (pc := 230) d_X7_ban_230 rfl ?_
          refine R_iconst (pc := 232) (v := 1) d_X7_ban_232 (by decide) ?_
          refine R_callV (pc := 233) (As := [.int v9, .int 1]) (rest := [.int y7, .int v6, .ref (g.1 + v0)]) (c_X7_of (g := g) v0 v9 1 M6 _ h) rfl rfl cal_RX7_45 ins_X7_of sel_X7_of (cls_at k1 clsOK7) (by decide) (by decide) rfl rfl (Nat.le_of_ble_eq_true rfl) d_X7_ban_233 (k_I (fun y9 M8 h => ?_)) (fun _ _ h9 => False.elim h9)
          try dsimp only at h
          refine R_aload_n (pc := 236) d_X7_ban_236 rfl rfl ?_
          refine R_iload (pc := 237) d_X7_ban_237 rfl ?_
          refine R_iconst (pc := 239) (v := 2) d_X7_ban_239 (by decide) ?_
          refine R_callV (pc := 240) (As := [.int v9, .int 2]) (rest := [.int y9, .int y7, .int v6, .ref (g.1 + v0)]) (c_X7_of (g := g) v0 v9 2 M8 _ h) rfl rfl cal_RX7_45 ins_X7_of sel_X7_of (cls_at k1 clsOK7) (by decide) (by decide) rfl rfl (Nat.le_of_ble_eq_true rfl) d_X7_ban_240 (k_I (fun y11 M10 h => ?_)) (fun _ _ h9 => False.elim h9)
          try dsimp only at h
          refine R_callV (pc := 243) (As := [.int v6, .int y7, .int y9, .int y11]) (rest := []) (c_X7_breaks (g := g) v0 v6 y7 y9 y11 M10 _ h) rfl rfl cal_RX7_97 ins_X7_breaks sel_X7_breaks (cls_at k1 clsOK7) (by decide) (by decide) rfl rfl (Nat.le_of_ble_eq_true rfl) d_X7_ban_243 (k_Z (fun y13 M12 h => ?_)) (fun _ _ h9 => False.elim h9)
          try dsimp only at h
          refine R_if_eq (pc := 246) (tgt := 259) d_X7_ban_246 (by decide) (fun c => ?_) (fun c => ?_)
          · rw [if_pos c] at h
            exact WP_sub (B_X7_ban_259 Q (T_X7_ban_194 Q n) hκ194 v0 v1 v6 v8 v9 M12 h) (by decide) (ls_s (ls_s (ls_n (ls_n (ls_n (ls_n (ls_s (ls_n (ls_s (ls_s ls_0))))))))))
          · rw [if_neg c] at h
            refine R_aload_n (pc := 249) d_X7_ban_249 rfl rfl ?_
            refine R_iload (pc := 250) d_X7_ban_250 rfl ?_
            refine R_iconst (pc := 252) (v := 1) d_X7_ban_252 (by decide) ?_
            refine R_callV (pc := 253) (As := [.int v9, .int 1]) (rest := []) (c_X7_cancels (g := g) v0 v9 1 M12 _ h) rfl rfl cal_RX7_157 ins_X7_cancels sel_X7_cancels (cls_at k1 clsOK7) (by decide) (by decide) rfl rfl (Nat.le_of_ble_eq_true rfl) d_X7_ban_253 (k_V (fun M14 h => ?_)) (fun _ _ h9 => False.elim h9)
            try dsimp only at h
            obtain ⟨x15, ex15⟩ : ∃ z : Int32, z = v8 + 1 := ⟨_, rfl⟩
            have h := h x15 ex15
            refine R_iinc (pc := 256) (v := x15) (L' := [some (.ref (g.1 + v0)), some (.int v1), none, none, none, none, some (.int v6), none, some (.int x15), some (.int v9)]) d_X7_ban_256 rfl (by rw [ex15]; rfl) (by decide) rfl ?_
            exact WP_sub (B_X7_ban_259 Q (T_X7_ban_194 Q n) hκ194 v0 v1 v6 x15 v9 M14 h) (by decide) (ls_s (ls_s (ls_n (ls_n (ls_n (ls_n (ls_s (ls_n (ls_s (ls_s ls_0))))))))))
def T_X7_ban_189 (Q : Int32 → Mem → Prop) (v0 : Nat) (v1 : Int32) (v6 : Int32) (s0 : Int32) (M : Mem) : Prop := (∃ N : Nat, T_X7_ban_194 Q N v0 v1 v6 s0 0 M)
set_option maxRecDepth 100000 in
set_option maxHeartbeats 4000000 in
theorem B_X7_ban_189 {g : GG} (Q : Int32 → Mem → Prop) (v0 : Nat) (v1 : Int32) (v6 : Int32) (s0 : Int32) (M : Mem) (h : T_X7_ban_189 Q v0 v1 v6 s0 M) : WP g 14 mX7_ban 189 [some (.ref (g.1 + v0)), some (.int v1), none, none, none, none, some (.int v6), none, none, none] [.int s0] M 0 (oI Q noX) := by
  unfold T_X7_ban_189 at h
  refine R_istore (pc := 189) (L' := [some (.ref (g.1 + v0)), some (.int v1), none, none, none, none, some (.int v6), none, some (.int s0), none]) d_X7_ban_189 (by decide) rfl ?_
  refine R_iconst (pc := 191) (v := 0) d_X7_ban_191 (by decide) ?_
  refine R_istore (pc := 192) (L' := [some (.ref (g.1 + v0)), some (.int v1), none, none, none, none, some (.int v6), none, some (.int s0), some (.int 0)]) d_X7_ban_192 (by decide) rfl ?_
  obtain ⟨N, h⟩ := h
  exact WP_sub (B_X7_ban_194 Q N v0 v1 v6 s0 0 M h) (by decide) (ls_s (ls_s (ls_n (ls_n (ls_n (ls_n (ls_s (ls_n (ls_s (ls_s ls_0))))))))))
def T_X7_ban_69 (Q : Int32 → Mem → Prop) (v0 : Nat) (M : Mem) : Prop := (kd v0 = 7) ∧ T_X7_fails (fun y3 M2 => Q y3 M2)  v0 2 M
set_option maxRecDepth 100000 in
set_option maxHeartbeats 4000000 in
theorem B_X7_ban_69 {g : GG} (Q : Int32 → Mem → Prop) (v0 : Nat) (M : Mem) (h : T_X7_ban_69 Q v0 M) : WP g 14 mX7_ban 69 [some (.ref (g.1 + v0)), none, none, none, none, none, none, none, none, none] [] M 0 (oI Q noX) := by
  unfold T_X7_ban_69 at h
  refine R_aload_n (pc := 69) d_X7_ban_69 rfl rfl ?_
  refine R_iconst (pc := 70) (v := 2) d_X7_ban_70 (by decide) ?_
  obtain ⟨k1, h⟩ := h
  refine R_callV (pc := 71) (As := [.int 2]) (rest := []) (c_X7_fails (g := g) v0 2 M _ h) rfl rfl cal_RX7_163 ins_X7_fails sel_X7_fails (cls_at k1 clsOK7) (by decide) (by decide) rfl rfl (Nat.le_of_ble_eq_true rfl) d_X7_ban_71 (k_I (fun y3 M2 h => ?_)) (fun _ _ h9 => False.elim h9)
  try dsimp only at h
  exact R_retv (pc := 74) d_X7_ban_74 h
def T_X7_ban_51 (Q : Int32 → Mem → Prop) (v0 : Nat) (v1 : Int32) (v2 : Int32) (v3 : Int32) (v4 : Int32) (v5 : Int32) (M : Mem) : Prop := T_X7_in (fun y2 M1 => if y2 = 0 then (T_X7_ban_69 Q v0 M1) else (if v5 ≤ (55 : Int32) then ((kd v0 = 7) ∧ (kd (rf v0 1) = 9) ∧ (vp_in 5 (ln (rf v0 1))) ∧ if (M1.1 (rf v0 1) (Int32.toNatClampNeg 5)) = (10 : Int32) then (T_X7_fails (fun y22 M21 => Q y22 M21)  v0 3 M1) else (∀ x6 : Int32, x6 = M1.1 (rf v0 1) (Int32.toNatClampNeg 5) → ∀ x7 : Int32, x7 = 438 + (5 * x6) → (vp_in x7 (ln (rf v0 1))) ∧ ∀ M9 : Mem, M9 = mset M1 (rf v0 1) (Int32.toNatClampNeg x7) v1 → (vp_in (x7 + 1) (ln (rf v0 1))) ∧ ∀ M11 : Mem, M11 = mset M9 (rf v0 1) (Int32.toNatClampNeg (x7 + 1)) v2 → (vp_in (x7 + 2) (ln (rf v0 1))) ∧ ∀ M13 : Mem, M13 = mset M11 (rf v0 1) (Int32.toNatClampNeg (x7 + 2)) v3 → (vp_in (x7 + 3) (ln (rf v0 1))) ∧ ∀ M15 : Mem, M15 = mset M13 (rf v0 1) (Int32.toNatClampNeg (x7 + 3)) v4 → (vp_in (x7 + 4) (ln (rf v0 1))) ∧ ∀ M17 : Mem, M17 = mset M15 (rf v0 1) (Int32.toNatClampNeg (x7 + 4)) v5 → ∀ M18 : Mem, M18 = mset M17 (rf v0 1) (Int32.toNatClampNeg 5) ((M17.1 (rf v0 1) (Int32.toNatClampNeg 5)) + 1) → if v1 = (2 : Int32) then (T_X7_parts (fun y20 M19 => T_X7_ban_189 Q v0 v1 x6 y20 M19)  v0 v2 v3 v4 v5 M18) else (T_X7_ban_189 Q v0 v1 x6 0 M18))) else (T_X7_ban_69 Q v0 M1)))  v4 0 v5 M
set_option maxRecDepth 100000 in
set_option maxHeartbeats 4000000 in
theorem B_X7_ban_51 {g : GG} (Q : Int32 → Mem → Prop) (v0 : Nat) (v1 : Int32) (v2 : Int32) (v3 : Int32) (v4 : Int32) (v5 : Int32) (M : Mem) (h : T_X7_ban_51 Q v0 v1 v2 v3 v4 v5 M) : WP g 14 mX7_ban 51 [some (.ref (g.1 + v0)), some (.int v1), some (.int v2), some (.int v3), some (.int v4), some (.int v5), none, none, none, none] [] M 0 (oI Q noX) := by
  unfold T_X7_ban_51 at h
  refine R_iload (pc := 51) d_X7_ban_51 rfl ?_
  refine R_iconst (pc := 53) (v := 0) d_X7_ban_53 (by decide) ?_
  refine R_iload (pc := 54) d_X7_ban_54 rfl ?_
  refine R_callS (pc := 56) (As := [.int v4, .int 0, .int v5]) (rest := []) (c_X7_in (g := g) v4 0 v5 M _ h) rfl rfl cal_RX7_41 sta_X7_in (by decide) (by decide) rfl rfl (Nat.le_of_ble_eq_true rfl) d_X7_ban_56 (k_Z (fun y2 M1 h => ?_)) (fun _ _ h9 => False.elim h9)
  try dsimp only at h
  refine R_if_eq (pc := 59) (tgt := 69) d_X7_ban_59 (by decide) (fun c => ?_) (fun c => ?_)
  · rw [if_pos c] at h
    exact WP_sub (B_X7_ban_69 Q v0 M1 h) (by decide) (ls_s (ls_n (ls_n (ls_n (ls_n (ls_n (ls_n (ls_n (ls_n (ls_n ls_0))))))))))
  · rw [if_neg c] at h
    refine R_iload (pc := 62) d_X7_ban_62 rfl ?_
    refine R_bipush (pc := 64) (v := 55) d_X7_ban_64 (by decide) ?_
    refine R_icmp_le (pc := 66) (tgt := 75) d_X7_ban_66 (by decide) (fun c => ?_) (fun c => ?_)
    · rw [if_pos c] at h
      refine R_aload_n (pc := 75) d_X7_ban_75 rfl rfl ?_
      obtain ⟨k3, h⟩ := h
      refine R_getR (pc := 76) fld_RX7_7 rfl rfl k3 d_X7_ban_76 ?_
      refine R_iconst (pc := 79) (v := 5) d_X7_ban_79 (by decide) ?_
      obtain ⟨k4, h⟩ := h
      obtain ⟨k5, h⟩ := h
      refine R_iald (pc := 80) k4 k5 d_X7_ban_80 ?_
      refine R_bipush (pc := 81) (v := 10) d_X7_ban_81 (by decide) ?_
      refine R_icmp_ne (pc := 83) (tgt := 92) d_X7_ban_83 (by decide) (fun c => ?_) (fun c => ?_)
      · rw [if_neg c] at h
        refine R_aload_n (pc := 92) d_X7_ban_92 rfl rfl ?_
        refine R_getR (pc := 93) fld_RX7_7 rfl rfl k3 d_X7_ban_93 ?_
        refine R_iconst (pc := 96) (v := 5) d_X7_ban_96 (by decide) ?_
        refine R_iald (pc := 97) k4 k5 d_X7_ban_97 ?_
        refine N_i (fun x6 ex6 => ?_)
        have h := h x6 ex6
        refine R_istore (pc := 98) (L' := [some (.ref (g.1 + v0)), some (.int v1), some (.int v2), some (.int v3), some (.int v4), some (.int v5), some (.int x6), none, none, none]) d_X7_ban_98 (by decide) rfl ?_
        refine R_sipush (pc := 100) (v := 438) d_X7_ban_100 (by decide) ?_
        refine R_iconst (pc := 103) (v := 5) d_X7_ban_103 (by decide) ?_
        refine R_iload (pc := 104) d_X7_ban_104 rfl ?_
        refine R_imul (pc := 106) d_X7_ban_106 ?_
        refine R_iadd (pc := 107) d_X7_ban_107 ?_
        refine N_i (fun x7 ex7 => ?_)
        have h := h x7 ex7
        refine R_istore (pc := 108) (L' := [some (.ref (g.1 + v0)), some (.int v1), some (.int v2), some (.int v3), some (.int v4), some (.int v5), some (.int x6), some (.int x7), none, none]) d_X7_ban_108 (by decide) rfl ?_
        refine R_aload_n (pc := 110) d_X7_ban_110 rfl rfl ?_
        refine R_getR (pc := 111) fld_RX7_7 rfl rfl k3 d_X7_ban_111 ?_
        refine R_iload (pc := 114) d_X7_ban_114 rfl ?_
        refine R_iload_n (pc := 116) d_X7_ban_116 rfl rfl ?_
        obtain ⟨k8, h⟩ := h
        refine R_iast (pc := 117) k4 k8 d_X7_ban_117 (N_M (fun M9 eM9 => ?_))
        have h := h M9 eM9
        refine R_aload_n (pc := 118) d_X7_ban_118 rfl rfl ?_
        refine R_getR (pc := 119) fld_RX7_7 rfl rfl k3 d_X7_ban_119 ?_
        refine R_iload (pc := 122) d_X7_ban_122 rfl ?_
        refine R_iconst (pc := 124) (v := 1) d_X7_ban_124 (by decide) ?_
        refine R_iadd (pc := 125) d_X7_ban_125 ?_
        refine R_iload_n (pc := 126) d_X7_ban_126 rfl rfl ?_
        obtain ⟨k10, h⟩ := h
        refine R_iast (pc := 127) k4 k10 d_X7_ban_127 (N_M (fun M11 eM11 => ?_))
        have h := h M11 eM11
        refine R_aload_n (pc := 128) d_X7_ban_128 rfl rfl ?_
        refine R_getR (pc := 129) fld_RX7_7 rfl rfl k3 d_X7_ban_129 ?_
        refine R_iload (pc := 132) d_X7_ban_132 rfl ?_
        refine R_iconst (pc := 134) (v := 2) d_X7_ban_134 (by decide) ?_
        refine R_iadd (pc := 135) d_X7_ban_135 ?_
        refine R_iload_n (pc := 136) d_X7_ban_136 rfl rfl ?_
        obtain ⟨k12, h⟩ := h
        refine R_iast (pc := 137) k4 k12 d_X7_ban_137 (N_M (fun M13 eM13 => ?_))
        have h := h M13 eM13
        refine R_aload_n (pc := 138) d_X7_ban_138 rfl rfl ?_
        refine R_getR (pc := 139) fld_RX7_7 rfl rfl k3 d_X7_ban_139 ?_
        refine R_iload (pc := 142) d_X7_ban_142 rfl ?_
        refine R_iconst (pc := 144) (v := 3) d_X7_ban_144 (by decide) ?_
        refine R_iadd (pc := 145) d_X7_ban_145 ?_
        refine R_iload (pc := 146) d_X7_ban_146 rfl ?_
        obtain ⟨k14, h⟩ := h
        refine R_iast (pc := 148) k4 k14 d_X7_ban_148 (N_M (fun M15 eM15 => ?_))
        have h := h M15 eM15
        refine R_aload_n (pc := 149) d_X7_ban_149 rfl rfl ?_
        refine R_getR (pc := 150) fld_RX7_7 rfl rfl k3 d_X7_ban_150 ?_
        refine R_iload (pc := 153) d_X7_ban_153 rfl ?_
        refine R_iconst (pc := 155) (v := 4) d_X7_ban_155 (by decide) ?_
        refine R_iadd (pc := 156) d_X7_ban_156 ?_
        refine R_iload (pc := 157) d_X7_ban_157 rfl ?_
        obtain ⟨k16, h⟩ := h
        refine R_iast (pc := 159) k4 k16 d_X7_ban_159 (N_M (fun M17 eM17 => ?_))
        have h := h M17 eM17
        refine R_aload_n (pc := 160) d_X7_ban_160 rfl rfl ?_
        refine R_getR (pc := 161) fld_RX7_7 rfl rfl k3 d_X7_ban_161 ?_
        refine R_iconst (pc := 164) (v := 5) d_X7_ban_164 (by decide) ?_
        refine R_dup2 (pc := 165) d_X7_ban_165 rfl rfl ?_
        refine R_iald (pc := 166) k4 k5 d_X7_ban_166 ?_
        refine R_iconst (pc := 167) (v := 1) d_X7_ban_167 (by decide) ?_
        refine R_iadd (pc := 168) d_X7_ban_168 ?_
        refine R_iast (pc := 169) k4 k5 d_X7_ban_169 (N_M (fun M18 eM18 => ?_))
        have h := h M18 eM18
        refine R_iload_n (pc := 170) d_X7_ban_170 rfl rfl ?_
        refine R_iconst (pc := 171) (v := 2) d_X7_ban_171 (by decide) ?_
        refine R_icmp_ne (pc := 172) (tgt := 188) d_X7_ban_172 (by decide) (fun c => ?_) (fun c => ?_)
        · rw [if_neg c] at h
          refine R_iconst (pc := 188) (v := 0) d_X7_ban_188 (by decide) ?_
          exact WP_sub (B_X7_ban_189 Q v0 v1 x6 0 M18 h) (by decide) (ls_s (ls_s (ls_n (ls_n (ls_n (ls_n (ls_s (ls_n (ls_n (ls_n ls_0))))))))))
        · rw [if_pos c] at h
          refine R_aload_n (pc := 175) d_X7_ban_175 rfl rfl ?_
          refine R_iload_n (pc := 176) d_X7_ban_176 rfl rfl ?_
          refine R_iload_n (pc := 177) d_X7_ban_177 rfl rfl ?_
          refine R_iload (pc := 178) d_X7_ban_178 rfl ?_
          refine R_iload (pc := 180) d_X7_ban_180 rfl ?_
          refine R_callV (pc := 182) (As := [.int v2, .int v3, .int v4, .int v5]) (rest := []) (c_X7_parts (g := g) v0 v2 v3 v4 v5 M18 _ h) rfl rfl cal_RX7_223 ins_X7_parts sel_X7_parts (cls_at k3 clsOK7) (by decide) (by decide) rfl rfl (Nat.le_of_ble_eq_true rfl) d_X7_ban_182 (k_I (fun y20 M19 h => ?_)) (fun _ _ h9 => False.elim h9)
          try dsimp only at h
          refine R_goto (pc := 185) (tgt := 189) d_X7_ban_185 (by decide) ?_
          exact WP_sub (B_X7_ban_189 Q v0 v1 x6 y20 M19 h) (by decide) (ls_s (ls_s (ls_n (ls_n (ls_n (ls_n (ls_s (ls_n (ls_n (ls_n ls_0))))))))))
      · rw [if_pos c] at h
        refine R_aload_n (pc := 86) d_X7_ban_86 rfl rfl ?_
        refine R_iconst (pc := 87) (v := 3) d_X7_ban_87 (by decide) ?_
        refine R_callV (pc := 88) (As := [.int 3]) (rest := []) (c_X7_fails (g := g) v0 3 M1 _ h) rfl rfl cal_RX7_163 ins_X7_fails sel_X7_fails (cls_at k3 clsOK7) (by decide) (by decide) rfl rfl (Nat.le_of_ble_eq_true rfl) d_X7_ban_88 (k_I (fun y22 M21 h => ?_)) (fun _ _ h9 => False.elim h9)
        try dsimp only at h
        exact R_retv (pc := 91) d_X7_ban_91 h
    · rw [if_neg c] at h
      exact WP_sub (B_X7_ban_69 Q v0 M1 h) (by decide) (ls_s (ls_n (ls_n (ls_n (ls_n (ls_n (ls_n (ls_n (ls_n (ls_n ls_0))))))))))
def T_X7_ban_26 (Q : Int32 → Mem → Prop) (v0 : Nat) (M : Mem) : Prop := (kd v0 = 7) ∧ T_X7_fails (fun y3 M2 => Q y3 M2)  v0 1 M
set_option maxRecDepth 100000 in
set_option maxHeartbeats 4000000 in
theorem B_X7_ban_26 {g : GG} (Q : Int32 → Mem → Prop) (v0 : Nat) (M : Mem) (h : T_X7_ban_26 Q v0 M) : WP g 14 mX7_ban 26 [some (.ref (g.1 + v0)), none, none, none, none, none, none, none, none, none] [] M 0 (oI Q noX) := by
  unfold T_X7_ban_26 at h
  refine R_aload_n (pc := 26) d_X7_ban_26 rfl rfl ?_
  refine R_iconst (pc := 27) (v := 1) d_X7_ban_27 (by decide) ?_
  obtain ⟨k1, h⟩ := h
  refine R_callV (pc := 28) (As := [.int 1]) (rest := []) (c_X7_fails (g := g) v0 1 M _ h) rfl rfl cal_RX7_163 ins_X7_fails sel_X7_fails (cls_at k1 clsOK7) (by decide) (by decide) rfl rfl (Nat.le_of_ble_eq_true rfl) d_X7_ban_28 (k_I (fun y3 M2 h => ?_)) (fun _ _ h9 => False.elim h9)
  try dsimp only at h
  exact R_retv (pc := 31) d_X7_ban_31 h
def T_X7_ban (Q : Int32 → Mem → Prop) (v0 : Nat) (v1 : Int32) (v2 : Int32) (v3 : Int32) (v4 : Int32) (v5 : Int32) (M : Mem) : Prop := (kd v0 = 7) ∧ ∀ M2 : Mem, M2 = mset M v0 0 0 → T_X7_remembers (fun M3 => T_X7_isInmate (fun y5 M4 => if y5 = 0 then (T_X7_ban_26 Q v0 M4) else (T_X7_isOther (fun y7 M6 => if y7 = 0 then (T_X7_ban_26 Q v0 M6) else (T_X7_in (fun y9 M8 => if y9 = 0 then (T_X7_ban_69 Q v0 M8) else (if v1 = (2 : Int32) then (if v2 = v3 then (T_X7_ban_69 Q v0 M8) else (T_X7_ban_51 Q v0 v1 v2 v3 v4 v5 M8)) else (T_X7_ban_51 Q v0 v1 v2 v3 v4 v5 M8)))  v1 0 2 M6))  v0 v1 v3 M4))  v0 v2 M3)  v0 M2
set_option maxRecDepth 100000 in
set_option maxHeartbeats 4000000 in
theorem c_X7_ban {g : GG} (v0 : Nat) (v1 : Int32) (v2 : Int32) (v3 : Int32) (v4 : Int32) (v5 : Int32) (M : Mem) (Q : Int32 → Mem → Prop) (h : T_X7_ban Q v0 v1 v2 v3 v4 v5 M) : CT g 14 mX7_ban [.ref (g.1 + v0), .int v1, .int v2, .int v3, .int v4, .int v5] M 0 (oI Q noX) := by
  refine CT_of (L := [some (.ref (g.1 + v0)), some (.int v1), some (.int v2), some (.int v3), some (.int v4), some (.int v5), none, none, none, none]) (by decide) rfl (Nat.le_of_ble_eq_true rfl) (ro_I rfl) rfl ?_
  unfold T_X7_ban at h
  refine R_aload_n (pc := 0) d_X7_ban_0 rfl rfl ?_
  refine R_iconst (pc := 1) (v := 0) d_X7_ban_1 (by decide) ?_
  obtain ⟨k1, h⟩ := h
  refine R_putI (pc := 2) fld_RX7_37 rfl rfl rfl k1 rfl rfl d_X7_ban_2 (N_M (fun M2 eM2 => ?_))
  have h := h M2 eM2
  refine R_aload_n (pc := 5) d_X7_ban_5 rfl rfl ?_
  refine R_callV (pc := 6) (As := []) (rest := []) (c_X7_remembers (g := g) v0 M2 _ h) rfl rfl cal_RX7_160 ins_X7_remembers sel_X7_remembers (cls_at k1 clsOK7) (by decide) (by decide) rfl rfl (Nat.le_of_ble_eq_true rfl) d_X7_ban_6 (k_V (fun M3 h => ?_)) (fun _ _ h9 => False.elim h9)
  try dsimp only at h
  refine R_aload_n (pc := 9) d_X7_ban_9 rfl rfl ?_
  refine R_iload_n (pc := 10) d_X7_ban_10 rfl rfl ?_
  refine R_callV (pc := 11) (As := [.int v2]) (rest := []) (c_X7_isInmate (g := g) v0 v2 M3 _ h) rfl rfl cal_RX7_179 ins_X7_isInmate sel_X7_isInmate (cls_at k1 clsOK7) (by decide) (by decide) rfl rfl (Nat.le_of_ble_eq_true rfl) d_X7_ban_11 (k_Z (fun y5 M4 h => ?_)) (fun _ _ h9 => False.elim h9)
  try dsimp only at h
  refine R_if_eq (pc := 14) (tgt := 26) d_X7_ban_14 (by decide) (fun c => ?_) (fun c => ?_)
  · rw [if_pos c] at h
    exact WP_sub (B_X7_ban_26 Q v0 M4 h) (by decide) (ls_s (ls_n (ls_n (ls_n (ls_n (ls_n (ls_n (ls_n (ls_n (ls_n ls_0))))))))))
  · rw [if_neg c] at h
    refine R_aload_n (pc := 17) d_X7_ban_17 rfl rfl ?_
    refine R_iload_n (pc := 18) d_X7_ban_18 rfl rfl ?_
    refine R_iload_n (pc := 19) d_X7_ban_19 rfl rfl ?_
    refine R_callV (pc := 20) (As := [.int v1, .int v3]) (rest := []) (c_X7_isOther (g := g) v0 v1 v3 M4 _ h) rfl rfl cal_RX7_219 ins_X7_isOther sel_X7_isOther (cls_at k1 clsOK7) (by decide) (by decide) rfl rfl (Nat.le_of_ble_eq_true rfl) d_X7_ban_20 (k_Z (fun y7 M6 h => ?_)) (fun _ _ h9 => False.elim h9)
    try dsimp only at h
    refine R_if_ne (pc := 23) (tgt := 32) d_X7_ban_23 (by decide) (fun c => ?_) (fun c => ?_)
    · rw [if_neg c] at h
      refine R_iload_n (pc := 32) d_X7_ban_32 rfl rfl ?_
      refine R_iconst (pc := 33) (v := 0) d_X7_ban_33 (by decide) ?_
      refine R_iconst (pc := 34) (v := 2) d_X7_ban_34 (by decide) ?_
      refine R_callS (pc := 35) (As := [.int v1, .int 0, .int 2]) (rest := []) (c_X7_in (g := g) v1 0 2 M6 _ h) rfl rfl cal_RX7_41 sta_X7_in (by decide) (by decide) rfl rfl (Nat.le_of_ble_eq_true rfl) d_X7_ban_35 (k_Z (fun y9 M8 h => ?_)) (fun _ _ h9 => False.elim h9)
      try dsimp only at h
      refine R_if_eq (pc := 38) (tgt := 69) d_X7_ban_38 (by decide) (fun c => ?_) (fun c => ?_)
      · rw [if_pos c] at h
        exact WP_sub (B_X7_ban_69 Q v0 M8 h) (by decide) (ls_s (ls_n (ls_n (ls_n (ls_n (ls_n (ls_n (ls_n (ls_n (ls_n ls_0))))))))))
      · rw [if_neg c] at h
        refine R_iload_n (pc := 41) d_X7_ban_41 rfl rfl ?_
        refine R_iconst (pc := 42) (v := 2) d_X7_ban_42 (by decide) ?_
        refine R_icmp_ne (pc := 43) (tgt := 51) d_X7_ban_43 (by decide) (fun c => ?_) (fun c => ?_)
        · rw [if_neg c] at h
          exact WP_sub (B_X7_ban_51 Q v0 v1 v2 v3 v4 v5 M8 h) (by decide) (ls_s (ls_s (ls_s (ls_s (ls_s (ls_s (ls_n (ls_n (ls_n (ls_n ls_0))))))))))
        · rw [if_pos c] at h
          refine R_iload_n (pc := 46) d_X7_ban_46 rfl rfl ?_
          refine R_iload_n (pc := 47) d_X7_ban_47 rfl rfl ?_
          refine R_icmp_eq (pc := 48) (tgt := 69) d_X7_ban_48 (by decide) (fun c => ?_) (fun c => ?_)
          · rw [if_pos c] at h
            exact WP_sub (B_X7_ban_69 Q v0 M8 h) (by decide) (ls_s (ls_n (ls_n (ls_n (ls_n (ls_n (ls_n (ls_n (ls_n (ls_n ls_0))))))))))
          · rw [if_neg c] at h
            exact WP_sub (B_X7_ban_51 Q v0 v1 v2 v3 v4 v5 M8 h) (by decide) (ls_s (ls_s (ls_s (ls_s (ls_s (ls_s (ls_n (ls_n (ls_n (ls_n ls_0))))))))))
    · rw [if_pos c] at h
      exact WP_sub (B_X7_ban_26 Q v0 M6 h) (by decide) (ls_s (ls_n (ls_n (ls_n (ls_n (ls_n (ls_n (ls_n (ls_n (ls_n ls_0))))))))))
/-! X7_lift -/
theorem d_X7_lift_0 : decode mX7_lift.2.1 0 = .ok (.aload_n 0, 1) := by decide +kernel
theorem d_X7_lift_1 : decode mX7_lift.2.1 1 = .ok (.iconst 0, 1) := by decide +kernel
theorem d_X7_lift_2 : decode mX7_lift.2.1 2 = .ok (.putfield 37, 3) := by decide +kernel
theorem d_X7_lift_5 : decode mX7_lift.2.1 5 = .ok (.aload_n 0, 1) := by decide +kernel
theorem d_X7_lift_6 : decode mX7_lift.2.1 6 = .ok (.invokevirtual 160, 3) := by decide +kernel
theorem d_X7_lift_9 : decode mX7_lift.2.1 9 = .ok (.iload_n 1, 1) := by decide +kernel
theorem d_X7_lift_10 : decode mX7_lift.2.1 10 = .ok (.iconst 0, 1) := by decide +kernel
theorem d_X7_lift_11 : decode mX7_lift.2.1 11 = .ok (.aload_n 0, 1) := by decide +kernel
theorem d_X7_lift_12 : decode mX7_lift.2.1 12 = .ok (.getfield 7, 3) := by decide +kernel
theorem d_X7_lift_15 : decode mX7_lift.2.1 15 = .ok (.iconst 5, 1) := by decide +kernel
theorem d_X7_lift_16 : decode mX7_lift.2.1 16 = .ok (.iaload, 1) := by decide +kernel
theorem d_X7_lift_17 : decode mX7_lift.2.1 17 = .ok (.iconst 1, 1) := by decide +kernel
theorem d_X7_lift_18 : decode mX7_lift.2.1 18 = .ok (.isub, 1) := by decide +kernel
theorem d_X7_lift_19 : decode mX7_lift.2.1 19 = .ok (.invokestatic 41, 3) := by decide +kernel
theorem d_X7_lift_22 : decode mX7_lift.2.1 22 = .ok (.ifCond .ne 9, 3) := by decide +kernel
theorem d_X7_lift_25 : decode mX7_lift.2.1 25 = .ok (.aload_n 0, 1) := by decide +kernel
theorem d_X7_lift_26 : decode mX7_lift.2.1 26 = .ok (.iconst 1, 1) := by decide +kernel
theorem d_X7_lift_27 : decode mX7_lift.2.1 27 = .ok (.invokevirtual 163, 3) := by decide +kernel
theorem d_X7_lift_30 : decode mX7_lift.2.1 30 = .ok (.ireturn, 1) := by decide +kernel
theorem d_X7_lift_31 : decode mX7_lift.2.1 31 = .ok (.iconst 5, 1) := by decide +kernel
theorem d_X7_lift_32 : decode mX7_lift.2.1 32 = .ok (.iload_n 1, 1) := by decide +kernel
theorem d_X7_lift_33 : decode mX7_lift.2.1 33 = .ok (.imul, 1) := by decide +kernel
theorem d_X7_lift_34 : decode mX7_lift.2.1 34 = .ok (.istore_n 2, 1) := by decide +kernel
theorem d_X7_lift_35 : decode mX7_lift.2.1 35 = .ok (.iload_n 2, 1) := by decide +kernel
theorem d_X7_lift_36 : decode mX7_lift.2.1 36 = .ok (.iconst 5, 1) := by decide +kernel
theorem d_X7_lift_37 : decode mX7_lift.2.1 37 = .ok (.aload_n 0, 1) := by decide +kernel
theorem d_X7_lift_38 : decode mX7_lift.2.1 38 = .ok (.getfield 7, 3) := by decide +kernel
theorem d_X7_lift_41 : decode mX7_lift.2.1 41 = .ok (.iconst 5, 1) := by decide +kernel
theorem d_X7_lift_42 : decode mX7_lift.2.1 42 = .ok (.iaload, 1) := by decide +kernel
theorem d_X7_lift_43 : decode mX7_lift.2.1 43 = .ok (.imul, 1) := by decide +kernel
theorem d_X7_lift_44 : decode mX7_lift.2.1 44 = .ok (.iconst 5, 1) := by decide +kernel
theorem d_X7_lift_45 : decode mX7_lift.2.1 45 = .ok (.isub, 1) := by decide +kernel
theorem d_X7_lift_46 : decode mX7_lift.2.1 46 = .ok (.if_icmp .ge 31, 3) := by decide +kernel
theorem d_X7_lift_49 : decode mX7_lift.2.1 49 = .ok (.aload_n 0, 1) := by decide +kernel
theorem d_X7_lift_50 : decode mX7_lift.2.1 50 = .ok (.getfield 7, 3) := by decide +kernel
theorem d_X7_lift_53 : decode mX7_lift.2.1 53 = .ok (.sipush 438, 3) := by decide +kernel
theorem d_X7_lift_56 : decode mX7_lift.2.1 56 = .ok (.iload_n 2, 1) := by decide +kernel
theorem d_X7_lift_57 : decode mX7_lift.2.1 57 = .ok (.iadd, 1) := by decide +kernel
theorem d_X7_lift_58 : decode mX7_lift.2.1 58 = .ok (.aload_n 0, 1) := by decide +kernel
theorem d_X7_lift_59 : decode mX7_lift.2.1 59 = .ok (.getfield 7, 3) := by decide +kernel
theorem d_X7_lift_62 : decode mX7_lift.2.1 62 = .ok (.sipush 438, 3) := by decide +kernel
theorem d_X7_lift_65 : decode mX7_lift.2.1 65 = .ok (.iload_n 2, 1) := by decide +kernel
theorem d_X7_lift_66 : decode mX7_lift.2.1 66 = .ok (.iadd, 1) := by decide +kernel
theorem d_X7_lift_67 : decode mX7_lift.2.1 67 = .ok (.iconst 5, 1) := by decide +kernel
theorem d_X7_lift_68 : decode mX7_lift.2.1 68 = .ok (.iadd, 1) := by decide +kernel
theorem d_X7_lift_69 : decode mX7_lift.2.1 69 = .ok (.iaload, 1) := by decide +kernel
theorem d_X7_lift_70 : decode mX7_lift.2.1 70 = .ok (.iastore, 1) := by decide +kernel
theorem d_X7_lift_71 : decode mX7_lift.2.1 71 = .ok (.iinc 2 1, 3) := by decide +kernel
theorem d_X7_lift_74 : decode mX7_lift.2.1 74 = .ok (.goto (-39), 3) := by decide +kernel
theorem d_X7_lift_77 : decode mX7_lift.2.1 77 = .ok (.aload_n 0, 1) := by decide +kernel
theorem d_X7_lift_78 : decode mX7_lift.2.1 78 = .ok (.getfield 7, 3) := by decide +kernel
theorem d_X7_lift_81 : decode mX7_lift.2.1 81 = .ok (.iconst 5, 1) := by decide +kernel
theorem d_X7_lift_82 : decode mX7_lift.2.1 82 = .ok (.dup2, 1) := by decide +kernel
theorem d_X7_lift_83 : decode mX7_lift.2.1 83 = .ok (.iaload, 1) := by decide +kernel
theorem d_X7_lift_84 : decode mX7_lift.2.1 84 = .ok (.iconst 1, 1) := by decide +kernel
theorem d_X7_lift_85 : decode mX7_lift.2.1 85 = .ok (.isub, 1) := by decide +kernel
theorem d_X7_lift_86 : decode mX7_lift.2.1 86 = .ok (.iastore, 1) := by decide +kernel
theorem d_X7_lift_87 : decode mX7_lift.2.1 87 = .ok (.aload_n 0, 1) := by decide +kernel
theorem d_X7_lift_88 : decode mX7_lift.2.1 88 = .ok (.invokevirtual 175, 3) := by decide +kernel
theorem d_X7_lift_91 : decode mX7_lift.2.1 91 = .ok (.istore_n 2, 1) := by decide +kernel
theorem d_X7_lift_92 : decode mX7_lift.2.1 92 = .ok (.aload_n 0, 1) := by decide +kernel
theorem d_X7_lift_93 : decode mX7_lift.2.1 93 = .ok (.invokevirtual 166, 3) := by decide +kernel
theorem d_X7_lift_96 : decode mX7_lift.2.1 96 = .ok (.iload_n 2, 1) := by decide +kernel
theorem d_X7_lift_97 : decode mX7_lift.2.1 97 = .ok (.ireturn, 1) := by decide +kernel
def T_X7_lift_35 (Q : Int32 → Mem → Prop) : Nat → Nat → Int32 → Mem → Prop
  | 0, _, _, _ => False
  | n + 1, v0, v2, M => (kd v0 = 7) ∧ (kd (rf v0 1) = 9) ∧ (vp_in 5 (ln (rf v0 1))) ∧ if ((5 * (M.1 (rf v0 1) (Int32.toNatClampNeg 5))) - 5) ≤ v2 then (∀ M4 : Mem, M4 = mset M (rf v0 1) (Int32.toNatClampNeg 5) ((M.1 (rf v0 1) (Int32.toNatClampNeg 5)) - 1) → T_X7_grants (fun y6 M5 => T_X7_keeps (fun M7 => Q y6 M7)  v0 M5)  v0 M4) else ((vp_in ((438 + v2) + 5) (ln (rf v0 1))) ∧ (vp_in (438 + v2) (ln (rf v0 1))) ∧ ∀ M10 : Mem, M10 = mset M (rf v0 1) (Int32.toNatClampNeg (438 + v2)) (M.1 (rf v0 1) (Int32.toNatClampNeg ((438 + v2) + 5))) → ∀ x11 : Int32, x11 = v2 + 1 → (T_X7_lift_35 Q n) v0 x11 M10)
set_option maxRecDepth 100000 in
set_option maxHeartbeats 4000000 in
theorem B_X7_lift_35 {g : GG} (Q : Int32 → Mem → Prop) : ∀ (n : Nat) (v0 : Nat) (v2 : Int32) (M : Mem), T_X7_lift_35 Q n v0 v2 M → WP g 18 mX7_lift 35 [some (.ref (g.1 + v0)), none, some (.int v2)] [] M 0 (oI Q noX) := by
  intro n
  induction n with
  | zero => intro v0 v2 M h; exact h.elim
  | succ n hκ35 =>
    intro v0 v2 M h
    unfold T_X7_lift_35 at h
    refine R_iload_n (pc := 35) d_X7_lift_35 rfl rfl ?_
    refine R_iconst (pc := 36) (v := 5) d_X7_lift_36 (by decide) ?_
    refine R_aload_n (pc := 37) d_X7_lift_37 rfl rfl ?_
    obtain ⟨k1, h⟩ := h
    refine R_getR (pc := 38) fld_RX7_7 rfl rfl k1 d_X7_lift_38 ?_
    refine R_iconst (pc := 41) (v := 5) d_X7_lift_41 (by decide) ?_
    obtain ⟨k2, h⟩ := h
    obtain ⟨k3, h⟩ := h
    refine R_iald (pc := 42) k2 k3 d_X7_lift_42 ?_
    refine R_imul (pc := 43) d_X7_lift_43 ?_
    refine R_iconst (pc := 44) (v := 5) d_X7_lift_44 (by decide) ?_
    refine R_isub (pc := 45) d_X7_lift_45 ?_
    refine R_icmp_ge (pc := 46) (tgt := 77) d_X7_lift_46 (by decide) (fun c => ?_) (fun c => ?_)
    · rw [if_pos c] at h
      refine R_aload_n (pc := 77) d_X7_lift_77 rfl rfl ?_
      refine R_getR (pc := 78) fld_RX7_7 rfl rfl k1 d_X7_lift_78 ?_
      refine R_iconst (pc := 81) (v := 5) d_X7_lift_81 (by decide) ?_
      refine R_dup2 (pc := 82) d_X7_lift_82 rfl rfl ?_
      refine R_iald (pc := 83) k2 k3 d_X7_lift_83 ?_
      refine R_iconst (pc := 84) (v := 1) d_X7_lift_84 (by decide) ?_
      refine R_isub (pc := 85) d_X7_lift_85 ?_
      refine R_iast (pc := 86) k2 k3 d_X7_lift_86 (N_M (fun M4 eM4 => ?_))
      have h := h M4 eM4
      refine R_aload_n (pc := 87) d_X7_lift_87 rfl rfl ?_
      refine R_callV (pc := 88) (As := []) (rest := []) (c_X7_grants (g := g) v0 M4 _ h) rfl rfl cal_RX7_175 ins_X7_grants sel_X7_grants (cls_at k1 clsOK7) (by decide) (by decide) rfl rfl (Nat.le_of_ble_eq_true rfl) d_X7_lift_88 (k_I (fun y6 M5 h => ?_)) (fun _ _ h9 => False.elim h9)
      try dsimp only at h
      refine R_istore_n (pc := 91) (L' := [some (.ref (g.1 + v0)), none, some (.int y6)]) d_X7_lift_91 rfl (by decide) rfl ?_
      refine R_aload_n (pc := 92) d_X7_lift_92 rfl rfl ?_
      refine R_callV (pc := 93) (As := []) (rest := []) (c_X7_keeps (g := g) v0 M5 _ h) rfl rfl cal_RX7_166 ins_X7_keeps sel_X7_keeps (cls_at k1 clsOK7) (by decide) (by decide) rfl rfl (Nat.le_of_ble_eq_true rfl) d_X7_lift_93 (k_V (fun M7 h => ?_)) (fun _ _ h9 => False.elim h9)
      try dsimp only at h
      refine R_iload_n (pc := 96) d_X7_lift_96 rfl rfl ?_
      exact R_retv (pc := 97) d_X7_lift_97 h
    · rw [if_neg c] at h
      refine R_aload_n (pc := 49) d_X7_lift_49 rfl rfl ?_
      refine R_getR (pc := 50) fld_RX7_7 rfl rfl k1 d_X7_lift_50 ?_
      refine R_sipush (pc := 53) (v := 438) d_X7_lift_53 (by decide) ?_
      refine R_iload_n (pc := 56) d_X7_lift_56 rfl rfl ?_
      refine R_iadd (pc := 57) d_X7_lift_57 ?_
      refine R_aload_n (pc := 58) d_X7_lift_58 rfl rfl ?_
      refine R_getR (pc := 59) fld_RX7_7 rfl rfl k1 d_X7_lift_59 ?_
      refine R_sipush (pc := 62) (v := 438) d_X7_lift_62 (by decide) ?_
      refine R_iload_n (pc := 65) d_X7_lift_65 rfl rfl ?_
      refine R_iadd (pc := 66) d_X7_lift_66 ?_
      refine R_iconst (pc := 67) (v := 5) d_X7_lift_67 (by decide) ?_
      refine R_iadd (pc := 68) d_X7_lift_68 ?_
      obtain ⟨k8, h⟩ := h
      refine R_iald (pc := 69) k2 k8 d_X7_lift_69 ?_
      obtain ⟨k9, h⟩ := h
      refine R_iast (pc := 70) k2 k9 d_X7_lift_70 (N_M (fun M10 eM10 => ?_))
      have h := h M10 eM10
      obtain ⟨x11, ex11⟩ : ∃ z : Int32, z = v2 + 1 := ⟨_, rfl⟩
      have h := h x11 ex11
      refine R_iinc (pc := 71) (v := x11) (L' := [some (.ref (g.1 + v0)), none, some (.int x11)]) d_X7_lift_71 rfl (by rw [ex11]; rfl) (by decide) rfl ?_
      refine R_goto (pc := 74) (tgt := 35) d_X7_lift_74 (by decide) ?_
      exact WP_sub (hκ35 v0 x11 M10 h) (by decide) (ls_s (ls_n (ls_s ls_0)))
def T_X7_lift (Q : Int32 → Mem → Prop) (v0 : Nat) (v1 : Int32) (M : Mem) : Prop := (kd v0 = 7) ∧ ∀ M2 : Mem, M2 = mset M v0 0 0 → T_X7_remembers (fun M3 => (kd (rf v0 1) = 9) ∧ (vp_in 5 (ln (rf v0 1))) ∧ T_X7_in (fun y7 M6 => if y7 = 0 then (T_X7_fails (fun y10 M9 => Q y10 M9)  v0 1 M6) else (∀ x8 : Int32, x8 = 5 * v1 → (∃ N : Nat, T_X7_lift_35 Q N v0 x8 M6)))  v1 0 ((M3.1 (rf v0 1) (Int32.toNatClampNeg 5)) - 1) M3)  v0 M2
set_option maxRecDepth 100000 in
set_option maxHeartbeats 4000000 in
theorem c_X7_lift {g : GG} (v0 : Nat) (v1 : Int32) (M : Mem) (Q : Int32 → Mem → Prop) (h : T_X7_lift Q v0 v1 M) : CT g 18 mX7_lift [.ref (g.1 + v0), .int v1] M 0 (oI Q noX) := by
  refine CT_of (L := [some (.ref (g.1 + v0)), some (.int v1), none]) (by decide) rfl (Nat.le_of_ble_eq_true rfl) (ro_I rfl) rfl ?_
  unfold T_X7_lift at h
  refine R_aload_n (pc := 0) d_X7_lift_0 rfl rfl ?_
  refine R_iconst (pc := 1) (v := 0) d_X7_lift_1 (by decide) ?_
  obtain ⟨k1, h⟩ := h
  refine R_putI (pc := 2) fld_RX7_37 rfl rfl rfl k1 rfl rfl d_X7_lift_2 (N_M (fun M2 eM2 => ?_))
  have h := h M2 eM2
  refine R_aload_n (pc := 5) d_X7_lift_5 rfl rfl ?_
  refine R_callV (pc := 6) (As := []) (rest := []) (c_X7_remembers (g := g) v0 M2 _ h) rfl rfl cal_RX7_160 ins_X7_remembers sel_X7_remembers (cls_at k1 clsOK7) (by decide) (by decide) rfl rfl (Nat.le_of_ble_eq_true rfl) d_X7_lift_6 (k_V (fun M3 h => ?_)) (fun _ _ h9 => False.elim h9)
  try dsimp only at h
  refine R_iload_n (pc := 9) d_X7_lift_9 rfl rfl ?_
  refine R_iconst (pc := 10) (v := 0) d_X7_lift_10 (by decide) ?_
  refine R_aload_n (pc := 11) d_X7_lift_11 rfl rfl ?_
  refine R_getR (pc := 12) fld_RX7_7 rfl rfl k1 d_X7_lift_12 ?_
  refine R_iconst (pc := 15) (v := 5) d_X7_lift_15 (by decide) ?_
  obtain ⟨k4, h⟩ := h
  obtain ⟨k5, h⟩ := h
  refine R_iald (pc := 16) k4 k5 d_X7_lift_16 ?_
  refine R_iconst (pc := 17) (v := 1) d_X7_lift_17 (by decide) ?_
  refine R_isub (pc := 18) d_X7_lift_18 ?_
  refine R_callS (pc := 19) (As := [.int v1, .int 0, .int ((M3.1 (rf v0 1) (Int32.toNatClampNeg 5)) - 1)]) (rest := []) (c_X7_in (g := g) v1 0 ((M3.1 (rf v0 1) (Int32.toNatClampNeg 5)) - 1) M3 _ h) rfl rfl cal_RX7_41 sta_X7_in (by decide) (by decide) rfl rfl (Nat.le_of_ble_eq_true rfl) d_X7_lift_19 (k_Z (fun y7 M6 h => ?_)) (fun _ _ h9 => False.elim h9)
  try dsimp only at h
  refine R_if_ne (pc := 22) (tgt := 31) d_X7_lift_22 (by decide) (fun c => ?_) (fun c => ?_)
  · rw [if_neg c] at h
    refine R_iconst (pc := 31) (v := 5) d_X7_lift_31 (by decide) ?_
    refine R_iload_n (pc := 32) d_X7_lift_32 rfl rfl ?_
    refine R_imul (pc := 33) d_X7_lift_33 ?_
    refine N_i (fun x8 ex8 => ?_)
    have h := h x8 ex8
    refine R_istore_n (pc := 34) (L' := [some (.ref (g.1 + v0)), some (.int v1), some (.int x8)]) d_X7_lift_34 rfl (by decide) rfl ?_
    obtain ⟨N, h⟩ := h
    exact WP_sub (B_X7_lift_35 Q N v0 x8 M6 h) (by decide) (ls_s (ls_n (ls_s ls_0)))
  · rw [if_pos c] at h
    refine R_aload_n (pc := 25) d_X7_lift_25 rfl rfl ?_
    refine R_iconst (pc := 26) (v := 1) d_X7_lift_26 (by decide) ?_
    refine R_callV (pc := 27) (As := [.int 1]) (rest := []) (c_X7_fails (g := g) v0 1 M6 _ h) rfl rfl cal_RX7_163 ins_X7_fails sel_X7_fails (cls_at k1 clsOK7) (by decide) (by decide) rfl rfl (Nat.le_of_ble_eq_true rfl) d_X7_lift_27 (k_I (fun y10 M9 h => ?_)) (fun _ _ h9 => False.elim h9)
    try dsimp only at h
    exact R_retv (pc := 30) d_X7_lift_30 h
/-! X7_banned -/
theorem d_X7_banned_0 : decode mX7_banned.2.1 0 = .ok (.aload_n 0, 1) := by decide +kernel
theorem d_X7_banned_1 : decode mX7_banned.2.1 1 = .ok (.iconst 0, 1) := by decide +kernel
theorem d_X7_banned_2 : decode mX7_banned.2.1 2 = .ok (.putfield 37, 3) := by decide +kernel
theorem d_X7_banned_5 : decode mX7_banned.2.1 5 = .ok (.iload_n 1, 1) := by decide +kernel
theorem d_X7_banned_6 : decode mX7_banned.2.1 6 = .ok (.iconst 0, 1) := by decide +kernel
theorem d_X7_banned_7 : decode mX7_banned.2.1 7 = .ok (.aload_n 0, 1) := by decide +kernel
theorem d_X7_banned_8 : decode mX7_banned.2.1 8 = .ok (.getfield 7, 3) := by decide +kernel
theorem d_X7_banned_11 : decode mX7_banned.2.1 11 = .ok (.iconst 5, 1) := by decide +kernel
theorem d_X7_banned_12 : decode mX7_banned.2.1 12 = .ok (.iaload, 1) := by decide +kernel
theorem d_X7_banned_13 : decode mX7_banned.2.1 13 = .ok (.iconst 1, 1) := by decide +kernel
theorem d_X7_banned_14 : decode mX7_banned.2.1 14 = .ok (.isub, 1) := by decide +kernel
theorem d_X7_banned_15 : decode mX7_banned.2.1 15 = .ok (.invokestatic 41, 3) := by decide +kernel
theorem d_X7_banned_18 : decode mX7_banned.2.1 18 = .ok (.ifCond .ne 9, 3) := by decide +kernel
theorem d_X7_banned_21 : decode mX7_banned.2.1 21 = .ok (.aload_n 0, 1) := by decide +kernel
theorem d_X7_banned_22 : decode mX7_banned.2.1 22 = .ok (.iconst 1, 1) := by decide +kernel
theorem d_X7_banned_23 : decode mX7_banned.2.1 23 = .ok (.invokevirtual 163, 3) := by decide +kernel
theorem d_X7_banned_26 : decode mX7_banned.2.1 26 = .ok (.ireturn, 1) := by decide +kernel
theorem d_X7_banned_27 : decode mX7_banned.2.1 27 = .ok (.iload_n 2, 1) := by decide +kernel
theorem d_X7_banned_28 : decode mX7_banned.2.1 28 = .ok (.iconst 0, 1) := by decide +kernel
theorem d_X7_banned_29 : decode mX7_banned.2.1 29 = .ok (.iconst 4, 1) := by decide +kernel
theorem d_X7_banned_30 : decode mX7_banned.2.1 30 = .ok (.invokestatic 41, 3) := by decide +kernel
theorem d_X7_banned_33 : decode mX7_banned.2.1 33 = .ok (.ifCond .eq 20, 3) := by decide +kernel
theorem d_X7_banned_36 : decode mX7_banned.2.1 36 = .ok (.aload_n 0, 1) := by decide +kernel
theorem d_X7_banned_37 : decode mX7_banned.2.1 37 = .ok (.getfield 7, 3) := by decide +kernel
theorem d_X7_banned_40 : decode mX7_banned.2.1 40 = .ok (.sipush 438, 3) := by decide +kernel
theorem d_X7_banned_43 : decode mX7_banned.2.1 43 = .ok (.iconst 5, 1) := by decide +kernel
theorem d_X7_banned_44 : decode mX7_banned.2.1 44 = .ok (.iload_n 1, 1) := by decide +kernel
theorem d_X7_banned_45 : decode mX7_banned.2.1 45 = .ok (.imul, 1) := by decide +kernel
theorem d_X7_banned_46 : decode mX7_banned.2.1 46 = .ok (.iadd, 1) := by decide +kernel
theorem d_X7_banned_47 : decode mX7_banned.2.1 47 = .ok (.iload_n 2, 1) := by decide +kernel
theorem d_X7_banned_48 : decode mX7_banned.2.1 48 = .ok (.iadd, 1) := by decide +kernel
theorem d_X7_banned_49 : decode mX7_banned.2.1 49 = .ok (.iaload, 1) := by decide +kernel
theorem d_X7_banned_50 : decode mX7_banned.2.1 50 = .ok (.goto 8, 3) := by decide +kernel
theorem d_X7_banned_53 : decode mX7_banned.2.1 53 = .ok (.aload_n 0, 1) := by decide +kernel
theorem d_X7_banned_54 : decode mX7_banned.2.1 54 = .ok (.iconst 2, 1) := by decide +kernel
theorem d_X7_banned_55 : decode mX7_banned.2.1 55 = .ok (.invokevirtual 163, 3) := by decide +kernel
theorem d_X7_banned_58 : decode mX7_banned.2.1 58 = .ok (.ireturn, 1) := by decide +kernel
def T_X7_banned_58 (Q : Int32 → Mem → Prop) (s0 : Int32) (M : Mem) : Prop := Q s0 M
set_option maxRecDepth 100000 in
set_option maxHeartbeats 4000000 in
theorem B_X7_banned_58 {g : GG} (Q : Int32 → Mem → Prop) (s0 : Int32) (M : Mem) (h : T_X7_banned_58 Q s0 M) : WP g 10 mX7_banned 58 [none, none, none] [.int s0] M 0 (oI Q noX) := by
  unfold T_X7_banned_58 at h
  exact R_retv (pc := 58) d_X7_banned_58 h
def T_X7_banned (Q : Int32 → Mem → Prop) (v0 : Nat) (v1 : Int32) (v2 : Int32) (M : Mem) : Prop := (kd v0 = 7) ∧ ∀ M2 : Mem, M2 = mset M v0 0 0 → (kd (rf v0 1) = 9) ∧ (vp_in 5 (ln (rf v0 1))) ∧ T_X7_in (fun y6 M5 => if y6 = 0 then (T_X7_fails (fun y13 M12 => Q y13 M12)  v0 1 M5) else (T_X7_in (fun y8 M7 => if y8 = 0 then (T_X7_fails (fun y10 M9 => T_X7_banned_58 Q y10 M9)  v0 2 M7) else ((vp_in ((438 + (5 * v1)) + v2) (ln (rf v0 1))) ∧ T_X7_banned_58 Q (M7.1 (rf v0 1) (Int32.toNatClampNeg ((438 + (5 * v1)) + v2))) M7))  v2 0 4 M5))  v1 0 ((M2.1 (rf v0 1) (Int32.toNatClampNeg 5)) - 1) M2
set_option maxRecDepth 100000 in
set_option maxHeartbeats 4000000 in
theorem c_X7_banned {g : GG} (v0 : Nat) (v1 : Int32) (v2 : Int32) (M : Mem) (Q : Int32 → Mem → Prop) (h : T_X7_banned Q v0 v1 v2 M) : CT g 10 mX7_banned [.ref (g.1 + v0), .int v1, .int v2] M 0 (oI Q noX) := by
  refine CT_of (L := [some (.ref (g.1 + v0)), some (.int v1), some (.int v2)]) (by decide) rfl (Nat.le_of_ble_eq_true rfl) (ro_I rfl) rfl ?_
  unfold T_X7_banned at h
  refine R_aload_n (pc := 0) d_X7_banned_0 rfl rfl ?_
  refine R_iconst (pc := 1) (v := 0) d_X7_banned_1 (by decide) ?_
  obtain ⟨k1, h⟩ := h
  refine R_putI (pc := 2) fld_RX7_37 rfl rfl rfl k1 rfl rfl d_X7_banned_2 (N_M (fun M2 eM2 => ?_))
  have h := h M2 eM2
  refine R_iload_n (pc := 5) d_X7_banned_5 rfl rfl ?_
  refine R_iconst (pc := 6) (v := 0) d_X7_banned_6 (by decide) ?_
  refine R_aload_n (pc := 7) d_X7_banned_7 rfl rfl ?_
  refine R_getR (pc := 8) fld_RX7_7 rfl rfl k1 d_X7_banned_8 ?_
  refine R_iconst (pc := 11) (v := 5) d_X7_banned_11 (by decide) ?_
  obtain ⟨k3, h⟩ := h
  obtain ⟨k4, h⟩ := h
  refine R_iald (pc := 12) k3 k4 d_X7_banned_12 ?_
  refine R_iconst (pc := 13) (v := 1) d_X7_banned_13 (by decide) ?_
  refine R_isub (pc := 14) d_X7_banned_14 ?_
  refine R_callS (pc := 15) (As := [.int v1, .int 0, .int ((M2.1 (rf v0 1) (Int32.toNatClampNeg 5)) - 1)]) (rest := []) (c_X7_in (g := g) v1 0 ((M2.1 (rf v0 1) (Int32.toNatClampNeg 5)) - 1) M2 _ h) rfl rfl cal_RX7_41 sta_X7_in (by decide) (by decide) rfl rfl (Nat.le_of_ble_eq_true rfl) d_X7_banned_15 (k_Z (fun y6 M5 h => ?_)) (fun _ _ h9 => False.elim h9)
  try dsimp only at h
  refine R_if_ne (pc := 18) (tgt := 27) d_X7_banned_18 (by decide) (fun c => ?_) (fun c => ?_)
  · rw [if_neg c] at h
    refine R_iload_n (pc := 27) d_X7_banned_27 rfl rfl ?_
    refine R_iconst (pc := 28) (v := 0) d_X7_banned_28 (by decide) ?_
    refine R_iconst (pc := 29) (v := 4) d_X7_banned_29 (by decide) ?_
    refine R_callS (pc := 30) (As := [.int v2, .int 0, .int 4]) (rest := []) (c_X7_in (g := g) v2 0 4 M5 _ h) rfl rfl cal_RX7_41 sta_X7_in (by decide) (by decide) rfl rfl (Nat.le_of_ble_eq_true rfl) d_X7_banned_30 (k_Z (fun y8 M7 h => ?_)) (fun _ _ h9 => False.elim h9)
    try dsimp only at h
    refine R_if_eq (pc := 33) (tgt := 53) d_X7_banned_33 (by decide) (fun c => ?_) (fun c => ?_)
    · rw [if_pos c] at h
      refine R_aload_n (pc := 53) d_X7_banned_53 rfl rfl ?_
      refine R_iconst (pc := 54) (v := 2) d_X7_banned_54 (by decide) ?_
      refine R_callV (pc := 55) (As := [.int 2]) (rest := []) (c_X7_fails (g := g) v0 2 M7 _ h) rfl rfl cal_RX7_163 ins_X7_fails sel_X7_fails (cls_at k1 clsOK7) (by decide) (by decide) rfl rfl (Nat.le_of_ble_eq_true rfl) d_X7_banned_55 (k_I (fun y10 M9 h => ?_)) (fun _ _ h9 => False.elim h9)
      try dsimp only at h
      exact WP_sub (B_X7_banned_58 Q y10 M9 h) (by decide) (ls_n (ls_n (ls_n ls_0)))
    · rw [if_neg c] at h
      refine R_aload_n (pc := 36) d_X7_banned_36 rfl rfl ?_
      refine R_getR (pc := 37) fld_RX7_7 rfl rfl k1 d_X7_banned_37 ?_
      refine R_sipush (pc := 40) (v := 438) d_X7_banned_40 (by decide) ?_
      refine R_iconst (pc := 43) (v := 5) d_X7_banned_43 (by decide) ?_
      refine R_iload_n (pc := 44) d_X7_banned_44 rfl rfl ?_
      refine R_imul (pc := 45) d_X7_banned_45 ?_
      refine R_iadd (pc := 46) d_X7_banned_46 ?_
      refine R_iload_n (pc := 47) d_X7_banned_47 rfl rfl ?_
      refine R_iadd (pc := 48) d_X7_banned_48 ?_
      obtain ⟨k11, h⟩ := h
      refine R_iald (pc := 49) k3 k11 d_X7_banned_49 ?_
      refine R_goto (pc := 50) (tgt := 58) d_X7_banned_50 (by decide) ?_
      exact WP_sub (B_X7_banned_58 Q (M7.1 (rf v0 1) (Int32.toNatClampNeg ((438 + (5 * v1)) + v2))) M7 h) (by decide) (ls_n (ls_n (ls_n ls_0)))
  · rw [if_pos c] at h
    refine R_aload_n (pc := 21) d_X7_banned_21 rfl rfl ?_
    refine R_iconst (pc := 22) (v := 1) d_X7_banned_22 (by decide) ?_
    refine R_callV (pc := 23) (As := [.int 1]) (rest := []) (c_X7_fails (g := g) v0 1 M5 _ h) rfl rfl cal_RX7_163 ins_X7_fails sel_X7_fails (cls_at k1 clsOK7) (by decide) (by decide) rfl rfl (Nat.le_of_ble_eq_true rfl) d_X7_banned_23 (k_I (fun y13 M12 h => ?_)) (fun _ _ h9 => False.elim h9)
    try dsimp only at h
    exact R_retv (pc := 26) d_X7_banned_26 h
/-! X7_wish -/
theorem d_X7_wish_0 : decode mX7_wish.2.1 0 = .ok (.aload_n 0, 1) := by decide +kernel
theorem d_X7_wish_1 : decode mX7_wish.2.1 1 = .ok (.iconst 0, 1) := by decide +kernel
theorem d_X7_wish_2 : decode mX7_wish.2.1 2 = .ok (.putfield 37, 3) := by decide +kernel
theorem d_X7_wish_5 : decode mX7_wish.2.1 5 = .ok (.aload_n 0, 1) := by decide +kernel
theorem d_X7_wish_6 : decode mX7_wish.2.1 6 = .ok (.invokevirtual 160, 3) := by decide +kernel
theorem d_X7_wish_9 : decode mX7_wish.2.1 9 = .ok (.aload_n 0, 1) := by decide +kernel
theorem d_X7_wish_10 : decode mX7_wish.2.1 10 = .ok (.iload_n 1, 1) := by decide +kernel
theorem d_X7_wish_11 : decode mX7_wish.2.1 11 = .ok (.invokevirtual 179, 3) := by decide +kernel
theorem d_X7_wish_14 : decode mX7_wish.2.1 14 = .ok (.ifCond .ne 9, 3) := by decide +kernel
theorem d_X7_wish_17 : decode mX7_wish.2.1 17 = .ok (.aload_n 0, 1) := by decide +kernel
theorem d_X7_wish_18 : decode mX7_wish.2.1 18 = .ok (.iconst 1, 1) := by decide +kernel
theorem d_X7_wish_19 : decode mX7_wish.2.1 19 = .ok (.invokevirtual 163, 3) := by decide +kernel
theorem d_X7_wish_22 : decode mX7_wish.2.1 22 = .ok (.ireturn, 1) := by decide +kernel
theorem d_X7_wish_23 : decode mX7_wish.2.1 23 = .ok (.aload_n 0, 1) := by decide +kernel
theorem d_X7_wish_24 : decode mX7_wish.2.1 24 = .ok (.iload_n 2, 1) := by decide +kernel
theorem d_X7_wish_25 : decode mX7_wish.2.1 25 = .ok (.invokevirtual 194, 3) := by decide +kernel
theorem d_X7_wish_28 : decode mX7_wish.2.1 28 = .ok (.ifCond .eq 31, 3) := by decide +kernel
theorem d_X7_wish_31 : decode mX7_wish.2.1 31 = .ok (.iload_n 3, 1) := by decide +kernel
theorem d_X7_wish_32 : decode mX7_wish.2.1 32 = .ok (.iconst 0, 1) := by decide +kernel
theorem d_X7_wish_33 : decode mX7_wish.2.1 33 = .ok (.iload 4, 2) := by decide +kernel
theorem d_X7_wish_35 : decode mX7_wish.2.1 35 = .ok (.invokestatic 41, 3) := by decide +kernel
theorem d_X7_wish_38 : decode mX7_wish.2.1 38 = .ok (.ifCond .eq 21, 3) := by decide +kernel
theorem d_X7_wish_41 : decode mX7_wish.2.1 41 = .ok (.iload 4, 2) := by decide +kernel
theorem d_X7_wish_43 : decode mX7_wish.2.1 43 = .ok (.bipush 55, 2) := by decide +kernel
theorem d_X7_wish_45 : decode mX7_wish.2.1 45 = .ok (.if_icmp .gt 14, 3) := by decide +kernel
theorem d_X7_wish_48 : decode mX7_wish.2.1 48 = .ok (.iload 4, 2) := by decide +kernel
theorem d_X7_wish_50 : decode mX7_wish.2.1 50 = .ok (.aload_n 0, 1) := by decide +kernel
theorem d_X7_wish_51 : decode mX7_wish.2.1 51 = .ok (.getfield 7, 3) := by decide +kernel
theorem d_X7_wish_54 : decode mX7_wish.2.1 54 = .ok (.iconst 0, 1) := by decide +kernel
theorem d_X7_wish_55 : decode mX7_wish.2.1 55 = .ok (.iaload, 1) := by decide +kernel
theorem d_X7_wish_56 : decode mX7_wish.2.1 56 = .ok (.if_icmp .ge 9, 3) := by decide +kernel
theorem d_X7_wish_59 : decode mX7_wish.2.1 59 = .ok (.aload_n 0, 1) := by decide +kernel
theorem d_X7_wish_60 : decode mX7_wish.2.1 60 = .ok (.iconst 2, 1) := by decide +kernel
theorem d_X7_wish_61 : decode mX7_wish.2.1 61 = .ok (.invokevirtual 163, 3) := by decide +kernel
theorem d_X7_wish_64 : decode mX7_wish.2.1 64 = .ok (.ireturn, 1) := by decide +kernel
theorem d_X7_wish_65 : decode mX7_wish.2.1 65 = .ok (.aload_n 0, 1) := by decide +kernel
theorem d_X7_wish_66 : decode mX7_wish.2.1 66 = .ok (.getfield 7, 3) := by decide +kernel
theorem d_X7_wish_69 : decode mX7_wish.2.1 69 = .ok (.bipush 6, 2) := by decide +kernel
theorem d_X7_wish_71 : decode mX7_wish.2.1 71 = .ok (.iaload, 1) := by decide +kernel
theorem d_X7_wish_72 : decode mX7_wish.2.1 72 = .ok (.bipush 6, 2) := by decide +kernel
theorem d_X7_wish_74 : decode mX7_wish.2.1 74 = .ok (.if_icmp .ne 9, 3) := by decide +kernel
theorem d_X7_wish_77 : decode mX7_wish.2.1 77 = .ok (.aload_n 0, 1) := by decide +kernel
theorem d_X7_wish_78 : decode mX7_wish.2.1 78 = .ok (.iconst 3, 1) := by decide +kernel
theorem d_X7_wish_79 : decode mX7_wish.2.1 79 = .ok (.invokevirtual 163, 3) := by decide +kernel
theorem d_X7_wish_82 : decode mX7_wish.2.1 82 = .ok (.ireturn, 1) := by decide +kernel
theorem d_X7_wish_83 : decode mX7_wish.2.1 83 = .ok (.sipush 488, 3) := by decide +kernel
theorem d_X7_wish_86 : decode mX7_wish.2.1 86 = .ok (.iconst 4, 1) := by decide +kernel
theorem d_X7_wish_87 : decode mX7_wish.2.1 87 = .ok (.aload_n 0, 1) := by decide +kernel
theorem d_X7_wish_88 : decode mX7_wish.2.1 88 = .ok (.getfield 7, 3) := by decide +kernel
theorem d_X7_wish_91 : decode mX7_wish.2.1 91 = .ok (.bipush 6, 2) := by decide +kernel
theorem d_X7_wish_93 : decode mX7_wish.2.1 93 = .ok (.iaload, 1) := by decide +kernel
theorem d_X7_wish_94 : decode mX7_wish.2.1 94 = .ok (.imul, 1) := by decide +kernel
theorem d_X7_wish_95 : decode mX7_wish.2.1 95 = .ok (.iadd, 1) := by decide +kernel
theorem d_X7_wish_96 : decode mX7_wish.2.1 96 = .ok (.istore 5, 2) := by decide +kernel
theorem d_X7_wish_98 : decode mX7_wish.2.1 98 = .ok (.aload_n 0, 1) := by decide +kernel
theorem d_X7_wish_99 : decode mX7_wish.2.1 99 = .ok (.getfield 7, 3) := by decide +kernel
theorem d_X7_wish_102 : decode mX7_wish.2.1 102 = .ok (.iload 5, 2) := by decide +kernel
theorem d_X7_wish_104 : decode mX7_wish.2.1 104 = .ok (.iload_n 1, 1) := by decide +kernel
theorem d_X7_wish_105 : decode mX7_wish.2.1 105 = .ok (.iastore, 1) := by decide +kernel
theorem d_X7_wish_106 : decode mX7_wish.2.1 106 = .ok (.aload_n 0, 1) := by decide +kernel
theorem d_X7_wish_107 : decode mX7_wish.2.1 107 = .ok (.getfield 7, 3) := by decide +kernel
theorem d_X7_wish_110 : decode mX7_wish.2.1 110 = .ok (.iload 5, 2) := by decide +kernel
theorem d_X7_wish_112 : decode mX7_wish.2.1 112 = .ok (.iconst 1, 1) := by decide +kernel
theorem d_X7_wish_113 : decode mX7_wish.2.1 113 = .ok (.iadd, 1) := by decide +kernel
theorem d_X7_wish_114 : decode mX7_wish.2.1 114 = .ok (.iload_n 2, 1) := by decide +kernel
theorem d_X7_wish_115 : decode mX7_wish.2.1 115 = .ok (.iastore, 1) := by decide +kernel
theorem d_X7_wish_116 : decode mX7_wish.2.1 116 = .ok (.aload_n 0, 1) := by decide +kernel
theorem d_X7_wish_117 : decode mX7_wish.2.1 117 = .ok (.getfield 7, 3) := by decide +kernel
theorem d_X7_wish_120 : decode mX7_wish.2.1 120 = .ok (.iload 5, 2) := by decide +kernel
theorem d_X7_wish_122 : decode mX7_wish.2.1 122 = .ok (.iconst 2, 1) := by decide +kernel
theorem d_X7_wish_123 : decode mX7_wish.2.1 123 = .ok (.iadd, 1) := by decide +kernel
theorem d_X7_wish_124 : decode mX7_wish.2.1 124 = .ok (.iload_n 3, 1) := by decide +kernel
theorem d_X7_wish_125 : decode mX7_wish.2.1 125 = .ok (.iastore, 1) := by decide +kernel
theorem d_X7_wish_126 : decode mX7_wish.2.1 126 = .ok (.aload_n 0, 1) := by decide +kernel
theorem d_X7_wish_127 : decode mX7_wish.2.1 127 = .ok (.getfield 7, 3) := by decide +kernel
theorem d_X7_wish_130 : decode mX7_wish.2.1 130 = .ok (.iload 5, 2) := by decide +kernel
theorem d_X7_wish_132 : decode mX7_wish.2.1 132 = .ok (.iconst 3, 1) := by decide +kernel
theorem d_X7_wish_133 : decode mX7_wish.2.1 133 = .ok (.iadd, 1) := by decide +kernel
theorem d_X7_wish_134 : decode mX7_wish.2.1 134 = .ok (.iload 4, 2) := by decide +kernel
theorem d_X7_wish_136 : decode mX7_wish.2.1 136 = .ok (.iastore, 1) := by decide +kernel
theorem d_X7_wish_137 : decode mX7_wish.2.1 137 = .ok (.aload_n 0, 1) := by decide +kernel
theorem d_X7_wish_138 : decode mX7_wish.2.1 138 = .ok (.getfield 7, 3) := by decide +kernel
theorem d_X7_wish_141 : decode mX7_wish.2.1 141 = .ok (.bipush 6, 2) := by decide +kernel
theorem d_X7_wish_143 : decode mX7_wish.2.1 143 = .ok (.dup2, 1) := by decide +kernel
theorem d_X7_wish_144 : decode mX7_wish.2.1 144 = .ok (.iaload, 1) := by decide +kernel
theorem d_X7_wish_145 : decode mX7_wish.2.1 145 = .ok (.iconst 1, 1) := by decide +kernel
theorem d_X7_wish_146 : decode mX7_wish.2.1 146 = .ok (.iadd, 1) := by decide +kernel
theorem d_X7_wish_147 : decode mX7_wish.2.1 147 = .ok (.iastore, 1) := by decide +kernel
theorem d_X7_wish_148 : decode mX7_wish.2.1 148 = .ok (.aload_n 0, 1) := by decide +kernel
theorem d_X7_wish_149 : decode mX7_wish.2.1 149 = .ok (.invokevirtual 166, 3) := by decide +kernel
theorem d_X7_wish_152 : decode mX7_wish.2.1 152 = .ok (.aload_n 0, 1) := by decide +kernel
theorem d_X7_wish_153 : decode mX7_wish.2.1 153 = .ok (.getfield 7, 3) := by decide +kernel
theorem d_X7_wish_156 : decode mX7_wish.2.1 156 = .ok (.bipush 6, 2) := by decide +kernel
theorem d_X7_wish_158 : decode mX7_wish.2.1 158 = .ok (.iaload, 1) := by decide +kernel
theorem d_X7_wish_159 : decode mX7_wish.2.1 159 = .ok (.ireturn, 1) := by decide +kernel
def T_X7_wish_59 (Q : Int32 → Mem → Prop) (v0 : Nat) (M : Mem) : Prop := (kd v0 = 7) ∧ T_X7_fails (fun y3 M2 => Q y3 M2)  v0 2 M
set_option maxRecDepth 100000 in
set_option maxHeartbeats 4000000 in
theorem B_X7_wish_59 {g : GG} (Q : Int32 → Mem → Prop) (v0 : Nat) (M : Mem) (h : T_X7_wish_59 Q v0 M) : WP g 11 mX7_wish 59 [some (.ref (g.1 + v0)), none, none, none, none, none] [] M 0 (oI Q noX) := by
  unfold T_X7_wish_59 at h
  refine R_aload_n (pc := 59) d_X7_wish_59 rfl rfl ?_
  refine R_iconst (pc := 60) (v := 2) d_X7_wish_60 (by decide) ?_
  obtain ⟨k1, h⟩ := h
  refine R_callV (pc := 61) (As := [.int 2]) (rest := []) (c_X7_fails (g := g) v0 2 M _ h) rfl rfl cal_RX7_163 ins_X7_fails sel_X7_fails (cls_at k1 clsOK7) (by decide) (by decide) rfl rfl (Nat.le_of_ble_eq_true rfl) d_X7_wish_61 (k_I (fun y3 M2 h => ?_)) (fun _ _ h9 => False.elim h9)
  try dsimp only at h
  exact R_retv (pc := 64) d_X7_wish_64 h
def T_X7_wish (Q : Int32 → Mem → Prop) (v0 : Nat) (v1 : Int32) (v2 : Int32) (v3 : Int32) (v4 : Int32) (M : Mem) : Prop := (kd v0 = 7) ∧ ∀ M2 : Mem, M2 = mset M v0 0 0 → T_X7_remembers (fun M3 => T_X7_isInmate (fun y5 M4 => if y5 = 0 then (T_X7_fails (fun y27 M26 => Q y27 M26)  v0 1 M4) else (T_X7_areVisitors (fun y7 M6 => if y7 = 0 then (T_X7_wish_59 Q v0 M6) else (T_X7_in (fun y9 M8 => if y9 = 0 then (T_X7_wish_59 Q v0 M8) else (if (55 : Int32) < v4 then (T_X7_wish_59 Q v0 M8) else ((kd (rf v0 1) = 9) ∧ (vp_in 0 (ln (rf v0 1))) ∧ if (M8.1 (rf v0 1) (Int32.toNatClampNeg 0)) ≤ v4 then ((vp_in 6 (ln (rf v0 1))) ∧ if (M8.1 (rf v0 1) (Int32.toNatClampNeg 6)) = (6 : Int32) then (T_X7_fails (fun y25 M24 => Q y25 M24)  v0 3 M8) else (∀ x13 : Int32, x13 = 488 + (4 * (M8.1 (rf v0 1) (Int32.toNatClampNeg 6))) → (vp_in x13 (ln (rf v0 1))) ∧ ∀ M15 : Mem, M15 = mset M8 (rf v0 1) (Int32.toNatClampNeg x13) v1 → (vp_in (x13 + 1) (ln (rf v0 1))) ∧ ∀ M17 : Mem, M17 = mset M15 (rf v0 1) (Int32.toNatClampNeg (x13 + 1)) v2 → (vp_in (x13 + 2) (ln (rf v0 1))) ∧ ∀ M19 : Mem, M19 = mset M17 (rf v0 1) (Int32.toNatClampNeg (x13 + 2)) v3 → (vp_in (x13 + 3) (ln (rf v0 1))) ∧ ∀ M21 : Mem, M21 = mset M19 (rf v0 1) (Int32.toNatClampNeg (x13 + 3)) v4 → ∀ M22 : Mem, M22 = mset M21 (rf v0 1) (Int32.toNatClampNeg 6) ((M21.1 (rf v0 1) (Int32.toNatClampNeg 6)) + 1) → T_X7_keeps (fun M23 => Q (M23.1 (rf v0 1) (Int32.toNatClampNeg 6)) M23)  v0 M22)) else (T_X7_wish_59 Q v0 M8))))  v3 0 v4 M6))  v0 v2 M4))  v0 v1 M3)  v0 M2
set_option maxRecDepth 100000 in
set_option maxHeartbeats 4000000 in
theorem c_X7_wish {g : GG} (v0 : Nat) (v1 : Int32) (v2 : Int32) (v3 : Int32) (v4 : Int32) (M : Mem) (Q : Int32 → Mem → Prop) (h : T_X7_wish Q v0 v1 v2 v3 v4 M) : CT g 11 mX7_wish [.ref (g.1 + v0), .int v1, .int v2, .int v3, .int v4] M 0 (oI Q noX) := by
  refine CT_of (L := [some (.ref (g.1 + v0)), some (.int v1), some (.int v2), some (.int v3), some (.int v4), none]) (by decide) rfl (Nat.le_of_ble_eq_true rfl) (ro_I rfl) rfl ?_
  unfold T_X7_wish at h
  refine R_aload_n (pc := 0) d_X7_wish_0 rfl rfl ?_
  refine R_iconst (pc := 1) (v := 0) d_X7_wish_1 (by decide) ?_
  obtain ⟨k1, h⟩ := h
  refine R_putI (pc := 2) fld_RX7_37 rfl rfl rfl k1 rfl rfl d_X7_wish_2 (N_M (fun M2 eM2 => ?_))
  have h := h M2 eM2
  refine R_aload_n (pc := 5) d_X7_wish_5 rfl rfl ?_
  refine R_callV (pc := 6) (As := []) (rest := []) (c_X7_remembers (g := g) v0 M2 _ h) rfl rfl cal_RX7_160 ins_X7_remembers sel_X7_remembers (cls_at k1 clsOK7) (by decide) (by decide) rfl rfl (Nat.le_of_ble_eq_true rfl) d_X7_wish_6 (k_V (fun M3 h => ?_)) (fun _ _ h9 => False.elim h9)
  try dsimp only at h
  refine R_aload_n (pc := 9) d_X7_wish_9 rfl rfl ?_
  refine R_iload_n (pc := 10) d_X7_wish_10 rfl rfl ?_
  refine R_callV (pc := 11) (As := [.int v1]) (rest := []) (c_X7_isInmate (g := g) v0 v1 M3 _ h) rfl rfl cal_RX7_179 ins_X7_isInmate sel_X7_isInmate (cls_at k1 clsOK7) (by decide) (by decide) rfl rfl (Nat.le_of_ble_eq_true rfl) d_X7_wish_11 (k_Z (fun y5 M4 h => ?_)) (fun _ _ h9 => False.elim h9)
  try dsimp only at h
  refine R_if_ne (pc := 14) (tgt := 23) d_X7_wish_14 (by decide) (fun c => ?_) (fun c => ?_)
  · rw [if_neg c] at h
    refine R_aload_n (pc := 23) d_X7_wish_23 rfl rfl ?_
    refine R_iload_n (pc := 24) d_X7_wish_24 rfl rfl ?_
    refine R_callV (pc := 25) (As := [.int v2]) (rest := []) (c_X7_areVisitors (g := g) v0 v2 M4 _ h) rfl rfl cal_RX7_194 ins_X7_areVisitors sel_X7_areVisitors (cls_at k1 clsOK7) (by decide) (by decide) rfl rfl (Nat.le_of_ble_eq_true rfl) d_X7_wish_25 (k_Z (fun y7 M6 h => ?_)) (fun _ _ h9 => False.elim h9)
    try dsimp only at h
    refine R_if_eq (pc := 28) (tgt := 59) d_X7_wish_28 (by decide) (fun c => ?_) (fun c => ?_)
    · rw [if_pos c] at h
      exact WP_sub (B_X7_wish_59 Q v0 M6 h) (by decide) (ls_s (ls_n (ls_n (ls_n (ls_n (ls_n ls_0))))))
    · rw [if_neg c] at h
      refine R_iload_n (pc := 31) d_X7_wish_31 rfl rfl ?_
      refine R_iconst (pc := 32) (v := 0) d_X7_wish_32 (by decide) ?_
      refine R_iload (pc := 33) d_X7_wish_33 rfl ?_
      refine R_callS (pc := 35) (As := [.int v3, .int 0, .int v4]) (rest := []) (c_X7_in (g := g) v3 0 v4 M6 _ h) rfl rfl cal_RX7_41 sta_X7_in (by decide) (by decide) rfl rfl (Nat.le_of_ble_eq_true rfl) d_X7_wish_35 (k_Z (fun y9 M8 h => ?_)) (fun _ _ h9 => False.elim h9)
      try dsimp only at h
      refine R_if_eq (pc := 38) (tgt := 59) d_X7_wish_38 (by decide) (fun c => ?_) (fun c => ?_)
      · rw [if_pos c] at h
        exact WP_sub (B_X7_wish_59 Q v0 M8 h) (by decide) (ls_s (ls_n (ls_n (ls_n (ls_n (ls_n ls_0))))))
      · rw [if_neg c] at h
        refine R_iload (pc := 41) d_X7_wish_41 rfl ?_
        refine R_bipush (pc := 43) (v := 55) d_X7_wish_43 (by decide) ?_
        refine R_icmp_gt (pc := 45) (tgt := 59) d_X7_wish_45 (by decide) (fun c => ?_) (fun c => ?_)
        · rw [if_pos c] at h
          exact WP_sub (B_X7_wish_59 Q v0 M8 h) (by decide) (ls_s (ls_n (ls_n (ls_n (ls_n (ls_n ls_0))))))
        · rw [if_neg c] at h
          refine R_iload (pc := 48) d_X7_wish_48 rfl ?_
          refine R_aload_n (pc := 50) d_X7_wish_50 rfl rfl ?_
          refine R_getR (pc := 51) fld_RX7_7 rfl rfl k1 d_X7_wish_51 ?_
          refine R_iconst (pc := 54) (v := 0) d_X7_wish_54 (by decide) ?_
          obtain ⟨k10, h⟩ := h
          obtain ⟨k11, h⟩ := h
          refine R_iald (pc := 55) k10 k11 d_X7_wish_55 ?_
          refine R_icmp_ge (pc := 56) (tgt := 65) d_X7_wish_56 (by decide) (fun c => ?_) (fun c => ?_)
          · rw [if_pos c] at h
            refine R_aload_n (pc := 65) d_X7_wish_65 rfl rfl ?_
            refine R_getR (pc := 66) fld_RX7_7 rfl rfl k1 d_X7_wish_66 ?_
            refine R_bipush (pc := 69) (v := 6) d_X7_wish_69 (by decide) ?_
            obtain ⟨k12, h⟩ := h
            refine R_iald (pc := 71) k10 k12 d_X7_wish_71 ?_
            refine R_bipush (pc := 72) (v := 6) d_X7_wish_72 (by decide) ?_
            refine R_icmp_ne (pc := 74) (tgt := 83) d_X7_wish_74 (by decide) (fun c => ?_) (fun c => ?_)
            · rw [if_neg c] at h
              refine R_sipush (pc := 83) (v := 488) d_X7_wish_83 (by decide) ?_
              refine R_iconst (pc := 86) (v := 4) d_X7_wish_86 (by decide) ?_
              refine R_aload_n (pc := 87) d_X7_wish_87 rfl rfl ?_
              refine R_getR (pc := 88) fld_RX7_7 rfl rfl k1 d_X7_wish_88 ?_
              refine R_bipush (pc := 91) (v := 6) d_X7_wish_91 (by decide) ?_
              refine R_iald (pc := 93) k10 k12 d_X7_wish_93 ?_
              refine R_imul (pc := 94) d_X7_wish_94 ?_
              refine R_iadd (pc := 95) d_X7_wish_95 ?_
              refine N_i (fun x13 ex13 => ?_)
              have h := h x13 ex13
              refine R_istore (pc := 96) (L' := [some (.ref (g.1 + v0)), some (.int v1), some (.int v2), some (.int v3), some (.int v4), some (.int x13)]) d_X7_wish_96 (by decide) rfl ?_
              refine R_aload_n (pc := 98) d_X7_wish_98 rfl rfl ?_
              refine R_getR (pc := 99) fld_RX7_7 rfl rfl k1 d_X7_wish_99 ?_
              refine R_iload (pc := 102) d_X7_wish_102 rfl ?_
              refine R_iload_n (pc := 104) d_X7_wish_104 rfl rfl ?_
              obtain ⟨k14, h⟩ := h
              refine R_iast (pc := 105) k10 k14 d_X7_wish_105 (N_M (fun M15 eM15 => ?_))
              have h := h M15 eM15
              refine R_aload_n (pc := 106) d_X7_wish_106 rfl rfl ?_
              refine R_getR (pc := 107) fld_RX7_7 rfl rfl k1 d_X7_wish_107 ?_
              refine R_iload (pc := 110) d_X7_wish_110 rfl ?_
              refine R_iconst (pc := 112) (v := 1) d_X7_wish_112 (by decide) ?_
              refine R_iadd (pc := 113) d_X7_wish_113 ?_
              refine R_iload_n (pc := 114) d_X7_wish_114 rfl rfl ?_
              obtain ⟨k16, h⟩ := h
              refine R_iast (pc := 115) k10 k16 d_X7_wish_115 (N_M (fun M17 eM17 => ?_))
              have h := h M17 eM17
              refine R_aload_n (pc := 116) d_X7_wish_116 rfl rfl ?_
              refine R_getR (pc := 117) fld_RX7_7 rfl rfl k1 d_X7_wish_117 ?_
              refine R_iload (pc := 120) d_X7_wish_120 rfl ?_
              refine R_iconst (pc := 122) (v := 2) d_X7_wish_122 (by decide) ?_
              refine R_iadd (pc := 123) d_X7_wish_123 ?_
              refine R_iload_n (pc := 124) d_X7_wish_124 rfl rfl ?_
              obtain ⟨k18, h⟩ := h
              refine R_iast (pc := 125) k10 k18 d_X7_wish_125 (N_M (fun M19 eM19 => ?_))
              have h := h M19 eM19
              refine R_aload_n (pc := 126) d_X7_wish_126 rfl rfl ?_
              refine R_getR (pc := 127) fld_RX7_7 rfl rfl k1 d_X7_wish_127 ?_
              refine R_iload (pc := 130) d_X7_wish_130 rfl ?_
              refine R_iconst (pc := 132) (v := 3) d_X7_wish_132 (by decide) ?_
              refine R_iadd (pc := 133) d_X7_wish_133 ?_
              refine R_iload (pc := 134) d_X7_wish_134 rfl ?_
              obtain ⟨k20, h⟩ := h
              refine R_iast (pc := 136) k10 k20 d_X7_wish_136 (N_M (fun M21 eM21 => ?_))
              have h := h M21 eM21
              refine R_aload_n (pc := 137) d_X7_wish_137 rfl rfl ?_
              refine R_getR (pc := 138) fld_RX7_7 rfl rfl k1 d_X7_wish_138 ?_
              refine R_bipush (pc := 141) (v := 6) d_X7_wish_141 (by decide) ?_
              refine R_dup2 (pc := 143) d_X7_wish_143 rfl rfl ?_
              refine R_iald (pc := 144) k10 k12 d_X7_wish_144 ?_
              refine R_iconst (pc := 145) (v := 1) d_X7_wish_145 (by decide) ?_
              refine R_iadd (pc := 146) d_X7_wish_146 ?_
              refine R_iast (pc := 147) k10 k12 d_X7_wish_147 (N_M (fun M22 eM22 => ?_))
              have h := h M22 eM22
              refine R_aload_n (pc := 148) d_X7_wish_148 rfl rfl ?_
              refine R_callV (pc := 149) (As := []) (rest := []) (c_X7_keeps (g := g) v0 M22 _ h) rfl rfl cal_RX7_166 ins_X7_keeps sel_X7_keeps (cls_at k1 clsOK7) (by decide) (by decide) rfl rfl (Nat.le_of_ble_eq_true rfl) d_X7_wish_149 (k_V (fun M23 h => ?_)) (fun _ _ h9 => False.elim h9)
              try dsimp only at h
              refine R_aload_n (pc := 152) d_X7_wish_152 rfl rfl ?_
              refine R_getR (pc := 153) fld_RX7_7 rfl rfl k1 d_X7_wish_153 ?_
              refine R_bipush (pc := 156) (v := 6) d_X7_wish_156 (by decide) ?_
              refine R_iald (pc := 158) k10 k12 d_X7_wish_158 ?_
              exact R_retv (pc := 159) d_X7_wish_159 h
            · rw [if_pos c] at h
              refine R_aload_n (pc := 77) d_X7_wish_77 rfl rfl ?_
              refine R_iconst (pc := 78) (v := 3) d_X7_wish_78 (by decide) ?_
              refine R_callV (pc := 79) (As := [.int 3]) (rest := []) (c_X7_fails (g := g) v0 3 M8 _ h) rfl rfl cal_RX7_163 ins_X7_fails sel_X7_fails (cls_at k1 clsOK7) (by decide) (by decide) rfl rfl (Nat.le_of_ble_eq_true rfl) d_X7_wish_79 (k_I (fun y25 M24 h => ?_)) (fun _ _ h9 => False.elim h9)
              try dsimp only at h
              exact R_retv (pc := 82) d_X7_wish_82 h
          · rw [if_neg c] at h
            exact WP_sub (B_X7_wish_59 Q v0 M8 h) (by decide) (ls_s (ls_n (ls_n (ls_n (ls_n (ls_n ls_0))))))
  · rw [if_pos c] at h
    refine R_aload_n (pc := 17) d_X7_wish_17 rfl rfl ?_
    refine R_iconst (pc := 18) (v := 1) d_X7_wish_18 (by decide) ?_
    refine R_callV (pc := 19) (As := [.int 1]) (rest := []) (c_X7_fails (g := g) v0 1 M4 _ h) rfl rfl cal_RX7_163 ins_X7_fails sel_X7_fails (cls_at k1 clsOK7) (by decide) (by decide) rfl rfl (Nat.le_of_ble_eq_true rfl) d_X7_wish_19 (k_I (fun y27 M26 h => ?_)) (fun _ _ h9 => False.elim h9)
    try dsimp only at h
    exact R_retv (pc := 22) d_X7_wish_22 h
/-! X7_wished -/
theorem d_X7_wished_0 : decode mX7_wished.2.1 0 = .ok (.aload_n 0, 1) := by decide +kernel
theorem d_X7_wished_1 : decode mX7_wished.2.1 1 = .ok (.iconst 0, 1) := by decide +kernel
theorem d_X7_wished_2 : decode mX7_wished.2.1 2 = .ok (.putfield 37, 3) := by decide +kernel
theorem d_X7_wished_5 : decode mX7_wished.2.1 5 = .ok (.iload_n 1, 1) := by decide +kernel
theorem d_X7_wished_6 : decode mX7_wished.2.1 6 = .ok (.iconst 0, 1) := by decide +kernel
theorem d_X7_wished_7 : decode mX7_wished.2.1 7 = .ok (.aload_n 0, 1) := by decide +kernel
theorem d_X7_wished_8 : decode mX7_wished.2.1 8 = .ok (.getfield 7, 3) := by decide +kernel
theorem d_X7_wished_11 : decode mX7_wished.2.1 11 = .ok (.bipush 6, 2) := by decide +kernel
theorem d_X7_wished_13 : decode mX7_wished.2.1 13 = .ok (.iaload, 1) := by decide +kernel
theorem d_X7_wished_14 : decode mX7_wished.2.1 14 = .ok (.iconst 1, 1) := by decide +kernel
theorem d_X7_wished_15 : decode mX7_wished.2.1 15 = .ok (.isub, 1) := by decide +kernel
theorem d_X7_wished_16 : decode mX7_wished.2.1 16 = .ok (.invokestatic 41, 3) := by decide +kernel
theorem d_X7_wished_19 : decode mX7_wished.2.1 19 = .ok (.ifCond .ne 9, 3) := by decide +kernel
theorem d_X7_wished_22 : decode mX7_wished.2.1 22 = .ok (.aload_n 0, 1) := by decide +kernel
theorem d_X7_wished_23 : decode mX7_wished.2.1 23 = .ok (.iconst 1, 1) := by decide +kernel
theorem d_X7_wished_24 : decode mX7_wished.2.1 24 = .ok (.invokevirtual 163, 3) := by decide +kernel
theorem d_X7_wished_27 : decode mX7_wished.2.1 27 = .ok (.ireturn, 1) := by decide +kernel
theorem d_X7_wished_28 : decode mX7_wished.2.1 28 = .ok (.iload_n 2, 1) := by decide +kernel
theorem d_X7_wished_29 : decode mX7_wished.2.1 29 = .ok (.iconst 0, 1) := by decide +kernel
theorem d_X7_wished_30 : decode mX7_wished.2.1 30 = .ok (.iconst 3, 1) := by decide +kernel
theorem d_X7_wished_31 : decode mX7_wished.2.1 31 = .ok (.invokestatic 41, 3) := by decide +kernel
theorem d_X7_wished_34 : decode mX7_wished.2.1 34 = .ok (.ifCond .eq 20, 3) := by decide +kernel
theorem d_X7_wished_37 : decode mX7_wished.2.1 37 = .ok (.aload_n 0, 1) := by decide +kernel
theorem d_X7_wished_38 : decode mX7_wished.2.1 38 = .ok (.getfield 7, 3) := by decide +kernel
theorem d_X7_wished_41 : decode mX7_wished.2.1 41 = .ok (.sipush 488, 3) := by decide +kernel
theorem d_X7_wished_44 : decode mX7_wished.2.1 44 = .ok (.iconst 4, 1) := by decide +kernel
theorem d_X7_wished_45 : decode mX7_wished.2.1 45 = .ok (.iload_n 1, 1) := by decide +kernel
theorem d_X7_wished_46 : decode mX7_wished.2.1 46 = .ok (.imul, 1) := by decide +kernel
theorem d_X7_wished_47 : decode mX7_wished.2.1 47 = .ok (.iadd, 1) := by decide +kernel
theorem d_X7_wished_48 : decode mX7_wished.2.1 48 = .ok (.iload_n 2, 1) := by decide +kernel
theorem d_X7_wished_49 : decode mX7_wished.2.1 49 = .ok (.iadd, 1) := by decide +kernel
theorem d_X7_wished_50 : decode mX7_wished.2.1 50 = .ok (.iaload, 1) := by decide +kernel
theorem d_X7_wished_51 : decode mX7_wished.2.1 51 = .ok (.goto 8, 3) := by decide +kernel
theorem d_X7_wished_54 : decode mX7_wished.2.1 54 = .ok (.aload_n 0, 1) := by decide +kernel
theorem d_X7_wished_55 : decode mX7_wished.2.1 55 = .ok (.iconst 2, 1) := by decide +kernel
theorem d_X7_wished_56 : decode mX7_wished.2.1 56 = .ok (.invokevirtual 163, 3) := by decide +kernel
theorem d_X7_wished_59 : decode mX7_wished.2.1 59 = .ok (.ireturn, 1) := by decide +kernel
def T_X7_wished_59 (Q : Int32 → Mem → Prop) (s0 : Int32) (M : Mem) : Prop := Q s0 M
set_option maxRecDepth 100000 in
set_option maxHeartbeats 4000000 in
theorem B_X7_wished_59 {g : GG} (Q : Int32 → Mem → Prop) (s0 : Int32) (M : Mem) (h : T_X7_wished_59 Q s0 M) : WP g 10 mX7_wished 59 [none, none, none] [.int s0] M 0 (oI Q noX) := by
  unfold T_X7_wished_59 at h
  exact R_retv (pc := 59) d_X7_wished_59 h
def T_X7_wished (Q : Int32 → Mem → Prop) (v0 : Nat) (v1 : Int32) (v2 : Int32) (M : Mem) : Prop := (kd v0 = 7) ∧ ∀ M2 : Mem, M2 = mset M v0 0 0 → (kd (rf v0 1) = 9) ∧ (vp_in 6 (ln (rf v0 1))) ∧ T_X7_in (fun y6 M5 => if y6 = 0 then (T_X7_fails (fun y13 M12 => Q y13 M12)  v0 1 M5) else (T_X7_in (fun y8 M7 => if y8 = 0 then (T_X7_fails (fun y10 M9 => T_X7_wished_59 Q y10 M9)  v0 2 M7) else ((vp_in ((488 + (4 * v1)) + v2) (ln (rf v0 1))) ∧ T_X7_wished_59 Q (M7.1 (rf v0 1) (Int32.toNatClampNeg ((488 + (4 * v1)) + v2))) M7))  v2 0 3 M5))  v1 0 ((M2.1 (rf v0 1) (Int32.toNatClampNeg 6)) - 1) M2
set_option maxRecDepth 100000 in
set_option maxHeartbeats 4000000 in
theorem c_X7_wished {g : GG} (v0 : Nat) (v1 : Int32) (v2 : Int32) (M : Mem) (Q : Int32 → Mem → Prop) (h : T_X7_wished Q v0 v1 v2 M) : CT g 10 mX7_wished [.ref (g.1 + v0), .int v1, .int v2] M 0 (oI Q noX) := by
  refine CT_of (L := [some (.ref (g.1 + v0)), some (.int v1), some (.int v2)]) (by decide) rfl (Nat.le_of_ble_eq_true rfl) (ro_I rfl) rfl ?_
  unfold T_X7_wished at h
  refine R_aload_n (pc := 0) d_X7_wished_0 rfl rfl ?_
  refine R_iconst (pc := 1) (v := 0) d_X7_wished_1 (by decide) ?_
  obtain ⟨k1, h⟩ := h
  refine R_putI (pc := 2) fld_RX7_37 rfl rfl rfl k1 rfl rfl d_X7_wished_2 (N_M (fun M2 eM2 => ?_))
  have h := h M2 eM2
  refine R_iload_n (pc := 5) d_X7_wished_5 rfl rfl ?_
  refine R_iconst (pc := 6) (v := 0) d_X7_wished_6 (by decide) ?_
  refine R_aload_n (pc := 7) d_X7_wished_7 rfl rfl ?_
  refine R_getR (pc := 8) fld_RX7_7 rfl rfl k1 d_X7_wished_8 ?_
  refine R_bipush (pc := 11) (v := 6) d_X7_wished_11 (by decide) ?_
  obtain ⟨k3, h⟩ := h
  obtain ⟨k4, h⟩ := h
  refine R_iald (pc := 13) k3 k4 d_X7_wished_13 ?_
  refine R_iconst (pc := 14) (v := 1) d_X7_wished_14 (by decide) ?_
  refine R_isub (pc := 15) d_X7_wished_15 ?_
  refine R_callS (pc := 16) (As := [.int v1, .int 0, .int ((M2.1 (rf v0 1) (Int32.toNatClampNeg 6)) - 1)]) (rest := []) (c_X7_in (g := g) v1 0 ((M2.1 (rf v0 1) (Int32.toNatClampNeg 6)) - 1) M2 _ h) rfl rfl cal_RX7_41 sta_X7_in (by decide) (by decide) rfl rfl (Nat.le_of_ble_eq_true rfl) d_X7_wished_16 (k_Z (fun y6 M5 h => ?_)) (fun _ _ h9 => False.elim h9)
  try dsimp only at h
  refine R_if_ne (pc := 19) (tgt := 28) d_X7_wished_19 (by decide) (fun c => ?_) (fun c => ?_)
  · rw [if_neg c] at h
    refine R_iload_n (pc := 28) d_X7_wished_28 rfl rfl ?_
    refine R_iconst (pc := 29) (v := 0) d_X7_wished_29 (by decide) ?_
    refine R_iconst (pc := 30) (v := 3) d_X7_wished_30 (by decide) ?_
    refine R_callS (pc := 31) (As := [.int v2, .int 0, .int 3]) (rest := []) (c_X7_in (g := g) v2 0 3 M5 _ h) rfl rfl cal_RX7_41 sta_X7_in (by decide) (by decide) rfl rfl (Nat.le_of_ble_eq_true rfl) d_X7_wished_31 (k_Z (fun y8 M7 h => ?_)) (fun _ _ h9 => False.elim h9)
    try dsimp only at h
    refine R_if_eq (pc := 34) (tgt := 54) d_X7_wished_34 (by decide) (fun c => ?_) (fun c => ?_)
    · rw [if_pos c] at h
      refine R_aload_n (pc := 54) d_X7_wished_54 rfl rfl ?_
      refine R_iconst (pc := 55) (v := 2) d_X7_wished_55 (by decide) ?_
      refine R_callV (pc := 56) (As := [.int 2]) (rest := []) (c_X7_fails (g := g) v0 2 M7 _ h) rfl rfl cal_RX7_163 ins_X7_fails sel_X7_fails (cls_at k1 clsOK7) (by decide) (by decide) rfl rfl (Nat.le_of_ble_eq_true rfl) d_X7_wished_56 (k_I (fun y10 M9 h => ?_)) (fun _ _ h9 => False.elim h9)
      try dsimp only at h
      exact WP_sub (B_X7_wished_59 Q y10 M9 h) (by decide) (ls_n (ls_n (ls_n ls_0)))
    · rw [if_neg c] at h
      refine R_aload_n (pc := 37) d_X7_wished_37 rfl rfl ?_
      refine R_getR (pc := 38) fld_RX7_7 rfl rfl k1 d_X7_wished_38 ?_
      refine R_sipush (pc := 41) (v := 488) d_X7_wished_41 (by decide) ?_
      refine R_iconst (pc := 44) (v := 4) d_X7_wished_44 (by decide) ?_
      refine R_iload_n (pc := 45) d_X7_wished_45 rfl rfl ?_
      refine R_imul (pc := 46) d_X7_wished_46 ?_
      refine R_iadd (pc := 47) d_X7_wished_47 ?_
      refine R_iload_n (pc := 48) d_X7_wished_48 rfl rfl ?_
      refine R_iadd (pc := 49) d_X7_wished_49 ?_
      obtain ⟨k11, h⟩ := h
      refine R_iald (pc := 50) k3 k11 d_X7_wished_50 ?_
      refine R_goto (pc := 51) (tgt := 59) d_X7_wished_51 (by decide) ?_
      exact WP_sub (B_X7_wished_59 Q (M7.1 (rf v0 1) (Int32.toNatClampNeg ((488 + (4 * v1)) + v2))) M7 h) (by decide) (ls_n (ls_n (ls_n ls_0)))
  · rw [if_pos c] at h
    refine R_aload_n (pc := 22) d_X7_wished_22 rfl rfl ?_
    refine R_iconst (pc := 23) (v := 1) d_X7_wished_23 (by decide) ?_
    refine R_callV (pc := 24) (As := [.int 1]) (rest := []) (c_X7_fails (g := g) v0 1 M5 _ h) rfl rfl cal_RX7_163 ins_X7_fails sel_X7_fails (cls_at k1 clsOK7) (by decide) (by decide) rfl rfl (Nat.le_of_ble_eq_true rfl) d_X7_wished_24 (k_I (fun y13 M12 h => ?_)) (fun _ _ h9 => False.elim h9)
    try dsimp only at h
    exact R_retv (pc := 27) d_X7_wished_27 h

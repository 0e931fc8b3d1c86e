/-! THE CLAIM OUT OF ONE WALK OF THE LAW'S BODY. Your part is whole_start (and what it stands on); all else here is the same for every law, but numbers. -/
def R_law : String := "TenMachineLaw"
def lw_P (b : Addr) (xs : List Int32) (args : Array Value) (s : State) : Prop := args = #[.ref b] ∧ s.IntsAt b xs ∧ xs.length ≤ 2048 ∧ (Jvm.Cond.and given_1 narrow_1).before args s = true
def lw_Q (_ : Array Value) (s : State) (o : Outcome) (t : State) : Prop := o = .returned (some (.int 1)) ∧ Framed s o t [] 4 8204
def lw_Z (below : List Frame) (a : Array Value) (s : State) : State → Prop := fun t => ∃ o, t.status = .running ∧ Ended t below o ∧ lw_Q a s o t
/-- the law's own end, with 1 on the stack, nothing written that was there before, its room as the claim has it -/
theorem lw_ret {p : Program} {l : Launch} {e : Env} {s : State} {m : MethodId} {below : List Frame} {meth : Method} {c : Code} {b : Nat} (hx : p.tables.exec = Jvm.exec) (hb : c.code = code) (hr : meth.sig.returnType = ret) (hlocks : meth.locks = false) {pc : Nat} {H : Heap} {ls : Array Slot} (hdg : decode code pc = .ok (.ireturn, 1)) : W p l e room_1 s m #[Value.ref b] below meth c H [] 4 8204 (lw_Z below #[Value.ref b] s) (F0 m pc ls [.int 1]) := by
  intro T hT X
  obtain ⟨fs, hret, hrun, hended, hW, hframe⟩ := X.leave (v := some (.int 1)) (hlocks := hlocks) (fun h => by rw [hr] at h; cases h)
  have hmeth' : T.vm.method? m = some meth := X.method'
  refine ⟨T.setFrames fs, ?_, .returned (some (.int 1)), hrun, hended, rfl, ⟨_, rfl⟩, hW, hframe⟩
  jvm_step X.here [X.here.top, hx, hb, hdg, hmeth', hr, ret, narrow_b1]
  (try refine ⟨rfl, ?_⟩); (try refine ⟨rfl, ?_⟩)
  first | (intro acts; rw [hret _ acts rfl rfl rfl]) | rw [hret _ _ rfl rfl rfl]
  exact Steps.refl _
/-- what holds at the law's entry: the machine, the code, the tables' words (any of lw_tbl by 'hts w (by decide +kernel)'), the script of L ints xs at the cell b, what the Statement gives of the start (any of its parts by flat_of_before) -/
def lw_At (p : Program) (s : State) (m : MethodId) (meth : Method) (c : Code) (b L : Nat) (xs : Nat → Int32) : Prop :=
  p.tables.exec = Jvm.exec ∧ c.code = code ∧ meth.sig.returnType = ret ∧ c.maxLocals = 4 ∧ s.vm.findClass R_law = some m.cls ∧ (∀ w ∈ lw_tbl, w.before #[Value.ref b] s = true) ∧ va_X b L xs s s.heap ∧ b < s.heap.size ∧ meth.locks = false ∧ (Jvm.Cond.and given_1 narrow_1).before #[Value.ref b] s = true

theorem dl_0 : decode code 0 = .ok (.new 7, 3) := by decide +kernel
theorem dl_3 : decode code 3 = .ok (.dup, 1) := by decide +kernel
theorem dl_4 : decode code 4 = .ok (.invokespecial 9, 3) := by decide +kernel
theorem dl_7 : decode code 7 = .ok (.astore_n 1, 1) := by decide +kernel
theorem dl_8 : decode code 8 = .ok (.new 10, 3) := by decide +kernel
theorem dl_11 : decode code 11 = .ok (.dup, 1) := by decide +kernel
theorem dl_12 : decode code 12 = .ok (.invokespecial 12, 3) := by decide +kernel
theorem dl_15 : decode code 15 = .ok (.astore_n 2, 1) := by decide +kernel
theorem dl_16 : decode code 16 = .ok (.iconst 0, 1) := by decide +kernel
theorem dl_17 : decode code 17 = .ok (.istore_n 3, 1) := by decide +kernel
theorem dl_18 : decode code 18 = .ok (.iload_n 3, 1) := by decide +kernel
theorem dl_19 : decode code 19 = .ok (.aload_n 0, 1) := by decide +kernel
theorem dl_20 : decode code 20 = .ok (.arraylength, 1) := by decide +kernel
theorem dl_21 : decode code 21 = .ok (.iconst 4, 1) := by decide +kernel
theorem dl_22 : decode code 22 = .ok (.isub, 1) := by decide +kernel
theorem dl_23 : decode code 23 = .ok (.if_icmp .gt 212, 3) := by decide +kernel
theorem dl_26 : decode code 26 = .ok (.aload_n 0, 1) := by decide +kernel
theorem dl_27 : decode code 27 = .ok (.iload_n 3, 1) := by decide +kernel
theorem dl_28 : decode code 28 = .ok (.iaload, 1) := by decide +kernel
theorem dl_29 : decode code 29 = .ok (.iconst 3, 1) := by decide +kernel
theorem dl_30 : decode code 30 = .ok (.iand, 1) := by decide +kernel
theorem dl_31 : decode code 31 = .ok (.tableswitch 198 0 3 #[29, 92, 116, 175], 29) := by decide +kernel
theorem dl_60 : decode code 60 = .ok (.aload_n 1, 1) := by decide +kernel
theorem dl_61 : decode code 61 = .ok (.aload_n 0, 1) := by decide +kernel
theorem dl_62 : decode code 62 = .ok (.iload_n 3, 1) := by decide +kernel
theorem dl_63 : decode code 63 = .ok (.iconst 1, 1) := by decide +kernel
theorem dl_64 : decode code 64 = .ok (.iadd, 1) := by decide +kernel
theorem dl_65 : decode code 65 = .ok (.iaload, 1) := by decide +kernel
theorem dl_66 : decode code 66 = .ok (.aload_n 0, 1) := by decide +kernel
theorem dl_67 : decode code 67 = .ok (.iload_n 3, 1) := by decide +kernel
theorem dl_68 : decode code 68 = .ok (.iconst 2, 1) := by decide +kernel
theorem dl_69 : decode code 69 = .ok (.iadd, 1) := by decide +kernel
theorem dl_70 : decode code 70 = .ok (.iaload, 1) := by decide +kernel
theorem dl_71 : decode code 71 = .ok (.i2l, 1) := by decide +kernel
theorem dl_72 : decode code 72 = .ok (.bipush 32, 2) := by decide +kernel
theorem dl_74 : decode code 74 = .ok (.lshl, 1) := by decide +kernel
theorem dl_75 : decode code 75 = .ok (.aload_n 0, 1) := by decide +kernel
theorem dl_76 : decode code 76 = .ok (.iload_n 3, 1) := by decide +kernel
theorem dl_77 : decode code 77 = .ok (.iconst 3, 1) := by decide +kernel
theorem dl_78 : decode code 78 = .ok (.iadd, 1) := by decide +kernel
theorem dl_79 : decode code 79 = .ok (.iaload, 1) := by decide +kernel
theorem dl_80 : decode code 80 = .ok (.i2l, 1) := by decide +kernel
theorem dl_81 : decode code 81 = .ok (.ldc2_w 13, 3) := by decide +kernel
theorem dl_84 : decode code 84 = .ok (.land, 1) := by decide +kernel
theorem dl_85 : decode code 85 = .ok (.lor, 1) := by decide +kernel
theorem dl_86 : decode code 86 = .ok (.invokevirtual 15, 3) := by decide +kernel
theorem dl_89 : decode code 89 = .ok (.aload_n 2, 1) := by decide +kernel
theorem dl_90 : decode code 90 = .ok (.aload_n 0, 1) := by decide +kernel
theorem dl_91 : decode code 91 = .ok (.iload_n 3, 1) := by decide +kernel
theorem dl_92 : decode code 92 = .ok (.iconst 1, 1) := by decide +kernel
theorem dl_93 : decode code 93 = .ok (.iadd, 1) := by decide +kernel
theorem dl_94 : decode code 94 = .ok (.iaload, 1) := by decide +kernel
theorem dl_95 : decode code 95 = .ok (.aload_n 0, 1) := by decide +kernel
theorem dl_96 : decode code 96 = .ok (.iload_n 3, 1) := by decide +kernel
theorem dl_97 : decode code 97 = .ok (.iconst 2, 1) := by decide +kernel
theorem dl_98 : decode code 98 = .ok (.iadd, 1) := by decide +kernel
theorem dl_99 : decode code 99 = .ok (.iaload, 1) := by decide +kernel
theorem dl_100 : decode code 100 = .ok (.i2l, 1) := by decide +kernel
theorem dl_101 : decode code 101 = .ok (.bipush 32, 2) := by decide +kernel
theorem dl_103 : decode code 103 = .ok (.lshl, 1) := by decide +kernel
theorem dl_104 : decode code 104 = .ok (.aload_n 0, 1) := by decide +kernel
theorem dl_105 : decode code 105 = .ok (.iload_n 3, 1) := by decide +kernel
theorem dl_106 : decode code 106 = .ok (.iconst 3, 1) := by decide +kernel
theorem dl_107 : decode code 107 = .ok (.iadd, 1) := by decide +kernel
theorem dl_108 : decode code 108 = .ok (.iaload, 1) := by decide +kernel
theorem dl_109 : decode code 109 = .ok (.i2l, 1) := by decide +kernel
theorem dl_110 : decode code 110 = .ok (.ldc2_w 13, 3) := by decide +kernel
theorem dl_113 : decode code 113 = .ok (.land, 1) := by decide +kernel
theorem dl_114 : decode code 114 = .ok (.lor, 1) := by decide +kernel
theorem dl_115 : decode code 115 = .ok (.invokevirtual 19, 3) := by decide +kernel
theorem dl_118 : decode code 118 = .ok (.if_icmp .eq 111, 3) := by decide +kernel
theorem dl_121 : decode code 121 = .ok (.iconst 0, 1) := by decide +kernel
theorem dl_122 : decode code 122 = .ok (.ireturn, 1) := by decide +kernel
theorem dl_123 : decode code 123 = .ok (.aload_n 1, 1) := by decide +kernel
theorem dl_124 : decode code 124 = .ok (.aload_n 0, 1) := by decide +kernel
theorem dl_125 : decode code 125 = .ok (.iload_n 3, 1) := by decide +kernel
theorem dl_126 : decode code 126 = .ok (.iconst 1, 1) := by decide +kernel
theorem dl_127 : decode code 127 = .ok (.iadd, 1) := by decide +kernel
theorem dl_128 : decode code 128 = .ok (.iaload, 1) := by decide +kernel
theorem dl_129 : decode code 129 = .ok (.invokevirtual 20, 3) := by decide +kernel
theorem dl_132 : decode code 132 = .ok (.aload_n 2, 1) := by decide +kernel
theorem dl_133 : decode code 133 = .ok (.aload_n 0, 1) := by decide +kernel
theorem dl_134 : decode code 134 = .ok (.iload_n 3, 1) := by decide +kernel
theorem dl_135 : decode code 135 = .ok (.iconst 1, 1) := by decide +kernel
theorem dl_136 : decode code 136 = .ok (.iadd, 1) := by decide +kernel
theorem dl_137 : decode code 137 = .ok (.iaload, 1) := by decide +kernel
theorem dl_138 : decode code 138 = .ok (.invokevirtual 24, 3) := by decide +kernel
theorem dl_141 : decode code 141 = .ok (.lcmp, 1) := by decide +kernel
theorem dl_142 : decode code 142 = .ok (.ifCond .eq 87, 3) := by decide +kernel
theorem dl_145 : decode code 145 = .ok (.iconst 0, 1) := by decide +kernel
theorem dl_146 : decode code 146 = .ok (.ireturn, 1) := by decide +kernel
theorem dl_147 : decode code 147 = .ok (.aload_n 1, 1) := by decide +kernel
theorem dl_148 : decode code 148 = .ok (.aload_n 0, 1) := by decide +kernel
theorem dl_149 : decode code 149 = .ok (.iload_n 3, 1) := by decide +kernel
theorem dl_150 : decode code 150 = .ok (.iconst 1, 1) := by decide +kernel
theorem dl_151 : decode code 151 = .ok (.iadd, 1) := by decide +kernel
theorem dl_152 : decode code 152 = .ok (.iaload, 1) := by decide +kernel
theorem dl_153 : decode code 153 = .ok (.aload_n 0, 1) := by decide +kernel
theorem dl_154 : decode code 154 = .ok (.iload_n 3, 1) := by decide +kernel
theorem dl_155 : decode code 155 = .ok (.iconst 2, 1) := by decide +kernel
theorem dl_156 : decode code 156 = .ok (.iadd, 1) := by decide +kernel
theorem dl_157 : decode code 157 = .ok (.iaload, 1) := by decide +kernel
theorem dl_158 : decode code 158 = .ok (.aload_n 0, 1) := by decide +kernel
theorem dl_159 : decode code 159 = .ok (.iload_n 3, 1) := by decide +kernel
theorem dl_160 : decode code 160 = .ok (.iconst 3, 1) := by decide +kernel
theorem dl_161 : decode code 161 = .ok (.iadd, 1) := by decide +kernel
theorem dl_162 : decode code 162 = .ok (.iaload, 1) := by decide +kernel
theorem dl_163 : decode code 163 = .ok (.ifCond .eq 7, 3) := by decide +kernel
theorem dl_166 : decode code 166 = .ok (.iconst 1, 1) := by decide +kernel
theorem dl_167 : decode code 167 = .ok (.goto 4, 3) := by decide +kernel
theorem dl_170 : decode code 170 = .ok (.iconst 0, 1) := by decide +kernel
theorem dl_171 : decode code 171 = .ok (.invokevirtual 25, 3) := by decide +kernel
theorem dl_174 : decode code 174 = .ok (.aload_n 2, 1) := by decide +kernel
theorem dl_175 : decode code 175 = .ok (.aload_n 0, 1) := by decide +kernel
theorem dl_176 : decode code 176 = .ok (.iload_n 3, 1) := by decide +kernel
theorem dl_177 : decode code 177 = .ok (.iconst 1, 1) := by decide +kernel
theorem dl_178 : decode code 178 = .ok (.iadd, 1) := by decide +kernel
theorem dl_179 : decode code 179 = .ok (.iaload, 1) := by decide +kernel
theorem dl_180 : decode code 180 = .ok (.aload_n 0, 1) := by decide +kernel
theorem dl_181 : decode code 181 = .ok (.iload_n 3, 1) := by decide +kernel
theorem dl_182 : decode code 182 = .ok (.iconst 2, 1) := by decide +kernel
theorem dl_183 : decode code 183 = .ok (.iadd, 1) := by decide +kernel
theorem dl_184 : decode code 184 = .ok (.iaload, 1) := by decide +kernel
theorem dl_185 : decode code 185 = .ok (.aload_n 0, 1) := by decide +kernel
theorem dl_186 : decode code 186 = .ok (.iload_n 3, 1) := by decide +kernel
theorem dl_187 : decode code 187 = .ok (.iconst 3, 1) := by decide +kernel
theorem dl_188 : decode code 188 = .ok (.iadd, 1) := by decide +kernel
theorem dl_189 : decode code 189 = .ok (.iaload, 1) := by decide +kernel
theorem dl_190 : decode code 190 = .ok (.ifCond .eq 7, 3) := by decide +kernel
theorem dl_193 : decode code 193 = .ok (.iconst 1, 1) := by decide +kernel
theorem dl_194 : decode code 194 = .ok (.goto 4, 3) := by decide +kernel
theorem dl_197 : decode code 197 = .ok (.iconst 0, 1) := by decide +kernel
theorem dl_198 : decode code 198 = .ok (.invokevirtual 29, 3) := by decide +kernel
theorem dl_201 : decode code 201 = .ok (.if_icmp .eq 28, 3) := by decide +kernel
theorem dl_204 : decode code 204 = .ok (.iconst 0, 1) := by decide +kernel
theorem dl_205 : decode code 205 = .ok (.ireturn, 1) := by decide +kernel
theorem dl_206 : decode code 206 = .ok (.aload_n 1, 1) := by decide +kernel
theorem dl_207 : decode code 207 = .ok (.aload_n 0, 1) := by decide +kernel
theorem dl_208 : decode code 208 = .ok (.iload_n 3, 1) := by decide +kernel
theorem dl_209 : decode code 209 = .ok (.iconst 1, 1) := by decide +kernel
theorem dl_210 : decode code 210 = .ok (.iadd, 1) := by decide +kernel
theorem dl_211 : decode code 211 = .ok (.iaload, 1) := by decide +kernel
theorem dl_212 : decode code 212 = .ok (.invokevirtual 30, 3) := by decide +kernel
theorem dl_215 : decode code 215 = .ok (.aload_n 2, 1) := by decide +kernel
theorem dl_216 : decode code 216 = .ok (.aload_n 0, 1) := by decide +kernel
theorem dl_217 : decode code 217 = .ok (.iload_n 3, 1) := by decide +kernel
theorem dl_218 : decode code 218 = .ok (.iconst 1, 1) := by decide +kernel
theorem dl_219 : decode code 219 = .ok (.iadd, 1) := by decide +kernel
theorem dl_220 : decode code 220 = .ok (.iaload, 1) := by decide +kernel
theorem dl_221 : decode code 221 = .ok (.invokevirtual 34, 3) := by decide +kernel
theorem dl_224 : decode code 224 = .ok (.if_icmp .eq 5, 3) := by decide +kernel
theorem dl_227 : decode code 227 = .ok (.iconst 0, 1) := by decide +kernel
theorem dl_228 : decode code 228 = .ok (.ireturn, 1) := by decide +kernel
theorem dl_229 : decode code 229 = .ok (.iinc 3 4, 3) := by decide +kernel
theorem dl_232 : decode code 232 = .ok (.goto (-214), 3) := by decide +kernel
theorem dl_235 : decode code 235 = .ok (.iconst 1, 1) := by decide +kernel
theorem dl_236 : decode code 236 = .ok (.ireturn, 1) := by decide +kernel
theorem wl_x_3 : Cond.methodLink R_x 3 objectInit ∈ tw := tw_of (List.mem_append_right _ (List.mem_of_getElem? (i := 11) (by decide +kernel))) rfl
theorem wl_z_180 : Cond.methodLink R_z 180 objectInit ∈ tw := tw_of (List.mem_append_right _ (List.mem_of_getElem? (i := 423) (by decide +kernel))) rfl
theorem wi_obj : Cond.instanceMethod objectInit ∈ tw := tw_of (List.mem_append_right _ (List.mem_of_getElem? (i := 12) (by decide +kernel))) rfl
theorem wc_obj : Cond.code objectInit ⟨#[0xb1]⟩ 1 none ∈ tw := tw_of (List.mem_append_right _ (List.mem_of_getElem? (i := 13) (by decide +kernel))) rfl
theorem wa_long : Cond.arrayClass .long ∈ tw := tw_of (List.mem_append_right _ (List.mem_of_getElem? (i := 36) (by decide +kernel))) rfl
theorem wc_x_init : Cond.code yx_init cx_init 1 none ∈ tw := tw_of (List.mem_append_right _ (List.mem_of_getElem? (i := 10) (by decide +kernel))) rfl
theorem wi_x_init : Cond.instanceMethod yx_init ∈ tw := tw_of (List.mem_append_right _ (List.mem_of_getElem? (i := 9) (by decide +kernel))) rfl
theorem wk_x : Cond.classLink R_law 7 R_x ∈ tw := tw_of (List.mem_append_right _ (List.mem_of_getElem? (i := 6) (by decide +kernel))) rfl
theorem wb_x : Cond.instantiable R_x 7 ∈ tw := tw_of (List.mem_append_right _ (List.mem_of_getElem? (i := 7) (by decide +kernel))) rfl
theorem wl_l_9 : Cond.methodLink R_law 9 yx_init ∈ tw := tw_of (List.mem_append_right _ (List.mem_of_getElem? (i := 8) (by decide +kernel))) rfl
theorem wc_x_put : Cond.code yx_put cx_put 4 (some .int) ∈ tw := tw_of (List.mem_append_right _ (List.mem_of_getElem? (i := 40) (by decide +kernel))) rfl
theorem wl_l_15 : Cond.methodLink R_law 15 yx_put ∈ tw := tw_of (List.mem_append_right _ (List.mem_of_getElem? (i := 37) (by decide +kernel))) rfl
theorem wi_x_put : Cond.instanceMethod yx_put ∈ tw := tw_of (List.mem_append_right _ (List.mem_of_getElem? (i := 38) (by decide +kernel))) rfl
theorem ws_x_put : Cond.selects R_x yx_put yx_put ∈ tw := tw_of (List.mem_append_right _ (List.mem_of_getElem? (i := 39) (by decide +kernel))) rfl
theorem gl_x_put : xYw R_law 15 yx_put cx_put 4 (some .int) 2 := ⟨wc_x_put, wl_l_15, wi_x_put, ws_x_put, wn_x, ⟨by decide, by decide, by decide +kernel⟩, by decide⟩
theorem wc_x_get : Cond.code yx_get cx_get 2 (some .long) ∈ tw := tw_of (List.mem_append_right _ (List.mem_of_getElem? (i := 50) (by decide +kernel))) rfl
theorem wl_l_20 : Cond.methodLink R_law 20 yx_get ∈ tw := tw_of (List.mem_append_right _ (List.mem_of_getElem? (i := 47) (by decide +kernel))) rfl
theorem wi_x_get : Cond.instanceMethod yx_get ∈ tw := tw_of (List.mem_append_right _ (List.mem_of_getElem? (i := 48) (by decide +kernel))) rfl
theorem ws_x_get : Cond.selects R_x yx_get yx_get ∈ tw := tw_of (List.mem_append_right _ (List.mem_of_getElem? (i := 49) (by decide +kernel))) rfl
theorem gl_x_get : xYw R_law 20 yx_get cx_get 2 (some .long) 1 := ⟨wc_x_get, wl_l_20, wi_x_get, ws_x_get, wn_x, ⟨by decide, by decide, by decide +kernel⟩, by decide⟩
theorem wc_x_go : Cond.code yx_go cx_go 6 (some .int) ∈ tw := tw_of (List.mem_append_right _ (List.mem_of_getElem? (i := 55) (by decide +kernel))) rfl
theorem wl_l_25 : Cond.methodLink R_law 25 yx_go ∈ tw := tw_of (List.mem_append_right _ (List.mem_of_getElem? (i := 52) (by decide +kernel))) rfl
theorem wi_x_go : Cond.instanceMethod yx_go ∈ tw := tw_of (List.mem_append_right _ (List.mem_of_getElem? (i := 53) (by decide +kernel))) rfl
theorem ws_x_go : Cond.selects R_x yx_go yx_go ∈ tw := tw_of (List.mem_append_right _ (List.mem_of_getElem? (i := 54) (by decide +kernel))) rfl
theorem gl_x_go : xYw R_law 25 yx_go cx_go 6 (some .int) 3 := ⟨wc_x_go, wl_l_25, wi_x_go, ws_x_go, wn_x, ⟨by decide, by decide, by decide +kernel⟩, by decide⟩
theorem wc_x_look : Cond.code yx_look cx_look 2 (some .int) ∈ tw := tw_of (List.mem_append_right _ (List.mem_of_getElem? (i := 286) (by decide +kernel))) rfl
theorem wl_l_30 : Cond.methodLink R_law 30 yx_look ∈ tw := tw_of (List.mem_append_right _ (List.mem_of_getElem? (i := 283) (by decide +kernel))) rfl
theorem wi_x_look : Cond.instanceMethod yx_look ∈ tw := tw_of (List.mem_append_right _ (List.mem_of_getElem? (i := 284) (by decide +kernel))) rfl
theorem ws_x_look : Cond.selects R_x yx_look yx_look ∈ tw := tw_of (List.mem_append_right _ (List.mem_of_getElem? (i := 285) (by decide +kernel))) rfl
theorem gl_x_look : xYw R_law 30 yx_look cx_look 2 (some .int) 1 := ⟨wc_x_look, wl_l_30, wi_x_look, ws_x_look, wn_x, ⟨by decide, by decide, by decide +kernel⟩, by decide⟩
theorem wc_z_init : Cond.code yz_init cz_init 1 none ∈ tw := tw_of (List.mem_append_right _ (List.mem_of_getElem? (i := 422) (by decide +kernel))) rfl
theorem wi_z_init : Cond.instanceMethod yz_init ∈ tw := tw_of (List.mem_append_right _ (List.mem_of_getElem? (i := 421) (by decide +kernel))) rfl
theorem wk_z : Cond.classLink R_law 10 R_z ∈ tw := tw_of (List.mem_append_right _ (List.mem_of_getElem? (i := 419) (by decide +kernel))) rfl
theorem wb_z : Cond.instantiable R_z 5 ∈ tw := tw_of (List.mem_append_right _ (List.mem_of_getElem? (i := 299) (by decide +kernel))) rfl
theorem wl_l_12 : Cond.methodLink R_law 12 yz_init ∈ tw := tw_of (List.mem_append_right _ (List.mem_of_getElem? (i := 420) (by decide +kernel))) rfl
theorem wc_z_put : Cond.code yz_put cz_put 4 (some .int) ∈ tw := tw_of (List.mem_append_right _ (List.mem_of_getElem? (i := 443) (by decide +kernel))) rfl
theorem wl_l_19 : Cond.methodLink R_law 19 yz_put ∈ tw := tw_of (List.mem_append_right _ (List.mem_of_getElem? (i := 440) (by decide +kernel))) rfl
theorem wi_z_put : Cond.instanceMethod yz_put ∈ tw := tw_of (List.mem_append_right _ (List.mem_of_getElem? (i := 441) (by decide +kernel))) rfl
theorem ws_z_put : Cond.selects R_z yz_put yz_put ∈ tw := tw_of (List.mem_append_right _ (List.mem_of_getElem? (i := 442) (by decide +kernel))) rfl
theorem gl_z_put : zYw R_law 19 yz_put cz_put 4 (some .int) 2 := ⟨wc_z_put, wl_l_19, wi_z_put, ws_z_put, wn_z, ⟨by decide, by decide, by decide +kernel⟩, by decide⟩
theorem wc_z_get : Cond.code yz_get cz_get 2 (some .long) ∈ tw := tw_of (List.mem_append_right _ (List.mem_of_getElem? (i := 447) (by decide +kernel))) rfl
theorem wl_l_24 : Cond.methodLink R_law 24 yz_get ∈ tw := tw_of (List.mem_append_right _ (List.mem_of_getElem? (i := 444) (by decide +kernel))) rfl
theorem wi_z_get : Cond.instanceMethod yz_get ∈ tw := tw_of (List.mem_append_right _ (List.mem_of_getElem? (i := 445) (by decide +kernel))) rfl
theorem ws_z_get : Cond.selects R_z yz_get yz_get ∈ tw := tw_of (List.mem_append_right _ (List.mem_of_getElem? (i := 446) (by decide +kernel))) rfl
theorem gl_z_get : zYw R_law 24 yz_get cz_get 2 (some .long) 1 := ⟨wc_z_get, wl_l_24, wi_z_get, ws_z_get, wn_z, ⟨by decide, by decide, by decide +kernel⟩, by decide⟩
theorem wc_z_go : Cond.code yz_go cz_go 6 (some .int) ∈ tw := tw_of (List.mem_append_right _ (List.mem_of_getElem? (i := 290) (by decide +kernel))) rfl
theorem wl_l_29 : Cond.methodLink R_law 29 yz_go ∈ tw := tw_of (List.mem_append_right _ (List.mem_of_getElem? (i := 287) (by decide +kernel))) rfl
theorem wi_z_go : Cond.instanceMethod yz_go ∈ tw := tw_of (List.mem_append_right _ (List.mem_of_getElem? (i := 288) (by decide +kernel))) rfl
theorem ws_z_go : Cond.selects R_z yz_go yz_go ∈ tw := tw_of (List.mem_append_right _ (List.mem_of_getElem? (i := 289) (by decide +kernel))) rfl
theorem gl_z_go : zYw R_law 29 yz_go cz_go 6 (some .int) 3 := ⟨wc_z_go, wl_l_29, wi_z_go, ws_z_go, wn_z, ⟨by decide, by decide, by decide +kernel⟩, by decide⟩
theorem wc_z_look : Cond.code yz_look cz_look 2 (some .int) ∈ tw := tw_of (List.mem_append_right _ (List.mem_of_getElem? (i := 452) (by decide +kernel))) rfl
theorem wl_l_34 : Cond.methodLink R_law 34 yz_look ∈ tw := tw_of (List.mem_append_right _ (List.mem_of_getElem? (i := 449) (by decide +kernel))) rfl
theorem wi_z_look : Cond.instanceMethod yz_look ∈ tw := tw_of (List.mem_append_right _ (List.mem_of_getElem? (i := 450) (by decide +kernel))) rfl
theorem ws_z_look : Cond.selects R_z yz_look yz_look ∈ tw := tw_of (List.mem_append_right _ (List.mem_of_getElem? (i := 451) (by decide +kernel))) rfl
theorem gl_z_look : zYw R_law 34 yz_look cz_look 2 (some .int) 1 := ⟨wc_z_look, wl_l_34, wi_z_look, ws_z_look, wn_z, ⟨by decide, by decide, by decide +kernel⟩, by decide⟩
theorem ct_l_13 : Cond.constantLong R_law 13 4294967295 ∈ tw := tw_of (List.mem_append_right _ (List.mem_of_getElem? (i := 453) (by decide +kernel))) rfl

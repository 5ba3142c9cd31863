section
def R_law : String := "RemoteReachLaw"
def lw_P (b : Addr) (xs : List Int32) (args : Array Value) (s : State) : Prop := args = #[.ref b] ∧ s.IntsAt b xs ∧ xs.length ≤ 3587 ∧ (Jvm.Cond.and given_1 narrow_1).before args s = true
def lw_Q (_ : Array Value) (s : State) (o : Outcome) (t : State) : Prop := o = .returned (some (.int 1)) ∧ Framed s o t [] 621377 7231939
def lw_Z (below : List Frame) (a : Array Value) (s : State) : State → Prop := fun t => ∃ o, t.status = .running ∧ Ended t below o ∧ lw_Q a s o t
/-- the law's own end, with 1 on the stack, nothing written that was there before, its room as the claim has it -/
theorem lw_ret {p : Program} {l : Launch} {e : Env} {s : State} {m : MethodId} {below : List Frame} {meth : Method} {c : Code} {b : Nat} (hx : p.tables.exec = Jvm.exec) (hb : c.code = code) (hr : meth.sig.returnType = ret) (hlocks : meth.locks = false) {pc : Nat} {H : Heap} {ls : Array Slot} (hdg : decode code pc = .ok (.ireturn, 1)) : W p l e room_1 s m #[Value.ref b] below meth c H [] 621377 7231939 (lw_Z below #[Value.ref b] s) (F0 m pc ls [.int 1]) := by
  intro T hT X
  obtain ⟨fs, hret, hrun, hended, hW, hframe⟩ := X.leave (v := some (.int 1)) (hlocks := hlocks) (fun h => by rw [hr] at h; cases h)
  have hmeth' : T.vm.method? m = some meth := X.method'
  refine ⟨T.setFrames fs, ?_, .returned (some (.int 1)), hrun, hended, rfl, ⟨_, rfl⟩, hW, hframe⟩
  jvm_step X.here [X.here.top, hx, hb, hdg, hmeth', hr, ret, narrow_b1]
  (try refine ⟨rfl, ?_⟩); (try refine ⟨rfl, ?_⟩)
  first | (intro acts; rw [hret _ acts rfl rfl rfl]) | rw [hret _ _ rfl rfl rfl]
  exact Steps.refl _
/-- what holds at the law's entry: the machine, the code, the tables' words (any of lw_tbl by 'hts w (by decide +kernel)'), the script of L ints xs at the cell b, what the Statement gives of the start (any of its parts by flat_of_before) -/
def lw_At (p : Program) (s : State) (m : MethodId) (meth : Method) (c : Code) (b L : Nat) (xs : Nat → Int32) : Prop :=
  p.tables.exec = Jvm.exec ∧ c.code = code ∧ meth.sig.returnType = ret ∧ c.maxLocals = 7 ∧ s.vm.findClass R_law = some m.cls ∧ (∀ w ∈ lw_tbl, w.before #[Value.ref b] s = true) ∧ va_X b L xs s s.heap ∧ b < s.heap.size ∧ meth.locks = false ∧ (Jvm.Cond.and given_1 narrow_1).before #[Value.ref b] s = true
end
section
theorem gdL_law_0 : (decode cL_law 0 = .ok (.new 8, 3)) ∧ (decode cL_law 3 = .ok (.dup, 1)) ∧ (decode cL_law 4 = .ok (.aload_n 0, 1)) ∧ (decode cL_law 5 = .ok (.iconst 0, 1)) ∧ (decode cL_law 6 = .ok (.invokestatic 45, 3)) ∧ (decode cL_law 9 = .ok (.aload_n 0, 1)) ∧ (decode cL_law 10 = .ok (.iconst 1, 1)) ∧ (decode cL_law 11 = .ok (.invokestatic 45, 3)) ∧ (decode cL_law 14 = .ok (.aload_n 0, 1)) ∧ (decode cL_law 15 = .ok (.iconst 2, 1)) ∧ (decode cL_law 16 = .ok (.invokestatic 45, 3)) ∧ (decode cL_law 19 = .ok (.invokespecial 51, 3)) ∧ (decode cL_law 22 = .ok (.astore_n 1, 1)) ∧ (decode cL_law 23 = .ok (.new 53, 3)) ∧ (decode cL_law 26 = .ok (.dup, 1)) ∧ (decode cL_law 27 = .ok (.aload_n 0, 1)) := by decide +kernel
theorem dL_law_0 : decode cL_law 0 = .ok (.new 8, 3) := gdL_law_0.1
theorem dL_law_3 : decode cL_law 3 = .ok (.dup, 1) := gdL_law_0.2.1
theorem dL_law_4 : decode cL_law 4 = .ok (.aload_n 0, 1) := gdL_law_0.2.2.1
theorem dL_law_5 : decode cL_law 5 = .ok (.iconst 0, 1) := gdL_law_0.2.2.2.1
theorem dL_law_6 : decode cL_law 6 = .ok (.invokestatic 45, 3) := gdL_law_0.2.2.2.2.1
theorem dL_law_9 : decode cL_law 9 = .ok (.aload_n 0, 1) := gdL_law_0.2.2.2.2.2.1
theorem dL_law_10 : decode cL_law 10 = .ok (.iconst 1, 1) := gdL_law_0.2.2.2.2.2.2.1
theorem dL_law_11 : decode cL_law 11 = .ok (.invokestatic 45, 3) := gdL_law_0.2.2.2.2.2.2.2.1
theorem dL_law_14 : decode cL_law 14 = .ok (.aload_n 0, 1) := gdL_law_0.2.2.2.2.2.2.2.2.1
theorem dL_law_15 : decode cL_law 15 = .ok (.iconst 2, 1) := gdL_law_0.2.2.2.2.2.2.2.2.2.1
theorem dL_law_16 : decode cL_law 16 = .ok (.invokestatic 45, 3) := gdL_law_0.2.2.2.2.2.2.2.2.2.2.1
theorem dL_law_19 : decode cL_law 19 = .ok (.invokespecial 51, 3) := gdL_law_0.2.2.2.2.2.2.2.2.2.2.2.1
theorem dL_law_22 : decode cL_law 22 = .ok (.astore_n 1, 1) := gdL_law_0.2.2.2.2.2.2.2.2.2.2.2.2.1
theorem dL_law_23 : decode cL_law 23 = .ok (.new 53, 3) := gdL_law_0.2.2.2.2.2.2.2.2.2.2.2.2.2.1
theorem dL_law_26 : decode cL_law 26 = .ok (.dup, 1) := gdL_law_0.2.2.2.2.2.2.2.2.2.2.2.2.2.2.1
theorem dL_law_27 : decode cL_law 27 = .ok (.aload_n 0, 1) := gdL_law_0.2.2.2.2.2.2.2.2.2.2.2.2.2.2.2
theorem gdL_law_28 : (decode cL_law 28 = .ok (.iconst 0, 1)) ∧ (decode cL_law 29 = .ok (.invokestatic 45, 3)) ∧ (decode cL_law 32 = .ok (.aload_n 0, 1)) ∧ (decode cL_law 33 = .ok (.iconst 1, 1)) ∧ (decode cL_law 34 = .ok (.invokestatic 45, 3)) ∧ (decode cL_law 37 = .ok (.aload_n 0, 1)) ∧ (decode cL_law 38 = .ok (.iconst 2, 1)) ∧ (decode cL_law 39 = .ok (.invokestatic 45, 3)) ∧ (decode cL_law 42 = .ok (.invokespecial 55, 3)) ∧ (decode cL_law 45 = .ok (.astore_n 2, 1)) ∧ (decode cL_law 46 = .ok (.iconst 1, 1)) ∧ (decode cL_law 47 = .ok (.newarray .long, 2)) ∧ (decode cL_law 49 = .ok (.astore_n 3, 1)) ∧ (decode cL_law 50 = .ok (.iconst 3, 1)) ∧ (decode cL_law 51 = .ok (.istore 4, 2)) ∧ (decode cL_law 53 = .ok (.iload 4, 2)) := by decide +kernel
theorem dL_law_28 : decode cL_law 28 = .ok (.iconst 0, 1) := gdL_law_28.1
theorem dL_law_29 : decode cL_law 29 = .ok (.invokestatic 45, 3) := gdL_law_28.2.1
theorem dL_law_32 : decode cL_law 32 = .ok (.aload_n 0, 1) := gdL_law_28.2.2.1
theorem dL_law_33 : decode cL_law 33 = .ok (.iconst 1, 1) := gdL_law_28.2.2.2.1
theorem dL_law_34 : decode cL_law 34 = .ok (.invokestatic 45, 3) := gdL_law_28.2.2.2.2.1
theorem dL_law_37 : decode cL_law 37 = .ok (.aload_n 0, 1) := gdL_law_28.2.2.2.2.2.1
theorem dL_law_38 : decode cL_law 38 = .ok (.iconst 2, 1) := gdL_law_28.2.2.2.2.2.2.1
theorem dL_law_39 : decode cL_law 39 = .ok (.invokestatic 45, 3) := gdL_law_28.2.2.2.2.2.2.2.1
theorem dL_law_42 : decode cL_law 42 = .ok (.invokespecial 55, 3) := gdL_law_28.2.2.2.2.2.2.2.2.1
theorem dL_law_45 : decode cL_law 45 = .ok (.astore_n 2, 1) := gdL_law_28.2.2.2.2.2.2.2.2.2.1
theorem dL_law_46 : decode cL_law 46 = .ok (.iconst 1, 1) := gdL_law_28.2.2.2.2.2.2.2.2.2.2.1
theorem dL_law_47 : decode cL_law 47 = .ok (.newarray .long, 2) := gdL_law_28.2.2.2.2.2.2.2.2.2.2.2.1
theorem dL_law_49 : decode cL_law 49 = .ok (.astore_n 3, 1) := gdL_law_28.2.2.2.2.2.2.2.2.2.2.2.2.1
theorem dL_law_50 : decode cL_law 50 = .ok (.iconst 3, 1) := gdL_law_28.2.2.2.2.2.2.2.2.2.2.2.2.2.1
theorem dL_law_51 : decode cL_law 51 = .ok (.istore 4, 2) := gdL_law_28.2.2.2.2.2.2.2.2.2.2.2.2.2.2.1
theorem dL_law_53 : decode cL_law 53 = .ok (.iload 4, 2) := gdL_law_28.2.2.2.2.2.2.2.2.2.2.2.2.2.2.2
theorem gdL_law_55 : (decode cL_law 55 = .ok (.aload_n 0, 1)) ∧ (decode cL_law 56 = .ok (.arraylength, 1)) ∧ (decode cL_law 57 = .ok (.bipush 7, 2)) ∧ (decode cL_law 59 = .ok (.isub, 1)) ∧ (decode cL_law 60 = .ok (.if_icmp .gt 917, 3)) ∧ (decode cL_law 63 = .ok (.aload_n 0, 1)) ∧ (decode cL_law 64 = .ok (.iload 4, 2)) ∧ (decode cL_law 66 = .ok (.iaload, 1)) ∧ (decode cL_law 67 = .ok (.bipush 31, 2)) ∧ (decode cL_law 69 = .ok (.iand, 1)) ∧ (decode cL_law 70 = .ok (.tableswitch 901 0 17 #[86, 159, 208, 245, 294, 319, 371, 477, 553, 605, 630, 655, 708, 721, 734, 771, 808, 833], 86)) ∧ (decode cL_law 156 = .ok (.aload_n 1, 1)) ∧ (decode cL_law 157 = .ok (.aload_n 0, 1)) ∧ (decode cL_law 158 = .ok (.iload 4, 2)) ∧ (decode cL_law 160 = .ok (.iconst 1, 1)) ∧ (decode cL_law 161 = .ok (.iadd, 1)) := by decide +kernel
theorem dL_law_55 : decode cL_law 55 = .ok (.aload_n 0, 1) := gdL_law_55.1
theorem dL_law_56 : decode cL_law 56 = .ok (.arraylength, 1) := gdL_law_55.2.1
theorem dL_law_57 : decode cL_law 57 = .ok (.bipush 7, 2) := gdL_law_55.2.2.1
theorem dL_law_59 : decode cL_law 59 = .ok (.isub, 1) := gdL_law_55.2.2.2.1
theorem dL_law_60 : decode cL_law 60 = .ok (.if_icmp .gt 917, 3) := gdL_law_55.2.2.2.2.1
theorem dL_law_63 : decode cL_law 63 = .ok (.aload_n 0, 1) := gdL_law_55.2.2.2.2.2.1
theorem dL_law_64 : decode cL_law 64 = .ok (.iload 4, 2) := gdL_law_55.2.2.2.2.2.2.1
theorem dL_law_66 : decode cL_law 66 = .ok (.iaload, 1) := gdL_law_55.2.2.2.2.2.2.2.1
theorem dL_law_67 : decode cL_law 67 = .ok (.bipush 31, 2) := gdL_law_55.2.2.2.2.2.2.2.2.1
theorem dL_law_69 : decode cL_law 69 = .ok (.iand, 1) := gdL_law_55.2.2.2.2.2.2.2.2.2.1
theorem dL_law_70 : decode cL_law 70 = .ok (.tableswitch 901 0 17 #[86, 159, 208, 245, 294, 319, 371, 477, 553, 605, 630, 655, 708, 721, 734, 771, 808, 833], 86) := gdL_law_55.2.2.2.2.2.2.2.2.2.2.1
theorem dL_law_156 : decode cL_law 156 = .ok (.aload_n 1, 1) := gdL_law_55.2.2.2.2.2.2.2.2.2.2.2.1
theorem dL_law_157 : decode cL_law 157 = .ok (.aload_n 0, 1) := gdL_law_55.2.2.2.2.2.2.2.2.2.2.2.2.1
theorem dL_law_158 : decode cL_law 158 = .ok (.iload 4, 2) := gdL_law_55.2.2.2.2.2.2.2.2.2.2.2.2.2.1
theorem dL_law_160 : decode cL_law 160 = .ok (.iconst 1, 1) := gdL_law_55.2.2.2.2.2.2.2.2.2.2.2.2.2.2.1
theorem dL_law_161 : decode cL_law 161 = .ok (.iadd, 1) := gdL_law_55.2.2.2.2.2.2.2.2.2.2.2.2.2.2.2
theorem gdL_law_162 : (decode cL_law 162 = .ok (.iaload, 1)) ∧ (decode cL_law 163 = .ok (.aload_n 0, 1)) ∧ (decode cL_law 164 = .ok (.iload 4, 2)) ∧ (decode cL_law 166 = .ok (.iconst 2, 1)) ∧ (decode cL_law 167 = .ok (.iadd, 1)) ∧ (decode cL_law 168 = .ok (.iaload, 1)) ∧ (decode cL_law 169 = .ok (.aload_n 0, 1)) ∧ (decode cL_law 170 = .ok (.iload 4, 2)) ∧ (decode cL_law 172 = .ok (.iconst 3, 1)) ∧ (decode cL_law 173 = .ok (.iadd, 1)) ∧ (decode cL_law 174 = .ok (.iaload, 1)) ∧ (decode cL_law 175 = .ok (.aload_n 0, 1)) ∧ (decode cL_law 176 = .ok (.iload 4, 2)) ∧ (decode cL_law 178 = .ok (.iconst 4, 1)) ∧ (decode cL_law 179 = .ok (.iadd, 1)) ∧ (decode cL_law 180 = .ok (.iaload, 1)) := by decide +kernel
theorem dL_law_162 : decode cL_law 162 = .ok (.iaload, 1) := gdL_law_162.1
theorem dL_law_163 : decode cL_law 163 = .ok (.aload_n 0, 1) := gdL_law_162.2.1
theorem dL_law_164 : decode cL_law 164 = .ok (.iload 4, 2) := gdL_law_162.2.2.1
theorem dL_law_166 : decode cL_law 166 = .ok (.iconst 2, 1) := gdL_law_162.2.2.2.1
theorem dL_law_167 : decode cL_law 167 = .ok (.iadd, 1) := gdL_law_162.2.2.2.2.1
theorem dL_law_168 : decode cL_law 168 = .ok (.iaload, 1) := gdL_law_162.2.2.2.2.2.1
theorem dL_law_169 : decode cL_law 169 = .ok (.aload_n 0, 1) := gdL_law_162.2.2.2.2.2.2.1
theorem dL_law_170 : decode cL_law 170 = .ok (.iload 4, 2) := gdL_law_162.2.2.2.2.2.2.2.1
theorem dL_law_172 : decode cL_law 172 = .ok (.iconst 3, 1) := gdL_law_162.2.2.2.2.2.2.2.2.1
theorem dL_law_173 : decode cL_law 173 = .ok (.iadd, 1) := gdL_law_162.2.2.2.2.2.2.2.2.2.1
theorem dL_law_174 : decode cL_law 174 = .ok (.iaload, 1) := gdL_law_162.2.2.2.2.2.2.2.2.2.2.1
theorem dL_law_175 : decode cL_law 175 = .ok (.aload_n 0, 1) := gdL_law_162.2.2.2.2.2.2.2.2.2.2.2.1
theorem dL_law_176 : decode cL_law 176 = .ok (.iload 4, 2) := gdL_law_162.2.2.2.2.2.2.2.2.2.2.2.2.1
theorem dL_law_178 : decode cL_law 178 = .ok (.iconst 4, 1) := gdL_law_162.2.2.2.2.2.2.2.2.2.2.2.2.2.1
theorem dL_law_179 : decode cL_law 179 = .ok (.iadd, 1) := gdL_law_162.2.2.2.2.2.2.2.2.2.2.2.2.2.2.1
theorem dL_law_180 : decode cL_law 180 = .ok (.iaload, 1) := gdL_law_162.2.2.2.2.2.2.2.2.2.2.2.2.2.2.2
theorem gdL_law_181 : (decode cL_law 181 = .ok (.aload_n 0, 1)) ∧ (decode cL_law 182 = .ok (.iload 4, 2)) ∧ (decode cL_law 184 = .ok (.iconst 5, 1)) ∧ (decode cL_law 185 = .ok (.iadd, 1)) ∧ (decode cL_law 186 = .ok (.iaload, 1)) ∧ (decode cL_law 187 = .ok (.invokestatic 56, 3)) ∧ (decode cL_law 190 = .ok (.istore 5, 2)) ∧ (decode cL_law 192 = .ok (.aload_n 2, 1)) ∧ (decode cL_law 193 = .ok (.aload_n 0, 1)) ∧ (decode cL_law 194 = .ok (.iload 4, 2)) ∧ (decode cL_law 196 = .ok (.iconst 1, 1)) ∧ (decode cL_law 197 = .ok (.iadd, 1)) ∧ (decode cL_law 198 = .ok (.iaload, 1)) ∧ (decode cL_law 199 = .ok (.aload_n 0, 1)) ∧ (decode cL_law 200 = .ok (.iload 4, 2)) ∧ (decode cL_law 202 = .ok (.iconst 2, 1)) := by decide +kernel
theorem dL_law_181 : decode cL_law 181 = .ok (.aload_n 0, 1) := gdL_law_181.1
theorem dL_law_182 : decode cL_law 182 = .ok (.iload 4, 2) := gdL_law_181.2.1
theorem dL_law_184 : decode cL_law 184 = .ok (.iconst 5, 1) := gdL_law_181.2.2.1
theorem dL_law_185 : decode cL_law 185 = .ok (.iadd, 1) := gdL_law_181.2.2.2.1
theorem dL_law_186 : decode cL_law 186 = .ok (.iaload, 1) := gdL_law_181.2.2.2.2.1
theorem dL_law_187 : decode cL_law 187 = .ok (.invokestatic 56, 3) := gdL_law_181.2.2.2.2.2.1
theorem dL_law_190 : decode cL_law 190 = .ok (.istore 5, 2) := gdL_law_181.2.2.2.2.2.2.1
theorem dL_law_192 : decode cL_law 192 = .ok (.aload_n 2, 1) := gdL_law_181.2.2.2.2.2.2.2.1
theorem dL_law_193 : decode cL_law 193 = .ok (.aload_n 0, 1) := gdL_law_181.2.2.2.2.2.2.2.2.1
theorem dL_law_194 : decode cL_law 194 = .ok (.iload 4, 2) := gdL_law_181.2.2.2.2.2.2.2.2.2.1
theorem dL_law_196 : decode cL_law 196 = .ok (.iconst 1, 1) := gdL_law_181.2.2.2.2.2.2.2.2.2.2.1
theorem dL_law_197 : decode cL_law 197 = .ok (.iadd, 1) := gdL_law_181.2.2.2.2.2.2.2.2.2.2.2.1
theorem dL_law_198 : decode cL_law 198 = .ok (.iaload, 1) := gdL_law_181.2.2.2.2.2.2.2.2.2.2.2.2.1
theorem dL_law_199 : decode cL_law 199 = .ok (.aload_n 0, 1) := gdL_law_181.2.2.2.2.2.2.2.2.2.2.2.2.2.1
theorem dL_law_200 : decode cL_law 200 = .ok (.iload 4, 2) := gdL_law_181.2.2.2.2.2.2.2.2.2.2.2.2.2.2.1
theorem dL_law_202 : decode cL_law 202 = .ok (.iconst 2, 1) := gdL_law_181.2.2.2.2.2.2.2.2.2.2.2.2.2.2.2
theorem gdL_law_203 : (decode cL_law 203 = .ok (.iadd, 1)) ∧ (decode cL_law 204 = .ok (.iaload, 1)) ∧ (decode cL_law 205 = .ok (.aload_n 0, 1)) ∧ (decode cL_law 206 = .ok (.iload 4, 2)) ∧ (decode cL_law 208 = .ok (.iconst 3, 1)) ∧ (decode cL_law 209 = .ok (.iadd, 1)) ∧ (decode cL_law 210 = .ok (.iaload, 1)) ∧ (decode cL_law 211 = .ok (.aload_n 0, 1)) ∧ (decode cL_law 212 = .ok (.iload 4, 2)) ∧ (decode cL_law 214 = .ok (.iconst 4, 1)) ∧ (decode cL_law 215 = .ok (.iadd, 1)) ∧ (decode cL_law 216 = .ok (.iaload, 1)) ∧ (decode cL_law 217 = .ok (.aload_n 0, 1)) ∧ (decode cL_law 218 = .ok (.iload 4, 2)) ∧ (decode cL_law 220 = .ok (.iconst 5, 1)) ∧ (decode cL_law 221 = .ok (.iadd, 1)) := by decide +kernel
theorem dL_law_203 : decode cL_law 203 = .ok (.iadd, 1) := gdL_law_203.1
theorem dL_law_204 : decode cL_law 204 = .ok (.iaload, 1) := gdL_law_203.2.1
theorem dL_law_205 : decode cL_law 205 = .ok (.aload_n 0, 1) := gdL_law_203.2.2.1
theorem dL_law_206 : decode cL_law 206 = .ok (.iload 4, 2) := gdL_law_203.2.2.2.1
theorem dL_law_208 : decode cL_law 208 = .ok (.iconst 3, 1) := gdL_law_203.2.2.2.2.1
theorem dL_law_209 : decode cL_law 209 = .ok (.iadd, 1) := gdL_law_203.2.2.2.2.2.1
theorem dL_law_210 : decode cL_law 210 = .ok (.iaload, 1) := gdL_law_203.2.2.2.2.2.2.1
theorem dL_law_211 : decode cL_law 211 = .ok (.aload_n 0, 1) := gdL_law_203.2.2.2.2.2.2.2.1
theorem dL_law_212 : decode cL_law 212 = .ok (.iload 4, 2) := gdL_law_203.2.2.2.2.2.2.2.2.1
theorem dL_law_214 : decode cL_law 214 = .ok (.iconst 4, 1) := gdL_law_203.2.2.2.2.2.2.2.2.2.1
theorem dL_law_215 : decode cL_law 215 = .ok (.iadd, 1) := gdL_law_203.2.2.2.2.2.2.2.2.2.2.1
theorem dL_law_216 : decode cL_law 216 = .ok (.iaload, 1) := gdL_law_203.2.2.2.2.2.2.2.2.2.2.2.1
theorem dL_law_217 : decode cL_law 217 = .ok (.aload_n 0, 1) := gdL_law_203.2.2.2.2.2.2.2.2.2.2.2.2.1
theorem dL_law_218 : decode cL_law 218 = .ok (.iload 4, 2) := gdL_law_203.2.2.2.2.2.2.2.2.2.2.2.2.2.1
theorem dL_law_220 : decode cL_law 220 = .ok (.iconst 5, 1) := gdL_law_203.2.2.2.2.2.2.2.2.2.2.2.2.2.2.1
theorem dL_law_221 : decode cL_law 221 = .ok (.iadd, 1) := gdL_law_203.2.2.2.2.2.2.2.2.2.2.2.2.2.2.2
theorem gdL_law_222 : (decode cL_law 222 = .ok (.iaload, 1)) ∧ (decode cL_law 223 = .ok (.invokevirtual 59, 3)) ∧ (decode cL_law 226 = .ok (.goto 745, 3)) ∧ (decode cL_law 229 = .ok (.aload_n 1, 1)) ∧ (decode cL_law 230 = .ok (.aload_n 0, 1)) ∧ (decode cL_law 231 = .ok (.iload 4, 2)) ∧ (decode cL_law 233 = .ok (.iconst 1, 1)) ∧ (decode cL_law 234 = .ok (.iadd, 1)) ∧ (decode cL_law 235 = .ok (.iaload, 1)) ∧ (decode cL_law 236 = .ok (.aload_n 0, 1)) ∧ (decode cL_law 237 = .ok (.iload 4, 2)) ∧ (decode cL_law 239 = .ok (.iconst 2, 1)) ∧ (decode cL_law 240 = .ok (.iadd, 1)) ∧ (decode cL_law 241 = .ok (.iaload, 1)) ∧ (decode cL_law 242 = .ok (.aload_n 0, 1)) ∧ (decode cL_law 243 = .ok (.iload 4, 2)) := by decide +kernel
theorem dL_law_222 : decode cL_law 222 = .ok (.iaload, 1) := gdL_law_222.1
theorem dL_law_223 : decode cL_law 223 = .ok (.invokevirtual 59, 3) := gdL_law_222.2.1
theorem dL_law_226 : decode cL_law 226 = .ok (.goto 745, 3) := gdL_law_222.2.2.1
theorem dL_law_229 : decode cL_law 229 = .ok (.aload_n 1, 1) := gdL_law_222.2.2.2.1
theorem dL_law_230 : decode cL_law 230 = .ok (.aload_n 0, 1) := gdL_law_222.2.2.2.2.1
theorem dL_law_231 : decode cL_law 231 = .ok (.iload 4, 2) := gdL_law_222.2.2.2.2.2.1
theorem dL_law_233 : decode cL_law 233 = .ok (.iconst 1, 1) := gdL_law_222.2.2.2.2.2.2.1
theorem dL_law_234 : decode cL_law 234 = .ok (.iadd, 1) := gdL_law_222.2.2.2.2.2.2.2.1
theorem dL_law_235 : decode cL_law 235 = .ok (.iaload, 1) := gdL_law_222.2.2.2.2.2.2.2.2.1
theorem dL_law_236 : decode cL_law 236 = .ok (.aload_n 0, 1) := gdL_law_222.2.2.2.2.2.2.2.2.2.1
theorem dL_law_237 : decode cL_law 237 = .ok (.iload 4, 2) := gdL_law_222.2.2.2.2.2.2.2.2.2.2.1
theorem dL_law_239 : decode cL_law 239 = .ok (.iconst 2, 1) := gdL_law_222.2.2.2.2.2.2.2.2.2.2.2.1
theorem dL_law_240 : decode cL_law 240 = .ok (.iadd, 1) := gdL_law_222.2.2.2.2.2.2.2.2.2.2.2.2.1
theorem dL_law_241 : decode cL_law 241 = .ok (.iaload, 1) := gdL_law_222.2.2.2.2.2.2.2.2.2.2.2.2.2.1
theorem dL_law_242 : decode cL_law 242 = .ok (.aload_n 0, 1) := gdL_law_222.2.2.2.2.2.2.2.2.2.2.2.2.2.2.1
theorem dL_law_243 : decode cL_law 243 = .ok (.iload 4, 2) := gdL_law_222.2.2.2.2.2.2.2.2.2.2.2.2.2.2.2
theorem gdL_law_245 : (decode cL_law 245 = .ok (.iconst 3, 1)) ∧ (decode cL_law 246 = .ok (.iadd, 1)) ∧ (decode cL_law 247 = .ok (.iaload, 1)) ∧ (decode cL_law 248 = .ok (.invokestatic 60, 3)) ∧ (decode cL_law 251 = .ok (.istore 5, 2)) ∧ (decode cL_law 253 = .ok (.aload_n 2, 1)) ∧ (decode cL_law 254 = .ok (.aload_n 0, 1)) ∧ (decode cL_law 255 = .ok (.iload 4, 2)) ∧ (decode cL_law 257 = .ok (.iconst 1, 1)) ∧ (decode cL_law 258 = .ok (.iadd, 1)) ∧ (decode cL_law 259 = .ok (.iaload, 1)) ∧ (decode cL_law 260 = .ok (.aload_n 0, 1)) ∧ (decode cL_law 261 = .ok (.iload 4, 2)) ∧ (decode cL_law 263 = .ok (.iconst 2, 1)) ∧ (decode cL_law 264 = .ok (.iadd, 1)) ∧ (decode cL_law 265 = .ok (.iaload, 1)) := by decide +kernel
theorem dL_law_245 : decode cL_law 245 = .ok (.iconst 3, 1) := gdL_law_245.1
theorem dL_law_246 : decode cL_law 246 = .ok (.iadd, 1) := gdL_law_245.2.1
theorem dL_law_247 : decode cL_law 247 = .ok (.iaload, 1) := gdL_law_245.2.2.1
theorem dL_law_248 : decode cL_law 248 = .ok (.invokestatic 60, 3) := gdL_law_245.2.2.2.1
theorem dL_law_251 : decode cL_law 251 = .ok (.istore 5, 2) := gdL_law_245.2.2.2.2.1
theorem dL_law_253 : decode cL_law 253 = .ok (.aload_n 2, 1) := gdL_law_245.2.2.2.2.2.1
theorem dL_law_254 : decode cL_law 254 = .ok (.aload_n 0, 1) := gdL_law_245.2.2.2.2.2.2.1
theorem dL_law_255 : decode cL_law 255 = .ok (.iload 4, 2) := gdL_law_245.2.2.2.2.2.2.2.1
theorem dL_law_257 : decode cL_law 257 = .ok (.iconst 1, 1) := gdL_law_245.2.2.2.2.2.2.2.2.1
theorem dL_law_258 : decode cL_law 258 = .ok (.iadd, 1) := gdL_law_245.2.2.2.2.2.2.2.2.2.1
theorem dL_law_259 : decode cL_law 259 = .ok (.iaload, 1) := gdL_law_245.2.2.2.2.2.2.2.2.2.2.1
theorem dL_law_260 : decode cL_law 260 = .ok (.aload_n 0, 1) := gdL_law_245.2.2.2.2.2.2.2.2.2.2.2.1
theorem dL_law_261 : decode cL_law 261 = .ok (.iload 4, 2) := gdL_law_245.2.2.2.2.2.2.2.2.2.2.2.2.1
theorem dL_law_263 : decode cL_law 263 = .ok (.iconst 2, 1) := gdL_law_245.2.2.2.2.2.2.2.2.2.2.2.2.2.1
theorem dL_law_264 : decode cL_law 264 = .ok (.iadd, 1) := gdL_law_245.2.2.2.2.2.2.2.2.2.2.2.2.2.2.1
theorem dL_law_265 : decode cL_law 265 = .ok (.iaload, 1) := gdL_law_245.2.2.2.2.2.2.2.2.2.2.2.2.2.2.2
theorem gdL_law_266 : (decode cL_law 266 = .ok (.aload_n 0, 1)) ∧ (decode cL_law 267 = .ok (.iload 4, 2)) ∧ (decode cL_law 269 = .ok (.iconst 3, 1)) ∧ (decode cL_law 270 = .ok (.iadd, 1)) ∧ (decode cL_law 271 = .ok (.iaload, 1)) ∧ (decode cL_law 272 = .ok (.invokevirtual 63, 3)) ∧ (decode cL_law 275 = .ok (.goto 696, 3)) ∧ (decode cL_law 278 = .ok (.aload_n 1, 1)) ∧ (decode cL_law 279 = .ok (.aload_n 0, 1)) ∧ (decode cL_law 280 = .ok (.iload 4, 2)) ∧ (decode cL_law 282 = .ok (.iconst 1, 1)) ∧ (decode cL_law 283 = .ok (.iadd, 1)) ∧ (decode cL_law 284 = .ok (.iaload, 1)) ∧ (decode cL_law 285 = .ok (.aload_n 0, 1)) ∧ (decode cL_law 286 = .ok (.iload 4, 2)) ∧ (decode cL_law 288 = .ok (.iconst 2, 1)) := by decide +kernel
theorem dL_law_266 : decode cL_law 266 = .ok (.aload_n 0, 1) := gdL_law_266.1
theorem dL_law_267 : decode cL_law 267 = .ok (.iload 4, 2) := gdL_law_266.2.1
theorem dL_law_269 : decode cL_law 269 = .ok (.iconst 3, 1) := gdL_law_266.2.2.1
theorem dL_law_270 : decode cL_law 270 = .ok (.iadd, 1) := gdL_law_266.2.2.2.1
theorem dL_law_271 : decode cL_law 271 = .ok (.iaload, 1) := gdL_law_266.2.2.2.2.1
theorem dL_law_272 : decode cL_law 272 = .ok (.invokevirtual 63, 3) := gdL_law_266.2.2.2.2.2.1
theorem dL_law_275 : decode cL_law 275 = .ok (.goto 696, 3) := gdL_law_266.2.2.2.2.2.2.1
theorem dL_law_278 : decode cL_law 278 = .ok (.aload_n 1, 1) := gdL_law_266.2.2.2.2.2.2.2.1
theorem dL_law_279 : decode cL_law 279 = .ok (.aload_n 0, 1) := gdL_law_266.2.2.2.2.2.2.2.2.1
theorem dL_law_280 : decode cL_law 280 = .ok (.iload 4, 2) := gdL_law_266.2.2.2.2.2.2.2.2.2.1
theorem dL_law_282 : decode cL_law 282 = .ok (.iconst 1, 1) := gdL_law_266.2.2.2.2.2.2.2.2.2.2.1
theorem dL_law_283 : decode cL_law 283 = .ok (.iadd, 1) := gdL_law_266.2.2.2.2.2.2.2.2.2.2.2.1
theorem dL_law_284 : decode cL_law 284 = .ok (.iaload, 1) := gdL_law_266.2.2.2.2.2.2.2.2.2.2.2.2.1
theorem dL_law_285 : decode cL_law 285 = .ok (.aload_n 0, 1) := gdL_law_266.2.2.2.2.2.2.2.2.2.2.2.2.2.1
theorem dL_law_286 : decode cL_law 286 = .ok (.iload 4, 2) := gdL_law_266.2.2.2.2.2.2.2.2.2.2.2.2.2.2.1
theorem dL_law_288 : decode cL_law 288 = .ok (.iconst 2, 1) := gdL_law_266.2.2.2.2.2.2.2.2.2.2.2.2.2.2.2
theorem gdL_law_289 : (decode cL_law 289 = .ok (.iadd, 1)) ∧ (decode cL_law 290 = .ok (.iaload, 1)) ∧ (decode cL_law 291 = .ok (.invokevirtual 64, 3)) ∧ (decode cL_law 294 = .ok (.pop, 1)) ∧ (decode cL_law 295 = .ok (.aload_n 2, 1)) ∧ (decode cL_law 296 = .ok (.aload_n 0, 1)) ∧ (decode cL_law 297 = .ok (.iload 4, 2)) ∧ (decode cL_law 299 = .ok (.iconst 1, 1)) ∧ (decode cL_law 300 = .ok (.iadd, 1)) ∧ (decode cL_law 301 = .ok (.iaload, 1)) ∧ (decode cL_law 302 = .ok (.aload_n 0, 1)) ∧ (decode cL_law 303 = .ok (.iload 4, 2)) ∧ (decode cL_law 305 = .ok (.iconst 2, 1)) ∧ (decode cL_law 306 = .ok (.iadd, 1)) ∧ (decode cL_law 307 = .ok (.iaload, 1)) ∧ (decode cL_law 308 = .ok (.invokevirtual 66, 3)) := by decide +kernel
theorem dL_law_289 : decode cL_law 289 = .ok (.iadd, 1) := gdL_law_289.1
theorem dL_law_290 : decode cL_law 290 = .ok (.iaload, 1) := gdL_law_289.2.1
theorem dL_law_291 : decode cL_law 291 = .ok (.invokevirtual 64, 3) := gdL_law_289.2.2.1
theorem dL_law_294 : decode cL_law 294 = .ok (.pop, 1) := gdL_law_289.2.2.2.1
theorem dL_law_295 : decode cL_law 295 = .ok (.aload_n 2, 1) := gdL_law_289.2.2.2.2.1
theorem dL_law_296 : decode cL_law 296 = .ok (.aload_n 0, 1) := gdL_law_289.2.2.2.2.2.1
theorem dL_law_297 : decode cL_law 297 = .ok (.iload 4, 2) := gdL_law_289.2.2.2.2.2.2.1
theorem dL_law_299 : decode cL_law 299 = .ok (.iconst 1, 1) := gdL_law_289.2.2.2.2.2.2.2.1
theorem dL_law_300 : decode cL_law 300 = .ok (.iadd, 1) := gdL_law_289.2.2.2.2.2.2.2.2.1
theorem dL_law_301 : decode cL_law 301 = .ok (.iaload, 1) := gdL_law_289.2.2.2.2.2.2.2.2.2.1
theorem dL_law_302 : decode cL_law 302 = .ok (.aload_n 0, 1) := gdL_law_289.2.2.2.2.2.2.2.2.2.2.1
theorem dL_law_303 : decode cL_law 303 = .ok (.iload 4, 2) := gdL_law_289.2.2.2.2.2.2.2.2.2.2.2.1
theorem dL_law_305 : decode cL_law 305 = .ok (.iconst 2, 1) := gdL_law_289.2.2.2.2.2.2.2.2.2.2.2.2.1
theorem dL_law_306 : decode cL_law 306 = .ok (.iadd, 1) := gdL_law_289.2.2.2.2.2.2.2.2.2.2.2.2.2.1
theorem dL_law_307 : decode cL_law 307 = .ok (.iaload, 1) := gdL_law_289.2.2.2.2.2.2.2.2.2.2.2.2.2.2.1
theorem dL_law_308 : decode cL_law 308 = .ok (.invokevirtual 66, 3) := gdL_law_289.2.2.2.2.2.2.2.2.2.2.2.2.2.2.2
theorem gdL_law_311 : (decode cL_law 311 = .ok (.pop, 1)) ∧ (decode cL_law 312 = .ok (.goto 659, 3)) ∧ (decode cL_law 315 = .ok (.aload_n 1, 1)) ∧ (decode cL_law 316 = .ok (.aload_n 0, 1)) ∧ (decode cL_law 317 = .ok (.iload 4, 2)) ∧ (decode cL_law 319 = .ok (.iconst 1, 1)) ∧ (decode cL_law 320 = .ok (.iadd, 1)) ∧ (decode cL_law 321 = .ok (.iaload, 1)) ∧ (decode cL_law 322 = .ok (.aload_n 0, 1)) ∧ (decode cL_law 323 = .ok (.iload 4, 2)) ∧ (decode cL_law 325 = .ok (.iconst 2, 1)) ∧ (decode cL_law 326 = .ok (.iadd, 1)) ∧ (decode cL_law 327 = .ok (.iaload, 1)) ∧ (decode cL_law 328 = .ok (.aload_n 0, 1)) ∧ (decode cL_law 329 = .ok (.iload 4, 2)) ∧ (decode cL_law 331 = .ok (.iconst 3, 1)) := by decide +kernel
theorem dL_law_311 : decode cL_law 311 = .ok (.pop, 1) := gdL_law_311.1
theorem dL_law_312 : decode cL_law 312 = .ok (.goto 659, 3) := gdL_law_311.2.1
theorem dL_law_315 : decode cL_law 315 = .ok (.aload_n 1, 1) := gdL_law_311.2.2.1
theorem dL_law_316 : decode cL_law 316 = .ok (.aload_n 0, 1) := gdL_law_311.2.2.2.1
theorem dL_law_317 : decode cL_law 317 = .ok (.iload 4, 2) := gdL_law_311.2.2.2.2.1
theorem dL_law_319 : decode cL_law 319 = .ok (.iconst 1, 1) := gdL_law_311.2.2.2.2.2.1
theorem dL_law_320 : decode cL_law 320 = .ok (.iadd, 1) := gdL_law_311.2.2.2.2.2.2.1
theorem dL_law_321 : decode cL_law 321 = .ok (.iaload, 1) := gdL_law_311.2.2.2.2.2.2.2.1
theorem dL_law_322 : decode cL_law 322 = .ok (.aload_n 0, 1) := gdL_law_311.2.2.2.2.2.2.2.2.1
theorem dL_law_323 : decode cL_law 323 = .ok (.iload 4, 2) := gdL_law_311.2.2.2.2.2.2.2.2.2.1
theorem dL_law_325 : decode cL_law 325 = .ok (.iconst 2, 1) := gdL_law_311.2.2.2.2.2.2.2.2.2.2.1
theorem dL_law_326 : decode cL_law 326 = .ok (.iadd, 1) := gdL_law_311.2.2.2.2.2.2.2.2.2.2.2.1
theorem dL_law_327 : decode cL_law 327 = .ok (.iaload, 1) := gdL_law_311.2.2.2.2.2.2.2.2.2.2.2.2.1
theorem dL_law_328 : decode cL_law 328 = .ok (.aload_n 0, 1) := gdL_law_311.2.2.2.2.2.2.2.2.2.2.2.2.2.1
theorem dL_law_329 : decode cL_law 329 = .ok (.iload 4, 2) := gdL_law_311.2.2.2.2.2.2.2.2.2.2.2.2.2.2.1
theorem dL_law_331 : decode cL_law 331 = .ok (.iconst 3, 1) := gdL_law_311.2.2.2.2.2.2.2.2.2.2.2.2.2.2.2
theorem gdL_law_332 : (decode cL_law 332 = .ok (.iadd, 1)) ∧ (decode cL_law 333 = .ok (.iaload, 1)) ∧ (decode cL_law 334 = .ok (.invokestatic 67, 3)) ∧ (decode cL_law 337 = .ok (.istore 5, 2)) ∧ (decode cL_law 339 = .ok (.aload_n 2, 1)) ∧ (decode cL_law 340 = .ok (.aload_n 0, 1)) ∧ (decode cL_law 341 = .ok (.iload 4, 2)) ∧ (decode cL_law 343 = .ok (.iconst 1, 1)) ∧ (decode cL_law 344 = .ok (.iadd, 1)) ∧ (decode cL_law 345 = .ok (.iaload, 1)) ∧ (decode cL_law 346 = .ok (.aload_n 0, 1)) ∧ (decode cL_law 347 = .ok (.iload 4, 2)) ∧ (decode cL_law 349 = .ok (.iconst 2, 1)) ∧ (decode cL_law 350 = .ok (.iadd, 1)) ∧ (decode cL_law 351 = .ok (.iaload, 1)) ∧ (decode cL_law 352 = .ok (.aload_n 0, 1)) := by decide +kernel
theorem dL_law_332 : decode cL_law 332 = .ok (.iadd, 1) := gdL_law_332.1
theorem dL_law_333 : decode cL_law 333 = .ok (.iaload, 1) := gdL_law_332.2.1
theorem dL_law_334 : decode cL_law 334 = .ok (.invokestatic 67, 3) := gdL_law_332.2.2.1
theorem dL_law_337 : decode cL_law 337 = .ok (.istore 5, 2) := gdL_law_332.2.2.2.1
theorem dL_law_339 : decode cL_law 339 = .ok (.aload_n 2, 1) := gdL_law_332.2.2.2.2.1
theorem dL_law_340 : decode cL_law 340 = .ok (.aload_n 0, 1) := gdL_law_332.2.2.2.2.2.1
theorem dL_law_341 : decode cL_law 341 = .ok (.iload 4, 2) := gdL_law_332.2.2.2.2.2.2.1
theorem dL_law_343 : decode cL_law 343 = .ok (.iconst 1, 1) := gdL_law_332.2.2.2.2.2.2.2.1
theorem dL_law_344 : decode cL_law 344 = .ok (.iadd, 1) := gdL_law_332.2.2.2.2.2.2.2.2.1
theorem dL_law_345 : decode cL_law 345 = .ok (.iaload, 1) := gdL_law_332.2.2.2.2.2.2.2.2.2.1
theorem dL_law_346 : decode cL_law 346 = .ok (.aload_n 0, 1) := gdL_law_332.2.2.2.2.2.2.2.2.2.2.1
theorem dL_law_347 : decode cL_law 347 = .ok (.iload 4, 2) := gdL_law_332.2.2.2.2.2.2.2.2.2.2.2.1
theorem dL_law_349 : decode cL_law 349 = .ok (.iconst 2, 1) := gdL_law_332.2.2.2.2.2.2.2.2.2.2.2.2.1
theorem dL_law_350 : decode cL_law 350 = .ok (.iadd, 1) := gdL_law_332.2.2.2.2.2.2.2.2.2.2.2.2.2.1
theorem dL_law_351 : decode cL_law 351 = .ok (.iaload, 1) := gdL_law_332.2.2.2.2.2.2.2.2.2.2.2.2.2.2.1
theorem dL_law_352 : decode cL_law 352 = .ok (.aload_n 0, 1) := gdL_law_332.2.2.2.2.2.2.2.2.2.2.2.2.2.2.2
theorem gdL_law_353 : (decode cL_law 353 = .ok (.iload 4, 2)) ∧ (decode cL_law 355 = .ok (.iconst 3, 1)) ∧ (decode cL_law 356 = .ok (.iadd, 1)) ∧ (decode cL_law 357 = .ok (.iaload, 1)) ∧ (decode cL_law 358 = .ok (.invokevirtual 69, 3)) ∧ (decode cL_law 361 = .ok (.goto 610, 3)) ∧ (decode cL_law 364 = .ok (.aload_n 1, 1)) ∧ (decode cL_law 365 = .ok (.aload_n 0, 1)) ∧ (decode cL_law 366 = .ok (.iload 4, 2)) ∧ (decode cL_law 368 = .ok (.iconst 1, 1)) ∧ (decode cL_law 369 = .ok (.iadd, 1)) ∧ (decode cL_law 370 = .ok (.iaload, 1)) ∧ (decode cL_law 371 = .ok (.invokevirtual 70, 3)) ∧ (decode cL_law 374 = .ok (.pop, 1)) ∧ (decode cL_law 375 = .ok (.aload_n 2, 1)) ∧ (decode cL_law 376 = .ok (.aload_n 0, 1)) := by decide +kernel
theorem dL_law_353 : decode cL_law 353 = .ok (.iload 4, 2) := gdL_law_353.1
theorem dL_law_355 : decode cL_law 355 = .ok (.iconst 3, 1) := gdL_law_353.2.1
theorem dL_law_356 : decode cL_law 356 = .ok (.iadd, 1) := gdL_law_353.2.2.1
theorem dL_law_357 : decode cL_law 357 = .ok (.iaload, 1) := gdL_law_353.2.2.2.1
theorem dL_law_358 : decode cL_law 358 = .ok (.invokevirtual 69, 3) := gdL_law_353.2.2.2.2.1
theorem dL_law_361 : decode cL_law 361 = .ok (.goto 610, 3) := gdL_law_353.2.2.2.2.2.1
theorem dL_law_364 : decode cL_law 364 = .ok (.aload_n 1, 1) := gdL_law_353.2.2.2.2.2.2.1
theorem dL_law_365 : decode cL_law 365 = .ok (.aload_n 0, 1) := gdL_law_353.2.2.2.2.2.2.2.1
theorem dL_law_366 : decode cL_law 366 = .ok (.iload 4, 2) := gdL_law_353.2.2.2.2.2.2.2.2.1
theorem dL_law_368 : decode cL_law 368 = .ok (.iconst 1, 1) := gdL_law_353.2.2.2.2.2.2.2.2.2.1
theorem dL_law_369 : decode cL_law 369 = .ok (.iadd, 1) := gdL_law_353.2.2.2.2.2.2.2.2.2.2.1
theorem dL_law_370 : decode cL_law 370 = .ok (.iaload, 1) := gdL_law_353.2.2.2.2.2.2.2.2.2.2.2.1
theorem dL_law_371 : decode cL_law 371 = .ok (.invokevirtual 70, 3) := gdL_law_353.2.2.2.2.2.2.2.2.2.2.2.2.1
theorem dL_law_374 : decode cL_law 374 = .ok (.pop, 1) := gdL_law_353.2.2.2.2.2.2.2.2.2.2.2.2.2.1
theorem dL_law_375 : decode cL_law 375 = .ok (.aload_n 2, 1) := gdL_law_353.2.2.2.2.2.2.2.2.2.2.2.2.2.2.1
theorem dL_law_376 : decode cL_law 376 = .ok (.aload_n 0, 1) := gdL_law_353.2.2.2.2.2.2.2.2.2.2.2.2.2.2.2
theorem gdL_law_377 : (decode cL_law 377 = .ok (.iload 4, 2)) ∧ (decode cL_law 379 = .ok (.iconst 1, 1)) ∧ (decode cL_law 380 = .ok (.iadd, 1)) ∧ (decode cL_law 381 = .ok (.iaload, 1)) ∧ (decode cL_law 382 = .ok (.invokevirtual 74, 3)) ∧ (decode cL_law 385 = .ok (.pop, 1)) ∧ (decode cL_law 386 = .ok (.goto 585, 3)) ∧ (decode cL_law 389 = .ok (.aload_n 1, 1)) ∧ (decode cL_law 390 = .ok (.aload_n 0, 1)) ∧ (decode cL_law 391 = .ok (.iload 4, 2)) ∧ (decode cL_law 393 = .ok (.iconst 1, 1)) ∧ (decode cL_law 394 = .ok (.iadd, 1)) ∧ (decode cL_law 395 = .ok (.iaload, 1)) ∧ (decode cL_law 396 = .ok (.aload_n 0, 1)) ∧ (decode cL_law 397 = .ok (.iload 4, 2)) ∧ (decode cL_law 399 = .ok (.iconst 2, 1)) := by decide +kernel
theorem dL_law_377 : decode cL_law 377 = .ok (.iload 4, 2) := gdL_law_377.1
theorem dL_law_379 : decode cL_law 379 = .ok (.iconst 1, 1) := gdL_law_377.2.1
theorem dL_law_380 : decode cL_law 380 = .ok (.iadd, 1) := gdL_law_377.2.2.1
theorem dL_law_381 : decode cL_law 381 = .ok (.iaload, 1) := gdL_law_377.2.2.2.1
theorem dL_law_382 : decode cL_law 382 = .ok (.invokevirtual 74, 3) := gdL_law_377.2.2.2.2.1
theorem dL_law_385 : decode cL_law 385 = .ok (.pop, 1) := gdL_law_377.2.2.2.2.2.1
theorem dL_law_386 : decode cL_law 386 = .ok (.goto 585, 3) := gdL_law_377.2.2.2.2.2.2.1
theorem dL_law_389 : decode cL_law 389 = .ok (.aload_n 1, 1) := gdL_law_377.2.2.2.2.2.2.2.1
theorem dL_law_390 : decode cL_law 390 = .ok (.aload_n 0, 1) := gdL_law_377.2.2.2.2.2.2.2.2.1
theorem dL_law_391 : decode cL_law 391 = .ok (.iload 4, 2) := gdL_law_377.2.2.2.2.2.2.2.2.2.1
theorem dL_law_393 : decode cL_law 393 = .ok (.iconst 1, 1) := gdL_law_377.2.2.2.2.2.2.2.2.2.2.1
theorem dL_law_394 : decode cL_law 394 = .ok (.iadd, 1) := gdL_law_377.2.2.2.2.2.2.2.2.2.2.2.1
theorem dL_law_395 : decode cL_law 395 = .ok (.iaload, 1) := gdL_law_377.2.2.2.2.2.2.2.2.2.2.2.2.1
theorem dL_law_396 : decode cL_law 396 = .ok (.aload_n 0, 1) := gdL_law_377.2.2.2.2.2.2.2.2.2.2.2.2.2.1
theorem dL_law_397 : decode cL_law 397 = .ok (.iload 4, 2) := gdL_law_377.2.2.2.2.2.2.2.2.2.2.2.2.2.2.1
theorem dL_law_399 : decode cL_law 399 = .ok (.iconst 2, 1) := gdL_law_377.2.2.2.2.2.2.2.2.2.2.2.2.2.2.2
theorem gdL_law_400 : (decode cL_law 400 = .ok (.iadd, 1)) ∧ (decode cL_law 401 = .ok (.iaload, 1)) ∧ (decode cL_law 402 = .ok (.aload_n 0, 1)) ∧ (decode cL_law 403 = .ok (.iload 4, 2)) ∧ (decode cL_law 405 = .ok (.iconst 3, 1)) ∧ (decode cL_law 406 = .ok (.iadd, 1)) ∧ (decode cL_law 407 = .ok (.iaload, 1)) ∧ (decode cL_law 408 = .ok (.aload_n 3, 1)) ∧ (decode cL_law 409 = .ok (.invokestatic 75, 3)) ∧ (decode cL_law 412 = .ok (.istore 5, 2)) ∧ (decode cL_law 414 = .ok (.aload_n 2, 1)) ∧ (decode cL_law 415 = .ok (.aload_n 0, 1)) ∧ (decode cL_law 416 = .ok (.iload 4, 2)) ∧ (decode cL_law 418 = .ok (.iconst 1, 1)) ∧ (decode cL_law 419 = .ok (.iadd, 1)) ∧ (decode cL_law 420 = .ok (.iaload, 1)) := by decide +kernel
theorem dL_law_400 : decode cL_law 400 = .ok (.iadd, 1) := gdL_law_400.1
theorem dL_law_401 : decode cL_law 401 = .ok (.iaload, 1) := gdL_law_400.2.1
theorem dL_law_402 : decode cL_law 402 = .ok (.aload_n 0, 1) := gdL_law_400.2.2.1
theorem dL_law_403 : decode cL_law 403 = .ok (.iload 4, 2) := gdL_law_400.2.2.2.1
theorem dL_law_405 : decode cL_law 405 = .ok (.iconst 3, 1) := gdL_law_400.2.2.2.2.1
theorem dL_law_406 : decode cL_law 406 = .ok (.iadd, 1) := gdL_law_400.2.2.2.2.2.1
theorem dL_law_407 : decode cL_law 407 = .ok (.iaload, 1) := gdL_law_400.2.2.2.2.2.2.1
theorem dL_law_408 : decode cL_law 408 = .ok (.aload_n 3, 1) := gdL_law_400.2.2.2.2.2.2.2.1
theorem dL_law_409 : decode cL_law 409 = .ok (.invokestatic 75, 3) := gdL_law_400.2.2.2.2.2.2.2.2.1
theorem dL_law_412 : decode cL_law 412 = .ok (.istore 5, 2) := gdL_law_400.2.2.2.2.2.2.2.2.2.1
theorem dL_law_414 : decode cL_law 414 = .ok (.aload_n 2, 1) := gdL_law_400.2.2.2.2.2.2.2.2.2.2.1
theorem dL_law_415 : decode cL_law 415 = .ok (.aload_n 0, 1) := gdL_law_400.2.2.2.2.2.2.2.2.2.2.2.1
theorem dL_law_416 : decode cL_law 416 = .ok (.iload 4, 2) := gdL_law_400.2.2.2.2.2.2.2.2.2.2.2.2.1
theorem dL_law_418 : decode cL_law 418 = .ok (.iconst 1, 1) := gdL_law_400.2.2.2.2.2.2.2.2.2.2.2.2.2.1
theorem dL_law_419 : decode cL_law 419 = .ok (.iadd, 1) := gdL_law_400.2.2.2.2.2.2.2.2.2.2.2.2.2.2.1
theorem dL_law_420 : decode cL_law 420 = .ok (.iaload, 1) := gdL_law_400.2.2.2.2.2.2.2.2.2.2.2.2.2.2.2
theorem gdL_law_421 : (decode cL_law 421 = .ok (.aload_n 0, 1)) ∧ (decode cL_law 422 = .ok (.iload 4, 2)) ∧ (decode cL_law 424 = .ok (.iconst 2, 1)) ∧ (decode cL_law 425 = .ok (.iadd, 1)) ∧ (decode cL_law 426 = .ok (.iaload, 1)) ∧ (decode cL_law 427 = .ok (.aload_n 0, 1)) ∧ (decode cL_law 428 = .ok (.iload 4, 2)) ∧ (decode cL_law 430 = .ok (.iconst 3, 1)) ∧ (decode cL_law 431 = .ok (.iadd, 1)) ∧ (decode cL_law 432 = .ok (.iaload, 1)) ∧ (decode cL_law 433 = .ok (.invokevirtual 78, 3)) ∧ (decode cL_law 436 = .ok (.istore 6, 2)) ∧ (decode cL_law 438 = .ok (.goto 533, 3)) ∧ (decode cL_law 441 = .ok (.aload_n 1, 1)) ∧ (decode cL_law 442 = .ok (.aload_n 0, 1)) ∧ (decode cL_law 443 = .ok (.iload 4, 2)) := by decide +kernel
theorem dL_law_421 : decode cL_law 421 = .ok (.aload_n 0, 1) := gdL_law_421.1
theorem dL_law_422 : decode cL_law 422 = .ok (.iload 4, 2) := gdL_law_421.2.1
theorem dL_law_424 : decode cL_law 424 = .ok (.iconst 2, 1) := gdL_law_421.2.2.1
theorem dL_law_425 : decode cL_law 425 = .ok (.iadd, 1) := gdL_law_421.2.2.2.1
theorem dL_law_426 : decode cL_law 426 = .ok (.iaload, 1) := gdL_law_421.2.2.2.2.1
theorem dL_law_427 : decode cL_law 427 = .ok (.aload_n 0, 1) := gdL_law_421.2.2.2.2.2.1
theorem dL_law_428 : decode cL_law 428 = .ok (.iload 4, 2) := gdL_law_421.2.2.2.2.2.2.1
theorem dL_law_430 : decode cL_law 430 = .ok (.iconst 3, 1) := gdL_law_421.2.2.2.2.2.2.2.1
theorem dL_law_431 : decode cL_law 431 = .ok (.iadd, 1) := gdL_law_421.2.2.2.2.2.2.2.2.1
theorem dL_law_432 : decode cL_law 432 = .ok (.iaload, 1) := gdL_law_421.2.2.2.2.2.2.2.2.2.1
theorem dL_law_433 : decode cL_law 433 = .ok (.invokevirtual 78, 3) := gdL_law_421.2.2.2.2.2.2.2.2.2.2.1
theorem dL_law_436 : decode cL_law 436 = .ok (.istore 6, 2) := gdL_law_421.2.2.2.2.2.2.2.2.2.2.2.1
theorem dL_law_438 : decode cL_law 438 = .ok (.goto 533, 3) := gdL_law_421.2.2.2.2.2.2.2.2.2.2.2.2.1
theorem dL_law_441 : decode cL_law 441 = .ok (.aload_n 1, 1) := gdL_law_421.2.2.2.2.2.2.2.2.2.2.2.2.2.1
theorem dL_law_442 : decode cL_law 442 = .ok (.aload_n 0, 1) := gdL_law_421.2.2.2.2.2.2.2.2.2.2.2.2.2.2.1
theorem dL_law_443 : decode cL_law 443 = .ok (.iload 4, 2) := gdL_law_421.2.2.2.2.2.2.2.2.2.2.2.2.2.2.2
theorem gdL_law_445 : (decode cL_law 445 = .ok (.iconst 1, 1)) ∧ (decode cL_law 446 = .ok (.iadd, 1)) ∧ (decode cL_law 447 = .ok (.iaload, 1)) ∧ (decode cL_law 448 = .ok (.aload_n 0, 1)) ∧ (decode cL_law 449 = .ok (.iload 4, 2)) ∧ (decode cL_law 451 = .ok (.iconst 2, 1)) ∧ (decode cL_law 452 = .ok (.iadd, 1)) ∧ (decode cL_law 453 = .ok (.iaload, 1)) ∧ (decode cL_law 454 = .ok (.ifCond .eq 7, 3)) ∧ (decode cL_law 457 = .ok (.iconst 1, 1)) ∧ (decode cL_law 458 = .ok (.goto 4, 3)) ∧ (decode cL_law 461 = .ok (.iconst 0, 1)) ∧ (decode cL_law 462 = .ok (.aload_n 0, 1)) ∧ (decode cL_law 463 = .ok (.iload 4, 2)) ∧ (decode cL_law 465 = .ok (.iconst 3, 1)) ∧ (decode cL_law 466 = .ok (.iadd, 1)) := by decide +kernel
theorem dL_law_445 : decode cL_law 445 = .ok (.iconst 1, 1) := gdL_law_445.1
theorem dL_law_446 : decode cL_law 446 = .ok (.iadd, 1) := gdL_law_445.2.1
theorem dL_law_447 : decode cL_law 447 = .ok (.iaload, 1) := gdL_law_445.2.2.1
theorem dL_law_448 : decode cL_law 448 = .ok (.aload_n 0, 1) := gdL_law_445.2.2.2.1
theorem dL_law_449 : decode cL_law 449 = .ok (.iload 4, 2) := gdL_law_445.2.2.2.2.1
theorem dL_law_451 : decode cL_law 451 = .ok (.iconst 2, 1) := gdL_law_445.2.2.2.2.2.1
theorem dL_law_452 : decode cL_law 452 = .ok (.iadd, 1) := gdL_law_445.2.2.2.2.2.2.1
theorem dL_law_453 : decode cL_law 453 = .ok (.iaload, 1) := gdL_law_445.2.2.2.2.2.2.2.1
theorem dL_law_454 : decode cL_law 454 = .ok (.ifCond .eq 7, 3) := gdL_law_445.2.2.2.2.2.2.2.2.1
theorem dL_law_457 : decode cL_law 457 = .ok (.iconst 1, 1) := gdL_law_445.2.2.2.2.2.2.2.2.2.1
theorem dL_law_458 : decode cL_law 458 = .ok (.goto 4, 3) := gdL_law_445.2.2.2.2.2.2.2.2.2.2.1
theorem dL_law_461 : decode cL_law 461 = .ok (.iconst 0, 1) := gdL_law_445.2.2.2.2.2.2.2.2.2.2.2.1
theorem dL_law_462 : decode cL_law 462 = .ok (.aload_n 0, 1) := gdL_law_445.2.2.2.2.2.2.2.2.2.2.2.2.1
theorem dL_law_463 : decode cL_law 463 = .ok (.iload 4, 2) := gdL_law_445.2.2.2.2.2.2.2.2.2.2.2.2.2.1
theorem dL_law_465 : decode cL_law 465 = .ok (.iconst 3, 1) := gdL_law_445.2.2.2.2.2.2.2.2.2.2.2.2.2.2.1
theorem dL_law_466 : decode cL_law 466 = .ok (.iadd, 1) := gdL_law_445.2.2.2.2.2.2.2.2.2.2.2.2.2.2.2
theorem gdL_law_467 : (decode cL_law 467 = .ok (.iaload, 1)) ∧ (decode cL_law 468 = .ok (.aload_n 0, 1)) ∧ (decode cL_law 469 = .ok (.iload 4, 2)) ∧ (decode cL_law 471 = .ok (.iconst 4, 1)) ∧ (decode cL_law 472 = .ok (.iadd, 1)) ∧ (decode cL_law 473 = .ok (.iaload, 1)) ∧ (decode cL_law 474 = .ok (.aload_n 0, 1)) ∧ (decode cL_law 475 = .ok (.iload 4, 2)) ∧ (decode cL_law 477 = .ok (.iconst 5, 1)) ∧ (decode cL_law 478 = .ok (.iadd, 1)) ∧ (decode cL_law 479 = .ok (.iaload, 1)) ∧ (decode cL_law 480 = .ok (.aload_n 0, 1)) ∧ (decode cL_law 481 = .ok (.iload 4, 2)) ∧ (decode cL_law 483 = .ok (.bipush 6, 2)) ∧ (decode cL_law 485 = .ok (.iadd, 1)) ∧ (decode cL_law 486 = .ok (.iaload, 1)) := by decide +kernel
theorem dL_law_467 : decode cL_law 467 = .ok (.iaload, 1) := gdL_law_467.1
theorem dL_law_468 : decode cL_law 468 = .ok (.aload_n 0, 1) := gdL_law_467.2.1
theorem dL_law_469 : decode cL_law 469 = .ok (.iload 4, 2) := gdL_law_467.2.2.1
theorem dL_law_471 : decode cL_law 471 = .ok (.iconst 4, 1) := gdL_law_467.2.2.2.1
theorem dL_law_472 : decode cL_law 472 = .ok (.iadd, 1) := gdL_law_467.2.2.2.2.1
theorem dL_law_473 : decode cL_law 473 = .ok (.iaload, 1) := gdL_law_467.2.2.2.2.2.1
theorem dL_law_474 : decode cL_law 474 = .ok (.aload_n 0, 1) := gdL_law_467.2.2.2.2.2.2.1
theorem dL_law_475 : decode cL_law 475 = .ok (.iload 4, 2) := gdL_law_467.2.2.2.2.2.2.2.1
theorem dL_law_477 : decode cL_law 477 = .ok (.iconst 5, 1) := gdL_law_467.2.2.2.2.2.2.2.2.1
theorem dL_law_478 : decode cL_law 478 = .ok (.iadd, 1) := gdL_law_467.2.2.2.2.2.2.2.2.2.1
theorem dL_law_479 : decode cL_law 479 = .ok (.iaload, 1) := gdL_law_467.2.2.2.2.2.2.2.2.2.2.1
theorem dL_law_480 : decode cL_law 480 = .ok (.aload_n 0, 1) := gdL_law_467.2.2.2.2.2.2.2.2.2.2.2.1
theorem dL_law_481 : decode cL_law 481 = .ok (.iload 4, 2) := gdL_law_467.2.2.2.2.2.2.2.2.2.2.2.2.1
theorem dL_law_483 : decode cL_law 483 = .ok (.bipush 6, 2) := gdL_law_467.2.2.2.2.2.2.2.2.2.2.2.2.2.1
theorem dL_law_485 : decode cL_law 485 = .ok (.iadd, 1) := gdL_law_467.2.2.2.2.2.2.2.2.2.2.2.2.2.2.1
theorem dL_law_486 : decode cL_law 486 = .ok (.iaload, 1) := gdL_law_467.2.2.2.2.2.2.2.2.2.2.2.2.2.2.2
theorem gdL_law_487 : (decode cL_law 487 = .ok (.aload_n 3, 1)) ∧ (decode cL_law 488 = .ok (.invokestatic 79, 3)) ∧ (decode cL_law 491 = .ok (.istore 5, 2)) ∧ (decode cL_law 493 = .ok (.aload_n 2, 1)) ∧ (decode cL_law 494 = .ok (.aload_n 0, 1)) ∧ (decode cL_law 495 = .ok (.iload 4, 2)) ∧ (decode cL_law 497 = .ok (.iconst 1, 1)) ∧ (decode cL_law 498 = .ok (.iadd, 1)) ∧ (decode cL_law 499 = .ok (.iaload, 1)) ∧ (decode cL_law 500 = .ok (.aload_n 0, 1)) ∧ (decode cL_law 501 = .ok (.iload 4, 2)) ∧ (decode cL_law 503 = .ok (.iconst 2, 1)) ∧ (decode cL_law 504 = .ok (.iadd, 1)) ∧ (decode cL_law 505 = .ok (.iaload, 1)) ∧ (decode cL_law 506 = .ok (.ifCond .eq 7, 3)) ∧ (decode cL_law 509 = .ok (.iconst 1, 1)) := by decide +kernel
theorem dL_law_487 : decode cL_law 487 = .ok (.aload_n 3, 1) := gdL_law_487.1
theorem dL_law_488 : decode cL_law 488 = .ok (.invokestatic 79, 3) := gdL_law_487.2.1
theorem dL_law_491 : decode cL_law 491 = .ok (.istore 5, 2) := gdL_law_487.2.2.1
theorem dL_law_493 : decode cL_law 493 = .ok (.aload_n 2, 1) := gdL_law_487.2.2.2.1
theorem dL_law_494 : decode cL_law 494 = .ok (.aload_n 0, 1) := gdL_law_487.2.2.2.2.1
theorem dL_law_495 : decode cL_law 495 = .ok (.iload 4, 2) := gdL_law_487.2.2.2.2.2.1
theorem dL_law_497 : decode cL_law 497 = .ok (.iconst 1, 1) := gdL_law_487.2.2.2.2.2.2.1
theorem dL_law_498 : decode cL_law 498 = .ok (.iadd, 1) := gdL_law_487.2.2.2.2.2.2.2.1
theorem dL_law_499 : decode cL_law 499 = .ok (.iaload, 1) := gdL_law_487.2.2.2.2.2.2.2.2.1
theorem dL_law_500 : decode cL_law 500 = .ok (.aload_n 0, 1) := gdL_law_487.2.2.2.2.2.2.2.2.2.1
theorem dL_law_501 : decode cL_law 501 = .ok (.iload 4, 2) := gdL_law_487.2.2.2.2.2.2.2.2.2.2.1
theorem dL_law_503 : decode cL_law 503 = .ok (.iconst 2, 1) := gdL_law_487.2.2.2.2.2.2.2.2.2.2.2.1
theorem dL_law_504 : decode cL_law 504 = .ok (.iadd, 1) := gdL_law_487.2.2.2.2.2.2.2.2.2.2.2.2.1
theorem dL_law_505 : decode cL_law 505 = .ok (.iaload, 1) := gdL_law_487.2.2.2.2.2.2.2.2.2.2.2.2.2.1
theorem dL_law_506 : decode cL_law 506 = .ok (.ifCond .eq 7, 3) := gdL_law_487.2.2.2.2.2.2.2.2.2.2.2.2.2.2.1
theorem dL_law_509 : decode cL_law 509 = .ok (.iconst 1, 1) := gdL_law_487.2.2.2.2.2.2.2.2.2.2.2.2.2.2.2
theorem gdL_law_510 : (decode cL_law 510 = .ok (.goto 4, 3)) ∧ (decode cL_law 513 = .ok (.iconst 0, 1)) ∧ (decode cL_law 514 = .ok (.aload_n 0, 1)) ∧ (decode cL_law 515 = .ok (.iload 4, 2)) ∧ (decode cL_law 517 = .ok (.iconst 3, 1)) ∧ (decode cL_law 518 = .ok (.iadd, 1)) ∧ (decode cL_law 519 = .ok (.iaload, 1)) ∧ (decode cL_law 520 = .ok (.aload_n 0, 1)) ∧ (decode cL_law 521 = .ok (.iload 4, 2)) ∧ (decode cL_law 523 = .ok (.iconst 4, 1)) ∧ (decode cL_law 524 = .ok (.iadd, 1)) ∧ (decode cL_law 525 = .ok (.iaload, 1)) ∧ (decode cL_law 526 = .ok (.aload_n 0, 1)) ∧ (decode cL_law 527 = .ok (.iload 4, 2)) ∧ (decode cL_law 529 = .ok (.iconst 5, 1)) ∧ (decode cL_law 530 = .ok (.iadd, 1)) := by decide +kernel
theorem dL_law_510 : decode cL_law 510 = .ok (.goto 4, 3) := gdL_law_510.1
theorem dL_law_513 : decode cL_law 513 = .ok (.iconst 0, 1) := gdL_law_510.2.1
theorem dL_law_514 : decode cL_law 514 = .ok (.aload_n 0, 1) := gdL_law_510.2.2.1
theorem dL_law_515 : decode cL_law 515 = .ok (.iload 4, 2) := gdL_law_510.2.2.2.1
theorem dL_law_517 : decode cL_law 517 = .ok (.iconst 3, 1) := gdL_law_510.2.2.2.2.1
theorem dL_law_518 : decode cL_law 518 = .ok (.iadd, 1) := gdL_law_510.2.2.2.2.2.1
theorem dL_law_519 : decode cL_law 519 = .ok (.iaload, 1) := gdL_law_510.2.2.2.2.2.2.1
theorem dL_law_520 : decode cL_law 520 = .ok (.aload_n 0, 1) := gdL_law_510.2.2.2.2.2.2.2.1
theorem dL_law_521 : decode cL_law 521 = .ok (.iload 4, 2) := gdL_law_510.2.2.2.2.2.2.2.2.1
theorem dL_law_523 : decode cL_law 523 = .ok (.iconst 4, 1) := gdL_law_510.2.2.2.2.2.2.2.2.2.1
theorem dL_law_524 : decode cL_law 524 = .ok (.iadd, 1) := gdL_law_510.2.2.2.2.2.2.2.2.2.2.1
theorem dL_law_525 : decode cL_law 525 = .ok (.iaload, 1) := gdL_law_510.2.2.2.2.2.2.2.2.2.2.2.1
theorem dL_law_526 : decode cL_law 526 = .ok (.aload_n 0, 1) := gdL_law_510.2.2.2.2.2.2.2.2.2.2.2.2.1
theorem dL_law_527 : decode cL_law 527 = .ok (.iload 4, 2) := gdL_law_510.2.2.2.2.2.2.2.2.2.2.2.2.2.1
theorem dL_law_529 : decode cL_law 529 = .ok (.iconst 5, 1) := gdL_law_510.2.2.2.2.2.2.2.2.2.2.2.2.2.2.1
theorem dL_law_530 : decode cL_law 530 = .ok (.iadd, 1) := gdL_law_510.2.2.2.2.2.2.2.2.2.2.2.2.2.2.2
theorem gdL_law_531 : (decode cL_law 531 = .ok (.iaload, 1)) ∧ (decode cL_law 532 = .ok (.aload_n 0, 1)) ∧ (decode cL_law 533 = .ok (.iload 4, 2)) ∧ (decode cL_law 535 = .ok (.bipush 6, 2)) ∧ (decode cL_law 537 = .ok (.iadd, 1)) ∧ (decode cL_law 538 = .ok (.iaload, 1)) ∧ (decode cL_law 539 = .ok (.invokevirtual 82, 3)) ∧ (decode cL_law 542 = .ok (.istore 6, 2)) ∧ (decode cL_law 544 = .ok (.goto 427, 3)) ∧ (decode cL_law 547 = .ok (.aload_n 1, 1)) ∧ (decode cL_law 548 = .ok (.aload_n 0, 1)) ∧ (decode cL_law 549 = .ok (.iload 4, 2)) ∧ (decode cL_law 551 = .ok (.iconst 1, 1)) ∧ (decode cL_law 552 = .ok (.iadd, 1)) ∧ (decode cL_law 553 = .ok (.iaload, 1)) ∧ (decode cL_law 554 = .ok (.aload_n 0, 1)) := by decide +kernel
theorem dL_law_531 : decode cL_law 531 = .ok (.iaload, 1) := gdL_law_531.1
theorem dL_law_532 : decode cL_law 532 = .ok (.aload_n 0, 1) := gdL_law_531.2.1
theorem dL_law_533 : decode cL_law 533 = .ok (.iload 4, 2) := gdL_law_531.2.2.1
theorem dL_law_535 : decode cL_law 535 = .ok (.bipush 6, 2) := gdL_law_531.2.2.2.1
theorem dL_law_537 : decode cL_law 537 = .ok (.iadd, 1) := gdL_law_531.2.2.2.2.1
theorem dL_law_538 : decode cL_law 538 = .ok (.iaload, 1) := gdL_law_531.2.2.2.2.2.1
theorem dL_law_539 : decode cL_law 539 = .ok (.invokevirtual 82, 3) := gdL_law_531.2.2.2.2.2.2.1
theorem dL_law_542 : decode cL_law 542 = .ok (.istore 6, 2) := gdL_law_531.2.2.2.2.2.2.2.1
theorem dL_law_544 : decode cL_law 544 = .ok (.goto 427, 3) := gdL_law_531.2.2.2.2.2.2.2.2.1
theorem dL_law_547 : decode cL_law 547 = .ok (.aload_n 1, 1) := gdL_law_531.2.2.2.2.2.2.2.2.2.1
theorem dL_law_548 : decode cL_law 548 = .ok (.aload_n 0, 1) := gdL_law_531.2.2.2.2.2.2.2.2.2.2.1
theorem dL_law_549 : decode cL_law 549 = .ok (.iload 4, 2) := gdL_law_531.2.2.2.2.2.2.2.2.2.2.2.1
theorem dL_law_551 : decode cL_law 551 = .ok (.iconst 1, 1) := gdL_law_531.2.2.2.2.2.2.2.2.2.2.2.2.1
theorem dL_law_552 : decode cL_law 552 = .ok (.iadd, 1) := gdL_law_531.2.2.2.2.2.2.2.2.2.2.2.2.2.1
theorem dL_law_553 : decode cL_law 553 = .ok (.iaload, 1) := gdL_law_531.2.2.2.2.2.2.2.2.2.2.2.2.2.2.1
theorem dL_law_554 : decode cL_law 554 = .ok (.aload_n 0, 1) := gdL_law_531.2.2.2.2.2.2.2.2.2.2.2.2.2.2.2
theorem gdL_law_555 : (decode cL_law 555 = .ok (.iload 4, 2)) ∧ (decode cL_law 557 = .ok (.iconst 2, 1)) ∧ (decode cL_law 558 = .ok (.iadd, 1)) ∧ (decode cL_law 559 = .ok (.iaload, 1)) ∧ (decode cL_law 560 = .ok (.aload_n 0, 1)) ∧ (decode cL_law 561 = .ok (.iload 4, 2)) ∧ (decode cL_law 563 = .ok (.iconst 3, 1)) ∧ (decode cL_law 564 = .ok (.iadd, 1)) ∧ (decode cL_law 565 = .ok (.iaload, 1)) ∧ (decode cL_law 566 = .ok (.aload_n 0, 1)) ∧ (decode cL_law 567 = .ok (.iload 4, 2)) ∧ (decode cL_law 569 = .ok (.iconst 4, 1)) ∧ (decode cL_law 570 = .ok (.iadd, 1)) ∧ (decode cL_law 571 = .ok (.iaload, 1)) ∧ (decode cL_law 572 = .ok (.aload_n 0, 1)) ∧ (decode cL_law 573 = .ok (.iload 4, 2)) := by decide +kernel
theorem dL_law_555 : decode cL_law 555 = .ok (.iload 4, 2) := gdL_law_555.1
theorem dL_law_557 : decode cL_law 557 = .ok (.iconst 2, 1) := gdL_law_555.2.1
theorem dL_law_558 : decode cL_law 558 = .ok (.iadd, 1) := gdL_law_555.2.2.1
theorem dL_law_559 : decode cL_law 559 = .ok (.iaload, 1) := gdL_law_555.2.2.2.1
theorem dL_law_560 : decode cL_law 560 = .ok (.aload_n 0, 1) := gdL_law_555.2.2.2.2.1
theorem dL_law_561 : decode cL_law 561 = .ok (.iload 4, 2) := gdL_law_555.2.2.2.2.2.1
theorem dL_law_563 : decode cL_law 563 = .ok (.iconst 3, 1) := gdL_law_555.2.2.2.2.2.2.1
theorem dL_law_564 : decode cL_law 564 = .ok (.iadd, 1) := gdL_law_555.2.2.2.2.2.2.2.1
theorem dL_law_565 : decode cL_law 565 = .ok (.iaload, 1) := gdL_law_555.2.2.2.2.2.2.2.2.1
theorem dL_law_566 : decode cL_law 566 = .ok (.aload_n 0, 1) := gdL_law_555.2.2.2.2.2.2.2.2.2.1
theorem dL_law_567 : decode cL_law 567 = .ok (.iload 4, 2) := gdL_law_555.2.2.2.2.2.2.2.2.2.2.1
theorem dL_law_569 : decode cL_law 569 = .ok (.iconst 4, 1) := gdL_law_555.2.2.2.2.2.2.2.2.2.2.2.1
theorem dL_law_570 : decode cL_law 570 = .ok (.iadd, 1) := gdL_law_555.2.2.2.2.2.2.2.2.2.2.2.2.1
theorem dL_law_571 : decode cL_law 571 = .ok (.iaload, 1) := gdL_law_555.2.2.2.2.2.2.2.2.2.2.2.2.2.1
theorem dL_law_572 : decode cL_law 572 = .ok (.aload_n 0, 1) := gdL_law_555.2.2.2.2.2.2.2.2.2.2.2.2.2.2.1
theorem dL_law_573 : decode cL_law 573 = .ok (.iload 4, 2) := gdL_law_555.2.2.2.2.2.2.2.2.2.2.2.2.2.2.2
theorem gdL_law_575 : (decode cL_law 575 = .ok (.iconst 5, 1)) ∧ (decode cL_law 576 = .ok (.iadd, 1)) ∧ (decode cL_law 577 = .ok (.iaload, 1)) ∧ (decode cL_law 578 = .ok (.aload_n 3, 1)) ∧ (decode cL_law 579 = .ok (.invokestatic 83, 3)) ∧ (decode cL_law 582 = .ok (.istore 5, 2)) ∧ (decode cL_law 584 = .ok (.aload_n 2, 1)) ∧ (decode cL_law 585 = .ok (.aload_n 0, 1)) ∧ (decode cL_law 586 = .ok (.iload 4, 2)) ∧ (decode cL_law 588 = .ok (.iconst 1, 1)) ∧ (decode cL_law 589 = .ok (.iadd, 1)) ∧ (decode cL_law 590 = .ok (.iaload, 1)) ∧ (decode cL_law 591 = .ok (.aload_n 0, 1)) ∧ (decode cL_law 592 = .ok (.iload 4, 2)) ∧ (decode cL_law 594 = .ok (.iconst 2, 1)) ∧ (decode cL_law 595 = .ok (.iadd, 1)) := by decide +kernel
theorem dL_law_575 : decode cL_law 575 = .ok (.iconst 5, 1) := gdL_law_575.1
theorem dL_law_576 : decode cL_law 576 = .ok (.iadd, 1) := gdL_law_575.2.1
theorem dL_law_577 : decode cL_law 577 = .ok (.iaload, 1) := gdL_law_575.2.2.1
theorem dL_law_578 : decode cL_law 578 = .ok (.aload_n 3, 1) := gdL_law_575.2.2.2.1
theorem dL_law_579 : decode cL_law 579 = .ok (.invokestatic 83, 3) := gdL_law_575.2.2.2.2.1
theorem dL_law_582 : decode cL_law 582 = .ok (.istore 5, 2) := gdL_law_575.2.2.2.2.2.1
theorem dL_law_584 : decode cL_law 584 = .ok (.aload_n 2, 1) := gdL_law_575.2.2.2.2.2.2.1
theorem dL_law_585 : decode cL_law 585 = .ok (.aload_n 0, 1) := gdL_law_575.2.2.2.2.2.2.2.1
theorem dL_law_586 : decode cL_law 586 = .ok (.iload 4, 2) := gdL_law_575.2.2.2.2.2.2.2.2.1
theorem dL_law_588 : decode cL_law 588 = .ok (.iconst 1, 1) := gdL_law_575.2.2.2.2.2.2.2.2.2.1
theorem dL_law_589 : decode cL_law 589 = .ok (.iadd, 1) := gdL_law_575.2.2.2.2.2.2.2.2.2.2.1
theorem dL_law_590 : decode cL_law 590 = .ok (.iaload, 1) := gdL_law_575.2.2.2.2.2.2.2.2.2.2.2.1
theorem dL_law_591 : decode cL_law 591 = .ok (.aload_n 0, 1) := gdL_law_575.2.2.2.2.2.2.2.2.2.2.2.2.1
theorem dL_law_592 : decode cL_law 592 = .ok (.iload 4, 2) := gdL_law_575.2.2.2.2.2.2.2.2.2.2.2.2.2.1
theorem dL_law_594 : decode cL_law 594 = .ok (.iconst 2, 1) := gdL_law_575.2.2.2.2.2.2.2.2.2.2.2.2.2.2.1
theorem dL_law_595 : decode cL_law 595 = .ok (.iadd, 1) := gdL_law_575.2.2.2.2.2.2.2.2.2.2.2.2.2.2.2
theorem gdL_law_596 : (decode cL_law 596 = .ok (.iaload, 1)) ∧ (decode cL_law 597 = .ok (.aload_n 0, 1)) ∧ (decode cL_law 598 = .ok (.iload 4, 2)) ∧ (decode cL_law 600 = .ok (.iconst 3, 1)) ∧ (decode cL_law 601 = .ok (.iadd, 1)) ∧ (decode cL_law 602 = .ok (.iaload, 1)) ∧ (decode cL_law 603 = .ok (.aload_n 0, 1)) ∧ (decode cL_law 604 = .ok (.iload 4, 2)) ∧ (decode cL_law 606 = .ok (.iconst 4, 1)) ∧ (decode cL_law 607 = .ok (.iadd, 1)) ∧ (decode cL_law 608 = .ok (.iaload, 1)) ∧ (decode cL_law 609 = .ok (.aload_n 0, 1)) ∧ (decode cL_law 610 = .ok (.iload 4, 2)) ∧ (decode cL_law 612 = .ok (.iconst 5, 1)) ∧ (decode cL_law 613 = .ok (.iadd, 1)) ∧ (decode cL_law 614 = .ok (.iaload, 1)) := by decide +kernel
theorem dL_law_596 : decode cL_law 596 = .ok (.iaload, 1) := gdL_law_596.1
theorem dL_law_597 : decode cL_law 597 = .ok (.aload_n 0, 1) := gdL_law_596.2.1
theorem dL_law_598 : decode cL_law 598 = .ok (.iload 4, 2) := gdL_law_596.2.2.1
theorem dL_law_600 : decode cL_law 600 = .ok (.iconst 3, 1) := gdL_law_596.2.2.2.1
theorem dL_law_601 : decode cL_law 601 = .ok (.iadd, 1) := gdL_law_596.2.2.2.2.1
theorem dL_law_602 : decode cL_law 602 = .ok (.iaload, 1) := gdL_law_596.2.2.2.2.2.1
theorem dL_law_603 : decode cL_law 603 = .ok (.aload_n 0, 1) := gdL_law_596.2.2.2.2.2.2.1
theorem dL_law_604 : decode cL_law 604 = .ok (.iload 4, 2) := gdL_law_596.2.2.2.2.2.2.2.1
theorem dL_law_606 : decode cL_law 606 = .ok (.iconst 4, 1) := gdL_law_596.2.2.2.2.2.2.2.2.1
theorem dL_law_607 : decode cL_law 607 = .ok (.iadd, 1) := gdL_law_596.2.2.2.2.2.2.2.2.2.1
theorem dL_law_608 : decode cL_law 608 = .ok (.iaload, 1) := gdL_law_596.2.2.2.2.2.2.2.2.2.2.1
theorem dL_law_609 : decode cL_law 609 = .ok (.aload_n 0, 1) := gdL_law_596.2.2.2.2.2.2.2.2.2.2.2.1
theorem dL_law_610 : decode cL_law 610 = .ok (.iload 4, 2) := gdL_law_596.2.2.2.2.2.2.2.2.2.2.2.2.1
theorem dL_law_612 : decode cL_law 612 = .ok (.iconst 5, 1) := gdL_law_596.2.2.2.2.2.2.2.2.2.2.2.2.2.1
theorem dL_law_613 : decode cL_law 613 = .ok (.iadd, 1) := gdL_law_596.2.2.2.2.2.2.2.2.2.2.2.2.2.2.1
theorem dL_law_614 : decode cL_law 614 = .ok (.iaload, 1) := gdL_law_596.2.2.2.2.2.2.2.2.2.2.2.2.2.2.2
theorem gdL_law_615 : (decode cL_law 615 = .ok (.invokevirtual 86, 3)) ∧ (decode cL_law 618 = .ok (.istore 6, 2)) ∧ (decode cL_law 620 = .ok (.goto 351, 3)) ∧ (decode cL_law 623 = .ok (.aload_n 1, 1)) ∧ (decode cL_law 624 = .ok (.aload_n 0, 1)) ∧ (decode cL_law 625 = .ok (.iload 4, 2)) ∧ (decode cL_law 627 = .ok (.iconst 1, 1)) ∧ (decode cL_law 628 = .ok (.iadd, 1)) ∧ (decode cL_law 629 = .ok (.iaload, 1)) ∧ (decode cL_law 630 = .ok (.aload_n 0, 1)) ∧ (decode cL_law 631 = .ok (.iload 4, 2)) ∧ (decode cL_law 633 = .ok (.iconst 2, 1)) ∧ (decode cL_law 634 = .ok (.iadd, 1)) ∧ (decode cL_law 635 = .ok (.iaload, 1)) ∧ (decode cL_law 636 = .ok (.aload_n 0, 1)) ∧ (decode cL_law 637 = .ok (.iload 4, 2)) := by decide +kernel
theorem dL_law_615 : decode cL_law 615 = .ok (.invokevirtual 86, 3) := gdL_law_615.1
theorem dL_law_618 : decode cL_law 618 = .ok (.istore 6, 2) := gdL_law_615.2.1
theorem dL_law_620 : decode cL_law 620 = .ok (.goto 351, 3) := gdL_law_615.2.2.1
theorem dL_law_623 : decode cL_law 623 = .ok (.aload_n 1, 1) := gdL_law_615.2.2.2.1
theorem dL_law_624 : decode cL_law 624 = .ok (.aload_n 0, 1) := gdL_law_615.2.2.2.2.1
theorem dL_law_625 : decode cL_law 625 = .ok (.iload 4, 2) := gdL_law_615.2.2.2.2.2.1
theorem dL_law_627 : decode cL_law 627 = .ok (.iconst 1, 1) := gdL_law_615.2.2.2.2.2.2.1
theorem dL_law_628 : decode cL_law 628 = .ok (.iadd, 1) := gdL_law_615.2.2.2.2.2.2.2.1
theorem dL_law_629 : decode cL_law 629 = .ok (.iaload, 1) := gdL_law_615.2.2.2.2.2.2.2.2.1
theorem dL_law_630 : decode cL_law 630 = .ok (.aload_n 0, 1) := gdL_law_615.2.2.2.2.2.2.2.2.2.1
theorem dL_law_631 : decode cL_law 631 = .ok (.iload 4, 2) := gdL_law_615.2.2.2.2.2.2.2.2.2.2.1
theorem dL_law_633 : decode cL_law 633 = .ok (.iconst 2, 1) := gdL_law_615.2.2.2.2.2.2.2.2.2.2.2.1
theorem dL_law_634 : decode cL_law 634 = .ok (.iadd, 1) := gdL_law_615.2.2.2.2.2.2.2.2.2.2.2.2.1
theorem dL_law_635 : decode cL_law 635 = .ok (.iaload, 1) := gdL_law_615.2.2.2.2.2.2.2.2.2.2.2.2.2.1
theorem dL_law_636 : decode cL_law 636 = .ok (.aload_n 0, 1) := gdL_law_615.2.2.2.2.2.2.2.2.2.2.2.2.2.2.1
theorem dL_law_637 : decode cL_law 637 = .ok (.iload 4, 2) := gdL_law_615.2.2.2.2.2.2.2.2.2.2.2.2.2.2.2
theorem gdL_law_639 : (decode cL_law 639 = .ok (.iconst 3, 1)) ∧ (decode cL_law 640 = .ok (.iadd, 1)) ∧ (decode cL_law 641 = .ok (.iaload, 1)) ∧ (decode cL_law 642 = .ok (.aload_n 3, 1)) ∧ (decode cL_law 643 = .ok (.invokestatic 87, 3)) ∧ (decode cL_law 646 = .ok (.istore 5, 2)) ∧ (decode cL_law 648 = .ok (.aload_n 2, 1)) ∧ (decode cL_law 649 = .ok (.aload_n 0, 1)) ∧ (decode cL_law 650 = .ok (.iload 4, 2)) ∧ (decode cL_law 652 = .ok (.iconst 1, 1)) ∧ (decode cL_law 653 = .ok (.iadd, 1)) ∧ (decode cL_law 654 = .ok (.iaload, 1)) ∧ (decode cL_law 655 = .ok (.aload_n 0, 1)) ∧ (decode cL_law 656 = .ok (.iload 4, 2)) ∧ (decode cL_law 658 = .ok (.iconst 2, 1)) ∧ (decode cL_law 659 = .ok (.iadd, 1)) := by decide +kernel
theorem dL_law_639 : decode cL_law 639 = .ok (.iconst 3, 1) := gdL_law_639.1
theorem dL_law_640 : decode cL_law 640 = .ok (.iadd, 1) := gdL_law_639.2.1
theorem dL_law_641 : decode cL_law 641 = .ok (.iaload, 1) := gdL_law_639.2.2.1
theorem dL_law_642 : decode cL_law 642 = .ok (.aload_n 3, 1) := gdL_law_639.2.2.2.1
theorem dL_law_643 : decode cL_law 643 = .ok (.invokestatic 87, 3) := gdL_law_639.2.2.2.2.1
theorem dL_law_646 : decode cL_law 646 = .ok (.istore 5, 2) := gdL_law_639.2.2.2.2.2.1
theorem dL_law_648 : decode cL_law 648 = .ok (.aload_n 2, 1) := gdL_law_639.2.2.2.2.2.2.1
theorem dL_law_649 : decode cL_law 649 = .ok (.aload_n 0, 1) := gdL_law_639.2.2.2.2.2.2.2.1
theorem dL_law_650 : decode cL_law 650 = .ok (.iload 4, 2) := gdL_law_639.2.2.2.2.2.2.2.2.1
theorem dL_law_652 : decode cL_law 652 = .ok (.iconst 1, 1) := gdL_law_639.2.2.2.2.2.2.2.2.2.1
theorem dL_law_653 : decode cL_law 653 = .ok (.iadd, 1) := gdL_law_639.2.2.2.2.2.2.2.2.2.2.1
theorem dL_law_654 : decode cL_law 654 = .ok (.iaload, 1) := gdL_law_639.2.2.2.2.2.2.2.2.2.2.2.1
theorem dL_law_655 : decode cL_law 655 = .ok (.aload_n 0, 1) := gdL_law_639.2.2.2.2.2.2.2.2.2.2.2.2.1
theorem dL_law_656 : decode cL_law 656 = .ok (.iload 4, 2) := gdL_law_639.2.2.2.2.2.2.2.2.2.2.2.2.2.1
theorem dL_law_658 : decode cL_law 658 = .ok (.iconst 2, 1) := gdL_law_639.2.2.2.2.2.2.2.2.2.2.2.2.2.2.1
theorem dL_law_659 : decode cL_law 659 = .ok (.iadd, 1) := gdL_law_639.2.2.2.2.2.2.2.2.2.2.2.2.2.2.2
theorem gdL_law_660 : (decode cL_law 660 = .ok (.iaload, 1)) ∧ (decode cL_law 661 = .ok (.aload_n 0, 1)) ∧ (decode cL_law 662 = .ok (.iload 4, 2)) ∧ (decode cL_law 664 = .ok (.iconst 3, 1)) ∧ (decode cL_law 665 = .ok (.iadd, 1)) ∧ (decode cL_law 666 = .ok (.iaload, 1)) ∧ (decode cL_law 667 = .ok (.invokevirtual 89, 3)) ∧ (decode cL_law 670 = .ok (.istore 6, 2)) ∧ (decode cL_law 672 = .ok (.goto 299, 3)) ∧ (decode cL_law 675 = .ok (.aload_n 1, 1)) ∧ (decode cL_law 676 = .ok (.aload_n 0, 1)) ∧ (decode cL_law 677 = .ok (.iload 4, 2)) ∧ (decode cL_law 679 = .ok (.iconst 1, 1)) ∧ (decode cL_law 680 = .ok (.iadd, 1)) ∧ (decode cL_law 681 = .ok (.iaload, 1)) ∧ (decode cL_law 682 = .ok (.invokevirtual 90, 3)) := by decide +kernel
theorem dL_law_660 : decode cL_law 660 = .ok (.iaload, 1) := gdL_law_660.1
theorem dL_law_661 : decode cL_law 661 = .ok (.aload_n 0, 1) := gdL_law_660.2.1
theorem dL_law_662 : decode cL_law 662 = .ok (.iload 4, 2) := gdL_law_660.2.2.1
theorem dL_law_664 : decode cL_law 664 = .ok (.iconst 3, 1) := gdL_law_660.2.2.2.1
theorem dL_law_665 : decode cL_law 665 = .ok (.iadd, 1) := gdL_law_660.2.2.2.2.1
theorem dL_law_666 : decode cL_law 666 = .ok (.iaload, 1) := gdL_law_660.2.2.2.2.2.1
theorem dL_law_667 : decode cL_law 667 = .ok (.invokevirtual 89, 3) := gdL_law_660.2.2.2.2.2.2.1
theorem dL_law_670 : decode cL_law 670 = .ok (.istore 6, 2) := gdL_law_660.2.2.2.2.2.2.2.1
theorem dL_law_672 : decode cL_law 672 = .ok (.goto 299, 3) := gdL_law_660.2.2.2.2.2.2.2.2.1
theorem dL_law_675 : decode cL_law 675 = .ok (.aload_n 1, 1) := gdL_law_660.2.2.2.2.2.2.2.2.2.1
theorem dL_law_676 : decode cL_law 676 = .ok (.aload_n 0, 1) := gdL_law_660.2.2.2.2.2.2.2.2.2.2.1
theorem dL_law_677 : decode cL_law 677 = .ok (.iload 4, 2) := gdL_law_660.2.2.2.2.2.2.2.2.2.2.2.1
theorem dL_law_679 : decode cL_law 679 = .ok (.iconst 1, 1) := gdL_law_660.2.2.2.2.2.2.2.2.2.2.2.2.1
theorem dL_law_680 : decode cL_law 680 = .ok (.iadd, 1) := gdL_law_660.2.2.2.2.2.2.2.2.2.2.2.2.2.1
theorem dL_law_681 : decode cL_law 681 = .ok (.iaload, 1) := gdL_law_660.2.2.2.2.2.2.2.2.2.2.2.2.2.2.1
theorem dL_law_682 : decode cL_law 682 = .ok (.invokevirtual 90, 3) := gdL_law_660.2.2.2.2.2.2.2.2.2.2.2.2.2.2.2
theorem gdL_law_685 : (decode cL_law 685 = .ok (.pop, 1)) ∧ (decode cL_law 686 = .ok (.aload_n 2, 1)) ∧ (decode cL_law 687 = .ok (.aload_n 0, 1)) ∧ (decode cL_law 688 = .ok (.iload 4, 2)) ∧ (decode cL_law 690 = .ok (.iconst 1, 1)) ∧ (decode cL_law 691 = .ok (.iadd, 1)) ∧ (decode cL_law 692 = .ok (.iaload, 1)) ∧ (decode cL_law 693 = .ok (.invokevirtual 94, 3)) ∧ (decode cL_law 696 = .ok (.pop, 1)) ∧ (decode cL_law 697 = .ok (.goto 274, 3)) ∧ (decode cL_law 700 = .ok (.aload_n 1, 1)) ∧ (decode cL_law 701 = .ok (.aload_n 0, 1)) ∧ (decode cL_law 702 = .ok (.iload 4, 2)) ∧ (decode cL_law 704 = .ok (.iconst 1, 1)) ∧ (decode cL_law 705 = .ok (.iadd, 1)) ∧ (decode cL_law 706 = .ok (.iaload, 1)) := by decide +kernel
theorem dL_law_685 : decode cL_law 685 = .ok (.pop, 1) := gdL_law_685.1
theorem dL_law_686 : decode cL_law 686 = .ok (.aload_n 2, 1) := gdL_law_685.2.1
theorem dL_law_687 : decode cL_law 687 = .ok (.aload_n 0, 1) := gdL_law_685.2.2.1
theorem dL_law_688 : decode cL_law 688 = .ok (.iload 4, 2) := gdL_law_685.2.2.2.1
theorem dL_law_690 : decode cL_law 690 = .ok (.iconst 1, 1) := gdL_law_685.2.2.2.2.1
theorem dL_law_691 : decode cL_law 691 = .ok (.iadd, 1) := gdL_law_685.2.2.2.2.2.1
theorem dL_law_692 : decode cL_law 692 = .ok (.iaload, 1) := gdL_law_685.2.2.2.2.2.2.1
theorem dL_law_693 : decode cL_law 693 = .ok (.invokevirtual 94, 3) := gdL_law_685.2.2.2.2.2.2.2.1
theorem dL_law_696 : decode cL_law 696 = .ok (.pop, 1) := gdL_law_685.2.2.2.2.2.2.2.2.1
theorem dL_law_697 : decode cL_law 697 = .ok (.goto 274, 3) := gdL_law_685.2.2.2.2.2.2.2.2.2.1
theorem dL_law_700 : decode cL_law 700 = .ok (.aload_n 1, 1) := gdL_law_685.2.2.2.2.2.2.2.2.2.2.1
theorem dL_law_701 : decode cL_law 701 = .ok (.aload_n 0, 1) := gdL_law_685.2.2.2.2.2.2.2.2.2.2.2.1
theorem dL_law_702 : decode cL_law 702 = .ok (.iload 4, 2) := gdL_law_685.2.2.2.2.2.2.2.2.2.2.2.2.1
theorem dL_law_704 : decode cL_law 704 = .ok (.iconst 1, 1) := gdL_law_685.2.2.2.2.2.2.2.2.2.2.2.2.2.1
theorem dL_law_705 : decode cL_law 705 = .ok (.iadd, 1) := gdL_law_685.2.2.2.2.2.2.2.2.2.2.2.2.2.2.1
theorem dL_law_706 : decode cL_law 706 = .ok (.iaload, 1) := gdL_law_685.2.2.2.2.2.2.2.2.2.2.2.2.2.2.2
theorem gdL_law_707 : (decode cL_law 707 = .ok (.invokevirtual 95, 3)) ∧ (decode cL_law 710 = .ok (.pop, 1)) ∧ (decode cL_law 711 = .ok (.aload_n 2, 1)) ∧ (decode cL_law 712 = .ok (.aload_n 0, 1)) ∧ (decode cL_law 713 = .ok (.iload 4, 2)) ∧ (decode cL_law 715 = .ok (.iconst 1, 1)) ∧ (decode cL_law 716 = .ok (.iadd, 1)) ∧ (decode cL_law 717 = .ok (.iaload, 1)) ∧ (decode cL_law 718 = .ok (.invokevirtual 98, 3)) ∧ (decode cL_law 721 = .ok (.pop, 1)) ∧ (decode cL_law 722 = .ok (.goto 249, 3)) ∧ (decode cL_law 725 = .ok (.aload_n 1, 1)) ∧ (decode cL_law 726 = .ok (.aload_n 0, 1)) ∧ (decode cL_law 727 = .ok (.iload 4, 2)) ∧ (decode cL_law 729 = .ok (.iconst 1, 1)) ∧ (decode cL_law 730 = .ok (.iadd, 1)) := by decide +kernel
theorem dL_law_707 : decode cL_law 707 = .ok (.invokevirtual 95, 3) := gdL_law_707.1
theorem dL_law_710 : decode cL_law 710 = .ok (.pop, 1) := gdL_law_707.2.1
theorem dL_law_711 : decode cL_law 711 = .ok (.aload_n 2, 1) := gdL_law_707.2.2.1
theorem dL_law_712 : decode cL_law 712 = .ok (.aload_n 0, 1) := gdL_law_707.2.2.2.1
theorem dL_law_713 : decode cL_law 713 = .ok (.iload 4, 2) := gdL_law_707.2.2.2.2.1
theorem dL_law_715 : decode cL_law 715 = .ok (.iconst 1, 1) := gdL_law_707.2.2.2.2.2.1
theorem dL_law_716 : decode cL_law 716 = .ok (.iadd, 1) := gdL_law_707.2.2.2.2.2.2.1
theorem dL_law_717 : decode cL_law 717 = .ok (.iaload, 1) := gdL_law_707.2.2.2.2.2.2.2.1
theorem dL_law_718 : decode cL_law 718 = .ok (.invokevirtual 98, 3) := gdL_law_707.2.2.2.2.2.2.2.2.1
theorem dL_law_721 : decode cL_law 721 = .ok (.pop, 1) := gdL_law_707.2.2.2.2.2.2.2.2.2.1
theorem dL_law_722 : decode cL_law 722 = .ok (.goto 249, 3) := gdL_law_707.2.2.2.2.2.2.2.2.2.2.1
theorem dL_law_725 : decode cL_law 725 = .ok (.aload_n 1, 1) := gdL_law_707.2.2.2.2.2.2.2.2.2.2.2.1
theorem dL_law_726 : decode cL_law 726 = .ok (.aload_n 0, 1) := gdL_law_707.2.2.2.2.2.2.2.2.2.2.2.2.1
theorem dL_law_727 : decode cL_law 727 = .ok (.iload 4, 2) := gdL_law_707.2.2.2.2.2.2.2.2.2.2.2.2.2.1
theorem dL_law_729 : decode cL_law 729 = .ok (.iconst 1, 1) := gdL_law_707.2.2.2.2.2.2.2.2.2.2.2.2.2.2.1
theorem dL_law_730 : decode cL_law 730 = .ok (.iadd, 1) := gdL_law_707.2.2.2.2.2.2.2.2.2.2.2.2.2.2.2
theorem gdL_law_731 : (decode cL_law 731 = .ok (.iaload, 1)) ∧ (decode cL_law 732 = .ok (.aload_n 0, 1)) ∧ (decode cL_law 733 = .ok (.iload 4, 2)) ∧ (decode cL_law 735 = .ok (.iconst 2, 1)) ∧ (decode cL_law 736 = .ok (.iadd, 1)) ∧ (decode cL_law 737 = .ok (.iaload, 1)) ∧ (decode cL_law 738 = .ok (.ifCond .eq 7, 3)) ∧ (decode cL_law 741 = .ok (.iconst 1, 1)) ∧ (decode cL_law 742 = .ok (.goto 4, 3)) ∧ (decode cL_law 745 = .ok (.iconst 0, 1)) ∧ (decode cL_law 746 = .ok (.invokevirtual 99, 3)) ∧ (decode cL_law 749 = .ok (.pop, 1)) ∧ (decode cL_law 750 = .ok (.aload_n 2, 1)) ∧ (decode cL_law 751 = .ok (.aload_n 0, 1)) ∧ (decode cL_law 752 = .ok (.iload 4, 2)) ∧ (decode cL_law 754 = .ok (.iconst 1, 1)) := by decide +kernel
theorem dL_law_731 : decode cL_law 731 = .ok (.iaload, 1) := gdL_law_731.1
theorem dL_law_732 : decode cL_law 732 = .ok (.aload_n 0, 1) := gdL_law_731.2.1
theorem dL_law_733 : decode cL_law 733 = .ok (.iload 4, 2) := gdL_law_731.2.2.1
theorem dL_law_735 : decode cL_law 735 = .ok (.iconst 2, 1) := gdL_law_731.2.2.2.1
theorem dL_law_736 : decode cL_law 736 = .ok (.iadd, 1) := gdL_law_731.2.2.2.2.1
theorem dL_law_737 : decode cL_law 737 = .ok (.iaload, 1) := gdL_law_731.2.2.2.2.2.1
theorem dL_law_738 : decode cL_law 738 = .ok (.ifCond .eq 7, 3) := gdL_law_731.2.2.2.2.2.2.1
theorem dL_law_741 : decode cL_law 741 = .ok (.iconst 1, 1) := gdL_law_731.2.2.2.2.2.2.2.1
theorem dL_law_742 : decode cL_law 742 = .ok (.goto 4, 3) := gdL_law_731.2.2.2.2.2.2.2.2.1
theorem dL_law_745 : decode cL_law 745 = .ok (.iconst 0, 1) := gdL_law_731.2.2.2.2.2.2.2.2.2.1
theorem dL_law_746 : decode cL_law 746 = .ok (.invokevirtual 99, 3) := gdL_law_731.2.2.2.2.2.2.2.2.2.2.1
theorem dL_law_749 : decode cL_law 749 = .ok (.pop, 1) := gdL_law_731.2.2.2.2.2.2.2.2.2.2.2.1
theorem dL_law_750 : decode cL_law 750 = .ok (.aload_n 2, 1) := gdL_law_731.2.2.2.2.2.2.2.2.2.2.2.2.1
theorem dL_law_751 : decode cL_law 751 = .ok (.aload_n 0, 1) := gdL_law_731.2.2.2.2.2.2.2.2.2.2.2.2.2.1
theorem dL_law_752 : decode cL_law 752 = .ok (.iload 4, 2) := gdL_law_731.2.2.2.2.2.2.2.2.2.2.2.2.2.2.1
theorem dL_law_754 : decode cL_law 754 = .ok (.iconst 1, 1) := gdL_law_731.2.2.2.2.2.2.2.2.2.2.2.2.2.2.2
theorem gdL_law_755 : (decode cL_law 755 = .ok (.iadd, 1)) ∧ (decode cL_law 756 = .ok (.iaload, 1)) ∧ (decode cL_law 757 = .ok (.aload_n 0, 1)) ∧ (decode cL_law 758 = .ok (.iload 4, 2)) ∧ (decode cL_law 760 = .ok (.iconst 2, 1)) ∧ (decode cL_law 761 = .ok (.iadd, 1)) ∧ (decode cL_law 762 = .ok (.iaload, 1)) ∧ (decode cL_law 763 = .ok (.ifCond .eq 7, 3)) ∧ (decode cL_law 766 = .ok (.iconst 1, 1)) ∧ (decode cL_law 767 = .ok (.goto 4, 3)) ∧ (decode cL_law 770 = .ok (.iconst 0, 1)) ∧ (decode cL_law 771 = .ok (.invokevirtual 103, 3)) ∧ (decode cL_law 774 = .ok (.pop, 1)) ∧ (decode cL_law 775 = .ok (.goto 196, 3)) ∧ (decode cL_law 778 = .ok (.aload_n 1, 1)) ∧ (decode cL_law 779 = .ok (.invokevirtual 104, 3)) := by decide +kernel
theorem dL_law_755 : decode cL_law 755 = .ok (.iadd, 1) := gdL_law_755.1
theorem dL_law_756 : decode cL_law 756 = .ok (.iaload, 1) := gdL_law_755.2.1
theorem dL_law_757 : decode cL_law 757 = .ok (.aload_n 0, 1) := gdL_law_755.2.2.1
theorem dL_law_758 : decode cL_law 758 = .ok (.iload 4, 2) := gdL_law_755.2.2.2.1
theorem dL_law_760 : decode cL_law 760 = .ok (.iconst 2, 1) := gdL_law_755.2.2.2.2.1
theorem dL_law_761 : decode cL_law 761 = .ok (.iadd, 1) := gdL_law_755.2.2.2.2.2.1
theorem dL_law_762 : decode cL_law 762 = .ok (.iaload, 1) := gdL_law_755.2.2.2.2.2.2.1
theorem dL_law_763 : decode cL_law 763 = .ok (.ifCond .eq 7, 3) := gdL_law_755.2.2.2.2.2.2.2.1
theorem dL_law_766 : decode cL_law 766 = .ok (.iconst 1, 1) := gdL_law_755.2.2.2.2.2.2.2.2.1
theorem dL_law_767 : decode cL_law 767 = .ok (.goto 4, 3) := gdL_law_755.2.2.2.2.2.2.2.2.2.1
theorem dL_law_770 : decode cL_law 770 = .ok (.iconst 0, 1) := gdL_law_755.2.2.2.2.2.2.2.2.2.2.1
theorem dL_law_771 : decode cL_law 771 = .ok (.invokevirtual 103, 3) := gdL_law_755.2.2.2.2.2.2.2.2.2.2.2.1
theorem dL_law_774 : decode cL_law 774 = .ok (.pop, 1) := gdL_law_755.2.2.2.2.2.2.2.2.2.2.2.2.1
theorem dL_law_775 : decode cL_law 775 = .ok (.goto 196, 3) := gdL_law_755.2.2.2.2.2.2.2.2.2.2.2.2.2.1
theorem dL_law_778 : decode cL_law 778 = .ok (.aload_n 1, 1) := gdL_law_755.2.2.2.2.2.2.2.2.2.2.2.2.2.2.1
theorem dL_law_779 : decode cL_law 779 = .ok (.invokevirtual 104, 3) := gdL_law_755.2.2.2.2.2.2.2.2.2.2.2.2.2.2.2
theorem gdL_law_782 : (decode cL_law 782 = .ok (.pop, 1)) ∧ (decode cL_law 783 = .ok (.aload_n 2, 1)) ∧ (decode cL_law 784 = .ok (.invokevirtual 108, 3)) ∧ (decode cL_law 787 = .ok (.pop, 1)) ∧ (decode cL_law 788 = .ok (.goto 183, 3)) ∧ (decode cL_law 791 = .ok (.aload_n 1, 1)) ∧ (decode cL_law 792 = .ok (.invokevirtual 109, 3)) ∧ (decode cL_law 795 = .ok (.pop, 1)) ∧ (decode cL_law 796 = .ok (.aload_n 2, 1)) ∧ (decode cL_law 797 = .ok (.invokevirtual 112, 3)) ∧ (decode cL_law 800 = .ok (.pop, 1)) ∧ (decode cL_law 801 = .ok (.goto 170, 3)) ∧ (decode cL_law 804 = .ok (.aload_n 1, 1)) ∧ (decode cL_law 805 = .ok (.aload_n 0, 1)) ∧ (decode cL_law 806 = .ok (.iload 4, 2)) ∧ (decode cL_law 808 = .ok (.iconst 1, 1)) := by decide +kernel
theorem dL_law_782 : decode cL_law 782 = .ok (.pop, 1) := gdL_law_782.1
theorem dL_law_783 : decode cL_law 783 = .ok (.aload_n 2, 1) := gdL_law_782.2.1
theorem dL_law_784 : decode cL_law 784 = .ok (.invokevirtual 108, 3) := gdL_law_782.2.2.1
theorem dL_law_787 : decode cL_law 787 = .ok (.pop, 1) := gdL_law_782.2.2.2.1
theorem dL_law_788 : decode cL_law 788 = .ok (.goto 183, 3) := gdL_law_782.2.2.2.2.1
theorem dL_law_791 : decode cL_law 791 = .ok (.aload_n 1, 1) := gdL_law_782.2.2.2.2.2.1
theorem dL_law_792 : decode cL_law 792 = .ok (.invokevirtual 109, 3) := gdL_law_782.2.2.2.2.2.2.1
theorem dL_law_795 : decode cL_law 795 = .ok (.pop, 1) := gdL_law_782.2.2.2.2.2.2.2.1
theorem dL_law_796 : decode cL_law 796 = .ok (.aload_n 2, 1) := gdL_law_782.2.2.2.2.2.2.2.2.1
theorem dL_law_797 : decode cL_law 797 = .ok (.invokevirtual 112, 3) := gdL_law_782.2.2.2.2.2.2.2.2.2.1
theorem dL_law_800 : decode cL_law 800 = .ok (.pop, 1) := gdL_law_782.2.2.2.2.2.2.2.2.2.2.1
theorem dL_law_801 : decode cL_law 801 = .ok (.goto 170, 3) := gdL_law_782.2.2.2.2.2.2.2.2.2.2.2.1
theorem dL_law_804 : decode cL_law 804 = .ok (.aload_n 1, 1) := gdL_law_782.2.2.2.2.2.2.2.2.2.2.2.2.1
theorem dL_law_805 : decode cL_law 805 = .ok (.aload_n 0, 1) := gdL_law_782.2.2.2.2.2.2.2.2.2.2.2.2.2.1
theorem dL_law_806 : decode cL_law 806 = .ok (.iload 4, 2) := gdL_law_782.2.2.2.2.2.2.2.2.2.2.2.2.2.2.1
theorem dL_law_808 : decode cL_law 808 = .ok (.iconst 1, 1) := gdL_law_782.2.2.2.2.2.2.2.2.2.2.2.2.2.2.2
theorem gdL_law_809 : (decode cL_law 809 = .ok (.iadd, 1)) ∧ (decode cL_law 810 = .ok (.iaload, 1)) ∧ (decode cL_law 811 = .ok (.aload_n 0, 1)) ∧ (decode cL_law 812 = .ok (.iload 4, 2)) ∧ (decode cL_law 814 = .ok (.iconst 2, 1)) ∧ (decode cL_law 815 = .ok (.iadd, 1)) ∧ (decode cL_law 816 = .ok (.iaload, 1)) ∧ (decode cL_law 817 = .ok (.invokevirtual 113, 3)) ∧ (decode cL_law 820 = .ok (.pop, 1)) ∧ (decode cL_law 821 = .ok (.aload_n 2, 1)) ∧ (decode cL_law 822 = .ok (.aload_n 0, 1)) ∧ (decode cL_law 823 = .ok (.iload 4, 2)) ∧ (decode cL_law 825 = .ok (.iconst 1, 1)) ∧ (decode cL_law 826 = .ok (.iadd, 1)) ∧ (decode cL_law 827 = .ok (.iaload, 1)) ∧ (decode cL_law 828 = .ok (.aload_n 0, 1)) := by decide +kernel
theorem dL_law_809 : decode cL_law 809 = .ok (.iadd, 1) := gdL_law_809.1
theorem dL_law_810 : decode cL_law 810 = .ok (.iaload, 1) := gdL_law_809.2.1
theorem dL_law_811 : decode cL_law 811 = .ok (.aload_n 0, 1) := gdL_law_809.2.2.1
theorem dL_law_812 : decode cL_law 812 = .ok (.iload 4, 2) := gdL_law_809.2.2.2.1
theorem dL_law_814 : decode cL_law 814 = .ok (.iconst 2, 1) := gdL_law_809.2.2.2.2.1
theorem dL_law_815 : decode cL_law 815 = .ok (.iadd, 1) := gdL_law_809.2.2.2.2.2.1
theorem dL_law_816 : decode cL_law 816 = .ok (.iaload, 1) := gdL_law_809.2.2.2.2.2.2.1
theorem dL_law_817 : decode cL_law 817 = .ok (.invokevirtual 113, 3) := gdL_law_809.2.2.2.2.2.2.2.1
theorem dL_law_820 : decode cL_law 820 = .ok (.pop, 1) := gdL_law_809.2.2.2.2.2.2.2.2.1
theorem dL_law_821 : decode cL_law 821 = .ok (.aload_n 2, 1) := gdL_law_809.2.2.2.2.2.2.2.2.2.1
theorem dL_law_822 : decode cL_law 822 = .ok (.aload_n 0, 1) := gdL_law_809.2.2.2.2.2.2.2.2.2.2.1
theorem dL_law_823 : decode cL_law 823 = .ok (.iload 4, 2) := gdL_law_809.2.2.2.2.2.2.2.2.2.2.2.1
theorem dL_law_825 : decode cL_law 825 = .ok (.iconst 1, 1) := gdL_law_809.2.2.2.2.2.2.2.2.2.2.2.2.1
theorem dL_law_826 : decode cL_law 826 = .ok (.iadd, 1) := gdL_law_809.2.2.2.2.2.2.2.2.2.2.2.2.2.1
theorem dL_law_827 : decode cL_law 827 = .ok (.iaload, 1) := gdL_law_809.2.2.2.2.2.2.2.2.2.2.2.2.2.2.1
theorem dL_law_828 : decode cL_law 828 = .ok (.aload_n 0, 1) := gdL_law_809.2.2.2.2.2.2.2.2.2.2.2.2.2.2.2
theorem gdL_law_829 : (decode cL_law 829 = .ok (.iload 4, 2)) ∧ (decode cL_law 831 = .ok (.iconst 2, 1)) ∧ (decode cL_law 832 = .ok (.iadd, 1)) ∧ (decode cL_law 833 = .ok (.iaload, 1)) ∧ (decode cL_law 834 = .ok (.invokevirtual 116, 3)) ∧ (decode cL_law 837 = .ok (.pop, 1)) ∧ (decode cL_law 838 = .ok (.goto 133, 3)) ∧ (decode cL_law 841 = .ok (.aload_n 1, 1)) ∧ (decode cL_law 842 = .ok (.aload_n 0, 1)) ∧ (decode cL_law 843 = .ok (.iload 4, 2)) ∧ (decode cL_law 845 = .ok (.iconst 1, 1)) ∧ (decode cL_law 846 = .ok (.iadd, 1)) ∧ (decode cL_law 847 = .ok (.iaload, 1)) ∧ (decode cL_law 848 = .ok (.aload_n 0, 1)) ∧ (decode cL_law 849 = .ok (.iload 4, 2)) ∧ (decode cL_law 851 = .ok (.iconst 2, 1)) := by decide +kernel
theorem dL_law_829 : decode cL_law 829 = .ok (.iload 4, 2) := gdL_law_829.1
theorem dL_law_831 : decode cL_law 831 = .ok (.iconst 2, 1) := gdL_law_829.2.1
theorem dL_law_832 : decode cL_law 832 = .ok (.iadd, 1) := gdL_law_829.2.2.1
theorem dL_law_833 : decode cL_law 833 = .ok (.iaload, 1) := gdL_law_829.2.2.2.1
theorem dL_law_834 : decode cL_law 834 = .ok (.invokevirtual 116, 3) := gdL_law_829.2.2.2.2.1
theorem dL_law_837 : decode cL_law 837 = .ok (.pop, 1) := gdL_law_829.2.2.2.2.2.1
theorem dL_law_838 : decode cL_law 838 = .ok (.goto 133, 3) := gdL_law_829.2.2.2.2.2.2.1
theorem dL_law_841 : decode cL_law 841 = .ok (.aload_n 1, 1) := gdL_law_829.2.2.2.2.2.2.2.1
theorem dL_law_842 : decode cL_law 842 = .ok (.aload_n 0, 1) := gdL_law_829.2.2.2.2.2.2.2.2.1
theorem dL_law_843 : decode cL_law 843 = .ok (.iload 4, 2) := gdL_law_829.2.2.2.2.2.2.2.2.2.1
theorem dL_law_845 : decode cL_law 845 = .ok (.iconst 1, 1) := gdL_law_829.2.2.2.2.2.2.2.2.2.2.1
theorem dL_law_846 : decode cL_law 846 = .ok (.iadd, 1) := gdL_law_829.2.2.2.2.2.2.2.2.2.2.2.1
theorem dL_law_847 : decode cL_law 847 = .ok (.iaload, 1) := gdL_law_829.2.2.2.2.2.2.2.2.2.2.2.2.1
theorem dL_law_848 : decode cL_law 848 = .ok (.aload_n 0, 1) := gdL_law_829.2.2.2.2.2.2.2.2.2.2.2.2.2.1
theorem dL_law_849 : decode cL_law 849 = .ok (.iload 4, 2) := gdL_law_829.2.2.2.2.2.2.2.2.2.2.2.2.2.2.1
theorem dL_law_851 : decode cL_law 851 = .ok (.iconst 2, 1) := gdL_law_829.2.2.2.2.2.2.2.2.2.2.2.2.2.2.2
theorem gdL_law_852 : (decode cL_law 852 = .ok (.iadd, 1)) ∧ (decode cL_law 853 = .ok (.iaload, 1)) ∧ (decode cL_law 854 = .ok (.invokevirtual 117, 3)) ∧ (decode cL_law 857 = .ok (.pop, 1)) ∧ (decode cL_law 858 = .ok (.aload_n 2, 1)) ∧ (decode cL_law 859 = .ok (.aload_n 0, 1)) ∧ (decode cL_law 860 = .ok (.iload 4, 2)) ∧ (decode cL_law 862 = .ok (.iconst 1, 1)) ∧ (decode cL_law 863 = .ok (.iadd, 1)) ∧ (decode cL_law 864 = .ok (.iaload, 1)) ∧ (decode cL_law 865 = .ok (.aload_n 0, 1)) ∧ (decode cL_law 866 = .ok (.iload 4, 2)) ∧ (decode cL_law 868 = .ok (.iconst 2, 1)) ∧ (decode cL_law 869 = .ok (.iadd, 1)) ∧ (decode cL_law 870 = .ok (.iaload, 1)) ∧ (decode cL_law 871 = .ok (.invokevirtual 120, 3)) := by decide +kernel
theorem dL_law_852 : decode cL_law 852 = .ok (.iadd, 1) := gdL_law_852.1
theorem dL_law_853 : decode cL_law 853 = .ok (.iaload, 1) := gdL_law_852.2.1
theorem dL_law_854 : decode cL_law 854 = .ok (.invokevirtual 117, 3) := gdL_law_852.2.2.1
theorem dL_law_857 : decode cL_law 857 = .ok (.pop, 1) := gdL_law_852.2.2.2.1
theorem dL_law_858 : decode cL_law 858 = .ok (.aload_n 2, 1) := gdL_law_852.2.2.2.2.1
theorem dL_law_859 : decode cL_law 859 = .ok (.aload_n 0, 1) := gdL_law_852.2.2.2.2.2.1
theorem dL_law_860 : decode cL_law 860 = .ok (.iload 4, 2) := gdL_law_852.2.2.2.2.2.2.1
theorem dL_law_862 : decode cL_law 862 = .ok (.iconst 1, 1) := gdL_law_852.2.2.2.2.2.2.2.1
theorem dL_law_863 : decode cL_law 863 = .ok (.iadd, 1) := gdL_law_852.2.2.2.2.2.2.2.2.1
theorem dL_law_864 : decode cL_law 864 = .ok (.iaload, 1) := gdL_law_852.2.2.2.2.2.2.2.2.2.1
theorem dL_law_865 : decode cL_law 865 = .ok (.aload_n 0, 1) := gdL_law_852.2.2.2.2.2.2.2.2.2.2.1
theorem dL_law_866 : decode cL_law 866 = .ok (.iload 4, 2) := gdL_law_852.2.2.2.2.2.2.2.2.2.2.2.1
theorem dL_law_868 : decode cL_law 868 = .ok (.iconst 2, 1) := gdL_law_852.2.2.2.2.2.2.2.2.2.2.2.2.1
theorem dL_law_869 : decode cL_law 869 = .ok (.iadd, 1) := gdL_law_852.2.2.2.2.2.2.2.2.2.2.2.2.2.1
theorem dL_law_870 : decode cL_law 870 = .ok (.iaload, 1) := gdL_law_852.2.2.2.2.2.2.2.2.2.2.2.2.2.2.1
theorem dL_law_871 : decode cL_law 871 = .ok (.invokevirtual 120, 3) := gdL_law_852.2.2.2.2.2.2.2.2.2.2.2.2.2.2.2
theorem gdL_law_874 : (decode cL_law 874 = .ok (.pop, 1)) ∧ (decode cL_law 875 = .ok (.goto 96, 3)) ∧ (decode cL_law 878 = .ok (.aload_n 1, 1)) ∧ (decode cL_law 879 = .ok (.aload_n 0, 1)) ∧ (decode cL_law 880 = .ok (.iload 4, 2)) ∧ (decode cL_law 882 = .ok (.iconst 1, 1)) ∧ (decode cL_law 883 = .ok (.iadd, 1)) ∧ (decode cL_law 884 = .ok (.iaload, 1)) ∧ (decode cL_law 885 = .ok (.invokevirtual 121, 3)) ∧ (decode cL_law 888 = .ok (.pop, 1)) ∧ (decode cL_law 889 = .ok (.aload_n 2, 1)) ∧ (decode cL_law 890 = .ok (.aload_n 0, 1)) ∧ (decode cL_law 891 = .ok (.iload 4, 2)) ∧ (decode cL_law 893 = .ok (.iconst 1, 1)) ∧ (decode cL_law 894 = .ok (.iadd, 1)) ∧ (decode cL_law 895 = .ok (.iaload, 1)) := by decide +kernel
theorem dL_law_874 : decode cL_law 874 = .ok (.pop, 1) := gdL_law_874.1
theorem dL_law_875 : decode cL_law 875 = .ok (.goto 96, 3) := gdL_law_874.2.1
theorem dL_law_878 : decode cL_law 878 = .ok (.aload_n 1, 1) := gdL_law_874.2.2.1
theorem dL_law_879 : decode cL_law 879 = .ok (.aload_n 0, 1) := gdL_law_874.2.2.2.1
theorem dL_law_880 : decode cL_law 880 = .ok (.iload 4, 2) := gdL_law_874.2.2.2.2.1
theorem dL_law_882 : decode cL_law 882 = .ok (.iconst 1, 1) := gdL_law_874.2.2.2.2.2.1
theorem dL_law_883 : decode cL_law 883 = .ok (.iadd, 1) := gdL_law_874.2.2.2.2.2.2.1
theorem dL_law_884 : decode cL_law 884 = .ok (.iaload, 1) := gdL_law_874.2.2.2.2.2.2.2.1
theorem dL_law_885 : decode cL_law 885 = .ok (.invokevirtual 121, 3) := gdL_law_874.2.2.2.2.2.2.2.2.1
theorem dL_law_888 : decode cL_law 888 = .ok (.pop, 1) := gdL_law_874.2.2.2.2.2.2.2.2.2.1
theorem dL_law_889 : decode cL_law 889 = .ok (.aload_n 2, 1) := gdL_law_874.2.2.2.2.2.2.2.2.2.2.1
theorem dL_law_890 : decode cL_law 890 = .ok (.aload_n 0, 1) := gdL_law_874.2.2.2.2.2.2.2.2.2.2.2.1
theorem dL_law_891 : decode cL_law 891 = .ok (.iload 4, 2) := gdL_law_874.2.2.2.2.2.2.2.2.2.2.2.2.1
theorem dL_law_893 : decode cL_law 893 = .ok (.iconst 1, 1) := gdL_law_874.2.2.2.2.2.2.2.2.2.2.2.2.2.1
theorem dL_law_894 : decode cL_law 894 = .ok (.iadd, 1) := gdL_law_874.2.2.2.2.2.2.2.2.2.2.2.2.2.2.1
theorem dL_law_895 : decode cL_law 895 = .ok (.iaload, 1) := gdL_law_874.2.2.2.2.2.2.2.2.2.2.2.2.2.2.2
theorem gdL_law_896 : (decode cL_law 896 = .ok (.invokevirtual 124, 3)) ∧ (decode cL_law 899 = .ok (.pop, 1)) ∧ (decode cL_law 900 = .ok (.goto 71, 3)) ∧ (decode cL_law 903 = .ok (.aload_n 1, 1)) ∧ (decode cL_law 904 = .ok (.aload_n 0, 1)) ∧ (decode cL_law 905 = .ok (.iload 4, 2)) ∧ (decode cL_law 907 = .ok (.iconst 1, 1)) ∧ (decode cL_law 908 = .ok (.iadd, 1)) ∧ (decode cL_law 909 = .ok (.iaload, 1)) ∧ (decode cL_law 910 = .ok (.aload_n 0, 1)) ∧ (decode cL_law 911 = .ok (.iload 4, 2)) ∧ (decode cL_law 913 = .ok (.iconst 2, 1)) ∧ (decode cL_law 914 = .ok (.iadd, 1)) ∧ (decode cL_law 915 = .ok (.iaload, 1)) ∧ (decode cL_law 916 = .ok (.aload_n 3, 1)) ∧ (decode cL_law 917 = .ok (.invokestatic 125, 3)) := by decide +kernel
theorem dL_law_896 : decode cL_law 896 = .ok (.invokevirtual 124, 3) := gdL_law_896.1
theorem dL_law_899 : decode cL_law 899 = .ok (.pop, 1) := gdL_law_896.2.1
theorem dL_law_900 : decode cL_law 900 = .ok (.goto 71, 3) := gdL_law_896.2.2.1
theorem dL_law_903 : decode cL_law 903 = .ok (.aload_n 1, 1) := gdL_law_896.2.2.2.1
theorem dL_law_904 : decode cL_law 904 = .ok (.aload_n 0, 1) := gdL_law_896.2.2.2.2.1
theorem dL_law_905 : decode cL_law 905 = .ok (.iload 4, 2) := gdL_law_896.2.2.2.2.2.1
theorem dL_law_907 : decode cL_law 907 = .ok (.iconst 1, 1) := gdL_law_896.2.2.2.2.2.2.1
theorem dL_law_908 : decode cL_law 908 = .ok (.iadd, 1) := gdL_law_896.2.2.2.2.2.2.2.1
theorem dL_law_909 : decode cL_law 909 = .ok (.iaload, 1) := gdL_law_896.2.2.2.2.2.2.2.2.1
theorem dL_law_910 : decode cL_law 910 = .ok (.aload_n 0, 1) := gdL_law_896.2.2.2.2.2.2.2.2.2.1
theorem dL_law_911 : decode cL_law 911 = .ok (.iload 4, 2) := gdL_law_896.2.2.2.2.2.2.2.2.2.2.1
theorem dL_law_913 : decode cL_law 913 = .ok (.iconst 2, 1) := gdL_law_896.2.2.2.2.2.2.2.2.2.2.2.1
theorem dL_law_914 : decode cL_law 914 = .ok (.iadd, 1) := gdL_law_896.2.2.2.2.2.2.2.2.2.2.2.2.1
theorem dL_law_915 : decode cL_law 915 = .ok (.iaload, 1) := gdL_law_896.2.2.2.2.2.2.2.2.2.2.2.2.2.1
theorem dL_law_916 : decode cL_law 916 = .ok (.aload_n 3, 1) := gdL_law_896.2.2.2.2.2.2.2.2.2.2.2.2.2.2.1
theorem dL_law_917 : decode cL_law 917 = .ok (.invokestatic 125, 3) := gdL_law_896.2.2.2.2.2.2.2.2.2.2.2.2.2.2.2
theorem gdL_law_920 : (decode cL_law 920 = .ok (.istore 5, 2)) ∧ (decode cL_law 922 = .ok (.aload_n 2, 1)) ∧ (decode cL_law 923 = .ok (.aload_n 0, 1)) ∧ (decode cL_law 924 = .ok (.iload 4, 2)) ∧ (decode cL_law 926 = .ok (.iconst 1, 1)) ∧ (decode cL_law 927 = .ok (.iadd, 1)) ∧ (decode cL_law 928 = .ok (.iaload, 1)) ∧ (decode cL_law 929 = .ok (.aload_n 0, 1)) ∧ (decode cL_law 930 = .ok (.iload 4, 2)) ∧ (decode cL_law 932 = .ok (.iconst 2, 1)) ∧ (decode cL_law 933 = .ok (.iadd, 1)) ∧ (decode cL_law 934 = .ok (.iaload, 1)) ∧ (decode cL_law 935 = .ok (.invokevirtual 128, 3)) ∧ (decode cL_law 938 = .ok (.istore 6, 2)) ∧ (decode cL_law 940 = .ok (.aload_n 2, 1)) ∧ (decode cL_law 941 = .ok (.invokevirtual 129, 3)) := by decide +kernel
theorem dL_law_920 : decode cL_law 920 = .ok (.istore 5, 2) := gdL_law_920.1
theorem dL_law_922 : decode cL_law 922 = .ok (.aload_n 2, 1) := gdL_law_920.2.1
theorem dL_law_923 : decode cL_law 923 = .ok (.aload_n 0, 1) := gdL_law_920.2.2.1
theorem dL_law_924 : decode cL_law 924 = .ok (.iload 4, 2) := gdL_law_920.2.2.2.1
theorem dL_law_926 : decode cL_law 926 = .ok (.iconst 1, 1) := gdL_law_920.2.2.2.2.1
theorem dL_law_927 : decode cL_law 927 = .ok (.iadd, 1) := gdL_law_920.2.2.2.2.2.1
theorem dL_law_928 : decode cL_law 928 = .ok (.iaload, 1) := gdL_law_920.2.2.2.2.2.2.1
theorem dL_law_929 : decode cL_law 929 = .ok (.aload_n 0, 1) := gdL_law_920.2.2.2.2.2.2.2.1
theorem dL_law_930 : decode cL_law 930 = .ok (.iload 4, 2) := gdL_law_920.2.2.2.2.2.2.2.2.1
theorem dL_law_932 : decode cL_law 932 = .ok (.iconst 2, 1) := gdL_law_920.2.2.2.2.2.2.2.2.2.1
theorem dL_law_933 : decode cL_law 933 = .ok (.iadd, 1) := gdL_law_920.2.2.2.2.2.2.2.2.2.2.1
theorem dL_law_934 : decode cL_law 934 = .ok (.iaload, 1) := gdL_law_920.2.2.2.2.2.2.2.2.2.2.2.1
theorem dL_law_935 : decode cL_law 935 = .ok (.invokevirtual 128, 3) := gdL_law_920.2.2.2.2.2.2.2.2.2.2.2.2.1
theorem dL_law_938 : decode cL_law 938 = .ok (.istore 6, 2) := gdL_law_920.2.2.2.2.2.2.2.2.2.2.2.2.2.1
theorem dL_law_940 : decode cL_law 940 = .ok (.aload_n 2, 1) := gdL_law_920.2.2.2.2.2.2.2.2.2.2.2.2.2.2.1
theorem dL_law_941 : decode cL_law 941 = .ok (.invokevirtual 129, 3) := gdL_law_920.2.2.2.2.2.2.2.2.2.2.2.2.2.2.2
theorem gdL_law_944 : (decode cL_law 944 = .ok (.iload 5, 2)) ∧ (decode cL_law 946 = .ok (.if_icmp .eq 5, 3)) ∧ (decode cL_law 949 = .ok (.iconst 0, 1)) ∧ (decode cL_law 950 = .ok (.ireturn, 1)) ∧ (decode cL_law 951 = .ok (.iload 5, 2)) ∧ (decode cL_law 953 = .ok (.ifCond .ne 15, 3)) ∧ (decode cL_law 956 = .ok (.aload_n 3, 1)) ∧ (decode cL_law 957 = .ok (.iconst 0, 1)) ∧ (decode cL_law 958 = .ok (.laload, 1)) ∧ (decode cL_law 959 = .ok (.iload 6, 2)) ∧ (decode cL_law 961 = .ok (.i2l, 1)) ∧ (decode cL_law 962 = .ok (.lcmp, 1)) ∧ (decode cL_law 963 = .ok (.ifCond .eq 5, 3)) ∧ (decode cL_law 966 = .ok (.iconst 0, 1)) ∧ (decode cL_law 967 = .ok (.ireturn, 1)) ∧ (decode cL_law 968 = .ok (.goto 3, 3)) := by decide +kernel
theorem dL_law_944 : decode cL_law 944 = .ok (.iload 5, 2) := gdL_law_944.1
theorem dL_law_946 : decode cL_law 946 = .ok (.if_icmp .eq 5, 3) := gdL_law_944.2.1
theorem dL_law_949 : decode cL_law 949 = .ok (.iconst 0, 1) := gdL_law_944.2.2.1
theorem dL_law_950 : decode cL_law 950 = .ok (.ireturn, 1) := gdL_law_944.2.2.2.1
theorem dL_law_951 : decode cL_law 951 = .ok (.iload 5, 2) := gdL_law_944.2.2.2.2.1
theorem dL_law_953 : decode cL_law 953 = .ok (.ifCond .ne 15, 3) := gdL_law_944.2.2.2.2.2.1
theorem dL_law_956 : decode cL_law 956 = .ok (.aload_n 3, 1) := gdL_law_944.2.2.2.2.2.2.1
theorem dL_law_957 : decode cL_law 957 = .ok (.iconst 0, 1) := gdL_law_944.2.2.2.2.2.2.2.1
theorem dL_law_958 : decode cL_law 958 = .ok (.laload, 1) := gdL_law_944.2.2.2.2.2.2.2.2.1
theorem dL_law_959 : decode cL_law 959 = .ok (.iload 6, 2) := gdL_law_944.2.2.2.2.2.2.2.2.2.1
theorem dL_law_961 : decode cL_law 961 = .ok (.i2l, 1) := gdL_law_944.2.2.2.2.2.2.2.2.2.2.1
theorem dL_law_962 : decode cL_law 962 = .ok (.lcmp, 1) := gdL_law_944.2.2.2.2.2.2.2.2.2.2.2.1
theorem dL_law_963 : decode cL_law 963 = .ok (.ifCond .eq 5, 3) := gdL_law_944.2.2.2.2.2.2.2.2.2.2.2.2.1
theorem dL_law_966 : decode cL_law 966 = .ok (.iconst 0, 1) := gdL_law_944.2.2.2.2.2.2.2.2.2.2.2.2.2.1
theorem dL_law_967 : decode cL_law 967 = .ok (.ireturn, 1) := gdL_law_944.2.2.2.2.2.2.2.2.2.2.2.2.2.2.1
theorem dL_law_968 : decode cL_law 968 = .ok (.goto 3, 3) := gdL_law_944.2.2.2.2.2.2.2.2.2.2.2.2.2.2.2
theorem gdL_law_971 : (decode cL_law 971 = .ok (.iinc 4 7, 3)) ∧ (decode cL_law 974 = .ok (.goto (-921), 3)) ∧ (decode cL_law 977 = .ok (.iconst 1, 1)) ∧ (decode cL_law 978 = .ok (.ireturn, 1)) := by decide +kernel
theorem dL_law_971 : decode cL_law 971 = .ok (.iinc 4 7, 3) := gdL_law_971.1
theorem dL_law_974 : decode cL_law 974 = .ok (.goto (-921), 3) := gdL_law_971.2.1
theorem dL_law_977 : decode cL_law 977 = .ok (.iconst 1, 1) := gdL_law_971.2.2.1
theorem dL_law_978 : decode cL_law 978 = .ok (.ireturn, 1) := gdL_law_971.2.2.2
def LI (E : EE) (s : State) (Gc : Nat → Nat) (x0 m0 o0 : Nat) (rf : Nat → Nat) (t0 t1 t2 : Int32) (H : Heap) (locs : List Loc) : Prop := ∃ (B : AA) (R : RR) (A : AA) (cd pk : Int32), TX E Gc B R H ∧ TW Gc B R ∧ MH E m0 rf t0 t1 t2 A cd pk H ∧ SIM x0 t0 t1 t2 B R A pk ∧ RIV A pk ∧ (∃ fo : Nat → Int64, va_at (DG E) vwCl (o0, .inl (E.2.2 2, 1, .inr (.inl fo))) H) ∧ va_S (fun q : Nat => s.heap.size ≤ q) s.heap H locs
def LF (s : State) (Gc Gm : Nat → Nat) (x0 m0 o0 : Nat) (rf : Nat → Nat) (t0 : Int32) : Prop := Gc x0 = 1 ∧ MG Gm m0 rf ∧ (∀ q, Gc q ≠ 0 → s.heap.size ≤ q) ∧ (∀ q, Gm q ≠ 0 → s.heap.size ≤ q) ∧ (∀ a, Gm a ≠ 0 → Gc a = 0) ∧ Gc o0 = 0 ∧ Gm o0 = 0 ∧ s.heap.size ≤ o0 ∧ 2 ≤ t0.toInt
end
section
set_option maxHeartbeats 8000000 in
set_option maxRecDepth 100000 in
theorem lk_0 {p : Program} {l : Launch} {e : Env} {s : State} {m : MethodId} {below : List Frame} {meth : Method} {c : Code} {b L i C S : Nat} {xs : Nat → Int32} {E : EE} {Gc Gm : Nat → Nat} {x0 m0 o0 : Nat} {rf : Nat → Nat} {t0 t1 t2 : Int32} {H : Heap} {locs : List Loc} {ls : Array Slot} (hst : l.stackTraces = false) (C0 : lw_At p s m meth c b L xs) (hLB : L ≤ 3587) (hK : KS E s.heap.size s) (hN : NC s) (F9 : LF s Gc Gm x0 m0 o0 rf t0) (hi : i + 7 ≤ L) (hC : C + 2 ≤ 621377) (hSl : S + 12 ≤ 7231939) (hI : LI E s Gc x0 m0 o0 rf t0 t1 t2 H locs) (hl : lv_has ls 7 [(4, .int (nI i)), (3, .ref o0), (2, .ref m0), (1, .ref x0), (0, .ref b)]) (key : ∀ (H : Heap) (locs : List Loc) (ls : Array Slot), LI E s Gc x0 m0 o0 rf t0 t1 t2 H locs → lv_has ls 7 [(4, .int (nI i)), (3, .ref o0), (2, .ref m0), (1, .ref x0), (0, .ref b)] → W p l e room_1 s m #[Value.ref b] below meth c H locs (C + 2) (S + 12) (lw_Z below #[Value.ref b] s) (F0 m 971 ls [])) : W p l e room_1 s m #[Value.ref b] below meth c H locs C S (lw_Z below #[Value.ref b] s) (F0 m 156 ls []) := by
  obtain ⟨hx, hb, hr, hml, hown, hts0, hX, hbl, hlocks, hgv⟩ := id C0
  obtain ⟨hxc, hR, hGzc, hGzm, hd, hGco, hGmo, hoz, h2t⟩ := F9
  have hd2 : ∀ a, Gc a ≠ 0 → Gm a = 0 := fun a h => Decidable.byContradiction fun q => h (hd a q)
  have hts : ∀ w ∈ TS, w.before #[Value.ref b] s = true := fun w hw => hts0 w (List.mem_filter.mp hw).1
  have hbA : ¬ (fun q : Nat => s.heap.size ≤ q) b := Nat.not_le.mpr hbl
  have hAz : ∀ q, (fun q : Nat => s.heap.size ≤ q) q → s.heap.size ≤ q := fun q h => h
  have hC0 : C + 0 ≤ room_1.cells := (show C + 0 ≤ 621377 by omega)
  have hS0 : S + 0 ≤ room_1.slots := (show S + 0 ≤ 7231939 by omega)
  have hC2 : C + 2 ≤ room_1.cells := (show C + 2 ≤ 621377 by omega)
  have hS2 : S + 12 ≤ room_1.slots := (show S + 12 ≤ 7231939 by omega)
  have hiI : (nI i).toInt = (i : Int) := nI_toInt (by omega)
  obtain ⟨B, R, A, cd, pk, hT, hW, hM, hSIM, hV, ⟨fo, hro⟩, hS⟩ := hI
  obtain ⟨hI2, hI3, hI4, hI5, hI6, hI7, hI8, hpk⟩ := hV.c3
  refine lv_aload_n hx hb dL_law_156 rfl (lv_at hl 3 rfl) ?_
  refine lv_aload_n hx hb dL_law_157 rfl (lv_at hl 4 rfl) ?_
  refine lv_iload hx hb dL_law_158 (lv_at hl 0 rfl) ?_
  refine lv_iconst (v := 1) hx hb dL_law_160 (by decide) ?_
  refine lv_iadd hx hb dL_law_161 ?_
  refine lv_topi (fun x_1 ex_1 => ?_)
  have fx_1 : x_1.toInt = (i : Int) + 1 := by have h9 := s_add (x := nI i) (y := 1) (by rw [hiI, i_1]; omega) (by rw [hiI, i_1]; omega); rw [hiI, i_1] at h9; rw [ex_1]; exact h9
  have vi_2 : vp_in x_1 L := vp_in_iff.mpr (by omega)
  refine va_sld hx hb hX hbl hbA hS vi_2 dL_law_162 ?_
  refine lv_topi (fun x_3 ex_3 => ?_)
  refine lv_aload_n hx hb dL_law_163 rfl (lv_at hl 4 rfl) ?_
  refine lv_iload hx hb dL_law_164 (lv_at hl 0 rfl) ?_
  refine lv_iconst (v := 2) hx hb dL_law_166 (by decide) ?_
  refine lv_iadd hx hb dL_law_167 ?_
  refine lv_topi (fun x_4 ex_4 => ?_)
  have fx_4 : x_4.toInt = (i : Int) + 2 := by have h9 := s_add (x := nI i) (y := 2) (by rw [hiI, i_2]; omega) (by rw [hiI, i_2]; omega); rw [hiI, i_2] at h9; rw [ex_4]; exact h9
  have vi_5 : vp_in x_4 L := vp_in_iff.mpr (by omega)
  refine va_sld hx hb hX hbl hbA hS vi_5 dL_law_168 ?_
  refine lv_topi (fun x_6 ex_6 => ?_)
  refine lv_aload_n hx hb dL_law_169 rfl (lv_at hl 4 rfl) ?_
  refine lv_iload hx hb dL_law_170 (lv_at hl 0 rfl) ?_
  refine lv_iconst (v := 3) hx hb dL_law_172 (by decide) ?_
  refine lv_iadd hx hb dL_law_173 ?_
  refine lv_topi (fun x_7 ex_7 => ?_)
  have fx_7 : x_7.toInt = (i : Int) + 3 := by have h9 := s_add (x := nI i) (y := 3) (by rw [hiI, i_3]; omega) (by rw [hiI, i_3]; omega); rw [hiI, i_3] at h9; rw [ex_7]; exact h9
  have vi_8 : vp_in x_7 L := vp_in_iff.mpr (by omega)
  refine va_sld hx hb hX hbl hbA hS vi_8 dL_law_174 ?_
  refine lv_topi (fun x_9 ex_9 => ?_)
  refine lv_aload_n hx hb dL_law_175 rfl (lv_at hl 4 rfl) ?_
  refine lv_iload hx hb dL_law_176 (lv_at hl 0 rfl) ?_
  refine lv_iconst (v := 4) hx hb dL_law_178 (by decide) ?_
  refine lv_iadd hx hb dL_law_179 ?_
  refine lv_topi (fun x_10 ex_10 => ?_)
  have fx_10 : x_10.toInt = (i : Int) + 4 := by have h9 := s_add (x := nI i) (y := 4) (by rw [hiI, i_4]; omega) (by rw [hiI, i_4]; omega); rw [hiI, i_4] at h9; rw [ex_10]; exact h9
  have vi_11 : vp_in x_10 L := vp_in_iff.mpr (by omega)
  refine va_sld hx hb hX hbl hbA hS vi_11 dL_law_180 ?_
  refine lv_topi (fun x_12 ex_12 => ?_)
  refine lv_aload_n hx hb dL_law_181 rfl (lv_at hl 4 rfl) ?_
  refine lv_iload hx hb dL_law_182 (lv_at hl 0 rfl) ?_
  refine lv_iconst (v := 5) hx hb dL_law_184 (by decide) ?_
  refine lv_iadd hx hb dL_law_185 ?_
  refine lv_topi (fun x_13 ex_13 => ?_)
  have fx_13 : x_13.toInt = (i : Int) + 5 := by have h9 := s_add (x := nI i) (y := 5) (by rw [hiI, i_5]; omega) (by rw [hiI, i_5]; omega); rw [hiI, i_5] at h9; rw [ex_13]; exact h9
  have vi_14 : vp_in x_13 L := vp_in_iff.mpr (by omega)
  refine va_sld hx hb hX hbl hbA hS vi_14 dL_law_186 ?_
  refine lv_topi (fun x_15 ex_15 => ?_)
  refine va_calli (vx_runSW (hh := [(0, 11, 14, 13)]) (As := [.ref x0, .int x_3, .int x_6, .int x_9, .int x_12, .int x_15]) (rest := []) ⟨hx, hb, hml, hown, hts⟩ (w_L_region l hst E s.heap.size Gc hGzc B R hW x0 x_3 x_6 x_9 x_12 x_15 hxc) (vx_cwSW 6 hts (gdW ml_L_56 st_L_region in_L co_L_region rfl) rfl rfl rfl (by decide +kernel) ⟨Nat.le_of_ble_eq_true rfl, Nat.le_of_ble_eq_true rfl⟩) ⟨fun a U g mk q => ⟨q.1, q.2.1, KS.calling q.2.2.1, NC.vm q.2.2.2 rfl⟩, fun U hU hW => ⟨rfl, by rw [hU]; exact hT, hK.go hW hS hAz hU, hN.go hW⟩⟩ rfl rfl hl.1 rfl (lv_room (Nat.le_of_ble_eq_true rfl)) dL_law_187 ⟨hC2, hS2⟩) hS (fun q _ h => hGzc q (zn (L := [7]) (by decide) h)) (fun q h => hGzc q (zn (L := [7]) (by decide) h)) (fun r_16 u_16 t H locs ht9 hvm hwr_16 hB hz hk hS => ?_)
  rw [ht9] at hB
  obtain ⟨Z_16, y_16⟩ := u_16
  have hT := hB
  have hM := hM.away hR (fun q hq hg => hk q hq (fun h => zn (L := [7]) (by decide) h (hd q hg)))
  have hro := hro.kept (hk _ hro.lt (fun h => zn (L := [7]) (by decide) h hGco))
  have hT : TX E Gc Z_16 R H := hT
  rcases hwr_16 with ⟨rfl, hW2, hF2, hC⟩ | ⟨rfl, eB, hC⟩
  · have hW : TW Gc Z_16 R := hW2
    have hC : C_X9_region Gc B R x0 x_3 x_6 x_9 x_12 x_15 Z_16 := hC
    refine lv_istore (lv' := [(5, .int 0), (4, .int (nI i)), (3, .ref o0), (2, .ref m0), (1, .ref x0), (0, .ref b)]) hx hb dL_law_190 hl (by decide) rfl (fun ls hl => ?_)
    refine lv_aload_n hx hb dL_law_192 rfl (lv_at hl 3 rfl) ?_
    refine lv_aload_n hx hb dL_law_193 rfl (lv_at hl 5 rfl) ?_
    refine lv_iload hx hb dL_law_194 (lv_at hl 1 rfl) ?_
    refine lv_iconst (v := 1) hx hb dL_law_196 (by decide) ?_
    refine lv_iadd hx hb dL_law_197 ?_
    refine W.eq (g2 := F0 m 198 ls [.int x_1, .ref b, .ref m0]) (by rw [ex_1]) ?_
    refine va_sld hx hb hX hbl hbA hS vi_2 dL_law_198 ?_
    refine W.eq (g2 := F0 m 199 ls [.int x_3, .ref m0]) (by rw [ex_3]) ?_
    refine lv_aload_n hx hb dL_law_199 rfl (lv_at hl 5 rfl) ?_
    refine lv_iload hx hb dL_law_200 (lv_at hl 1 rfl) ?_
    refine lv_iconst (v := 2) hx hb dL_law_202 (by decide) ?_
    refine lv_iadd hx hb dL_law_203 ?_
    refine W.eq (g2 := F0 m 204 ls [.int x_4, .ref b, .int x_3, .ref m0]) (by rw [ex_4]) ?_
    refine va_sld hx hb hX hbl hbA hS vi_5 dL_law_204 ?_
    refine W.eq (g2 := F0 m 205 ls [.int x_6, .int x_3, .ref m0]) (by rw [ex_6]) ?_
    refine lv_aload_n hx hb dL_law_205 rfl (lv_at hl 5 rfl) ?_
    refine lv_iload hx hb dL_law_206 (lv_at hl 1 rfl) ?_
    refine lv_iconst (v := 3) hx hb dL_law_208 (by decide) ?_
    refine lv_iadd hx hb dL_law_209 ?_
    refine W.eq (g2 := F0 m 210 ls [.int x_7, .ref b, .int x_6, .int x_3, .ref m0]) (by rw [ex_7]) ?_
    refine va_sld hx hb hX hbl hbA hS vi_8 dL_law_210 ?_
    refine W.eq (g2 := F0 m 211 ls [.int x_9, .int x_6, .int x_3, .ref m0]) (by rw [ex_9]) ?_
    refine lv_aload_n hx hb dL_law_211 rfl (lv_at hl 5 rfl) ?_
    refine lv_iload hx hb dL_law_212 (lv_at hl 1 rfl) ?_
    refine lv_iconst (v := 4) hx hb dL_law_214 (by decide) ?_
    refine lv_iadd hx hb dL_law_215 ?_
    refine W.eq (g2 := F0 m 216 ls [.int x_10, .ref b, .int x_9, .int x_6, .int x_3, .ref m0]) (by rw [ex_10]) ?_
    refine va_sld hx hb hX hbl hbA hS vi_11 dL_law_216 ?_
    refine W.eq (g2 := F0 m 217 ls [.int x_12, .int x_9, .int x_6, .int x_3, .ref m0]) (by rw [ex_12]) ?_
    refine lv_aload_n hx hb dL_law_217 rfl (lv_at hl 5 rfl) ?_
    refine lv_iload hx hb dL_law_218 (lv_at hl 1 rfl) ?_
    refine lv_iconst (v := 5) hx hb dL_law_220 (by decide) ?_
    refine lv_iadd hx hb dL_law_221 ?_
    refine W.eq (g2 := F0 m 222 ls [.int x_13, .ref b, .int x_12, .int x_9, .int x_6, .int x_3, .ref m0]) (by rw [ex_13]) ?_
    refine va_sld hx hb hX hbl hbA hS vi_14 dL_law_222 ?_
    refine W.eq (g2 := F0 m 223 ls [.int x_15, .int x_12, .int x_9, .int x_6, .int x_3, .ref m0]) (by rw [ex_15]) ?_
    refine va_callv (rnV (fun H => MH E m0 rf t0 t1 t2 A cd pk H) (As := [.int x_3, .int x_6, .int x_9, .int x_12, .int x_15]) (rest := []) ⟨hx, hb, hml, hown, hts⟩ (u_X10_region l E s.heap.size Gm hGzm m0 rf hR t0 t1 t2 A cd pk x_3 x_6 x_9 x_12 x_15 hI2) (cwV 5 hts (gdV ml_L_59 im_X10_region se_X10_X10_region in_X10 co_X10_region rfl) rfl rfl rfl (by decide +kernel) ⟨Nat.le_of_ble_eq_true rfl, Nat.le_of_ble_eq_true rfl⟩) hM (fun U hU hW => hK.go hW hS hAz hU) (va_recv hK.1 (va_one hM.1) (ci := 10) (q0 := 0) rfl rfl) rfl rfl hl.1 rfl (lv_room (Nat.le_of_ble_eq_true rfl)) dL_law_223 ⟨hC2, hS2⟩) hS (fun q _ h => hGzm q h) (fun q h => hGzm q h) (fun ur_17 t H locs ht hvm hwr_17 hB hz hk hS => ?_)
    have hM : MH E m0 rf t0 t1 t2 (uA (uA (uA A 5 (ur_17.1)) 6 (ur_17.2.1)) 7 (ur_17.2.2.1)) ur_17.2.2.2 pk H := by rw [ht] at hB; exact hB
    have hDr_17 : D_X10_region A cd pk x_3 x_6 x_9 x_12 x_15 (uA (uA (uA A 5 (ur_17.1)) 6 (ur_17.2.1)) 7 (ur_17.2.2.1)) (ur_17.2.2.2) pk := hwr_17.2.2
    have hpr_17_0 : I2 (ur_17.1) (ur_17.2.1) := hwr_17.1
    have hpr_17_1 : ur_17.2.2.2 = if (0 ≤ x_3.toInt ∧ x_3.toInt < 2 ∧ 0 ≤ x_6.toInt ∧ x_6.toInt < 6 ∧ 0 ≤ x_15.toInt ∧ x_15.toInt ≤ 7 ∧ 0 ≤ x_9.toInt ∧ 0 ≤ x_12.toInt ∧ x_12.toInt ≤ 32 - x_9.toInt) then 0 else 1 := hwr_17.2.1
    have hT := hT.other hd2 hk
    have hro := hro.kept (hk _ hro.lt (fun h => h hGmo))
    obtain ⟨A_18, cd_18, pk_18, hM, hD, hV2⟩ : ∃ (A2 : AA) (cd2 pk2 : Int32), MH E m0 rf t0 t1 t2 A2 cd2 pk2 H ∧ D_X10_region A cd pk x_3 x_6 x_9 x_12 x_15 A2 cd2 pk2 ∧ RIV A2 pk2 := ⟨_, _, _, hM, hDr_17, ⟨⟨hpr_17_0, hI3, hI4, hI5, hI6, hI7, hI8⟩, hpk⟩⟩
    have hs_18 := s_region hSIM hV hC hD
    obtain ⟨hSIM, ep_18, hcd⟩ := hs_18
    rw [← ep_18] at hSIM
    have hV := hV2
    refine lv_goto (tgt := 971) hx hb dL_law_226 (by decide) ?_
    refine W.widen (k := C + 2) (n := S + 12) (by omega) (by omega) ?_
    exact key _ _ _ ⟨Z_16, R, A_18, cd_18, pk_18, hT, hW, hM, hSIM, hV, ⟨_, hro⟩, hS⟩ (lv_sub hl [1, 2, 3, 4, 5] rfl)
  · have eB : Z_16 = B := eB
    rw [eB] at hT
    have hC : X_X9_region Gc B R x0 x_3 x_6 x_9 x_12 x_15 IAE := hC
    refine lv_istore (lv' := [(5, .int 1), (4, .int (nI i)), (3, .ref o0), (2, .ref m0), (1, .ref x0), (0, .ref b)]) hx hb dL_law_190 hl (by decide) rfl (fun ls hl => ?_)
    refine lv_aload_n hx hb dL_law_192 rfl (lv_at hl 3 rfl) ?_
    refine lv_aload_n hx hb dL_law_193 rfl (lv_at hl 5 rfl) ?_
    refine lv_iload hx hb dL_law_194 (lv_at hl 1 rfl) ?_
    refine lv_iconst (v := 1) hx hb dL_law_196 (by decide) ?_
    refine lv_iadd hx hb dL_law_197 ?_
    refine W.eq (g2 := F0 m 198 ls [.int x_1, .ref b, .ref m0]) (by rw [ex_1]) ?_
    refine va_sld hx hb hX hbl hbA hS vi_2 dL_law_198 ?_
    refine W.eq (g2 := F0 m 199 ls [.int x_3, .ref m0]) (by rw [ex_3]) ?_
    refine lv_aload_n hx hb dL_law_199 rfl (lv_at hl 5 rfl) ?_
    refine lv_iload hx hb dL_law_200 (lv_at hl 1 rfl) ?_
    refine lv_iconst (v := 2) hx hb dL_law_202 (by decide) ?_
    refine lv_iadd hx hb dL_law_203 ?_
    refine W.eq (g2 := F0 m 204 ls [.int x_4, .ref b, .int x_3, .ref m0]) (by rw [ex_4]) ?_
    refine va_sld hx hb hX hbl hbA hS vi_5 dL_law_204 ?_
    refine W.eq (g2 := F0 m 205 ls [.int x_6, .int x_3, .ref m0]) (by rw [ex_6]) ?_
    refine lv_aload_n hx hb dL_law_205 rfl (lv_at hl 5 rfl) ?_
    refine lv_iload hx hb dL_law_206 (lv_at hl 1 rfl) ?_
    refine lv_iconst (v := 3) hx hb dL_law_208 (by decide) ?_
    refine lv_iadd hx hb dL_law_209 ?_
    refine W.eq (g2 := F0 m 210 ls [.int x_7, .ref b, .int x_6, .int x_3, .ref m0]) (by rw [ex_7]) ?_
    refine va_sld hx hb hX hbl hbA hS vi_8 dL_law_210 ?_
    refine W.eq (g2 := F0 m 211 ls [.int x_9, .int x_6, .int x_3, .ref m0]) (by rw [ex_9]) ?_
    refine lv_aload_n hx hb dL_law_211 rfl (lv_at hl 5 rfl) ?_
    refine lv_iload hx hb dL_law_212 (lv_at hl 1 rfl) ?_
    refine lv_iconst (v := 4) hx hb dL_law_214 (by decide) ?_
    refine lv_iadd hx hb dL_law_215 ?_
    refine W.eq (g2 := F0 m 216 ls [.int x_10, .ref b, .int x_9, .int x_6, .int x_3, .ref m0]) (by rw [ex_10]) ?_
    refine va_sld hx hb hX hbl hbA hS vi_11 dL_law_216 ?_
    refine W.eq (g2 := F0 m 217 ls [.int x_12, .int x_9, .int x_6, .int x_3, .ref m0]) (by rw [ex_12]) ?_
    refine lv_aload_n hx hb dL_law_217 rfl (lv_at hl 5 rfl) ?_
    refine lv_iload hx hb dL_law_218 (lv_at hl 1 rfl) ?_
    refine lv_iconst (v := 5) hx hb dL_law_220 (by decide) ?_
    refine lv_iadd hx hb dL_law_221 ?_
    refine W.eq (g2 := F0 m 222 ls [.int x_13, .ref b, .int x_12, .int x_9, .int x_6, .int x_3, .ref m0]) (by rw [ex_13]) ?_
    refine va_sld hx hb hX hbl hbA hS vi_14 dL_law_222 ?_
    refine W.eq (g2 := F0 m 223 ls [.int x_15, .int x_12, .int x_9, .int x_6, .int x_3, .ref m0]) (by rw [ex_15]) ?_
    refine va_callv (rnV (fun H => MH E m0 rf t0 t1 t2 A cd pk H) (As := [.int x_3, .int x_6, .int x_9, .int x_12, .int x_15]) (rest := []) ⟨hx, hb, hml, hown, hts⟩ (u_X10_region l E s.heap.size Gm hGzm m0 rf hR t0 t1 t2 A cd pk x_3 x_6 x_9 x_12 x_15 hI2) (cwV 5 hts (gdV ml_L_59 im_X10_region se_X10_X10_region in_X10 co_X10_region rfl) rfl rfl rfl (by decide +kernel) ⟨Nat.le_of_ble_eq_true rfl, Nat.le_of_ble_eq_true rfl⟩) hM (fun U hU hW => hK.go hW hS hAz hU) (va_recv hK.1 (va_one hM.1) (ci := 10) (q0 := 0) rfl rfl) rfl rfl hl.1 rfl (lv_room (Nat.le_of_ble_eq_true rfl)) dL_law_223 ⟨hC2, hS2⟩) hS (fun q _ h => hGzm q h) (fun q h => hGzm q h) (fun ur_19 t H locs ht hvm hwr_19 hB hz hk hS => ?_)
    have hM : MH E m0 rf t0 t1 t2 (uA (uA (uA A 5 (ur_19.1)) 6 (ur_19.2.1)) 7 (ur_19.2.2.1)) ur_19.2.2.2 pk H := by rw [ht] at hB; exact hB
    have hDr_19 : D_X10_region A cd pk x_3 x_6 x_9 x_12 x_15 (uA (uA (uA A 5 (ur_19.1)) 6 (ur_19.2.1)) 7 (ur_19.2.2.1)) (ur_19.2.2.2) pk := hwr_19.2.2
    have hpr_19_0 : I2 (ur_19.1) (ur_19.2.1) := hwr_19.1
    have hpr_19_1 : ur_19.2.2.2 = if (0 ≤ x_3.toInt ∧ x_3.toInt < 2 ∧ 0 ≤ x_6.toInt ∧ x_6.toInt < 6 ∧ 0 ≤ x_15.toInt ∧ x_15.toInt ≤ 7 ∧ 0 ≤ x_9.toInt ∧ 0 ≤ x_12.toInt ∧ x_12.toInt ≤ 32 - x_9.toInt) then 0 else 1 := hwr_19.2.1
    have hT := hT.other hd2 hk
    have hro := hro.kept (hk _ hro.lt (fun h => h hGmo))
    obtain ⟨A_20, cd_20, pk_20, hM, hD, hV2⟩ : ∃ (A2 : AA) (cd2 pk2 : Int32), MH E m0 rf t0 t1 t2 A2 cd2 pk2 H ∧ D_X10_region A cd pk x_3 x_6 x_9 x_12 x_15 A2 cd2 pk2 ∧ RIV A2 pk2 := ⟨_, _, _, hM, hDr_19, ⟨⟨hpr_19_0, hI3, hI4, hI5, hI6, hI7, hI8⟩, hpk⟩⟩
    obtain ⟨hSIM, ep_20, hE_20⟩ := sx_region hSIM hC hD
    rw [← ep_20] at hSIM
    have hcd := hE_20.1
    have hV := hV2
    refine lv_goto (tgt := 971) hx hb dL_law_226 (by decide) ?_
    refine W.widen (k := C + 2) (n := S + 12) (by omega) (by omega) ?_
    exact key _ _ _ ⟨B, R, A_20, cd_20, pk_20, hT, hW, hM, hSIM, hV, ⟨_, hro⟩, hS⟩ (lv_sub hl [1, 2, 3, 4, 5] rfl)
set_option maxHeartbeats 8000000 in
set_option maxRecDepth 100000 in
theorem lk_1 {p : Program} {l : Launch} {e : Env} {s : State} {m : MethodId} {below : List Frame} {meth : Method} {c : Code} {b L i C S : Nat} {xs : Nat → Int32} {E : EE} {Gc Gm : Nat → Nat} {x0 m0 o0 : Nat} {rf : Nat → Nat} {t0 t1 t2 : Int32} {H : Heap} {locs : List Loc} {ls : Array Slot} (hst : l.stackTraces = false) (C0 : lw_At p s m meth c b L xs) (hLB : L ≤ 3587) (hK : KS E s.heap.size s) (hN : NC s) (F9 : LF s Gc Gm x0 m0 o0 rf t0) (hi : i + 7 ≤ L) (hC : C + 2 ≤ 621377) (hSl : S + 12 ≤ 7231939) (hI : LI E s Gc x0 m0 o0 rf t0 t1 t2 H locs) (hl : lv_has ls 7 [(4, .int (nI i)), (3, .ref o0), (2, .ref m0), (1, .ref x0), (0, .ref b)]) (key : ∀ (H : Heap) (locs : List Loc) (ls : Array Slot), LI E s Gc x0 m0 o0 rf t0 t1 t2 H locs → lv_has ls 7 [(4, .int (nI i)), (3, .ref o0), (2, .ref m0), (1, .ref x0), (0, .ref b)] → W p l e room_1 s m #[Value.ref b] below meth c H locs (C + 2) (S + 12) (lw_Z below #[Value.ref b] s) (F0 m 971 ls [])) : W p l e room_1 s m #[Value.ref b] below meth c H locs C S (lw_Z below #[Value.ref b] s) (F0 m 229 ls []) := by
  obtain ⟨hx, hb, hr, hml, hown, hts0, hX, hbl, hlocks, hgv⟩ := id C0
  obtain ⟨hxc, hR, hGzc, hGzm, hd, hGco, hGmo, hoz, h2t⟩ := F9
  have hd2 : ∀ a, Gc a ≠ 0 → Gm a = 0 := fun a h => Decidable.byContradiction fun q => h (hd a q)
  have hts : ∀ w ∈ TS, w.before #[Value.ref b] s = true := fun w hw => hts0 w (List.mem_filter.mp hw).1
  have hbA : ¬ (fun q : Nat => s.heap.size ≤ q) b := Nat.not_le.mpr hbl
  have hAz : ∀ q, (fun q : Nat => s.heap.size ≤ q) q → s.heap.size ≤ q := fun q h => h
  have hC0 : C + 0 ≤ room_1.cells := (show C + 0 ≤ 621377 by omega)
  have hS0 : S + 0 ≤ room_1.slots := (show S + 0 ≤ 7231939 by omega)
  have hC2 : C + 2 ≤ room_1.cells := (show C + 2 ≤ 621377 by omega)
  have hS2 : S + 12 ≤ room_1.slots := (show S + 12 ≤ 7231939 by omega)
  have hiI : (nI i).toInt = (i : Int) := nI_toInt (by omega)
  obtain ⟨B, R, A, cd, pk, hT, hW, hM, hSIM, hV, ⟨fo, hro⟩, hS⟩ := hI
  obtain ⟨hI2, hI3, hI4, hI5, hI6, hI7, hI8, hpk⟩ := hV.c3
  refine lv_aload_n hx hb dL_law_229 rfl (lv_at hl 3 rfl) ?_
  refine lv_aload_n hx hb dL_law_230 rfl (lv_at hl 4 rfl) ?_
  refine lv_iload hx hb dL_law_231 (lv_at hl 0 rfl) ?_
  refine lv_iconst (v := 1) hx hb dL_law_233 (by decide) ?_
  refine lv_iadd hx hb dL_law_234 ?_
  refine lv_topi (fun x_1 ex_1 => ?_)
  have fx_1 : x_1.toInt = (i : Int) + 1 := by have h9 := s_add (x := nI i) (y := 1) (by rw [hiI, i_1]; omega) (by rw [hiI, i_1]; omega); rw [hiI, i_1] at h9; rw [ex_1]; exact h9
  have vi_2 : vp_in x_1 L := vp_in_iff.mpr (by omega)
  refine va_sld hx hb hX hbl hbA hS vi_2 dL_law_235 ?_
  refine lv_topi (fun x_3 ex_3 => ?_)
  refine lv_aload_n hx hb dL_law_236 rfl (lv_at hl 4 rfl) ?_
  refine lv_iload hx hb dL_law_237 (lv_at hl 0 rfl) ?_
  refine lv_iconst (v := 2) hx hb dL_law_239 (by decide) ?_
  refine lv_iadd hx hb dL_law_240 ?_
  refine lv_topi (fun x_4 ex_4 => ?_)
  have fx_4 : x_4.toInt = (i : Int) + 2 := by have h9 := s_add (x := nI i) (y := 2) (by rw [hiI, i_2]; omega) (by rw [hiI, i_2]; omega); rw [hiI, i_2] at h9; rw [ex_4]; exact h9
  have vi_5 : vp_in x_4 L := vp_in_iff.mpr (by omega)
  refine va_sld hx hb hX hbl hbA hS vi_5 dL_law_241 ?_
  refine lv_topi (fun x_6 ex_6 => ?_)
  refine lv_aload_n hx hb dL_law_242 rfl (lv_at hl 4 rfl) ?_
  refine lv_iload hx hb dL_law_243 (lv_at hl 0 rfl) ?_
  refine lv_iconst (v := 3) hx hb dL_law_245 (by decide) ?_
  refine lv_iadd hx hb dL_law_246 ?_
  refine lv_topi (fun x_7 ex_7 => ?_)
  have fx_7 : x_7.toInt = (i : Int) + 3 := by have h9 := s_add (x := nI i) (y := 3) (by rw [hiI, i_3]; omega) (by rw [hiI, i_3]; omega); rw [hiI, i_3] at h9; rw [ex_7]; exact h9
  have vi_8 : vp_in x_7 L := vp_in_iff.mpr (by omega)
  refine va_sld hx hb hX hbl hbA hS vi_8 dL_law_247 ?_
  refine lv_topi (fun x_9 ex_9 => ?_)
  refine va_calli (vx_runSW (hh := [(0, 7, 10, 13)]) (As := [.ref x0, .int x_3, .int x_6, .int x_9]) (rest := []) ⟨hx, hb, hml, hown, hts⟩ (w_L_store l hst E s.heap.size Gc hGzc B R hW x0 x_3 x_6 x_9 hxc) (vx_cwSW 4 hts (gdW ml_L_60 st_L_store in_L co_L_store rfl) rfl rfl rfl (by decide +kernel) ⟨Nat.le_of_ble_eq_true rfl, Nat.le_of_ble_eq_true rfl⟩) ⟨fun a U g mk q => ⟨q.1, q.2.1, KS.calling q.2.2.1, NC.vm q.2.2.2 rfl⟩, fun U hU hW => ⟨rfl, by rw [hU]; exact hT, hK.go hW hS hAz hU, hN.go hW⟩⟩ rfl rfl hl.1 rfl (lv_room (Nat.le_of_ble_eq_true rfl)) dL_law_248 ⟨hC2, hS2⟩) hS (fun q _ h => hGzc q (zn (L := [14]) (by decide) h)) (fun q h => hGzc q (zn (L := [14]) (by decide) h)) (fun r_10 u_10 t H locs ht9 hvm hwr_10 hB hz hk hS => ?_)
  rw [ht9] at hB
  obtain ⟨Z_10, y_10⟩ := u_10
  have hT := hB
  have hM := hM.away hR (fun q hq hg => hk q hq (fun h => zn (L := [14]) (by decide) h (hd q hg)))
  have hro := hro.kept (hk _ hro.lt (fun h => zn (L := [14]) (by decide) h hGco))
  have hT : TX E Gc Z_10 R H := hT
  rcases hwr_10 with ⟨rfl, hW2, hF2, hC⟩ | ⟨rfl, eB, hC⟩
  · have hW : TW Gc Z_10 R := hW2
    have hC : C_X9_store Gc B R x0 x_3 x_6 x_9 Z_10 := hC
    refine lv_istore (lv' := [(5, .int 0), (4, .int (nI i)), (3, .ref o0), (2, .ref m0), (1, .ref x0), (0, .ref b)]) hx hb dL_law_251 hl (by decide) rfl (fun ls hl => ?_)
    refine lv_aload_n hx hb dL_law_253 rfl (lv_at hl 3 rfl) ?_
    refine lv_aload_n hx hb dL_law_254 rfl (lv_at hl 5 rfl) ?_
    refine lv_iload hx hb dL_law_255 (lv_at hl 1 rfl) ?_
    refine lv_iconst (v := 1) hx hb dL_law_257 (by decide) ?_
    refine lv_iadd hx hb dL_law_258 ?_
    refine W.eq (g2 := F0 m 259 ls [.int x_1, .ref b, .ref m0]) (by rw [ex_1]) ?_
    refine va_sld hx hb hX hbl hbA hS vi_2 dL_law_259 ?_
    refine W.eq (g2 := F0 m 260 ls [.int x_3, .ref m0]) (by rw [ex_3]) ?_
    refine lv_aload_n hx hb dL_law_260 rfl (lv_at hl 5 rfl) ?_
    refine lv_iload hx hb dL_law_261 (lv_at hl 1 rfl) ?_
    refine lv_iconst (v := 2) hx hb dL_law_263 (by decide) ?_
    refine lv_iadd hx hb dL_law_264 ?_
    refine W.eq (g2 := F0 m 265 ls [.int x_4, .ref b, .int x_3, .ref m0]) (by rw [ex_4]) ?_
    refine va_sld hx hb hX hbl hbA hS vi_5 dL_law_265 ?_
    refine W.eq (g2 := F0 m 266 ls [.int x_6, .int x_3, .ref m0]) (by rw [ex_6]) ?_
    refine lv_aload_n hx hb dL_law_266 rfl (lv_at hl 5 rfl) ?_
    refine lv_iload hx hb dL_law_267 (lv_at hl 1 rfl) ?_
    refine lv_iconst (v := 3) hx hb dL_law_269 (by decide) ?_
    refine lv_iadd hx hb dL_law_270 ?_
    refine W.eq (g2 := F0 m 271 ls [.int x_7, .ref b, .int x_6, .int x_3, .ref m0]) (by rw [ex_7]) ?_
    refine va_sld hx hb hX hbl hbA hS vi_8 dL_law_271 ?_
    refine W.eq (g2 := F0 m 272 ls [.int x_9, .int x_6, .int x_3, .ref m0]) (by rw [ex_9]) ?_
    refine va_callv (rnV (fun H => MH E m0 rf t0 t1 t2 A cd pk H) (As := [.int x_3, .int x_6, .int x_9]) (rest := []) ⟨hx, hb, hml, hown, hts⟩ (u_X10_store l E s.heap.size Gm hGzm m0 rf hR t0 t1 t2 A cd pk x_3 x_6 x_9) (cwV 3 hts (gdV ml_L_63 im_X10_store se_X10_X10_store in_X10 co_X10_store rfl) rfl rfl rfl (by decide +kernel) ⟨Nat.le_of_ble_eq_true rfl, Nat.le_of_ble_eq_true rfl⟩) hM (fun U hU hW => hK.go hW hS hAz hU) (va_recv hK.1 (va_one hM.1) (ci := 10) (q0 := 0) rfl rfl) rfl rfl hl.1 rfl (lv_room (Nat.le_of_ble_eq_true rfl)) dL_law_272 ⟨hC2, hS2⟩) hS (fun q _ h => hGzm q h) (fun q h => hGzm q h) (fun ur_11 t H locs ht hvm hwr_11 hB hz hk hS => ?_)
    have hM : MH E m0 rf t0 t1 t2 (uA A 4 (ur_11.1)) ur_11.2 pk H := by rw [ht] at hB; exact hB
    have hDr_11 : D_X10_store A cd pk x_3 x_6 x_9 (uA A 4 (ur_11.1)) (ur_11.2) pk := hwr_11.2.2
    have hpr_11_0 : True := hwr_11.1
    have hpr_11_1 : ur_11.2 = if (0 ≤ x_3.toInt ∧ x_3.toInt < 2 ∧ 0 ≤ x_6.toInt ∧ x_6.toInt < 32) then 0 else 1 := hwr_11.2.1
    have hT := hT.other hd2 hk
    have hro := hro.kept (hk _ hro.lt (fun h => h hGmo))
    obtain ⟨A_12, cd_12, pk_12, hM, hD, hV2⟩ : ∃ (A2 : AA) (cd2 pk2 : Int32), MH E m0 rf t0 t1 t2 A2 cd2 pk2 H ∧ D_X10_store A cd pk x_3 x_6 x_9 A2 cd2 pk2 ∧ RIV A2 pk2 := ⟨_, _, _, hM, hDr_11, ⟨⟨hI2, hI3, hI4, hI5, hI6, hI7, hI8⟩, hpk⟩⟩
    have hs_12 := s_store hSIM hV hC hD
    obtain ⟨hSIM, ep_12, hcd⟩ := hs_12
    rw [← ep_12] at hSIM
    have hV := hV2
    refine lv_goto (tgt := 971) hx hb dL_law_275 (by decide) ?_
    refine W.widen (k := C + 2) (n := S + 12) (by omega) (by omega) ?_
    exact key _ _ _ ⟨Z_10, R, A_12, cd_12, pk_12, hT, hW, hM, hSIM, hV, ⟨_, hro⟩, hS⟩ (lv_sub hl [1, 2, 3, 4, 5] rfl)
  · have eB : Z_10 = B := eB
    rw [eB] at hT
    have hC : X_X9_store Gc B R x0 x_3 x_6 x_9 IAE := hC
    refine lv_istore (lv' := [(5, .int 1), (4, .int (nI i)), (3, .ref o0), (2, .ref m0), (1, .ref x0), (0, .ref b)]) hx hb dL_law_251 hl (by decide) rfl (fun ls hl => ?_)
    refine lv_aload_n hx hb dL_law_253 rfl (lv_at hl 3 rfl) ?_
    refine lv_aload_n hx hb dL_law_254 rfl (lv_at hl 5 rfl) ?_
    refine lv_iload hx hb dL_law_255 (lv_at hl 1 rfl) ?_
    refine lv_iconst (v := 1) hx hb dL_law_257 (by decide) ?_
    refine lv_iadd hx hb dL_law_258 ?_
    refine W.eq (g2 := F0 m 259 ls [.int x_1, .ref b, .ref m0]) (by rw [ex_1]) ?_
    refine va_sld hx hb hX hbl hbA hS vi_2 dL_law_259 ?_
    refine W.eq (g2 := F0 m 260 ls [.int x_3, .ref m0]) (by rw [ex_3]) ?_
    refine lv_aload_n hx hb dL_law_260 rfl (lv_at hl 5 rfl) ?_
    refine lv_iload hx hb dL_law_261 (lv_at hl 1 rfl) ?_
    refine lv_iconst (v := 2) hx hb dL_law_263 (by decide) ?_
    refine lv_iadd hx hb dL_law_264 ?_
    refine W.eq (g2 := F0 m 265 ls [.int x_4, .ref b, .int x_3, .ref m0]) (by rw [ex_4]) ?_
    refine va_sld hx hb hX hbl hbA hS vi_5 dL_law_265 ?_
    refine W.eq (g2 := F0 m 266 ls [.int x_6, .int x_3, .ref m0]) (by rw [ex_6]) ?_
    refine lv_aload_n hx hb dL_law_266 rfl (lv_at hl 5 rfl) ?_
    refine lv_iload hx hb dL_law_267 (lv_at hl 1 rfl) ?_
    refine lv_iconst (v := 3) hx hb dL_law_269 (by decide) ?_
    refine lv_iadd hx hb dL_law_270 ?_
    refine W.eq (g2 := F0 m 271 ls [.int x_7, .ref b, .int x_6, .int x_3, .ref m0]) (by rw [ex_7]) ?_
    refine va_sld hx hb hX hbl hbA hS vi_8 dL_law_271 ?_
    refine W.eq (g2 := F0 m 272 ls [.int x_9, .int x_6, .int x_3, .ref m0]) (by rw [ex_9]) ?_
    refine va_callv (rnV (fun H => MH E m0 rf t0 t1 t2 A cd pk H) (As := [.int x_3, .int x_6, .int x_9]) (rest := []) ⟨hx, hb, hml, hown, hts⟩ (u_X10_store l E s.heap.size Gm hGzm m0 rf hR t0 t1 t2 A cd pk x_3 x_6 x_9) (cwV 3 hts (gdV ml_L_63 im_X10_store se_X10_X10_store in_X10 co_X10_store rfl) rfl rfl rfl (by decide +kernel) ⟨Nat.le_of_ble_eq_true rfl, Nat.le_of_ble_eq_true rfl⟩) hM (fun U hU hW => hK.go hW hS hAz hU) (va_recv hK.1 (va_one hM.1) (ci := 10) (q0 := 0) rfl rfl) rfl rfl hl.1 rfl (lv_room (Nat.le_of_ble_eq_true rfl)) dL_law_272 ⟨hC2, hS2⟩) hS (fun q _ h => hGzm q h) (fun q h => hGzm q h) (fun ur_13 t H locs ht hvm hwr_13 hB hz hk hS => ?_)
    have hM : MH E m0 rf t0 t1 t2 (uA A 4 (ur_13.1)) ur_13.2 pk H := by rw [ht] at hB; exact hB
    have hDr_13 : D_X10_store A cd pk x_3 x_6 x_9 (uA A 4 (ur_13.1)) (ur_13.2) pk := hwr_13.2.2
    have hpr_13_0 : True := hwr_13.1
    have hpr_13_1 : ur_13.2 = if (0 ≤ x_3.toInt ∧ x_3.toInt < 2 ∧ 0 ≤ x_6.toInt ∧ x_6.toInt < 32) then 0 else 1 := hwr_13.2.1
    have hT := hT.other hd2 hk
    have hro := hro.kept (hk _ hro.lt (fun h => h hGmo))
    obtain ⟨A_14, cd_14, pk_14, hM, hD, hV2⟩ : ∃ (A2 : AA) (cd2 pk2 : Int32), MH E m0 rf t0 t1 t2 A2 cd2 pk2 H ∧ D_X10_store A cd pk x_3 x_6 x_9 A2 cd2 pk2 ∧ RIV A2 pk2 := ⟨_, _, _, hM, hDr_13, ⟨⟨hI2, hI3, hI4, hI5, hI6, hI7, hI8⟩, hpk⟩⟩
    obtain ⟨hSIM, ep_14, hE_14⟩ := sx_store hSIM hC hD
    rw [← ep_14] at hSIM
    have hcd := hE_14.1
    have hV := hV2
    refine lv_goto (tgt := 971) hx hb dL_law_275 (by decide) ?_
    refine W.widen (k := C + 2) (n := S + 12) (by omega) (by omega) ?_
    exact key _ _ _ ⟨B, R, A_14, cd_14, pk_14, hT, hW, hM, hSIM, hV, ⟨_, hro⟩, hS⟩ (lv_sub hl [1, 2, 3, 4, 5] rfl)
set_option maxHeartbeats 8000000 in
set_option maxRecDepth 100000 in
theorem lk_2 {p : Program} {l : Launch} {e : Env} {s : State} {m : MethodId} {below : List Frame} {meth : Method} {c : Code} {b L i C S : Nat} {xs : Nat → Int32} {E : EE} {Gc Gm : Nat → Nat} {x0 m0 o0 : Nat} {rf : Nat → Nat} {t0 t1 t2 : Int32} {H : Heap} {locs : List Loc} {ls : Array Slot} (hst : l.stackTraces = false) (C0 : lw_At p s m meth c b L xs) (hLB : L ≤ 3587) (hK : KS E s.heap.size s) (hN : NC s) (F9 : LF s Gc Gm x0 m0 o0 rf t0) (hi : i + 7 ≤ L) (hC : C + 2 ≤ 621377) (hSl : S + 12 ≤ 7231939) (hI : LI E s Gc x0 m0 o0 rf t0 t1 t2 H locs) (hl : lv_has ls 7 [(4, .int (nI i)), (3, .ref o0), (2, .ref m0), (1, .ref x0), (0, .ref b)]) (key : ∀ (H : Heap) (locs : List Loc) (ls : Array Slot), LI E s Gc x0 m0 o0 rf t0 t1 t2 H locs → lv_has ls 7 [(4, .int (nI i)), (3, .ref o0), (2, .ref m0), (1, .ref x0), (0, .ref b)] → W p l e room_1 s m #[Value.ref b] below meth c H locs (C + 2) (S + 12) (lw_Z below #[Value.ref b] s) (F0 m 971 ls [])) : W p l e room_1 s m #[Value.ref b] below meth c H locs C S (lw_Z below #[Value.ref b] s) (F0 m 278 ls []) := by
  obtain ⟨hx, hb, hr, hml, hown, hts0, hX, hbl, hlocks, hgv⟩ := id C0
  obtain ⟨hxc, hR, hGzc, hGzm, hd, hGco, hGmo, hoz, h2t⟩ := F9
  have hd2 : ∀ a, Gc a ≠ 0 → Gm a = 0 := fun a h => Decidable.byContradiction fun q => h (hd a q)
  have hts : ∀ w ∈ TS, w.before #[Value.ref b] s = true := fun w hw => hts0 w (List.mem_filter.mp hw).1
  have hbA : ¬ (fun q : Nat => s.heap.size ≤ q) b := Nat.not_le.mpr hbl
  have hAz : ∀ q, (fun q : Nat => s.heap.size ≤ q) q → s.heap.size ≤ q := fun q h => h
  have hC0 : C + 0 ≤ room_1.cells := (show C + 0 ≤ 621377 by omega)
  have hS0 : S + 0 ≤ room_1.slots := (show S + 0 ≤ 7231939 by omega)
  have hC2 : C + 2 ≤ room_1.cells := (show C + 2 ≤ 621377 by omega)
  have hS2 : S + 12 ≤ room_1.slots := (show S + 12 ≤ 7231939 by omega)
  have hiI : (nI i).toInt = (i : Int) := nI_toInt (by omega)
  obtain ⟨B, R, A, cd, pk, hT, hW, hM, hSIM, hV, ⟨fo, hro⟩, hS⟩ := hI
  obtain ⟨hI2, hI3, hI4, hI5, hI6, hI7, hI8, hpk⟩ := hV.c3
  refine lv_aload_n hx hb dL_law_278 rfl (lv_at hl 3 rfl) ?_
  refine lv_aload_n hx hb dL_law_279 rfl (lv_at hl 4 rfl) ?_
  refine lv_iload hx hb dL_law_280 (lv_at hl 0 rfl) ?_
  refine lv_iconst (v := 1) hx hb dL_law_282 (by decide) ?_
  refine lv_iadd hx hb dL_law_283 ?_
  refine lv_topi (fun x_1 ex_1 => ?_)
  have fx_1 : x_1.toInt = (i : Int) + 1 := by have h9 := s_add (x := nI i) (y := 1) (by rw [hiI, i_1]; omega) (by rw [hiI, i_1]; omega); rw [hiI, i_1] at h9; rw [ex_1]; exact h9
  have vi_2 : vp_in x_1 L := vp_in_iff.mpr (by omega)
  refine va_sld hx hb hX hbl hbA hS vi_2 dL_law_284 ?_
  refine lv_topi (fun x_3 ex_3 => ?_)
  refine lv_aload_n hx hb dL_law_285 rfl (lv_at hl 4 rfl) ?_
  refine lv_iload hx hb dL_law_286 (lv_at hl 0 rfl) ?_
  refine lv_iconst (v := 2) hx hb dL_law_288 (by decide) ?_
  refine lv_iadd hx hb dL_law_289 ?_
  refine lv_topi (fun x_4 ex_4 => ?_)
  have fx_4 : x_4.toInt = (i : Int) + 2 := by have h9 := s_add (x := nI i) (y := 2) (by rw [hiI, i_2]; omega) (by rw [hiI, i_2]; omega); rw [hiI, i_2] at h9; rw [ex_4]; exact h9
  have vi_5 : vp_in x_4 L := vp_in_iff.mpr (by omega)
  refine va_sld hx hb hX hbl hbA hS vi_5 dL_law_290 ?_
  refine lv_topi (fun x_6 ex_6 => ?_)
  have ha_7 := tx_1 hT hxc
  refine va_calli (rnV (fun H => TX E Gc B R H) (As := [.int x_3, .int x_6]) (rest := []) ⟨hx, hb, hml, hown, hts⟩ (x_X9_cell l E s.heap.size Gc hGzc B R hW x0 x_3 x_6 hxc) (cwV 2 hts (gdV ml_L_64 im_X9_cell se_X9_X9_cell in_X9 co_X9_cell rfl) rfl rfl rfl (by decide +kernel) ⟨Nat.le_of_ble_eq_true rfl, Nat.le_of_ble_eq_true rfl⟩) hT (fun U hU hW => hK.go hW hS hAz hU) (va_recv hK.1 (va_one ha_7) (ci := 9) (q0 := 0) rfl rfl) rfl rfl hl.1 rfl (lv_room (Nat.le_of_ble_eq_true rfl)) dL_law_291 ⟨hC0, hS0⟩) hS (fun q _ h => h.elim) (fun q h => h.elim) (fun r_7 u_7 t H locs ht9 hvm hwr_7 hB hz hk hS => ?_)
  have hT := hT.kept (fun q hq => hk q hq (fun h => h))
  have hM := hM.kept (fun q hq => hk q hq (fun h => h))
  have hro := hro.kept (hk _ hro.lt (fun h => h))
  have hC : C_X9_cell Gc B R x0 x_3 x_6 r_7 := hwr_7
  refine lv_pop hx hb dL_law_294 rfl ?_
  refine lv_aload_n hx hb dL_law_295 rfl (lv_at hl 2 rfl) ?_
  refine lv_aload_n hx hb dL_law_296 rfl (lv_at hl 4 rfl) ?_
  refine lv_iload hx hb dL_law_297 (lv_at hl 0 rfl) ?_
  refine lv_iconst (v := 1) hx hb dL_law_299 (by decide) ?_
  refine lv_iadd hx hb dL_law_300 ?_
  refine W.eq (g2 := F0 m 301 ls [.int x_1, .ref b, .ref m0]) (by rw [ex_1]) ?_
  refine va_sld hx hb hX hbl hbA hS vi_2 dL_law_301 ?_
  refine W.eq (g2 := F0 m 302 ls [.int x_3, .ref m0]) (by rw [ex_3]) ?_
  refine lv_aload_n hx hb dL_law_302 rfl (lv_at hl 4 rfl) ?_
  refine lv_iload hx hb dL_law_303 (lv_at hl 0 rfl) ?_
  refine lv_iconst (v := 2) hx hb dL_law_305 (by decide) ?_
  refine lv_iadd hx hb dL_law_306 ?_
  refine W.eq (g2 := F0 m 307 ls [.int x_4, .ref b, .int x_3, .ref m0]) (by rw [ex_4]) ?_
  refine va_sld hx hb hX hbl hbA hS vi_5 dL_law_307 ?_
  refine W.eq (g2 := F0 m 308 ls [.int x_6, .int x_3, .ref m0]) (by rw [ex_6]) ?_
  refine va_calli (rnV (fun H => MH E m0 rf t0 t1 t2 A cd pk H) (As := [.int x_3, .int x_6]) (rest := []) ⟨hx, hb, hml, hown, hts⟩ (u_X10_cell l E s.heap.size Gm hGzm m0 rf hR t0 t1 t2 A cd pk x_3 x_6) (cwV 2 hts (gdV ml_L_66 im_X10_cell se_X10_X10_cell in_X10 co_X10_cell rfl) rfl rfl rfl (by decide +kernel) ⟨Nat.le_of_ble_eq_true rfl, Nat.le_of_ble_eq_true rfl⟩) hM (fun U hU hW => hK.go hW hS hAz hU) (va_recv hK.1 (va_one hM.1) (ci := 10) (q0 := 0) rfl rfl) rfl rfl hl.1 rfl (lv_room (Nat.le_of_ble_eq_true rfl)) dL_law_308 ⟨hC0, hS0⟩) hS (fun q _ h => hGzm q h) (fun q h => hGzm q h) (fun r_8 ur_8 t H locs ht hvm hwr_8 hB hz hk hS => ?_)
  have hM : MH E m0 rf t0 t1 t2 A ur_8 pk H := by rw [ht] at hB; exact hB
  have hDr_8 : D_X10_cell A cd pk x_3 x_6 A ur_8 pk r_8 := hwr_8
  have hT := hT.other hd2 hk
  have hro := hro.kept (hk _ hro.lt (fun h => h hGmo))
  have er_9 := (s_cell hSIM hC hDr_8).1
  obtain rfl := er_9
  refine lv_pop hx hb dL_law_311 rfl ?_
  refine lv_goto (tgt := 971) hx hb dL_law_312 (by decide) ?_
  refine W.widen (k := C + 2) (n := S + 12) (by omega) (by omega) ?_
  exact key _ _ _ ⟨B, R, A, ur_8, pk, hT, hW, hM, hSIM, hV, ⟨_, hro⟩, hS⟩ (lv_sub hl [0, 1, 2, 3, 4] rfl)
set_option maxHeartbeats 8000000 in
set_option maxRecDepth 100000 in
theorem lk_3 {p : Program} {l : Launch} {e : Env} {s : State} {m : MethodId} {below : List Frame} {meth : Method} {c : Code} {b L i C S : Nat} {xs : Nat → Int32} {E : EE} {Gc Gm : Nat → Nat} {x0 m0 o0 : Nat} {rf : Nat → Nat} {t0 t1 t2 : Int32} {H : Heap} {locs : List Loc} {ls : Array Slot} (hst : l.stackTraces = false) (C0 : lw_At p s m meth c b L xs) (hLB : L ≤ 3587) (hK : KS E s.heap.size s) (hN : NC s) (F9 : LF s Gc Gm x0 m0 o0 rf t0) (hi : i + 7 ≤ L) (hC : C + 2 ≤ 621377) (hSl : S + 12 ≤ 7231939) (hI : LI E s Gc x0 m0 o0 rf t0 t1 t2 H locs) (hl : lv_has ls 7 [(4, .int (nI i)), (3, .ref o0), (2, .ref m0), (1, .ref x0), (0, .ref b)]) (key : ∀ (H : Heap) (locs : List Loc) (ls : Array Slot), LI E s Gc x0 m0 o0 rf t0 t1 t2 H locs → lv_has ls 7 [(4, .int (nI i)), (3, .ref o0), (2, .ref m0), (1, .ref x0), (0, .ref b)] → W p l e room_1 s m #[Value.ref b] below meth c H locs (C + 2) (S + 12) (lw_Z below #[Value.ref b] s) (F0 m 971 ls [])) : W p l e room_1 s m #[Value.ref b] below meth c H locs C S (lw_Z below #[Value.ref b] s) (F0 m 315 ls []) := by
  obtain ⟨hx, hb, hr, hml, hown, hts0, hX, hbl, hlocks, hgv⟩ := id C0
  obtain ⟨hxc, hR, hGzc, hGzm, hd, hGco, hGmo, hoz, h2t⟩ := F9
  have hd2 : ∀ a, Gc a ≠ 0 → Gm a = 0 := fun a h => Decidable.byContradiction fun q => h (hd a q)
  have hts : ∀ w ∈ TS, w.before #[Value.ref b] s = true := fun w hw => hts0 w (List.mem_filter.mp hw).1
  have hbA : ¬ (fun q : Nat => s.heap.size ≤ q) b := Nat.not_le.mpr hbl
  have hAz : ∀ q, (fun q : Nat => s.heap.size ≤ q) q → s.heap.size ≤ q := fun q h => h
  have hC0 : C + 0 ≤ room_1.cells := (show C + 0 ≤ 621377 by omega)
  have hS0 : S + 0 ≤ room_1.slots := (show S + 0 ≤ 7231939 by omega)
  have hC2 : C + 2 ≤ room_1.cells := (show C + 2 ≤ 621377 by omega)
  have hS2 : S + 12 ≤ room_1.slots := (show S + 12 ≤ 7231939 by omega)
  have hiI : (nI i).toInt = (i : Int) := nI_toInt (by omega)
  obtain ⟨B, R, A, cd, pk, hT, hW, hM, hSIM, hV, ⟨fo, hro⟩, hS⟩ := hI
  obtain ⟨hI2, hI3, hI4, hI5, hI6, hI7, hI8, hpk⟩ := hV.c3
  refine lv_aload_n hx hb dL_law_315 rfl (lv_at hl 3 rfl) ?_
  refine lv_aload_n hx hb dL_law_316 rfl (lv_at hl 4 rfl) ?_
  refine lv_iload hx hb dL_law_317 (lv_at hl 0 rfl) ?_
  refine lv_iconst (v := 1) hx hb dL_law_319 (by decide) ?_
  refine lv_iadd hx hb dL_law_320 ?_
  refine lv_topi (fun x_1 ex_1 => ?_)
  have fx_1 : x_1.toInt = (i : Int) + 1 := by have h9 := s_add (x := nI i) (y := 1) (by rw [hiI, i_1]; omega) (by rw [hiI, i_1]; omega); rw [hiI, i_1] at h9; rw [ex_1]; exact h9
  have vi_2 : vp_in x_1 L := vp_in_iff.mpr (by omega)
  refine va_sld hx hb hX hbl hbA hS vi_2 dL_law_321 ?_
  refine lv_topi (fun x_3 ex_3 => ?_)
  refine lv_aload_n hx hb dL_law_322 rfl (lv_at hl 4 rfl) ?_
  refine lv_iload hx hb dL_law_323 (lv_at hl 0 rfl) ?_
  refine lv_iconst (v := 2) hx hb dL_law_325 (by decide) ?_
  refine lv_iadd hx hb dL_law_326 ?_
  refine lv_topi (fun x_4 ex_4 => ?_)
  have fx_4 : x_4.toInt = (i : Int) + 2 := by have h9 := s_add (x := nI i) (y := 2) (by rw [hiI, i_2]; omega) (by rw [hiI, i_2]; omega); rw [hiI, i_2] at h9; rw [ex_4]; exact h9
  have vi_5 : vp_in x_4 L := vp_in_iff.mpr (by omega)
  refine va_sld hx hb hX hbl hbA hS vi_5 dL_law_327 ?_
  refine lv_topi (fun x_6 ex_6 => ?_)
  refine lv_aload_n hx hb dL_law_328 rfl (lv_at hl 4 rfl) ?_
  refine lv_iload hx hb dL_law_329 (lv_at hl 0 rfl) ?_
  refine lv_iconst (v := 3) hx hb dL_law_331 (by decide) ?_
  refine lv_iadd hx hb dL_law_332 ?_
  refine lv_topi (fun x_7 ex_7 => ?_)
  have fx_7 : x_7.toInt = (i : Int) + 3 := by have h9 := s_add (x := nI i) (y := 3) (by rw [hiI, i_3]; omega) (by rw [hiI, i_3]; omega); rw [hiI, i_3] at h9; rw [ex_7]; exact h9
  have vi_8 : vp_in x_7 L := vp_in_iff.mpr (by omega)
  refine va_sld hx hb hX hbl hbA hS vi_8 dL_law_333 ?_
  refine lv_topi (fun x_9 ex_9 => ?_)
  refine va_calli (vx_runSW (hh := [(0, 7, 10, 13), (0, 7, 14, 22)]) (As := [.ref x0, .int x_3, .int x_6, .int x_9]) (rest := []) ⟨hx, hb, hml, hown, hts⟩ (w_L_ready l hst E s.heap.size Gc hGzc B R hW x0 x_3 x_6 x_9 hxc) (vx_cwSW 4 hts (gdW ml_L_67 st_L_ready in_L co_L_ready rfl) rfl rfl rfl (by decide +kernel) ⟨Nat.le_of_ble_eq_true rfl, Nat.le_of_ble_eq_true rfl⟩) ⟨fun a U g mk q => ⟨q.1, q.2.1, KS.calling q.2.2.1, NC.vm q.2.2.2 rfl⟩, fun U hU hW => ⟨rfl, by rw [hU]; exact hT, hK.go hW hS hAz hU, hN.go hW⟩⟩ rfl rfl hl.1 rfl (lv_room (Nat.le_of_ble_eq_true rfl)) dL_law_334 ⟨hC2, hS2⟩) hS (fun q _ h => hGzc q (zn (L := [8, 9, 10]) (by decide) h)) (fun q h => hGzc q (zn (L := [8, 9, 10]) (by decide) h)) (fun r_10 u_10 t H locs ht9 hvm hwr_10 hB hz hk hS => ?_)
  rw [ht9] at hB
  obtain ⟨Z_10, y_10⟩ := u_10
  have hT := hB
  have hM := hM.away hR (fun q hq hg => hk q hq (fun h => zn (L := [8, 9, 10]) (by decide) h (hd q hg)))
  have hro := hro.kept (hk _ hro.lt (fun h => zn (L := [8, 9, 10]) (by decide) h hGco))
  have hT : TX E Gc Z_10 R H := hT
  rcases hwr_10 with ⟨rfl, hW2, hF2, hC⟩ | ⟨rfl, eB, hC⟩ | ⟨rfl, eB, hC⟩
  · have hW : TW Gc Z_10 R := hW2
    have hC : C_X9_ready Gc B R x0 x_3 x_6 x_9 Z_10 := hC
    refine lv_istore (lv' := [(5, .int 0), (4, .int (nI i)), (3, .ref o0), (2, .ref m0), (1, .ref x0), (0, .ref b)]) hx hb dL_law_337 hl (by decide) rfl (fun ls hl => ?_)
    refine lv_aload_n hx hb dL_law_339 rfl (lv_at hl 3 rfl) ?_
    refine lv_aload_n hx hb dL_law_340 rfl (lv_at hl 5 rfl) ?_
    refine lv_iload hx hb dL_law_341 (lv_at hl 1 rfl) ?_
    refine lv_iconst (v := 1) hx hb dL_law_343 (by decide) ?_
    refine lv_iadd hx hb dL_law_344 ?_
    refine W.eq (g2 := F0 m 345 ls [.int x_1, .ref b, .ref m0]) (by rw [ex_1]) ?_
    refine va_sld hx hb hX hbl hbA hS vi_2 dL_law_345 ?_
    refine W.eq (g2 := F0 m 346 ls [.int x_3, .ref m0]) (by rw [ex_3]) ?_
    refine lv_aload_n hx hb dL_law_346 rfl (lv_at hl 5 rfl) ?_
    refine lv_iload hx hb dL_law_347 (lv_at hl 1 rfl) ?_
    refine lv_iconst (v := 2) hx hb dL_law_349 (by decide) ?_
    refine lv_iadd hx hb dL_law_350 ?_
    refine W.eq (g2 := F0 m 351 ls [.int x_4, .ref b, .int x_3, .ref m0]) (by rw [ex_4]) ?_
    refine va_sld hx hb hX hbl hbA hS vi_5 dL_law_351 ?_
    refine W.eq (g2 := F0 m 352 ls [.int x_6, .int x_3, .ref m0]) (by rw [ex_6]) ?_
    refine lv_aload_n hx hb dL_law_352 rfl (lv_at hl 5 rfl) ?_
    refine lv_iload hx hb dL_law_353 (lv_at hl 1 rfl) ?_
    refine lv_iconst (v := 3) hx hb dL_law_355 (by decide) ?_
    refine lv_iadd hx hb dL_law_356 ?_
    refine W.eq (g2 := F0 m 357 ls [.int x_7, .ref b, .int x_6, .int x_3, .ref m0]) (by rw [ex_7]) ?_
    refine va_sld hx hb hX hbl hbA hS vi_8 dL_law_357 ?_
    refine W.eq (g2 := F0 m 358 ls [.int x_9, .int x_6, .int x_3, .ref m0]) (by rw [ex_9]) ?_
    refine va_callv (rnV (fun H => MH E m0 rf t0 t1 t2 A cd pk H) (As := [.int x_3, .int x_6, .int x_9]) (rest := []) ⟨hx, hb, hml, hown, hts⟩ (u_X10_ready l E s.heap.size Gm hGzm m0 rf hR t0 t1 t2 A cd pk x_3 x_6 x_9 hI4) (cwV 3 hts (gdV ml_L_69 im_X10_ready se_X10_X10_ready in_X10 co_X10_ready rfl) rfl rfl rfl (by decide +kernel) ⟨Nat.le_of_ble_eq_true rfl, Nat.le_of_ble_eq_true rfl⟩) hM (fun U hU hW => hK.go hW hS hAz hU) (va_recv hK.1 (va_one hM.1) (ci := 10) (q0 := 0) rfl rfl) rfl rfl hl.1 rfl (lv_room (Nat.le_of_ble_eq_true rfl)) dL_law_358 ⟨hC2, hS2⟩) hS (fun q _ h => hGzm q h) (fun q h => hGzm q h) (fun ur_11 t H locs ht hvm hwr_11 hB hz hk hS => ?_)
    have hM : MH E m0 rf t0 t1 t2 (uA (uA (uA (uA (uA A 10 (ur_11.1)) 11 (ur_11.2.1)) 12 (ur_11.2.2.1)) 13 (ur_11.2.2.2.1)) 14 (ur_11.2.2.2.2.1)) ur_11.2.2.2.2.2 pk H := by rw [ht] at hB; exact hB
    have hDr_11 : D_X10_ready A cd pk x_3 x_6 x_9 (uA (uA (uA (uA (uA A 10 (ur_11.1)) 11 (ur_11.2.1)) 12 (ur_11.2.2.1)) 13 (ur_11.2.2.2.1)) 14 (ur_11.2.2.2.2.1)) (ur_11.2.2.2.2.2) pk := hwr_11.2
    have hpr_11_0 : I4 (ur_11.1) (A 20) (A 29) (A 24) (ur_11.2.1) (ur_11.2.2.1) (ur_11.2.2.2.1) := hwr_11.1
    have hT := hT.other hd2 hk
    have hro := hro.kept (hk _ hro.lt (fun h => h hGmo))
    obtain ⟨A_12, cd_12, pk_12, hM, hD, hV2⟩ : ∃ (A2 : AA) (cd2 pk2 : Int32), MH E m0 rf t0 t1 t2 A2 cd2 pk2 H ∧ D_X10_ready A cd pk x_3 x_6 x_9 A2 cd2 pk2 ∧ RIV A2 pk2 := ⟨_, _, _, hM, hDr_11, ⟨⟨hI2, hI3, hpr_11_0, hI5, hI6, hI7, hI8⟩, hpk⟩⟩
    have hs_12 := s_readyC hSIM hV hC hD
    obtain ⟨hSIM, ep_12, hcd⟩ := hs_12
    rw [← ep_12] at hSIM
    have hV := hV2
    refine lv_goto (tgt := 971) hx hb dL_law_361 (by decide) ?_
    refine W.widen (k := C + 2) (n := S + 12) (by omega) (by omega) ?_
    exact key _ _ _ ⟨Z_10, R, A_12, cd_12, pk_12, hT, hW, hM, hSIM, hV, ⟨_, hro⟩, hS⟩ (lv_sub hl [1, 2, 3, 4, 5] rfl)
  · have eB : Z_10 = B := eB
    rw [eB] at hT
    have hC : X_X9_ready Gc B R x0 x_3 x_6 x_9 IAE := hC
    refine lv_istore (lv' := [(5, .int 1), (4, .int (nI i)), (3, .ref o0), (2, .ref m0), (1, .ref x0), (0, .ref b)]) hx hb dL_law_337 hl (by decide) rfl (fun ls hl => ?_)
    refine lv_aload_n hx hb dL_law_339 rfl (lv_at hl 3 rfl) ?_
    refine lv_aload_n hx hb dL_law_340 rfl (lv_at hl 5 rfl) ?_
    refine lv_iload hx hb dL_law_341 (lv_at hl 1 rfl) ?_
    refine lv_iconst (v := 1) hx hb dL_law_343 (by decide) ?_
    refine lv_iadd hx hb dL_law_344 ?_
    refine W.eq (g2 := F0 m 345 ls [.int x_1, .ref b, .ref m0]) (by rw [ex_1]) ?_
    refine va_sld hx hb hX hbl hbA hS vi_2 dL_law_345 ?_
    refine W.eq (g2 := F0 m 346 ls [.int x_3, .ref m0]) (by rw [ex_3]) ?_
    refine lv_aload_n hx hb dL_law_346 rfl (lv_at hl 5 rfl) ?_
    refine lv_iload hx hb dL_law_347 (lv_at hl 1 rfl) ?_
    refine lv_iconst (v := 2) hx hb dL_law_349 (by decide) ?_
    refine lv_iadd hx hb dL_law_350 ?_
    refine W.eq (g2 := F0 m 351 ls [.int x_4, .ref b, .int x_3, .ref m0]) (by rw [ex_4]) ?_
    refine va_sld hx hb hX hbl hbA hS vi_5 dL_law_351 ?_
    refine W.eq (g2 := F0 m 352 ls [.int x_6, .int x_3, .ref m0]) (by rw [ex_6]) ?_
    refine lv_aload_n hx hb dL_law_352 rfl (lv_at hl 5 rfl) ?_
    refine lv_iload hx hb dL_law_353 (lv_at hl 1 rfl) ?_
    refine lv_iconst (v := 3) hx hb dL_law_355 (by decide) ?_
    refine lv_iadd hx hb dL_law_356 ?_
    refine W.eq (g2 := F0 m 357 ls [.int x_7, .ref b, .int x_6, .int x_3, .ref m0]) (by rw [ex_7]) ?_
    refine va_sld hx hb hX hbl hbA hS vi_8 dL_law_357 ?_
    refine W.eq (g2 := F0 m 358 ls [.int x_9, .int x_6, .int x_3, .ref m0]) (by rw [ex_9]) ?_
    refine va_callv (rnV (fun H => MH E m0 rf t0 t1 t2 A cd pk H) (As := [.int x_3, .int x_6, .int x_9]) (rest := []) ⟨hx, hb, hml, hown, hts⟩ (u_X10_ready l E s.heap.size Gm hGzm m0 rf hR t0 t1 t2 A cd pk x_3 x_6 x_9 hI4) (cwV 3 hts (gdV ml_L_69 im_X10_ready se_X10_X10_ready in_X10 co_X10_ready rfl) rfl rfl rfl (by decide +kernel) ⟨Nat.le_of_ble_eq_true rfl, Nat.le_of_ble_eq_true rfl⟩) hM (fun U hU hW => hK.go hW hS hAz hU) (va_recv hK.1 (va_one hM.1) (ci := 10) (q0 := 0) rfl rfl) rfl rfl hl.1 rfl (lv_room (Nat.le_of_ble_eq_true rfl)) dL_law_358 ⟨hC2, hS2⟩) hS (fun q _ h => hGzm q h) (fun q h => hGzm q h) (fun ur_13 t H locs ht hvm hwr_13 hB hz hk hS => ?_)
    have hM : MH E m0 rf t0 t1 t2 (uA (uA (uA (uA (uA A 10 (ur_13.1)) 11 (ur_13.2.1)) 12 (ur_13.2.2.1)) 13 (ur_13.2.2.2.1)) 14 (ur_13.2.2.2.2.1)) ur_13.2.2.2.2.2 pk H := by rw [ht] at hB; exact hB
    have hDr_13 : D_X10_ready A cd pk x_3 x_6 x_9 (uA (uA (uA (uA (uA A 10 (ur_13.1)) 11 (ur_13.2.1)) 12 (ur_13.2.2.1)) 13 (ur_13.2.2.2.1)) 14 (ur_13.2.2.2.2.1)) (ur_13.2.2.2.2.2) pk := hwr_13.2
    have hpr_13_0 : I4 (ur_13.1) (A 20) (A 29) (A 24) (ur_13.2.1) (ur_13.2.2.1) (ur_13.2.2.2.1) := hwr_13.1
    have hT := hT.other hd2 hk
    have hro := hro.kept (hk _ hro.lt (fun h => h hGmo))
    obtain ⟨A_14, cd_14, pk_14, hM, hD, hV2⟩ : ∃ (A2 : AA) (cd2 pk2 : Int32), MH E m0 rf t0 t1 t2 A2 cd2 pk2 H ∧ D_X10_ready A cd pk x_3 x_6 x_9 A2 cd2 pk2 ∧ RIV A2 pk2 := ⟨_, _, _, hM, hDr_13, ⟨⟨hI2, hI3, hpr_13_0, hI5, hI6, hI7, hI8⟩, hpk⟩⟩
    obtain ⟨hSIM, ep_14, hE_14⟩ := sx_readyC hSIM hC hD
    rw [← ep_14] at hSIM
    have hcd : cd_14 = 1 := hE_14.elim (fun h => h.2) (fun h => absurd h.1 (by decide))
    have hV := hV2
    refine lv_goto (tgt := 971) hx hb dL_law_361 (by decide) ?_
    refine W.widen (k := C + 2) (n := S + 12) (by omega) (by omega) ?_
    exact key _ _ _ ⟨B, R, A_14, cd_14, pk_14, hT, hW, hM, hSIM, hV, ⟨_, hro⟩, hS⟩ (lv_sub hl [1, 2, 3, 4, 5] rfl)
  · have eB : Z_10 = B := eB
    rw [eB] at hT
    have hC : X_X9_ready Gc B R x0 x_3 x_6 x_9 ISE := hC
    refine lv_istore (lv' := [(5, .int 2), (4, .int (nI i)), (3, .ref o0), (2, .ref m0), (1, .ref x0), (0, .ref b)]) hx hb dL_law_337 hl (by decide) rfl (fun ls hl => ?_)
    refine lv_aload_n hx hb dL_law_339 rfl (lv_at hl 3 rfl) ?_
    refine lv_aload_n hx hb dL_law_340 rfl (lv_at hl 5 rfl) ?_
    refine lv_iload hx hb dL_law_341 (lv_at hl 1 rfl) ?_
    refine lv_iconst (v := 1) hx hb dL_law_343 (by decide) ?_
    refine lv_iadd hx hb dL_law_344 ?_
    refine W.eq (g2 := F0 m 345 ls [.int x_1, .ref b, .ref m0]) (by rw [ex_1]) ?_
    refine va_sld hx hb hX hbl hbA hS vi_2 dL_law_345 ?_
    refine W.eq (g2 := F0 m 346 ls [.int x_3, .ref m0]) (by rw [ex_3]) ?_
    refine lv_aload_n hx hb dL_law_346 rfl (lv_at hl 5 rfl) ?_
    refine lv_iload hx hb dL_law_347 (lv_at hl 1 rfl) ?_
    refine lv_iconst (v := 2) hx hb dL_law_349 (by decide) ?_
    refine lv_iadd hx hb dL_law_350 ?_
    refine W.eq (g2 := F0 m 351 ls [.int x_4, .ref b, .int x_3, .ref m0]) (by rw [ex_4]) ?_
    refine va_sld hx hb hX hbl hbA hS vi_5 dL_law_351 ?_
    refine W.eq (g2 := F0 m 352 ls [.int x_6, .int x_3, .ref m0]) (by rw [ex_6]) ?_
    refine lv_aload_n hx hb dL_law_352 rfl (lv_at hl 5 rfl) ?_
    refine lv_iload hx hb dL_law_353 (lv_at hl 1 rfl) ?_
    refine lv_iconst (v := 3) hx hb dL_law_355 (by decide) ?_
    refine lv_iadd hx hb dL_law_356 ?_
    refine W.eq (g2 := F0 m 357 ls [.int x_7, .ref b, .int x_6, .int x_3, .ref m0]) (by rw [ex_7]) ?_
    refine va_sld hx hb hX hbl hbA hS vi_8 dL_law_357 ?_
    refine W.eq (g2 := F0 m 358 ls [.int x_9, .int x_6, .int x_3, .ref m0]) (by rw [ex_9]) ?_
    refine va_callv (rnV (fun H => MH E m0 rf t0 t1 t2 A cd pk H) (As := [.int x_3, .int x_6, .int x_9]) (rest := []) ⟨hx, hb, hml, hown, hts⟩ (u_X10_ready l E s.heap.size Gm hGzm m0 rf hR t0 t1 t2 A cd pk x_3 x_6 x_9 hI4) (cwV 3 hts (gdV ml_L_69 im_X10_ready se_X10_X10_ready in_X10 co_X10_ready rfl) rfl rfl rfl (by decide +kernel) ⟨Nat.le_of_ble_eq_true rfl, Nat.le_of_ble_eq_true rfl⟩) hM (fun U hU hW => hK.go hW hS hAz hU) (va_recv hK.1 (va_one hM.1) (ci := 10) (q0 := 0) rfl rfl) rfl rfl hl.1 rfl (lv_room (Nat.le_of_ble_eq_true rfl)) dL_law_358 ⟨hC2, hS2⟩) hS (fun q _ h => hGzm q h) (fun q h => hGzm q h) (fun ur_15 t H locs ht hvm hwr_15 hB hz hk hS => ?_)
    have hM : MH E m0 rf t0 t1 t2 (uA (uA (uA (uA (uA A 10 (ur_15.1)) 11 (ur_15.2.1)) 12 (ur_15.2.2.1)) 13 (ur_15.2.2.2.1)) 14 (ur_15.2.2.2.2.1)) ur_15.2.2.2.2.2 pk H := by rw [ht] at hB; exact hB
    have hDr_15 : D_X10_ready A cd pk x_3 x_6 x_9 (uA (uA (uA (uA (uA A 10 (ur_15.1)) 11 (ur_15.2.1)) 12 (ur_15.2.2.1)) 13 (ur_15.2.2.2.1)) 14 (ur_15.2.2.2.2.1)) (ur_15.2.2.2.2.2) pk := hwr_15.2
    have hpr_15_0 : I4 (ur_15.1) (A 20) (A 29) (A 24) (ur_15.2.1) (ur_15.2.2.1) (ur_15.2.2.2.1) := hwr_15.1
    have hT := hT.other hd2 hk
    have hro := hro.kept (hk _ hro.lt (fun h => h hGmo))
    obtain ⟨A_16, cd_16, pk_16, hM, hD, hV2⟩ : ∃ (A2 : AA) (cd2 pk2 : Int32), MH E m0 rf t0 t1 t2 A2 cd2 pk2 H ∧ D_X10_ready A cd pk x_3 x_6 x_9 A2 cd2 pk2 ∧ RIV A2 pk2 := ⟨_, _, _, hM, hDr_15, ⟨⟨hI2, hI3, hpr_15_0, hI5, hI6, hI7, hI8⟩, hpk⟩⟩
    obtain ⟨hSIM, ep_16, hE_16⟩ := sx_readyC hSIM hC hD
    rw [← ep_16] at hSIM
    have hcd : cd_16 = 2 := hE_16.elim (fun h => absurd h.1 (by decide)) (fun h => h.2)
    have hV := hV2
    refine lv_goto (tgt := 971) hx hb dL_law_361 (by decide) ?_
    refine W.widen (k := C + 2) (n := S + 12) (by omega) (by omega) ?_
    exact key _ _ _ ⟨B, R, A_16, cd_16, pk_16, hT, hW, hM, hSIM, hV, ⟨_, hro⟩, hS⟩ (lv_sub hl [1, 2, 3, 4, 5] rfl)
end
section
set_option maxHeartbeats 8000000 in
set_option maxRecDepth 100000 in
theorem lk_4 {p : Program} {l : Launch} {e : Env} {s : State} {m : MethodId} {below : List Frame} {meth : Method} {c : Code} {b L i C S : Nat} {xs : Nat → Int32} {E : EE} {Gc Gm : Nat → Nat} {x0 m0 o0 : Nat} {rf : Nat → Nat} {t0 t1 t2 : Int32} {H : Heap} {locs : List Loc} {ls : Array Slot} (hst : l.stackTraces = false) (C0 : lw_At p s m meth c b L xs) (hLB : L ≤ 3587) (hK : KS E s.heap.size s) (hN : NC s) (F9 : LF s Gc Gm x0 m0 o0 rf t0) (hi : i + 7 ≤ L) (hC : C + 2 ≤ 621377) (hSl : S + 12 ≤ 7231939) (hI : LI E s Gc x0 m0 o0 rf t0 t1 t2 H locs) (hl : lv_has ls 7 [(4, .int (nI i)), (3, .ref o0), (2, .ref m0), (1, .ref x0), (0, .ref b)]) (key : ∀ (H : Heap) (locs : List Loc) (ls : Array Slot), LI E s Gc x0 m0 o0 rf t0 t1 t2 H locs → lv_has ls 7 [(4, .int (nI i)), (3, .ref o0), (2, .ref m0), (1, .ref x0), (0, .ref b)] → W p l e room_1 s m #[Value.ref b] below meth c H locs (C + 2) (S + 12) (lw_Z below #[Value.ref b] s) (F0 m 971 ls [])) : W p l e room_1 s m #[Value.ref b] below meth c H locs C S (lw_Z below #[Value.ref b] s) (F0 m 364 ls []) := by
  obtain ⟨hx, hb, hr, hml, hown, hts0, hX, hbl, hlocks, hgv⟩ := id C0
  obtain ⟨hxc, hR, hGzc, hGzm, hd, hGco, hGmo, hoz, h2t⟩ := F9
  have hd2 : ∀ a, Gc a ≠ 0 → Gm a = 0 := fun a h => Decidable.byContradiction fun q => h (hd a q)
  have hts : ∀ w ∈ TS, w.before #[Value.ref b] s = true := fun w hw => hts0 w (List.mem_filter.mp hw).1
  have hbA : ¬ (fun q : Nat => s.heap.size ≤ q) b := Nat.not_le.mpr hbl
  have hAz : ∀ q, (fun q : Nat => s.heap.size ≤ q) q → s.heap.size ≤ q := fun q h => h
  have hC0 : C + 0 ≤ room_1.cells := (show C + 0 ≤ 621377 by omega)
  have hS0 : S + 0 ≤ room_1.slots := (show S + 0 ≤ 7231939 by omega)
  have hC2 : C + 2 ≤ room_1.cells := (show C + 2 ≤ 621377 by omega)
  have hS2 : S + 12 ≤ room_1.slots := (show S + 12 ≤ 7231939 by omega)
  have hiI : (nI i).toInt = (i : Int) := nI_toInt (by omega)
  obtain ⟨B, R, A, cd, pk, hT, hW, hM, hSIM, hV, ⟨fo, hro⟩, hS⟩ := hI
  obtain ⟨hI2, hI3, hI4, hI5, hI6, hI7, hI8, hpk⟩ := hV.c3
  refine lv_aload_n hx hb dL_law_364 rfl (lv_at hl 3 rfl) ?_
  refine lv_aload_n hx hb dL_law_365 rfl (lv_at hl 4 rfl) ?_
  refine lv_iload hx hb dL_law_366 (lv_at hl 0 rfl) ?_
  refine lv_iconst (v := 1) hx hb dL_law_368 (by decide) ?_
  refine lv_iadd hx hb dL_law_369 ?_
  refine lv_topi (fun x_1 ex_1 => ?_)
  have fx_1 : x_1.toInt = (i : Int) + 1 := by have h9 := s_add (x := nI i) (y := 1) (by rw [hiI, i_1]; omega) (by rw [hiI, i_1]; omega); rw [hiI, i_1] at h9; rw [ex_1]; exact h9
  have vi_2 : vp_in x_1 L := vp_in_iff.mpr (by omega)
  refine va_sld hx hb hX hbl hbA hS vi_2 dL_law_370 ?_
  refine lv_topi (fun x_3 ex_3 => ?_)
  have ha_4 := tx_1 hT hxc
  refine va_calli (rnV (fun H => TX E Gc B R H) (As := [.int x_3]) (rest := []) ⟨hx, hb, hml, hown, hts⟩ (x_X9_reset l E s.heap.size Gc hGzc B R hW x0 x_3 hxc) (cwV 1 hts (gdV ml_L_70 im_X9_reset se_X9_X9_reset in_X9 co_X9_reset rfl) rfl rfl rfl (by decide +kernel) ⟨Nat.le_of_ble_eq_true rfl, Nat.le_of_ble_eq_true rfl⟩) hT (fun U hU hW => hK.go hW hS hAz hU) (va_recv hK.1 (va_one ha_4) (ci := 9) (q0 := 0) rfl rfl) rfl rfl hl.1 rfl (lv_room (Nat.le_of_ble_eq_true rfl)) dL_law_371 ⟨hC0, hS0⟩) hS (fun q _ h => hGzc q (zn (L := [8, 9, 10, 11, 16, 17]) (by decide) h)) (fun q h => hGzc q (zn (L := [8, 9, 10, 11, 16, 17]) (by decide) h)) (fun r_4 u_4 t H locs ht9 hvm hwr_4 hB hz hk hS => ?_)
  obtain ⟨Z_4, eZ_4⟩ : ∃ z, z = u_4 := ⟨_, rfl⟩
  rw [← eZ_4] at hB hwr_4
  rw [ht9] at hB
  have hT : TX E Gc Z_4 R H := hB
  have hW : TW Gc Z_4 R := hwr_4.1
  have hC : C_X9_reset Gc B R x0 x_3 Z_4 r_4 := hwr_4.2.2.2
  have hM := hM.away hR (fun q hq hg => hk q hq (fun h => zn (L := [8, 9, 10, 11, 16, 17]) (by decide) h (hd q hg)))
  have hro := hro.kept (hk _ hro.lt (fun h => zn (L := [8, 9, 10, 11, 16, 17]) (by decide) h hGco))
  refine lv_pop hx hb dL_law_374 rfl ?_
  refine lv_aload_n hx hb dL_law_375 rfl (lv_at hl 2 rfl) ?_
  refine lv_aload_n hx hb dL_law_376 rfl (lv_at hl 4 rfl) ?_
  refine lv_iload hx hb dL_law_377 (lv_at hl 0 rfl) ?_
  refine lv_iconst (v := 1) hx hb dL_law_379 (by decide) ?_
  refine lv_iadd hx hb dL_law_380 ?_
  refine W.eq (g2 := F0 m 381 ls [.int x_1, .ref b, .ref m0]) (by rw [ex_1]) ?_
  refine va_sld hx hb hX hbl hbA hS vi_2 dL_law_381 ?_
  refine W.eq (g2 := F0 m 382 ls [.int x_3, .ref m0]) (by rw [ex_3]) ?_
  refine va_calli (rnV (fun H => MH E m0 rf t0 t1 t2 A cd pk H) (As := [.int x_3]) (rest := []) ⟨hx, hb, hml, hown, hts⟩ (u_X10_reset l E s.heap.size Gm hGzm m0 rf hR t0 t1 t2 A cd pk x_3 hI4 hI8) (cwV 1 hts (gdV ml_L_74 im_X10_reset se_X10_X10_reset in_X10 co_X10_reset rfl) rfl rfl rfl (by decide +kernel) ⟨Nat.le_of_ble_eq_true rfl, Nat.le_of_ble_eq_true rfl⟩) hM (fun U hU hW => hK.go hW hS hAz hU) (va_recv hK.1 (va_one hM.1) (ci := 10) (q0 := 0) rfl rfl) rfl rfl hl.1 rfl (lv_room (Nat.le_of_ble_eq_true rfl)) dL_law_382 ⟨hC0, hS0⟩) hS (fun q _ h => hGzm q h) (fun q h => hGzm q h) (fun r_5 ur_5 t H locs ht hvm hwr_5 hB hz hk hS => ?_)
  have hM : MH E m0 rf t0 t1 t2 (uA (uA (uA (uA (uA (uA (uA (uA (uA (uA (uA (uA A 10 (ur_5.1)) 15 (ur_5.2.1)) 16 (ur_5.2.2.1)) 17 (ur_5.2.2.2.1)) 18 (ur_5.2.2.2.2.1)) 19 (ur_5.2.2.2.2.2.1)) 20 (ur_5.2.2.2.2.2.2.1)) 21 (ur_5.2.2.2.2.2.2.2.1)) 30 (ur_5.2.2.2.2.2.2.2.2.1)) 31 (ur_5.2.2.2.2.2.2.2.2.2.1)) 36 (ur_5.2.2.2.2.2.2.2.2.2.2.1)) 37 (ur_5.2.2.2.2.2.2.2.2.2.2.2.1)) ur_5.2.2.2.2.2.2.2.2.2.2.2.2 pk H := by rw [ht] at hB; exact hB
  have hDr_5 : D_X10_reset A cd pk x_3 (uA (uA (uA (uA (uA (uA (uA (uA (uA (uA (uA (uA A 10 (ur_5.1)) 15 (ur_5.2.1)) 16 (ur_5.2.2.1)) 17 (ur_5.2.2.2.1)) 18 (ur_5.2.2.2.2.1)) 19 (ur_5.2.2.2.2.2.1)) 20 (ur_5.2.2.2.2.2.2.1)) 21 (ur_5.2.2.2.2.2.2.2.1)) 30 (ur_5.2.2.2.2.2.2.2.2.1)) 31 (ur_5.2.2.2.2.2.2.2.2.2.1)) 36 (ur_5.2.2.2.2.2.2.2.2.2.2.1)) 37 (ur_5.2.2.2.2.2.2.2.2.2.2.2.1)) (ur_5.2.2.2.2.2.2.2.2.2.2.2.2) pk r_5 := hwr_5.2.2.2
  have hpr_5_0 : I4 (ur_5.1) (ur_5.2.2.2.2.2.2.1) (A 29) (A 24) (A 11) (A 12) (A 13) := hwr_5.1
  have hpr_5_1 : I8 (ur_5.2.2.2.2.2.2.1) (ur_5.2.2.2.2.2.2.2.2.1) (ur_5.2.2.2.2.2.2.2.2.2.2.2.1) (ur_5.2.2.2.2.2.2.2.2.2.2.1) := hwr_5.2.1
  have hpr_5_2 : r_5 = bI (0 ≤ x_3.toInt ∧ x_3.toInt < 4) := hwr_5.2.2.1
  have hT := hT.other hd2 hk
  have hro := hro.kept (hk _ hro.lt (fun h => h hGmo))
  obtain ⟨A_6, cd_6, pk_6, hM, hD, hV2⟩ : ∃ (A2 : AA) (cd2 pk2 : Int32), MH E m0 rf t0 t1 t2 A2 cd2 pk2 H ∧ D_X10_reset A cd pk x_3 A2 cd2 pk2 r_5 ∧ RIV A2 pk2 := ⟨_, _, _, hM, hDr_5, ⟨⟨hI2, hI3, hpr_5_0, hI5, hI6, hI7, hpr_5_1⟩, hpk⟩⟩
  have hs_6 := s_resetC h2t hSIM hV hC hD
  obtain ⟨hSIM, ep_6, er_6⟩ := hs_6
  rw [← ep_6] at hSIM
  have hV := hV2
  obtain rfl := er_6
  refine lv_pop hx hb dL_law_385 rfl ?_
  refine lv_goto (tgt := 971) hx hb dL_law_386 (by decide) ?_
  refine W.widen (k := C + 2) (n := S + 12) (by omega) (by omega) ?_
  exact key _ _ _ ⟨Z_4, R, A_6, cd_6, pk_6, hT, hW, hM, hSIM, hV, ⟨_, hro⟩, hS⟩ (lv_sub hl [0, 1, 2, 3, 4] rfl)
set_option maxHeartbeats 8000000 in
set_option maxRecDepth 100000 in
theorem lk_5 {p : Program} {l : Launch} {e : Env} {s : State} {m : MethodId} {below : List Frame} {meth : Method} {c : Code} {b L i C S : Nat} {xs : Nat → Int32} {E : EE} {Gc Gm : Nat → Nat} {x0 m0 o0 : Nat} {rf : Nat → Nat} {t0 t1 t2 : Int32} {H : Heap} {locs : List Loc} {ls : Array Slot} (hst : l.stackTraces = false) (C0 : lw_At p s m meth c b L xs) (hLB : L ≤ 3587) (hK : KS E s.heap.size s) (hN : NC s) (F9 : LF s Gc Gm x0 m0 o0 rf t0) (hi : i + 7 ≤ L) (hC : C + 2 ≤ 621377) (hSl : S + 12 ≤ 7231939) (hI : LI E s Gc x0 m0 o0 rf t0 t1 t2 H locs) (hl : lv_has ls 7 [(4, .int (nI i)), (3, .ref o0), (2, .ref m0), (1, .ref x0), (0, .ref b)]) (key : ∀ (H : Heap) (locs : List Loc) (ls : Array Slot), LI E s Gc x0 m0 o0 rf t0 t1 t2 H locs → lv_has ls 7 [(4, .int (nI i)), (3, .ref o0), (2, .ref m0), (1, .ref x0), (0, .ref b)] → W p l e room_1 s m #[Value.ref b] below meth c H locs (C + 2) (S + 12) (lw_Z below #[Value.ref b] s) (F0 m 971 ls [])) : W p l e room_1 s m #[Value.ref b] below meth c H locs C S (lw_Z below #[Value.ref b] s) (F0 m 389 ls []) := by
  obtain ⟨hx, hb, hr, hml, hown, hts0, hX, hbl, hlocks, hgv⟩ := id C0
  obtain ⟨hxc, hR, hGzc, hGzm, hd, hGco, hGmo, hoz, h2t⟩ := F9
  have hd2 : ∀ a, Gc a ≠ 0 → Gm a = 0 := fun a h => Decidable.byContradiction fun q => h (hd a q)
  have hts : ∀ w ∈ TS, w.before #[Value.ref b] s = true := fun w hw => hts0 w (List.mem_filter.mp hw).1
  have hbA : ¬ (fun q : Nat => s.heap.size ≤ q) b := Nat.not_le.mpr hbl
  have hAz : ∀ q, (fun q : Nat => s.heap.size ≤ q) q → s.heap.size ≤ q := fun q h => h
  have hC0 : C + 0 ≤ room_1.cells := (show C + 0 ≤ 621377 by omega)
  have hS0 : S + 0 ≤ room_1.slots := (show S + 0 ≤ 7231939 by omega)
  have hC2 : C + 2 ≤ room_1.cells := (show C + 2 ≤ 621377 by omega)
  have hS2 : S + 12 ≤ room_1.slots := (show S + 12 ≤ 7231939 by omega)
  have hiI : (nI i).toInt = (i : Int) := nI_toInt (by omega)
  obtain ⟨B, R, A, cd, pk, hT, hW, hM, hSIM, hV, ⟨fo, hro⟩, hS⟩ := hI
  obtain ⟨hI2, hI3, hI4, hI5, hI6, hI7, hI8, hpk⟩ := hV.c3
  refine lv_aload_n hx hb dL_law_389 rfl (lv_at hl 3 rfl) ?_
  refine lv_aload_n hx hb dL_law_390 rfl (lv_at hl 4 rfl) ?_
  refine lv_iload hx hb dL_law_391 (lv_at hl 0 rfl) ?_
  refine lv_iconst (v := 1) hx hb dL_law_393 (by decide) ?_
  refine lv_iadd hx hb dL_law_394 ?_
  refine lv_topi (fun x_1 ex_1 => ?_)
  have fx_1 : x_1.toInt = (i : Int) + 1 := by have h9 := s_add (x := nI i) (y := 1) (by rw [hiI, i_1]; omega) (by rw [hiI, i_1]; omega); rw [hiI, i_1] at h9; rw [ex_1]; exact h9
  have vi_2 : vp_in x_1 L := vp_in_iff.mpr (by omega)
  refine va_sld hx hb hX hbl hbA hS vi_2 dL_law_395 ?_
  refine lv_topi (fun x_3 ex_3 => ?_)
  refine lv_aload_n hx hb dL_law_396 rfl (lv_at hl 4 rfl) ?_
  refine lv_iload hx hb dL_law_397 (lv_at hl 0 rfl) ?_
  refine lv_iconst (v := 2) hx hb dL_law_399 (by decide) ?_
  refine lv_iadd hx hb dL_law_400 ?_
  refine lv_topi (fun x_4 ex_4 => ?_)
  have fx_4 : x_4.toInt = (i : Int) + 2 := by have h9 := s_add (x := nI i) (y := 2) (by rw [hiI, i_2]; omega) (by rw [hiI, i_2]; omega); rw [hiI, i_2] at h9; rw [ex_4]; exact h9
  have vi_5 : vp_in x_4 L := vp_in_iff.mpr (by omega)
  refine va_sld hx hb hX hbl hbA hS vi_5 dL_law_401 ?_
  refine lv_topi (fun x_6 ex_6 => ?_)
  refine lv_aload_n hx hb dL_law_402 rfl (lv_at hl 4 rfl) ?_
  refine lv_iload hx hb dL_law_403 (lv_at hl 0 rfl) ?_
  refine lv_iconst (v := 3) hx hb dL_law_405 (by decide) ?_
  refine lv_iadd hx hb dL_law_406 ?_
  refine lv_topi (fun x_7 ex_7 => ?_)
  have fx_7 : x_7.toInt = (i : Int) + 3 := by have h9 := s_add (x := nI i) (y := 3) (by rw [hiI, i_3]; omega) (by rw [hiI, i_3]; omega); rw [hiI, i_3] at h9; rw [ex_7]; exact h9
  have vi_8 : vp_in x_7 L := vp_in_iff.mpr (by omega)
  refine va_sld hx hb hX hbl hbA hS vi_8 dL_law_407 ?_
  refine lv_topi (fun x_9 ex_9 => ?_)
  refine lv_aload_n hx hb dL_law_408 rfl (lv_at hl 1 rfl) ?_
  refine va_calli (vx_runSW (hh := [(0, 12, 15, 13), (0, 12, 19, 22)]) (As := [.ref x0, .int x_3, .int x_6, .int x_9, .ref o0]) (rest := []) ⟨hx, hb, hml, hown, hts⟩ (w_L_send l hst E s.heap.size Gc hGzc B R hW x0 x_3 x_6 x_9 o0 hxc hGco hoz) (vx_cwSW 5 hts (gdW ml_L_75 st_L_send in_L co_L_send rfl) rfl rfl rfl (by decide +kernel) ⟨Nat.le_of_ble_eq_true rfl, Nat.le_of_ble_eq_true rfl⟩) ⟨fun a U g mk q => ⟨q.1, q.2.1, KS.calling q.2.2.1, NC.vm q.2.2.2 rfl⟩, fun U hU hW => ⟨rfl, by rw [hU]; exact ⟨hT, _, hro⟩, hK.go hW hS hAz hU, hN.go hW⟩⟩ rfl rfl hl.1 rfl (lv_room (Nat.le_of_ble_eq_true rfl)) dL_law_409 ⟨hC2, hS2⟩) hS (fun q _ h => h.elim (fun h => hGzc q (zn (L := [9, 11, 13]) (by decide) h)) (fun e => by rw [e]; exact hoz)) (fun q h => h.elim (fun h => hGzc q (zn (L := [9, 11, 13]) (by decide) h)) (fun e => by rw [e]; exact hoz)) (fun r_10 u_10 t H locs ht9 hvm hwr_10 hB hz hk hS => ?_)
  rw [ht9] at hB
  obtain ⟨Z_10, y_10, f_10⟩ := u_10
  obtain ⟨hT, fo_10, hfo_10, hro2⟩ := hB
  have hro := hro2
  have hM := hM.away hR (fun q hq hg => hk q hq (fun h => h.elim (fun h => zn (L := [9, 11, 13]) (by decide) h (hd q hg)) (fun h => hg (by rw [h]; exact hGmo))))
  have hT : TX E Gc Z_10 R H := hT
  rcases hwr_10 with ⟨rfl, hW2, hF2, hC, ef_10⟩ | ⟨rfl, eB, hC⟩ | ⟨rfl, eB, hC⟩
  · have hW : TW Gc Z_10 R := hW2
    have hC : C_X9_send Gc B R x0 x_3 x_6 x_9 Z_10 y_10 := hC
    have hfo : fo_10 0 = y_10.toInt64 := hfo_10.trans ef_10
    refine lv_istore (lv' := [(5, .int 0), (4, .int (nI i)), (3, .ref o0), (2, .ref m0), (1, .ref x0), (0, .ref b)]) hx hb dL_law_412 hl (by decide) rfl (fun ls hl => ?_)
    refine lv_aload_n hx hb dL_law_414 rfl (lv_at hl 3 rfl) ?_
    refine lv_aload_n hx hb dL_law_415 rfl (lv_at hl 5 rfl) ?_
    refine lv_iload hx hb dL_law_416 (lv_at hl 1 rfl) ?_
    refine lv_iconst (v := 1) hx hb dL_law_418 (by decide) ?_
    refine lv_iadd hx hb dL_law_419 ?_
    refine W.eq (g2 := F0 m 420 ls [.int x_1, .ref b, .ref m0]) (by rw [ex_1]) ?_
    refine va_sld hx hb hX hbl hbA hS vi_2 dL_law_420 ?_
    refine W.eq (g2 := F0 m 421 ls [.int x_3, .ref m0]) (by rw [ex_3]) ?_
    refine lv_aload_n hx hb dL_law_421 rfl (lv_at hl 5 rfl) ?_
    refine lv_iload hx hb dL_law_422 (lv_at hl 1 rfl) ?_
    refine lv_iconst (v := 2) hx hb dL_law_424 (by decide) ?_
    refine lv_iadd hx hb dL_law_425 ?_
    refine W.eq (g2 := F0 m 426 ls [.int x_4, .ref b, .int x_3, .ref m0]) (by rw [ex_4]) ?_
    refine va_sld hx hb hX hbl hbA hS vi_5 dL_law_426 ?_
    refine W.eq (g2 := F0 m 427 ls [.int x_6, .int x_3, .ref m0]) (by rw [ex_6]) ?_
    refine lv_aload_n hx hb dL_law_427 rfl (lv_at hl 5 rfl) ?_
    refine lv_iload hx hb dL_law_428 (lv_at hl 1 rfl) ?_
    refine lv_iconst (v := 3) hx hb dL_law_430 (by decide) ?_
    refine lv_iadd hx hb dL_law_431 ?_
    refine W.eq (g2 := F0 m 432 ls [.int x_7, .ref b, .int x_6, .int x_3, .ref m0]) (by rw [ex_7]) ?_
    refine va_sld hx hb hX hbl hbA hS vi_8 dL_law_432 ?_
    refine W.eq (g2 := F0 m 433 ls [.int x_9, .int x_6, .int x_3, .ref m0]) (by rw [ex_9]) ?_
    refine va_calli (rnV (fun H => MH E m0 rf t0 t1 t2 A cd pk H) (As := [.int x_3, .int x_6, .int x_9]) (rest := []) ⟨hx, hb, hml, hown, hts⟩ (u_X10_send l E s.heap.size Gm hGzm m0 rf hR t0 t1 t2 A cd pk x_3 x_6 x_9 hI4 hI6 hI8) (cwV 3 hts (gdV ml_L_78 im_X10_send se_X10_X10_send in_X10 co_X10_send rfl) rfl rfl rfl (by decide +kernel) ⟨Nat.le_of_ble_eq_true rfl, Nat.le_of_ble_eq_true rfl⟩) hM (fun U hU hW => hK.go hW hS hAz hU) (va_recv hK.1 (va_one hM.1) (ci := 10) (q0 := 0) rfl rfl) rfl rfl hl.1 rfl (lv_room (Nat.le_of_ble_eq_true rfl)) dL_law_433 ⟨hC2, hS2⟩) hS (fun q _ h => hGzm q h) (fun q h => hGzm q h) (fun r_11 ur_11 t H locs ht hvm hwr_11 hB hz hk hS => ?_)
    have hM : MH E m0 rf t0 t1 t2 (uA (uA (uA (uA (uA (uA (uA (uA (uA (uA (uA A 11 (ur_11.1)) 20 (ur_11.2.1)) 21 (ur_11.2.2.1)) 22 (ur_11.2.2.2.1)) 23 (ur_11.2.2.2.2.1)) 24 (ur_11.2.2.2.2.2.1)) 25 (ur_11.2.2.2.2.2.2.1)) 26 (ur_11.2.2.2.2.2.2.2.1)) 27 (ur_11.2.2.2.2.2.2.2.2.1)) 28 (ur_11.2.2.2.2.2.2.2.2.2.1)) 29 (ur_11.2.2.2.2.2.2.2.2.2.2.1)) ur_11.2.2.2.2.2.2.2.2.2.2.2 pk H := by rw [ht] at hB; exact hB
    have hDr_11 : D_X10_send A cd pk x_3 x_6 x_9 (uA (uA (uA (uA (uA (uA (uA (uA (uA (uA (uA A 11 (ur_11.1)) 20 (ur_11.2.1)) 21 (ur_11.2.2.1)) 22 (ur_11.2.2.2.1)) 23 (ur_11.2.2.2.2.1)) 24 (ur_11.2.2.2.2.2.1)) 25 (ur_11.2.2.2.2.2.2.1)) 26 (ur_11.2.2.2.2.2.2.2.1)) 27 (ur_11.2.2.2.2.2.2.2.2.1)) 28 (ur_11.2.2.2.2.2.2.2.2.2.1)) 29 (ur_11.2.2.2.2.2.2.2.2.2.2.1)) (ur_11.2.2.2.2.2.2.2.2.2.2.2) pk r_11 := hwr_11.2.2.2
    have hpr_11_0 : I4 (A 10) (ur_11.2.1) (ur_11.2.2.2.2.2.2.2.2.2.2.1) (ur_11.2.2.2.2.2.1) (ur_11.1) (A 12) (A 13) := hwr_11.1
    have hpr_11_1 : I6 (ur_11.2.2.2.1) (ur_11.2.2.2.2.1) (ur_11.2.2.2.2.2.1) (ur_11.2.2.2.2.2.2.1) (ur_11.2.2.2.2.2.2.2.1) := hwr_11.2.1
    have hpr_11_2 : I8 (ur_11.2.1) (A 30) (A 37) (A 36) := hwr_11.2.2.1
    have hT := hT.other hd2 hk
    have hro := hro.kept (hk _ hro.lt (fun h => h hGmo))
    obtain ⟨A_12, cd_12, pk_12, hM, hD, hV2⟩ : ∃ (A2 : AA) (cd2 pk2 : Int32), MH E m0 rf t0 t1 t2 A2 cd2 pk2 H ∧ D_X10_send A cd pk x_3 x_6 x_9 A2 cd2 pk2 r_11 ∧ RIV A2 pk2 := ⟨_, _, _, hM, hDr_11, ⟨⟨hI2, hI3, hpr_11_0, hI5, hpr_11_1, hI7, hpr_11_2⟩, hpk⟩⟩
    have hs_12 := s_sendC hSIM hV hC hD
    obtain ⟨hSIM, ep_12, hcd, er_12⟩ := hs_12
    rw [← ep_12] at hSIM
    have hV := hV2
    obtain rfl := er_12
    refine lv_istore (lv' := [(6, .int y_10), (5, .int 0), (4, .int (nI i)), (3, .ref o0), (2, .ref m0), (1, .ref x0), (0, .ref b)]) hx hb dL_law_436 hl (by decide) rfl (fun ls hl => ?_)
    refine lv_goto (tgt := 971) hx hb dL_law_438 (by decide) ?_
    refine W.widen (k := C + 2) (n := S + 12) (by omega) (by omega) ?_
    exact key _ _ _ ⟨Z_10, R, A_12, cd_12, pk_12, hT, hW, hM, hSIM, hV, ⟨_, hro⟩, hS⟩ (lv_sub hl [2, 3, 4, 5, 6] rfl)
  · have eB : Z_10 = B := eB
    rw [eB] at hT
    have hC : X_X9_send Gc B R x0 x_3 x_6 x_9 IAE := hC
    refine lv_istore (lv' := [(5, .int 1), (4, .int (nI i)), (3, .ref o0), (2, .ref m0), (1, .ref x0), (0, .ref b)]) hx hb dL_law_412 hl (by decide) rfl (fun ls hl => ?_)
    refine lv_aload_n hx hb dL_law_414 rfl (lv_at hl 3 rfl) ?_
    refine lv_aload_n hx hb dL_law_415 rfl (lv_at hl 5 rfl) ?_
    refine lv_iload hx hb dL_law_416 (lv_at hl 1 rfl) ?_
    refine lv_iconst (v := 1) hx hb dL_law_418 (by decide) ?_
    refine lv_iadd hx hb dL_law_419 ?_
    refine W.eq (g2 := F0 m 420 ls [.int x_1, .ref b, .ref m0]) (by rw [ex_1]) ?_
    refine va_sld hx hb hX hbl hbA hS vi_2 dL_law_420 ?_
    refine W.eq (g2 := F0 m 421 ls [.int x_3, .ref m0]) (by rw [ex_3]) ?_
    refine lv_aload_n hx hb dL_law_421 rfl (lv_at hl 5 rfl) ?_
    refine lv_iload hx hb dL_law_422 (lv_at hl 1 rfl) ?_
    refine lv_iconst (v := 2) hx hb dL_law_424 (by decide) ?_
    refine lv_iadd hx hb dL_law_425 ?_
    refine W.eq (g2 := F0 m 426 ls [.int x_4, .ref b, .int x_3, .ref m0]) (by rw [ex_4]) ?_
    refine va_sld hx hb hX hbl hbA hS vi_5 dL_law_426 ?_
    refine W.eq (g2 := F0 m 427 ls [.int x_6, .int x_3, .ref m0]) (by rw [ex_6]) ?_
    refine lv_aload_n hx hb dL_law_427 rfl (lv_at hl 5 rfl) ?_
    refine lv_iload hx hb dL_law_428 (lv_at hl 1 rfl) ?_
    refine lv_iconst (v := 3) hx hb dL_law_430 (by decide) ?_
    refine lv_iadd hx hb dL_law_431 ?_
    refine W.eq (g2 := F0 m 432 ls [.int x_7, .ref b, .int x_6, .int x_3, .ref m0]) (by rw [ex_7]) ?_
    refine va_sld hx hb hX hbl hbA hS vi_8 dL_law_432 ?_
    refine W.eq (g2 := F0 m 433 ls [.int x_9, .int x_6, .int x_3, .ref m0]) (by rw [ex_9]) ?_
    refine va_calli (rnV (fun H => MH E m0 rf t0 t1 t2 A cd pk H) (As := [.int x_3, .int x_6, .int x_9]) (rest := []) ⟨hx, hb, hml, hown, hts⟩ (u_X10_send l E s.heap.size Gm hGzm m0 rf hR t0 t1 t2 A cd pk x_3 x_6 x_9 hI4 hI6 hI8) (cwV 3 hts (gdV ml_L_78 im_X10_send se_X10_X10_send in_X10 co_X10_send rfl) rfl rfl rfl (by decide +kernel) ⟨Nat.le_of_ble_eq_true rfl, Nat.le_of_ble_eq_true rfl⟩) hM (fun U hU hW => hK.go hW hS hAz hU) (va_recv hK.1 (va_one hM.1) (ci := 10) (q0 := 0) rfl rfl) rfl rfl hl.1 rfl (lv_room (Nat.le_of_ble_eq_true rfl)) dL_law_433 ⟨hC2, hS2⟩) hS (fun q _ h => hGzm q h) (fun q h => hGzm q h) (fun r_13 ur_13 t H locs ht hvm hwr_13 hB hz hk hS => ?_)
    have hM : MH E m0 rf t0 t1 t2 (uA (uA (uA (uA (uA (uA (uA (uA (uA (uA (uA A 11 (ur_13.1)) 20 (ur_13.2.1)) 21 (ur_13.2.2.1)) 22 (ur_13.2.2.2.1)) 23 (ur_13.2.2.2.2.1)) 24 (ur_13.2.2.2.2.2.1)) 25 (ur_13.2.2.2.2.2.2.1)) 26 (ur_13.2.2.2.2.2.2.2.1)) 27 (ur_13.2.2.2.2.2.2.2.2.1)) 28 (ur_13.2.2.2.2.2.2.2.2.2.1)) 29 (ur_13.2.2.2.2.2.2.2.2.2.2.1)) ur_13.2.2.2.2.2.2.2.2.2.2.2 pk H := by rw [ht] at hB; exact hB
    have hDr_13 : D_X10_send A cd pk x_3 x_6 x_9 (uA (uA (uA (uA (uA (uA (uA (uA (uA (uA (uA A 11 (ur_13.1)) 20 (ur_13.2.1)) 21 (ur_13.2.2.1)) 22 (ur_13.2.2.2.1)) 23 (ur_13.2.2.2.2.1)) 24 (ur_13.2.2.2.2.2.1)) 25 (ur_13.2.2.2.2.2.2.1)) 26 (ur_13.2.2.2.2.2.2.2.1)) 27 (ur_13.2.2.2.2.2.2.2.2.1)) 28 (ur_13.2.2.2.2.2.2.2.2.2.1)) 29 (ur_13.2.2.2.2.2.2.2.2.2.2.1)) (ur_13.2.2.2.2.2.2.2.2.2.2.2) pk r_13 := hwr_13.2.2.2
    have hpr_13_0 : I4 (A 10) (ur_13.2.1) (ur_13.2.2.2.2.2.2.2.2.2.2.1) (ur_13.2.2.2.2.2.1) (ur_13.1) (A 12) (A 13) := hwr_13.1
    have hpr_13_1 : I6 (ur_13.2.2.2.1) (ur_13.2.2.2.2.1) (ur_13.2.2.2.2.2.1) (ur_13.2.2.2.2.2.2.1) (ur_13.2.2.2.2.2.2.2.1) := hwr_13.2.1
    have hpr_13_2 : I8 (ur_13.2.1) (A 30) (A 37) (A 36) := hwr_13.2.2.1
    have hT := hT.other hd2 hk
    have hro := hro.kept (hk _ hro.lt (fun h => h hGmo))
    obtain ⟨A_14, cd_14, pk_14, hM, hD, hV2⟩ : ∃ (A2 : AA) (cd2 pk2 : Int32), MH E m0 rf t0 t1 t2 A2 cd2 pk2 H ∧ D_X10_send A cd pk x_3 x_6 x_9 A2 cd2 pk2 r_13 ∧ RIV A2 pk2 := ⟨_, _, _, hM, hDr_13, ⟨⟨hI2, hI3, hpr_13_0, hI5, hpr_13_1, hI7, hpr_13_2⟩, hpk⟩⟩
    obtain ⟨hSIM, ep_14, hE_14⟩ := sx_sendC hSIM hC hD
    rw [← ep_14] at hSIM
    have hcd : cd_14 = 1 := hE_14.elim (fun h => h.2) (fun h => absurd h.1 (by decide))
    have hV := hV2
    refine lv_istore (lv' := [(6, .int r_13), (5, .int 1), (4, .int (nI i)), (3, .ref o0), (2, .ref m0), (1, .ref x0), (0, .ref b)]) hx hb dL_law_436 hl (by decide) rfl (fun ls hl => ?_)
    refine lv_goto (tgt := 971) hx hb dL_law_438 (by decide) ?_
    refine W.widen (k := C + 2) (n := S + 12) (by omega) (by omega) ?_
    exact key _ _ _ ⟨B, R, A_14, cd_14, pk_14, hT, hW, hM, hSIM, hV, ⟨_, hro⟩, hS⟩ (lv_sub hl [2, 3, 4, 5, 6] rfl)
  · have eB : Z_10 = B := eB
    rw [eB] at hT
    have hC : X_X9_send Gc B R x0 x_3 x_6 x_9 ISE := hC
    refine lv_istore (lv' := [(5, .int 2), (4, .int (nI i)), (3, .ref o0), (2, .ref m0), (1, .ref x0), (0, .ref b)]) hx hb dL_law_412 hl (by decide) rfl (fun ls hl => ?_)
    refine lv_aload_n hx hb dL_law_414 rfl (lv_at hl 3 rfl) ?_
    refine lv_aload_n hx hb dL_law_415 rfl (lv_at hl 5 rfl) ?_
    refine lv_iload hx hb dL_law_416 (lv_at hl 1 rfl) ?_
    refine lv_iconst (v := 1) hx hb dL_law_418 (by decide) ?_
    refine lv_iadd hx hb dL_law_419 ?_
    refine W.eq (g2 := F0 m 420 ls [.int x_1, .ref b, .ref m0]) (by rw [ex_1]) ?_
    refine va_sld hx hb hX hbl hbA hS vi_2 dL_law_420 ?_
    refine W.eq (g2 := F0 m 421 ls [.int x_3, .ref m0]) (by rw [ex_3]) ?_
    refine lv_aload_n hx hb dL_law_421 rfl (lv_at hl 5 rfl) ?_
    refine lv_iload hx hb dL_law_422 (lv_at hl 1 rfl) ?_
    refine lv_iconst (v := 2) hx hb dL_law_424 (by decide) ?_
    refine lv_iadd hx hb dL_law_425 ?_
    refine W.eq (g2 := F0 m 426 ls [.int x_4, .ref b, .int x_3, .ref m0]) (by rw [ex_4]) ?_
    refine va_sld hx hb hX hbl hbA hS vi_5 dL_law_426 ?_
    refine W.eq (g2 := F0 m 427 ls [.int x_6, .int x_3, .ref m0]) (by rw [ex_6]) ?_
    refine lv_aload_n hx hb dL_law_427 rfl (lv_at hl 5 rfl) ?_
    refine lv_iload hx hb dL_law_428 (lv_at hl 1 rfl) ?_
    refine lv_iconst (v := 3) hx hb dL_law_430 (by decide) ?_
    refine lv_iadd hx hb dL_law_431 ?_
    refine W.eq (g2 := F0 m 432 ls [.int x_7, .ref b, .int x_6, .int x_3, .ref m0]) (by rw [ex_7]) ?_
    refine va_sld hx hb hX hbl hbA hS vi_8 dL_law_432 ?_
    refine W.eq (g2 := F0 m 433 ls [.int x_9, .int x_6, .int x_3, .ref m0]) (by rw [ex_9]) ?_
    refine va_calli (rnV (fun H => MH E m0 rf t0 t1 t2 A cd pk H) (As := [.int x_3, .int x_6, .int x_9]) (rest := []) ⟨hx, hb, hml, hown, hts⟩ (u_X10_send l E s.heap.size Gm hGzm m0 rf hR t0 t1 t2 A cd pk x_3 x_6 x_9 hI4 hI6 hI8) (cwV 3 hts (gdV ml_L_78 im_X10_send se_X10_X10_send in_X10 co_X10_send rfl) rfl rfl rfl (by decide +kernel) ⟨Nat.le_of_ble_eq_true rfl, Nat.le_of_ble_eq_true rfl⟩) hM (fun U hU hW => hK.go hW hS hAz hU) (va_recv hK.1 (va_one hM.1) (ci := 10) (q0 := 0) rfl rfl) rfl rfl hl.1 rfl (lv_room (Nat.le_of_ble_eq_true rfl)) dL_law_433 ⟨hC2, hS2⟩) hS (fun q _ h => hGzm q h) (fun q h => hGzm q h) (fun r_15 ur_15 t H locs ht hvm hwr_15 hB hz hk hS => ?_)
    have hM : MH E m0 rf t0 t1 t2 (uA (uA (uA (uA (uA (uA (uA (uA (uA (uA (uA A 11 (ur_15.1)) 20 (ur_15.2.1)) 21 (ur_15.2.2.1)) 22 (ur_15.2.2.2.1)) 23 (ur_15.2.2.2.2.1)) 24 (ur_15.2.2.2.2.2.1)) 25 (ur_15.2.2.2.2.2.2.1)) 26 (ur_15.2.2.2.2.2.2.2.1)) 27 (ur_15.2.2.2.2.2.2.2.2.1)) 28 (ur_15.2.2.2.2.2.2.2.2.2.1)) 29 (ur_15.2.2.2.2.2.2.2.2.2.2.1)) ur_15.2.2.2.2.2.2.2.2.2.2.2 pk H := by rw [ht] at hB; exact hB
    have hDr_15 : D_X10_send A cd pk x_3 x_6 x_9 (uA (uA (uA (uA (uA (uA (uA (uA (uA (uA (uA A 11 (ur_15.1)) 20 (ur_15.2.1)) 21 (ur_15.2.2.1)) 22 (ur_15.2.2.2.1)) 23 (ur_15.2.2.2.2.1)) 24 (ur_15.2.2.2.2.2.1)) 25 (ur_15.2.2.2.2.2.2.1)) 26 (ur_15.2.2.2.2.2.2.2.1)) 27 (ur_15.2.2.2.2.2.2.2.2.1)) 28 (ur_15.2.2.2.2.2.2.2.2.2.1)) 29 (ur_15.2.2.2.2.2.2.2.2.2.2.1)) (ur_15.2.2.2.2.2.2.2.2.2.2.2) pk r_15 := hwr_15.2.2.2
    have hpr_15_0 : I4 (A 10) (ur_15.2.1) (ur_15.2.2.2.2.2.2.2.2.2.2.1) (ur_15.2.2.2.2.2.1) (ur_15.1) (A 12) (A 13) := hwr_15.1
    have hpr_15_1 : I6 (ur_15.2.2.2.1) (ur_15.2.2.2.2.1) (ur_15.2.2.2.2.2.1) (ur_15.2.2.2.2.2.2.1) (ur_15.2.2.2.2.2.2.2.1) := hwr_15.2.1
    have hpr_15_2 : I8 (ur_15.2.1) (A 30) (A 37) (A 36) := hwr_15.2.2.1
    have hT := hT.other hd2 hk
    have hro := hro.kept (hk _ hro.lt (fun h => h hGmo))
    obtain ⟨A_16, cd_16, pk_16, hM, hD, hV2⟩ : ∃ (A2 : AA) (cd2 pk2 : Int32), MH E m0 rf t0 t1 t2 A2 cd2 pk2 H ∧ D_X10_send A cd pk x_3 x_6 x_9 A2 cd2 pk2 r_15 ∧ RIV A2 pk2 := ⟨_, _, _, hM, hDr_15, ⟨⟨hI2, hI3, hpr_15_0, hI5, hpr_15_1, hI7, hpr_15_2⟩, hpk⟩⟩
    obtain ⟨hSIM, ep_16, hE_16⟩ := sx_sendC hSIM hC hD
    rw [← ep_16] at hSIM
    have hcd : cd_16 = 2 := hE_16.elim (fun h => absurd h.1 (by decide)) (fun h => h.2)
    have hV := hV2
    refine lv_istore (lv' := [(6, .int r_15), (5, .int 2), (4, .int (nI i)), (3, .ref o0), (2, .ref m0), (1, .ref x0), (0, .ref b)]) hx hb dL_law_436 hl (by decide) rfl (fun ls hl => ?_)
    refine lv_goto (tgt := 971) hx hb dL_law_438 (by decide) ?_
    refine W.widen (k := C + 2) (n := S + 12) (by omega) (by omega) ?_
    exact key _ _ _ ⟨B, R, A_16, cd_16, pk_16, hT, hW, hM, hSIM, hV, ⟨_, hro⟩, hS⟩ (lv_sub hl [2, 3, 4, 5, 6] rfl)
set_option maxHeartbeats 8000000 in
set_option maxRecDepth 100000 in
theorem lk_6 {p : Program} {l : Launch} {e : Env} {s : State} {m : MethodId} {below : List Frame} {meth : Method} {c : Code} {b L i C S : Nat} {xs : Nat → Int32} {E : EE} {Gc Gm : Nat → Nat} {x0 m0 o0 : Nat} {rf : Nat → Nat} {t0 t1 t2 : Int32} {H : Heap} {locs : List Loc} {ls : Array Slot} (hst : l.stackTraces = false) (C0 : lw_At p s m meth c b L xs) (hLB : L ≤ 3587) (hK : KS E s.heap.size s) (hN : NC s) (F9 : LF s Gc Gm x0 m0 o0 rf t0) (hi : i + 7 ≤ L) (hC : C + 2 ≤ 621377) (hSl : S + 12 ≤ 7231939) (hI : LI E s Gc x0 m0 o0 rf t0 t1 t2 H locs) (hl : lv_has ls 7 [(4, .int (nI i)), (3, .ref o0), (2, .ref m0), (1, .ref x0), (0, .ref b)]) (key : ∀ (H : Heap) (locs : List Loc) (ls : Array Slot), LI E s Gc x0 m0 o0 rf t0 t1 t2 H locs → lv_has ls 7 [(4, .int (nI i)), (3, .ref o0), (2, .ref m0), (1, .ref x0), (0, .ref b)] → W p l e room_1 s m #[Value.ref b] below meth c H locs (C + 2) (S + 12) (lw_Z below #[Value.ref b] s) (F0 m 971 ls [])) : W p l e room_1 s m #[Value.ref b] below meth c H locs C S (lw_Z below #[Value.ref b] s) (F0 m 441 ls []) := by
  obtain ⟨hx, hb, hr, hml, hown, hts0, hX, hbl, hlocks, hgv⟩ := id C0
  obtain ⟨hxc, hR, hGzc, hGzm, hd, hGco, hGmo, hoz, h2t⟩ := F9
  have hd2 : ∀ a, Gc a ≠ 0 → Gm a = 0 := fun a h => Decidable.byContradiction fun q => h (hd a q)
  have hts : ∀ w ∈ TS, w.before #[Value.ref b] s = true := fun w hw => hts0 w (List.mem_filter.mp hw).1
  have hbA : ¬ (fun q : Nat => s.heap.size ≤ q) b := Nat.not_le.mpr hbl
  have hAz : ∀ q, (fun q : Nat => s.heap.size ≤ q) q → s.heap.size ≤ q := fun q h => h
  have hC0 : C + 0 ≤ room_1.cells := (show C + 0 ≤ 621377 by omega)
  have hS0 : S + 0 ≤ room_1.slots := (show S + 0 ≤ 7231939 by omega)
  have hC2 : C + 2 ≤ room_1.cells := (show C + 2 ≤ 621377 by omega)
  have hS2 : S + 12 ≤ room_1.slots := (show S + 12 ≤ 7231939 by omega)
  have hiI : (nI i).toInt = (i : Int) := nI_toInt (by omega)
  obtain ⟨B, R, A, cd, pk, hT, hW, hM, hSIM, hV, ⟨fo, hro⟩, hS⟩ := hI
  obtain ⟨hI2, hI3, hI4, hI5, hI6, hI7, hI8, hpk⟩ := hV.c3
  refine lv_aload_n hx hb dL_law_441 rfl (lv_at hl 3 rfl) ?_
  refine lv_aload_n hx hb dL_law_442 rfl (lv_at hl 4 rfl) ?_
  refine lv_iload hx hb dL_law_443 (lv_at hl 0 rfl) ?_
  refine lv_iconst (v := 1) hx hb dL_law_445 (by decide) ?_
  refine lv_iadd hx hb dL_law_446 ?_
  refine lv_topi (fun x_1 ex_1 => ?_)
  have fx_1 : x_1.toInt = (i : Int) + 1 := by have h9 := s_add (x := nI i) (y := 1) (by rw [hiI, i_1]; omega) (by rw [hiI, i_1]; omega); rw [hiI, i_1] at h9; rw [ex_1]; exact h9
  have vi_2 : vp_in x_1 L := vp_in_iff.mpr (by omega)
  refine va_sld hx hb hX hbl hbA hS vi_2 dL_law_447 ?_
  refine lv_topi (fun x_3 ex_3 => ?_)
  refine lv_aload_n hx hb dL_law_448 rfl (lv_at hl 4 rfl) ?_
  refine lv_iload hx hb dL_law_449 (lv_at hl 0 rfl) ?_
  refine lv_iconst (v := 2) hx hb dL_law_451 (by decide) ?_
  refine lv_iadd hx hb dL_law_452 ?_
  refine lv_topi (fun x_4 ex_4 => ?_)
  have fx_4 : x_4.toInt = (i : Int) + 2 := by have h9 := s_add (x := nI i) (y := 2) (by rw [hiI, i_2]; omega) (by rw [hiI, i_2]; omega); rw [hiI, i_2] at h9; rw [ex_4]; exact h9
  have vi_5 : vp_in x_4 L := vp_in_iff.mpr (by omega)
  refine va_sld hx hb hX hbl hbA hS vi_5 dL_law_453 ?_
  refine lv_topi (fun x_6 ex_6 => ?_)
  refine W.jv (P := fun v_7 : Int32 => v_7 = if x_6.toInt = 0 then 0 else 1) (f := fun v_7 => F0 m 462 ls ([.int v_7, .int x_3, .ref x0])) (fun v_7 hv_7 => ?_) (fun key_7 => ?_)
  · have hv_7 : v_7 = if x_6.toInt = 0 then 0 else 1 := hv_7
    refine lv_aload_n hx hb dL_law_462 rfl (lv_at hl 4 rfl) ?_
    refine lv_iload hx hb dL_law_463 (lv_at hl 0 rfl) ?_
    refine lv_iconst (v := 3) hx hb dL_law_465 (by decide) ?_
    refine lv_iadd hx hb dL_law_466 ?_
    refine lv_topi (fun x_8 ex_8 => ?_)
    have fx_8 : x_8.toInt = (i : Int) + 3 := by have h9 := s_add (x := nI i) (y := 3) (by rw [hiI, i_3]; omega) (by rw [hiI, i_3]; omega); rw [hiI, i_3] at h9; rw [ex_8]; exact h9
    have vi_9 : vp_in x_8 L := vp_in_iff.mpr (by omega)
    refine va_sld hx hb hX hbl hbA hS vi_9 dL_law_467 ?_
    refine lv_topi (fun x_10 ex_10 => ?_)
    refine lv_aload_n hx hb dL_law_468 rfl (lv_at hl 4 rfl) ?_
    refine lv_iload hx hb dL_law_469 (lv_at hl 0 rfl) ?_
    refine lv_iconst (v := 4) hx hb dL_law_471 (by decide) ?_
    refine lv_iadd hx hb dL_law_472 ?_
    refine lv_topi (fun x_11 ex_11 => ?_)
    have fx_11 : x_11.toInt = (i : Int) + 4 := by have h9 := s_add (x := nI i) (y := 4) (by rw [hiI, i_4]; omega) (by rw [hiI, i_4]; omega); rw [hiI, i_4] at h9; rw [ex_11]; exact h9
    have vi_12 : vp_in x_11 L := vp_in_iff.mpr (by omega)
    refine va_sld hx hb hX hbl hbA hS vi_12 dL_law_473 ?_
    refine lv_topi (fun x_13 ex_13 => ?_)
    refine lv_aload_n hx hb dL_law_474 rfl (lv_at hl 4 rfl) ?_
    refine lv_iload hx hb dL_law_475 (lv_at hl 0 rfl) ?_
    refine lv_iconst (v := 5) hx hb dL_law_477 (by decide) ?_
    refine lv_iadd hx hb dL_law_478 ?_
    refine lv_topi (fun x_14 ex_14 => ?_)
    have fx_14 : x_14.toInt = (i : Int) + 5 := by have h9 := s_add (x := nI i) (y := 5) (by rw [hiI, i_5]; omega) (by rw [hiI, i_5]; omega); rw [hiI, i_5] at h9; rw [ex_14]; exact h9
    have vi_15 : vp_in x_14 L := vp_in_iff.mpr (by omega)
    refine va_sld hx hb hX hbl hbA hS vi_15 dL_law_479 ?_
    refine lv_topi (fun x_16 ex_16 => ?_)
    refine lv_aload_n hx hb dL_law_480 rfl (lv_at hl 4 rfl) ?_
    refine lv_iload hx hb dL_law_481 (lv_at hl 0 rfl) ?_
    refine lv_bipush (v := 6) hx hb dL_law_483 (by decide) ?_
    refine lv_iadd hx hb dL_law_485 ?_
    refine lv_topi (fun x_17 ex_17 => ?_)
    have fx_17 : x_17.toInt = (i : Int) + 6 := by have h9 := s_add (x := nI i) (y := 6) (by rw [hiI, i_6]; omega) (by rw [hiI, i_6]; omega); rw [hiI, i_6] at h9; rw [ex_17]; exact h9
    have vi_18 : vp_in x_17 L := vp_in_iff.mpr (by omega)
    refine va_sld hx hb hX hbl hbA hS vi_18 dL_law_486 ?_
    refine lv_topi (fun x_19 ex_19 => ?_)
    refine lv_aload_n hx hb dL_law_487 rfl (lv_at hl 1 rfl) ?_
    refine va_calli (vx_runSW (hh := [(0, 18, 21, 13), (0, 18, 25, 22)]) (As := [.ref x0, .int x_3, .int v_7, .int x_10, .int x_13, .int x_16, .int x_19, .ref o0]) (rest := []) ⟨hx, hb, hml, hown, hts⟩ (w_L_move l hst E s.heap.size Gc hGzc B R hW x0 x_3 v_7 x_10 x_13 x_16 x_19 o0 hxc hGco hoz) (vx_cwSW 8 hts (gdW ml_L_79 st_L_move in_L co_L_move rfl) rfl rfl rfl (by decide +kernel) ⟨Nat.le_of_ble_eq_true rfl, Nat.le_of_ble_eq_true rfl⟩) ⟨fun a U g mk q => ⟨q.1, q.2.1, KS.calling q.2.2.1, NC.vm q.2.2.2 rfl⟩, fun U hU hW => ⟨rfl, by rw [hU]; exact ⟨hT, _, hro⟩, hK.go hW hS hAz hU, hN.go hW⟩⟩ rfl rfl hl.1 rfl (lv_room (Nat.le_of_ble_eq_true rfl)) dL_law_488 ⟨hC2, hS2⟩) hS (fun q _ h => h.elim (fun h => hGzc q (zn (L := [9, 11, 13]) (by decide) h)) (fun e => by rw [e]; exact hoz)) (fun q h => h.elim (fun h => hGzc q (zn (L := [9, 11, 13]) (by decide) h)) (fun e => by rw [e]; exact hoz)) (fun r_20 u_20 t H locs ht9 hvm hwr_20 hB hz hk hS => ?_)
    rw [ht9] at hB
    obtain ⟨Z_20, y_20, f_20⟩ := u_20
    obtain ⟨hT, fo_20, hfo_20, hro2⟩ := hB
    have hro := hro2
    have hM := hM.away hR (fun q hq hg => hk q hq (fun h => h.elim (fun h => zn (L := [9, 11, 13]) (by decide) h (hd q hg)) (fun h => hg (by rw [h]; exact hGmo))))
    have hT : TX E Gc Z_20 R H := hT
    rcases hwr_20 with ⟨rfl, hW2, hF2, hC, ef_20⟩ | ⟨rfl, eB, hC⟩ | ⟨rfl, eB, hC⟩
    · have hW : TW Gc Z_20 R := hW2
      have hC : C_X9_move Gc B R x0 x_3 v_7 x_10 x_13 x_16 x_19 Z_20 y_20 := hC
      have hfo : fo_20 0 = y_20.toInt64 := hfo_20.trans ef_20
      refine lv_istore (lv' := [(5, .int 0), (4, .int (nI i)), (3, .ref o0), (2, .ref m0), (1, .ref x0), (0, .ref b)]) hx hb dL_law_491 hl (by decide) rfl (fun ls hl => ?_)
      refine lv_aload_n hx hb dL_law_493 rfl (lv_at hl 3 rfl) ?_
      refine lv_aload_n hx hb dL_law_494 rfl (lv_at hl 5 rfl) ?_
      refine lv_iload hx hb dL_law_495 (lv_at hl 1 rfl) ?_
      refine lv_iconst (v := 1) hx hb dL_law_497 (by decide) ?_
      refine lv_iadd hx hb dL_law_498 ?_
      refine W.eq (g2 := F0 m 499 ls [.int x_1, .ref b, .ref m0]) (by rw [ex_1]) ?_
      refine va_sld hx hb hX hbl hbA hS vi_2 dL_law_499 ?_
      refine W.eq (g2 := F0 m 500 ls [.int x_3, .ref m0]) (by rw [ex_3]) ?_
      refine lv_aload_n hx hb dL_law_500 rfl (lv_at hl 5 rfl) ?_
      refine lv_iload hx hb dL_law_501 (lv_at hl 1 rfl) ?_
      refine lv_iconst (v := 2) hx hb dL_law_503 (by decide) ?_
      refine lv_iadd hx hb dL_law_504 ?_
      refine W.eq (g2 := F0 m 505 ls [.int x_4, .ref b, .int x_3, .ref m0]) (by rw [ex_4]) ?_
      refine va_sld hx hb hX hbl hbA hS vi_5 dL_law_505 ?_
      refine W.eq (g2 := F0 m 506 ls [.int x_6, .int x_3, .ref m0]) (by rw [ex_6]) ?_
      refine W.jv (P := fun v_21 : Int32 => v_21 = if x_6.toInt = 0 then 0 else 1) (f := fun v_21 => F0 m 514 ls ([.int v_21, .int x_3, .ref m0])) (fun v_21 hv_21 => ?_) (fun key_21 => ?_)
      · have hv_21 : v_21 = if x_6.toInt = 0 then 0 else 1 := hv_21
        have ev_21 : v_21 = v_7 := hv_21.trans hv_7.symm
        subst ev_21
        refine lv_aload_n hx hb dL_law_514 rfl (lv_at hl 5 rfl) ?_
        refine lv_iload hx hb dL_law_515 (lv_at hl 1 rfl) ?_
        refine lv_iconst (v := 3) hx hb dL_law_517 (by decide) ?_
        refine lv_iadd hx hb dL_law_518 ?_
        refine W.eq (g2 := F0 m 519 ls [.int x_8, .ref b, .int v_21, .int x_3, .ref m0]) (by rw [ex_8]) ?_
        refine va_sld hx hb hX hbl hbA hS vi_9 dL_law_519 ?_
        refine W.eq (g2 := F0 m 520 ls [.int x_10, .int v_21, .int x_3, .ref m0]) (by rw [ex_10]) ?_
        refine lv_aload_n hx hb dL_law_520 rfl (lv_at hl 5 rfl) ?_
        refine lv_iload hx hb dL_law_521 (lv_at hl 1 rfl) ?_
        refine lv_iconst (v := 4) hx hb dL_law_523 (by decide) ?_
        refine lv_iadd hx hb dL_law_524 ?_
        refine W.eq (g2 := F0 m 525 ls [.int x_11, .ref b, .int x_10, .int v_21, .int x_3, .ref m0]) (by rw [ex_11]) ?_
        refine va_sld hx hb hX hbl hbA hS vi_12 dL_law_525 ?_
        refine W.eq (g2 := F0 m 526 ls [.int x_13, .int x_10, .int v_21, .int x_3, .ref m0]) (by rw [ex_13]) ?_
        refine lv_aload_n hx hb dL_law_526 rfl (lv_at hl 5 rfl) ?_
        refine lv_iload hx hb dL_law_527 (lv_at hl 1 rfl) ?_
        refine lv_iconst (v := 5) hx hb dL_law_529 (by decide) ?_
        refine lv_iadd hx hb dL_law_530 ?_
        refine W.eq (g2 := F0 m 531 ls [.int x_14, .ref b, .int x_13, .int x_10, .int v_21, .int x_3, .ref m0]) (by rw [ex_14]) ?_
        refine va_sld hx hb hX hbl hbA hS vi_15 dL_law_531 ?_
        refine W.eq (g2 := F0 m 532 ls [.int x_16, .int x_13, .int x_10, .int v_21, .int x_3, .ref m0]) (by rw [ex_16]) ?_
        refine lv_aload_n hx hb dL_law_532 rfl (lv_at hl 5 rfl) ?_
        refine lv_iload hx hb dL_law_533 (lv_at hl 1 rfl) ?_
        refine lv_bipush (v := 6) hx hb dL_law_535 (by decide) ?_
        refine lv_iadd hx hb dL_law_537 ?_
        refine W.eq (g2 := F0 m 538 ls [.int x_17, .ref b, .int x_16, .int x_13, .int x_10, .int v_21, .int x_3, .ref m0]) (by rw [ex_17]) ?_
        refine va_sld hx hb hX hbl hbA hS vi_18 dL_law_538 ?_
        refine W.eq (g2 := F0 m 539 ls [.int x_19, .int x_16, .int x_13, .int x_10, .int v_21, .int x_3, .ref m0]) (by rw [ex_19]) ?_
        refine va_calli (rnV (fun H => MH E m0 rf t0 t1 t2 A cd pk H) (As := [.int x_3, .int v_21, .int x_10, .int x_13, .int x_16, .int x_19]) (rest := []) ⟨hx, hb, hml, hown, hts⟩ (u_X10_move l E s.heap.size Gm hGzm m0 rf hR t0 t1 t2 A cd pk x_3 v_21 x_10 x_13 x_16 x_19 hI4 hI6 hI8) (cwV 6 hts (gdV ml_L_82 im_X10_move se_X10_X10_move in_X10 co_X10_move rfl) rfl rfl rfl (by decide +kernel) ⟨Nat.le_of_ble_eq_true rfl, Nat.le_of_ble_eq_true rfl⟩) hM (fun U hU hW => hK.go hW hS hAz hU) (va_recv hK.1 (va_one hM.1) (ci := 10) (q0 := 0) rfl rfl) rfl rfl hl.1 rfl (lv_room (Nat.le_of_ble_eq_true rfl)) dL_law_539 ⟨hC2, hS2⟩) hS (fun q _ h => hGzm q h) (fun q h => hGzm q h) (fun r_22 ur_22 t H locs ht hvm hwr_22 hB hz hk hS => ?_)
        have hM : MH E m0 rf t0 t1 t2 (uA (uA (uA (uA (uA (uA (uA (uA (uA (uA (uA A 11 (ur_22.1)) 20 (ur_22.2.1)) 21 (ur_22.2.2.1)) 22 (ur_22.2.2.2.1)) 23 (ur_22.2.2.2.2.1)) 24 (ur_22.2.2.2.2.2.1)) 25 (ur_22.2.2.2.2.2.2.1)) 26 (ur_22.2.2.2.2.2.2.2.1)) 27 (ur_22.2.2.2.2.2.2.2.2.1)) 28 (ur_22.2.2.2.2.2.2.2.2.2.1)) 29 (ur_22.2.2.2.2.2.2.2.2.2.2.1)) ur_22.2.2.2.2.2.2.2.2.2.2.2 pk H := by rw [ht] at hB; exact hB
        have hDr_22 : D_X10_move A cd pk x_3 v_21 x_10 x_13 x_16 x_19 (uA (uA (uA (uA (uA (uA (uA (uA (uA (uA (uA A 11 (ur_22.1)) 20 (ur_22.2.1)) 21 (ur_22.2.2.1)) 22 (ur_22.2.2.2.1)) 23 (ur_22.2.2.2.2.1)) 24 (ur_22.2.2.2.2.2.1)) 25 (ur_22.2.2.2.2.2.2.1)) 26 (ur_22.2.2.2.2.2.2.2.1)) 27 (ur_22.2.2.2.2.2.2.2.2.1)) 28 (ur_22.2.2.2.2.2.2.2.2.2.1)) 29 (ur_22.2.2.2.2.2.2.2.2.2.2.1)) (ur_22.2.2.2.2.2.2.2.2.2.2.2) pk r_22 := hwr_22.2.2.2
        have hpr_22_0 : I4 (A 10) (ur_22.2.1) (ur_22.2.2.2.2.2.2.2.2.2.2.1) (ur_22.2.2.2.2.2.1) (ur_22.1) (A 12) (A 13) := hwr_22.1
        have hpr_22_1 : I6 (ur_22.2.2.2.1) (ur_22.2.2.2.2.1) (ur_22.2.2.2.2.2.1) (ur_22.2.2.2.2.2.2.1) (ur_22.2.2.2.2.2.2.2.1) := hwr_22.2.1
        have hpr_22_2 : I8 (ur_22.2.1) (A 30) (A 37) (A 36) := hwr_22.2.2.1
        have hT := hT.other hd2 hk
        have hro := hro.kept (hk _ hro.lt (fun h => h hGmo))
        obtain ⟨A_23, cd_23, pk_23, hM, hD, hV2⟩ : ∃ (A2 : AA) (cd2 pk2 : Int32), MH E m0 rf t0 t1 t2 A2 cd2 pk2 H ∧ D_X10_move A cd pk x_3 v_21 x_10 x_13 x_16 x_19 A2 cd2 pk2 r_22 ∧ RIV A2 pk2 := ⟨_, _, _, hM, hDr_22, ⟨⟨hI2, hI3, hpr_22_0, hI5, hpr_22_1, hI7, hpr_22_2⟩, hpk⟩⟩
        have hs_23 := s_moveC hSIM hV hC hD
        obtain ⟨hSIM, ep_23, hcd, er_23⟩ := hs_23
        rw [← ep_23] at hSIM
        have hV := hV2
        obtain rfl := er_23
        refine lv_istore (lv' := [(6, .int y_20), (5, .int 0), (4, .int (nI i)), (3, .ref o0), (2, .ref m0), (1, .ref x0), (0, .ref b)]) hx hb dL_law_542 hl (by decide) rfl (fun ls hl => ?_)
        refine lv_goto (tgt := 971) hx hb dL_law_544 (by decide) ?_
        refine W.widen (k := C + 2) (n := S + 12) (by omega) (by omega) ?_
        exact key _ _ _ ⟨Z_20, R, A_23, cd_23, pk_23, hT, hW, hM, hSIM, hV, ⟨_, hro⟩, hS⟩ (lv_sub hl [2, 3, 4, 5, 6] rfl)
      · refine lv_if_eq (tgt := 513) hx hb dL_law_506 (by decide) (fun c_24 => ?_) (fun c_24 => ?_)
        · simp only [lt_I, le_I, eq_I, i_0, i_1, i_2, i_3, i_4, i_5, i_6, i_7, i_8, i_10, i_12, i_16, i_20, i_23, i_24, i_31, i_32, i_63, i_64, i_m1, i_9, i_11, i_13, i_25, i_60, i_75, i_79, i_80, i_96, i_100] at c_24
          refine lv_iconst (v := 0) hx hb dL_law_513 (by decide) ?_
          exact key_21 0 (by first | rw [if_pos (by omega)] | rw [if_neg (by omega)])
        · simp only [lt_I, le_I, eq_I, i_0, i_1, i_2, i_3, i_4, i_5, i_6, i_7, i_8, i_10, i_12, i_16, i_20, i_23, i_24, i_31, i_32, i_63, i_64, i_m1, i_9, i_11, i_13, i_25, i_60, i_75, i_79, i_80, i_96, i_100] at c_24
          refine lv_iconst (v := 1) hx hb dL_law_509 (by decide) ?_
          refine lv_goto (tgt := 514) hx hb dL_law_510 (by decide) ?_
          exact key_21 1 (by first | rw [if_pos (by omega)] | rw [if_neg (by omega)])
    · have eB : Z_20 = B := eB
      rw [eB] at hT
      have hC : X_X9_move Gc B R x0 x_3 v_7 x_10 x_13 x_16 x_19 IAE := hC
      refine lv_istore (lv' := [(5, .int 1), (4, .int (nI i)), (3, .ref o0), (2, .ref m0), (1, .ref x0), (0, .ref b)]) hx hb dL_law_491 hl (by decide) rfl (fun ls hl => ?_)
      refine lv_aload_n hx hb dL_law_493 rfl (lv_at hl 3 rfl) ?_
      refine lv_aload_n hx hb dL_law_494 rfl (lv_at hl 5 rfl) ?_
      refine lv_iload hx hb dL_law_495 (lv_at hl 1 rfl) ?_
      refine lv_iconst (v := 1) hx hb dL_law_497 (by decide) ?_
      refine lv_iadd hx hb dL_law_498 ?_
      refine W.eq (g2 := F0 m 499 ls [.int x_1, .ref b, .ref m0]) (by rw [ex_1]) ?_
      refine va_sld hx hb hX hbl hbA hS vi_2 dL_law_499 ?_
      refine W.eq (g2 := F0 m 500 ls [.int x_3, .ref m0]) (by rw [ex_3]) ?_
      refine lv_aload_n hx hb dL_law_500 rfl (lv_at hl 5 rfl) ?_
      refine lv_iload hx hb dL_law_501 (lv_at hl 1 rfl) ?_
      refine lv_iconst (v := 2) hx hb dL_law_503 (by decide) ?_
      refine lv_iadd hx hb dL_law_504 ?_
      refine W.eq (g2 := F0 m 505 ls [.int x_4, .ref b, .int x_3, .ref m0]) (by rw [ex_4]) ?_
      refine va_sld hx hb hX hbl hbA hS vi_5 dL_law_505 ?_
      refine W.eq (g2 := F0 m 506 ls [.int x_6, .int x_3, .ref m0]) (by rw [ex_6]) ?_
      refine W.jv (P := fun v_25 : Int32 => v_25 = if x_6.toInt = 0 then 0 else 1) (f := fun v_25 => F0 m 514 ls ([.int v_25, .int x_3, .ref m0])) (fun v_25 hv_25 => ?_) (fun key_25 => ?_)
      · have hv_25 : v_25 = if x_6.toInt = 0 then 0 else 1 := hv_25
        have ev_25 : v_25 = v_7 := hv_25.trans hv_7.symm
        subst ev_25
        refine lv_aload_n hx hb dL_law_514 rfl (lv_at hl 5 rfl) ?_
        refine lv_iload hx hb dL_law_515 (lv_at hl 1 rfl) ?_
        refine lv_iconst (v := 3) hx hb dL_law_517 (by decide) ?_
        refine lv_iadd hx hb dL_law_518 ?_
        refine W.eq (g2 := F0 m 519 ls [.int x_8, .ref b, .int v_25, .int x_3, .ref m0]) (by rw [ex_8]) ?_
        refine va_sld hx hb hX hbl hbA hS vi_9 dL_law_519 ?_
        refine W.eq (g2 := F0 m 520 ls [.int x_10, .int v_25, .int x_3, .ref m0]) (by rw [ex_10]) ?_
        refine lv_aload_n hx hb dL_law_520 rfl (lv_at hl 5 rfl) ?_
        refine lv_iload hx hb dL_law_521 (lv_at hl 1 rfl) ?_
        refine lv_iconst (v := 4) hx hb dL_law_523 (by decide) ?_
        refine lv_iadd hx hb dL_law_524 ?_
        refine W.eq (g2 := F0 m 525 ls [.int x_11, .ref b, .int x_10, .int v_25, .int x_3, .ref m0]) (by rw [ex_11]) ?_
        refine va_sld hx hb hX hbl hbA hS vi_12 dL_law_525 ?_
        refine W.eq (g2 := F0 m 526 ls [.int x_13, .int x_10, .int v_25, .int x_3, .ref m0]) (by rw [ex_13]) ?_
        refine lv_aload_n hx hb dL_law_526 rfl (lv_at hl 5 rfl) ?_
        refine lv_iload hx hb dL_law_527 (lv_at hl 1 rfl) ?_
        refine lv_iconst (v := 5) hx hb dL_law_529 (by decide) ?_
        refine lv_iadd hx hb dL_law_530 ?_
        refine W.eq (g2 := F0 m 531 ls [.int x_14, .ref b, .int x_13, .int x_10, .int v_25, .int x_3, .ref m0]) (by rw [ex_14]) ?_
        refine va_sld hx hb hX hbl hbA hS vi_15 dL_law_531 ?_
        refine W.eq (g2 := F0 m 532 ls [.int x_16, .int x_13, .int x_10, .int v_25, .int x_3, .ref m0]) (by rw [ex_16]) ?_
        refine lv_aload_n hx hb dL_law_532 rfl (lv_at hl 5 rfl) ?_
        refine lv_iload hx hb dL_law_533 (lv_at hl 1 rfl) ?_
        refine lv_bipush (v := 6) hx hb dL_law_535 (by decide) ?_
        refine lv_iadd hx hb dL_law_537 ?_
        refine W.eq (g2 := F0 m 538 ls [.int x_17, .ref b, .int x_16, .int x_13, .int x_10, .int v_25, .int x_3, .ref m0]) (by rw [ex_17]) ?_
        refine va_sld hx hb hX hbl hbA hS vi_18 dL_law_538 ?_
        refine W.eq (g2 := F0 m 539 ls [.int x_19, .int x_16, .int x_13, .int x_10, .int v_25, .int x_3, .ref m0]) (by rw [ex_19]) ?_
        refine va_calli (rnV (fun H => MH E m0 rf t0 t1 t2 A cd pk H) (As := [.int x_3, .int v_25, .int x_10, .int x_13, .int x_16, .int x_19]) (rest := []) ⟨hx, hb, hml, hown, hts⟩ (u_X10_move l E s.heap.size Gm hGzm m0 rf hR t0 t1 t2 A cd pk x_3 v_25 x_10 x_13 x_16 x_19 hI4 hI6 hI8) (cwV 6 hts (gdV ml_L_82 im_X10_move se_X10_X10_move in_X10 co_X10_move rfl) rfl rfl rfl (by decide +kernel) ⟨Nat.le_of_ble_eq_true rfl, Nat.le_of_ble_eq_true rfl⟩) hM (fun U hU hW => hK.go hW hS hAz hU) (va_recv hK.1 (va_one hM.1) (ci := 10) (q0 := 0) rfl rfl) rfl rfl hl.1 rfl (lv_room (Nat.le_of_ble_eq_true rfl)) dL_law_539 ⟨hC2, hS2⟩) hS (fun q _ h => hGzm q h) (fun q h => hGzm q h) (fun r_26 ur_26 t H locs ht hvm hwr_26 hB hz hk hS => ?_)
        have hM : MH E m0 rf t0 t1 t2 (uA (uA (uA (uA (uA (uA (uA (uA (uA (uA (uA A 11 (ur_26.1)) 20 (ur_26.2.1)) 21 (ur_26.2.2.1)) 22 (ur_26.2.2.2.1)) 23 (ur_26.2.2.2.2.1)) 24 (ur_26.2.2.2.2.2.1)) 25 (ur_26.2.2.2.2.2.2.1)) 26 (ur_26.2.2.2.2.2.2.2.1)) 27 (ur_26.2.2.2.2.2.2.2.2.1)) 28 (ur_26.2.2.2.2.2.2.2.2.2.1)) 29 (ur_26.2.2.2.2.2.2.2.2.2.2.1)) ur_26.2.2.2.2.2.2.2.2.2.2.2 pk H := by rw [ht] at hB; exact hB
        have hDr_26 : D_X10_move A cd pk x_3 v_25 x_10 x_13 x_16 x_19 (uA (uA (uA (uA (uA (uA (uA (uA (uA (uA (uA A 11 (ur_26.1)) 20 (ur_26.2.1)) 21 (ur_26.2.2.1)) 22 (ur_26.2.2.2.1)) 23 (ur_26.2.2.2.2.1)) 24 (ur_26.2.2.2.2.2.1)) 25 (ur_26.2.2.2.2.2.2.1)) 26 (ur_26.2.2.2.2.2.2.2.1)) 27 (ur_26.2.2.2.2.2.2.2.2.1)) 28 (ur_26.2.2.2.2.2.2.2.2.2.1)) 29 (ur_26.2.2.2.2.2.2.2.2.2.2.1)) (ur_26.2.2.2.2.2.2.2.2.2.2.2) pk r_26 := hwr_26.2.2.2
        have hpr_26_0 : I4 (A 10) (ur_26.2.1) (ur_26.2.2.2.2.2.2.2.2.2.2.1) (ur_26.2.2.2.2.2.1) (ur_26.1) (A 12) (A 13) := hwr_26.1
        have hpr_26_1 : I6 (ur_26.2.2.2.1) (ur_26.2.2.2.2.1) (ur_26.2.2.2.2.2.1) (ur_26.2.2.2.2.2.2.1) (ur_26.2.2.2.2.2.2.2.1) := hwr_26.2.1
        have hpr_26_2 : I8 (ur_26.2.1) (A 30) (A 37) (A 36) := hwr_26.2.2.1
        have hT := hT.other hd2 hk
        have hro := hro.kept (hk _ hro.lt (fun h => h hGmo))
        obtain ⟨A_27, cd_27, pk_27, hM, hD, hV2⟩ : ∃ (A2 : AA) (cd2 pk2 : Int32), MH E m0 rf t0 t1 t2 A2 cd2 pk2 H ∧ D_X10_move A cd pk x_3 v_25 x_10 x_13 x_16 x_19 A2 cd2 pk2 r_26 ∧ RIV A2 pk2 := ⟨_, _, _, hM, hDr_26, ⟨⟨hI2, hI3, hpr_26_0, hI5, hpr_26_1, hI7, hpr_26_2⟩, hpk⟩⟩
        obtain ⟨hSIM, ep_27, hE_27⟩ := sx_moveC hSIM hC hD
        rw [← ep_27] at hSIM
        have hcd : cd_27 = 1 := hE_27.elim (fun h => h.2) (fun h => absurd h.1 (by decide))
        have hV := hV2
        refine lv_istore (lv' := [(6, .int r_26), (5, .int 1), (4, .int (nI i)), (3, .ref o0), (2, .ref m0), (1, .ref x0), (0, .ref b)]) hx hb dL_law_542 hl (by decide) rfl (fun ls hl => ?_)
        refine lv_goto (tgt := 971) hx hb dL_law_544 (by decide) ?_
        refine W.widen (k := C + 2) (n := S + 12) (by omega) (by omega) ?_
        exact key _ _ _ ⟨B, R, A_27, cd_27, pk_27, hT, hW, hM, hSIM, hV, ⟨_, hro⟩, hS⟩ (lv_sub hl [2, 3, 4, 5, 6] rfl)
      · refine lv_if_eq (tgt := 513) hx hb dL_law_506 (by decide) (fun c_28 => ?_) (fun c_28 => ?_)
        · simp only [lt_I, le_I, eq_I, i_0, i_1, i_2, i_3, i_4, i_5, i_6, i_7, i_8, i_10, i_12, i_16, i_20, i_23, i_24, i_31, i_32, i_63, i_64, i_m1, i_9, i_11, i_13, i_25, i_60, i_75, i_79, i_80, i_96, i_100] at c_28
          refine lv_iconst (v := 0) hx hb dL_law_513 (by decide) ?_
          exact key_25 0 (by first | rw [if_pos (by omega)] | rw [if_neg (by omega)])
        · simp only [lt_I, le_I, eq_I, i_0, i_1, i_2, i_3, i_4, i_5, i_6, i_7, i_8, i_10, i_12, i_16, i_20, i_23, i_24, i_31, i_32, i_63, i_64, i_m1, i_9, i_11, i_13, i_25, i_60, i_75, i_79, i_80, i_96, i_100] at c_28
          refine lv_iconst (v := 1) hx hb dL_law_509 (by decide) ?_
          refine lv_goto (tgt := 514) hx hb dL_law_510 (by decide) ?_
          exact key_25 1 (by first | rw [if_pos (by omega)] | rw [if_neg (by omega)])
    · have eB : Z_20 = B := eB
      rw [eB] at hT
      have hC : X_X9_move Gc B R x0 x_3 v_7 x_10 x_13 x_16 x_19 ISE := hC
      refine lv_istore (lv' := [(5, .int 2), (4, .int (nI i)), (3, .ref o0), (2, .ref m0), (1, .ref x0), (0, .ref b)]) hx hb dL_law_491 hl (by decide) rfl (fun ls hl => ?_)
      refine lv_aload_n hx hb dL_law_493 rfl (lv_at hl 3 rfl) ?_
      refine lv_aload_n hx hb dL_law_494 rfl (lv_at hl 5 rfl) ?_
      refine lv_iload hx hb dL_law_495 (lv_at hl 1 rfl) ?_
      refine lv_iconst (v := 1) hx hb dL_law_497 (by decide) ?_
      refine lv_iadd hx hb dL_law_498 ?_
      refine W.eq (g2 := F0 m 499 ls [.int x_1, .ref b, .ref m0]) (by rw [ex_1]) ?_
      refine va_sld hx hb hX hbl hbA hS vi_2 dL_law_499 ?_
      refine W.eq (g2 := F0 m 500 ls [.int x_3, .ref m0]) (by rw [ex_3]) ?_
      refine lv_aload_n hx hb dL_law_500 rfl (lv_at hl 5 rfl) ?_
      refine lv_iload hx hb dL_law_501 (lv_at hl 1 rfl) ?_
      refine lv_iconst (v := 2) hx hb dL_law_503 (by decide) ?_
      refine lv_iadd hx hb dL_law_504 ?_
      refine W.eq (g2 := F0 m 505 ls [.int x_4, .ref b, .int x_3, .ref m0]) (by rw [ex_4]) ?_
      refine va_sld hx hb hX hbl hbA hS vi_5 dL_law_505 ?_
      refine W.eq (g2 := F0 m 506 ls [.int x_6, .int x_3, .ref m0]) (by rw [ex_6]) ?_
      refine W.jv (P := fun v_29 : Int32 => v_29 = if x_6.toInt = 0 then 0 else 1) (f := fun v_29 => F0 m 514 ls ([.int v_29, .int x_3, .ref m0])) (fun v_29 hv_29 => ?_) (fun key_29 => ?_)
      · have hv_29 : v_29 = if x_6.toInt = 0 then 0 else 1 := hv_29
        have ev_29 : v_29 = v_7 := hv_29.trans hv_7.symm
        subst ev_29
        refine lv_aload_n hx hb dL_law_514 rfl (lv_at hl 5 rfl) ?_
        refine lv_iload hx hb dL_law_515 (lv_at hl 1 rfl) ?_
        refine lv_iconst (v := 3) hx hb dL_law_517 (by decide) ?_
        refine lv_iadd hx hb dL_law_518 ?_
        refine W.eq (g2 := F0 m 519 ls [.int x_8, .ref b, .int v_29, .int x_3, .ref m0]) (by rw [ex_8]) ?_
        refine va_sld hx hb hX hbl hbA hS vi_9 dL_law_519 ?_
        refine W.eq (g2 := F0 m 520 ls [.int x_10, .int v_29, .int x_3, .ref m0]) (by rw [ex_10]) ?_
        refine lv_aload_n hx hb dL_law_520 rfl (lv_at hl 5 rfl) ?_
        refine lv_iload hx hb dL_law_521 (lv_at hl 1 rfl) ?_
        refine lv_iconst (v := 4) hx hb dL_law_523 (by decide) ?_
        refine lv_iadd hx hb dL_law_524 ?_
        refine W.eq (g2 := F0 m 525 ls [.int x_11, .ref b, .int x_10, .int v_29, .int x_3, .ref m0]) (by rw [ex_11]) ?_
        refine va_sld hx hb hX hbl hbA hS vi_12 dL_law_525 ?_
        refine W.eq (g2 := F0 m 526 ls [.int x_13, .int x_10, .int v_29, .int x_3, .ref m0]) (by rw [ex_13]) ?_
        refine lv_aload_n hx hb dL_law_526 rfl (lv_at hl 5 rfl) ?_
        refine lv_iload hx hb dL_law_527 (lv_at hl 1 rfl) ?_
        refine lv_iconst (v := 5) hx hb dL_law_529 (by decide) ?_
        refine lv_iadd hx hb dL_law_530 ?_
        refine W.eq (g2 := F0 m 531 ls [.int x_14, .ref b, .int x_13, .int x_10, .int v_29, .int x_3, .ref m0]) (by rw [ex_14]) ?_
        refine va_sld hx hb hX hbl hbA hS vi_15 dL_law_531 ?_
        refine W.eq (g2 := F0 m 532 ls [.int x_16, .int x_13, .int x_10, .int v_29, .int x_3, .ref m0]) (by rw [ex_16]) ?_
        refine lv_aload_n hx hb dL_law_532 rfl (lv_at hl 5 rfl) ?_
        refine lv_iload hx hb dL_law_533 (lv_at hl 1 rfl) ?_
        refine lv_bipush (v := 6) hx hb dL_law_535 (by decide) ?_
        refine lv_iadd hx hb dL_law_537 ?_
        refine W.eq (g2 := F0 m 538 ls [.int x_17, .ref b, .int x_16, .int x_13, .int x_10, .int v_29, .int x_3, .ref m0]) (by rw [ex_17]) ?_
        refine va_sld hx hb hX hbl hbA hS vi_18 dL_law_538 ?_
        refine W.eq (g2 := F0 m 539 ls [.int x_19, .int x_16, .int x_13, .int x_10, .int v_29, .int x_3, .ref m0]) (by rw [ex_19]) ?_
        refine va_calli (rnV (fun H => MH E m0 rf t0 t1 t2 A cd pk H) (As := [.int x_3, .int v_29, .int x_10, .int x_13, .int x_16, .int x_19]) (rest := []) ⟨hx, hb, hml, hown, hts⟩ (u_X10_move l E s.heap.size Gm hGzm m0 rf hR t0 t1 t2 A cd pk x_3 v_29 x_10 x_13 x_16 x_19 hI4 hI6 hI8) (cwV 6 hts (gdV ml_L_82 im_X10_move se_X10_X10_move in_X10 co_X10_move rfl) rfl rfl rfl (by decide +kernel) ⟨Nat.le_of_ble_eq_true rfl, Nat.le_of_ble_eq_true rfl⟩) hM (fun U hU hW => hK.go hW hS hAz hU) (va_recv hK.1 (va_one hM.1) (ci := 10) (q0 := 0) rfl rfl) rfl rfl hl.1 rfl (lv_room (Nat.le_of_ble_eq_true rfl)) dL_law_539 ⟨hC2, hS2⟩) hS (fun q _ h => hGzm q h) (fun q h => hGzm q h) (fun r_30 ur_30 t H locs ht hvm hwr_30 hB hz hk hS => ?_)
        have hM : MH E m0 rf t0 t1 t2 (uA (uA (uA (uA (uA (uA (uA (uA (uA (uA (uA A 11 (ur_30.1)) 20 (ur_30.2.1)) 21 (ur_30.2.2.1)) 22 (ur_30.2.2.2.1)) 23 (ur_30.2.2.2.2.1)) 24 (ur_30.2.2.2.2.2.1)) 25 (ur_30.2.2.2.2.2.2.1)) 26 (ur_30.2.2.2.2.2.2.2.1)) 27 (ur_30.2.2.2.2.2.2.2.2.1)) 28 (ur_30.2.2.2.2.2.2.2.2.2.1)) 29 (ur_30.2.2.2.2.2.2.2.2.2.2.1)) ur_30.2.2.2.2.2.2.2.2.2.2.2 pk H := by rw [ht] at hB; exact hB
        have hDr_30 : D_X10_move A cd pk x_3 v_29 x_10 x_13 x_16 x_19 (uA (uA (uA (uA (uA (uA (uA (uA (uA (uA (uA A 11 (ur_30.1)) 20 (ur_30.2.1)) 21 (ur_30.2.2.1)) 22 (ur_30.2.2.2.1)) 23 (ur_30.2.2.2.2.1)) 24 (ur_30.2.2.2.2.2.1)) 25 (ur_30.2.2.2.2.2.2.1)) 26 (ur_30.2.2.2.2.2.2.2.1)) 27 (ur_30.2.2.2.2.2.2.2.2.1)) 28 (ur_30.2.2.2.2.2.2.2.2.2.1)) 29 (ur_30.2.2.2.2.2.2.2.2.2.2.1)) (ur_30.2.2.2.2.2.2.2.2.2.2.2) pk r_30 := hwr_30.2.2.2
        have hpr_30_0 : I4 (A 10) (ur_30.2.1) (ur_30.2.2.2.2.2.2.2.2.2.2.1) (ur_30.2.2.2.2.2.1) (ur_30.1) (A 12) (A 13) := hwr_30.1
        have hpr_30_1 : I6 (ur_30.2.2.2.1) (ur_30.2.2.2.2.1) (ur_30.2.2.2.2.2.1) (ur_30.2.2.2.2.2.2.1) (ur_30.2.2.2.2.2.2.2.1) := hwr_30.2.1
        have hpr_30_2 : I8 (ur_30.2.1) (A 30) (A 37) (A 36) := hwr_30.2.2.1
        have hT := hT.other hd2 hk
        have hro := hro.kept (hk _ hro.lt (fun h => h hGmo))
        obtain ⟨A_31, cd_31, pk_31, hM, hD, hV2⟩ : ∃ (A2 : AA) (cd2 pk2 : Int32), MH E m0 rf t0 t1 t2 A2 cd2 pk2 H ∧ D_X10_move A cd pk x_3 v_29 x_10 x_13 x_16 x_19 A2 cd2 pk2 r_30 ∧ RIV A2 pk2 := ⟨_, _, _, hM, hDr_30, ⟨⟨hI2, hI3, hpr_30_0, hI5, hpr_30_1, hI7, hpr_30_2⟩, hpk⟩⟩
        obtain ⟨hSIM, ep_31, hE_31⟩ := sx_moveC hSIM hC hD
        rw [← ep_31] at hSIM
        have hcd : cd_31 = 2 := hE_31.elim (fun h => absurd h.1 (by decide)) (fun h => h.2)
        have hV := hV2
        refine lv_istore (lv' := [(6, .int r_30), (5, .int 2), (4, .int (nI i)), (3, .ref o0), (2, .ref m0), (1, .ref x0), (0, .ref b)]) hx hb dL_law_542 hl (by decide) rfl (fun ls hl => ?_)
        refine lv_goto (tgt := 971) hx hb dL_law_544 (by decide) ?_
        refine W.widen (k := C + 2) (n := S + 12) (by omega) (by omega) ?_
        exact key _ _ _ ⟨B, R, A_31, cd_31, pk_31, hT, hW, hM, hSIM, hV, ⟨_, hro⟩, hS⟩ (lv_sub hl [2, 3, 4, 5, 6] rfl)
      · refine lv_if_eq (tgt := 513) hx hb dL_law_506 (by decide) (fun c_32 => ?_) (fun c_32 => ?_)
        · simp only [lt_I, le_I, eq_I, i_0, i_1, i_2, i_3, i_4, i_5, i_6, i_7, i_8, i_10, i_12, i_16, i_20, i_23, i_24, i_31, i_32, i_63, i_64, i_m1, i_9, i_11, i_13, i_25, i_60, i_75, i_79, i_80, i_96, i_100] at c_32
          refine lv_iconst (v := 0) hx hb dL_law_513 (by decide) ?_
          exact key_29 0 (by first | rw [if_pos (by omega)] | rw [if_neg (by omega)])
        · simp only [lt_I, le_I, eq_I, i_0, i_1, i_2, i_3, i_4, i_5, i_6, i_7, i_8, i_10, i_12, i_16, i_20, i_23, i_24, i_31, i_32, i_63, i_64, i_m1, i_9, i_11, i_13, i_25, i_60, i_75, i_79, i_80, i_96, i_100] at c_32
          refine lv_iconst (v := 1) hx hb dL_law_509 (by decide) ?_
          refine lv_goto (tgt := 514) hx hb dL_law_510 (by decide) ?_
          exact key_29 1 (by first | rw [if_pos (by omega)] | rw [if_neg (by omega)])
  · refine lv_if_eq (tgt := 461) hx hb dL_law_454 (by decide) (fun c_33 => ?_) (fun c_33 => ?_)
    · simp only [lt_I, le_I, eq_I, i_0, i_1, i_2, i_3, i_4, i_5, i_6, i_7, i_8, i_10, i_12, i_16, i_20, i_23, i_24, i_31, i_32, i_63, i_64, i_m1, i_9, i_11, i_13, i_25, i_60, i_75, i_79, i_80, i_96, i_100] at c_33
      refine lv_iconst (v := 0) hx hb dL_law_461 (by decide) ?_
      exact key_7 0 (by first | rw [if_pos (by omega)] | rw [if_neg (by omega)])
    · simp only [lt_I, le_I, eq_I, i_0, i_1, i_2, i_3, i_4, i_5, i_6, i_7, i_8, i_10, i_12, i_16, i_20, i_23, i_24, i_31, i_32, i_63, i_64, i_m1, i_9, i_11, i_13, i_25, i_60, i_75, i_79, i_80, i_96, i_100] at c_33
      refine lv_iconst (v := 1) hx hb dL_law_457 (by decide) ?_
      refine lv_goto (tgt := 462) hx hb dL_law_458 (by decide) ?_
      exact key_7 1 (by first | rw [if_pos (by omega)] | rw [if_neg (by omega)])
set_option maxHeartbeats 8000000 in
set_option maxRecDepth 100000 in
theorem lk_7 {p : Program} {l : Launch} {e : Env} {s : State} {m : MethodId} {below : List Frame} {meth : Method} {c : Code} {b L i C S : Nat} {xs : Nat → Int32} {E : EE} {Gc Gm : Nat → Nat} {x0 m0 o0 : Nat} {rf : Nat → Nat} {t0 t1 t2 : Int32} {H : Heap} {locs : List Loc} {ls : Array Slot} (hst : l.stackTraces = false) (C0 : lw_At p s m meth c b L xs) (hLB : L ≤ 3587) (hK : KS E s.heap.size s) (hN : NC s) (F9 : LF s Gc Gm x0 m0 o0 rf t0) (hi : i + 7 ≤ L) (hC : C + 2 ≤ 621377) (hSl : S + 12 ≤ 7231939) (hI : LI E s Gc x0 m0 o0 rf t0 t1 t2 H locs) (hl : lv_has ls 7 [(4, .int (nI i)), (3, .ref o0), (2, .ref m0), (1, .ref x0), (0, .ref b)]) (key : ∀ (H : Heap) (locs : List Loc) (ls : Array Slot), LI E s Gc x0 m0 o0 rf t0 t1 t2 H locs → lv_has ls 7 [(4, .int (nI i)), (3, .ref o0), (2, .ref m0), (1, .ref x0), (0, .ref b)] → W p l e room_1 s m #[Value.ref b] below meth c H locs (C + 2) (S + 12) (lw_Z below #[Value.ref b] s) (F0 m 971 ls [])) : W p l e room_1 s m #[Value.ref b] below meth c H locs C S (lw_Z below #[Value.ref b] s) (F0 m 547 ls []) := by
  obtain ⟨hx, hb, hr, hml, hown, hts0, hX, hbl, hlocks, hgv⟩ := id C0
  obtain ⟨hxc, hR, hGzc, hGzm, hd, hGco, hGmo, hoz, h2t⟩ := F9
  have hd2 : ∀ a, Gc a ≠ 0 → Gm a = 0 := fun a h => Decidable.byContradiction fun q => h (hd a q)
  have hts : ∀ w ∈ TS, w.before #[Value.ref b] s = true := fun w hw => hts0 w (List.mem_filter.mp hw).1
  have hbA : ¬ (fun q : Nat => s.heap.size ≤ q) b := Nat.not_le.mpr hbl
  have hAz : ∀ q, (fun q : Nat => s.heap.size ≤ q) q → s.heap.size ≤ q := fun q h => h
  have hC0 : C + 0 ≤ room_1.cells := (show C + 0 ≤ 621377 by omega)
  have hS0 : S + 0 ≤ room_1.slots := (show S + 0 ≤ 7231939 by omega)
  have hC2 : C + 2 ≤ room_1.cells := (show C + 2 ≤ 621377 by omega)
  have hS2 : S + 12 ≤ room_1.slots := (show S + 12 ≤ 7231939 by omega)
  have hiI : (nI i).toInt = (i : Int) := nI_toInt (by omega)
  obtain ⟨B, R, A, cd, pk, hT, hW, hM, hSIM, hV, ⟨fo, hro⟩, hS⟩ := hI
  obtain ⟨hI2, hI3, hI4, hI5, hI6, hI7, hI8, hpk⟩ := hV.c3
  refine lv_aload_n hx hb dL_law_547 rfl (lv_at hl 3 rfl) ?_
  refine lv_aload_n hx hb dL_law_548 rfl (lv_at hl 4 rfl) ?_
  refine lv_iload hx hb dL_law_549 (lv_at hl 0 rfl) ?_
  refine lv_iconst (v := 1) hx hb dL_law_551 (by decide) ?_
  refine lv_iadd hx hb dL_law_552 ?_
  refine lv_topi (fun x_1 ex_1 => ?_)
  have fx_1 : x_1.toInt = (i : Int) + 1 := by have h9 := s_add (x := nI i) (y := 1) (by rw [hiI, i_1]; omega) (by rw [hiI, i_1]; omega); rw [hiI, i_1] at h9; rw [ex_1]; exact h9
  have vi_2 : vp_in x_1 L := vp_in_iff.mpr (by omega)
  refine va_sld hx hb hX hbl hbA hS vi_2 dL_law_553 ?_
  refine lv_topi (fun x_3 ex_3 => ?_)
  refine lv_aload_n hx hb dL_law_554 rfl (lv_at hl 4 rfl) ?_
  refine lv_iload hx hb dL_law_555 (lv_at hl 0 rfl) ?_
  refine lv_iconst (v := 2) hx hb dL_law_557 (by decide) ?_
  refine lv_iadd hx hb dL_law_558 ?_
  refine lv_topi (fun x_4 ex_4 => ?_)
  have fx_4 : x_4.toInt = (i : Int) + 2 := by have h9 := s_add (x := nI i) (y := 2) (by rw [hiI, i_2]; omega) (by rw [hiI, i_2]; omega); rw [hiI, i_2] at h9; rw [ex_4]; exact h9
  have vi_5 : vp_in x_4 L := vp_in_iff.mpr (by omega)
  refine va_sld hx hb hX hbl hbA hS vi_5 dL_law_559 ?_
  refine lv_topi (fun x_6 ex_6 => ?_)
  refine lv_aload_n hx hb dL_law_560 rfl (lv_at hl 4 rfl) ?_
  refine lv_iload hx hb dL_law_561 (lv_at hl 0 rfl) ?_
  refine lv_iconst (v := 3) hx hb dL_law_563 (by decide) ?_
  refine lv_iadd hx hb dL_law_564 ?_
  refine lv_topi (fun x_7 ex_7 => ?_)
  have fx_7 : x_7.toInt = (i : Int) + 3 := by have h9 := s_add (x := nI i) (y := 3) (by rw [hiI, i_3]; omega) (by rw [hiI, i_3]; omega); rw [hiI, i_3] at h9; rw [ex_7]; exact h9
  have vi_8 : vp_in x_7 L := vp_in_iff.mpr (by omega)
  refine va_sld hx hb hX hbl hbA hS vi_8 dL_law_565 ?_
  refine lv_topi (fun x_9 ex_9 => ?_)
  refine lv_aload_n hx hb dL_law_566 rfl (lv_at hl 4 rfl) ?_
  refine lv_iload hx hb dL_law_567 (lv_at hl 0 rfl) ?_
  refine lv_iconst (v := 4) hx hb dL_law_569 (by decide) ?_
  refine lv_iadd hx hb dL_law_570 ?_
  refine lv_topi (fun x_10 ex_10 => ?_)
  have fx_10 : x_10.toInt = (i : Int) + 4 := by have h9 := s_add (x := nI i) (y := 4) (by rw [hiI, i_4]; omega) (by rw [hiI, i_4]; omega); rw [hiI, i_4] at h9; rw [ex_10]; exact h9
  have vi_11 : vp_in x_10 L := vp_in_iff.mpr (by omega)
  refine va_sld hx hb hX hbl hbA hS vi_11 dL_law_571 ?_
  refine lv_topi (fun x_12 ex_12 => ?_)
  refine lv_aload_n hx hb dL_law_572 rfl (lv_at hl 4 rfl) ?_
  refine lv_iload hx hb dL_law_573 (lv_at hl 0 rfl) ?_
  refine lv_iconst (v := 5) hx hb dL_law_575 (by decide) ?_
  refine lv_iadd hx hb dL_law_576 ?_
  refine lv_topi (fun x_13 ex_13 => ?_)
  have fx_13 : x_13.toInt = (i : Int) + 5 := by have h9 := s_add (x := nI i) (y := 5) (by rw [hiI, i_5]; omega) (by rw [hiI, i_5]; omega); rw [hiI, i_5] at h9; rw [ex_13]; exact h9
  have vi_14 : vp_in x_13 L := vp_in_iff.mpr (by omega)
  refine va_sld hx hb hX hbl hbA hS vi_14 dL_law_577 ?_
  refine lv_topi (fun x_15 ex_15 => ?_)
  refine lv_aload_n hx hb dL_law_578 rfl (lv_at hl 1 rfl) ?_
  refine va_calli (vx_runSW (hh := [(0, 16, 19, 13), (0, 16, 23, 22)]) (As := [.ref x0, .int x_3, .int x_6, .int x_9, .int x_12, .int x_15, .ref o0]) (rest := []) ⟨hx, hb, hml, hown, hts⟩ (w_L_add l hst E s.heap.size Gc hGzc B R hW x0 x_3 x_6 x_9 x_12 x_15 o0 hxc hGco hoz) (vx_cwSW 7 hts (gdW ml_L_83 st_L_add in_L co_L_add rfl) rfl rfl rfl (by decide +kernel) ⟨Nat.le_of_ble_eq_true rfl, Nat.le_of_ble_eq_true rfl⟩) ⟨fun a U g mk q => ⟨q.1, q.2.1, KS.calling q.2.2.1, NC.vm q.2.2.2 rfl⟩, fun U hU hW => ⟨rfl, by rw [hU]; exact ⟨hT, _, hro⟩, hK.go hW hS hAz hU, hN.go hW⟩⟩ rfl rfl hl.1 rfl (lv_room (Nat.le_of_ble_eq_true rfl)) dL_law_579 ⟨hC2, hS2⟩) hS (fun q _ h => h.elim (fun h => hGzc q (zn (L := [9, 11, 13]) (by decide) h)) (fun e => by rw [e]; exact hoz)) (fun q h => h.elim (fun h => hGzc q (zn (L := [9, 11, 13]) (by decide) h)) (fun e => by rw [e]; exact hoz)) (fun r_16 u_16 t H locs ht9 hvm hwr_16 hB hz hk hS => ?_)
  rw [ht9] at hB
  obtain ⟨Z_16, y_16, f_16⟩ := u_16
  obtain ⟨hT, fo_16, hfo_16, hro2⟩ := hB
  have hro := hro2
  have hM := hM.away hR (fun q hq hg => hk q hq (fun h => h.elim (fun h => zn (L := [9, 11, 13]) (by decide) h (hd q hg)) (fun h => hg (by rw [h]; exact hGmo))))
  have hT : TX E Gc Z_16 R H := hT
  rcases hwr_16 with ⟨rfl, hW2, hF2, hC, ef_16⟩ | ⟨rfl, eB, hC⟩ | ⟨rfl, eB, hC⟩
  · have hW : TW Gc Z_16 R := hW2
    have hC : C_X9_add Gc B R x0 x_3 x_6 x_9 x_12 x_15 Z_16 y_16 := hC
    have hfo : fo_16 0 = y_16.toInt64 := hfo_16.trans ef_16
    refine lv_istore (lv' := [(5, .int 0), (4, .int (nI i)), (3, .ref o0), (2, .ref m0), (1, .ref x0), (0, .ref b)]) hx hb dL_law_582 hl (by decide) rfl (fun ls hl => ?_)
    refine lv_aload_n hx hb dL_law_584 rfl (lv_at hl 3 rfl) ?_
    refine lv_aload_n hx hb dL_law_585 rfl (lv_at hl 5 rfl) ?_
    refine lv_iload hx hb dL_law_586 (lv_at hl 1 rfl) ?_
    refine lv_iconst (v := 1) hx hb dL_law_588 (by decide) ?_
    refine lv_iadd hx hb dL_law_589 ?_
    refine W.eq (g2 := F0 m 590 ls [.int x_1, .ref b, .ref m0]) (by rw [ex_1]) ?_
    refine va_sld hx hb hX hbl hbA hS vi_2 dL_law_590 ?_
    refine W.eq (g2 := F0 m 591 ls [.int x_3, .ref m0]) (by rw [ex_3]) ?_
    refine lv_aload_n hx hb dL_law_591 rfl (lv_at hl 5 rfl) ?_
    refine lv_iload hx hb dL_law_592 (lv_at hl 1 rfl) ?_
    refine lv_iconst (v := 2) hx hb dL_law_594 (by decide) ?_
    refine lv_iadd hx hb dL_law_595 ?_
    refine W.eq (g2 := F0 m 596 ls [.int x_4, .ref b, .int x_3, .ref m0]) (by rw [ex_4]) ?_
    refine va_sld hx hb hX hbl hbA hS vi_5 dL_law_596 ?_
    refine W.eq (g2 := F0 m 597 ls [.int x_6, .int x_3, .ref m0]) (by rw [ex_6]) ?_
    refine lv_aload_n hx hb dL_law_597 rfl (lv_at hl 5 rfl) ?_
    refine lv_iload hx hb dL_law_598 (lv_at hl 1 rfl) ?_
    refine lv_iconst (v := 3) hx hb dL_law_600 (by decide) ?_
    refine lv_iadd hx hb dL_law_601 ?_
    refine W.eq (g2 := F0 m 602 ls [.int x_7, .ref b, .int x_6, .int x_3, .ref m0]) (by rw [ex_7]) ?_
    refine va_sld hx hb hX hbl hbA hS vi_8 dL_law_602 ?_
    refine W.eq (g2 := F0 m 603 ls [.int x_9, .int x_6, .int x_3, .ref m0]) (by rw [ex_9]) ?_
    refine lv_aload_n hx hb dL_law_603 rfl (lv_at hl 5 rfl) ?_
    refine lv_iload hx hb dL_law_604 (lv_at hl 1 rfl) ?_
    refine lv_iconst (v := 4) hx hb dL_law_606 (by decide) ?_
    refine lv_iadd hx hb dL_law_607 ?_
    refine W.eq (g2 := F0 m 608 ls [.int x_10, .ref b, .int x_9, .int x_6, .int x_3, .ref m0]) (by rw [ex_10]) ?_
    refine va_sld hx hb hX hbl hbA hS vi_11 dL_law_608 ?_
    refine W.eq (g2 := F0 m 609 ls [.int x_12, .int x_9, .int x_6, .int x_3, .ref m0]) (by rw [ex_12]) ?_
    refine lv_aload_n hx hb dL_law_609 rfl (lv_at hl 5 rfl) ?_
    refine lv_iload hx hb dL_law_610 (lv_at hl 1 rfl) ?_
    refine lv_iconst (v := 5) hx hb dL_law_612 (by decide) ?_
    refine lv_iadd hx hb dL_law_613 ?_
    refine W.eq (g2 := F0 m 614 ls [.int x_13, .ref b, .int x_12, .int x_9, .int x_6, .int x_3, .ref m0]) (by rw [ex_13]) ?_
    refine va_sld hx hb hX hbl hbA hS vi_14 dL_law_614 ?_
    refine W.eq (g2 := F0 m 615 ls [.int x_15, .int x_12, .int x_9, .int x_6, .int x_3, .ref m0]) (by rw [ex_15]) ?_
    refine va_calli (rnV (fun H => MH E m0 rf t0 t1 t2 A cd pk H) (As := [.int x_3, .int x_6, .int x_9, .int x_12, .int x_15]) (rest := []) ⟨hx, hb, hml, hown, hts⟩ (u_X10_add l E s.heap.size Gm hGzm m0 rf hR t0 t1 t2 A cd pk x_3 x_6 x_9 x_12 x_15 hI4 hI6 hI8) (cwV 5 hts (gdV ml_L_86 im_X10_add se_X10_X10_add in_X10 co_X10_add rfl) rfl rfl rfl (by decide +kernel) ⟨Nat.le_of_ble_eq_true rfl, Nat.le_of_ble_eq_true rfl⟩) hM (fun U hU hW => hK.go hW hS hAz hU) (va_recv hK.1 (va_one hM.1) (ci := 10) (q0 := 0) rfl rfl) rfl rfl hl.1 rfl (lv_room (Nat.le_of_ble_eq_true rfl)) dL_law_615 ⟨hC2, hS2⟩) hS (fun q _ h => hGzm q h) (fun q h => hGzm q h) (fun r_17 ur_17 t H locs ht hvm hwr_17 hB hz hk hS => ?_)
    have hM : MH E m0 rf t0 t1 t2 (uA (uA (uA (uA (uA (uA (uA (uA (uA (uA (uA A 11 (ur_17.1)) 20 (ur_17.2.1)) 21 (ur_17.2.2.1)) 22 (ur_17.2.2.2.1)) 23 (ur_17.2.2.2.2.1)) 24 (ur_17.2.2.2.2.2.1)) 25 (ur_17.2.2.2.2.2.2.1)) 26 (ur_17.2.2.2.2.2.2.2.1)) 27 (ur_17.2.2.2.2.2.2.2.2.1)) 28 (ur_17.2.2.2.2.2.2.2.2.2.1)) 29 (ur_17.2.2.2.2.2.2.2.2.2.2.1)) ur_17.2.2.2.2.2.2.2.2.2.2.2 pk H := by rw [ht] at hB; exact hB
    have hDr_17 : D_X10_add A cd pk x_3 x_6 x_9 x_12 x_15 (uA (uA (uA (uA (uA (uA (uA (uA (uA (uA (uA A 11 (ur_17.1)) 20 (ur_17.2.1)) 21 (ur_17.2.2.1)) 22 (ur_17.2.2.2.1)) 23 (ur_17.2.2.2.2.1)) 24 (ur_17.2.2.2.2.2.1)) 25 (ur_17.2.2.2.2.2.2.1)) 26 (ur_17.2.2.2.2.2.2.2.1)) 27 (ur_17.2.2.2.2.2.2.2.2.1)) 28 (ur_17.2.2.2.2.2.2.2.2.2.1)) 29 (ur_17.2.2.2.2.2.2.2.2.2.2.1)) (ur_17.2.2.2.2.2.2.2.2.2.2.2) pk r_17 := hwr_17.2.2.2
    have hpr_17_0 : I4 (A 10) (ur_17.2.1) (ur_17.2.2.2.2.2.2.2.2.2.2.1) (ur_17.2.2.2.2.2.1) (ur_17.1) (A 12) (A 13) := hwr_17.1
    have hpr_17_1 : I6 (ur_17.2.2.2.1) (ur_17.2.2.2.2.1) (ur_17.2.2.2.2.2.1) (ur_17.2.2.2.2.2.2.1) (ur_17.2.2.2.2.2.2.2.1) := hwr_17.2.1
    have hpr_17_2 : I8 (ur_17.2.1) (A 30) (A 37) (A 36) := hwr_17.2.2.1
    have hT := hT.other hd2 hk
    have hro := hro.kept (hk _ hro.lt (fun h => h hGmo))
    obtain ⟨A_18, cd_18, pk_18, hM, hD, hV2⟩ : ∃ (A2 : AA) (cd2 pk2 : Int32), MH E m0 rf t0 t1 t2 A2 cd2 pk2 H ∧ D_X10_add A cd pk x_3 x_6 x_9 x_12 x_15 A2 cd2 pk2 r_17 ∧ RIV A2 pk2 := ⟨_, _, _, hM, hDr_17, ⟨⟨hI2, hI3, hpr_17_0, hI5, hpr_17_1, hI7, hpr_17_2⟩, hpk⟩⟩
    have hs_18 := s_addC hSIM hV hC hD
    obtain ⟨hSIM, ep_18, hcd, er_18⟩ := hs_18
    rw [← ep_18] at hSIM
    have hV := hV2
    obtain rfl := er_18
    refine lv_istore (lv' := [(6, .int y_16), (5, .int 0), (4, .int (nI i)), (3, .ref o0), (2, .ref m0), (1, .ref x0), (0, .ref b)]) hx hb dL_law_618 hl (by decide) rfl (fun ls hl => ?_)
    refine lv_goto (tgt := 971) hx hb dL_law_620 (by decide) ?_
    refine W.widen (k := C + 2) (n := S + 12) (by omega) (by omega) ?_
    exact key _ _ _ ⟨Z_16, R, A_18, cd_18, pk_18, hT, hW, hM, hSIM, hV, ⟨_, hro⟩, hS⟩ (lv_sub hl [2, 3, 4, 5, 6] rfl)
  · have eB : Z_16 = B := eB
    rw [eB] at hT
    have hC : X_X9_add Gc B R x0 x_3 x_6 x_9 x_12 x_15 IAE := hC
    refine lv_istore (lv' := [(5, .int 1), (4, .int (nI i)), (3, .ref o0), (2, .ref m0), (1, .ref x0), (0, .ref b)]) hx hb dL_law_582 hl (by decide) rfl (fun ls hl => ?_)
    refine lv_aload_n hx hb dL_law_584 rfl (lv_at hl 3 rfl) ?_
    refine lv_aload_n hx hb dL_law_585 rfl (lv_at hl 5 rfl) ?_
    refine lv_iload hx hb dL_law_586 (lv_at hl 1 rfl) ?_
    refine lv_iconst (v := 1) hx hb dL_law_588 (by decide) ?_
    refine lv_iadd hx hb dL_law_589 ?_
    refine W.eq (g2 := F0 m 590 ls [.int x_1, .ref b, .ref m0]) (by rw [ex_1]) ?_
    refine va_sld hx hb hX hbl hbA hS vi_2 dL_law_590 ?_
    refine W.eq (g2 := F0 m 591 ls [.int x_3, .ref m0]) (by rw [ex_3]) ?_
    refine lv_aload_n hx hb dL_law_591 rfl (lv_at hl 5 rfl) ?_
    refine lv_iload hx hb dL_law_592 (lv_at hl 1 rfl) ?_
    refine lv_iconst (v := 2) hx hb dL_law_594 (by decide) ?_
    refine lv_iadd hx hb dL_law_595 ?_
    refine W.eq (g2 := F0 m 596 ls [.int x_4, .ref b, .int x_3, .ref m0]) (by rw [ex_4]) ?_
    refine va_sld hx hb hX hbl hbA hS vi_5 dL_law_596 ?_
    refine W.eq (g2 := F0 m 597 ls [.int x_6, .int x_3, .ref m0]) (by rw [ex_6]) ?_
    refine lv_aload_n hx hb dL_law_597 rfl (lv_at hl 5 rfl) ?_
    refine lv_iload hx hb dL_law_598 (lv_at hl 1 rfl) ?_
    refine lv_iconst (v := 3) hx hb dL_law_600 (by decide) ?_
    refine lv_iadd hx hb dL_law_601 ?_
    refine W.eq (g2 := F0 m 602 ls [.int x_7, .ref b, .int x_6, .int x_3, .ref m0]) (by rw [ex_7]) ?_
    refine va_sld hx hb hX hbl hbA hS vi_8 dL_law_602 ?_
    refine W.eq (g2 := F0 m 603 ls [.int x_9, .int x_6, .int x_3, .ref m0]) (by rw [ex_9]) ?_
    refine lv_aload_n hx hb dL_law_603 rfl (lv_at hl 5 rfl) ?_
    refine lv_iload hx hb dL_law_604 (lv_at hl 1 rfl) ?_
    refine lv_iconst (v := 4) hx hb dL_law_606 (by decide) ?_
    refine lv_iadd hx hb dL_law_607 ?_
    refine W.eq (g2 := F0 m 608 ls [.int x_10, .ref b, .int x_9, .int x_6, .int x_3, .ref m0]) (by rw [ex_10]) ?_
    refine va_sld hx hb hX hbl hbA hS vi_11 dL_law_608 ?_
    refine W.eq (g2 := F0 m 609 ls [.int x_12, .int x_9, .int x_6, .int x_3, .ref m0]) (by rw [ex_12]) ?_
    refine lv_aload_n hx hb dL_law_609 rfl (lv_at hl 5 rfl) ?_
    refine lv_iload hx hb dL_law_610 (lv_at hl 1 rfl) ?_
    refine lv_iconst (v := 5) hx hb dL_law_612 (by decide) ?_
    refine lv_iadd hx hb dL_law_613 ?_
    refine W.eq (g2 := F0 m 614 ls [.int x_13, .ref b, .int x_12, .int x_9, .int x_6, .int x_3, .ref m0]) (by rw [ex_13]) ?_
    refine va_sld hx hb hX hbl hbA hS vi_14 dL_law_614 ?_
    refine W.eq (g2 := F0 m 615 ls [.int x_15, .int x_12, .int x_9, .int x_6, .int x_3, .ref m0]) (by rw [ex_15]) ?_
    refine va_calli (rnV (fun H => MH E m0 rf t0 t1 t2 A cd pk H) (As := [.int x_3, .int x_6, .int x_9, .int x_12, .int x_15]) (rest := []) ⟨hx, hb, hml, hown, hts⟩ (u_X10_add l E s.heap.size Gm hGzm m0 rf hR t0 t1 t2 A cd pk x_3 x_6 x_9 x_12 x_15 hI4 hI6 hI8) (cwV 5 hts (gdV ml_L_86 im_X10_add se_X10_X10_add in_X10 co_X10_add rfl) rfl rfl rfl (by decide +kernel) ⟨Nat.le_of_ble_eq_true rfl, Nat.le_of_ble_eq_true rfl⟩) hM (fun U hU hW => hK.go hW hS hAz hU) (va_recv hK.1 (va_one hM.1) (ci := 10) (q0 := 0) rfl rfl) rfl rfl hl.1 rfl (lv_room (Nat.le_of_ble_eq_true rfl)) dL_law_615 ⟨hC2, hS2⟩) hS (fun q _ h => hGzm q h) (fun q h => hGzm q h) (fun r_19 ur_19 t H locs ht hvm hwr_19 hB hz hk hS => ?_)
    have hM : MH E m0 rf t0 t1 t2 (uA (uA (uA (uA (uA (uA (uA (uA (uA (uA (uA A 11 (ur_19.1)) 20 (ur_19.2.1)) 21 (ur_19.2.2.1)) 22 (ur_19.2.2.2.1)) 23 (ur_19.2.2.2.2.1)) 24 (ur_19.2.2.2.2.2.1)) 25 (ur_19.2.2.2.2.2.2.1)) 26 (ur_19.2.2.2.2.2.2.2.1)) 27 (ur_19.2.2.2.2.2.2.2.2.1)) 28 (ur_19.2.2.2.2.2.2.2.2.2.1)) 29 (ur_19.2.2.2.2.2.2.2.2.2.2.1)) ur_19.2.2.2.2.2.2.2.2.2.2.2 pk H := by rw [ht] at hB; exact hB
    have hDr_19 : D_X10_add A cd pk x_3 x_6 x_9 x_12 x_15 (uA (uA (uA (uA (uA (uA (uA (uA (uA (uA (uA A 11 (ur_19.1)) 20 (ur_19.2.1)) 21 (ur_19.2.2.1)) 22 (ur_19.2.2.2.1)) 23 (ur_19.2.2.2.2.1)) 24 (ur_19.2.2.2.2.2.1)) 25 (ur_19.2.2.2.2.2.2.1)) 26 (ur_19.2.2.2.2.2.2.2.1)) 27 (ur_19.2.2.2.2.2.2.2.2.1)) 28 (ur_19.2.2.2.2.2.2.2.2.2.1)) 29 (ur_19.2.2.2.2.2.2.2.2.2.2.1)) (ur_19.2.2.2.2.2.2.2.2.2.2.2) pk r_19 := hwr_19.2.2.2
    have hpr_19_0 : I4 (A 10) (ur_19.2.1) (ur_19.2.2.2.2.2.2.2.2.2.2.1) (ur_19.2.2.2.2.2.1) (ur_19.1) (A 12) (A 13) := hwr_19.1
    have hpr_19_1 : I6 (ur_19.2.2.2.1) (ur_19.2.2.2.2.1) (ur_19.2.2.2.2.2.1) (ur_19.2.2.2.2.2.2.1) (ur_19.2.2.2.2.2.2.2.1) := hwr_19.2.1
    have hpr_19_2 : I8 (ur_19.2.1) (A 30) (A 37) (A 36) := hwr_19.2.2.1
    have hT := hT.other hd2 hk
    have hro := hro.kept (hk _ hro.lt (fun h => h hGmo))
    obtain ⟨A_20, cd_20, pk_20, hM, hD, hV2⟩ : ∃ (A2 : AA) (cd2 pk2 : Int32), MH E m0 rf t0 t1 t2 A2 cd2 pk2 H ∧ D_X10_add A cd pk x_3 x_6 x_9 x_12 x_15 A2 cd2 pk2 r_19 ∧ RIV A2 pk2 := ⟨_, _, _, hM, hDr_19, ⟨⟨hI2, hI3, hpr_19_0, hI5, hpr_19_1, hI7, hpr_19_2⟩, hpk⟩⟩
    obtain ⟨hSIM, ep_20, hE_20⟩ := sx_addC hSIM hC hD
    rw [← ep_20] at hSIM
    have hcd : cd_20 = 1 := hE_20.elim (fun h => h.2) (fun h => absurd h.1 (by decide))
    have hV := hV2
    refine lv_istore (lv' := [(6, .int r_19), (5, .int 1), (4, .int (nI i)), (3, .ref o0), (2, .ref m0), (1, .ref x0), (0, .ref b)]) hx hb dL_law_618 hl (by decide) rfl (fun ls hl => ?_)
    refine lv_goto (tgt := 971) hx hb dL_law_620 (by decide) ?_
    refine W.widen (k := C + 2) (n := S + 12) (by omega) (by omega) ?_
    exact key _ _ _ ⟨B, R, A_20, cd_20, pk_20, hT, hW, hM, hSIM, hV, ⟨_, hro⟩, hS⟩ (lv_sub hl [2, 3, 4, 5, 6] rfl)
  · have eB : Z_16 = B := eB
    rw [eB] at hT
    have hC : X_X9_add Gc B R x0 x_3 x_6 x_9 x_12 x_15 ISE := hC
    refine lv_istore (lv' := [(5, .int 2), (4, .int (nI i)), (3, .ref o0), (2, .ref m0), (1, .ref x0), (0, .ref b)]) hx hb dL_law_582 hl (by decide) rfl (fun ls hl => ?_)
    refine lv_aload_n hx hb dL_law_584 rfl (lv_at hl 3 rfl) ?_
    refine lv_aload_n hx hb dL_law_585 rfl (lv_at hl 5 rfl) ?_
    refine lv_iload hx hb dL_law_586 (lv_at hl 1 rfl) ?_
    refine lv_iconst (v := 1) hx hb dL_law_588 (by decide) ?_
    refine lv_iadd hx hb dL_law_589 ?_
    refine W.eq (g2 := F0 m 590 ls [.int x_1, .ref b, .ref m0]) (by rw [ex_1]) ?_
    refine va_sld hx hb hX hbl hbA hS vi_2 dL_law_590 ?_
    refine W.eq (g2 := F0 m 591 ls [.int x_3, .ref m0]) (by rw [ex_3]) ?_
    refine lv_aload_n hx hb dL_law_591 rfl (lv_at hl 5 rfl) ?_
    refine lv_iload hx hb dL_law_592 (lv_at hl 1 rfl) ?_
    refine lv_iconst (v := 2) hx hb dL_law_594 (by decide) ?_
    refine lv_iadd hx hb dL_law_595 ?_
    refine W.eq (g2 := F0 m 596 ls [.int x_4, .ref b, .int x_3, .ref m0]) (by rw [ex_4]) ?_
    refine va_sld hx hb hX hbl hbA hS vi_5 dL_law_596 ?_
    refine W.eq (g2 := F0 m 597 ls [.int x_6, .int x_3, .ref m0]) (by rw [ex_6]) ?_
    refine lv_aload_n hx hb dL_law_597 rfl (lv_at hl 5 rfl) ?_
    refine lv_iload hx hb dL_law_598 (lv_at hl 1 rfl) ?_
    refine lv_iconst (v := 3) hx hb dL_law_600 (by decide) ?_
    refine lv_iadd hx hb dL_law_601 ?_
    refine W.eq (g2 := F0 m 602 ls [.int x_7, .ref b, .int x_6, .int x_3, .ref m0]) (by rw [ex_7]) ?_
    refine va_sld hx hb hX hbl hbA hS vi_8 dL_law_602 ?_
    refine W.eq (g2 := F0 m 603 ls [.int x_9, .int x_6, .int x_3, .ref m0]) (by rw [ex_9]) ?_
    refine lv_aload_n hx hb dL_law_603 rfl (lv_at hl 5 rfl) ?_
    refine lv_iload hx hb dL_law_604 (lv_at hl 1 rfl) ?_
    refine lv_iconst (v := 4) hx hb dL_law_606 (by decide) ?_
    refine lv_iadd hx hb dL_law_607 ?_
    refine W.eq (g2 := F0 m 608 ls [.int x_10, .ref b, .int x_9, .int x_6, .int x_3, .ref m0]) (by rw [ex_10]) ?_
    refine va_sld hx hb hX hbl hbA hS vi_11 dL_law_608 ?_
    refine W.eq (g2 := F0 m 609 ls [.int x_12, .int x_9, .int x_6, .int x_3, .ref m0]) (by rw [ex_12]) ?_
    refine lv_aload_n hx hb dL_law_609 rfl (lv_at hl 5 rfl) ?_
    refine lv_iload hx hb dL_law_610 (lv_at hl 1 rfl) ?_
    refine lv_iconst (v := 5) hx hb dL_law_612 (by decide) ?_
    refine lv_iadd hx hb dL_law_613 ?_
    refine W.eq (g2 := F0 m 614 ls [.int x_13, .ref b, .int x_12, .int x_9, .int x_6, .int x_3, .ref m0]) (by rw [ex_13]) ?_
    refine va_sld hx hb hX hbl hbA hS vi_14 dL_law_614 ?_
    refine W.eq (g2 := F0 m 615 ls [.int x_15, .int x_12, .int x_9, .int x_6, .int x_3, .ref m0]) (by rw [ex_15]) ?_
    refine va_calli (rnV (fun H => MH E m0 rf t0 t1 t2 A cd pk H) (As := [.int x_3, .int x_6, .int x_9, .int x_12, .int x_15]) (rest := []) ⟨hx, hb, hml, hown, hts⟩ (u_X10_add l E s.heap.size Gm hGzm m0 rf hR t0 t1 t2 A cd pk x_3 x_6 x_9 x_12 x_15 hI4 hI6 hI8) (cwV 5 hts (gdV ml_L_86 im_X10_add se_X10_X10_add in_X10 co_X10_add rfl) rfl rfl rfl (by decide +kernel) ⟨Nat.le_of_ble_eq_true rfl, Nat.le_of_ble_eq_true rfl⟩) hM (fun U hU hW => hK.go hW hS hAz hU) (va_recv hK.1 (va_one hM.1) (ci := 10) (q0 := 0) rfl rfl) rfl rfl hl.1 rfl (lv_room (Nat.le_of_ble_eq_true rfl)) dL_law_615 ⟨hC2, hS2⟩) hS (fun q _ h => hGzm q h) (fun q h => hGzm q h) (fun r_21 ur_21 t H locs ht hvm hwr_21 hB hz hk hS => ?_)
    have hM : MH E m0 rf t0 t1 t2 (uA (uA (uA (uA (uA (uA (uA (uA (uA (uA (uA A 11 (ur_21.1)) 20 (ur_21.2.1)) 21 (ur_21.2.2.1)) 22 (ur_21.2.2.2.1)) 23 (ur_21.2.2.2.2.1)) 24 (ur_21.2.2.2.2.2.1)) 25 (ur_21.2.2.2.2.2.2.1)) 26 (ur_21.2.2.2.2.2.2.2.1)) 27 (ur_21.2.2.2.2.2.2.2.2.1)) 28 (ur_21.2.2.2.2.2.2.2.2.2.1)) 29 (ur_21.2.2.2.2.2.2.2.2.2.2.1)) ur_21.2.2.2.2.2.2.2.2.2.2.2 pk H := by rw [ht] at hB; exact hB
    have hDr_21 : D_X10_add A cd pk x_3 x_6 x_9 x_12 x_15 (uA (uA (uA (uA (uA (uA (uA (uA (uA (uA (uA A 11 (ur_21.1)) 20 (ur_21.2.1)) 21 (ur_21.2.2.1)) 22 (ur_21.2.2.2.1)) 23 (ur_21.2.2.2.2.1)) 24 (ur_21.2.2.2.2.2.1)) 25 (ur_21.2.2.2.2.2.2.1)) 26 (ur_21.2.2.2.2.2.2.2.1)) 27 (ur_21.2.2.2.2.2.2.2.2.1)) 28 (ur_21.2.2.2.2.2.2.2.2.2.1)) 29 (ur_21.2.2.2.2.2.2.2.2.2.2.1)) (ur_21.2.2.2.2.2.2.2.2.2.2.2) pk r_21 := hwr_21.2.2.2
    have hpr_21_0 : I4 (A 10) (ur_21.2.1) (ur_21.2.2.2.2.2.2.2.2.2.2.1) (ur_21.2.2.2.2.2.1) (ur_21.1) (A 12) (A 13) := hwr_21.1
    have hpr_21_1 : I6 (ur_21.2.2.2.1) (ur_21.2.2.2.2.1) (ur_21.2.2.2.2.2.1) (ur_21.2.2.2.2.2.2.1) (ur_21.2.2.2.2.2.2.2.1) := hwr_21.2.1
    have hpr_21_2 : I8 (ur_21.2.1) (A 30) (A 37) (A 36) := hwr_21.2.2.1
    have hT := hT.other hd2 hk
    have hro := hro.kept (hk _ hro.lt (fun h => h hGmo))
    obtain ⟨A_22, cd_22, pk_22, hM, hD, hV2⟩ : ∃ (A2 : AA) (cd2 pk2 : Int32), MH E m0 rf t0 t1 t2 A2 cd2 pk2 H ∧ D_X10_add A cd pk x_3 x_6 x_9 x_12 x_15 A2 cd2 pk2 r_21 ∧ RIV A2 pk2 := ⟨_, _, _, hM, hDr_21, ⟨⟨hI2, hI3, hpr_21_0, hI5, hpr_21_1, hI7, hpr_21_2⟩, hpk⟩⟩
    obtain ⟨hSIM, ep_22, hE_22⟩ := sx_addC hSIM hC hD
    rw [← ep_22] at hSIM
    have hcd : cd_22 = 2 := hE_22.elim (fun h => absurd h.1 (by decide)) (fun h => h.2)
    have hV := hV2
    refine lv_istore (lv' := [(6, .int r_21), (5, .int 2), (4, .int (nI i)), (3, .ref o0), (2, .ref m0), (1, .ref x0), (0, .ref b)]) hx hb dL_law_618 hl (by decide) rfl (fun ls hl => ?_)
    refine lv_goto (tgt := 971) hx hb dL_law_620 (by decide) ?_
    refine W.widen (k := C + 2) (n := S + 12) (by omega) (by omega) ?_
    exact key _ _ _ ⟨B, R, A_22, cd_22, pk_22, hT, hW, hM, hSIM, hV, ⟨_, hro⟩, hS⟩ (lv_sub hl [2, 3, 4, 5, 6] rfl)
end

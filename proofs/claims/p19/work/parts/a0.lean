section
-- ===== PART A: goes FIRST, ahead of the names: the tables' words, and 'selects' of the private methods out of them =====
/-- a private method of a class that the tables say can be made, by its rows of tables_1 -/
def lw_okq (q : MethodName × Nat) : Prop := (q.1.cls ≠ "java/lang/invoke/MethodHandle" ∧ q.1.cls ≠ "java/lang/invoke/VarHandle") ∧ Cond.instantiable q.1.cls q.2 ∈ tables_1 ∧ Cond.privateMethod q.1 ∈ tables_1 ∧ Cond.instanceMethod q.1 ∈ tables_1
theorem lw_p0 : lw_okq (⟨"java/lang/Throwable", "fillInStackTrace", "(I)Ljava/lang/Throwable;"⟩, 6) := ⟨⟨by decide +kernel, by decide +kernel⟩, List.mem_of_getElem? (i := 731) (by decide +kernel), List.mem_of_getElem? (i := 729) (by decide +kernel), List.mem_of_getElem? (i := 730) (by decide +kernel)⟩
theorem lw_p1 : lw_okq (⟨"RemoteReachModel", "cellsGood", "(III)Z"⟩, 49) := ⟨⟨by decide +kernel, by decide +kernel⟩, List.mem_of_getElem? (i := 887) (by decide +kernel), List.mem_of_getElem? (i := 1065) (by decide +kernel), List.mem_of_getElem? (i := 1066) (by decide +kernel)⟩
theorem lw_p2 : lw_okq (⟨"RemoteReachModel", "fail", "(I)I"⟩, 49) := ⟨⟨by decide +kernel, by decide +kernel⟩, List.mem_of_getElem? (i := 887) (by decide +kernel), List.mem_of_getElem? (i := 1069) (by decide +kernel), List.mem_of_getElem? (i := 1070) (by decide +kernel)⟩
theorem lw_p3 : lw_okq (⟨"RemoteReachModel", "full", "(I)Z"⟩, 49) := ⟨⟨by decide +kernel, by decide +kernel⟩, List.mem_of_getElem? (i := 887) (by decide +kernel), List.mem_of_getElem? (i := 1073) (by decide +kernel), List.mem_of_getElem? (i := 1074) (by decide +kernel)⟩
theorem lw_p4 : lw_okq (⟨"RemoteReachModel", "post", "(IIIIIII)I"⟩, 49) := ⟨⟨by decide +kernel, by decide +kernel⟩, List.mem_of_getElem? (i := 887) (by decide +kernel), List.mem_of_getElem? (i := 1077) (by decide +kernel), List.mem_of_getElem? (i := 1078) (by decide +kernel)⟩
theorem lw_p5 : lw_okq (⟨"RemoteReachModel", "numbersOf", "(I)I"⟩, 49) := ⟨⟨by decide +kernel, by decide +kernel⟩, List.mem_of_getElem? (i := 887) (by decide +kernel), List.mem_of_getElem? (i := 1081) (by decide +kernel), List.mem_of_getElem? (i := 1082) (by decide +kernel)⟩
theorem lw_p6 : lw_okq (⟨"RemoteReachModel", "requestOf", "(II)I"⟩, 49) := ⟨⟨by decide +kernel, by decide +kernel⟩, List.mem_of_getElem? (i := 887) (by decide +kernel), List.mem_of_getElem? (i := 1109) (by decide +kernel), List.mem_of_getElem? (i := 1110) (by decide +kernel)⟩
theorem lw_p7 : lw_okq (⟨"RemoteReachModel", "emit", "(IIIIII)I"⟩, 49) := ⟨⟨by decide +kernel, by decide +kernel⟩, List.mem_of_getElem? (i := 887) (by decide +kernel), List.mem_of_getElem? (i := 1116) (by decide +kernel), List.mem_of_getElem? (i := 1117) (by decide +kernel)⟩
theorem lw_p8 : lw_okq (⟨"RemoteReachModel", "load", "(IIII)V"⟩, 49) := ⟨⟨by decide +kernel, by decide +kernel⟩, List.mem_of_getElem? (i := 887) (by decide +kernel), List.mem_of_getElem? (i := 1123) (by decide +kernel), List.mem_of_getElem? (i := 1124) (by decide +kernel)⟩
theorem lw_p9 : lw_okq (⟨"RemoteReachModel", "move1", "(II)V"⟩, 49) := ⟨⟨by decide +kernel, by decide +kernel⟩, List.mem_of_getElem? (i := 887) (by decide +kernel), List.mem_of_getElem? (i := 1134) (by decide +kernel), List.mem_of_getElem? (i := 1135) (by decide +kernel)⟩
theorem lw_p10 : lw_okq (⟨"RemoteReachModel", "drop", "(I)V"⟩, 49) := ⟨⟨by decide +kernel, by decide +kernel⟩, List.mem_of_getElem? (i := 887) (by decide +kernel), List.mem_of_getElem? (i := 1138) (by decide +kernel), List.mem_of_getElem? (i := 1139) (by decide +kernel)⟩
theorem lw_p11 : lw_okq (⟨"RemoteReachModel", "asked", "(I)V"⟩, 49) := ⟨⟨by decide +kernel, by decide +kernel⟩, List.mem_of_getElem? (i := 887) (by decide +kernel), List.mem_of_getElem? (i := 1142) (by decide +kernel), List.mem_of_getElem? (i := 1143) (by decide +kernel)⟩
theorem lw_p12 : lw_okq (⟨"RemoteReachModel", "fresh", "(I)V"⟩, 49) := ⟨⟨by decide +kernel, by decide +kernel⟩, List.mem_of_getElem? (i := 887) (by decide +kernel), List.mem_of_getElem? (i := 1146) (by decide +kernel), List.mem_of_getElem? (i := 1147) (by decide +kernel)⟩
theorem lw_p13 : lw_okq (⟨"RemoteReachModel", "freshSend", "(I)V"⟩, 49) := ⟨⟨by decide +kernel, by decide +kernel⟩, List.mem_of_getElem? (i := 887) (by decide +kernel), List.mem_of_getElem? (i := 1150) (by decide +kernel), List.mem_of_getElem? (i := 1151) (by decide +kernel)⟩
theorem lw_p14 : lw_okq (⟨"RemoteReachModel", "refuse", "(II)V"⟩, 49) := ⟨⟨by decide +kernel, by decide +kernel⟩, List.mem_of_getElem? (i := 887) (by decide +kernel), List.mem_of_getElem? (i := 1154) (by decide +kernel), List.mem_of_getElem? (i := 1155) (by decide +kernel)⟩
theorem lw_p15 : lw_okq (⟨"RemoteReachModel", "failPair", "(III)V"⟩, 49) := ⟨⟨by decide +kernel, by decide +kernel⟩, List.mem_of_getElem? (i := 887) (by decide +kernel), List.mem_of_getElem? (i := 1158) (by decide +kernel), List.mem_of_getElem? (i := 1159) (by decide +kernel)⟩
def lw_privs_1 : List (MethodName × Nat) := [(⟨"java/lang/Throwable", "fillInStackTrace", "(I)Ljava/lang/Throwable;"⟩, 6), (⟨"RemoteReachModel", "cellsGood", "(III)Z"⟩, 49), (⟨"RemoteReachModel", "fail", "(I)I"⟩, 49), (⟨"RemoteReachModel", "full", "(I)Z"⟩, 49), (⟨"RemoteReachModel", "post", "(IIIIIII)I"⟩, 49), (⟨"RemoteReachModel", "numbersOf", "(I)I"⟩, 49), (⟨"RemoteReachModel", "requestOf", "(II)I"⟩, 49), (⟨"RemoteReachModel", "emit", "(IIIIII)I"⟩, 49), (⟨"RemoteReachModel", "load", "(IIII)V"⟩, 49), (⟨"RemoteReachModel", "move1", "(II)V"⟩, 49), (⟨"RemoteReachModel", "drop", "(I)V"⟩, 49), (⟨"RemoteReachModel", "asked", "(I)V"⟩, 49), (⟨"RemoteReachModel", "fresh", "(I)V"⟩, 49), (⟨"RemoteReachModel", "freshSend", "(I)V"⟩, 49), (⟨"RemoteReachModel", "refuse", "(II)V"⟩, 49), (⟨"RemoteReachModel", "failPair", "(III)V"⟩, 49)]
theorem lw_r1 : ∀ q ∈ lw_privs_1, lw_okq q := List.forall_mem_cons.mpr ⟨lw_p0, List.forall_mem_cons.mpr ⟨lw_p1, List.forall_mem_cons.mpr ⟨lw_p2, List.forall_mem_cons.mpr ⟨lw_p3, List.forall_mem_cons.mpr ⟨lw_p4, List.forall_mem_cons.mpr ⟨lw_p5, List.forall_mem_cons.mpr ⟨lw_p6, List.forall_mem_cons.mpr ⟨lw_p7, List.forall_mem_cons.mpr ⟨lw_p8, List.forall_mem_cons.mpr ⟨lw_p9, List.forall_mem_cons.mpr ⟨lw_p10, List.forall_mem_cons.mpr ⟨lw_p11, List.forall_mem_cons.mpr ⟨lw_p12, List.forall_mem_cons.mpr ⟨lw_p13, List.forall_mem_cons.mpr ⟨lw_p14, List.forall_mem_cons.mpr ⟨lw_p15, fun _ h => absurd h List.not_mem_nil⟩⟩⟩⟩⟩⟩⟩⟩⟩⟩⟩⟩⟩⟩⟩⟩
theorem lw_p16 : lw_okq (⟨"RemoteReachModel", "complete", "(IIIII)V"⟩, 49) := ⟨⟨by decide +kernel, by decide +kernel⟩, List.mem_of_getElem? (i := 887) (by decide +kernel), List.mem_of_getElem? (i := 1162) (by decide +kernel), List.mem_of_getElem? (i := 1163) (by decide +kernel)⟩
theorem lw_p17 : lw_okq (⟨"RemoteReachModel", "takeCells", "(II)V"⟩, 49) := ⟨⟨by decide +kernel, by decide +kernel⟩, List.mem_of_getElem? (i := 887) (by decide +kernel), List.mem_of_getElem? (i := 1166) (by decide +kernel), List.mem_of_getElem? (i := 1167) (by decide +kernel)⟩
theorem lw_p18 : lw_okq (⟨"RemoteReachModel", "accept", "(II)V"⟩, 49) := ⟨⟨by decide +kernel, by decide +kernel⟩, List.mem_of_getElem? (i := 887) (by decide +kernel), List.mem_of_getElem? (i := 1170) (by decide +kernel), List.mem_of_getElem? (i := 1171) (by decide +kernel)⟩
theorem lw_p19 : lw_okq (⟨"RemoteReachModel", "ack", "(II)V"⟩, 49) := ⟨⟨by decide +kernel, by decide +kernel⟩, List.mem_of_getElem? (i := 887) (by decide +kernel), List.mem_of_getElem? (i := 1174) (by decide +kernel), List.mem_of_getElem? (i := 1175) (by decide +kernel)⟩
theorem lw_p20 : lw_okq (⟨"RemoteReachModel", "dropReceive", "(I)V"⟩, 49) := ⟨⟨by decide +kernel, by decide +kernel⟩, List.mem_of_getElem? (i := 887) (by decide +kernel), List.mem_of_getElem? (i := 1178) (by decide +kernel), List.mem_of_getElem? (i := 1179) (by decide +kernel)⟩
theorem lw_p21 : lw_okq (⟨"RemoteReachModel", "allows", "(IIIII)Z"⟩, 49) := ⟨⟨by decide +kernel, by decide +kernel⟩, List.mem_of_getElem? (i := 887) (by decide +kernel), List.mem_of_getElem? (i := 1182) (by decide +kernel), List.mem_of_getElem? (i := 1183) (by decide +kernel)⟩
theorem lw_p22 : lw_okq (⟨"RemoteReachModel", "reads", "(I)V"⟩, 49) := ⟨⟨by decide +kernel, by decide +kernel⟩, List.mem_of_getElem? (i := 887) (by decide +kernel), List.mem_of_getElem? (i := 1186) (by decide +kernel), List.mem_of_getElem? (i := 1187) (by decide +kernel)⟩
theorem lw_p23 : lw_okq (⟨"RemoteReachModel", "freshAdd", "(I)V"⟩, 49) := ⟨⟨by decide +kernel, by decide +kernel⟩, List.mem_of_getElem? (i := 887) (by decide +kernel), List.mem_of_getElem? (i := 1190) (by decide +kernel), List.mem_of_getElem? (i := 1191) (by decide +kernel)⟩
theorem lw_p24 : lw_okq (⟨"RemoteReachModel", "replyOld", "(II)V"⟩, 49) := ⟨⟨by decide +kernel, by decide +kernel⟩, List.mem_of_getElem? (i := 887) (by decide +kernel), List.mem_of_getElem? (i := 1194) (by decide +kernel), List.mem_of_getElem? (i := 1195) (by decide +kernel)⟩
theorem lw_p25 : lw_okq (⟨"RemoteReachModel", "again", "(I)V"⟩, 49) := ⟨⟨by decide +kernel, by decide +kernel⟩, List.mem_of_getElem? (i := 887) (by decide +kernel), List.mem_of_getElem? (i := 1198) (by decide +kernel), List.mem_of_getElem? (i := 1199) (by decide +kernel)⟩
theorem lw_p26 : lw_okq (⟨"RemoteReachModel", "replied", "(I)V"⟩, 49) := ⟨⟨by decide +kernel, by decide +kernel⟩, List.mem_of_getElem? (i := 887) (by decide +kernel), List.mem_of_getElem? (i := 1202) (by decide +kernel), List.mem_of_getElem? (i := 1203) (by decide +kernel)⟩
theorem lw_p27 : lw_okq (⟨"RemoteReachModel", "hasCells", "(I)Z"⟩, 49) := ⟨⟨by decide +kernel, by decide +kernel⟩, List.mem_of_getElem? (i := 887) (by decide +kernel), List.mem_of_getElem? (i := 1206) (by decide +kernel), List.mem_of_getElem? (i := 1207) (by decide +kernel)⟩
theorem lw_p28 : lw_okq (⟨"RemoteReachModel", "answerOne", "(I)V"⟩, 49) := ⟨⟨by decide +kernel, by decide +kernel⟩, List.mem_of_getElem? (i := 887) (by decide +kernel), List.mem_of_getElem? (i := 1210) (by decide +kernel), List.mem_of_getElem? (i := 1211) (by decide +kernel)⟩
theorem lw_p29 : lw_okq (⟨"RemoteReachModel", "dropRequest", "(I)V"⟩, 49) := ⟨⟨by decide +kernel, by decide +kernel⟩, List.mem_of_getElem? (i := 887) (by decide +kernel), List.mem_of_getElem? (i := 1214) (by decide +kernel), List.mem_of_getElem? (i := 1215) (by decide +kernel)⟩
theorem lw_p30 : lw_okq (⟨"RemoteReachModel", "answerSome", "(II)V"⟩, 49) := ⟨⟨by decide +kernel, by decide +kernel⟩, List.mem_of_getElem? (i := 887) (by decide +kernel), List.mem_of_getElem? (i := 1218) (by decide +kernel), List.mem_of_getElem? (i := 1219) (by decide +kernel)⟩
theorem lw_p31 : lw_okq (⟨"RemoteReachModel", "refused", "(I)V"⟩, 49) := ⟨⟨by decide +kernel, by decide +kernel⟩, List.mem_of_getElem? (i := 887) (by decide +kernel), List.mem_of_getElem? (i := 1222) (by decide +kernel), List.mem_of_getElem? (i := 1223) (by decide +kernel)⟩
def lw_privs_2 : List (MethodName × Nat) := [(⟨"RemoteReachModel", "complete", "(IIIII)V"⟩, 49), (⟨"RemoteReachModel", "takeCells", "(II)V"⟩, 49), (⟨"RemoteReachModel", "accept", "(II)V"⟩, 49), (⟨"RemoteReachModel", "ack", "(II)V"⟩, 49), (⟨"RemoteReachModel", "dropReceive", "(I)V"⟩, 49), (⟨"RemoteReachModel", "allows", "(IIIII)Z"⟩, 49), (⟨"RemoteReachModel", "reads", "(I)V"⟩, 49), (⟨"RemoteReachModel", "freshAdd", "(I)V"⟩, 49), (⟨"RemoteReachModel", "replyOld", "(II)V"⟩, 49), (⟨"RemoteReachModel", "again", "(I)V"⟩, 49), (⟨"RemoteReachModel", "replied", "(I)V"⟩, 49), (⟨"RemoteReachModel", "hasCells", "(I)Z"⟩, 49), (⟨"RemoteReachModel", "answerOne", "(I)V"⟩, 49), (⟨"RemoteReachModel", "dropRequest", "(I)V"⟩, 49), (⟨"RemoteReachModel", "answerSome", "(II)V"⟩, 49), (⟨"RemoteReachModel", "refused", "(I)V"⟩, 49)]
theorem lw_r2 : ∀ q ∈ lw_privs_2, lw_okq q := List.forall_mem_cons.mpr ⟨lw_p16, List.forall_mem_cons.mpr ⟨lw_p17, List.forall_mem_cons.mpr ⟨lw_p18, List.forall_mem_cons.mpr ⟨lw_p19, List.forall_mem_cons.mpr ⟨lw_p20, List.forall_mem_cons.mpr ⟨lw_p21, List.forall_mem_cons.mpr ⟨lw_p22, List.forall_mem_cons.mpr ⟨lw_p23, List.forall_mem_cons.mpr ⟨lw_p24, List.forall_mem_cons.mpr ⟨lw_p25, List.forall_mem_cons.mpr ⟨lw_p26, List.forall_mem_cons.mpr ⟨lw_p27, List.forall_mem_cons.mpr ⟨lw_p28, List.forall_mem_cons.mpr ⟨lw_p29, List.forall_mem_cons.mpr ⟨lw_p30, List.forall_mem_cons.mpr ⟨lw_p31, fun _ h => absurd h List.not_mem_nil⟩⟩⟩⟩⟩⟩⟩⟩⟩⟩⟩⟩⟩⟩⟩⟩
theorem lw_p32 : lw_okq (⟨"RemoteReachModel", "tickPair", "(I)I"⟩, 49) := ⟨⟨by decide +kernel, by decide +kernel⟩, List.mem_of_getElem? (i := 887) (by decide +kernel), List.mem_of_getElem? (i := 1234) (by decide +kernel), List.mem_of_getElem? (i := 1235) (by decide +kernel)⟩
theorem lw_p33 : lw_okq (⟨"RemoteReachModel", "dropEnd", "(I)I"⟩, 49) := ⟨⟨by decide +kernel, by decide +kernel⟩, List.mem_of_getElem? (i := 887) (by decide +kernel), List.mem_of_getElem? (i := 1258) (by decide +kernel), List.mem_of_getElem? (i := 1259) (by decide +kernel)⟩
def lw_privs_3 : List (MethodName × Nat) := [(⟨"RemoteReachModel", "tickPair", "(I)I"⟩, 49), (⟨"RemoteReachModel", "dropEnd", "(I)I"⟩, 49)]
theorem lw_r3 : ∀ q ∈ lw_privs_3, lw_okq q := List.forall_mem_cons.mpr ⟨lw_p32, List.forall_mem_cons.mpr ⟨lw_p33, fun _ h => absurd h List.not_mem_nil⟩⟩
def lw_privs : List (MethodName × Nat) := lw_privs_1 ++ (lw_privs_2 ++ (lw_privs_3))
def lw_tbl : List Cond := k2_sels lw_privs ++ tables_1
theorem lw_privs_ok : ∀ q ∈ lw_privs, lw_okq q := by
  show ∀ q ∈ lw_privs_1 ++ (lw_privs_2 ++ (lw_privs_3)), lw_okq q
  exact List.forall_mem_append.mpr ⟨lw_r1, List.forall_mem_append.mpr ⟨lw_r2, lw_r3⟩⟩
end
section
theorem goodIn_r {big : List Cond} (ws : List Cond) (ps : List Nat) (hp : ws = ps.filterMap (fun i => big[i]?)) (h : ws.all goodWord = true) : GoodIn big ws := by
  intro w hw
  have h1 := List.all_eq_true.mp h w hw
  rw [hp] at hw
  obtain ⟨i, -, hi⟩ := List.mem_filterMap.mp hw
  have hm : w ∈ big := by first | exact List.mem_of_getElem? hi | exact List.getElem?_mem hi
  exact ⟨hm, good_of_word h1⟩
theorem goodIn_app {big a b : List Cond} (ha : GoodIn big a) (hb : GoodIn big b) : GoodIn big (a ++ b) := fun w h => (List.mem_append.mp h).elim (ha w) (hb w)
theorem goodIn_ca {big a b : List Cond} {c : Cond} (ha : GoodIn big (c :: a)) (hb : GoodIn big b) : GoodIn big (c :: (a ++ b)) := fun w h => (List.mem_cons.mp h).elim (fun e => ha w (List.mem_cons.mpr (Or.inl e))) (fun h => (List.mem_append.mp h).elim (fun h => ha w (List.mem_cons.mpr (Or.inr h))) (hb w))
theorem goodIn_sub {big ws : List Cond} (hm : ∀ w ∈ ws, w ∈ big) (h : ws.all goodWord = true) : GoodIn big ws := fun w hw => ⟨hm w hw, good_of_word (List.all_eq_true.mp h w hw)⟩

section VXA
def vx_T (XC : String → State → State → Prop) (st : State) (q : Addr) (t : State) (mc ms : Nat) (free : Addr → Prop) : Prop :=
  ∃ (E : String) (ce : Cell) (L : List Loc), XC E st t ∧ t.heap[q]? = some ce ∧ ce.vm = .none ∧ st.vm.findClass E = some ce.cls ∧ st.WarmedH t.vm ∧ st.sameButNew ({ t with vm := st.vm } : State) L mc ms ∧ ∀ z ∈ L, free z.base
def vx_Q (Qc : Array Value → State → Outcome → State → Prop) (XC : String → State → State → Prop) (mc ms : Nat) (free : Addr → Prop) : Array Value → State → Outcome → State → Prop := fun a st o t =>
  (Qc a st o t ∧ ∃ L, FrameEnd st o t L mc ms ∧ ∀ q ∈ L, free q.base) ∨ ∃ q, o = .threw q ∧ vx_T XC st q t mc ms free
def vx_Met (l : Launch) (y : MethodName) (ws : List Cond) (rm : Room) (Pc : Array Value → State → Prop) (Qc : Array Value → State → Outcome → State → Prop) (XC : String → State → State → Prop) (mc ms : Nat) (free : Addr → Prop) : Prop :=
  MetFree l y (headSpec ws rm) Pc (fun _ _ _ _ _ => True) (vx_Q Qc XC mc ms free)
def vx_Post (XC : String → State → State → Prop) (mc ms : Nat) (free : Addr → Prop) : Pt → Array Value → Addr → Pt → Prop := fun A a q B =>
  ∃ (g : JFrame) (mk : MethodId) (t : State) (L : List Loc) (E : String) (ce : Cell), B.U.heap = t.heap ∧ B.U.vm = t.vm ∧ XC E (A.U.calling g mk a) t ∧ t.heap[q]? = some ce ∧ ce.vm = .none ∧ A.U.vm.findClass E = some ce.cls ∧ B.locs = A.locs ++ L ∧ (∀ z ∈ L, free z.base) ∧ B.cells = A.cells + mc ∧ B.slots = A.slots + ms
def vx_Back (l : Launch) (R : Room) (p : Program) (e : Env) (below : List Frame) (s : State) (sargs : Array Value) (y : MethodName) (len W9 : Nat)
    (Pre : Pt → Array Value → Prop) (Post : Pt → Array Value → Option Value → Pt → Prop) (PostX : Pt → Array Value → Addr → Pt → Prop) : Prop :=
  ∀ (m : MethodId) (meth : Method) (c : Code) (A : Pt) (g : JFrame) (ig : Instr) (mk : MethodId) (a : Array Value),
    Stand p l e R s m sargs below meth c A.U A.locs A.cells A.slots → g.method = m → g.locals.size = c.maxLocals → decode c.code g.pc = .ok (ig, len) →
    2 * g.monitorRoom + (g.stack.map fun v => v.category).sum ≤ W9 → A.U.methodNamed? y = some mk → Pre A a →
    (∃ (v : Option Value) (B : Pt), Stand p l e R s m sargs below meth c B.U B.locs B.cells B.slots ∧ Post A a v B ∧
      Steps p.tables e below (doInvoke e (A.U.setTop g) [] mk a).1 (B.U.setTop { g with pc := g.pc + len, stack := v.toList ++ g.stack })) ∨
    (∃ (q : Addr) (B : Pt), Stand p l e R s m sargs below meth c B.U B.locs B.cells B.slots ∧ PostX A a q B ∧
      Steps p.tables e below (doInvoke e (A.U.setTop g) [] mk a).1 ((B.U.setTop g).pushFrame (.throwing q)))
section Payer
variable {l : Launch} {R : Room} {p : Program} {e : Env} {below : List Frame} {s : State} {sargs : Array Value} {y : MethodName} {len W9 : Nat}
theorem vx_back {ws : List Cond} {rm : Room} {Pc : Array Value → State → Prop} {Qc : Array Value → State → Outcome → State → Prop} {XC : String → State → State → Prop} {mc ms : Nat} {free : Addr → Prop} {bytes : ByteArray} {maxL : Nat} {ret : Option FieldType}
    (hM : vx_Met l y ws rm Pc Qc XC mc ms free) (hblind : FrameBlind Pc) (hrc : rm.cells = mc) (hrs : rm.slots = ms)
    (hframes : rm.frames + 1 ≤ R.frames) (hlocals : W9 + (maxL + 11) + rm.locals ≤ R.locals)
    (hws : ∀ w ∈ ws, ∀ a' U, s.WarmedH U.vm → w.before a' U = true) (hcode : Cond.code y bytes maxL ret ∈ ws) (hinit : ∀ a' U, s.WarmedH U.vm → (Cond.initialized y.cls).before a' U = true) :
    vx_Back l R p e below s sargs y len W9 (PreOf R mc ms Pc) (PostOf Qc mc ms free) (vx_Post XC mc ms free) := by
  intro m meth c A g ig mk a X hg hsize hdg hW hn hp
  have h1 : (headSpec ws rm).pre.before a A.U = true := atoms_intro fun w hw => hws w hw _ _ X.warmed
  have h2 : (Cond.code y bytes maxL ret).before a A.U = true := hws _ hcode _ _ X.warmed
  have h3 : (Cond.initialized y.cls).before a A.U = true := hinit _ _ X.warmed
  have h4 : A.cells + (headSpec ws rm).room.cells ≤ R.cells := by rw [show (headSpec ws rm).room.cells = mc from hrc]; exact hp.1
  have h5 : A.slots + (headSpec ws rm).room.slots ≤ R.slots := by rw [show (headSpec ws rm).room.slots = ms from hrs]; exact hp.2.1
  have hPc : Pc a (A.U.calling g mk a) := hblind _ _ _ _ hp.2.2
  obtain ⟨U, Ls, c0, s0⟩ := A
  dsimp only [Pt.U, Pt.locs, Pt.cells, Pt.slots] at h1 h2 h3 h4 h5 X hn hPc ⊢
  obtain ⟨methY, cY, hmY, hcY, -, hlY, -, -, -, -⟩ := Cond.code_spec hn h2
  obtain ⟨kY, hkY, -⟩ := className_of_methodNamed hn
  have hinitY : kY.init = .initialized := Cond.initialized_spec (findClass_of_methodNamed hn) hkY h3
  have h : At U g.method c below := by rw [hg]; exact X.here
  have hlocals9 : W9 + (maxL + 11) + (headSpec ws rm).room.locals ≤ R.locals := hlocals
  have happ : (headSpec ws rm).appliesLoose y e.platform (U.calling g mk a) = true :=
    Spec.appliesLoose_calling (g := g) h hdg hn hkY hinitY
      (X.room_calling (g := g) (R' := (headSpec ws rm).room) hsize hmY hcY hframes (by rw [hlY]; omega) h4 h5) h1
  obtain ⟨mid, hmid⟩ := h.above
  have hfr : (U.setTop g).frames = (.java g :: mid) ++ below := by rw [State.frames_setTop' g h.top, hmid]; rfl
  obtain ⟨o, s₂, hsteps, -, hend, hq⟩ := Steps.callFree hM p X.admits X.cas X.clock (acts := []) hfr happ hPc trivial
  have hq' : vx_Q Qc XC mc ms free a (U.calling g mk a) o s₂ := hq
  rw [State.frames_setTop' g h.top] at hend
  obtain ⟨g₀, hg0⟩ := Option.isSome_iff_exists.mp h.top
  obtain ⟨r, hr⟩ := State.topJava?_eq_some.mp hg0
  have hr' : (({ U with heap := s₂.heap, slotsUsed := s₂.slotsUsed } : State).setVm s₂.vm).frames = .java g₀ :: r := hr
  rcases hq' with ⟨hqc, L, hfe, hL⟩ | ⟨q, rfl, E, ce, L, hx, hce, hcv, hcl, hW₂, hsm, hL⟩
  · obtain ⟨⟨v, rfl⟩, hW₂, e2, q2, q3, q4, q5, q6⟩ := id hfe
    have e3 : s₂ = ({ (U.calling g mk a).setFrames s₂.frames with heap := s₂.heap, slotsUsed := s₂.slotsUsed } : State).setVm s₂.vm := by
      have : s₂ = ({ s₂ with vm := (U.calling g mk a).vm } : State).setVm s₂.vm := rfl
      rw [e2] at this
      exact this
    obtain ⟨c₂, i₂, len₂, hc₂, hd₂, hf₂⟩ := hend
    have hW' : U.WarmedH s₂.vm := hW₂
    have hcc : c₂ = c := by
      have h1 : s₂.code? g.method = U.code? g.method := by
        rw [State.code?_eq, State.code?_eq, hW'.alike.method?]
      exact Option.some.inj (hc₂.symm.trans (h1.trans h.code))
    subst hcc
    have hlen : len₂ = len := by rw [hdg] at hd₂; cases hd₂; rfl
    subst hlen
    have hs₂ : s₂ = (({ U with heap := s₂.heap, slotsUsed := s₂.slotsUsed } : State).setVm s₂.vm).setTop { g with pc := g.pc + len₂, stack := v.toList ++ g.stack } := by
      refine e3.trans ?_
      rw [hf₂, State.calling_eq h.top, State.setFrames_setFrames, State.setTop_of_frames _ hr', hr]
      rfl
    have hsame : U.sameButNew ({ U with heap := s₂.heap, slotsUsed := s₂.slotsUsed } : State) L mc ms := by
      refine ⟨?_, q2, q3, q4, q5, q6⟩
      obtain ⟨t, ht, -⟩ := State.frames_cons hr
      show ({ U with heap := s₂.heap, slotsUsed := s₂.slotsUsed } : State) = { U.setFrames U.frames with heap := s₂.heap, slotsUsed := s₂.slotsUsed }
      rw [State.setFrames_self ht]
    subst hg
    refine Or.inl ⟨v, ⟨(({ U with heap := s₂.heap, slotsUsed := s₂.slotsUsed } : State).setVm s₂.vm), Ls ++ L, c0 + mc, s0 + ms⟩,
      ⟨X.admits, X.cas, X.clock, X.frames, X.room, X.hears, X.method, X.code, (X.here.setHeapUsed s₂.heap s₂.slotsUsed).setVm hW'.alike, X.tail, State.WarmedH.trans X.warmed hW', X.limits, X.bytes, X.same.trans (hsame.setVm s.vm)⟩,
      ⟨g, mk, s₂, L, rfl, rfl, hqc, rfl, hL, rfl, rfl⟩, ?_⟩
    show Steps p.tables e below _ ((({ U with heap := s₂.heap, slotsUsed := s₂.slotsUsed } : State).setVm s₂.vm).setTop { g with pc := g.pc + len₂, stack := v.toList ++ g.stack })
    rw [← hs₂]
    exact hsteps
  · obtain ⟨e2, q2, q3, q4, q5, q6⟩ := id hsm
    have e3 : s₂ = ({ (U.calling g mk a).setFrames s₂.frames with heap := s₂.heap, slotsUsed := s₂.slotsUsed } : State).setVm s₂.vm := by
      have : s₂ = ({ s₂ with vm := (U.calling g mk a).vm } : State).setVm s₂.vm := rfl
      rw [e2] at this
      exact this
    have hf₂ : s₂.frames = .throwing q :: .java g :: U.frames.tail := hend
    have hW' : U.WarmedH s₂.vm := hW₂
    have hs₂ : s₂ = ((({ U with heap := s₂.heap, slotsUsed := s₂.slotsUsed } : State).setVm s₂.vm).setTop g).pushFrame (.throwing q) := by
      refine e3.trans ?_
      rw [hf₂, State.calling_eq h.top, State.setFrames_setFrames, State.pushFrame, State.frames_setTop _ hr', State.setTop_of_frames _ hr', State.setFrames_setFrames, hr]
      rfl
    have hsame : U.sameButNew ({ U with heap := s₂.heap, slotsUsed := s₂.slotsUsed } : State) L mc ms := by
      refine ⟨?_, q2, q3, q4, q5, q6⟩
      obtain ⟨t, ht, -⟩ := State.frames_cons hr
      show ({ U with heap := s₂.heap, slotsUsed := s₂.slotsUsed } : State) = { U.setFrames U.frames with heap := s₂.heap, slotsUsed := s₂.slotsUsed }
      rw [State.setFrames_self ht]
    subst hg
    refine Or.inr ⟨q, ⟨(({ U with heap := s₂.heap, slotsUsed := s₂.slotsUsed } : State).setVm s₂.vm), Ls ++ L, c0 + mc, s0 + ms⟩,
      ⟨X.admits, X.cas, X.clock, X.frames, X.room, X.hears, X.method, X.code, (X.here.setHeapUsed s₂.heap s₂.slotsUsed).setVm hW'.alike, X.tail, State.WarmedH.trans X.warmed hW', X.limits, X.bytes, X.same.trans (hsame.setVm s.vm)⟩,
      ⟨g, mk, s₂, L, E, ce, rfl, rfl, hx, hce, hcv, hcl, rfl, hL, rfl, rfl⟩, ?_⟩
    show Steps p.tables e below _ (((({ U with heap := s₂.heap, slotsUsed := s₂.slotsUsed } : State).setVm s₂.vm).setTop g).pushFrame (.throwing q))
    rw [← hs₂]
    exact hsteps
end Payer
section Calls
variable {p : Program} {l : Launch} {e : Env} {R : Room} {s : State} {m : MethodId} {args : Array Value} {below : List Frame} {meth : Method} {c : Code} {T : State} {locs : List Loc} {cells slots : Nat}
theorem vx_callV (X : Stand p l e R s m args below meth c T locs cells slots) (hexec : p.tables.exec = Jvm.exec) {own C : String} {index : Nat} {y : MethodName} {bytes : ByteArray} {maxL : Nat} {ret : Option FieldType}
    (hown : s.vm.findClass own = some m.cls) (hlink : (Cond.methodLink own index y).before args s = true) (hinst : (Cond.instanceMethod y).before args s = true) (hsel : (Cond.selects C y y).before args s = true)
    (hcode : (Cond.code y bytes maxL ret).before args s = true) (hy : y.cls ≠ "java/lang/invoke/MethodHandle" ∧ y.cls ≠ "java/lang/invoke/VarHandle")
    {W9 : Nat} {Pre : Pt → Array Value → Prop} {Post : Pt → Array Value → Option Value → Pt → Prop} {PostX : Pt → Array Value → Addr → Pt → Prop} (hK : vx_Back l R p e below s args y 3 W9 Pre Post PostX)
    {b : Addr} {cellB : Cell} (hcell : T.heap[b]? = some cellB) (hobj : cellB.vm.isStatics = false) (hcls : s.vm.findClass C = some cellB.cls)
    {g : JFrame} (hg : g.method = m) (hsize : g.locals.size = c.maxLocals) {argsL rest : List Value} (hlen : ∀ sig, parseMethodDescriptor y.desc = some sig → argsL.length = sig.parameters.length)
    (hstack : g.stack = argsL.reverse ++ .ref b :: rest) (hW : 2 * g.monitorRoom + (rest.map fun v => v.category).sum ≤ W9) (hdg : decode c.code g.pc = .ok (.invokevirtual index, 3))
    (hpre : ∀ vm₁, s.WarmedH vm₁ → Pre ⟨T.setVm vm₁, locs, cells, slots⟩ (Value.ref b :: argsL).toArray) :
    (∃ (v : Option Value) (vm₁ : Vm) (B : Pt), s.WarmedH vm₁ ∧ Stand p l e R s m args below meth c B.U B.locs B.cells B.slots ∧ Post ⟨T.setVm vm₁, locs, cells, slots⟩ (Value.ref b :: argsL).toArray v B ∧
      ∀ target, Steps p.tables e below (B.U.setTop { g with pc := g.pc + 3, stack := v.toList ++ rest }) target → Steps p.tables e below (T.setTop g) target) ∨
    (∃ (q : Addr) (vm₁ : Vm) (B : Pt), s.WarmedH vm₁ ∧ Stand p l e R s m args below meth c B.U B.locs B.cells B.slots ∧ PostX ⟨T.setVm vm₁, locs, cells, slots⟩ (Value.ref b :: argsL).toArray q B ∧
      Steps p.tables e below (T.setTop g) ((B.U.setTop { g with stack := rest }).pushFrame (.throwing q))) := by
  obtain ⟨mk, methM, hnamed, hmethM, hstM, habM⟩ := Cond.instanceMethod_spec hinst
  obtain ⟨methM', cM, hmethM', -, -, -, -, -, -, hsigM⟩ := Cond.code_spec hnamed hcode
  cases hmethM.symm.trans hmethM'
  obtain ⟨c2, r2, m2, q1, q2, q3, q4, kP, hkP, hkPi⟩ := Cond.selects_spec hsel
  cases hcls.symm.trans q1
  cases (State.methodFound?_of_named hnamed hy).symm.trans q2
  cases hnamed.symm.trans q3
  have hselP : selectMethod e.platform s.vm cellB.cls mk = .method mk := by rw [Launch.admits_selectMethod X.admits]; exact q4
  obtain ⟨vm₁, X₁, hstep₁⟩ := X.invokevirtual hexec hown hlink hnamed hmethM hstM hkP hkPi hy (a := b) (cell := cellB) hcell
    (fun z h => by rw [h] at hobj; cases hobj) hselP hmethM habM hkP hkPi (g := g) hg (argsL := argsL) (rest := rest) (hlen _ hsigM) hstack hdg
  rcases hK m meth c ⟨T.setVm vm₁, locs, cells, slots⟩ { g with stack := rest } (.invokevirtual index) mk (Value.ref b :: argsL).toArray X₁ hg hsize hdg hW (X₁.named hnamed) (hpre vm₁ X₁.warmed) with ⟨v, B, X', hpost, hsteps⟩ | ⟨q, B, X', hpost, hsteps⟩
  · exact Or.inl ⟨v, vm₁, B, X₁.warmed, X', hpost, fun target h => hstep₁ _ fun acts => by rw [doInvoke_state]; exact hsteps.trans h⟩
  · exact Or.inr ⟨q, vm₁, B, X₁.warmed, X', hpost, hstep₁ _ fun acts => by rw [doInvoke_state]; exact hsteps⟩
theorem vx_callS (X : Stand p l e R s m args below meth c T locs cells slots) (hexec : p.tables.exec = Jvm.exec) {own : String} {index : Nat} {y : MethodName} {bytes : ByteArray} {maxL : Nat} {ret : Option FieldType}
    (hown : s.vm.findClass own = some m.cls) (hlink : (Cond.methodLink own index y).before args s = true) (hstat : (Cond.static y).before args s = true) (hinit : (Cond.initialized y.cls).before args s = true)
    (hcode : (Cond.code y bytes maxL ret).before args s = true) (hy : y.cls ≠ "java/lang/invoke/MethodHandle" ∧ y.cls ≠ "java/lang/invoke/VarHandle")
    {W9 : Nat} {Pre : Pt → Array Value → Prop} {Post : Pt → Array Value → Option Value → Pt → Prop} {PostX : Pt → Array Value → Addr → Pt → Prop} (hK : vx_Back l R p e below s args y 3 W9 Pre Post PostX)
    {g : JFrame} (hg : g.method = m) (hsize : g.locals.size = c.maxLocals) {argsL rest : List Value} (hlen : ∀ sig, parseMethodDescriptor y.desc = some sig → argsL.length = sig.parameters.length)
    (hstack : g.stack = argsL.reverse ++ rest) (hW : 2 * g.monitorRoom + (rest.map fun v => v.category).sum ≤ W9) (hdg : decode c.code g.pc = .ok (.invokestatic index, 3))
    (hpre : ∀ vm₁, s.WarmedH vm₁ → Pre ⟨T.setVm vm₁, locs, cells, slots⟩ argsL.toArray) :
    (∃ (v : Option Value) (vm₁ : Vm) (B : Pt), s.WarmedH vm₁ ∧ Stand p l e R s m args below meth c B.U B.locs B.cells B.slots ∧ Post ⟨T.setVm vm₁, locs, cells, slots⟩ argsL.toArray v B ∧
      ∀ target, Steps p.tables e below (B.U.setTop { g with pc := g.pc + 3, stack := v.toList ++ rest }) target → Steps p.tables e below (T.setTop g) target) ∨
    (∃ (q : Addr) (vm₁ : Vm) (B : Pt), s.WarmedH vm₁ ∧ Stand p l e R s m args below meth c B.U B.locs B.cells B.slots ∧ PostX ⟨T.setVm vm₁, locs, cells, slots⟩ argsL.toArray q B ∧
      Steps p.tables e below (T.setTop g) ((B.U.setTop { g with stack := rest }).pushFrame (.throwing q))) := by
  obtain ⟨mk, hnamed⟩ := Cond.code_named hcode
  obtain ⟨methM, cM, hmethM, -, -, -, -, -, -, hsigM⟩ := Cond.code_spec hnamed hcode
  have hstatic : methM.isStatic = true := Cond.static_spec hnamed hmethM hstat
  obtain ⟨kP, hkP, -⟩ := className_of_methodNamed hnamed
  have hinitP : kP.init = .initialized := Cond.initialized_spec (findClass_of_methodNamed hnamed) hkP hinit
  obtain ⟨vm₁, X₁, hstep₁⟩ := X.invokestatic hexec hown hlink hnamed hmethM hstatic hkP hinitP hy (g := g) hg (argsL := argsL) (rest := rest) (hlen _ hsigM) hstack hdg
  rcases hK m meth c ⟨T.setVm vm₁, locs, cells, slots⟩ { g with stack := rest } (.invokestatic index) mk argsL.toArray X₁ hg hsize hdg hW (X₁.named hnamed) (hpre vm₁ X₁.warmed) with ⟨v, B, X', hpost, hsteps⟩ | ⟨q, B, X', hpost, hsteps⟩
  · exact Or.inl ⟨v, vm₁, B, X₁.warmed, X', hpost, fun target h => hstep₁ _ fun acts => by rw [doInvoke_state]; exact hsteps.trans h⟩
  · exact Or.inr ⟨q, vm₁, B, X₁.warmed, X', hpost, hstep₁ _ fun acts => by rw [doInvoke_state]; exact hsteps⟩
end Calls
theorem vx_cls {s : State} {T : State} {vm₁ : Vm} {E : String} {k : ClassId} (hW : s.WarmedH vm₁) (h : (T.setVm vm₁).vm.findClass E = some k) : s.vm.findClass E = some k := by
  have h1 : vm₁.findClass E = some k := h
  rw [hW.alike.findClass] at h1
  exact h1
def vx_W (p : Program) (l : Launch) (e : Env) (R : Room) (s : State) (m : MethodId) (args : Array Value) (below : List Frame) (meth : Method) (c : Code) (H : Heap) (locs : List Loc) (cells slots : Nat) (Q : State → Prop) (g : JFrame) (q : Addr) : Prop :=
  ∀ T : State, T.heap = H → Stand p l e R s m args below meth c T locs cells slots → ∃ t, Steps p.tables e below ((T.setTop g).pushFrame (.throwing q)) t ∧ Q t
def vx_Run (p : Program) (l : Launch) (e : Env) (R : Room) (s : State) (m : MethodId) (args : Array Value) (below : List Frame) (meth : Method) (c : Code) (H : Heap) (locs : List Loc) (cells slots mc ms : Nat) (g : JFrame) (rest : List Value) (Qa : State → Outcome → State → Prop) (XC : String → State → State → Prop) (free : Addr → Prop) : Prop :=
  ∀ T : State, T.heap = H → Stand p l e R s m args below meth c T locs cells slots →
    (∃ (v : Option Value) (st₀ t T' : State) (L : List Loc), st₀.heap = H ∧ Stand p l e R s m args below meth c T' (locs ++ L) (cells + mc) (slots + ms) ∧ (∀ q ∈ L, free q.base) ∧ T'.heap = t.heap ∧ T'.vm = t.vm ∧ Qa st₀ (.returned v) t ∧
      Goes p e below T g T' { g with pc := g.pc + 3, stack := v.toList ++ rest }) ∨
    (∃ (q : Addr) (st₀ t T' : State) (L : List Loc) (E : String) (ce : Cell), st₀.heap = H ∧ Stand p l e R s m args below meth c T' (locs ++ L) (cells + mc) (slots + ms) ∧ (∀ z ∈ L, free z.base) ∧ T'.heap = t.heap ∧ T'.vm = t.vm ∧ XC E st₀ t ∧ t.heap[q]? = some ce ∧ ce.vm = .none ∧ s.vm.findClass E = some ce.cls ∧
      Steps p.tables e below (T.setTop g) ((T'.setTop { g with stack := rest }).pushFrame (.throwing q)))
def vx_X {S : Type} (px : S → Prop) (B : String → S → State → Prop) (A : Nat → Prop) : String → State → State → Prop := fun E st t => ∃ u : S, px u ∧ B E u t ∧ va_F A st t
section Runs
variable {p : Program} {l : Launch} {e : Env} {R : Room} {s : State} {m : MethodId} {args : Array Value} {below : List Frame} {meth : Method} {c : Code} {H : Heap} {locs : List Loc} {cells slots : Nat}
variable {y : MethodName} {bytes cc : ByteArray} {maxL nL mc ms n index : Nat} {ret : Option FieldType} {ws : List Cond} {rm : Room} {Pc : Array Value → State → Prop} {Qc : Array Value → State → Outcome → State → Prop} {XC : String → State → State → Prop} {free : Addr → Prop} {Ts : List Cond} {own C : String} {b : Addr} {As rest : List Value} {g : JFrame}
theorem vx_callBack (cb : CallB R s args own index y bytes maxL ret ws rm mc ms n) (hM : vx_Met l y ws rm Pc Qc XC mc ms free) (hbl : FrameBlind Pc) : vx_Back l R p e below s args y 3 8 (PreOf R mc ms Pc) (PostOf Qc mc ms free) (vx_Post XC mc ms free) := by
  obtain ⟨hrc, hrs, hfr, hlo, hws, hcw, -, hini, -⟩ := cb
  exact vx_back (bytes := bytes) (maxL := maxL) (ret := ret) hM hbl hrc hrs hfr hlo hws hcw (fun a' U hW => word_at hW (Or.inl (by first | rfl | simp [Cond.onTables, Cond.keeps, Cond.steady])) hini)
theorem vx_runV (S : CallFix p m c cc nL s args Ts own) (hM : vx_Met l y ws rm Pc Qc XC mc ms free) (cw : CallW R s args own C index y bytes maxL ret ws rm mc ms n) (hp : PreV s H C b Pc As)
    (hg : g.method = m) (hn : As.length = n) (hsize : g.locals.size = nL) (hstack : g.stack = As.reverse ++ .ref b :: rest) (hW : 2 * g.monitorRoom + (rest.map fun v => v.category).sum ≤ 8) (hdg : decode cc g.pc = .ok (.invokevirtual index, 3)) (hf : cells + mc ≤ R.cells ∧ slots + ms ≤ R.slots) :
    vx_Run p l e R s m args below meth c H locs cells slots mc ms g rest (Qc (Value.ref b :: As).toArray) XC free := by
  have hK : vx_Back l R p e below s args y 3 8 (PreOf R mc ms Pc) (PostOf Qc mc ms free) (vx_Post XC mc ms free) := vx_callBack cw.1 hM hp.1
  obtain ⟨⟨-, -, -, -, -, -, hcode, -, hy, hlen, hl⟩, hin, hse⟩ := cw
  obtain ⟨hx, hb, hml, ho, -⟩ := S
  obtain ⟨-, ⟨cellB, hcB, hoB, hclB⟩, hPc⟩ := hp
  intro T hT X
  rcases vx_callV X hx (C := C) (bytes := bytes) (maxL := maxL) (ret := ret) ho hl hin hse hcode hy hK (by rw [hT]; exact hcB) hoB hclB hg (hsize.trans hml.symm) (argsL := As) (rest := rest) (fun sig h => hn.trans (hlen sig h)) hstack hW (by rw [hb]; exact hdg)
    (fun vm₁ hW₁ => ⟨hf.1, hf.2, hPc (T.setVm vm₁) hT hW₁⟩) with ⟨v, vm₁, ⟨U', l2, c2, s2⟩, hW₁, X', ⟨g', mk, t, L, e1, e2, hq, h1, hL, h2, h3⟩, st⟩ | ⟨q, vm₁, ⟨U', l2, c2, s2⟩, hW₁, X', ⟨g', mk, t, L, E, ce, e1, e2, hq, hce, hcv, hcl, h1, hL, h2, h3⟩, st⟩
  · dsimp only [Pt.U, Pt.locs, Pt.cells, Pt.slots] at X' e1 e2 h1 h2 h3 st
    subst h1; subst h2; subst h3
    exact Or.inl ⟨v, (T.setVm vm₁).calling g' mk (Value.ref b :: As).toArray, t, U', L, hT, X', hL, e1, e2, hq, st⟩
  · dsimp only [Pt.U, Pt.locs, Pt.cells, Pt.slots] at X' e1 e2 h1 h2 h3 st hcl
    subst h1; subst h2; subst h3
    exact Or.inr ⟨q, (T.setVm vm₁).calling g' mk (Value.ref b :: As).toArray, t, U', L, E, ce, hT, X', hL, e1, e2, hq, hce, hcv, vx_cls hW₁ hcl, st⟩
theorem vx_runS (S : CallFix p m c cc nL s args Ts own) (hM : vx_Met l y ws rm Pc Qc XC mc ms free) (cw : CallB R s args own index y bytes maxL ret ws rm mc ms n ∧ (Cond.static y).before args s = true) (hp : PreS s H Pc As)
    (hg : g.method = m) (hn : As.length = n) (hsize : g.locals.size = nL) (hstack : g.stack = As.reverse ++ rest) (hW : 2 * g.monitorRoom + (rest.map fun v => v.category).sum ≤ 8) (hdg : decode cc g.pc = .ok (.invokestatic index, 3)) (hf : cells + mc ≤ R.cells ∧ slots + ms ≤ R.slots) :
    vx_Run p l e R s m args below meth c H locs cells slots mc ms g rest (Qc As.toArray) XC free := by
  have hK : vx_Back l R p e below s args y 3 8 (PreOf R mc ms Pc) (PostOf Qc mc ms free) (vx_Post XC mc ms free) := vx_callBack cw.1 hM hp.1
  obtain ⟨⟨-, -, -, -, -, -, hcode, hini, hy, hlen, hl⟩, hstt⟩ := cw
  obtain ⟨hx, hb, hml, ho, -⟩ := S
  intro T hT X
  rcases vx_callS X hx (bytes := bytes) (maxL := maxL) (ret := ret) ho hl hstt hini hcode hy hK hg (hsize.trans hml.symm) (argsL := As) (rest := rest) (fun sig h => hn.trans (hlen sig h)) hstack hW (by rw [hb]; exact hdg)
    (fun vm₁ hW₁ => ⟨hf.1, hf.2, hp.2 (T.setVm vm₁) hT hW₁⟩) with ⟨v, vm₁, ⟨U', l2, c2, s2⟩, hW₁, X', ⟨g', mk, t, L, e1, e2, hq, h1, hL, h2, h3⟩, st⟩ | ⟨q, vm₁, ⟨U', l2, c2, s2⟩, hW₁, X', ⟨g', mk, t, L, E, ce, e1, e2, hq, hce, hcv, hcl, h1, hL, h2, h3⟩, st⟩
  · dsimp only [Pt.U, Pt.locs, Pt.cells, Pt.slots] at X' e1 e2 h1 h2 h3 st
    subst h1; subst h2; subst h3
    exact Or.inl ⟨v, (T.setVm vm₁).calling g' mk As.toArray, t, U', L, hT, X', hL, e1, e2, hq, st⟩
  · dsimp only [Pt.U, Pt.locs, Pt.cells, Pt.slots] at X' e1 e2 h1 h2 h3 st hcl
    subst h1; subst h2; subst h3
    exact Or.inr ⟨q, (T.setVm vm₁).calling g' mk As.toArray, t, U', L, E, ce, hT, X', hL, e1, e2, hq, hce, hcv, vx_cls hW₁ hcl, st⟩
end Runs
section Rows
variable {p : Program} {l : Launch} {e : Env} {R : Room} {s : State} {m : MethodId} {args : Array Value} {below : List Frame} {meth : Method} {c : Code} {H : Heap} {locs : List Loc} {cells slots : Nat} {Q : State → Prop}
variable {mc ms : Nat} {free : Addr → Prop} {A0 A1 : Nat → Prop} {H0 : Heap} {a : Array Value} {pc : Nat} {ls : Array Slot} {st0 rest : List Value}
theorem vx_keep {st₀ t T' : State} {L : List Loc} (h0 : st₀.heap = H) (e1 : T'.heap = t.heap) (hS : va_S A0 H0 H locs) (hA : ∀ q, q < H.size → A1 q → A0 q) (hf : ∀ q, free q → A0 q) (hL : ∀ q ∈ L, free q.base) (hF : va_F A1 st₀ t) :
    H.size ≤ T'.heap.size ∧ (∀ q : Nat, q < H.size → ¬ A1 q → T'.heap[q]? = H[q]?) ∧ va_S A0 H0 T'.heap (locs ++ L) := by
  obtain ⟨hz, hk⟩ := hF
  rw [h0] at hz hk
  exact ⟨by rw [e1]; exact hz, fun q h1 h2 => by rw [e1]; exact hk q h1 h2,
    ⟨Nat.le_trans hS.1 (by rw [e1]; exact hz), fun q h1 h2 => by rw [e1, hk q (Nat.lt_of_lt_of_le h1 hS.1) (fun z => h2 (hA q (Nat.lt_of_lt_of_le h1 hS.1) z))]; exact hS.2.1 q h1 h2, fun q hq => by
      rcases List.mem_append.mp hq with h | h
      · exact hS.2.2 q h
      · exact hf _ (hL q h)⟩⟩
theorem vx_calli {S SX : Type} {post : Int32 → S → Prop} {px : SX → Prop} {B : S → State → Prop} {BX : String → SX → State → Prop} {AX : Nat → Prop} (hr : vx_Run p l e R s m args below meth c H locs cells slots mc ms (F0 m pc ls st0) rest (va_Qi post B A1 a) (vx_X px BX AX) free) (hS : va_S A0 H0 H locs) (hA : ∀ q, q < H.size → A1 q → A0 q) (hf : ∀ q, free q → A0 q) (hAX : ∀ q, q < H.size → AX q → A0 q)
    (kx : ∀ (E : String) (ce : Cell) (q9 : Addr) (u : SX) (t : State) (H1 : Heap) (locs1 : List Loc), t.heap = H1 → s.vm.Alike t.vm → px u → BX E u t → H.size ≤ H1.size → (∀ q : Nat, q < H.size → ¬ AX q → H1[q]? = H[q]?) → va_S A0 H0 H1 locs1 → H1[q9]? = some ce → ce.vm = .none → s.vm.findClass E = some ce.cls → vx_W p l e R s m args below meth c H1 locs1 (cells + mc) (slots + ms) Q (F0 m pc ls rest) q9)
    (kk : ∀ (r : Int32) (u : S) (t : State) (H1 : Heap) (locs1 : List Loc), t.heap = H1 → s.vm.Alike t.vm → post r u → B u t → H.size ≤ H1.size → (∀ q : Nat, q < H.size → ¬ A1 q → H1[q]? = H[q]?) → va_S A0 H0 H1 locs1 → W p l e R s m args below meth c H1 locs1 (cells + mc) (slots + ms) Q (F0 m (pc + 3) ls (.int r :: rest))) : W p l e R s m args below meth c H locs cells slots Q (F0 m pc ls st0) := by
  intro T hT X
  rcases hr T hT X with ⟨v, st₀, t, T', L, h0, X', hL, e1, e2, ⟨⟨r, u, hv, hp, hb⟩, hF⟩, st⟩ | ⟨q, st₀, t, T', L, E, ce, h0, X', hL, e1, e2, ⟨u, hp, hb, hF⟩, hce, hcv, hcl, st⟩
  · cases hv
    obtain ⟨k1, k2, k3⟩ := vx_keep h0 e1 hS hA hf hL hF
    obtain ⟨t2, a1, b1⟩ := kk r u t T'.heap (locs ++ L) e1.symm (by rw [← e2]; exact X'.warmed.alike) hp hb k1 k2 k3 T' rfl X'
    exact ⟨t2, st t2 a1, b1⟩
  · obtain ⟨k1, k2, k3⟩ := vx_keep h0 e1 hS hAX hf hL hF
    obtain ⟨t2, a1, b1⟩ := kx E ce q u t T'.heap (locs ++ L) e1.symm (by rw [← e2]; exact X'.warmed.alike) hp hb k1 k2 k3 (by rw [e1]; exact hce) hcv hcl T' rfl X'
    exact ⟨t2, st.trans a1, b1⟩
theorem vx_calll {S SX : Type} {post : Int64 → S → Prop} {px : SX → Prop} {B : S → State → Prop} {BX : String → SX → State → Prop} {AX : Nat → Prop} (hr : vx_Run p l e R s m args below meth c H locs cells slots mc ms (F0 m pc ls st0) rest (va_Ql post B A1 a) (vx_X px BX AX) free) (hS : va_S A0 H0 H locs) (hA : ∀ q, q < H.size → A1 q → A0 q) (hf : ∀ q, free q → A0 q) (hAX : ∀ q, q < H.size → AX q → A0 q)
    (kx : ∀ (E : String) (ce : Cell) (q9 : Addr) (u : SX) (t : State) (H1 : Heap) (locs1 : List Loc), t.heap = H1 → s.vm.Alike t.vm → px u → BX E u t → H.size ≤ H1.size → (∀ q : Nat, q < H.size → ¬ AX q → H1[q]? = H[q]?) → va_S A0 H0 H1 locs1 → H1[q9]? = some ce → ce.vm = .none → s.vm.findClass E = some ce.cls → vx_W p l e R s m args below meth c H1 locs1 (cells + mc) (slots + ms) Q (F0 m pc ls rest) q9)
    (kk : ∀ (r : Int64) (u : S) (t : State) (H1 : Heap) (locs1 : List Loc), t.heap = H1 → s.vm.Alike t.vm → post r u → B u t → H.size ≤ H1.size → (∀ q : Nat, q < H.size → ¬ A1 q → H1[q]? = H[q]?) → va_S A0 H0 H1 locs1 → W p l e R s m args below meth c H1 locs1 (cells + mc) (slots + ms) Q (F0 m (pc + 3) ls (.long r :: rest))) : W p l e R s m args below meth c H locs cells slots Q (F0 m pc ls st0) := by
  intro T hT X
  rcases hr T hT X with ⟨v, st₀, t, T', L, h0, X', hL, e1, e2, ⟨⟨r, u, hv, hp, hb⟩, hF⟩, st⟩ | ⟨q, st₀, t, T', L, E, ce, h0, X', hL, e1, e2, ⟨u, hp, hb, hF⟩, hce, hcv, hcl, st⟩
  · cases hv
    obtain ⟨k1, k2, k3⟩ := vx_keep h0 e1 hS hA hf hL hF
    obtain ⟨t2, a1, b1⟩ := kk r u t T'.heap (locs ++ L) e1.symm (by rw [← e2]; exact X'.warmed.alike) hp hb k1 k2 k3 T' rfl X'
    exact ⟨t2, st t2 a1, b1⟩
  · obtain ⟨k1, k2, k3⟩ := vx_keep h0 e1 hS hAX hf hL hF
    obtain ⟨t2, a1, b1⟩ := kx E ce q u t T'.heap (locs ++ L) e1.symm (by rw [← e2]; exact X'.warmed.alike) hp hb k1 k2 k3 (by rw [e1]; exact hce) hcv hcl T' rfl X'
    exact ⟨t2, st.trans a1, b1⟩
theorem vx_callf {S SX : Type} {post : UInt32 → S → Prop} {px : SX → Prop} {B : S → State → Prop} {BX : String → SX → State → Prop} {AX : Nat → Prop} (hr : vx_Run p l e R s m args below meth c H locs cells slots mc ms (F0 m pc ls st0) rest (va_Qf post B A1 a) (vx_X px BX AX) free) (hS : va_S A0 H0 H locs) (hA : ∀ q, q < H.size → A1 q → A0 q) (hf : ∀ q, free q → A0 q) (hAX : ∀ q, q < H.size → AX q → A0 q)
    (kx : ∀ (E : String) (ce : Cell) (q9 : Addr) (u : SX) (t : State) (H1 : Heap) (locs1 : List Loc), t.heap = H1 → s.vm.Alike t.vm → px u → BX E u t → H.size ≤ H1.size → (∀ q : Nat, q < H.size → ¬ AX q → H1[q]? = H[q]?) → va_S A0 H0 H1 locs1 → H1[q9]? = some ce → ce.vm = .none → s.vm.findClass E = some ce.cls → vx_W p l e R s m args below meth c H1 locs1 (cells + mc) (slots + ms) Q (F0 m pc ls rest) q9)
    (kk : ∀ (r : UInt32) (u : S) (t : State) (H1 : Heap) (locs1 : List Loc), t.heap = H1 → s.vm.Alike t.vm → post r u → B u t → H.size ≤ H1.size → (∀ q : Nat, q < H.size → ¬ A1 q → H1[q]? = H[q]?) → va_S A0 H0 H1 locs1 → W p l e R s m args below meth c H1 locs1 (cells + mc) (slots + ms) Q (F0 m (pc + 3) ls (.float r :: rest))) : W p l e R s m args below meth c H locs cells slots Q (F0 m pc ls st0) := by
  intro T hT X
  rcases hr T hT X with ⟨v, st₀, t, T', L, h0, X', hL, e1, e2, ⟨⟨r, u, hv, hp, hb⟩, hF⟩, st⟩ | ⟨q, st₀, t, T', L, E, ce, h0, X', hL, e1, e2, ⟨u, hp, hb, hF⟩, hce, hcv, hcl, st⟩
  · cases hv
    obtain ⟨k1, k2, k3⟩ := vx_keep h0 e1 hS hA hf hL hF
    obtain ⟨t2, a1, b1⟩ := kk r u t T'.heap (locs ++ L) e1.symm (by rw [← e2]; exact X'.warmed.alike) hp hb k1 k2 k3 T' rfl X'
    exact ⟨t2, st t2 a1, b1⟩
  · obtain ⟨k1, k2, k3⟩ := vx_keep h0 e1 hS hAX hf hL hF
    obtain ⟨t2, a1, b1⟩ := kx E ce q u t T'.heap (locs ++ L) e1.symm (by rw [← e2]; exact X'.warmed.alike) hp hb k1 k2 k3 (by rw [e1]; exact hce) hcv hcl T' rfl X'
    exact ⟨t2, st.trans a1, b1⟩
theorem vx_calld {S SX : Type} {post : UInt64 → S → Prop} {px : SX → Prop} {B : S → State → Prop} {BX : String → SX → State → Prop} {AX : Nat → Prop} (hr : vx_Run p l e R s m args below meth c H locs cells slots mc ms (F0 m pc ls st0) rest (va_Qd post B A1 a) (vx_X px BX AX) free) (hS : va_S A0 H0 H locs) (hA : ∀ q, q < H.size → A1 q → A0 q) (hf : ∀ q, free q → A0 q) (hAX : ∀ q, q < H.size → AX q → A0 q)
    (kx : ∀ (E : String) (ce : Cell) (q9 : Addr) (u : SX) (t : State) (H1 : Heap) (locs1 : List Loc), t.heap = H1 → s.vm.Alike t.vm → px u → BX E u t → H.size ≤ H1.size → (∀ q : Nat, q < H.size → ¬ AX q → H1[q]? = H[q]?) → va_S A0 H0 H1 locs1 → H1[q9]? = some ce → ce.vm = .none → s.vm.findClass E = some ce.cls → vx_W p l e R s m args below meth c H1 locs1 (cells + mc) (slots + ms) Q (F0 m pc ls rest) q9)
    (kk : ∀ (r : UInt64) (u : S) (t : State) (H1 : Heap) (locs1 : List Loc), t.heap = H1 → s.vm.Alike t.vm → post r u → B u t → H.size ≤ H1.size → (∀ q : Nat, q < H.size → ¬ A1 q → H1[q]? = H[q]?) → va_S A0 H0 H1 locs1 → W p l e R s m args below meth c H1 locs1 (cells + mc) (slots + ms) Q (F0 m (pc + 3) ls (.double r :: rest))) : W p l e R s m args below meth c H locs cells slots Q (F0 m pc ls st0) := by
  intro T hT X
  rcases hr T hT X with ⟨v, st₀, t, T', L, h0, X', hL, e1, e2, ⟨⟨r, u, hv, hp, hb⟩, hF⟩, st⟩ | ⟨q, st₀, t, T', L, E, ce, h0, X', hL, e1, e2, ⟨u, hp, hb, hF⟩, hce, hcv, hcl, st⟩
  · cases hv
    obtain ⟨k1, k2, k3⟩ := vx_keep h0 e1 hS hA hf hL hF
    obtain ⟨t2, a1, b1⟩ := kk r u t T'.heap (locs ++ L) e1.symm (by rw [← e2]; exact X'.warmed.alike) hp hb k1 k2 k3 T' rfl X'
    exact ⟨t2, st t2 a1, b1⟩
  · obtain ⟨k1, k2, k3⟩ := vx_keep h0 e1 hS hAX hf hL hF
    obtain ⟨t2, a1, b1⟩ := kx E ce q u t T'.heap (locs ++ L) e1.symm (by rw [← e2]; exact X'.warmed.alike) hp hb k1 k2 k3 (by rw [e1]; exact hce) hcv hcl T' rfl X'
    exact ⟨t2, st.trans a1, b1⟩
theorem vx_callv {S SX : Type} {post : S → Prop} {px : SX → Prop} {B : S → State → Prop} {BX : String → SX → State → Prop} {AX : Nat → Prop} (hr : vx_Run p l e R s m args below meth c H locs cells slots mc ms (F0 m pc ls st0) rest (va_Qv post B A1 a) (vx_X px BX AX) free) (hS : va_S A0 H0 H locs) (hA : ∀ q, q < H.size → A1 q → A0 q) (hf : ∀ q, free q → A0 q) (hAX : ∀ q, q < H.size → AX q → A0 q)
    (kx : ∀ (E : String) (ce : Cell) (q9 : Addr) (u : SX) (t : State) (H1 : Heap) (locs1 : List Loc), t.heap = H1 → s.vm.Alike t.vm → px u → BX E u t → H.size ≤ H1.size → (∀ q : Nat, q < H.size → ¬ AX q → H1[q]? = H[q]?) → va_S A0 H0 H1 locs1 → H1[q9]? = some ce → ce.vm = .none → s.vm.findClass E = some ce.cls → vx_W p l e R s m args below meth c H1 locs1 (cells + mc) (slots + ms) Q (F0 m pc ls rest) q9)
    (kk : ∀ (u : S) (t : State) (H1 : Heap) (locs1 : List Loc), t.heap = H1 → s.vm.Alike t.vm → post u → B u t → H.size ≤ H1.size → (∀ q : Nat, q < H.size → ¬ A1 q → H1[q]? = H[q]?) → va_S A0 H0 H1 locs1 → W p l e R s m args below meth c H1 locs1 (cells + mc) (slots + ms) Q (F0 m (pc + 3) ls (rest))) : W p l e R s m args below meth c H locs cells slots Q (F0 m pc ls st0) := by
  intro T hT X
  rcases hr T hT X with ⟨v, st₀, t, T', L, h0, X', hL, e1, e2, ⟨⟨u, hv, hp, hb⟩, hF⟩, st⟩ | ⟨q, st₀, t, T', L, E, ce, h0, X', hL, e1, e2, ⟨u, hp, hb, hF⟩, hce, hcv, hcl, st⟩
  · cases hv
    obtain ⟨k1, k2, k3⟩ := vx_keep h0 e1 hS hA hf hL hF
    obtain ⟨t2, a1, b1⟩ := kk u t T'.heap (locs ++ L) e1.symm (by rw [← e2]; exact X'.warmed.alike) hp hb k1 k2 k3 T' rfl X'
    exact ⟨t2, st t2 a1, b1⟩
  · obtain ⟨k1, k2, k3⟩ := vx_keep h0 e1 hS hAX hf hL hF
    obtain ⟨t2, a1, b1⟩ := kx E ce q u t T'.heap (locs ++ L) e1.symm (by rw [← e2]; exact X'.warmed.alike) hp hb k1 k2 k3 (by rw [e1]; exact hce) hcv hcl T' rfl X'
    exact ⟨t2, st.trans a1, b1⟩
end Rows
section Ends
variable {p : Program} {l : Launch} {e : Env} {R : Room} {s : State} {m : MethodId} {args : Array Value} {below : List Frame} {meth : Method} {c : Code} {H : Heap} {locs : List Loc} {cells slots : Nat} {Q : State → Prop}
variable {mc ms : Nat} {free : Addr → Prop} {A0 A1 : Nat → Prop} {H0 : Heap} {a : Array Value} {ls : Array Slot} {st0 rest : List Value}
variable {Qc : Array Value → State → Outcome → State → Prop} {XC : String → State → State → Prop}
def vx_MQ (below : List Frame) (Qc : Array Value → State → Outcome → State → Prop) (XC : String → State → State → Prop) (a : Array Value) (s : State) (mc ms : Nat) (free : Addr → Prop) : State → Prop := fun t =>
  ∃ o, t.status = .running ∧ Ended t below o ∧ vx_Q Qc XC mc ms free a s o t
theorem vx_ret {g : JFrame} {mc ms : Nat} (k : W p l e R s m args below meth c H locs cells slots (MQ below Qc args s mc ms free) g) : W p l e R s m args below meth c H locs cells slots (vx_MQ below Qc XC args s mc ms free) g := by
  intro T hT X
  obtain ⟨t, a1, o, b1, b2, b3, b4⟩ := k T hT X
  exact ⟨t, a1, o, b1, b2, Or.inl ⟨b3, b4⟩⟩
theorem vx_widen {g : JFrame} {q : Addr} {k n : Nat} (h1 : cells ≤ k) (h2 : slots ≤ n) (kk : vx_W p l e R s m args below meth c H locs k n Q g q) : vx_W p l e R s m args below meth c H locs cells slots Q g q := fun T hT X => kk T hT (stand_widen X h1 h2)
theorem vx_out {pc : Nat} {E : String} {ce : Cell} {q : Addr} {mc ms : Nat} (hout : ∀ x ∈ c.exceptionTable.toList, covers x pc = false) (hlocks : meth.locks = false) (hcell : H[q]? = some ce) (hv : ce.vm = .none) (hcl : s.vm.findClass E = some ce.cls)
    (hx : ∀ t : State, t.heap = H → s.vm.Alike t.vm → XC E s t) (hf : ∀ z ∈ locs, free z.base) (hc : cells ≤ mc) (hs : slots ≤ ms) :
    vx_W p l e R s m args below meth c H locs cells slots (vx_MQ below Qc XC args s mc ms free) (F0 m pc ls rest) q := by
  intro T hT X
  obtain ⟨st1, hrun, hend, hW, hsm⟩ := X.leaveThrown q (g := F0 m pc ls rest) rfl rfl rfl hout hlocks
  have hcell9 : (T.setFrames (.throwing q :: below)).heap[q]? = some ce := by
    show T.heap[q]? = some ce
    rw [hT]; exact hcell
  exact ⟨_, st1, .threw q, hrun, hend, Or.inr ⟨q, rfl, E, ce, locs, hx _ hT hW.alike, hcell9, hv, hcl, hW, hsm.mono hc hs, hf⟩⟩
theorem vx_frame {U : State} {k n : Nat} (h : s.sameButNew ({ U with vm := s.vm } : State) locs k n) : s.heap.size ≤ U.heap.size ∧ ∀ q : Nat, q < s.heap.size → (∀ z ∈ locs, z.base ≠ q) → U.heap[q]? = s.heap[q]? := by
  obtain ⟨-, h2, -, -, -, h6⟩ := h
  refine ⟨h2, fun q hq hz => ?_⟩
  obtain ⟨c9, e1, e2, e3, e4⟩ := h6 q _ (Array.getElem?_eq_getElem hq)
  have hs : c9.slots = (s.heap[q]).slots := Array.ext_getElem? fun i => e4 i fun hm => hz _ hm rfl
  have h9 : c9 = s.heap[q] := by
    rw [hs] at e2
    exact e2
  have e5 : U.heap[q]? = some c9 := e1
  rw [e5, h9, Array.getElem?_eq_getElem hq]
def vx_no (w : Cond) : Bool := decide (w ≠ .isRef (.static Bundle.tN "UNASSIGNED_STACK" Bundle.steD)) && decide (w ≠ .isRef (.static Bundle.tN "SUPPRESSED_SENTINEL" Bundle.listD)) && decide (w ≠ .laysStatic Bundle.tN "UNASSIGNED_STACK" Bundle.steD) && decide (w ≠ .laysStatic Bundle.tN "SUPPRESSED_SENTINEL" Bundle.listD)
def vx_at0 (own : String) (ic : Nat) (X : String) (names : List String) : List Cond := (Bundle.ownAtoms0 own ic X names).filter vx_no
def vx_atS (own : String) (ic : Nat) (X : String) (names : List String) : List Cond := (Bundle.ownAtoms own ic X names).filter vx_no
def vx_ot (w : Cond) : Bool := w.onTables || goodWord w
theorem vx_ot_at {args a' : Array Value} {s U : State} {w : Cond} (hW : s.WarmedH U.vm) (hvm : s.vm = U.vm) (hg : vx_ot w = true) (h : w.before args s = true) : w.before a' U = true := by
  simp only [vx_ot, Bool.or_eq_true] at hg
  rcases hg with hg | hg
  · exact va_tabs hg hvm h
  · exact word_at hW (good_of_word hg) h
theorem vx_hat {args : Array Value} {s : State} {L B : List Cond} (h1 : ∀ w ∈ L.filter goodWord, w.before args s = true) (h2 : ∀ w ∈ L.filter (fun w => !goodWord w), w ∈ B) (h3 : ∀ w ∈ B, w.before args s = true) : ∀ w ∈ L, w.before args s = true := by
  intro w hw
  by_cases g : goodWord w = true
  · exact h1 w (List.mem_filter.mpr ⟨hw, g⟩)
  · refine h3 w (h2 w (List.mem_filter.mpr ⟨hw, ?_⟩))
    show (!goodWord w) = true
    cases hgw : goodWord w
    · rfl
    · exact absurd hgw g
theorem vx_c {args : Array Value} {s : State} {w : Cond} {B : List Cond} (h : w.before args s = true) (t : ∀ w ∈ B, w.before args s = true) : ∀ w' ∈ w :: B, w'.before args s = true := fun w' h' => (List.mem_cons.mp h').elim (fun e => by rw [e]; exact h) (t w')
theorem vx_n {args : Array Value} {s : State} : ∀ w ∈ ([] : List Cond), w.before args s = true := fun _ h => nomatch h
theorem vx_own {args : Array Value} {s : State} {L : List Cond} (h1 : ∀ w ∈ L.filter vx_no, w.before args s = true)
    (hU : (Cond.isRef (.static Bundle.tN "UNASSIGNED_STACK" Bundle.steD)).before args s = true) (hN : (Cond.isRef (.static Bundle.tN "SUPPRESSED_SENTINEL" Bundle.listD)).before args s = true)
    (lU : (Cond.laysStatic Bundle.tN "UNASSIGNED_STACK" Bundle.steD).before args s = true) (lN : (Cond.laysStatic Bundle.tN "SUPPRESSED_SENTINEL" Bundle.listD).before args s = true) : ∀ w ∈ L, w.before args s = true := by
  intro w hw
  by_cases e1 : w = .isRef (.static Bundle.tN "UNASSIGNED_STACK" Bundle.steD)
  · rw [e1]; exact hU
  · by_cases e2 : w = .isRef (.static Bundle.tN "SUPPRESSED_SENTINEL" Bundle.listD)
    · rw [e2]; exact hN
    · by_cases e3 : w = .laysStatic Bundle.tN "UNASSIGNED_STACK" Bundle.steD
      · rw [e3]; exact lU
      · by_cases e4 : w = .laysStatic Bundle.tN "SUPPRESSED_SENTINEL" Bundle.listD
        · rw [e4]; exact lN
        · exact h1 w (List.mem_filter.mpr ⟨hw, by unfold vx_no; rw [decide_eq_true e1, decide_eq_true e2, decide_eq_true e3, decide_eq_true e4]; rfl⟩)
def vx_L (C n d : String) (A : Nat → Prop) (U : State) (H : Heap) : Prop := ∃ (c : ClassId) (k : Class) (i : Nat) (f : Field) (a : Nat) (cell : Cell), U.vm.findClass C = some c ∧ U.fieldFound? C n d = some (c, k, i, f) ∧ f.isStatic = true ∧ k.statics = some a ∧ H[a]? = some cell ∧ cell.vm.isStatics = true ∧ cell.cls = c ∧ f.slot < cell.slots.size ∧ k.staticTypes[f.slot]? = some f.type ∧ ¬ A a
theorem vx_L.moved {C n d : String} {A : Nat → Prop} {u U : State} {H : Heap} (hvm : u.vm.Alike U.vm) (h : vx_L C n d A u H) : vx_L C n d A U H := by
  obtain ⟨c, k, i, f, a, cell, h1, h2, h3, h4, h5, h6, h7, h8, h9, h10⟩ := h
  obtain ⟨k', hi', he⟩ := State.fieldFound?_setVm hvm h2
  exact ⟨c, k', i, f, a, cell, by rw [hvm.findClass]; exact h1, hi', h3, by rw [he]; exact h4, h5, h6, h7, h8, by rw [he]; exact h9, h10⟩
theorem vx_L.kept {C n d : String} {A : Nat → Prop} {U : State} {H H1 : Heap} (h : vx_L C n d A U H) (hq : ∀ a : Nat, a < H.size → ¬ A a → H1[a]? = H[a]?) : vx_L C n d A U H1 := by
  obtain ⟨c, k, i, f, a, cell, h1, h2, h3, h4, h5, h6, h7, h8, h9, h10⟩ := h
  exact ⟨c, k, i, f, a, cell, h1, h2, h3, h4, by rw [hq a (Array.getElem?_eq_some_iff.mp h5).1 h10]; exact h5, h6, h7, h8, h9, h10⟩
theorem vx_L.narrow {C n d : String} {A B : Nat → Prop} {U : State} {H : Heap} (h : vx_L C n d A U H) (hAB : ∀ q, B q → A q) : vx_L C n d B U H := by
  obtain ⟨c, k, i, f, a, cell, h1, h2, h3, h4, h5, h6, h7, h8, h9, h10⟩ := h
  exact ⟨c, k, i, f, a, cell, h1, h2, h3, h4, h5, h6, h7, h8, h9, fun z => h10 (hAB _ z)⟩
theorem vx_L.word {C n d : String} {A : Nat → Prop} {s : State} {args : Array Value} (h : vx_L C n d A s s.heap) : (Cond.laysStatic C n d).before args s = true := by
  obtain ⟨c, k, i, f, a, cell, h1, h2, h3, h4, h5, h6, h7, h8, h9, -⟩ := h
  show (Cond.laysStatic C n d).holds args s none s [] = true
  exact Cond.laysStatic_of h1 h2 h3 h4 h5 h6 h7 h8 h9
def vx_Zq (C n d : String) (A : Nat → Prop) (U : State) (H : Heap) : Prop := va_Zq C n d A U H ∧ vx_L C n d A U H
theorem vx_Zq.moved {C n d : String} {A : Nat → Prop} {u U : State} {H : Heap} (hvm : u.vm.Alike U.vm) (h : vx_Zq C n d A u H) : vx_Zq C n d A U H := ⟨va_Zq.moved hvm h.1, vx_L.moved hvm h.2⟩
theorem vx_Zq.kept {C n d : String} {A : Nat → Prop} {U : State} {H H1 : Heap} (h : vx_Zq C n d A U H) (hq : ∀ a : Nat, a < H.size → ¬ A a → H1[a]? = H[a]?) : vx_Zq C n d A U H1 := ⟨va_Zq.kept h.1 hq, vx_L.kept h.2 hq⟩
theorem vx_Zq.narrow {C n d : String} {A B : Nat → Prop} {U : State} {H : Heap} (h : vx_Zq C n d A U H) (hAB : ∀ q, B q → A q) : vx_Zq C n d B U H := ⟨va_Zq.narrow h.1 hAB, vx_L.narrow h.2 hAB⟩
theorem vx_Zqof {args : Array Value} {s : State} {C n d : String} {A : Nat → Prop} (hl : (Cond.laysStatic C n d).before args s = true) (hini : (Cond.initialized C).before args s = true) (h : (Cond.isRef (.static C n d)).before args s = true) (hA : ∀ a : Nat, a < s.heap.size → ¬ A a) : vx_Zq C n d A s s.heap := by
  refine ⟨va_Zqof hl hini h hA, ?_⟩
  obtain ⟨c, k, i, f, a, cell, h1, h2, h3, h4, h5, h6, h7, h8, h9⟩ := Cond.laysStatic_spec hl
  exact ⟨c, k, i, f, a, cell, h1, h2, h3, h4, h5, h6, h7, h8, h9, hA a (Array.getElem?_eq_some_iff.mp h5).1⟩
theorem vx_isRef {C n d : String} {v : Value} {A : Nat → Prop} {s : State} {args : Array Value} (h : va_Z C n d v A s s.heap) (hv : v.isRef = true) : (Cond.isRef (.static C n d)).before args s = true := by
  obtain ⟨cf, kf, fi, f, a, cell, h1, h2, h3, h4, h5, h6, h7, -⟩ := h
  have he : (Term.static C n d).eval args s none [] s = some v := by
    simp [Term.eval, State.fieldNamed?, h1, h2, h4, h5, h6, h7]
  simp only [Cond.before, Cond.holds, Cond.value, he]
  cases v <;> simp_all [Value.isRef]
theorem vx_isRefq {C n d : String} {A : Nat → Prop} {s : State} {args : Array Value} (h : va_Zq C n d A s s.heap) : (Cond.isRef (.static C n d)).before args s = true := by
  rcases h with h | ⟨t, h⟩
  · exact vx_isRef h rfl
  · exact vx_isRef h rfl
theorem vx_rebase {T : State} (X : Stand p l e R s m args below meth c T locs cells slots) {R' : Room} (hf : R'.frames ≤ R.frames) (hl : R'.locals ≤ R.locals) (hc : cells + R'.cells ≤ R.cells) (hs : slots + R'.slots ≤ R.slots) :
    Stand p l e R' ((T.setVm s.vm).setFrames (.invoking m args :: below)) m args below meth c T [] 0 0 := by
  have htop : (T.setVm s.vm).topJava?.isSome := X.here.top
  have hF : ((T.setVm s.vm).setFrames (.invoking m args :: below)).frames = .invoking m args :: below := State.frames_setFrames _ (State.cur_lt_of_top htop)
  obtain ⟨g₀, hg0⟩ := Option.isSome_iff_exists.mp htop
  obtain ⟨r, hr⟩ := State.topJava?_eq_some.mp hg0
  have hl9 : e.platform.stackLimits (T.setVm s.vm).me = e.platform.stackLimits s.me := X.limits
  have hb9 : (T.setVm s.vm).me.stackBytes = s.me.stackBytes := X.bytes
  refine ⟨X.admits, X.cas, X.clock, hF, ?_, X.hears, X.method, X.code, X.here, X.tail, X.warmed, ?_, ?_, ?_⟩
  · have h := X.room
    have hU : ((T.setVm s.vm).setFrames (.invoking m args :: below)).localsInUse = s.localsInUse := by
      rw [State.localsInUse_invoking hF (meth := meth) (c := c) X.method X.code, State.localsInUse_invoking X.frames X.method X.code]
    simp only [State.hasRoom, Bool.and_eq_true, decide_eq_true_eq] at h ⊢
    obtain ⟨⟨⟨⟨h1, h2, h3, h4, h5, h6⟩, h7⟩, h8⟩, h9⟩ := h
    rw [X.frames, List.length_cons] at h2 h3
    have q1 := X.heapSize
    have q2 := X.used
    simp only [hF, hU, List.length_cons, State.stackLimits_setFrames, State.stackBytes_setFrames, hl9, hb9]
    refine ⟨⟨⟨⟨by omega, by omega, by omega, by omega, by omega, h6⟩, ?_⟩, ?_⟩, X.book⟩
    · show T.heap.size + R'.cells ≤ e.platform.maxCells
      omega
    · show T.slotsUsed + R'.slots ≤ e.platform.maxSlots
      omega
  · rw [State.stackLimits_setFrames]; rfl
  · rw [State.stackBytes_setFrames]; rfl
  · refine ⟨?_, Nat.le_refl _, Nat.le_refl _, ?_, ?_, fun a c9 h9 => ⟨c9, h9, rfl, rfl, fun _ _ => rfl⟩⟩
    · obtain ⟨t, ht, -⟩ := State.frames_cons hr
      show T.setVm s.vm = { ((T.setVm s.vm).setFrames (.invoking m args :: below)).setFrames (T.setVm s.vm).frames with heap := T.heap, slotsUsed := T.slotsUsed }
      rw [State.setFrames_setFrames, State.setFrames_self ht]
      rfl
    · show T.slotsUsed = T.slotsUsed + ((T.heap.toList.drop T.heap.size).map (·.slots.size)).sum
      rw [List.drop_eq_nil_of_le (Nat.le_of_eq Array.length_toList)]
      rfl
    · show ((T.heap.toList.drop T.heap.size).map (·.slots.size)).sum ≤ 0
      rw [List.drop_eq_nil_of_le (Nat.le_of_eq Array.length_toList)]
      exact Nat.le_refl _
theorem vx_throw0 {cc : ByteArray} {pc : Nat} (hexec : p.tables.exec = Jvm.exec) (hb : c.code = cc) (hl : l.stackTraces = false) {own cls : String} {names : List String} {ik ic mc ms : Nat} {A : Nat → Prop}
    (hown : s.vm.findClass own = some m.cls) (hcls : Bundle.fit cls = true) (hnames : ∀ n ∈ names, Bundle.fit n = true)
    (hk : (Cond.classLink own ik cls).before args s = true) (hini : (Cond.initialized cls).before args s = true) (hat : ∀ w ∈ vx_at0 own ic cls names, w.before args s = true)
    (hgood : ∀ w ∈ Cond.classLink own ik cls :: Cond.initialized cls :: vx_at0 own ic cls names, vx_ot w = true)
    (hU : vx_Zq Bundle.tN "UNASSIGNED_STACK" Bundle.steD A s s.heap) (hN : vx_Zq Bundle.tN "SUPPRESSED_SENTINEL" Bundle.listD A s s.heap) (hS : va_S A s.heap H locs) (hsize : ls.size = c.maxLocals)
    (d0 : decode cc pc = .ok (.new ik, 3)) (d3 : decode cc (pc + 3) = .ok (.dup, 1)) (d4 : decode cc (pc + 4) = .ok (.invokespecial ic, 3)) (d7 : decode cc (pc + 7) = .ok (.athrow, 1))
    (hout : ∀ x ∈ c.exceptionTable.toList, covers x (pc + 7) = false)
    (hRframes : names.length + 3 < R.frames) (hRlocals : (rest.map fun v => v.category).sum + (13 * (names.length + 1) + 42) ≤ R.locals) (hRcells : cells + 1 ≤ R.cells) (hRslots : slots + 6 ≤ R.slots) (hlocks : meth.locks = false)
    (hx : ∀ t : State, s.vm.Alike t.vm → H.size ≤ t.heap.size → (∀ q : Nat, q < H.size → t.heap[q]? = H[q]?) → XC cls s t)
    (hf : ∀ z ∈ locs, free z.base) (hc : cells + 1 ≤ mc) (hs : slots + 6 ≤ ms) :
    W p l e R s m args below meth c H locs cells slots (vx_MQ below Qc XC args s mc ms free) (F0 m pc ls rest) := by
  intro T hT X
  have htr : e.platform.stackTraces = false := (show e.platform.stackTraces = l.stackTraces by rw [X.admits.platform]).trans hl
  have Y := vx_rebase X (R' := { frames := R.frames, locals := R.locals, cells := 1, slots := 6 }) (Nat.le_refl _) (Nat.le_refl _) hRcells hRslots
  obtain ⟨s', hA⟩ : ∃ z, z = (T.setVm s.vm).setFrames (.invoking m args :: below) := ⟨_, rfl⟩
  rw [← hA] at Y
  have hvm : s'.vm = s.vm := by rw [hA]; rfl
  have hhp : s'.heap = H := by rw [hA]; exact hT
  have hW0 : s.WarmedH s'.vm := by rw [hvm]; exact State.WarmedH.refl s
  have hat' : ∀ w ∈ vx_at0 own ic cls names, w.before args s' = true := fun w hw => vx_ot_at hW0 hvm.symm (hgood w (List.mem_cons_of_mem _ (List.mem_cons_of_mem _ hw))) (hat w hw)
  have hk' : (Cond.classLink own ik cls).before args s' = true := vx_ot_at hW0 hvm.symm (hgood _ List.mem_cons_self) hk
  have hini' : (Cond.initialized cls).before args s' = true := vx_ot_at hW0 hvm.symm (hgood _ (List.mem_cons_of_mem _ List.mem_cons_self)) hini
  have hU' : vx_Zq Bundle.tN "UNASSIGNED_STACK" Bundle.steD A s' s'.heap := by rw [hhp]; exact vx_Zq.moved hW0.alike (hU.kept hS.2.1)
  have hN' : vx_Zq Bundle.tN "SUPPRESSED_SENTINEL" Bundle.listD A s' s'.heap := by rw [hhp]; exact vx_Zq.moved hW0.alike (hN.kept hS.2.1)
  have h : ∀ w ∈ Bundle.ownAtoms0 own ic cls names, w.before args s' = true := vx_own hat' (vx_isRefq hU'.1) (vx_isRefq hN'.1) hU'.2.word hN'.2.word
  have hown' : s'.vm.findClass own = some m.cls := by rw [hvm]; exact hown
  have hins : (Cond.instantiable cls 6).before args s' = true := h _ (by simp [Bundle.ownAtoms0])
  obtain ⟨vm₁, cX, kX, hfX, hkX, -, -, X₁, st1⟩ := Y.newCold hexec (own := own) (C := cls) (index := ik) (n := 6) hown' hk' hins hini'
    (g := F0 m pc ls rest) rfl (by rw [hb]; exact d0) (Nat.le_refl _) (Nat.le_refl _)
  generalize hT1 : (T.setVm vm₁).pushCell { cls := cX, slots := kX.instanceTypes.map defaultValue, vm := .none } = T1 at X₁ st1
  have hcat : (Value.ref T.heap.size).category = 1 := rfl
  have hcellA : T1.heap[T.heap.size]? = some (freshCell cX kX) := by rw [← hT1]; exact State.heap_pushCell_size _ _
  have d3' : decode c.code (pc + 3) = .ok (.dup, 1) := by rw [hb]; exact d3
  obtain ⟨U, hsteps, hrun, hend, hW, hsame, ce, hce, hO⟩ := X₁.ctorThrow0 hexec htr (own := own) (cls := cls) (names := names) (ic := ic) hown' hcls hnames h (fun x hx => nomatch hx) hfX hkX hcellA (by rw [hhp, hT]; exact Nat.le_refl _)
    (g := { method := m, pc := pc + 4, locals := ls, stack := .ref T.heap.size :: .ref T.heap.size :: rest, locked := none }) rfl hsize rfl rfl (rest := rest) rfl
    (by rw [hb]; exact d4) (by rw [hb]; exact d7) hout hRframes (by simp only [List.map_cons, List.sum_cons, hcat]; omega) hlocks
  obtain ⟨f1, f2⟩ := vx_frame hsame
  rw [hhp] at f1 f2
  have hWs : s.WarmedH U.vm := State.WarmedH.trans hW0 hW
  have hcl : s.vm.findClass cls = some ce.cls := by
    have h9 := hO.cls
    rw [hvm] at h9
    exact h9
  have hall : s.sameButNew ({ U with vm := s.vm } : State) locs mc ms := by
    subst hA
    obtain ⟨e1, e2⟩ := hsame
    rw [State.setFrames_setFrames] at e1
    have h2 : (T.setVm s.vm).sameButNew ({ U with vm := s.vm } : State) [] (0 + 1) (0 + 6) := ⟨e1, e2⟩
    have h3 := X.same.trans h2
    rw [List.append_nil] at h3
    exact h3.mono hc hs
  refine ⟨U, ?_, .threw T.heap.size, hrun, hend, Or.inr ⟨T.heap.size, rfl, cls, ce, locs, hx U hWs.alike f1 (fun q hq => f2 q hq (fun z hz => nomatch hz)), hce, hO.vm, hcl, hWs, hall, hf⟩⟩
  refine st1 _ ?_
  show Steps p.tables e below (T1.setTop { method := m, pc := pc + 3, locals := ls, stack := .ref T.heap.size :: rest, locked := none }) _
  jvm_step X₁.here [X₁.here.top, hexec, d3', Value.category]
  exact hsteps
end Ends
section Bodies
variable {l : Launch}
theorem vx_ofW {y : MethodName} {ws ws' : List Cond} {rm : Room} {Pc : Array Value → State → Prop} {Qc : Array Value → State → Outcome → State → Prop} {XC : String → State → State → Prop} {mc ms : Nat} {free : Addr → Prop} {cc : ByteArray} {maxL : Nat} {ret : Option FieldType}
    (hy : plainName y.cls = true) (hw : ws = Cond.code y cc maxL ret :: ws')
    (body : ∀ p e s m args below meth c s₁, BodyLoose p l y (headSpec ws rm) cc maxL ret e s m args below meth c s₁ → c.maxLocals = maxL → (∀ x ∈ c.exceptionTable.toList, False) → Pc args s →
      W p l e (headSpec ws rm).room s m args below meth c s.heap [] 0 0 (vx_MQ below Qc XC args s mc ms free) (entryFrame m args maxL)) : vx_Met l y ws rm Pc Qc XC mc ms free := by
  refine MetFree.of_bodyS (code := cc) (maxLocals := maxL) (ret := ret) hy ?_ ?_
  · intro args s m h hn
    obtain ⟨meth, c, h1, h2, h3, h4, h5, h6, -, -⟩ := Cond.code_spec hn (atoms_spec (ws := ws) h _ (by rw [hw]; exact List.mem_cons_self))
    exact ⟨meth, c, h1, h2, h3, h4, h5, h6⟩
  · intro p e s m args below meth c s₁ B hml hP _
    have hh0 : s₁.heap = s.heap := by rw [B.state]; rfl
    have ht : ∀ x ∈ c.exceptionTable.toList, False := by
      obtain ⟨meth9, c9, h1, h2, -, -, -, -, h7, -⟩ := Cond.code_spec B.named (atoms_spec (ws := ws) B.pre _ (by rw [hw]; exact List.mem_cons_self))
      cases Option.some.inj (h1.symm.trans B.method)
      cases Option.some.inj (h2.symm.trans (Stand.of_body B).code)
      intro x hx
      rw [Array.isEmpty_iff.mp h7] at hx
      cases hx
    obtain ⟨t, a1, o, b1, b2, b3⟩ := body p e s m args below meth c s₁ B hml ht hP s₁ hh0 (Stand.of_body B)
    exact ⟨t, o, a1, b1, b2, b3⟩
theorem vx_table {p : Program} {x y : MethodName} {S : Spec} {cc bytes : ByteArray} {maxL maxL' : Nat} {ret ret' : Option FieldType} {e : Env} {s s₁ : State} {m : MethodId} {args : Array Value} {below : List Frame} {meth : Method} {c : Code} {hh : List (Nat × Nat × Nat × Nat)}
    (B : BodyLoose p l y S cc maxL ret e s m args below meth c s₁) (h : (Cond.codeWith y bytes maxL' ret' hh).before args s = true) : c.exceptionTable.toList = tableOf hh := by
  obtain ⟨m9, meth9, c9, hn9, h1, h2, -, -, h6, -⟩ := Cond.codeWith_spec h
  cases Option.some.inj (hn9.symm.trans B.named)
  cases Option.some.inj (h1.symm.trans B.method)
  cases Option.some.inj (h2.symm.trans (Stand.of_body B).code)
  rw [← h6, table_eq]
end Bodies
end VXA
section VXS
variable {p : Program} {l : Launch} {e : Env} {R : Room} {s : State} {m : MethodId} {args : Array Value} {below : List Frame} {meth : Method} {c : Code} {T : State} {H : Heap} {locs : List Loc} {cells slots : Nat}
abbrev vx_CSW (R : Room) (s : State) (args : Array Value) (own : String) (index : Nat) (y : MethodName) (bytes : ByteArray) (maxL : Nat) (ret : Option FieldType) (hh : List (Nat × Nat × Nat × Nat)) (ws : List Cond) (rm : Room) (mc ms n : Nat) : Prop :=
  (rm.cells = mc ∧ rm.slots = ms ∧ rm.frames + 1 ≤ R.frames ∧ 8 + (maxL + 11) + rm.locals ≤ R.locals ∧ (∀ w ∈ ws, ∀ (a' : Array Value) (U : State), s.WarmedH U.vm → w.before a' U = true) ∧ Cond.codeWith y bytes maxL ret hh ∈ ws) ∧
  (Cond.codeWith y bytes maxL ret hh).before args s = true ∧ (Cond.initialized y.cls).before args s = true ∧ (y.cls ≠ "java/lang/invoke/MethodHandle" ∧ y.cls ≠ "java/lang/invoke/VarHandle") ∧
  (∀ sig, parseMethodDescriptor y.desc = some sig → n = sig.parameters.length) ∧ (Cond.methodLink own index y).before args s = true ∧ (Cond.static y).before args s = true
theorem vx_cwSW {own : String} {index maxL mc ms : Nat} {y : MethodName} {bytes : ByteArray} {ret : Option FieldType} {hh : List (Nat × Nat × Nat × Nat)} {Ts ws ws' : List Cond} {rm : Room} (n : Nat) (ht : ∀ w ∈ Ts, w.before args s = true) (hT : GoodIn Ts (va_wsS own index y ws)) (hw : ws = Cond.codeWith y bytes maxL ret hh :: ws') (hrc : rm.cells = mc) (hrs : rm.slots = ms)
    (hd : y.cls ≠ "java/lang/invoke/MethodHandle" ∧ y.cls ≠ "java/lang/invoke/VarHandle" ∧ (parseMethodDescriptor y.desc).map (fun d => d.parameters.length) = some n) (hR : rm.frames + 1 ≤ R.frames ∧ 8 + (maxL + 11) + rm.locals ≤ R.locals) :
    vx_CSW R s args own index y bytes maxL ret hh ws rm mc ms n := by
  have ok : ∀ w ∈ va_wsS own index y ws, w.before args s = true := fun w h => ht w (hT w h).1
  have hG : GoodIn Ts ws := fun w h => hT w (by unfold va_wsS; exact List.mem_append_right _ h)
  have hc : Cond.codeWith y bytes maxL ret hh ∈ ws := by rw [hw]; exact List.mem_cons_self
  refine ⟨⟨hrc, hrs, hR.1, hR.2, pay_in ht hG, hc⟩, ht _ (hG _ hc).1, ok _ (by simp [va_wsS]), ⟨hd.1, hd.2.1⟩, fun sig h => ?_, ok _ (by simp [va_wsS]), ok _ (by simp [va_wsS])⟩
  have h2 := hd.2.2
  rw [h] at h2
  exact (Option.some.inj h2).symm
theorem vx_callSW (X : Stand p l e R s m args below meth c T locs cells slots) (hexec : p.tables.exec = Jvm.exec) {own : String} {index : Nat} {y : MethodName} {bytes : ByteArray} {maxL : Nat} {ret : Option FieldType} {hh : List (Nat × Nat × Nat × Nat)}
    (hown : s.vm.findClass own = some m.cls) (hlink : (Cond.methodLink own index y).before args s = true) (hstat : (Cond.static y).before args s = true) (hinit : (Cond.initialized y.cls).before args s = true)
    (hcode : (Cond.codeWith y bytes maxL ret hh).before args s = true) (hy : y.cls ≠ "java/lang/invoke/MethodHandle" ∧ y.cls ≠ "java/lang/invoke/VarHandle")
    {W9 : Nat} {Pre : Pt → Array Value → Prop} {Post : Pt → Array Value → Option Value → Pt → Prop} (hK : Back l R p e below s args y 3 W9 Pre Post)
    {g : JFrame} (hg : g.method = m) (hsize : g.locals.size = c.maxLocals) {argsL rest : List Value} (hlen : ∀ sig, parseMethodDescriptor y.desc = some sig → argsL.length = sig.parameters.length)
    (hstack : g.stack = argsL.reverse ++ rest) (hW : 2 * g.monitorRoom + (rest.map fun v => v.category).sum ≤ W9) (hdg : decode c.code g.pc = .ok (.invokestatic index, 3))
    (hpre : ∀ vm₁, s.WarmedH vm₁ → Pre ⟨T.setVm vm₁, locs, cells, slots⟩ argsL.toArray) :
    ∃ (v : Option Value) (vm₁ : Vm) (B : Pt), s.WarmedH vm₁ ∧ Stand p l e R s m args below meth c B.U B.locs B.cells B.slots ∧ Post ⟨T.setVm vm₁, locs, cells, slots⟩ argsL.toArray v B ∧
      ∀ target, Steps p.tables e below (B.U.setTop { g with pc := g.pc + 3, stack := v.toList ++ rest }) target → Steps p.tables e below (T.setTop g) target := by
  obtain ⟨mk, methM, cM, hnamed, hmethM, -, -, -, -, -, -, hsigM⟩ := Cond.codeWith_spec hcode
  have hstatic : methM.isStatic = true := Cond.static_spec hnamed hmethM hstat
  obtain ⟨kP, hkP, -⟩ := className_of_methodNamed hnamed
  have hinitP : kP.init = .initialized := Cond.initialized_spec (findClass_of_methodNamed hnamed) hkP hinit
  obtain ⟨vm₁, X₁, hstep₁⟩ := X.invokestatic hexec hown hlink hnamed hmethM hstatic hkP hinitP hy (g := g) hg (argsL := argsL) (rest := rest) (hlen _ hsigM) hstack hdg
  obtain ⟨v, B, X', hpost, hsteps⟩ := hK m meth c ⟨T.setVm vm₁, locs, cells, slots⟩ { g with stack := rest } (.invokestatic index) mk argsL.toArray X₁ hg hsize hdg hW (X₁.named hnamed) (hpre vm₁ X₁.warmed)
  exact ⟨v, vm₁, B, X₁.warmed, X', hpost, fun target h => hstep₁ _ fun acts => by rw [doInvoke_state]; exact hsteps.trans h⟩
theorem vx_runSW {y : MethodName} {bytes cc : ByteArray} {maxL nL mc ms n index : Nat} {ret : Option FieldType} {hh : List (Nat × Nat × Nat × Nat)} {ws : List Cond} {rm : Room} {Pc : Array Value → State → Prop} {Qc : Array Value → State → Outcome → State → Prop} {free : Addr → Prop} {Ts : List Cond} {own : String} {As rest : List Value} {g : JFrame}
    (S : CallFix p m c cc nL s args Ts own) (hM : Met l y ws rm Pc Qc mc ms free) (cw : vx_CSW R s args own index y bytes maxL ret hh ws rm mc ms n) (hp : PreS s H Pc As)
    (hg : g.method = m) (hn : As.length = n) (hsize : g.locals.size = nL) (hstack : g.stack = As.reverse ++ rest) (hW : 2 * g.monitorRoom + (rest.map fun v => v.category).sum ≤ 8) (hdg : decode cc g.pc = .ok (.invokestatic index, 3)) (hf : cells + mc ≤ R.cells ∧ slots + ms ≤ R.slots) :
    va_Run p l e R s m args below meth c H locs cells slots mc ms g rest (Qc As.toArray) (free) := by
  obtain ⟨⟨hrc, hrs, hfr, hlo, hws, hcw⟩, hcode, hini, hy, hlen, hl, hstt⟩ := cw
  have hK : Back l R p e below s args y 3 8 (PreOf R mc ms Pc) (PostOf Qc mc ms free) := va_backW (hh := hh) (bytes := bytes) (maxL := maxL) (ret := ret) hM hp.1 hrc hrs hfr hlo hws hcw (fun a' U hW => word_at hW (Or.inl (by first | rfl | simp [Cond.onTables, Cond.keeps, Cond.steady])) hini)
  obtain ⟨hx, hb, hml, ho, -⟩ := S
  intro T hT X
  obtain ⟨v, vm₁, ⟨U', l2, c2, s2⟩, hW₁, X', ⟨g', mk, t, L, e1, e2, hq, h1, hL, h2, h3⟩, st⟩ := vx_callSW X hx (hh := hh) (bytes := bytes) (maxL := maxL) (ret := ret) ho hl hstt hini hcode hy hK hg (hsize.trans hml.symm) (argsL := As) (rest := rest) (fun sig h => hn.trans (hlen sig h)) hstack hW (by rw [hb]; exact hdg)
    (fun vm₁ hW₁ => ⟨hf.1, hf.2, hp.2 (T.setVm vm₁) hT hW₁⟩)
  dsimp only [Pt.U, Pt.locs, Pt.cells, Pt.slots] at X' e1 e2 h1 h2 h3 st
  subst h1; subst h2; subst h3
  exact ⟨v, (T.setVm vm₁).calling g' mk As.toArray, t, U', L, hT, X', hL, e1, e2, hq, st⟩
theorem vx_lt {D : va_G} {cl : List vw_C} {ws : va_W} {H1 : Heap} (h : va_P D cl ws H1) {k : Nat} {q : Nat × va_E} (hk : ws[k]? = some q) : q.1 < H1.size := (h k q hk).lt
end VXS
section VXH
section
variable {l : Launch} {R : Room} {p : Program} {e : Env} {below : List Frame} {s : State} {sargs : Array Value} {y : MethodName} {len W9 : Nat}
theorem vx_backW {ws : List Cond} {rm : Room} {Pc : Array Value → State → Prop} {Qc : Array Value → State → Outcome → State → Prop} {XC : String → State → State → Prop} {mc ms : Nat} {free : Addr → Prop} {bytes : ByteArray} {maxL : Nat} {ret : Option FieldType} {hh : List (Nat × Nat × Nat × Nat)}
    (hM : vx_Met l y ws rm Pc Qc XC mc ms free) (hblind : FrameBlind Pc) (hrc : rm.cells = mc) (hrs : rm.slots = ms)
    (hframes : rm.frames + 1 ≤ R.frames) (hlocals : W9 + (maxL + 11) + rm.locals ≤ R.locals)
    (hws : ∀ w ∈ ws, ∀ a' U, s.WarmedH U.vm → w.before a' U = true) (hcode : Cond.codeWith y bytes maxL ret hh ∈ ws) (hinit : ∀ a' U, s.WarmedH U.vm → (Cond.initialized y.cls).before a' U = true) :
    vx_Back l R p e below s sargs y len W9 (PreOf R mc ms Pc) (PostOf Qc mc ms free) (vx_Post XC mc ms free) := by
  intro m meth c A g ig mk a X hg hsize hdg hW hn hp
  have h1 : (headSpec ws rm).pre.before a A.U = true := atoms_intro fun w hw => hws w hw _ _ X.warmed
  have h2 : (Cond.codeWith y bytes maxL ret hh).before a A.U = true := hws _ hcode _ _ X.warmed
  have h3 : (Cond.initialized y.cls).before a A.U = true := hinit _ _ X.warmed
  have h4 : A.cells + (headSpec ws rm).room.cells ≤ R.cells := by rw [show (headSpec ws rm).room.cells = mc from hrc]; exact hp.1
  have h5 : A.slots + (headSpec ws rm).room.slots ≤ R.slots := by rw [show (headSpec ws rm).room.slots = ms from hrs]; exact hp.2.1
  have hPc : Pc a (A.U.calling g mk a) := hblind _ _ _ _ hp.2.2
  obtain ⟨U, Ls, c0, s0⟩ := A
  dsimp only [Pt.U, Pt.locs, Pt.cells, Pt.slots] at h1 h2 h3 h4 h5 X hn hPc ⊢
  obtain ⟨m9, methY, cY, hn9, hmY, hcY, -, hlY, -⟩ := Cond.codeWith_spec h2
  cases Option.some.inj (hn9.symm.trans hn)
  obtain ⟨kY, hkY, -⟩ := className_of_methodNamed hn
  have hinitY : kY.init = .initialized := Cond.initialized_spec (findClass_of_methodNamed hn) hkY h3
  have h : At U g.method c below := by rw [hg]; exact X.here
  have hlocals9 : W9 + (maxL + 11) + (headSpec ws rm).room.locals ≤ R.locals := hlocals
  have happ : (headSpec ws rm).appliesLoose y e.platform (U.calling g mk a) = true :=
    Spec.appliesLoose_calling (g := g) h hdg hn hkY hinitY
      (X.room_calling (g := g) (R' := (headSpec ws rm).room) hsize hmY hcY hframes (by rw [hlY]; omega) h4 h5) h1
  obtain ⟨mid, hmid⟩ := h.above
  have hfr : (U.setTop g).frames = (.java g :: mid) ++ below := by rw [State.frames_setTop' g h.top, hmid]; rfl
  obtain ⟨o, s₂, hsteps, -, hend, hq⟩ := Steps.callFree hM p X.admits X.cas X.clock (acts := []) hfr happ hPc trivial
  have hq' : vx_Q Qc XC mc ms free a (U.calling g mk a) o s₂ := hq
  rw [State.frames_setTop' g h.top] at hend
  obtain ⟨g₀, hg0⟩ := Option.isSome_iff_exists.mp h.top
  obtain ⟨r, hr⟩ := State.topJava?_eq_some.mp hg0
  have hr' : (({ U with heap := s₂.heap, slotsUsed := s₂.slotsUsed } : State).setVm s₂.vm).frames = .java g₀ :: r := hr
  rcases hq' with ⟨hqc, L, hfe, hL⟩ | ⟨q, rfl, E, ce, L, hx, hce, hcv, hcl, hW₂, hsm, hL⟩
  · obtain ⟨⟨v, rfl⟩, hW₂, e2, q2, q3, q4, q5, q6⟩ := id hfe
    have e3 : s₂ = ({ (U.calling g mk a).setFrames s₂.frames with heap := s₂.heap, slotsUsed := s₂.slotsUsed } : State).setVm s₂.vm := by
      have : s₂ = ({ s₂ with vm := (U.calling g mk a).vm } : State).setVm s₂.vm := rfl
      rw [e2] at this
      exact this
    obtain ⟨c₂, i₂, len₂, hc₂, hd₂, hf₂⟩ := hend
    have hW' : U.WarmedH s₂.vm := hW₂
    have hcc : c₂ = c := by
      have h1 : s₂.code? g.method = U.code? g.method := by
        rw [State.code?_eq, State.code?_eq, hW'.alike.method?]
      exact Option.some.inj (hc₂.symm.trans (h1.trans h.code))
    subst hcc
    have hlen : len₂ = len := by rw [hdg] at hd₂; cases hd₂; rfl
    subst hlen
    have hs₂ : s₂ = (({ U with heap := s₂.heap, slotsUsed := s₂.slotsUsed } : State).setVm s₂.vm).setTop { g with pc := g.pc + len₂, stack := v.toList ++ g.stack } := by
      refine e3.trans ?_
      rw [hf₂, State.calling_eq h.top, State.setFrames_setFrames, State.setTop_of_frames _ hr', hr]
      rfl
    have hsame : U.sameButNew ({ U with heap := s₂.heap, slotsUsed := s₂.slotsUsed } : State) L mc ms := by
      refine ⟨?_, q2, q3, q4, q5, q6⟩
      obtain ⟨t, ht, -⟩ := State.frames_cons hr
      show ({ U with heap := s₂.heap, slotsUsed := s₂.slotsUsed } : State) = { U.setFrames U.frames with heap := s₂.heap, slotsUsed := s₂.slotsUsed }
      rw [State.setFrames_self ht]
    subst hg
    refine Or.inl ⟨v, ⟨(({ U with heap := s₂.heap, slotsUsed := s₂.slotsUsed } : State).setVm s₂.vm), Ls ++ L, c0 + mc, s0 + ms⟩,
      ⟨X.admits, X.cas, X.clock, X.frames, X.room, X.hears, X.method, X.code, (X.here.setHeapUsed s₂.heap s₂.slotsUsed).setVm hW'.alike, X.tail, State.WarmedH.trans X.warmed hW', X.limits, X.bytes, X.same.trans (hsame.setVm s.vm)⟩,
      ⟨g, mk, s₂, L, rfl, rfl, hqc, rfl, hL, rfl, rfl⟩, ?_⟩
    show Steps p.tables e below _ ((({ U with heap := s₂.heap, slotsUsed := s₂.slotsUsed } : State).setVm s₂.vm).setTop { g with pc := g.pc + len₂, stack := v.toList ++ g.stack })
    rw [← hs₂]
    exact hsteps
  · obtain ⟨e2, q2, q3, q4, q5, q6⟩ := id hsm
    have e3 : s₂ = ({ (U.calling g mk a).setFrames s₂.frames with heap := s₂.heap, slotsUsed := s₂.slotsUsed } : State).setVm s₂.vm := by
      have : s₂ = ({ s₂ with vm := (U.calling g mk a).vm } : State).setVm s₂.vm := rfl
      rw [e2] at this
      exact this
    have hf₂ : s₂.frames = .throwing q :: .java g :: U.frames.tail := hend
    have hW' : U.WarmedH s₂.vm := hW₂
    have hs₂ : s₂ = ((({ U with heap := s₂.heap, slotsUsed := s₂.slotsUsed } : State).setVm s₂.vm).setTop g).pushFrame (.throwing q) := by
      refine e3.trans ?_
      rw [hf₂, State.calling_eq h.top, State.setFrames_setFrames, State.pushFrame, State.frames_setTop _ hr', State.setTop_of_frames _ hr', State.setFrames_setFrames, hr]
      rfl
    have hsame : U.sameButNew ({ U with heap := s₂.heap, slotsUsed := s₂.slotsUsed } : State) L mc ms := by
      refine ⟨?_, q2, q3, q4, q5, q6⟩
      obtain ⟨t, ht, -⟩ := State.frames_cons hr
      show ({ U with heap := s₂.heap, slotsUsed := s₂.slotsUsed } : State) = { U.setFrames U.frames with heap := s₂.heap, slotsUsed := s₂.slotsUsed }
      rw [State.setFrames_self ht]
    subst hg
    refine Or.inr ⟨q, ⟨(({ U with heap := s₂.heap, slotsUsed := s₂.slotsUsed } : State).setVm s₂.vm), Ls ++ L, c0 + mc, s0 + ms⟩,
      ⟨X.admits, X.cas, X.clock, X.frames, X.room, X.hears, X.method, X.code, (X.here.setHeapUsed s₂.heap s₂.slotsUsed).setVm hW'.alike, X.tail, State.WarmedH.trans X.warmed hW', X.limits, X.bytes, X.same.trans (hsame.setVm s.vm)⟩,
      ⟨g, mk, s₂, L, E, ce, rfl, rfl, hx, hce, hcv, hcl, rfl, hL, rfl, rfl⟩, ?_⟩
    show Steps p.tables e below _ (((({ U with heap := s₂.heap, slotsUsed := s₂.slotsUsed } : State).setVm s₂.vm).setTop g).pushFrame (.throwing q))
    rw [← hs₂]
    exact hsteps
end
variable {p : Program} {l : Launch} {e : Env} {R : Room} {s : State} {m : MethodId} {args : Array Value} {below : List Frame} {meth : Method} {c : Code} {T : State} {H : Heap} {locs : List Loc} {cells slots : Nat}
theorem vx_callVX (X : Stand p l e R s m args below meth c T locs cells slots) (hexec : p.tables.exec = Jvm.exec) {own C : String} {index : Nat} {y : MethodName} {bytes : ByteArray} {maxL : Nat} {ret : Option FieldType} {hh : List (Nat × Nat × Nat × Nat)}
    (hown : s.vm.findClass own = some m.cls) (hlink : (Cond.methodLink own index y).before args s = true) (hinst : (Cond.instanceMethod y).before args s = true) (hsel : (Cond.selects C y y).before args s = true)
    (hcode : (Cond.codeWith y bytes maxL ret hh).before args s = true) (hy : y.cls ≠ "java/lang/invoke/MethodHandle" ∧ y.cls ≠ "java/lang/invoke/VarHandle")
    {W9 : Nat} {Pre : Pt → Array Value → Prop} {Post : Pt → Array Value → Option Value → Pt → Prop} {PostX : Pt → Array Value → Addr → Pt → Prop} (hK : vx_Back l R p e below s args y 3 W9 Pre Post PostX)
    {b : Addr} {cellB : Cell} (hcell : T.heap[b]? = some cellB) (hobj : cellB.vm.isStatics = false) (hcls : s.vm.findClass C = some cellB.cls)
    {g : JFrame} (hg : g.method = m) (hsize : g.locals.size = c.maxLocals) {argsL rest : List Value} (hlen : ∀ sig, parseMethodDescriptor y.desc = some sig → argsL.length = sig.parameters.length)
    (hstack : g.stack = argsL.reverse ++ .ref b :: rest) (hW : 2 * g.monitorRoom + (rest.map fun v => v.category).sum ≤ W9) (hdg : decode c.code g.pc = .ok (.invokevirtual index, 3))
    (hpre : ∀ vm₁, s.WarmedH vm₁ → Pre ⟨T.setVm vm₁, locs, cells, slots⟩ (Value.ref b :: argsL).toArray) :
    (∃ (v : Option Value) (vm₁ : Vm) (B : Pt), s.WarmedH vm₁ ∧ Stand p l e R s m args below meth c B.U B.locs B.cells B.slots ∧ Post ⟨T.setVm vm₁, locs, cells, slots⟩ (Value.ref b :: argsL).toArray v B ∧
      ∀ target, Steps p.tables e below (B.U.setTop { g with pc := g.pc + 3, stack := v.toList ++ rest }) target → Steps p.tables e below (T.setTop g) target) ∨
    (∃ (q : Addr) (vm₁ : Vm) (B : Pt), s.WarmedH vm₁ ∧ Stand p l e R s m args below meth c B.U B.locs B.cells B.slots ∧ PostX ⟨T.setVm vm₁, locs, cells, slots⟩ (Value.ref b :: argsL).toArray q B ∧
      Steps p.tables e below (T.setTop g) ((B.U.setTop { g with stack := rest }).pushFrame (.throwing q))) := by
  obtain ⟨mk, methM, hnamed, hmethM, hstM, habM⟩ := Cond.instanceMethod_spec hinst
  obtain ⟨m8, methM', cM, hn8, hmethM', -, -, -, -, -, -, hsigM⟩ := Cond.codeWith_spec hcode
  cases Option.some.inj (hn8.symm.trans hnamed)
  cases hmethM.symm.trans hmethM'
  obtain ⟨c2, r2, m2, q1, q2, q3, q4, kP, hkP, hkPi⟩ := Cond.selects_spec hsel
  cases hcls.symm.trans q1
  cases (State.methodFound?_of_named hnamed hy).symm.trans q2
  cases hnamed.symm.trans q3
  have hselP : selectMethod e.platform s.vm cellB.cls mk = .method mk := by rw [Launch.admits_selectMethod X.admits]; exact q4
  obtain ⟨vm₁, X₁, hstep₁⟩ := X.invokevirtual hexec hown hlink hnamed hmethM hstM hkP hkPi hy (a := b) (cell := cellB) hcell
    (fun z h => by rw [h] at hobj; cases hobj) hselP hmethM habM hkP hkPi (g := g) hg (argsL := argsL) (rest := rest) (hlen _ hsigM) hstack hdg
  rcases hK m meth c ⟨T.setVm vm₁, locs, cells, slots⟩ { g with stack := rest } (.invokevirtual index) mk (Value.ref b :: argsL).toArray X₁ hg hsize hdg hW (X₁.named hnamed) (hpre vm₁ X₁.warmed) with ⟨v, B, X', hpost, hsteps⟩ | ⟨q, B, X', hpost, hsteps⟩
  · exact Or.inl ⟨v, vm₁, B, X₁.warmed, X', hpost, fun target h => hstep₁ _ fun acts => by rw [doInvoke_state]; exact hsteps.trans h⟩
  · exact Or.inr ⟨q, vm₁, B, X₁.warmed, X', hpost, hstep₁ _ fun acts => by rw [doInvoke_state]; exact hsteps⟩
theorem vx_callSX (X : Stand p l e R s m args below meth c T locs cells slots) (hexec : p.tables.exec = Jvm.exec) {own : String} {index : Nat} {y : MethodName} {bytes : ByteArray} {maxL : Nat} {ret : Option FieldType} {hh : List (Nat × Nat × Nat × Nat)}
    (hown : s.vm.findClass own = some m.cls) (hlink : (Cond.methodLink own index y).before args s = true) (hstat : (Cond.static y).before args s = true) (hinit : (Cond.initialized y.cls).before args s = true)
    (hcode : (Cond.codeWith y bytes maxL ret hh).before args s = true) (hy : y.cls ≠ "java/lang/invoke/MethodHandle" ∧ y.cls ≠ "java/lang/invoke/VarHandle")
    {W9 : Nat} {Pre : Pt → Array Value → Prop} {Post : Pt → Array Value → Option Value → Pt → Prop} {PostX : Pt → Array Value → Addr → Pt → Prop} (hK : vx_Back l R p e below s args y 3 W9 Pre Post PostX)
    {g : JFrame} (hg : g.method = m) (hsize : g.locals.size = c.maxLocals) {argsL rest : List Value} (hlen : ∀ sig, parseMethodDescriptor y.desc = some sig → argsL.length = sig.parameters.length)
    (hstack : g.stack = argsL.reverse ++ rest) (hW : 2 * g.monitorRoom + (rest.map fun v => v.category).sum ≤ W9) (hdg : decode c.code g.pc = .ok (.invokestatic index, 3))
    (hpre : ∀ vm₁, s.WarmedH vm₁ → Pre ⟨T.setVm vm₁, locs, cells, slots⟩ argsL.toArray) :
    (∃ (v : Option Value) (vm₁ : Vm) (B : Pt), s.WarmedH vm₁ ∧ Stand p l e R s m args below meth c B.U B.locs B.cells B.slots ∧ Post ⟨T.setVm vm₁, locs, cells, slots⟩ argsL.toArray v B ∧
      ∀ target, Steps p.tables e below (B.U.setTop { g with pc := g.pc + 3, stack := v.toList ++ rest }) target → Steps p.tables e below (T.setTop g) target) ∨
    (∃ (q : Addr) (vm₁ : Vm) (B : Pt), s.WarmedH vm₁ ∧ Stand p l e R s m args below meth c B.U B.locs B.cells B.slots ∧ PostX ⟨T.setVm vm₁, locs, cells, slots⟩ argsL.toArray q B ∧
      Steps p.tables e below (T.setTop g) ((B.U.setTop { g with stack := rest }).pushFrame (.throwing q))) := by
  obtain ⟨mk, methM, cM, hnamed, hmethM, -, -, -, -, -, -, hsigM⟩ := Cond.codeWith_spec hcode
  have hstatic : methM.isStatic = true := Cond.static_spec hnamed hmethM hstat
  obtain ⟨kP, hkP, -⟩ := className_of_methodNamed hnamed
  have hinitP : kP.init = .initialized := Cond.initialized_spec (findClass_of_methodNamed hnamed) hkP hinit
  obtain ⟨vm₁, X₁, hstep₁⟩ := X.invokestatic hexec hown hlink hnamed hmethM hstatic hkP hinitP hy (g := g) hg (argsL := argsL) (rest := rest) (hlen _ hsigM) hstack hdg
  rcases hK m meth c ⟨T.setVm vm₁, locs, cells, slots⟩ { g with stack := rest } (.invokestatic index) mk argsL.toArray X₁ hg hsize hdg hW (X₁.named hnamed) (hpre vm₁ X₁.warmed) with ⟨v, B, X', hpost, hsteps⟩ | ⟨q, B, X', hpost, hsteps⟩
  · exact Or.inl ⟨v, vm₁, B, X₁.warmed, X', hpost, fun target h => hstep₁ _ fun acts => by rw [doInvoke_state]; exact hsteps.trans h⟩
  · exact Or.inr ⟨q, vm₁, B, X₁.warmed, X', hpost, hstep₁ _ fun acts => by rw [doInvoke_state]; exact hsteps⟩
theorem vx_callVW (X : Stand p l e R s m args below meth c T locs cells slots) (hexec : p.tables.exec = Jvm.exec) {own C : String} {index : Nat} {y : MethodName} {bytes : ByteArray} {maxL : Nat} {ret : Option FieldType} {hh : List (Nat × Nat × Nat × Nat)}
    (hown : s.vm.findClass own = some m.cls) (hlink : (Cond.methodLink own index y).before args s = true) (hinst : (Cond.instanceMethod y).before args s = true) (hsel : (Cond.selects C y y).before args s = true)
    (hcode : (Cond.codeWith y bytes maxL ret hh).before args s = true) (hy : y.cls ≠ "java/lang/invoke/MethodHandle" ∧ y.cls ≠ "java/lang/invoke/VarHandle")
    {W9 : Nat} {Pre : Pt → Array Value → Prop} {Post : Pt → Array Value → Option Value → Pt → Prop} (hK : Back l R p e below s args y 3 W9 Pre Post)
    {b : Addr} {cellB : Cell} (hcell : T.heap[b]? = some cellB) (hobj : cellB.vm.isStatics = false) (hcls : s.vm.findClass C = some cellB.cls)
    {g : JFrame} (hg : g.method = m) (hsize : g.locals.size = c.maxLocals) {argsL rest : List Value} (hlen : ∀ sig, parseMethodDescriptor y.desc = some sig → argsL.length = sig.parameters.length)
    (hstack : g.stack = argsL.reverse ++ .ref b :: rest) (hW : 2 * g.monitorRoom + (rest.map fun v => v.category).sum ≤ W9) (hdg : decode c.code g.pc = .ok (.invokevirtual index, 3))
    (hpre : ∀ vm₁, s.WarmedH vm₁ → Pre ⟨T.setVm vm₁, locs, cells, slots⟩ (Value.ref b :: argsL).toArray) :
    ∃ (v : Option Value) (vm₁ : Vm) (B : Pt), s.WarmedH vm₁ ∧ Stand p l e R s m args below meth c B.U B.locs B.cells B.slots ∧ Post ⟨T.setVm vm₁, locs, cells, slots⟩ (Value.ref b :: argsL).toArray v B ∧
      ∀ target, Steps p.tables e below (B.U.setTop { g with pc := g.pc + 3, stack := v.toList ++ rest }) target → Steps p.tables e below (T.setTop g) target := by
  obtain ⟨mk, methM, hnamed, hmethM, hstM, habM⟩ := Cond.instanceMethod_spec hinst
  obtain ⟨m8, methM', cM, hn8, hmethM', -, -, -, -, -, -, hsigM⟩ := Cond.codeWith_spec hcode
  cases Option.some.inj (hn8.symm.trans hnamed)
  cases hmethM.symm.trans hmethM'
  obtain ⟨c2, r2, m2, q1, q2, q3, q4, kP, hkP, hkPi⟩ := Cond.selects_spec hsel
  cases hcls.symm.trans q1
  cases (State.methodFound?_of_named hnamed hy).symm.trans q2
  cases hnamed.symm.trans q3
  have hselP : selectMethod e.platform s.vm cellB.cls mk = .method mk := by rw [Launch.admits_selectMethod X.admits]; exact q4
  obtain ⟨vm₁, X₁, hstep₁⟩ := X.invokevirtual hexec hown hlink hnamed hmethM hstM hkP hkPi hy (a := b) (cell := cellB) hcell
    (fun z h => by rw [h] at hobj; cases hobj) hselP hmethM habM hkP hkPi (g := g) hg (argsL := argsL) (rest := rest) (hlen _ hsigM) hstack hdg
  obtain ⟨v, B, X', hpost, hsteps⟩ := hK m meth c ⟨T.setVm vm₁, locs, cells, slots⟩ { g with stack := rest } (.invokevirtual index) mk (Value.ref b :: argsL).toArray X₁ hg hsize hdg hW (X₁.named hnamed) (hpre vm₁ X₁.warmed)
  exact ⟨v, vm₁, B, X₁.warmed, X', hpost, fun target h => hstep₁ _ fun acts => by rw [doInvoke_state]; exact hsteps.trans h⟩
abbrev vx_CVW (R : Room) (s : State) (args : Array Value) (own C : String) (index : Nat) (y : MethodName) (bytes : ByteArray) (maxL : Nat) (ret : Option FieldType) (hh : List (Nat × Nat × Nat × Nat)) (ws : List Cond) (rm : Room) (mc ms n : Nat) : Prop :=
  (rm.cells = mc ∧ rm.slots = ms ∧ rm.frames + 1 ≤ R.frames ∧ 8 + (maxL + 11) + rm.locals ≤ R.locals ∧ (∀ w ∈ ws, ∀ (a' : Array Value) (U : State), s.WarmedH U.vm → w.before a' U = true) ∧ Cond.codeWith y bytes maxL ret hh ∈ ws) ∧
  (Cond.codeWith y bytes maxL ret hh).before args s = true ∧ (Cond.initialized y.cls).before args s = true ∧ (y.cls ≠ "java/lang/invoke/MethodHandle" ∧ y.cls ≠ "java/lang/invoke/VarHandle") ∧
  (∀ sig, parseMethodDescriptor y.desc = some sig → n = sig.parameters.length) ∧ (Cond.methodLink own index y).before args s = true ∧ (Cond.instanceMethod y).before args s = true ∧ (Cond.selects C y y).before args s = true
theorem vx_cwVW {own C : String} {index maxL mc ms : Nat} {y : MethodName} {bytes : ByteArray} {ret : Option FieldType} {hh : List (Nat × Nat × Nat × Nat)} {Ts ws ws' : List Cond} {rm : Room} (n : Nat) (ht : ∀ w ∈ Ts, w.before args s = true) (hT : GoodIn Ts (wsV own index C y ws)) (hw : ws = Cond.codeWith y bytes maxL ret hh :: ws') (hrc : rm.cells = mc) (hrs : rm.slots = ms)
    (hd : y.cls = C ∧ y.cls ≠ "java/lang/invoke/MethodHandle" ∧ y.cls ≠ "java/lang/invoke/VarHandle" ∧ (parseMethodDescriptor y.desc).map (fun d => d.parameters.length) = some n) (hR : rm.frames + 1 ≤ R.frames ∧ 8 + (maxL + 11) + rm.locals ≤ R.locals) :
    vx_CVW R s args own C index y bytes maxL ret hh ws rm mc ms n := by
  obtain ⟨hC, hd⟩ := hd
  subst hC
  have ok : ∀ w ∈ wsV own index y.cls y ws, w.before args s = true := fun w h => ht w (hT w h).1
  have hG : GoodIn Ts ws := fun w h => hT w (by unfold wsV; exact List.mem_append_right _ h)
  have hc : Cond.codeWith y bytes maxL ret hh ∈ ws := by rw [hw]; exact List.mem_cons_self
  refine ⟨⟨hrc, hrs, hR.1, hR.2, pay_in ht hG, hc⟩, ht _ (hG _ hc).1, ok _ (by simp [wsV]), ⟨hd.1, hd.2.1⟩, fun sig h => ?_, ok _ (by simp [wsV]), ok _ (by simp [wsV]), ok _ (by simp [wsV])⟩
  have h2 := hd.2.2
  rw [h] at h2
  exact (Option.some.inj h2).symm
theorem vx_runVW {y : MethodName} {bytes cc : ByteArray} {maxL nL mc ms n index : Nat} {ret : Option FieldType} {hh : List (Nat × Nat × Nat × Nat)} {ws : List Cond} {rm : Room} {Pc : Array Value → State → Prop} {Qc : Array Value → State → Outcome → State → Prop} {free : Addr → Prop} {Ts : List Cond} {own C : String} {b : Addr} {As rest : List Value} {g : JFrame}
    (S : CallFix p m c cc nL s args Ts own) (hM : Met l y ws rm Pc Qc mc ms free) (cw : vx_CVW R s args own C index y bytes maxL ret hh ws rm mc ms n) (hp : PreV s H C b Pc As)
    (hg : g.method = m) (hn : As.length = n) (hsize : g.locals.size = nL) (hstack : g.stack = As.reverse ++ .ref b :: rest) (hW : 2 * g.monitorRoom + (rest.map fun v => v.category).sum ≤ 8) (hdg : decode cc g.pc = .ok (.invokevirtual index, 3)) (hf : cells + mc ≤ R.cells ∧ slots + ms ≤ R.slots) :
    va_Run p l e R s m args below meth c H locs cells slots mc ms g rest (Qc (Value.ref b :: As).toArray) free := by
  obtain ⟨⟨hrc, hrs, hfr, hlo, hws, hcw⟩, hcode, hini, hy, hlen, hl, hin, hse⟩ := cw
  have hK : Back l R p e below s args y 3 8 (PreOf R mc ms Pc) (PostOf Qc mc ms free) := va_backW (hh := hh) (bytes := bytes) (maxL := maxL) (ret := ret) hM hp.1 hrc hrs hfr hlo hws hcw (fun a' U hW => word_at hW (Or.inl (by first | rfl | simp [Cond.onTables, Cond.keeps, Cond.steady])) hini)
  obtain ⟨hx, hb, hml, ho, -⟩ := S
  obtain ⟨-, ⟨cellB, hcB, hoB, hclB⟩, hPc⟩ := hp
  intro T hT X
  obtain ⟨v, vm₁, ⟨U', l2, c2, s2⟩, hW₁, X', ⟨g', mk, t, L, e1, e2, hq, h1, hL, h2, h3⟩, st⟩ := vx_callVW X hx (C := C) (hh := hh) (bytes := bytes) (maxL := maxL) (ret := ret) ho hl hin hse hcode hy hK (by rw [hT]; exact hcB) hoB hclB hg (hsize.trans hml.symm) (argsL := As) (rest := rest) (fun sig h => hn.trans (hlen sig h)) hstack hW (by rw [hb]; exact hdg)
    (fun vm₁ hW₁ => ⟨hf.1, hf.2, hPc (T.setVm vm₁) hT hW₁⟩)
  dsimp only [Pt.U, Pt.locs, Pt.cells, Pt.slots] at X' e1 e2 h1 h2 h3 st
  subst h1; subst h2; subst h3
  exact ⟨v, (T.setVm vm₁).calling g' mk (Value.ref b :: As).toArray, t, U', L, hT, X', hL, e1, e2, hq, st⟩
section
variable {y : MethodName} {bytes cc : ByteArray} {maxL nL mc ms n index : Nat} {ret : Option FieldType} {ws : List Cond} {rm : Room} {Pc : Array Value → State → Prop} {Qc : Array Value → State → Outcome → State → Prop} {XC : String → State → State → Prop} {free : Addr → Prop} {Ts : List Cond} {own C : String} {b : Addr} {As rest : List Value} {g : JFrame}
theorem vx_runVX {hh : List (Nat × Nat × Nat × Nat)} (S : CallFix p m c cc nL s args Ts own) (hM : vx_Met l y ws rm Pc Qc XC mc ms free) (cw : vx_CVW R s args own C index y bytes maxL ret hh ws rm mc ms n) (hp : PreV s H C b Pc As)
    (hg : g.method = m) (hn : As.length = n) (hsize : g.locals.size = nL) (hstack : g.stack = As.reverse ++ .ref b :: rest) (hW : 2 * g.monitorRoom + (rest.map fun v => v.category).sum ≤ 8) (hdg : decode cc g.pc = .ok (.invokevirtual index, 3)) (hf : cells + mc ≤ R.cells ∧ slots + ms ≤ R.slots) :
    vx_Run p l e R s m args below meth c H locs cells slots mc ms g rest (Qc (Value.ref b :: As).toArray) XC free := by
  obtain ⟨⟨hrc, hrs, hfr, hlo, hws, hcw⟩, hcode, hini, hy, hlen, hl, hin, hse⟩ := cw
  have hK : vx_Back l R p e below s args y 3 8 (PreOf R mc ms Pc) (PostOf Qc mc ms free) (vx_Post XC mc ms free) := vx_backW (hh := hh) (bytes := bytes) (maxL := maxL) (ret := ret) hM hp.1 hrc hrs hfr hlo hws hcw (fun a' U hW => word_at hW (Or.inl (by first | rfl | simp [Cond.onTables, Cond.keeps, Cond.steady])) hini)
  obtain ⟨hx, hb, hml, ho, -⟩ := S
  obtain ⟨-, ⟨cellB, hcB, hoB, hclB⟩, hPc⟩ := hp
  intro T hT X
  rcases vx_callVX X hx (C := C) (hh := hh) (bytes := bytes) (maxL := maxL) (ret := ret) ho hl hin hse hcode hy hK (by rw [hT]; exact hcB) hoB hclB hg (hsize.trans hml.symm) (argsL := As) (rest := rest) (fun sig h => hn.trans (hlen sig h)) hstack hW (by rw [hb]; exact hdg)
    (fun vm₁ hW₁ => ⟨hf.1, hf.2, hPc (T.setVm vm₁) hT hW₁⟩) with ⟨v, vm₁, ⟨U', l2, c2, s2⟩, hW₁, X', ⟨g', mk, t, L, e1, e2, hq, h1, hL, h2, h3⟩, st⟩ | ⟨q, vm₁, ⟨U', l2, c2, s2⟩, hW₁, X', ⟨g', mk, t, L, E, ce, e1, e2, hq, hce, hcv, hcl, h1, hL, h2, h3⟩, st⟩
  · dsimp only [Pt.U, Pt.locs, Pt.cells, Pt.slots] at X' e1 e2 h1 h2 h3 st
    subst h1; subst h2; subst h3
    exact Or.inl ⟨v, (T.setVm vm₁).calling g' mk (Value.ref b :: As).toArray, t, U', L, hT, X', hL, e1, e2, hq, st⟩
  · dsimp only [Pt.U, Pt.locs, Pt.cells, Pt.slots] at X' e1 e2 h1 h2 h3 st hcl
    subst h1; subst h2; subst h3
    exact Or.inr ⟨q, (T.setVm vm₁).calling g' mk (Value.ref b :: As).toArray, t, U', L, E, ce, hT, X', hL, e1, e2, hq, hce, hcv, vx_cls hW₁ hcl, st⟩
theorem vx_runSX {hh : List (Nat × Nat × Nat × Nat)} (S : CallFix p m c cc nL s args Ts own) (hM : vx_Met l y ws rm Pc Qc XC mc ms free) (cw : vx_CSW R s args own index y bytes maxL ret hh ws rm mc ms n) (hp : PreS s H Pc As)
    (hg : g.method = m) (hn : As.length = n) (hsize : g.locals.size = nL) (hstack : g.stack = As.reverse ++ rest) (hW : 2 * g.monitorRoom + (rest.map fun v => v.category).sum ≤ 8) (hdg : decode cc g.pc = .ok (.invokestatic index, 3)) (hf : cells + mc ≤ R.cells ∧ slots + ms ≤ R.slots) :
    vx_Run p l e R s m args below meth c H locs cells slots mc ms g rest (Qc As.toArray) XC free := by
  obtain ⟨⟨hrc, hrs, hfr, hlo, hws, hcw⟩, hcode, hini, hy, hlen, hl, hstt⟩ := cw
  have hK : vx_Back l R p e below s args y 3 8 (PreOf R mc ms Pc) (PostOf Qc mc ms free) (vx_Post XC mc ms free) := vx_backW (hh := hh) (bytes := bytes) (maxL := maxL) (ret := ret) hM hp.1 hrc hrs hfr hlo hws hcw (fun a' U hW => word_at hW (Or.inl (by first | rfl | simp [Cond.onTables, Cond.keeps, Cond.steady])) hini)
  obtain ⟨hx, hb, hml, ho, -⟩ := S
  intro T hT X
  rcases vx_callSX X hx (hh := hh) (bytes := bytes) (maxL := maxL) (ret := ret) ho hl hstt hini hcode hy hK hg (hsize.trans hml.symm) (argsL := As) (rest := rest) (fun sig h => hn.trans (hlen sig h)) hstack hW (by rw [hb]; exact hdg)
    (fun vm₁ hW₁ => ⟨hf.1, hf.2, hp.2 (T.setVm vm₁) hT hW₁⟩) with ⟨v, vm₁, ⟨U', l2, c2, s2⟩, hW₁, X', ⟨g', mk, t, L, e1, e2, hq, h1, hL, h2, h3⟩, st⟩ | ⟨q, vm₁, ⟨U', l2, c2, s2⟩, hW₁, X', ⟨g', mk, t, L, E, ce, e1, e2, hq, hce, hcv, hcl, h1, hL, h2, h3⟩, st⟩
  · dsimp only [Pt.U, Pt.locs, Pt.cells, Pt.slots] at X' e1 e2 h1 h2 h3 st
    subst h1; subst h2; subst h3
    exact Or.inl ⟨v, (T.setVm vm₁).calling g' mk As.toArray, t, U', L, hT, X', hL, e1, e2, hq, st⟩
  · dsimp only [Pt.U, Pt.locs, Pt.cells, Pt.slots] at X' e1 e2 h1 h2 h3 st hcl
    subst h1; subst h2; subst h3
    exact Or.inr ⟨q, (T.setVm vm₁).calling g' mk As.toArray, t, U', L, E, ce, hT, X', hL, e1, e2, hq, hce, hcv, vx_cls hW₁ hcl, st⟩
end
end VXH
theorem vx_ofWH {l : Launch} {y : MethodName} {ws ws' : List Cond} {rm : Room} {Pc : Array Value → State → Prop} {Qc : Array Value → State → Outcome → State → Prop} {XC : String → State → State → Prop} {mc ms : Nat} {free : Addr → Prop} {cc : ByteArray} {maxL : Nat} {ret : Option FieldType} {hh : List (Nat × Nat × Nat × Nat)}
    (hy : plainName y.cls = true) (hw : ws = Cond.codeWith y cc maxL ret hh :: ws')
    (body : ∀ p e s m args below meth c s₁, BodyLoose p l y (headSpec ws rm) cc maxL ret e s m args below meth c s₁ → c.maxLocals = maxL → Pc args s →
      W p l e (headSpec ws rm).room s m args below meth c s.heap [] 0 0 (vx_MQ below Qc XC args s mc ms free) (entryFrame m args maxL)) : vx_Met l y ws rm Pc Qc XC mc ms free := by
  refine MetFree.of_bodyS (code := cc) (maxLocals := maxL) (ret := ret) hy ?_ ?_
  · intro args s m h hn
    obtain ⟨m9, meth, c, hn9, h1, h2, h3, h4, -, h5, h6, -⟩ := Cond.codeWith_spec (atoms_spec (ws := ws) h _ (by rw [hw]; exact List.mem_cons_self))
    cases hn.symm.trans hn9
    exact ⟨meth, c, h1, h2, h3, h4, h5, h6⟩
  · intro p e s m args below meth c s₁ B hml hP _
    have hh0 : s₁.heap = s.heap := by rw [B.state]; rfl
    obtain ⟨t, a1, o, b1, b2, b3⟩ := body p e s m args below meth c s₁ B hml hP s₁ hh0 (Stand.of_body B)
    exact ⟨t, o, a1, b1, b2, b3⟩
end
section
def RX0 : String := "RemoteReach$Fabric"
def TX0 : u_T := fun k => match k with
  | 0 => ("RemoteReach$Fabric", "rows", "[LRemoteReach$Packet;", true)
  | 1 => ("RemoteReach$Fabric", "count", "I", false)
  | 2 => ("RemoteReach$Fabric", "taken", "LRemoteReach$Packet;", false)
  | _ => ("RemoteReach$Fabric", "lost", "LRemoteReach$Packet;", true)
def tyX0 : Nat → FieldType := fun k => match k with
  | 0 => .array (.object "RemoteReach$Packet")
  | 1 => .int
  | 2 => .object "RemoteReach$Packet"
  | _ => .object "RemoteReach$Packet"
abbrev wsX00 : List Cond := u_ws RX0 TX0 4
theorem nmX0 : ∀ a, a < 4 → ∀ b, b < 4 → a ≠ b → (TX0 a).2.1 ≠ (TX0 b).2.1 := by decide +kernel
theorem tyX0_ok : ∀ k, k < 4 → parseFieldDescriptor (TX0 k).2.2.1 = some (tyX0 k) := by decide +kernel
abbrev cX0_init : ByteArray := prog_2_method_1_code
def yX0_init : MethodName := ⟨RX0, "<init>", "()V"⟩
abbrev cX0_has : ByteArray := prog_2_method_2_code
def yX0_has : MethodName := ⟨RX0, "has", "(I)Z"⟩
abbrev cX0_isFull : ByteArray := prog_2_method_3_code
def yX0_isFull : MethodName := ⟨RX0, "isFull", "()Z"⟩
abbrev cX0_carry : ByteArray := prog_2_method_4_code
def yX0_carry : MethodName := ⟨RX0, "carry", "(III)LRemoteReach$Packet;"⟩
abbrev cX0_takeOut : ByteArray := prog_2_method_5_code
def yX0_takeOut : MethodName := ⟨RX0, "takeOut", "(I)LRemoteReach$Packet;"⟩
abbrev cX0_copyToEnd : ByteArray := prog_2_method_6_code
def yX0_copyToEnd : MethodName := ⟨RX0, "copyToEnd", "(I)V"⟩
def RX1 : String := "RemoteReach$Node"
def TX1 : u_T := fun k => match k with
  | 0 => ("RemoteReach$Node", "cells", "[I", true)
  | 1 => ("RemoteReach$Node", "regions", "[LRemoteReach$Region;", true)
  | 2 => ("RemoteReach$Node", "ring", "[I", true)
  | 3 => ("RemoteReach$Node", "head", "I", false)
  | _ => ("RemoteReach$Node", "completed", "I", false)
def tyX1 : Nat → FieldType := fun k => match k with
  | 0 => .array .int
  | 1 => .array (.object "RemoteReach$Region")
  | 2 => .array .int
  | 3 => .int
  | _ => .int
abbrev wsX10 : List Cond := u_ws RX1 TX1 5
theorem nmX1 : ∀ a, a < 5 → ∀ b, b < 5 → a ≠ b → (TX1 a).2.1 ≠ (TX1 b).2.1 := by decide +kernel
theorem tyX1_ok : ∀ k, k < 5 → parseFieldDescriptor (TX1 k).2.2.1 = some (tyX1 k) := by decide +kernel
abbrev cX1_init : ByteArray := prog_3_method_1_code
def yX1_init : MethodName := ⟨RX1, "<init>", "()V"⟩
abbrev cX1_at : ByteArray := prog_3_method_2_code
def yX1_at : MethodName := ⟨RX1, "at", "(I)I"⟩
abbrev cX1_put : ByteArray := prog_3_method_3_code
def yX1_put : MethodName := ⟨RX1, "put", "(II)V"⟩
abbrev cX1_allows : ByteArray := prog_3_method_4_code
def yX1_allows : MethodName := ⟨RX1, "allows", "(IIII)Z"⟩
abbrev cX1_complete : ByteArray := prog_3_method_5_code
def yX1_complete : MethodName := ⟨RX1, "complete", "(ILRemoteReach$Posted;I)V"⟩
abbrev cX1_tellFirst : ByteArray := prog_3_method_6_code
def yX1_tellFirst : MethodName := ⟨RX1, "tellFirst", "(I)I"⟩
abbrev cX1_dropFirst : ByteArray := prog_3_method_7_code
def yX1_dropFirst : MethodName := ⟨RX1, "dropFirst", "()V"⟩
def RX2 : String := "RemoteReach$Packet"
def TX2 : u_T := fun k => match k with
  | 0 => ("RemoteReach$Packet", "pair", "I", false)
  | 1 => ("RemoteReach$Packet", "kind", "I", false)
  | 2 => ("RemoteReach$Packet", "number", "I", false)
  | 3 => ("RemoteReach$Packet", "count", "I", false)
  | 4 => ("RemoteReach$Packet", "mark", "I", false)
  | 5 => ("RemoteReach$Packet", "place", "I", false)
  | 6 => ("RemoteReach$Packet", "value", "I", false)
  | _ => ("RemoteReach$Packet", "cells", "[I", true)
def tyX2 : Nat → FieldType := fun k => match k with
  | 0 => .int
  | 1 => .int
  | 2 => .int
  | 3 => .int
  | 4 => .int
  | 5 => .int
  | 6 => .int
  | _ => .array .int
abbrev wsX20 : List Cond := u_ws RX2 TX2 8
theorem nmX2 : ∀ a, a < 8 → ∀ b, b < 8 → a ≠ b → (TX2 a).2.1 ≠ (TX2 b).2.1 := by decide +kernel
theorem tyX2_ok : ∀ k, k < 8 → parseFieldDescriptor (TX2 k).2.2.1 = some (tyX2 k) := by decide +kernel
abbrev cX2_init : ByteArray := prog_4_method_1_code
def yX2_init : MethodName := ⟨RX2, "<init>", "()V"⟩
abbrev cX2_become : ByteArray := prog_4_method_2_code
def yX2_become : MethodName := ⟨RX2, "become", "(III)V"⟩
abbrev cX2_becomeLike : ByteArray := prog_4_method_3_code
def yX2_becomeLike : MethodName := ⟨RX2, "becomeLike", "(LRemoteReach$Packet;)V"⟩
abbrev cX2_load : ByteArray := prog_4_method_4_code
def yX2_load : MethodName := ⟨RX2, "load", "(LRemoteReach$Node;II)V"⟩
abbrev cX2_unload : ByteArray := prog_4_method_5_code
def yX2_unload : MethodName := ⟨RX2, "unload", "(LRemoteReach$Node;II)V"⟩
abbrev cX2_isFirst : ByteArray := prog_4_method_6_code
def yX2_isFirst : MethodName := ⟨RX2, "isFirst", "()Z"⟩
abbrev cX2_isLast : ByteArray := prog_4_method_7_code
def yX2_isLast : MethodName := ⟨RX2, "isLast", "()Z"⟩
abbrev cX2_isAllowed : ByteArray := prog_4_method_8_code
def yX2_isAllowed : MethodName := ⟨RX2, "isAllowed", "(LRemoteReach$Node;)Z"⟩
abbrev cX2_tell : ByteArray := prog_4_method_9_code
def yX2_tell : MethodName := ⟨RX2, "tell", "(I)I"⟩
def RX3 : String := "RemoteReach$Pair"
def TX3 : u_T := fun k => match k with
  | 0 => ("RemoteReach$Pair", "requester", "LRemoteReach$Requester;", true)
  | 1 => ("RemoteReach$Pair", "responder", "LRemoteReach$Responder;", true)
  | _ => ("RemoteReach$Pair", "state", "I", false)
def tyX3 : Nat → FieldType := fun k => match k with
  | 0 => .object "RemoteReach$Requester"
  | 1 => .object "RemoteReach$Responder"
  | _ => .int
abbrev wsX30 : List Cond := u_ws RX3 TX3 3
theorem nmX3 : ∀ a, a < 3 → ∀ b, b < 3 → a ≠ b → (TX3 a).2.1 ≠ (TX3 b).2.1 := by decide +kernel
theorem tyX3_ok : ∀ k, k < 3 → parseFieldDescriptor (TX3 k).2.2.1 = some (tyX3 k) := by decide +kernel
abbrev cX3_init : ByteArray := prog_5_method_1_code
def yX3_init : MethodName := ⟨RX3, "<init>", "(LRemoteReach$Requester;LRemoteReach$Responder;)V"⟩
abbrev cX3_clear : ByteArray := prog_5_method_2_code
def yX3_clear : MethodName := ⟨RX3, "clear", "()V"⟩
abbrev cX3_start : ByteArray := prog_5_method_3_code
def yX3_start : MethodName := ⟨RX3, "start", "(II)V"⟩
abbrev cX3_takesRequests : ByteArray := prog_5_method_4_code
def yX3_takesRequests : MethodName := ⟨RX3, "takesRequests", "()Z"⟩
abbrev cX3_takesReceives : ByteArray := prog_5_method_5_code
def yX3_takesReceives : MethodName := ⟨RX3, "takesReceives", "()Z"⟩
abbrev cX3_takeIn : ByteArray := prog_5_method_6_code
def yX3_takeIn : MethodName := ⟨RX3, "takeIn", "(LRemoteReach$Packet;)V"⟩
abbrev cX3_failsByTime : ByteArray := prog_5_method_7_code
def yX3_failsByTime : MethodName := ⟨RX3, "failsByTime", "()Z"⟩
abbrev cX3_fail : ByteArray := prog_5_method_8_code
def yX3_fail : MethodName := ⟨RX3, "fail", "(II)V"⟩
abbrev cX3_tell : ByteArray := prog_5_method_9_code
def yX3_tell : MethodName := ⟨RX3, "tell", "(I)I"⟩
def RX4 : String := "RemoteReach$Posted"
def TX4 : u_T := fun k => match k with
  | 0 => ("RemoteReach$Posted", "kind", "I", false)
  | 1 => ("RemoteReach$Posted", "serial", "I", false)
  | 2 => ("RemoteReach$Posted", "here", "I", false)
  | 3 => ("RemoteReach$Posted", "n", "I", false)
  | 4 => ("RemoteReach$Posted", "first", "I", false)
  | 5 => ("RemoteReach$Posted", "numbers", "I", false)
  | 6 => ("RemoteReach$Posted", "region", "I", false)
  | 7 => ("RemoteReach$Posted", "place", "I", false)
  | 8 => ("RemoteReach$Posted", "value", "I", false)
  | _ => ("RemoteReach$Posted", "came", "I", false)
def tyX4 : Nat → FieldType := fun k => match k with
  | 0 => .int
  | 1 => .int
  | 2 => .int
  | 3 => .int
  | 4 => .int
  | 5 => .int
  | 6 => .int
  | 7 => .int
  | 8 => .int
  | _ => .int
abbrev wsX40 : List Cond := u_ws RX4 TX4 10
theorem nmX4 : ∀ a, a < 10 → ∀ b, b < 10 → a ≠ b → (TX4 a).2.1 ≠ (TX4 b).2.1 := by decide +kernel
theorem tyX4_ok : ∀ k, k < 10 → parseFieldDescriptor (TX4 k).2.2.1 = some (tyX4 k) := by decide +kernel
abbrev cX4_init : ByteArray := prog_6_method_1_code
def yX4_init : MethodName := ⟨RX4, "<init>", "()V"⟩
abbrev cX4_cellsOf : ByteArray := prog_6_method_2_code
def yX4_cellsOf : MethodName := ⟨RX4, "cellsOf", "(I)I"⟩
abbrev cX4_isLastNumber : ByteArray := prog_6_method_3_code
def yX4_isLastNumber : MethodName := ⟨RX4, "isLastNumber", "(I)Z"⟩
abbrev cX4_awaitsReply : ByteArray := prog_6_method_4_code
def yX4_awaitsReply : MethodName := ⟨RX4, "awaitsReply", "()Z"⟩
def RX5 : String := "RemoteReach$Queue"
def TX5 : u_T := fun k => match k with
  | 0 => ("RemoteReach$Queue", "pair", "I", true)
  | 1 => ("RemoteReach$Queue", "node", "LRemoteReach$Node;", true)
  | 2 => ("RemoteReach$Queue", "rows", "[LRemoteReach$Posted;", true)
  | 3 => ("RemoteReach$Queue", "head", "I", false)
  | 4 => ("RemoteReach$Queue", "count", "I", false)
  | _ => ("RemoteReach$Queue", "serials", "I", false)
def tyX5 : Nat → FieldType := fun k => match k with
  | 0 => .int
  | 1 => .object "RemoteReach$Node"
  | 2 => .array (.object "RemoteReach$Posted")
  | 3 => .int
  | 4 => .int
  | _ => .int
abbrev wsX50 : List Cond := u_ws RX5 TX5 6
theorem nmX5 : ∀ a, a < 6 → ∀ b, b < 6 → a ≠ b → (TX5 a).2.1 ≠ (TX5 b).2.1 := by decide +kernel
theorem tyX5_ok : ∀ k, k < 6 → parseFieldDescriptor (TX5 k).2.2.1 = some (tyX5 k) := by decide +kernel
abbrev cX5_init : ByteArray := prog_7_method_1_code
def yX5_init : MethodName := ⟨RX5, "<init>", "(ILRemoteReach$Node;)V"⟩
abbrev cX5_clear : ByteArray := prog_7_method_2_code
def yX5_clear : MethodName := ⟨RX5, "clear", "()V"⟩
abbrev cX5_isFull : ByteArray := prog_7_method_3_code
def yX5_isFull : MethodName := ⟨RX5, "isFull", "()Z"⟩
abbrev cX5_at : ByteArray := prog_7_method_4_code
def yX5_at : MethodName := ⟨RX5, "at", "(I)LRemoteReach$Posted;"⟩
abbrev cX5_append : ByteArray := prog_7_method_5_code
def yX5_append : MethodName := ⟨RX5, "append", "(III)LRemoteReach$Posted;"⟩
abbrev cX5_completeFirst : ByteArray := prog_7_method_6_code
def yX5_completeFirst : MethodName := ⟨RX5, "completeFirst", "(I)V"⟩
abbrev cX5_completeAll : ByteArray := prog_7_method_7_code
def yX5_completeAll : MethodName := ⟨RX5, "completeAll", "(I)V"⟩
def RX6 : String := "RemoteReach$Region"
def TX6 : u_T := fun k => match k with
  | 0 => ("RemoteReach$Region", "base", "I", false)
  | 1 => ("RemoteReach$Region", "length", "I", false)
  | _ => ("RemoteReach$Region", "rights", "I", false)
def tyX6 : Nat → FieldType := fun k => match k with
  | 0 => .int
  | 1 => .int
  | _ => .int
abbrev wsX60 : List Cond := u_ws RX6 TX6 3
theorem nmX6 : ∀ a, a < 3 → ∀ b, b < 3 → a ≠ b → (TX6 a).2.1 ≠ (TX6 b).2.1 := by decide +kernel
theorem tyX6_ok : ∀ k, k < 3 → parseFieldDescriptor (TX6 k).2.2.1 = some (tyX6 k) := by decide +kernel
abbrev cX6_init : ByteArray := prog_8_method_1_code
def yX6_init : MethodName := ⟨RX6, "<init>", "()V"⟩
abbrev cX6_become : ByteArray := prog_8_method_2_code
def yX6_become : MethodName := ⟨RX6, "become", "(III)V"⟩
abbrev cX6_allows : ByteArray := prog_8_method_3_code
def yX6_allows : MethodName := ⟨RX6, "allows", "(III)Z"⟩
def RX7 : String := "RemoteReach$Requester"
def TX7 : u_T := fun k => match k with
  | 0 => ("RemoteReach$Requester", "peer", "I", true)
  | 1 => ("RemoteReach$Requester", "node", "LRemoteReach$Node;", true)
  | 2 => ("RemoteReach$Requester", "fabric", "LRemoteReach$Fabric;", true)
  | 3 => ("RemoteReach$Requester", "timeout", "I", true)
  | 4 => ("RemoteReach$Requester", "mostTries", "I", true)
  | 5 => ("RemoteReach$Requester", "mostRefusals", "I", true)
  | 6 => ("RemoteReach$Requester", "requests", "LRemoteReach$Queue;", true)
  | 7 => ("RemoteReach$Requester", "next", "I", false)
  | 8 => ("RemoteReach$Requester", "oldest", "I", false)
  | 9 => ("RemoteReach$Requester", "cursor", "I", false)
  | 10 => ("RemoteReach$Requester", "clock", "I", false)
  | 11 => ("RemoteReach$Requester", "tries", "I", false)
  | 12 => ("RemoteReach$Requester", "refusals", "I", false)
  | _ => ("RemoteReach$Requester", "resting", "Z", false)
def tyX7 : Nat → FieldType := fun k => match k with
  | 0 => .int
  | 1 => .object "RemoteReach$Node"
  | 2 => .object "RemoteReach$Fabric"
  | 3 => .int
  | 4 => .int
  | 5 => .int
  | 6 => .object "RemoteReach$Queue"
  | 7 => .int
  | 8 => .int
  | 9 => .int
  | 10 => .int
  | 11 => .int
  | 12 => .int
  | _ => .boolean
abbrev wsX70 : List Cond := u_ws RX7 TX7 14
theorem nmX7 : ∀ a, a < 14 → ∀ b, b < 14 → a ≠ b → (TX7 a).2.1 ≠ (TX7 b).2.1 := by decide +kernel
theorem tyX7_ok : ∀ k, k < 14 → parseFieldDescriptor (TX7 k).2.2.1 = some (tyX7 k) := by decide +kernel
abbrev cX7_init : ByteArray := prog_9_method_1_code
def yX7_init : MethodName := ⟨RX7, "<init>", "(ILRemoteReach$Node;LRemoteReach$Fabric;III)V"⟩
abbrev cX7_clear : ByteArray := prog_9_method_2_code
def yX7_clear : MethodName := ⟨RX7, "clear", "()V"⟩
abbrev cX7_start : ByteArray := prog_9_method_3_code
def yX7_start : MethodName := ⟨RX7, "start", "(I)V"⟩
abbrev cX7_post : ByteArray := prog_9_method_4_code
def yX7_post : MethodName := ⟨RX7, "post", "(IIIIII)I"⟩
abbrev cX7_ownerOf : ByteArray := prog_9_method_5_code
def yX7_ownerOf : MethodName := ⟨RX7, "ownerOf", "(I)I"⟩
abbrev cX7_sendNext : ByteArray := prog_9_method_6_code
def yX7_sendNext : MethodName := ⟨RX7, "sendNext", "()I"⟩
abbrev cX7_sendPart : ByteArray := prog_9_method_7_code
def yX7_sendPart : MethodName := ⟨RX7, "sendPart", "(LRemoteReach$Posted;I)V"⟩
abbrev cX7_isOpen : ByteArray := prog_9_method_8_code
def yX7_isOpen : MethodName := ⟨RX7, "isOpen", "(I)Z"⟩
abbrev cX7_takeAck : ByteArray := prog_9_method_9_code
def yX7_takeAck : MethodName := ⟨RX7, "takeAck", "(I)V"⟩
abbrev cX7_awaitsReply : ByteArray := prog_9_method_10_code
def yX7_awaitsReply : MethodName := ⟨RX7, "awaitsReply", "(I)Z"⟩
abbrev cX7_takeReply : ByteArray := prog_9_method_11_code
def yX7_takeReply : MethodName := ⟨RX7, "takeReply", "(LRemoteReach$Packet;)V"⟩
abbrev cX7_takeNak : ByteArray := prog_9_method_12_code
def yX7_takeNak : MethodName := ⟨RX7, "takeNak", "(II)I"⟩
abbrev cX7_rest : ByteArray := prog_9_method_13_code
def yX7_rest : MethodName := ⟨RX7, "rest", "()I"⟩
abbrev cX7_answer : ByteArray := prog_9_method_14_code
def yX7_answer : MethodName := ⟨RX7, "answer", "(I)V"⟩
abbrev cX7_firstIsAnswered : ByteArray := prog_9_method_15_code
def yX7_firstIsAnswered : MethodName := ⟨RX7, "firstIsAnswered", "()Z"⟩
abbrev cX7_waitsTooLong : ByteArray := prog_9_method_16_code
def yX7_waitsTooLong : MethodName := ⟨RX7, "waitsTooLong", "()Z"⟩
def RX8 : String := "RemoteReach$Responder"
def TX8 : u_T := fun k => match k with
  | 0 => ("RemoteReach$Responder", "peer", "I", true)
  | 1 => ("RemoteReach$Responder", "node", "LRemoteReach$Node;", true)
  | 2 => ("RemoteReach$Responder", "fabric", "LRemoteReach$Fabric;", true)
  | 3 => ("RemoteReach$Responder", "receives", "LRemoteReach$Queue;", true)
  | 4 => ("RemoteReach$Responder", "expected", "I", false)
  | 5 => ("RemoteReach$Responder", "begun", "Z", false)
  | 6 => ("RemoteReach$Responder", "sequenceTold", "Z", false)
  | 7 => ("RemoteReach$Responder", "addNumbers", "[I", true)
  | _ => ("RemoteReach$Responder", "addReplies", "[I", true)
def tyX8 : Nat → FieldType := fun k => match k with
  | 0 => .int
  | 1 => .object "RemoteReach$Node"
  | 2 => .object "RemoteReach$Fabric"
  | 3 => .object "RemoteReach$Queue"
  | 4 => .int
  | 5 => .boolean
  | 6 => .boolean
  | 7 => .array .int
  | _ => .array .int
abbrev wsX80 : List Cond := u_ws RX8 TX8 9
theorem nmX8 : ∀ a, a < 9 → ∀ b, b < 9 → a ≠ b → (TX8 a).2.1 ≠ (TX8 b).2.1 := by decide +kernel
theorem tyX8_ok : ∀ k, k < 9 → parseFieldDescriptor (TX8 k).2.2.1 = some (tyX8 k) := by decide +kernel
abbrev cX8_init : ByteArray := prog_10_method_1_code
def yX8_init : MethodName := ⟨RX8, "<init>", "(ILRemoteReach$Node;LRemoteReach$Fabric;)V"⟩
abbrev cX8_clear : ByteArray := prog_10_method_2_code
def yX8_clear : MethodName := ⟨RX8, "clear", "()V"⟩
abbrev cX8_forgetAdds : ByteArray := prog_10_method_3_code
def yX8_forgetAdds : MethodName := ⟨RX8, "forgetAdds", "()V"⟩
abbrev cX8_takeIn : ByteArray := prog_10_method_4_code
def yX8_takeIn : MethodName := ⟨RX8, "takeIn", "(LRemoteReach$Packet;)I"⟩
abbrev cX8_tellSequence : ByteArray := prog_10_method_5_code
def yX8_tellSequence : MethodName := ⟨RX8, "tellSequence", "()V"⟩
abbrev cX8_answerAgain : ByteArray := prog_10_method_6_code
def yX8_answerAgain : MethodName := ⟨RX8, "answerAgain", "(LRemoteReach$Packet;)V"⟩
abbrev cX8_keptAdd : ByteArray := prog_10_method_7_code
def yX8_keptAdd : MethodName := ⟨RX8, "keptAdd", "(I)I"⟩
abbrev cX8_takeSend : ByteArray := prog_10_method_8_code
def yX8_takeSend : MethodName := ⟨RX8, "takeSend", "(LRemoteReach$Packet;)I"⟩
abbrev cX8_takeReach : ByteArray := prog_10_method_9_code
def yX8_takeReach : MethodName := ⟨RX8, "takeReach", "(LRemoteReach$Packet;)I"⟩
abbrev cX8_growCell : ByteArray := prog_10_method_10_code
def yX8_growCell : MethodName := ⟨RX8, "growCell", "(LRemoteReach$Packet;)I"⟩
abbrev cX8_advance : ByteArray := prog_10_method_11_code
def yX8_advance : MethodName := ⟨RX8, "advance", "(I)V"⟩
abbrev cX8_replyCells : ByteArray := prog_10_method_12_code
def yX8_replyCells : MethodName := ⟨RX8, "replyCells", "(LRemoteReach$Packet;)V"⟩
abbrev cX8_replyOne : ByteArray := prog_10_method_13_code
def yX8_replyOne : MethodName := ⟨RX8, "replyOne", "(II)V"⟩
abbrev cX8_acknowledge : ByteArray := prog_10_method_14_code
def yX8_acknowledge : MethodName := ⟨RX8, "acknowledge", "(I)V"⟩
abbrev cX8_refuse : ByteArray := prog_10_method_15_code
def yX8_refuse : MethodName := ⟨RX8, "refuse", "(II)V"⟩
abbrev cX8_completeAll : ByteArray := prog_10_method_16_code
def yX8_completeAll : MethodName := ⟨RX8, "completeAll", "(I)V"⟩
def RX9 : String := "RemoteReach"
def TX9 : u_T := fun k => match k with
  | 0 => ("RemoteReach", "nodes", "[LRemoteReach$Node;", true)
  | 1 => ("RemoteReach", "pairs", "[LRemoteReach$Pair;", true)
  | _ => ("RemoteReach", "fabric", "LRemoteReach$Fabric;", true)
def tyX9 : Nat → FieldType := fun k => match k with
  | 0 => .array (.object "RemoteReach$Node")
  | 1 => .array (.object "RemoteReach$Pair")
  | _ => .object "RemoteReach$Fabric"
abbrev wsX90 : List Cond := u_ws RX9 TX9 3
theorem nmX9 : ∀ a, a < 3 → ∀ b, b < 3 → a ≠ b → (TX9 a).2.1 ≠ (TX9 b).2.1 := by decide +kernel
theorem tyX9_ok : ∀ k, k < 3 → parseFieldDescriptor (TX9 k).2.2.1 = some (tyX9 k) := by decide +kernel
abbrev cX9_init : ByteArray := prog_1_method_1_code
def yX9_init : MethodName := ⟨RX9, "<init>", "(III)V"⟩
abbrev cX9_region : ByteArray := prog_1_method_2_code
def yX9_region : MethodName := ⟨RX9, "region", "(IIIII)V"⟩
abbrev cX9_store : ByteArray := prog_1_method_3_code
def yX9_store : MethodName := ⟨RX9, "store", "(III)V"⟩
abbrev cX9_cell : ByteArray := prog_1_method_4_code
def yX9_cell : MethodName := ⟨RX9, "cell", "(II)I"⟩
abbrev cX9_ready : ByteArray := prog_1_method_5_code
def yX9_ready : MethodName := ⟨RX9, "ready", "(III)V"⟩
abbrev cX9_reset : ByteArray := prog_1_method_6_code
def yX9_reset : MethodName := ⟨RX9, "reset", "(I)Z"⟩
abbrev cX9_send : ByteArray := prog_1_method_7_code
def yX9_send : MethodName := ⟨RX9, "send", "(III)I"⟩
abbrev cX9_move : ByteArray := prog_1_method_8_code
def yX9_move : MethodName := ⟨RX9, "move", "(IZIIII)I"⟩
abbrev cX9_add : ByteArray := prog_1_method_9_code
def yX9_add : MethodName := ⟨RX9, "add", "(IIIII)I"⟩
abbrev cX9_receive : ByteArray := prog_1_method_10_code
def yX9_receive : MethodName := ⟨RX9, "receive", "(III)I"⟩
abbrev cX9_push : ByteArray := prog_1_method_11_code
def yX9_push : MethodName := ⟨RX9, "push", "(I)I"⟩
abbrev cX9_deliver : ByteArray := prog_1_method_12_code
def yX9_deliver : MethodName := ⟨RX9, "deliver", "(I)Z"⟩
abbrev cX9_spoil : ByteArray := prog_1_method_13_code
def yX9_spoil : MethodName := ⟨RX9, "spoil", "(IZ)Z"⟩
abbrev cX9_tick : ByteArray := prog_1_method_14_code
def yX9_tick : MethodName := ⟨RX9, "tick", "()I"⟩
abbrev cX9_packets : ByteArray := prog_1_method_15_code
def yX9_packets : MethodName := ⟨RX9, "packets", "()I"⟩
abbrev cX9_packet : ByteArray := prog_1_method_16_code
def yX9_packet : MethodName := ⟨RX9, "packet", "(II)I"⟩
abbrev cX9_pair : ByteArray := prog_1_method_17_code
def yX9_pair : MethodName := ⟨RX9, "pair", "(II)I"⟩
abbrev cX9_completions : ByteArray := prog_1_method_18_code
def yX9_completions : MethodName := ⟨RX9, "completions", "(I)I"⟩
abbrev cX9_poll : ByteArray := prog_1_method_19_code
def yX9_poll : MethodName := ⟨RX9, "poll", "(II)I"⟩
abbrev cX9_require : ByteArray := prog_1_method_20_code
def yX9_require : MethodName := ⟨RX9, "require", "(Z)V"⟩
abbrev cX9_requireState : ByteArray := prog_1_method_21_code
def yX9_requireState : MethodName := ⟨RX9, "requireState", "(Z)V"⟩
abbrev cX9_within : ByteArray := prog_1_method_22_code
def yX9_within : MethodName := ⟨RX9, "within", "(III)I"⟩
abbrev cX9_isNode : ByteArray := prog_1_method_23_code
def yX9_isNode : MethodName := ⟨RX9, "isNode", "(I)Z"⟩
abbrev cX9_isRegion : ByteArray := prog_1_method_24_code
def yX9_isRegion : MethodName := ⟨RX9, "isRegion", "(I)Z"⟩
abbrev cX9_isCell : ByteArray := prog_1_method_25_code
def yX9_isCell : MethodName := ⟨RX9, "isCell", "(I)Z"⟩
abbrev cX9_areCells : ByteArray := prog_1_method_26_code
def yX9_areCells : MethodName := ⟨RX9, "areCells", "(II)Z"⟩
abbrev cX9_isPair : ByteArray := prog_1_method_27_code
def yX9_isPair : MethodName := ⟨RX9, "isPair", "(I)Z"⟩
abbrev cX9_isNumber : ByteArray := prog_1_method_28_code
def yX9_isNumber : MethodName := ⟨RX9, "isNumber", "(I)Z"⟩
abbrev cX9_after : ByteArray := prog_1_method_29_code
def yX9_after : MethodName := ⟨RX9, "after", "(II)I"⟩
abbrev cX9_before : ByteArray := prog_1_method_30_code
def yX9_before : MethodName := ⟨RX9, "before", "(I)I"⟩
abbrev cX9_distance : ByteArray := prog_1_method_31_code
def yX9_distance : MethodName := ⟨RX9, "distance", "(II)I"⟩
abbrev cX9_peerOf : ByteArray := prog_1_method_32_code
def yX9_peerOf : MethodName := ⟨RX9, "peerOf", "(I)I"⟩
abbrev cX9_numbersFor : ByteArray := prog_1_method_33_code
def yX9_numbersFor : MethodName := ⟨RX9, "numbersFor", "(I)I"⟩
def RX10 : String := "RemoteReachModel"
def TX10 : u_T := fun k => match k with
  | 0 => ("RemoteReachModel", "timeout", "I", true)
  | 1 => ("RemoteReachModel", "mostTries", "I", true)
  | 2 => ("RemoteReachModel", "mostRefusals", "I", true)
  | 3 => ("RemoteReachModel", "code", "I", false)
  | 4 => ("RemoteReachModel", "memory", "[I", true)
  | 5 => ("RemoteReachModel", "base", "[I", true)
  | 6 => ("RemoteReachModel", "span", "[I", true)
  | 7 => ("RemoteReachModel", "rights", "[I", true)
  | 8 => ("RemoteReachModel", "done", "[I", true)
  | 9 => ("RemoteReachModel", "ends", "[I", true)
  | 10 => ("RemoteReachModel", "state", "[I", true)
  | 11 => ("RemoteReachModel", "following", "[I", true)
  | 12 => ("RemoteReachModel", "oldest", "[I", true)
  | 13 => ("RemoteReachModel", "cursor", "[I", true)
  | 14 => ("RemoteReachModel", "expected", "[I", true)
  | 15 => ("RemoteReachModel", "clock", "[I", true)
  | 16 => ("RemoteReachModel", "tries", "[I", true)
  | 17 => ("RemoteReachModel", "refusals", "[I", true)
  | 18 => ("RemoteReachModel", "resting", "[Z", true)
  | 19 => ("RemoteReachModel", "nakked", "[Z", true)
  | 20 => ("RemoteReachModel", "requests", "[I", true)
  | 21 => ("RemoteReachModel", "serials", "[I", true)
  | 22 => ("RemoteReachModel", "rKind", "[I", true)
  | 23 => ("RemoteReachModel", "rHere", "[I", true)
  | 24 => ("RemoteReachModel", "rSize", "[I", true)
  | 25 => ("RemoteReachModel", "rRegion", "[I", true)
  | 26 => ("RemoteReachModel", "rPlace", "[I", true)
  | 27 => ("RemoteReachModel", "rValue", "[I", true)
  | 28 => ("RemoteReachModel", "rSerial", "[I", true)
  | 29 => ("RemoteReachModel", "rFirst", "[I", true)
  | 30 => ("RemoteReachModel", "receives", "[I", true)
  | 31 => ("RemoteReachModel", "receiveSerials", "[I", true)
  | 32 => ("RemoteReachModel", "vHere", "[I", true)
  | 33 => ("RemoteReachModel", "vSize", "[I", true)
  | 34 => ("RemoteReachModel", "vSerial", "[I", true)
  | 35 => ("RemoteReachModel", "vCame", "[I", true)
  | 36 => ("RemoteReachModel", "begun", "[Z", true)
  | 37 => ("RemoteReachModel", "adds", "[I", true)
  | 38 => ("RemoteReachModel", "addNumber", "[I", true)
  | 39 => ("RemoteReachModel", "addValue", "[I", true)
  | 40 => ("RemoteReachModel", "packets", "I", false)
  | 41 => ("RemoteReachModel", "pTo", "[I", true)
  | 42 => ("RemoteReachModel", "pKind", "[I", true)
  | 43 => ("RemoteReachModel", "pNumber", "[I", true)
  | 44 => ("RemoteReachModel", "pSize", "[I", true)
  | 45 => ("RemoteReachModel", "pMark", "[I", true)
  | 46 => ("RemoteReachModel", "pPlace", "[I", true)
  | 47 => ("RemoteReachModel", "pValue", "[I", true)
  | _ => ("RemoteReachModel", "pCell", "[I", true)
def tyX10 : Nat → FieldType := fun k => match k with
  | 0 => .int
  | 1 => .int
  | 2 => .int
  | 3 => .int
  | 4 => .array .int
  | 5 => .array .int
  | 6 => .array .int
  | 7 => .array .int
  | 8 => .array .int
  | 9 => .array .int
  | 10 => .array .int
  | 11 => .array .int
  | 12 => .array .int
  | 13 => .array .int
  | 14 => .array .int
  | 15 => .array .int
  | 16 => .array .int
  | 17 => .array .int
  | 18 => .array .boolean
  | 19 => .array .boolean
  | 20 => .array .int
  | 21 => .array .int
  | 22 => .array .int
  | 23 => .array .int
  | 24 => .array .int
  | 25 => .array .int
  | 26 => .array .int
  | 27 => .array .int
  | 28 => .array .int
  | 29 => .array .int
  | 30 => .array .int
  | 31 => .array .int
  | 32 => .array .int
  | 33 => .array .int
  | 34 => .array .int
  | 35 => .array .int
  | 36 => .array .boolean
  | 37 => .array .int
  | 38 => .array .int
  | 39 => .array .int
  | 40 => .int
  | 41 => .array .int
  | 42 => .array .int
  | 43 => .array .int
  | 44 => .array .int
  | 45 => .array .int
  | 46 => .array .int
  | 47 => .array .int
  | _ => .array .int
abbrev wsX100 : List Cond := u_ws RX10 TX10 49
theorem nmX10 : ∀ a, a < 49 → ∀ b, b < 49 → a ≠ b → (TX10 a).2.1 ≠ (TX10 b).2.1 := by decide +kernel
theorem tyX10_ok : ∀ k, k < 49 → parseFieldDescriptor (TX10 k).2.2.1 = some (tyX10 k) := by decide +kernel
abbrev cX10_init : ByteArray := prog_12_method_1_code
def yX10_init : MethodName := ⟨RX10, "<init>", "(III)V"⟩
abbrev cX10_thrown : ByteArray := prog_12_method_2_code
def yX10_thrown : MethodName := ⟨RX10, "thrown", "()I"⟩
abbrev cX10_fail : ByteArray := prog_12_method_3_code
def yX10_fail : MethodName := ⟨RX10, "fail", "(I)I"⟩
abbrev cX10_within : ByteArray := prog_12_method_4_code
def yX10_within : MethodName := ⟨RX10, "within", "(II)Z"⟩
abbrev cX10_far : ByteArray := prog_12_method_5_code
def yX10_far : MethodName := ⟨RX10, "far", "(II)I"⟩
abbrev cX10_nodeOf : ByteArray := prog_12_method_6_code
def yX10_nodeOf : MethodName := ⟨RX10, "nodeOf", "(I)I"⟩
abbrev cX10_peer : ByteArray := prog_12_method_7_code
def yX10_peer : MethodName := ⟨RX10, "peer", "(I)I"⟩
abbrev cX10_region : ByteArray := prog_12_method_8_code
def yX10_region : MethodName := ⟨RX10, "region", "(IIIII)V"⟩
abbrev cX10_store : ByteArray := prog_12_method_9_code
def yX10_store : MethodName := ⟨RX10, "store", "(III)V"⟩
abbrev cX10_cell : ByteArray := prog_12_method_10_code
def yX10_cell : MethodName := ⟨RX10, "cell", "(II)I"⟩
abbrev cX10_complete : ByteArray := prog_12_method_11_code
def yX10_complete : MethodName := ⟨RX10, "complete", "(IIIII)V"⟩
abbrev cX10_allows : ByteArray := prog_12_method_12_code
def yX10_allows : MethodName := ⟨RX10, "allows", "(IIIII)Z"⟩
abbrev cX10_move1 : ByteArray := prog_12_method_13_code
def yX10_move1 : MethodName := ⟨RX10, "move1", "(II)V"⟩
abbrev cX10_emit : ByteArray := prog_12_method_14_code
def yX10_emit : MethodName := ⟨RX10, "emit", "(IIIIII)I"⟩
abbrev cX10_load : ByteArray := prog_12_method_15_code
def yX10_load : MethodName := ⟨RX10, "load", "(IIII)V"⟩
abbrev cX10_drop : ByteArray := prog_12_method_16_code
def yX10_drop : MethodName := ⟨RX10, "drop", "(I)V"⟩
abbrev cX10_numbersOf : ByteArray := prog_12_method_17_code
def yX10_numbersOf : MethodName := ⟨RX10, "numbersOf", "(I)I"⟩
abbrev cX10_requestOf : ByteArray := prog_12_method_18_code
def yX10_requestOf : MethodName := ⟨RX10, "requestOf", "(II)I"⟩
abbrev cX10_hasCells : ByteArray := prog_12_method_19_code
def yX10_hasCells : MethodName := ⟨RX10, "hasCells", "(I)Z"⟩
abbrev cX10_post : ByteArray := prog_12_method_20_code
def yX10_post : MethodName := ⟨RX10, "post", "(IIIIIII)I"⟩
abbrev cX10_cellsGood : ByteArray := prog_12_method_21_code
def yX10_cellsGood : MethodName := ⟨RX10, "cellsGood", "(III)Z"⟩
abbrev cX10_full : ByteArray := prog_12_method_22_code
def yX10_full : MethodName := ⟨RX10, "full", "(I)Z"⟩
abbrev cX10_send : ByteArray := prog_12_method_23_code
def yX10_send : MethodName := ⟨RX10, "send", "(III)I"⟩
abbrev cX10_move : ByteArray := prog_12_method_24_code
def yX10_move : MethodName := ⟨RX10, "move", "(IZIIII)I"⟩
abbrev cX10_add : ByteArray := prog_12_method_25_code
def yX10_add : MethodName := ⟨RX10, "add", "(IIIII)I"⟩
abbrev cX10_receive : ByteArray := prog_12_method_26_code
def yX10_receive : MethodName := ⟨RX10, "receive", "(III)I"⟩
abbrev cX10_ready : ByteArray := prog_12_method_27_code
def yX10_ready : MethodName := ⟨RX10, "ready", "(III)V"⟩
abbrev cX10_reset : ByteArray := prog_12_method_28_code
def yX10_reset : MethodName := ⟨RX10, "reset", "(I)Z"⟩
abbrev cX10_push : ByteArray := prog_12_method_29_code
def yX10_push : MethodName := ⟨RX10, "push", "(I)I"⟩
abbrev cX10_failPair : ByteArray := prog_12_method_30_code
def yX10_failPair : MethodName := ⟨RX10, "failPair", "(III)V"⟩
abbrev cX10_dropRequest : ByteArray := prog_12_method_31_code
def yX10_dropRequest : MethodName := ⟨RX10, "dropRequest", "(I)V"⟩
abbrev cX10_answerOne : ByteArray := prog_12_method_32_code
def yX10_answerOne : MethodName := ⟨RX10, "answerOne", "(I)V"⟩
abbrev cX10_answerSome : ByteArray := prog_12_method_33_code
def yX10_answerSome : MethodName := ⟨RX10, "answerSome", "(II)V"⟩
abbrev cX10_refuse : ByteArray := prog_12_method_34_code
def yX10_refuse : MethodName := ⟨RX10, "refuse", "(II)V"⟩
abbrev cX10_accept : ByteArray := prog_12_method_35_code
def yX10_accept : MethodName := ⟨RX10, "accept", "(II)V"⟩
abbrev cX10_ack : ByteArray := prog_12_method_36_code
def yX10_ack : MethodName := ⟨RX10, "ack", "(II)V"⟩
abbrev cX10_takeCells : ByteArray := prog_12_method_37_code
def yX10_takeCells : MethodName := ⟨RX10, "takeCells", "(II)V"⟩
abbrev cX10_dropReceive : ByteArray := prog_12_method_38_code
def yX10_dropReceive : MethodName := ⟨RX10, "dropReceive", "(I)V"⟩
abbrev cX10_freshSend : ByteArray := prog_12_method_39_code
def yX10_freshSend : MethodName := ⟨RX10, "freshSend", "(I)V"⟩
abbrev cX10_reads : ByteArray := prog_12_method_40_code
def yX10_reads : MethodName := ⟨RX10, "reads", "(I)V"⟩
abbrev cX10_replyOld : ByteArray := prog_12_method_41_code
def yX10_replyOld : MethodName := ⟨RX10, "replyOld", "(II)V"⟩
abbrev cX10_freshAdd : ByteArray := prog_12_method_42_code
def yX10_freshAdd : MethodName := ⟨RX10, "freshAdd", "(I)V"⟩
abbrev cX10_fresh : ByteArray := prog_12_method_43_code
def yX10_fresh : MethodName := ⟨RX10, "fresh", "(I)V"⟩
abbrev cX10_again : ByteArray := prog_12_method_44_code
def yX10_again : MethodName := ⟨RX10, "again", "(I)V"⟩
abbrev cX10_asked : ByteArray := prog_12_method_45_code
def yX10_asked : MethodName := ⟨RX10, "asked", "(I)V"⟩
abbrev cX10_replied : ByteArray := prog_12_method_46_code
def yX10_replied : MethodName := ⟨RX10, "replied", "(I)V"⟩
abbrev cX10_refused : ByteArray := prog_12_method_47_code
def yX10_refused : MethodName := ⟨RX10, "refused", "(I)V"⟩
abbrev cX10_deliver : ByteArray := prog_12_method_48_code
def yX10_deliver : MethodName := ⟨RX10, "deliver", "(I)Z"⟩
abbrev cX10_spoil : ByteArray := prog_12_method_49_code
def yX10_spoil : MethodName := ⟨RX10, "spoil", "(IZ)Z"⟩
abbrev cX10_tickPair : ByteArray := prog_12_method_50_code
def yX10_tickPair : MethodName := ⟨RX10, "tickPair", "(I)I"⟩
abbrev cX10_tick : ByteArray := prog_12_method_51_code
def yX10_tick : MethodName := ⟨RX10, "tick", "()I"⟩
abbrev cX10_packets : ByteArray := prog_12_method_52_code
def yX10_packets : MethodName := ⟨RX10, "packets", "()I"⟩
abbrev cX10_packet : ByteArray := prog_12_method_53_code
def yX10_packet : MethodName := ⟨RX10, "packet", "(II)I"⟩
abbrev cX10_pair : ByteArray := prog_12_method_54_code
def yX10_pair : MethodName := ⟨RX10, "pair", "(II)I"⟩
abbrev cX10_completions : ByteArray := prog_12_method_55_code
def yX10_completions : MethodName := ⟨RX10, "completions", "(I)I"⟩
abbrev cX10_dropEnd : ByteArray := prog_12_method_56_code
def yX10_dropEnd : MethodName := ⟨RX10, "dropEnd", "(I)I"⟩
abbrev cX10_poll : ByteArray := prog_12_method_57_code
def yX10_poll : MethodName := ⟨RX10, "poll", "(II)I"⟩
def RJ9 : String := "java/lang/Math"
def TJ9 : u_T := fun k => match k with
  | _ => ("", "", "", false)
def tyJ9 : Nat → FieldType := fun k => match k with
  | _ => .int
abbrev wsJ90 : List Cond := u_ws RJ9 TJ9 0
theorem nmJ9 : ∀ a, a < 0 → ∀ b, b < 0 → a ≠ b → (TJ9 a).2.1 ≠ (TJ9 b).2.1 := by decide +kernel
theorem tyJ9_ok : ∀ k, k < 0 → parseFieldDescriptor (TJ9 k).2.2.1 = some (tyJ9 k) := by decide +kernel
abbrev cJ9_max_7cf53 : ByteArray := prog_16_method_65_code
def yJ9_max_7cf53 : MethodName := ⟨RJ9, "max", "(II)I"⟩
abbrev cJ9_min_7cf53 : ByteArray := prog_16_method_69_code
def yJ9_min_7cf53 : MethodName := ⟨RJ9, "min", "(II)I"⟩
def RL : String := "RemoteReachLaw"
abbrev cL_cell : ByteArray := method_2_code
def yL_cell : MethodName := ⟨RL, "cell", "([II)I"⟩
abbrev cL_region : ByteArray := method_3_code
def yL_region : MethodName := ⟨RL, "region", "(LRemoteReach;IIIII)I"⟩
abbrev cL_store : ByteArray := method_4_code
def yL_store : MethodName := ⟨RL, "store", "(LRemoteReach;III)I"⟩
abbrev cL_ready : ByteArray := method_5_code
def yL_ready : MethodName := ⟨RL, "ready", "(LRemoteReach;III)I"⟩
abbrev cL_send : ByteArray := method_6_code
def yL_send : MethodName := ⟨RL, "send", "(LRemoteReach;III[J)I"⟩
abbrev cL_move : ByteArray := method_7_code
def yL_move : MethodName := ⟨RL, "move", "(LRemoteReach;IZIIII[J)I"⟩
abbrev cL_add : ByteArray := method_8_code
def yL_add : MethodName := ⟨RL, "add", "(LRemoteReach;IIIII[J)I"⟩
abbrev cL_receive : ByteArray := method_9_code
def yL_receive : MethodName := ⟨RL, "receive", "(LRemoteReach;III[J)I"⟩
abbrev cL_poll : ByteArray := method_10_code
def yL_poll : MethodName := ⟨RL, "poll", "(LRemoteReach;II[J)I"⟩
abbrev cL_law : ByteArray := code
def yL_law : MethodName := ⟨RL, "law", "([I)Z"⟩
abbrev vwCl : List vw_C := [(RX0, TX0, 4), (RX1, TX1, 5), (RX2, TX2, 8), (RX3, TX3, 3), (RX4, TX4, 10), (RX5, TX5, 6), (RX6, TX6, 3), (RX7, TX7, 14), (RX8, TX8, 9), (RX9, TX9, 3), (RX10, TX10, 49)]
end
section
/-- the words that stay true while the machine runs -/
def mv (w : Cond) : Bool := match w with
  | .methodLinkNest _ _ _ _ => true
  | .arrayOver (.object _) => true
  | .castable _ _ => true
  | .declares _ => true
  | w => goodWord w
def TS : List Cond := lw_tbl.filter mv
def KK (U : State) : Prop := ∀ w ∈ TS, ∀ A : Array Value, w.before A U = true
theorem mv_go {w : Cond} (h : mv w = true) {s U : State} (hW : s.WarmedH U.vm) {A A' : Array Value} (hb : w.before A s = true) : w.before A' U = true := by
  cases w with
  | methodLinkNest a i x h => exact va_Nw.use rfl (va_Nw.warmM hW (va_Nw.of rfl hb))
  | castable C T => exact va_Nw.use rfl (va_Nw.warmC hW (va_Nw.of rfl hb))
  | declares x => exact va_Nw.use rfl (va_Nw.warmD hW (va_Nw.of rfl hb))
  | arrayOver t =>
    cases t with
    | object C => exact va_AO.use (va_AO.moved hW.alike (va_AO.of hb))
    | _ => exact word_at hW (good_of_word h) hb
  | _ => exact word_at hW (good_of_word h) hb
theorem KK.go {s U : State} (h : KK s) (hW : s.WarmedH U.vm) : KK U := fun w hw A => mv_go (List.mem_filter.mp hw).2 hW (h w hw #[])
theorem KK.of {s : State} {A : Array Value} (h : ∀ w ∈ lw_tbl, w.before A s = true) : KK s := fun w hw A' => mv_go (List.mem_filter.mp hw).2 (State.WarmedH.refl s) (h w (List.mem_filter.mp hw).1)
theorem KK.vm {s U : State} (h : KK s) (hvm : s.vm = U.vm) : KK U := h.go (by rw [← hvm]; exact State.WarmedH.refl s)
abbrev EE : Type := (Nat → ClassId) × (Nat → Nat → Nat) × (Nat → ClassId)
abbrev DG (E : EE) : va_G := (E.1, E.2.1)
abbrev TYS (E : EE) : List (ClassId × FieldType) := [(E.2.2 0, .int), (E.2.2 1, .boolean), (E.2.2 2, .long), (E.2.2 3, .object RX1), (E.2.2 4, .object RX6), (E.2.2 5, .object RX3), (E.2.2 6, .object RX4), (E.2.2 7, .object RX2)]
def AZ (z0 : Nat) : Nat → Prop := fun q => z0 ≤ q
def ZZ (z0 : Nat) (U : State) (H : Heap) : Prop := vx_Zq Bundle.tN "UNASSIGNED_STACK" Bundle.steD (AZ z0) U H ∧ vx_Zq Bundle.tN "SUPPRESSED_SENTINEL" Bundle.listD (AZ z0) U H
def KS (E : EE) (z0 : Nat) (U : State) : Prop := va_K (DG E) vwCl (TYS E) U ∧ KK U ∧ ZZ z0 U U.heap
theorem KS.go {E : EE} {z0 : Nat} {s U : State} {A : Nat → Prop} {H : Heap} {locs : List Loc} (h : KS E z0 s) (hW : s.WarmedH U.vm) (hS : va_S A s.heap H locs) (hA : ∀ q, A q → z0 ≤ q) (hU : U.heap = H) : KS E z0 U := by
  refine ⟨va_K.moved hW.alike h.1, h.2.1.go hW, ?_⟩
  have hk : ∀ a : Nat, a < s.heap.size → ¬ AZ z0 a → U.heap[a]? = s.heap[a]? := fun a h1 h2 => by rw [hU]; exact hS.2.1 a h1 (fun q => h2 (hA a q))
  exact ⟨vx_Zq.moved hW.alike (h.2.2.1.kept hk), vx_Zq.moved hW.alike (h.2.2.2.kept hk)⟩
theorem KS.calling {E : EE} {z0 : Nat} {U : State} {g : JFrame} {mk : MethodId} {a : Array Value} (h : KS E z0 U) : KS E z0 (U.calling g mk a) :=
  ⟨va_K.moved (u := U) (U := U.calling g mk a) (Vm.Alike.refl U.vm) h.1, KK.vm h.2.1 rfl, vx_Zq.moved (u := U) (U := U.calling g mk a) (Vm.Alike.refl U.vm) h.2.2.1, vx_Zq.moved (u := U) (U := U.calling g mk a) (Vm.Alike.refl U.vm) h.2.2.2⟩
theorem va_one {D : va_G} {cl : List vw_C} {q : Nat × va_E} {H : Heap} (h : va_at D cl q H) : va_P D cl [q] H := fun k x hx => by
  match k, hx with
  | 0, hx => cases hx; exact h
  | k + 1, hx => simp at hx
theorem va_done {A : Nat → Prop} {q : Nat × va_E} (h : A q.1) : va_D A [q] := ⟨fun i j p r hp hr _ => by
  match i, j, hp, hr with
  | 0, 0, _, _ => rfl
  | i + 1, _, hp, _ => simp at hp
  | 0, j + 1, _, hr => simp at hr, fun k x hx => by
  match k, hx with
  | 0, hx => cases hx; exact h
  | k + 1, hx => simp at hx⟩
/-- the typed heap: what lies at the addresses that G names (a group each), but at those of ex -/
def TH (E : EE) (ty : (Nat → Nat) → Nat → va_E → Prop) (G : Nat → Nat) (ex : List Nat) (H : Heap) : Prop := ∀ a, G a ≠ 0 → a ∉ ex → ∃ e, ty G (G a) e ∧ va_at (DG E) vwCl (a, e) H
theorem TH.kept {E : EE} {ty : (Nat → Nat) → Nat → va_E → Prop} {G : Nat → Nat} {ex : List Nat} {H H1 : Heap} (h : TH E ty G ex H) (hk : ∀ q, q < H.size → H1[q]? = H[q]?) : TH E ty G ex H1 := fun a ha hx => by
  obtain ⟨e, h1, h2⟩ := h a ha hx
  exact ⟨e, h1, h2.kept (hk a h2.lt)⟩
theorem TH.keptx {E : EE} {ty : (Nat → Nat) → Nat → va_E → Prop} {G : Nat → Nat} {ex ex' : List Nat} {H H1 : Heap} (h : TH E ty G ex H) (hx : ∀ q, q ∈ ex → q ∈ ex') (hk : ∀ q, q < H.size → q ∉ ex' → H1[q]? = H[q]?) : TH E ty G ex' H1 := fun a ha hn => by
  obtain ⟨e, h1, h2⟩ := h a ha (fun q => hn (hx a q))
  exact ⟨e, h1, h2.kept (hk a h2.lt hn)⟩
theorem TH.at {E : EE} {ty : (Nat → Nat) → Nat → va_E → Prop} {G : Nat → Nat} {H : Heap} (h : TH E ty G [] H) {a g : Nat} (hg : G a = g) (h0 : g ≠ 0) : ∃ e, ty G g e ∧ va_at (DG E) vwCl (a, e) H := by
  subst hg
  exact h a h0 (List.not_mem_nil)
theorem TH.atx {E : EE} {ty : (Nat → Nat) → Nat → va_E → Prop} {G : Nat → Nat} {ex : List Nat} {H : Heap} (h : TH E ty G ex H) {a g : Nat} (hg : G a = g) (h0 : g ≠ 0) (hx : a ∉ ex) : ∃ e, ty G g e ∧ va_at (DG E) vwCl (a, e) H := by
  subst hg
  exact h a h0 hx
def bI (P : Prop) [Decidable P] : Int32 := if P then 1 else 0
theorem bI_t {P : Prop} [Decidable P] (h : P) : bI P = 1 := if_pos h
theorem bI_f {P : Prop} [Decidable P] (h : ¬ P) : bI P = 0 := if_neg h
theorem bI_0 {P : Prop} [Decidable P] (h : bI P = 0) : ¬ P := fun q => by rw [bI_t q] at h; exact absurd h (by decide)
theorem bI_n {P : Prop} [Decidable P] (h : ¬ bI P = 0) : P := Decidable.byContradiction fun q => h (bI_f q)
theorem lt_I {x y : Int32} : x < y ↔ x.toInt < y.toInt := Int32.lt_iff_toInt_lt
theorem le_I {x y : Int32} : x ≤ y ↔ x.toInt ≤ y.toInt := Int32.le_iff_toInt_le
theorem eq_I {x y : Int32} : x = y ↔ x.toInt = y.toInt := Int32.toInt_inj.symm
theorem gdS {own : String} {idx : Nat} {y : MethodName} {w0 : Cond} (h1 : Cond.methodLink own idx y ∈ TS) (h2 : Cond.static y ∈ TS) (h3 : Cond.initialized own ∈ TS) (h4 : w0 ∈ TS) (hg : goodWord w0 = true) : GoodIn TS (wsS own idx y [w0]) := by
  intro w hw
  simp only [wsS, List.cons_append, List.nil_append, List.mem_cons, List.not_mem_nil, or_false] at hw
  rcases hw with rfl | rfl | rfl | rfl
  · exact ⟨h1, good_of_word rfl⟩
  · exact ⟨h2, good_of_word rfl⟩
  · exact ⟨h3, good_of_word rfl⟩
  · exact ⟨h4, good_of_word hg⟩
theorem gdV {own C : String} {idx : Nat} {y : MethodName} {w0 : Cond} (h1 : Cond.methodLink own idx y ∈ TS) (h2 : Cond.instanceMethod y ∈ TS) (h3 : Cond.selects C y y ∈ TS) (h4 : Cond.initialized C ∈ TS) (h5 : w0 ∈ TS) (hg : goodWord w0 = true) : GoodIn TS (wsV own idx C y [w0]) := by
  intro w hw
  simp only [wsV, List.cons_append, List.nil_append, List.mem_cons, List.not_mem_nil, or_false] at hw
  rcases hw with rfl | rfl | rfl | rfl | rfl
  · exact ⟨h1, good_of_word rfl⟩
  · exact ⟨h2, good_of_word rfl⟩
  · exact ⟨h3, good_of_word rfl⟩
  · exact ⟨h4, good_of_word rfl⟩
  · exact ⟨h5, good_of_word hg⟩
theorem gd1 {w0 : Cond} (h : w0 ∈ TS) (hg : goodWord w0 = true) : GoodIn TS [w0] := by
  intro w hw
  rw [List.mem_singleton] at hw
  subst hw
  exact ⟨h, good_of_word hg⟩
end
section
theorem mt_1 {w : Cond} (h : w ∈ tables_1_1) : w ∈ lw_tbl := List.mem_append_right _ (show w ∈ tables_1_1 ++ (tables_1_2 ++ (tables_1_3 ++ (tables_1_4 ++ (tables_1_5 ++ tables_1_6)))) from List.mem_append_left _ h)
theorem mt_2 {w : Cond} (h : w ∈ tables_1_2) : w ∈ lw_tbl := List.mem_append_right _ (show w ∈ tables_1_1 ++ (tables_1_2 ++ (tables_1_3 ++ (tables_1_4 ++ (tables_1_5 ++ tables_1_6)))) from List.mem_append_right _ (List.mem_append_left _ h))
theorem mt_3 {w : Cond} (h : w ∈ tables_1_3) : w ∈ lw_tbl := List.mem_append_right _ (show w ∈ tables_1_1 ++ (tables_1_2 ++ (tables_1_3 ++ (tables_1_4 ++ (tables_1_5 ++ tables_1_6)))) from List.mem_append_right _ (List.mem_append_right _ (List.mem_append_left _ h)))
theorem mt_4 {w : Cond} (h : w ∈ tables_1_4) : w ∈ lw_tbl := List.mem_append_right _ (show w ∈ tables_1_1 ++ (tables_1_2 ++ (tables_1_3 ++ (tables_1_4 ++ (tables_1_5 ++ tables_1_6)))) from List.mem_append_right _ (List.mem_append_right _ (List.mem_append_right _ (List.mem_append_left _ h))))
theorem mt_5 {w : Cond} (h : w ∈ tables_1_5) : w ∈ lw_tbl := List.mem_append_right _ (show w ∈ tables_1_1 ++ (tables_1_2 ++ (tables_1_3 ++ (tables_1_4 ++ (tables_1_5 ++ tables_1_6)))) from List.mem_append_right _ (List.mem_append_right _ (List.mem_append_right _ (List.mem_append_right _ (List.mem_append_left _ h)))))
theorem mt_6 {w : Cond} (h : w ∈ tables_1_6) : w ∈ lw_tbl := List.mem_append_right _ (show w ∈ tables_1_1 ++ (tables_1_2 ++ (tables_1_3 ++ (tables_1_4 ++ (tables_1_5 ++ tables_1_6)))) from List.mem_append_right _ (List.mem_append_right _ (List.mem_append_right _ (List.mem_append_right _ (List.mem_append_right _ (h))))))
theorem se_Throwable_Throwable_fillInStackTrace : Cond.selects "java/lang/Throwable" ⟨"java/lang/Throwable", "fillInStackTrace", "(I)Ljava/lang/Throwable;"⟩ ⟨"java/lang/Throwable", "fillInStackTrace", "(I)Ljava/lang/Throwable;"⟩ ∈ TS := List.mem_filter.mpr ⟨List.mem_of_getElem? (i := 0) rfl, rfl⟩
theorem se_X10_X10_cellsGood : Cond.selects RX10 yX10_cellsGood yX10_cellsGood ∈ TS := List.mem_filter.mpr ⟨List.mem_of_getElem? (i := 1) rfl, rfl⟩
theorem se_X10_X10_fail : Cond.selects RX10 yX10_fail yX10_fail ∈ TS := List.mem_filter.mpr ⟨List.mem_of_getElem? (i := 2) rfl, rfl⟩
theorem se_X10_X10_full : Cond.selects RX10 yX10_full yX10_full ∈ TS := List.mem_filter.mpr ⟨List.mem_of_getElem? (i := 3) rfl, rfl⟩
theorem se_X10_X10_post : Cond.selects RX10 yX10_post yX10_post ∈ TS := List.mem_filter.mpr ⟨List.mem_of_getElem? (i := 4) rfl, rfl⟩
theorem se_X10_X10_numbersOf : Cond.selects RX10 yX10_numbersOf yX10_numbersOf ∈ TS := List.mem_filter.mpr ⟨List.mem_of_getElem? (i := 5) rfl, rfl⟩
theorem se_X10_X10_requestOf : Cond.selects RX10 yX10_requestOf yX10_requestOf ∈ TS := List.mem_filter.mpr ⟨List.mem_of_getElem? (i := 6) rfl, rfl⟩
theorem se_X10_X10_emit : Cond.selects RX10 yX10_emit yX10_emit ∈ TS := List.mem_filter.mpr ⟨List.mem_of_getElem? (i := 7) rfl, rfl⟩
theorem se_X10_X10_load : Cond.selects RX10 yX10_load yX10_load ∈ TS := List.mem_filter.mpr ⟨List.mem_of_getElem? (i := 8) rfl, rfl⟩
theorem se_X10_X10_move1 : Cond.selects RX10 yX10_move1 yX10_move1 ∈ TS := List.mem_filter.mpr ⟨List.mem_of_getElem? (i := 9) rfl, rfl⟩
theorem se_X10_X10_drop : Cond.selects RX10 yX10_drop yX10_drop ∈ TS := List.mem_filter.mpr ⟨List.mem_of_getElem? (i := 10) rfl, rfl⟩
theorem se_X10_X10_asked : Cond.selects RX10 yX10_asked yX10_asked ∈ TS := List.mem_filter.mpr ⟨List.mem_of_getElem? (i := 11) rfl, rfl⟩
theorem se_X10_X10_fresh : Cond.selects RX10 yX10_fresh yX10_fresh ∈ TS := List.mem_filter.mpr ⟨List.mem_of_getElem? (i := 12) rfl, rfl⟩
theorem se_X10_X10_freshSend : Cond.selects RX10 yX10_freshSend yX10_freshSend ∈ TS := List.mem_filter.mpr ⟨List.mem_of_getElem? (i := 13) rfl, rfl⟩
theorem se_X10_X10_refuse : Cond.selects RX10 yX10_refuse yX10_refuse ∈ TS := List.mem_filter.mpr ⟨List.mem_of_getElem? (i := 14) rfl, rfl⟩
theorem se_X10_X10_failPair : Cond.selects RX10 yX10_failPair yX10_failPair ∈ TS := List.mem_filter.mpr ⟨List.mem_of_getElem? (i := 15) rfl, rfl⟩
theorem se_X10_X10_complete : Cond.selects RX10 yX10_complete yX10_complete ∈ TS := List.mem_filter.mpr ⟨List.mem_of_getElem? (i := 16) rfl, rfl⟩
theorem se_X10_X10_takeCells : Cond.selects RX10 yX10_takeCells yX10_takeCells ∈ TS := List.mem_filter.mpr ⟨List.mem_of_getElem? (i := 17) rfl, rfl⟩
theorem se_X10_X10_accept : Cond.selects RX10 yX10_accept yX10_accept ∈ TS := List.mem_filter.mpr ⟨List.mem_of_getElem? (i := 18) rfl, rfl⟩
theorem se_X10_X10_ack : Cond.selects RX10 yX10_ack yX10_ack ∈ TS := List.mem_filter.mpr ⟨List.mem_of_getElem? (i := 19) rfl, rfl⟩
theorem se_X10_X10_dropReceive : Cond.selects RX10 yX10_dropReceive yX10_dropReceive ∈ TS := List.mem_filter.mpr ⟨List.mem_of_getElem? (i := 20) rfl, rfl⟩
theorem se_X10_X10_allows : Cond.selects RX10 yX10_allows yX10_allows ∈ TS := List.mem_filter.mpr ⟨List.mem_of_getElem? (i := 21) rfl, rfl⟩
theorem se_X10_X10_reads : Cond.selects RX10 yX10_reads yX10_reads ∈ TS := List.mem_filter.mpr ⟨List.mem_of_getElem? (i := 22) rfl, rfl⟩
theorem se_X10_X10_freshAdd : Cond.selects RX10 yX10_freshAdd yX10_freshAdd ∈ TS := List.mem_filter.mpr ⟨List.mem_of_getElem? (i := 23) rfl, rfl⟩
theorem se_X10_X10_replyOld : Cond.selects RX10 yX10_replyOld yX10_replyOld ∈ TS := List.mem_filter.mpr ⟨List.mem_of_getElem? (i := 24) rfl, rfl⟩
theorem se_X10_X10_again : Cond.selects RX10 yX10_again yX10_again ∈ TS := List.mem_filter.mpr ⟨List.mem_of_getElem? (i := 25) rfl, rfl⟩
theorem se_X10_X10_replied : Cond.selects RX10 yX10_replied yX10_replied ∈ TS := List.mem_filter.mpr ⟨List.mem_of_getElem? (i := 26) rfl, rfl⟩
theorem se_X10_X10_hasCells : Cond.selects RX10 yX10_hasCells yX10_hasCells ∈ TS := List.mem_filter.mpr ⟨List.mem_of_getElem? (i := 27) rfl, rfl⟩
theorem se_X10_X10_answerOne : Cond.selects RX10 yX10_answerOne yX10_answerOne ∈ TS := List.mem_filter.mpr ⟨List.mem_of_getElem? (i := 28) rfl, rfl⟩
theorem se_X10_X10_dropRequest : Cond.selects RX10 yX10_dropRequest yX10_dropRequest ∈ TS := List.mem_filter.mpr ⟨List.mem_of_getElem? (i := 29) rfl, rfl⟩
theorem se_X10_X10_answerSome : Cond.selects RX10 yX10_answerSome yX10_answerSome ∈ TS := List.mem_filter.mpr ⟨List.mem_of_getElem? (i := 30) rfl, rfl⟩
theorem se_X10_X10_refused : Cond.selects RX10 yX10_refused yX10_refused ∈ TS := List.mem_filter.mpr ⟨List.mem_of_getElem? (i := 31) rfl, rfl⟩
theorem se_X10_X10_tickPair : Cond.selects RX10 yX10_tickPair yX10_tickPair ∈ TS := List.mem_filter.mpr ⟨List.mem_of_getElem? (i := 32) rfl, rfl⟩
theorem se_X10_X10_dropEnd : Cond.selects RX10 yX10_dropEnd yX10_dropEnd ∈ TS := List.mem_filter.mpr ⟨List.mem_of_getElem? (i := 33) rfl, rfl⟩
theorem in_L : Cond.initialized RL ∈ TS := List.mem_filter.mpr ⟨mt_1 (List.mem_of_getElem? (i := 0) rfl), rfl⟩
theorem in_X9 : Cond.initialized RX9 ∈ TS := List.mem_filter.mpr ⟨mt_1 (List.mem_of_getElem? (i := 1) rfl), rfl⟩
theorem in_Math : Cond.initialized "java/lang/Math" ∈ TS := List.mem_filter.mpr ⟨mt_1 (List.mem_of_getElem? (i := 2) rfl), rfl⟩
theorem in_X0 : Cond.initialized RX0 ∈ TS := List.mem_filter.mpr ⟨mt_1 (List.mem_of_getElem? (i := 3) rfl), rfl⟩
theorem in_X2 : Cond.initialized RX2 ∈ TS := List.mem_filter.mpr ⟨mt_1 (List.mem_of_getElem? (i := 4) rfl), rfl⟩
theorem in_X1 : Cond.initialized RX1 ∈ TS := List.mem_filter.mpr ⟨mt_1 (List.mem_of_getElem? (i := 5) rfl), rfl⟩
theorem in_X6 : Cond.initialized RX6 ∈ TS := List.mem_filter.mpr ⟨mt_1 (List.mem_of_getElem? (i := 6) rfl), rfl⟩
theorem in_X7 : Cond.initialized RX7 ∈ TS := List.mem_filter.mpr ⟨mt_1 (List.mem_of_getElem? (i := 7) rfl), rfl⟩
theorem in_X5 : Cond.initialized RX5 ∈ TS := List.mem_filter.mpr ⟨mt_1 (List.mem_of_getElem? (i := 8) rfl), rfl⟩
theorem in_X4 : Cond.initialized RX4 ∈ TS := List.mem_filter.mpr ⟨mt_1 (List.mem_of_getElem? (i := 9) rfl), rfl⟩
theorem in_X3 : Cond.initialized RX3 ∈ TS := List.mem_filter.mpr ⟨mt_1 (List.mem_of_getElem? (i := 10) rfl), rfl⟩
theorem in_X8 : Cond.initialized RX8 ∈ TS := List.mem_filter.mpr ⟨mt_1 (List.mem_of_getElem? (i := 11) rfl), rfl⟩
theorem in_X10 : Cond.initialized RX10 ∈ TS := List.mem_filter.mpr ⟨mt_1 (List.mem_of_getElem? (i := 12) rfl), rfl⟩
theorem in_Throwable : Cond.initialized "java/lang/Throwable" ∈ TS := List.mem_filter.mpr ⟨mt_1 (List.mem_of_getElem? (i := 13) rfl), rfl⟩
theorem in_Exception : Cond.initialized "java/lang/Exception" ∈ TS := List.mem_filter.mpr ⟨mt_1 (List.mem_of_getElem? (i := 14) rfl), rfl⟩
theorem in_RuntimeException : Cond.initialized "java/lang/RuntimeException" ∈ TS := List.mem_filter.mpr ⟨mt_1 (List.mem_of_getElem? (i := 15) rfl), rfl⟩
theorem in_IllegalArgumentException : Cond.initialized "java/lang/IllegalArgumentException" ∈ TS := List.mem_filter.mpr ⟨mt_1 (List.mem_of_getElem? (i := 16) rfl), rfl⟩
theorem in_IllegalStateException : Cond.initialized "java/lang/IllegalStateException" ∈ TS := List.mem_filter.mpr ⟨mt_1 (List.mem_of_getElem? (i := 17) rfl), rfl⟩
theorem in_NoSuchElementException : Cond.initialized "java/util/NoSuchElementException" ∈ TS := List.mem_filter.mpr ⟨mt_1 (List.mem_of_getElem? (i := 18) rfl), rfl⟩
theorem cl_L_8 : Cond.classLink RL 8 RX9 ∈ TS := List.mem_filter.mpr ⟨mt_1 (List.mem_of_getElem? (i := 19) rfl), rfl⟩
theorem ia_X9 : Cond.instantiable RX9 3 ∈ TS := List.mem_filter.mpr ⟨mt_1 (List.mem_of_getElem? (i := 20) rfl), rfl⟩
theorem ml_L_51 : Cond.methodLink RL 51 yX9_init ∈ TS := List.mem_filter.mpr ⟨mt_1 (List.mem_of_getElem? (i := 21) rfl), rfl⟩
theorem im_X9_init : Cond.instanceMethod yX9_init ∈ TS := List.mem_filter.mpr ⟨mt_1 (List.mem_of_getElem? (i := 22) rfl), rfl⟩
set_option maxRecDepth 100000 in
theorem co_X9_init : Cond.code yX9_init cX9_init 10 none ∈ TS := List.mem_filter.mpr ⟨mt_1 (List.mem_of_getElem? (i := 23) (by show tables_1_1[_]? = _; rfl)), rfl⟩
theorem ml_X9_3 : Cond.methodLink RX9 3 ⟨"java/lang/Object", "<init>", "()V"⟩ ∈ TS := List.mem_filter.mpr ⟨mt_1 (List.mem_of_getElem? (i := 24) rfl), rfl⟩
theorem im_Object__init_ : Cond.instanceMethod ⟨"java/lang/Object", "<init>", "()V"⟩ ∈ TS := List.mem_filter.mpr ⟨mt_1 (List.mem_of_getElem? (i := 25) rfl), rfl⟩
set_option maxRecDepth 100000 in
theorem co_Object__init_ : Cond.code ⟨"java/lang/Object", "<init>", "()V"⟩ object_method_1_code 1 none ∈ TS := List.mem_filter.mpr ⟨mt_1 (List.mem_of_getElem? (i := 26) (by show tables_1_1[_]? = _; rfl)), rfl⟩
theorem ml_X9_9 : Cond.methodLink RX9 9 yX9_within ∈ TS := List.mem_filter.mpr ⟨mt_1 (List.mem_of_getElem? (i := 27) rfl), rfl⟩
theorem st_X9_within : Cond.static yX9_within ∈ TS := List.mem_filter.mpr ⟨mt_1 (List.mem_of_getElem? (i := 28) rfl), rfl⟩
set_option maxRecDepth 100000 in
theorem co_X9_within : Cond.code yX9_within cX9_within 3 (some .int) ∈ TS := List.mem_filter.mpr ⟨mt_1 (List.mem_of_getElem? (i := 29) (by show tables_1_1[_]? = _; rfl)), rfl⟩
theorem ml_X9_194 : Cond.methodLink RX9 194 ⟨"java/lang/Math", "min", "(II)I"⟩ ∈ TS := List.mem_filter.mpr ⟨mt_1 (List.mem_of_getElem? (i := 30) rfl), rfl⟩
theorem st_Math_min : Cond.static ⟨"java/lang/Math", "min", "(II)I"⟩ ∈ TS := List.mem_filter.mpr ⟨mt_1 (List.mem_of_getElem? (i := 31) rfl), rfl⟩
set_option maxRecDepth 100000 in
theorem co_Math_min : Cond.code ⟨"java/lang/Math", "min", "(II)I"⟩ prog_16_method_69_code 2 (some .int) ∈ TS := List.mem_filter.mpr ⟨mt_1 (List.mem_of_getElem? (i := 32) (by show tables_1_1[_]? = _; rfl)), rfl⟩
theorem ml_X9_200 : Cond.methodLink RX9 200 ⟨"java/lang/Math", "max", "(II)I"⟩ ∈ TS := List.mem_filter.mpr ⟨mt_1 (List.mem_of_getElem? (i := 33) rfl), rfl⟩
theorem st_Math_max : Cond.static ⟨"java/lang/Math", "max", "(II)I"⟩ ∈ TS := List.mem_filter.mpr ⟨mt_1 (List.mem_of_getElem? (i := 34) rfl), rfl⟩
set_option maxRecDepth 100000 in
theorem co_Math_max : Cond.code ⟨"java/lang/Math", "max", "(II)I"⟩ prog_16_method_65_code 2 (some .int) ∈ TS := List.mem_filter.mpr ⟨mt_1 (List.mem_of_getElem? (i := 35) (by show tables_1_1[_]? = _; rfl)), rfl⟩
theorem cl_X9_13 : Cond.classLink RX9 13 RX0 ∈ TS := List.mem_filter.mpr ⟨mt_1 (List.mem_of_getElem? (i := 36) rfl), rfl⟩
theorem ia_X0 : Cond.instantiable RX0 4 ∈ TS := List.mem_filter.mpr ⟨mt_1 (List.mem_of_getElem? (i := 37) rfl), rfl⟩
theorem ml_X9_15 : Cond.methodLink RX9 15 yX0_init ∈ TS := List.mem_filter.mpr ⟨mt_1 (List.mem_of_getElem? (i := 38) rfl), rfl⟩
theorem im_X0_init : Cond.instanceMethod yX0_init ∈ TS := List.mem_filter.mpr ⟨mt_1 (List.mem_of_getElem? (i := 39) rfl), rfl⟩
set_option maxRecDepth 100000 in
theorem co_X0_init : Cond.code yX0_init cX0_init 2 none ∈ TS := List.mem_filter.mpr ⟨mt_1 (List.mem_of_getElem? (i := 40) (by show tables_1_1[_]? = _; rfl)), rfl⟩
theorem ml_X0_3 : Cond.methodLink RX0 3 ⟨"java/lang/Object", "<init>", "()V"⟩ ∈ TS := List.mem_filter.mpr ⟨mt_1 (List.mem_of_getElem? (i := 41) rfl), rfl⟩
theorem cl_X0_9 : Cond.classLink RX0 9 RX2 ∈ TS := List.mem_filter.mpr ⟨mt_1 (List.mem_of_getElem? (i := 42) rfl), rfl⟩
theorem ao_X2 : Cond.arrayOver (.object RX2) ∈ TS := List.mem_filter.mpr ⟨mt_1 (List.mem_of_getElem? (i := 43) rfl), rfl⟩
theorem ia_X2 : Cond.instantiable RX2 8 ∈ TS := List.mem_filter.mpr ⟨mt_1 (List.mem_of_getElem? (i := 44) rfl), rfl⟩
theorem mn_X0_17 : Cond.methodLinkNest RX0 17 yX2_init RX9 ∈ TS := List.mem_filter.mpr ⟨mt_1 (List.mem_of_getElem? (i := 45) rfl), rfl⟩
theorem im_X2_init : Cond.instanceMethod yX2_init ∈ TS := List.mem_filter.mpr ⟨mt_1 (List.mem_of_getElem? (i := 46) rfl), rfl⟩
set_option maxRecDepth 100000 in
theorem co_X2_init : Cond.code yX2_init cX2_init 1 none ∈ TS := List.mem_filter.mpr ⟨mt_1 (List.mem_of_getElem? (i := 47) (by show tables_1_1[_]? = _; rfl)), rfl⟩
theorem ml_X2_3 : Cond.methodLink RX2 3 ⟨"java/lang/Object", "<init>", "()V"⟩ ∈ TS := List.mem_filter.mpr ⟨mt_1 (List.mem_of_getElem? (i := 48) rfl), rfl⟩
theorem fl_X2_15 : Cond.fieldLink RX2 15 "RemoteReach$Packet" "pair" "I" ∈ TS := List.mem_filter.mpr ⟨mt_1 (List.mem_of_getElem? (i := 49) rfl), rfl⟩
theorem fl_X9_146 : Cond.fieldLink RX9 146 "RemoteReach$Packet" "pair" "I" ∈ TS := List.mem_filter.mpr ⟨mt_1 (List.mem_of_getElem? (i := 50) rfl), rfl⟩
theorem fl_X2_19 : Cond.fieldLink RX2 19 "RemoteReach$Packet" "kind" "I" ∈ TS := List.mem_filter.mpr ⟨mt_1 (List.mem_of_getElem? (i := 51) rfl), rfl⟩
theorem fl_X8_75 : Cond.fieldLink RX8 75 "RemoteReach$Packet" "kind" "I" ∈ TS := List.mem_filter.mpr ⟨mt_1 (List.mem_of_getElem? (i := 52) rfl), rfl⟩
theorem fl_X3_51 : Cond.fieldLink RX3 51 "RemoteReach$Packet" "kind" "I" ∈ TS := List.mem_filter.mpr ⟨mt_1 (List.mem_of_getElem? (i := 53) rfl), rfl⟩
theorem fl_X2_22 : Cond.fieldLink RX2 22 "RemoteReach$Packet" "number" "I" ∈ TS := List.mem_filter.mpr ⟨mt_1 (List.mem_of_getElem? (i := 54) rfl), rfl⟩
theorem fl_X8_59 : Cond.fieldLink RX8 59 "RemoteReach$Packet" "number" "I" ∈ TS := List.mem_filter.mpr ⟨mt_1 (List.mem_of_getElem? (i := 55) rfl), rfl⟩
theorem fl_X3_64 : Cond.fieldLink RX3 64 "RemoteReach$Packet" "number" "I" ∈ TS := List.mem_filter.mpr ⟨mt_1 (List.mem_of_getElem? (i := 56) rfl), rfl⟩
theorem fl_X7_168 : Cond.fieldLink RX7 168 "RemoteReach$Packet" "number" "I" ∈ TS := List.mem_filter.mpr ⟨mt_1 (List.mem_of_getElem? (i := 57) rfl), rfl⟩
theorem fl_X2_25 : Cond.fieldLink RX2 25 "RemoteReach$Packet" "count" "I" ∈ TS := List.mem_filter.mpr ⟨mt_1 (List.mem_of_getElem? (i := 58) rfl), rfl⟩
theorem fl_X7_144 : Cond.fieldLink RX7 144 "RemoteReach$Packet" "count" "I" ∈ TS := List.mem_filter.mpr ⟨mt_1 (List.mem_of_getElem? (i := 59) rfl), rfl⟩
theorem fl_X8_128 : Cond.fieldLink RX8 128 "RemoteReach$Packet" "count" "I" ∈ TS := List.mem_filter.mpr ⟨mt_1 (List.mem_of_getElem? (i := 60) rfl), rfl⟩
theorem fl_X2_28 : Cond.fieldLink RX2 28 "RemoteReach$Packet" "mark" "I" ∈ TS := List.mem_filter.mpr ⟨mt_1 (List.mem_of_getElem? (i := 61) rfl), rfl⟩
theorem fl_X3_67 : Cond.fieldLink RX3 67 "RemoteReach$Packet" "mark" "I" ∈ TS := List.mem_filter.mpr ⟨mt_1 (List.mem_of_getElem? (i := 62) rfl), rfl⟩
theorem fl_X7_135 : Cond.fieldLink RX7 135 "RemoteReach$Packet" "mark" "I" ∈ TS := List.mem_filter.mpr ⟨mt_1 (List.mem_of_getElem? (i := 63) rfl), rfl⟩
theorem fl_X8_179 : Cond.fieldLink RX8 179 "RemoteReach$Packet" "mark" "I" ∈ TS := List.mem_filter.mpr ⟨mt_1 (List.mem_of_getElem? (i := 64) rfl), rfl⟩
theorem fl_X2_31 : Cond.fieldLink RX2 31 "RemoteReach$Packet" "place" "I" ∈ TS := List.mem_filter.mpr ⟨mt_1 (List.mem_of_getElem? (i := 65) rfl), rfl⟩
theorem fl_X7_140 : Cond.fieldLink RX7 140 "RemoteReach$Packet" "place" "I" ∈ TS := List.mem_filter.mpr ⟨mt_1 (List.mem_of_getElem? (i := 66) rfl), rfl⟩
theorem fl_X8_151 : Cond.fieldLink RX8 151 "RemoteReach$Packet" "place" "I" ∈ TS := List.mem_filter.mpr ⟨mt_1 (List.mem_of_getElem? (i := 67) rfl), rfl⟩
theorem fl_X2_34 : Cond.fieldLink RX2 34 "RemoteReach$Packet" "value" "I" ∈ TS := List.mem_filter.mpr ⟨mt_1 (List.mem_of_getElem? (i := 68) rfl), rfl⟩
theorem fl_X7_145 : Cond.fieldLink RX7 145 "RemoteReach$Packet" "value" "I" ∈ TS := List.mem_filter.mpr ⟨mt_1 (List.mem_of_getElem? (i := 69) rfl), rfl⟩
theorem fl_X8_158 : Cond.fieldLink RX8 158 "RemoteReach$Packet" "value" "I" ∈ TS := List.mem_filter.mpr ⟨mt_1 (List.mem_of_getElem? (i := 70) rfl), rfl⟩
theorem fl_X2_9 : Cond.fieldLink RX2 9 "RemoteReach$Packet" "cells" "[I" ∈ TS := List.mem_filter.mpr ⟨mt_1 (List.mem_of_getElem? (i := 71) rfl), rfl⟩
theorem fl_X8_176 : Cond.fieldLink RX8 176 "RemoteReach$Packet" "cells" "[I" ∈ TS := List.mem_filter.mpr ⟨mt_1 (List.mem_of_getElem? (i := 72) rfl), rfl⟩
theorem la_X2_pair : Cond.lays RX2 "RemoteReach$Packet" "pair" "I" ∈ TS := List.mem_filter.mpr ⟨mt_1 (List.mem_of_getElem? (i := 73) rfl), rfl⟩
theorem la_X2_kind : Cond.lays RX2 "RemoteReach$Packet" "kind" "I" ∈ TS := List.mem_filter.mpr ⟨mt_1 (List.mem_of_getElem? (i := 75) rfl), rfl⟩
theorem la_X2_number : Cond.lays RX2 "RemoteReach$Packet" "number" "I" ∈ TS := List.mem_filter.mpr ⟨mt_1 (List.mem_of_getElem? (i := 77) rfl), rfl⟩
theorem la_X2_count : Cond.lays RX2 "RemoteReach$Packet" "count" "I" ∈ TS := List.mem_filter.mpr ⟨mt_1 (List.mem_of_getElem? (i := 79) rfl), rfl⟩
theorem la_X2_mark : Cond.lays RX2 "RemoteReach$Packet" "mark" "I" ∈ TS := List.mem_filter.mpr ⟨mt_1 (List.mem_of_getElem? (i := 81) rfl), rfl⟩
theorem la_X2_place : Cond.lays RX2 "RemoteReach$Packet" "place" "I" ∈ TS := List.mem_filter.mpr ⟨mt_1 (List.mem_of_getElem? (i := 83) rfl), rfl⟩
theorem la_X2_value : Cond.lays RX2 "RemoteReach$Packet" "value" "I" ∈ TS := List.mem_filter.mpr ⟨mt_1 (List.mem_of_getElem? (i := 85) rfl), rfl⟩
theorem la_X2_cells : Cond.laysFinal RX2 "RemoteReach$Packet" "cells" "[I" ∈ TS := List.mem_filter.mpr ⟨mt_1 (List.mem_of_getElem? (i := 87) rfl), rfl⟩
theorem ac_int : Cond.arrayClass .int ∈ TS := List.mem_filter.mpr ⟨mt_1 (List.mem_of_getElem? (i := 90) rfl), rfl⟩
theorem fl_X0_11 : Cond.fieldLink RX0 11 "RemoteReach$Fabric" "rows" "[LRemoteReach$Packet;" ∈ TS := List.mem_filter.mpr ⟨mt_1 (List.mem_of_getElem? (i := 91) rfl), rfl⟩
theorem fl_X9_168 : Cond.fieldLink RX9 168 "RemoteReach$Fabric" "rows" "[LRemoteReach$Packet;" ∈ TS := List.mem_filter.mpr ⟨mt_1 (List.mem_of_getElem? (i := 92) rfl), rfl⟩
theorem fl_X0_25 : Cond.fieldLink RX0 25 "RemoteReach$Fabric" "count" "I" ∈ TS := List.mem_filter.mpr ⟨mt_1 (List.mem_of_getElem? (i := 93) rfl), rfl⟩
theorem fl_X9_165 : Cond.fieldLink RX9 165 "RemoteReach$Fabric" "count" "I" ∈ TS := List.mem_filter.mpr ⟨mt_1 (List.mem_of_getElem? (i := 94) rfl), rfl⟩
theorem fl_X0_18 : Cond.fieldLink RX0 18 "RemoteReach$Fabric" "taken" "LRemoteReach$Packet;" ∈ TS := List.mem_filter.mpr ⟨mt_1 (List.mem_of_getElem? (i := 95) rfl), rfl⟩
theorem fl_X0_22 : Cond.fieldLink RX0 22 "RemoteReach$Fabric" "lost" "LRemoteReach$Packet;" ∈ TS := List.mem_filter.mpr ⟨mt_1 (List.mem_of_getElem? (i := 96) rfl), rfl⟩
theorem la_X0_rows : Cond.laysFinal RX0 "RemoteReach$Fabric" "rows" "[LRemoteReach$Packet;" ∈ TS := List.mem_filter.mpr ⟨mt_1 (List.mem_of_getElem? (i := 97) rfl), rfl⟩
theorem la_X0_count : Cond.lays RX0 "RemoteReach$Fabric" "count" "I" ∈ TS := List.mem_filter.mpr ⟨mt_1 (List.mem_of_getElem? (i := 99) rfl), rfl⟩
theorem la_X0_taken : Cond.lays RX0 "RemoteReach$Fabric" "taken" "LRemoteReach$Packet;" ∈ TS := List.mem_filter.mpr ⟨mt_1 (List.mem_of_getElem? (i := 101) rfl), rfl⟩
theorem la_X0_lost : Cond.laysFinal RX0 "RemoteReach$Fabric" "lost" "LRemoteReach$Packet;" ∈ TS := List.mem_filter.mpr ⟨mt_1 (List.mem_of_getElem? (i := 103) rfl), rfl⟩
theorem cl_X9_20 : Cond.classLink RX9 20 RX1 ∈ TS := List.mem_filter.mpr ⟨mt_1 (List.mem_of_getElem? (i := 106) rfl), rfl⟩
theorem ao_X1 : Cond.arrayOver (.object RX1) ∈ TS := List.mem_filter.mpr ⟨mt_1 (List.mem_of_getElem? (i := 107) rfl), rfl⟩
theorem ia_X1 : Cond.instantiable RX1 5 ∈ TS := List.mem_filter.mpr ⟨mt_1 (List.mem_of_getElem? (i := 108) rfl), rfl⟩
theorem ml_X9_26 : Cond.methodLink RX9 26 yX1_init ∈ TS := List.mem_filter.mpr ⟨mt_1 (List.mem_of_getElem? (i := 109) rfl), rfl⟩
theorem im_X1_init : Cond.instanceMethod yX1_init ∈ TS := List.mem_filter.mpr ⟨mt_1 (List.mem_of_getElem? (i := 110) rfl), rfl⟩
set_option maxRecDepth 100000 in
theorem co_X1_init : Cond.code yX1_init cX1_init 2 none ∈ TS := List.mem_filter.mpr ⟨mt_1 (List.mem_of_getElem? (i := 111) (by show tables_1_1[_]? = _; rfl)), rfl⟩
theorem ml_X1_3 : Cond.methodLink RX1 3 ⟨"java/lang/Object", "<init>", "()V"⟩ ∈ TS := List.mem_filter.mpr ⟨mt_1 (List.mem_of_getElem? (i := 112) rfl), rfl⟩
theorem cl_X1_15 : Cond.classLink RX1 15 RX6 ∈ TS := List.mem_filter.mpr ⟨mt_1 (List.mem_of_getElem? (i := 113) rfl), rfl⟩
theorem ao_X6 : Cond.arrayOver (.object RX6) ∈ TS := List.mem_filter.mpr ⟨mt_1 (List.mem_of_getElem? (i := 114) rfl), rfl⟩
theorem ia_X6 : Cond.instantiable RX6 3 ∈ TS := List.mem_filter.mpr ⟨mt_1 (List.mem_of_getElem? (i := 115) rfl), rfl⟩
theorem mn_X1_24 : Cond.methodLinkNest RX1 24 yX6_init RX9 ∈ TS := List.mem_filter.mpr ⟨mt_1 (List.mem_of_getElem? (i := 116) rfl), rfl⟩
theorem im_X6_init : Cond.instanceMethod yX6_init ∈ TS := List.mem_filter.mpr ⟨mt_1 (List.mem_of_getElem? (i := 117) rfl), rfl⟩
set_option maxRecDepth 100000 in
theorem co_X6_init : Cond.code yX6_init cX6_init 1 none ∈ TS := List.mem_filter.mpr ⟨mt_1 (List.mem_of_getElem? (i := 118) (by show tables_1_1[_]? = _; rfl)), rfl⟩
theorem ml_X6_1 : Cond.methodLink RX6 1 ⟨"java/lang/Object", "<init>", "()V"⟩ ∈ TS := List.mem_filter.mpr ⟨mt_1 (List.mem_of_getElem? (i := 119) rfl), rfl⟩
theorem fl_X6_7 : Cond.fieldLink RX6 7 "RemoteReach$Region" "base" "I" ∈ TS := List.mem_filter.mpr ⟨mt_1 (List.mem_of_getElem? (i := 120) rfl), rfl⟩
theorem fl_X6_13 : Cond.fieldLink RX6 13 "RemoteReach$Region" "length" "I" ∈ TS := List.mem_filter.mpr ⟨mt_1 (List.mem_of_getElem? (i := 121) rfl), rfl⟩
theorem fl_X6_16 : Cond.fieldLink RX6 16 "RemoteReach$Region" "rights" "I" ∈ TS := List.mem_filter.mpr ⟨mt_1 (List.mem_of_getElem? (i := 122) rfl), rfl⟩
theorem la_X6_base : Cond.lays RX6 "RemoteReach$Region" "base" "I" ∈ TS := List.mem_filter.mpr ⟨mt_1 (List.mem_of_getElem? (i := 123) rfl), rfl⟩
theorem la_X6_length : Cond.lays RX6 "RemoteReach$Region" "length" "I" ∈ TS := List.mem_filter.mpr ⟨mt_1 (List.mem_of_getElem? (i := 125) rfl), rfl⟩
theorem la_X6_rights : Cond.lays RX6 "RemoteReach$Region" "rights" "I" ∈ TS := List.mem_filter.mpr ⟨mt_1 (List.mem_of_getElem? (i := 127) rfl), rfl⟩
theorem fl_X1_9 : Cond.fieldLink RX1 9 "RemoteReach$Node" "cells" "[I" ∈ TS := List.mem_filter.mpr ⟨mt_1 (List.mem_of_getElem? (i := 130) rfl), rfl⟩
theorem fl_X1_17 : Cond.fieldLink RX1 17 "RemoteReach$Node" "regions" "[LRemoteReach$Region;" ∈ TS := List.mem_filter.mpr ⟨mt_1 (List.mem_of_getElem? (i := 131) rfl), rfl⟩
theorem fl_X9_57 : Cond.fieldLink RX9 57 "RemoteReach$Node" "regions" "[LRemoteReach$Region;" ∈ TS := List.mem_filter.mpr ⟨mt_1 (List.mem_of_getElem? (i := 132) rfl), rfl⟩
theorem fl_X1_21 : Cond.fieldLink RX1 21 "RemoteReach$Node" "ring" "[I" ∈ TS := List.mem_filter.mpr ⟨mt_1 (List.mem_of_getElem? (i := 133) rfl), rfl⟩
theorem fl_X1_40 : Cond.fieldLink RX1 40 "RemoteReach$Node" "head" "I" ∈ TS := List.mem_filter.mpr ⟨mt_1 (List.mem_of_getElem? (i := 134) rfl), rfl⟩
theorem fl_X1_36 : Cond.fieldLink RX1 36 "RemoteReach$Node" "completed" "I" ∈ TS := List.mem_filter.mpr ⟨mt_1 (List.mem_of_getElem? (i := 135) rfl), rfl⟩
theorem fl_X9_176 : Cond.fieldLink RX9 176 "RemoteReach$Node" "completed" "I" ∈ TS := List.mem_filter.mpr ⟨mt_1 (List.mem_of_getElem? (i := 136) rfl), rfl⟩
theorem la_X1_cells : Cond.laysFinal RX1 "RemoteReach$Node" "cells" "[I" ∈ TS := List.mem_filter.mpr ⟨mt_1 (List.mem_of_getElem? (i := 137) rfl), rfl⟩
theorem la_X1_regions : Cond.laysFinal RX1 "RemoteReach$Node" "regions" "[LRemoteReach$Region;" ∈ TS := List.mem_filter.mpr ⟨mt_1 (List.mem_of_getElem? (i := 139) rfl), rfl⟩
theorem la_X1_ring : Cond.laysFinal RX1 "RemoteReach$Node" "ring" "[I" ∈ TS := List.mem_filter.mpr ⟨mt_1 (List.mem_of_getElem? (i := 141) rfl), rfl⟩
theorem la_X1_head : Cond.lays RX1 "RemoteReach$Node" "head" "I" ∈ TS := List.mem_filter.mpr ⟨mt_1 (List.mem_of_getElem? (i := 143) rfl), rfl⟩
theorem la_X1_completed : Cond.lays RX1 "RemoteReach$Node" "completed" "I" ∈ TS := List.mem_filter.mpr ⟨mt_1 (List.mem_of_getElem? (i := 145) rfl), rfl⟩
theorem cl_X9_27 : Cond.classLink RX9 27 RX3 ∈ TS := List.mem_filter.mpr ⟨mt_1 (List.mem_of_getElem? (i := 148) rfl), rfl⟩
theorem ao_X3 : Cond.arrayOver (.object RX3) ∈ TS := List.mem_filter.mpr ⟨mt_1 (List.mem_of_getElem? (i := 149) rfl), rfl⟩
theorem cl_X9_33 : Cond.classLink RX9 33 RX7 ∈ TS := List.mem_filter.mpr ⟨mt_1 (List.mem_of_getElem? (i := 150) rfl), rfl⟩
theorem ia_X7 : Cond.instantiable RX7 14 ∈ TS := List.mem_filter.mpr ⟨mt_1 (List.mem_of_getElem? (i := 151) rfl), rfl⟩
theorem ml_X9_35 : Cond.methodLink RX9 35 yX7_init ∈ TS := List.mem_filter.mpr ⟨mt_1 (List.mem_of_getElem? (i := 152) rfl), rfl⟩
theorem im_X7_init : Cond.instanceMethod yX7_init ∈ TS := List.mem_filter.mpr ⟨mt_1 (List.mem_of_getElem? (i := 153) rfl), rfl⟩
set_option maxRecDepth 100000 in
theorem co_X7_init : Cond.code yX7_init cX7_init 7 none ∈ TS := List.mem_filter.mpr ⟨mt_1 (List.mem_of_getElem? (i := 154) (by show tables_1_1[_]? = _; rfl)), rfl⟩
theorem ml_X7_3 : Cond.methodLink RX7 3 ⟨"java/lang/Object", "<init>", "()V"⟩ ∈ TS := List.mem_filter.mpr ⟨mt_1 (List.mem_of_getElem? (i := 155) rfl), rfl⟩
theorem mn_X7_9 : Cond.methodLinkNest RX7 9 yX9_peerOf RX9 ∈ TS := List.mem_filter.mpr ⟨mt_1 (List.mem_of_getElem? (i := 156) rfl), rfl⟩
theorem st_X9_peerOf : Cond.static yX9_peerOf ∈ TS := List.mem_filter.mpr ⟨mt_1 (List.mem_of_getElem? (i := 157) rfl), rfl⟩
set_option maxRecDepth 100000 in
theorem co_X9_peerOf : Cond.code yX9_peerOf cX9_peerOf 1 (some .int) ∈ TS := List.mem_filter.mpr ⟨mt_1 (List.mem_of_getElem? (i := 158) (by show tables_1_1[_]? = _; rfl)), rfl⟩
theorem cl_X7_36 : Cond.classLink RX7 36 RX5 ∈ TS := List.mem_filter.mpr ⟨mt_1 (List.mem_of_getElem? (i := 159) rfl), rfl⟩
theorem ia_X5 : Cond.instantiable RX5 6 ∈ TS := List.mem_filter.mpr ⟨mt_1 (List.mem_of_getElem? (i := 160) rfl), rfl⟩
theorem ml_X7_38 : Cond.methodLink RX7 38 yX5_init ∈ TS := List.mem_filter.mpr ⟨mt_1 (List.mem_of_getElem? (i := 161) rfl), rfl⟩
theorem im_X5_init : Cond.instanceMethod yX5_init ∈ TS := List.mem_filter.mpr ⟨mt_1 (List.mem_of_getElem? (i := 162) rfl), rfl⟩
set_option maxRecDepth 100000 in
theorem co_X5_init : Cond.code yX5_init cX5_init 4 none ∈ TS := List.mem_filter.mpr ⟨mt_1 (List.mem_of_getElem? (i := 163) (by show tables_1_1[_]? = _; rfl)), rfl⟩
theorem ml_X5_3 : Cond.methodLink RX5 3 ⟨"java/lang/Object", "<init>", "()V"⟩ ∈ TS := List.mem_filter.mpr ⟨mt_1 (List.mem_of_getElem? (i := 164) rfl), rfl⟩
theorem cl_X5_9 : Cond.classLink RX5 9 RX4 ∈ TS := List.mem_filter.mpr ⟨mt_1 (List.mem_of_getElem? (i := 165) rfl), rfl⟩
theorem ao_X4 : Cond.arrayOver (.object RX4) ∈ TS := List.mem_filter.mpr ⟨mt_1 (List.mem_of_getElem? (i := 166) rfl), rfl⟩
theorem ia_X4 : Cond.instantiable RX4 10 ∈ TS := List.mem_filter.mpr ⟨mt_1 (List.mem_of_getElem? (i := 167) rfl), rfl⟩
theorem mn_X5_25 : Cond.methodLinkNest RX5 25 yX4_init RX9 ∈ TS := List.mem_filter.mpr ⟨mt_1 (List.mem_of_getElem? (i := 168) rfl), rfl⟩
theorem im_X4_init : Cond.instanceMethod yX4_init ∈ TS := List.mem_filter.mpr ⟨mt_1 (List.mem_of_getElem? (i := 169) rfl), rfl⟩
set_option maxRecDepth 100000 in
theorem co_X4_init : Cond.code yX4_init cX4_init 1 none ∈ TS := List.mem_filter.mpr ⟨mt_1 (List.mem_of_getElem? (i := 170) (by show tables_1_1[_]? = _; rfl)), rfl⟩
theorem ml_X4_3 : Cond.methodLink RX4 3 ⟨"java/lang/Object", "<init>", "()V"⟩ ∈ TS := List.mem_filter.mpr ⟨mt_1 (List.mem_of_getElem? (i := 171) rfl), rfl⟩
theorem fl_X4_24 : Cond.fieldLink RX4 24 "RemoteReach$Posted" "kind" "I" ∈ TS := List.mem_filter.mpr ⟨mt_1 (List.mem_of_getElem? (i := 172) rfl), rfl⟩
theorem fl_X5_39 : Cond.fieldLink RX5 39 "RemoteReach$Posted" "kind" "I" ∈ TS := List.mem_filter.mpr ⟨mt_1 (List.mem_of_getElem? (i := 173) rfl), rfl⟩
theorem fl_X1_43 : Cond.fieldLink RX1 43 "RemoteReach$Posted" "kind" "I" ∈ TS := List.mem_filter.mpr ⟨mt_1 (List.mem_of_getElem? (i := 174) rfl), rfl⟩
theorem fl_X7_118 : Cond.fieldLink RX7 118 "RemoteReach$Posted" "kind" "I" ∈ TS := List.mem_filter.mpr ⟨mt_1 (List.mem_of_getElem? (i := 175) rfl), rfl⟩
theorem fl_X7_102 : Cond.fieldLink RX7 102 "RemoteReach$Posted" "serial" "I" ∈ TS := List.mem_filter.mpr ⟨mt_1 (List.mem_of_getElem? (i := 176) rfl), rfl⟩
theorem fl_X5_42 : Cond.fieldLink RX5 42 "RemoteReach$Posted" "serial" "I" ∈ TS := List.mem_filter.mpr ⟨mt_1 (List.mem_of_getElem? (i := 177) rfl), rfl⟩
theorem fl_X1_48 : Cond.fieldLink RX1 48 "RemoteReach$Posted" "serial" "I" ∈ TS := List.mem_filter.mpr ⟨mt_1 (List.mem_of_getElem? (i := 178) rfl), rfl⟩
theorem fl_X9_130 : Cond.fieldLink RX9 130 "RemoteReach$Posted" "serial" "I" ∈ TS := List.mem_filter.mpr ⟨mt_1 (List.mem_of_getElem? (i := 179) rfl), rfl⟩
theorem fl_X5_45 : Cond.fieldLink RX5 45 "RemoteReach$Posted" "here" "I" ∈ TS := List.mem_filter.mpr ⟨mt_1 (List.mem_of_getElem? (i := 180) rfl), rfl⟩
theorem fl_X7_146 : Cond.fieldLink RX7 146 "RemoteReach$Posted" "here" "I" ∈ TS := List.mem_filter.mpr ⟨mt_1 (List.mem_of_getElem? (i := 181) rfl), rfl⟩
theorem fl_X8_129 : Cond.fieldLink RX8 129 "RemoteReach$Posted" "here" "I" ∈ TS := List.mem_filter.mpr ⟨mt_1 (List.mem_of_getElem? (i := 182) rfl), rfl⟩
theorem fl_X4_9 : Cond.fieldLink RX4 9 "RemoteReach$Posted" "n" "I" ∈ TS := List.mem_filter.mpr ⟨mt_1 (List.mem_of_getElem? (i := 183) rfl), rfl⟩
theorem fl_X5_48 : Cond.fieldLink RX5 48 "RemoteReach$Posted" "n" "I" ∈ TS := List.mem_filter.mpr ⟨mt_1 (List.mem_of_getElem? (i := 184) rfl), rfl⟩
theorem fl_X1_54 : Cond.fieldLink RX1 54 "RemoteReach$Posted" "n" "I" ∈ TS := List.mem_filter.mpr ⟨mt_1 (List.mem_of_getElem? (i := 185) rfl), rfl⟩
theorem fl_X7_141 : Cond.fieldLink RX7 141 "RemoteReach$Posted" "n" "I" ∈ TS := List.mem_filter.mpr ⟨mt_1 (List.mem_of_getElem? (i := 186) rfl), rfl⟩
theorem fl_X8_120 : Cond.fieldLink RX8 120 "RemoteReach$Posted" "n" "I" ∈ TS := List.mem_filter.mpr ⟨mt_1 (List.mem_of_getElem? (i := 187) rfl), rfl⟩
theorem fl_X7_78 : Cond.fieldLink RX7 78 "RemoteReach$Posted" "first" "I" ∈ TS := List.mem_filter.mpr ⟨mt_1 (List.mem_of_getElem? (i := 188) rfl), rfl⟩
theorem fl_X4_21 : Cond.fieldLink RX4 21 "RemoteReach$Posted" "numbers" "I" ∈ TS := List.mem_filter.mpr ⟨mt_1 (List.mem_of_getElem? (i := 189) rfl), rfl⟩
theorem fl_X7_86 : Cond.fieldLink RX7 86 "RemoteReach$Posted" "numbers" "I" ∈ TS := List.mem_filter.mpr ⟨mt_1 (List.mem_of_getElem? (i := 190) rfl), rfl⟩
theorem fl_X7_89 : Cond.fieldLink RX7 89 "RemoteReach$Posted" "region" "I" ∈ TS := List.mem_filter.mpr ⟨mt_1 (List.mem_of_getElem? (i := 191) rfl), rfl⟩
theorem fl_X7_92 : Cond.fieldLink RX7 92 "RemoteReach$Posted" "place" "I" ∈ TS := List.mem_filter.mpr ⟨mt_1 (List.mem_of_getElem? (i := 192) rfl), rfl⟩
theorem fl_X7_95 : Cond.fieldLink RX7 95 "RemoteReach$Posted" "value" "I" ∈ TS := List.mem_filter.mpr ⟨mt_1 (List.mem_of_getElem? (i := 193) rfl), rfl⟩
theorem fl_X5_51 : Cond.fieldLink RX5 51 "RemoteReach$Posted" "came" "I" ∈ TS := List.mem_filter.mpr ⟨mt_1 (List.mem_of_getElem? (i := 194) rfl), rfl⟩
theorem fl_X1_51 : Cond.fieldLink RX1 51 "RemoteReach$Posted" "came" "I" ∈ TS := List.mem_filter.mpr ⟨mt_1 (List.mem_of_getElem? (i := 195) rfl), rfl⟩
theorem fl_X8_125 : Cond.fieldLink RX8 125 "RemoteReach$Posted" "came" "I" ∈ TS := List.mem_filter.mpr ⟨mt_1 (List.mem_of_getElem? (i := 196) rfl), rfl⟩
theorem la_X4_kind : Cond.lays RX4 "RemoteReach$Posted" "kind" "I" ∈ TS := List.mem_filter.mpr ⟨mt_1 (List.mem_of_getElem? (i := 197) rfl), rfl⟩
theorem la_X4_serial : Cond.lays RX4 "RemoteReach$Posted" "serial" "I" ∈ TS := List.mem_filter.mpr ⟨mt_1 (List.mem_of_getElem? (i := 199) rfl), rfl⟩
theorem la_X4_here : Cond.lays RX4 "RemoteReach$Posted" "here" "I" ∈ TS := List.mem_filter.mpr ⟨mt_1 (List.mem_of_getElem? (i := 201) rfl), rfl⟩
theorem la_X4_n : Cond.lays RX4 "RemoteReach$Posted" "n" "I" ∈ TS := List.mem_filter.mpr ⟨mt_1 (List.mem_of_getElem? (i := 203) rfl), rfl⟩
theorem la_X4_first : Cond.lays RX4 "RemoteReach$Posted" "first" "I" ∈ TS := List.mem_filter.mpr ⟨mt_1 (List.mem_of_getElem? (i := 205) rfl), rfl⟩
theorem la_X4_numbers : Cond.lays RX4 "RemoteReach$Posted" "numbers" "I" ∈ TS := List.mem_filter.mpr ⟨mt_1 (List.mem_of_getElem? (i := 207) rfl), rfl⟩
theorem la_X4_region : Cond.lays RX4 "RemoteReach$Posted" "region" "I" ∈ TS := List.mem_filter.mpr ⟨mt_1 (List.mem_of_getElem? (i := 209) rfl), rfl⟩
theorem la_X4_place : Cond.lays RX4 "RemoteReach$Posted" "place" "I" ∈ TS := List.mem_filter.mpr ⟨mt_1 (List.mem_of_getElem? (i := 211) rfl), rfl⟩
theorem la_X4_value : Cond.lays RX4 "RemoteReach$Posted" "value" "I" ∈ TS := List.mem_filter.mpr ⟨mt_1 (List.mem_of_getElem? (i := 213) rfl), rfl⟩
theorem la_X4_came : Cond.lays RX4 "RemoteReach$Posted" "came" "I" ∈ TS := List.mem_filter.mpr ⟨mt_1 (List.mem_of_getElem? (i := 215) rfl), rfl⟩
theorem fl_X5_17 : Cond.fieldLink RX5 17 "RemoteReach$Queue" "pair" "I" ∈ TS := List.mem_filter.mpr ⟨mt_1 (List.mem_of_getElem? (i := 218) rfl), rfl⟩
theorem fl_X5_21 : Cond.fieldLink RX5 21 "RemoteReach$Queue" "node" "LRemoteReach$Node;" ∈ TS := List.mem_filter.mpr ⟨mt_1 (List.mem_of_getElem? (i := 219) rfl), rfl⟩
theorem fl_X5_11 : Cond.fieldLink RX5 11 "RemoteReach$Queue" "rows" "[LRemoteReach$Posted;" ∈ TS := List.mem_filter.mpr ⟨mt_1 (List.mem_of_getElem? (i := 220) rfl), rfl⟩
theorem fl_X5_26 : Cond.fieldLink RX5 26 "RemoteReach$Queue" "head" "I" ∈ TS := List.mem_filter.mpr ⟨mt_1 (List.mem_of_getElem? (i := 221) rfl), rfl⟩
theorem fl_X5_29 : Cond.fieldLink RX5 29 "RemoteReach$Queue" "count" "I" ∈ TS := List.mem_filter.mpr ⟨mt_1 (List.mem_of_getElem? (i := 222) rfl), rfl⟩
theorem fl_X7_105 : Cond.fieldLink RX7 105 "RemoteReach$Queue" "count" "I" ∈ TS := List.mem_filter.mpr ⟨mt_1 (List.mem_of_getElem? (i := 223) rfl), rfl⟩
theorem fl_X8_113 : Cond.fieldLink RX8 113 "RemoteReach$Queue" "count" "I" ∈ TS := List.mem_filter.mpr ⟨mt_1 (List.mem_of_getElem? (i := 224) rfl), rfl⟩
theorem fl_X3_97 : Cond.fieldLink RX3 97 "RemoteReach$Queue" "count" "I" ∈ TS := List.mem_filter.mpr ⟨mt_1 (List.mem_of_getElem? (i := 225) rfl), rfl⟩
theorem fl_X5_32 : Cond.fieldLink RX5 32 "RemoteReach$Queue" "serials" "I" ∈ TS := List.mem_filter.mpr ⟨mt_1 (List.mem_of_getElem? (i := 226) rfl), rfl⟩
theorem la_X5_pair : Cond.laysFinal RX5 "RemoteReach$Queue" "pair" "I" ∈ TS := List.mem_filter.mpr ⟨mt_1 (List.mem_of_getElem? (i := 227) rfl), rfl⟩
theorem la_X5_node : Cond.laysFinal RX5 "RemoteReach$Queue" "node" "LRemoteReach$Node;" ∈ TS := List.mem_filter.mpr ⟨mt_1 (List.mem_of_getElem? (i := 229) rfl), rfl⟩
theorem la_X5_rows : Cond.laysFinal RX5 "RemoteReach$Queue" "rows" "[LRemoteReach$Posted;" ∈ TS := List.mem_filter.mpr ⟨mt_1 (List.mem_of_getElem? (i := 231) rfl), rfl⟩
theorem la_X5_head : Cond.lays RX5 "RemoteReach$Queue" "head" "I" ∈ TS := List.mem_filter.mpr ⟨mt_1 (List.mem_of_getElem? (i := 233) rfl), rfl⟩
theorem la_X5_count : Cond.lays RX5 "RemoteReach$Queue" "count" "I" ∈ TS := List.mem_filter.mpr ⟨mt_1 (List.mem_of_getElem? (i := 235) rfl), rfl⟩
theorem la_X5_serials : Cond.lays RX5 "RemoteReach$Queue" "serials" "I" ∈ TS := List.mem_filter.mpr ⟨mt_1 (List.mem_of_getElem? (i := 237) rfl), rfl⟩
theorem fl_X7_13 : Cond.fieldLink RX7 13 "RemoteReach$Requester" "peer" "I" ∈ TS := List.mem_filter.mpr ⟨mt_2 (List.mem_of_getElem? (i := 0) rfl), rfl⟩
theorem fl_X7_19 : Cond.fieldLink RX7 19 "RemoteReach$Requester" "node" "LRemoteReach$Node;" ∈ TS := List.mem_filter.mpr ⟨mt_2 (List.mem_of_getElem? (i := 1) rfl), rfl⟩
theorem fl_X7_23 : Cond.fieldLink RX7 23 "RemoteReach$Requester" "fabric" "LRemoteReach$Fabric;" ∈ TS := List.mem_filter.mpr ⟨mt_2 (List.mem_of_getElem? (i := 2) rfl), rfl⟩
theorem fl_X7_27 : Cond.fieldLink RX7 27 "RemoteReach$Requester" "timeout" "I" ∈ TS := List.mem_filter.mpr ⟨mt_2 (List.mem_of_getElem? (i := 3) rfl), rfl⟩
theorem fl_X7_30 : Cond.fieldLink RX7 30 "RemoteReach$Requester" "mostTries" "I" ∈ TS := List.mem_filter.mpr ⟨mt_2 (List.mem_of_getElem? (i := 4) rfl), rfl⟩
theorem fl_X7_33 : Cond.fieldLink RX7 33 "RemoteReach$Requester" "mostRefusals" "I" ∈ TS := List.mem_filter.mpr ⟨mt_2 (List.mem_of_getElem? (i := 5) rfl), rfl⟩
theorem fl_X7_41 : Cond.fieldLink RX7 41 "RemoteReach$Requester" "requests" "LRemoteReach$Queue;" ∈ TS := List.mem_filter.mpr ⟨mt_2 (List.mem_of_getElem? (i := 6) rfl), rfl⟩
theorem fl_X3_38 : Cond.fieldLink RX3 38 "RemoteReach$Requester" "requests" "LRemoteReach$Queue;" ∈ TS := List.mem_filter.mpr ⟨mt_2 (List.mem_of_getElem? (i := 7) rfl), rfl⟩
theorem fl_X7_65 : Cond.fieldLink RX7 65 "RemoteReach$Requester" "next" "I" ∈ TS := List.mem_filter.mpr ⟨mt_2 (List.mem_of_getElem? (i := 8) rfl), rfl⟩
theorem fl_X3_88 : Cond.fieldLink RX3 88 "RemoteReach$Requester" "next" "I" ∈ TS := List.mem_filter.mpr ⟨mt_2 (List.mem_of_getElem? (i := 9) rfl), rfl⟩
theorem fl_X7_68 : Cond.fieldLink RX7 68 "RemoteReach$Requester" "oldest" "I" ∈ TS := List.mem_filter.mpr ⟨mt_2 (List.mem_of_getElem? (i := 10) rfl), rfl⟩
theorem fl_X3_91 : Cond.fieldLink RX3 91 "RemoteReach$Requester" "oldest" "I" ∈ TS := List.mem_filter.mpr ⟨mt_2 (List.mem_of_getElem? (i := 11) rfl), rfl⟩
theorem fl_X7_71 : Cond.fieldLink RX7 71 "RemoteReach$Requester" "cursor" "I" ∈ TS := List.mem_filter.mpr ⟨mt_2 (List.mem_of_getElem? (i := 12) rfl), rfl⟩
theorem fl_X3_94 : Cond.fieldLink RX3 94 "RemoteReach$Requester" "cursor" "I" ∈ TS := List.mem_filter.mpr ⟨mt_2 (List.mem_of_getElem? (i := 13) rfl), rfl⟩
theorem fl_X7_52 : Cond.fieldLink RX7 52 "RemoteReach$Requester" "clock" "I" ∈ TS := List.mem_filter.mpr ⟨mt_2 (List.mem_of_getElem? (i := 14) rfl), rfl⟩
theorem fl_X7_55 : Cond.fieldLink RX7 55 "RemoteReach$Requester" "tries" "I" ∈ TS := List.mem_filter.mpr ⟨mt_2 (List.mem_of_getElem? (i := 15) rfl), rfl⟩
theorem fl_X7_58 : Cond.fieldLink RX7 58 "RemoteReach$Requester" "refusals" "I" ∈ TS := List.mem_filter.mpr ⟨mt_2 (List.mem_of_getElem? (i := 16) rfl), rfl⟩
theorem fl_X7_61 : Cond.fieldLink RX7 61 "RemoteReach$Requester" "resting" "Z" ∈ TS := List.mem_filter.mpr ⟨mt_2 (List.mem_of_getElem? (i := 17) rfl), rfl⟩
theorem fl_X3_100 : Cond.fieldLink RX3 100 "RemoteReach$Requester" "resting" "Z" ∈ TS := List.mem_filter.mpr ⟨mt_2 (List.mem_of_getElem? (i := 18) rfl), rfl⟩
theorem la_X7_peer : Cond.laysFinal RX7 "RemoteReach$Requester" "peer" "I" ∈ TS := List.mem_filter.mpr ⟨mt_2 (List.mem_of_getElem? (i := 19) rfl), rfl⟩
theorem la_X7_node : Cond.laysFinal RX7 "RemoteReach$Requester" "node" "LRemoteReach$Node;" ∈ TS := List.mem_filter.mpr ⟨mt_2 (List.mem_of_getElem? (i := 21) rfl), rfl⟩
theorem la_X7_fabric : Cond.laysFinal RX7 "RemoteReach$Requester" "fabric" "LRemoteReach$Fabric;" ∈ TS := List.mem_filter.mpr ⟨mt_2 (List.mem_of_getElem? (i := 23) rfl), rfl⟩
theorem la_X7_timeout : Cond.laysFinal RX7 "RemoteReach$Requester" "timeout" "I" ∈ TS := List.mem_filter.mpr ⟨mt_2 (List.mem_of_getElem? (i := 25) rfl), rfl⟩
theorem la_X7_mostTries : Cond.laysFinal RX7 "RemoteReach$Requester" "mostTries" "I" ∈ TS := List.mem_filter.mpr ⟨mt_2 (List.mem_of_getElem? (i := 27) rfl), rfl⟩
theorem la_X7_mostRefusals : Cond.laysFinal RX7 "RemoteReach$Requester" "mostRefusals" "I" ∈ TS := List.mem_filter.mpr ⟨mt_2 (List.mem_of_getElem? (i := 29) rfl), rfl⟩
theorem la_X7_requests : Cond.laysFinal RX7 "RemoteReach$Requester" "requests" "LRemoteReach$Queue;" ∈ TS := List.mem_filter.mpr ⟨mt_2 (List.mem_of_getElem? (i := 31) rfl), rfl⟩
theorem la_X7_next : Cond.lays RX7 "RemoteReach$Requester" "next" "I" ∈ TS := List.mem_filter.mpr ⟨mt_2 (List.mem_of_getElem? (i := 33) rfl), rfl⟩
theorem la_X7_oldest : Cond.lays RX7 "RemoteReach$Requester" "oldest" "I" ∈ TS := List.mem_filter.mpr ⟨mt_2 (List.mem_of_getElem? (i := 35) rfl), rfl⟩
theorem la_X7_cursor : Cond.lays RX7 "RemoteReach$Requester" "cursor" "I" ∈ TS := List.mem_filter.mpr ⟨mt_2 (List.mem_of_getElem? (i := 37) rfl), rfl⟩
theorem la_X7_clock : Cond.lays RX7 "RemoteReach$Requester" "clock" "I" ∈ TS := List.mem_filter.mpr ⟨mt_2 (List.mem_of_getElem? (i := 39) rfl), rfl⟩
theorem la_X7_tries : Cond.lays RX7 "RemoteReach$Requester" "tries" "I" ∈ TS := List.mem_filter.mpr ⟨mt_2 (List.mem_of_getElem? (i := 41) rfl), rfl⟩
theorem la_X7_refusals : Cond.lays RX7 "RemoteReach$Requester" "refusals" "I" ∈ TS := List.mem_filter.mpr ⟨mt_2 (List.mem_of_getElem? (i := 43) rfl), rfl⟩
theorem la_X7_resting : Cond.lays RX7 "RemoteReach$Requester" "resting" "Z" ∈ TS := List.mem_filter.mpr ⟨mt_2 (List.mem_of_getElem? (i := 45) rfl), rfl⟩
theorem ia_X3 : Cond.instantiable RX3 3 ∈ TS := List.mem_filter.mpr ⟨mt_2 (List.mem_of_getElem? (i := 48) rfl), rfl⟩
theorem cl_X9_38 : Cond.classLink RX9 38 RX8 ∈ TS := List.mem_filter.mpr ⟨mt_2 (List.mem_of_getElem? (i := 49) rfl), rfl⟩
theorem ia_X8 : Cond.instantiable RX8 9 ∈ TS := List.mem_filter.mpr ⟨mt_2 (List.mem_of_getElem? (i := 50) rfl), rfl⟩
theorem ml_X9_40 : Cond.methodLink RX9 40 yX8_init ∈ TS := List.mem_filter.mpr ⟨mt_2 (List.mem_of_getElem? (i := 51) rfl), rfl⟩
theorem im_X8_init : Cond.instanceMethod yX8_init ∈ TS := List.mem_filter.mpr ⟨mt_2 (List.mem_of_getElem? (i := 52) rfl), rfl⟩
set_option maxRecDepth 100000 in
theorem co_X8_init : Cond.code yX8_init cX8_init 4 none ∈ TS := List.mem_filter.mpr ⟨mt_2 (List.mem_of_getElem? (i := 53) (by show tables_1_2[_]? = _; rfl)), rfl⟩
theorem ml_X8_3 : Cond.methodLink RX8 3 ⟨"java/lang/Object", "<init>", "()V"⟩ ∈ TS := List.mem_filter.mpr ⟨mt_2 (List.mem_of_getElem? (i := 54) rfl), rfl⟩
theorem mn_X8_18 : Cond.methodLinkNest RX8 18 yX9_peerOf RX9 ∈ TS := List.mem_filter.mpr ⟨mt_2 (List.mem_of_getElem? (i := 55) rfl), rfl⟩
theorem cl_X8_34 : Cond.classLink RX8 34 RX5 ∈ TS := List.mem_filter.mpr ⟨mt_2 (List.mem_of_getElem? (i := 56) rfl), rfl⟩
theorem ml_X8_36 : Cond.methodLink RX8 36 yX5_init ∈ TS := List.mem_filter.mpr ⟨mt_2 (List.mem_of_getElem? (i := 57) rfl), rfl⟩
theorem ml_X8_43 : Cond.methodLink RX8 43 yX8_forgetAdds ∈ TS := List.mem_filter.mpr ⟨mt_2 (List.mem_of_getElem? (i := 58) rfl), rfl⟩
theorem im_X8_forgetAdds : Cond.instanceMethod yX8_forgetAdds ∈ TS := List.mem_filter.mpr ⟨mt_2 (List.mem_of_getElem? (i := 59) rfl), rfl⟩
theorem se_X8_X8_forgetAdds : Cond.selects RX8 yX8_forgetAdds yX8_forgetAdds ∈ TS := List.mem_filter.mpr ⟨mt_2 (List.mem_of_getElem? (i := 60) rfl), rfl⟩
set_option maxRecDepth 100000 in
theorem co_X8_forgetAdds : Cond.code yX8_forgetAdds cX8_forgetAdds 2 none ∈ TS := List.mem_filter.mpr ⟨mt_2 (List.mem_of_getElem? (i := 61) (by show tables_1_2[_]? = _; rfl)), rfl⟩
theorem fl_X8_22 : Cond.fieldLink RX8 22 "RemoteReach$Responder" "peer" "I" ∈ TS := List.mem_filter.mpr ⟨mt_2 (List.mem_of_getElem? (i := 62) rfl), rfl⟩
theorem fl_X8_26 : Cond.fieldLink RX8 26 "RemoteReach$Responder" "node" "LRemoteReach$Node;" ∈ TS := List.mem_filter.mpr ⟨mt_2 (List.mem_of_getElem? (i := 63) rfl), rfl⟩
theorem fl_X8_30 : Cond.fieldLink RX8 30 "RemoteReach$Responder" "fabric" "LRemoteReach$Fabric;" ∈ TS := List.mem_filter.mpr ⟨mt_2 (List.mem_of_getElem? (i := 64) rfl), rfl⟩
theorem fl_X8_39 : Cond.fieldLink RX8 39 "RemoteReach$Responder" "receives" "LRemoteReach$Queue;" ∈ TS := List.mem_filter.mpr ⟨mt_2 (List.mem_of_getElem? (i := 65) rfl), rfl⟩
theorem fl_X3_48 : Cond.fieldLink RX3 48 "RemoteReach$Responder" "receives" "LRemoteReach$Queue;" ∈ TS := List.mem_filter.mpr ⟨mt_2 (List.mem_of_getElem? (i := 66) rfl), rfl⟩
theorem fl_X9_120 : Cond.fieldLink RX9 120 "RemoteReach$Responder" "receives" "LRemoteReach$Queue;" ∈ TS := List.mem_filter.mpr ⟨mt_2 (List.mem_of_getElem? (i := 67) rfl), rfl⟩
theorem fl_X8_49 : Cond.fieldLink RX8 49 "RemoteReach$Responder" "expected" "I" ∈ TS := List.mem_filter.mpr ⟨mt_2 (List.mem_of_getElem? (i := 68) rfl), rfl⟩
theorem fl_X3_35 : Cond.fieldLink RX3 35 "RemoteReach$Responder" "expected" "I" ∈ TS := List.mem_filter.mpr ⟨mt_2 (List.mem_of_getElem? (i := 69) rfl), rfl⟩
theorem fl_X8_52 : Cond.fieldLink RX8 52 "RemoteReach$Responder" "begun" "Z" ∈ TS := List.mem_filter.mpr ⟨mt_2 (List.mem_of_getElem? (i := 70) rfl), rfl⟩
theorem fl_X8_56 : Cond.fieldLink RX8 56 "RemoteReach$Responder" "sequenceTold" "Z" ∈ TS := List.mem_filter.mpr ⟨mt_2 (List.mem_of_getElem? (i := 71) rfl), rfl⟩
theorem fl_X8_9 : Cond.fieldLink RX8 9 "RemoteReach$Responder" "addNumbers" "[I" ∈ TS := List.mem_filter.mpr ⟨mt_2 (List.mem_of_getElem? (i := 72) rfl), rfl⟩
theorem fl_X8_15 : Cond.fieldLink RX8 15 "RemoteReach$Responder" "addReplies" "[I" ∈ TS := List.mem_filter.mpr ⟨mt_2 (List.mem_of_getElem? (i := 73) rfl), rfl⟩
theorem la_X8_peer : Cond.laysFinal RX8 "RemoteReach$Responder" "peer" "I" ∈ TS := List.mem_filter.mpr ⟨mt_2 (List.mem_of_getElem? (i := 74) rfl), rfl⟩
theorem la_X8_node : Cond.laysFinal RX8 "RemoteReach$Responder" "node" "LRemoteReach$Node;" ∈ TS := List.mem_filter.mpr ⟨mt_2 (List.mem_of_getElem? (i := 76) rfl), rfl⟩
theorem la_X8_fabric : Cond.laysFinal RX8 "RemoteReach$Responder" "fabric" "LRemoteReach$Fabric;" ∈ TS := List.mem_filter.mpr ⟨mt_2 (List.mem_of_getElem? (i := 78) rfl), rfl⟩
theorem la_X8_receives : Cond.laysFinal RX8 "RemoteReach$Responder" "receives" "LRemoteReach$Queue;" ∈ TS := List.mem_filter.mpr ⟨mt_2 (List.mem_of_getElem? (i := 80) rfl), rfl⟩
theorem la_X8_expected : Cond.lays RX8 "RemoteReach$Responder" "expected" "I" ∈ TS := List.mem_filter.mpr ⟨mt_2 (List.mem_of_getElem? (i := 82) rfl), rfl⟩
theorem la_X8_begun : Cond.lays RX8 "RemoteReach$Responder" "begun" "Z" ∈ TS := List.mem_filter.mpr ⟨mt_2 (List.mem_of_getElem? (i := 84) rfl), rfl⟩
theorem la_X8_sequenceTold : Cond.lays RX8 "RemoteReach$Responder" "sequenceTold" "Z" ∈ TS := List.mem_filter.mpr ⟨mt_2 (List.mem_of_getElem? (i := 86) rfl), rfl⟩
theorem la_X8_addNumbers : Cond.laysFinal RX8 "RemoteReach$Responder" "addNumbers" "[I" ∈ TS := List.mem_filter.mpr ⟨mt_2 (List.mem_of_getElem? (i := 88) rfl), rfl⟩
theorem la_X8_addReplies : Cond.laysFinal RX8 "RemoteReach$Responder" "addReplies" "[I" ∈ TS := List.mem_filter.mpr ⟨mt_2 (List.mem_of_getElem? (i := 90) rfl), rfl⟩
theorem ml_X9_43 : Cond.methodLink RX9 43 yX3_init ∈ TS := List.mem_filter.mpr ⟨mt_2 (List.mem_of_getElem? (i := 93) rfl), rfl⟩
theorem im_X3_init : Cond.instanceMethod yX3_init ∈ TS := List.mem_filter.mpr ⟨mt_2 (List.mem_of_getElem? (i := 94) rfl), rfl⟩
set_option maxRecDepth 100000 in
theorem co_X3_init : Cond.code yX3_init cX3_init 3 none ∈ TS := List.mem_filter.mpr ⟨mt_2 (List.mem_of_getElem? (i := 95) (by show tables_1_2[_]? = _; rfl)), rfl⟩
theorem ml_X3_3 : Cond.methodLink RX3 3 ⟨"java/lang/Object", "<init>", "()V"⟩ ∈ TS := List.mem_filter.mpr ⟨mt_2 (List.mem_of_getElem? (i := 96) rfl), rfl⟩
theorem fl_X3_9 : Cond.fieldLink RX3 9 "RemoteReach$Pair" "requester" "LRemoteReach$Requester;" ∈ TS := List.mem_filter.mpr ⟨mt_2 (List.mem_of_getElem? (i := 97) rfl), rfl⟩
theorem fl_X9_105 : Cond.fieldLink RX9 105 "RemoteReach$Pair" "requester" "LRemoteReach$Requester;" ∈ TS := List.mem_filter.mpr ⟨mt_2 (List.mem_of_getElem? (i := 98) rfl), rfl⟩
theorem fl_X3_15 : Cond.fieldLink RX3 15 "RemoteReach$Pair" "responder" "LRemoteReach$Responder;" ∈ TS := List.mem_filter.mpr ⟨mt_2 (List.mem_of_getElem? (i := 99) rfl), rfl⟩
theorem fl_X9_116 : Cond.fieldLink RX9 116 "RemoteReach$Pair" "responder" "LRemoteReach$Responder;" ∈ TS := List.mem_filter.mpr ⟨mt_2 (List.mem_of_getElem? (i := 100) rfl), rfl⟩
theorem fl_X3_19 : Cond.fieldLink RX3 19 "RemoteReach$Pair" "state" "I" ∈ TS := List.mem_filter.mpr ⟨mt_2 (List.mem_of_getElem? (i := 101) rfl), rfl⟩
theorem fl_X9_84 : Cond.fieldLink RX9 84 "RemoteReach$Pair" "state" "I" ∈ TS := List.mem_filter.mpr ⟨mt_2 (List.mem_of_getElem? (i := 102) rfl), rfl⟩
theorem la_X3_requester : Cond.laysFinal RX3 "RemoteReach$Pair" "requester" "LRemoteReach$Requester;" ∈ TS := List.mem_filter.mpr ⟨mt_2 (List.mem_of_getElem? (i := 103) rfl), rfl⟩
theorem la_X3_responder : Cond.laysFinal RX3 "RemoteReach$Pair" "responder" "LRemoteReach$Responder;" ∈ TS := List.mem_filter.mpr ⟨mt_2 (List.mem_of_getElem? (i := 105) rfl), rfl⟩
theorem la_X3_state : Cond.lays RX3 "RemoteReach$Pair" "state" "I" ∈ TS := List.mem_filter.mpr ⟨mt_2 (List.mem_of_getElem? (i := 107) rfl), rfl⟩
theorem fl_X9_22 : Cond.fieldLink RX9 22 "RemoteReach" "nodes" "[LRemoteReach$Node;" ∈ TS := List.mem_filter.mpr ⟨mt_2 (List.mem_of_getElem? (i := 110) rfl), rfl⟩
theorem fl_X9_29 : Cond.fieldLink RX9 29 "RemoteReach" "pairs" "[LRemoteReach$Pair;" ∈ TS := List.mem_filter.mpr ⟨mt_2 (List.mem_of_getElem? (i := 111) rfl), rfl⟩
theorem fl_X9_16 : Cond.fieldLink RX9 16 "RemoteReach" "fabric" "LRemoteReach$Fabric;" ∈ TS := List.mem_filter.mpr ⟨mt_2 (List.mem_of_getElem? (i := 112) rfl), rfl⟩
theorem la_X9_nodes : Cond.laysFinal RX9 "RemoteReach" "nodes" "[LRemoteReach$Node;" ∈ TS := List.mem_filter.mpr ⟨mt_2 (List.mem_of_getElem? (i := 113) rfl), rfl⟩
theorem la_X9_pairs : Cond.laysFinal RX9 "RemoteReach" "pairs" "[LRemoteReach$Pair;" ∈ TS := List.mem_filter.mpr ⟨mt_2 (List.mem_of_getElem? (i := 115) rfl), rfl⟩
theorem la_X9_fabric : Cond.laysFinal RX9 "RemoteReach" "fabric" "LRemoteReach$Fabric;" ∈ TS := List.mem_filter.mpr ⟨mt_2 (List.mem_of_getElem? (i := 117) rfl), rfl⟩
theorem ml_L_64 : Cond.methodLink RL 64 yX9_cell ∈ TS := List.mem_filter.mpr ⟨mt_2 (List.mem_of_getElem? (i := 120) rfl), rfl⟩
theorem im_X9_cell : Cond.instanceMethod yX9_cell ∈ TS := List.mem_filter.mpr ⟨mt_2 (List.mem_of_getElem? (i := 121) rfl), rfl⟩
theorem se_X9_X9_cell : Cond.selects RX9 yX9_cell yX9_cell ∈ TS := List.mem_filter.mpr ⟨mt_2 (List.mem_of_getElem? (i := 122) rfl), rfl⟩
set_option maxRecDepth 100000 in
theorem co_X9_cell : Cond.code yX9_cell cX9_cell 3 (some .int) ∈ TS := List.mem_filter.mpr ⟨mt_2 (List.mem_of_getElem? (i := 123) (by show tables_1_2[_]? = _; rfl)), rfl⟩
theorem ml_X9_46 : Cond.methodLink RX9 46 yX9_isNode ∈ TS := List.mem_filter.mpr ⟨mt_2 (List.mem_of_getElem? (i := 124) rfl), rfl⟩
theorem st_X9_isNode : Cond.static yX9_isNode ∈ TS := List.mem_filter.mpr ⟨mt_2 (List.mem_of_getElem? (i := 125) rfl), rfl⟩
set_option maxRecDepth 100000 in
theorem co_X9_isNode : Cond.code yX9_isNode cX9_isNode 1 (some .boolean) ∈ TS := List.mem_filter.mpr ⟨mt_2 (List.mem_of_getElem? (i := 126) (by show tables_1_2[_]? = _; rfl)), rfl⟩
theorem ml_X9_74 : Cond.methodLink RX9 74 yX1_at ∈ TS := List.mem_filter.mpr ⟨mt_2 (List.mem_of_getElem? (i := 127) rfl), rfl⟩
theorem im_X1_at : Cond.instanceMethod yX1_at ∈ TS := List.mem_filter.mpr ⟨mt_2 (List.mem_of_getElem? (i := 128) rfl), rfl⟩
theorem se_X1_X1_at : Cond.selects RX1 yX1_at yX1_at ∈ TS := List.mem_filter.mpr ⟨mt_2 (List.mem_of_getElem? (i := 129) rfl), rfl⟩
set_option maxRecDepth 100000 in
theorem co_X1_at : Cond.code yX1_at cX1_at 2 (some .int) ∈ TS := List.mem_filter.mpr ⟨mt_2 (List.mem_of_getElem? (i := 130) (by show tables_1_2[_]? = _; rfl)), rfl⟩
theorem mn_X1_25 : Cond.methodLinkNest RX1 25 yX9_isCell RX9 ∈ TS := List.mem_filter.mpr ⟨mt_2 (List.mem_of_getElem? (i := 131) rfl), rfl⟩
theorem st_X9_isCell : Cond.static yX9_isCell ∈ TS := List.mem_filter.mpr ⟨mt_2 (List.mem_of_getElem? (i := 132) rfl), rfl⟩
set_option maxRecDepth 100000 in
theorem co_X9_isCell : Cond.code yX9_isCell cX9_isCell 1 (some .boolean) ∈ TS := List.mem_filter.mpr ⟨mt_2 (List.mem_of_getElem? (i := 133) (by show tables_1_2[_]? = _; rfl)), rfl⟩
theorem ml_L_70 : Cond.methodLink RL 70 yX9_reset ∈ TS := List.mem_filter.mpr ⟨mt_2 (List.mem_of_getElem? (i := 134) rfl), rfl⟩
theorem im_X9_reset : Cond.instanceMethod yX9_reset ∈ TS := List.mem_filter.mpr ⟨mt_2 (List.mem_of_getElem? (i := 135) rfl), rfl⟩
theorem se_X9_X9_reset : Cond.selects RX9 yX9_reset yX9_reset ∈ TS := List.mem_filter.mpr ⟨mt_2 (List.mem_of_getElem? (i := 136) rfl), rfl⟩
set_option maxRecDepth 100000 in
theorem co_X9_reset : Cond.code yX9_reset cX9_reset 2 (some .boolean) ∈ TS := List.mem_filter.mpr ⟨mt_2 (List.mem_of_getElem? (i := 137) (by show tables_1_2[_]? = _; rfl)), rfl⟩
theorem ml_X9_78 : Cond.methodLink RX9 78 yX9_isPair ∈ TS := List.mem_filter.mpr ⟨mt_2 (List.mem_of_getElem? (i := 138) rfl), rfl⟩
theorem st_X9_isPair : Cond.static yX9_isPair ∈ TS := List.mem_filter.mpr ⟨mt_2 (List.mem_of_getElem? (i := 139) rfl), rfl⟩
set_option maxRecDepth 100000 in
theorem co_X9_isPair : Cond.code yX9_isPair cX9_isPair 1 (some .boolean) ∈ TS := List.mem_filter.mpr ⟨mt_2 (List.mem_of_getElem? (i := 140) (by show tables_1_2[_]? = _; rfl)), rfl⟩
theorem ml_X9_94 : Cond.methodLink RX9 94 yX3_clear ∈ TS := List.mem_filter.mpr ⟨mt_2 (List.mem_of_getElem? (i := 141) rfl), rfl⟩
theorem im_X3_clear : Cond.instanceMethod yX3_clear ∈ TS := List.mem_filter.mpr ⟨mt_2 (List.mem_of_getElem? (i := 142) rfl), rfl⟩
theorem se_X3_X3_clear : Cond.selects RX3 yX3_clear yX3_clear ∈ TS := List.mem_filter.mpr ⟨mt_2 (List.mem_of_getElem? (i := 143) rfl), rfl⟩
set_option maxRecDepth 100000 in
theorem co_X3_clear : Cond.code yX3_clear cX3_clear 1 none ∈ TS := List.mem_filter.mpr ⟨mt_2 (List.mem_of_getElem? (i := 144) (by show tables_1_2[_]? = _; rfl)), rfl⟩
theorem ml_X3_23 : Cond.methodLink RX3 23 yX7_clear ∈ TS := List.mem_filter.mpr ⟨mt_2 (List.mem_of_getElem? (i := 145) rfl), rfl⟩
theorem im_X7_clear : Cond.instanceMethod yX7_clear ∈ TS := List.mem_filter.mpr ⟨mt_2 (List.mem_of_getElem? (i := 146) rfl), rfl⟩
theorem se_X7_X7_clear : Cond.selects RX7 yX7_clear yX7_clear ∈ TS := List.mem_filter.mpr ⟨mt_2 (List.mem_of_getElem? (i := 147) rfl), rfl⟩
set_option maxRecDepth 100000 in
theorem co_X7_clear : Cond.code yX7_clear cX7_clear 1 none ∈ TS := List.mem_filter.mpr ⟨mt_2 (List.mem_of_getElem? (i := 148) (by show tables_1_2[_]? = _; rfl)), rfl⟩
theorem ml_X7_45 : Cond.methodLink RX7 45 yX5_clear ∈ TS := List.mem_filter.mpr ⟨mt_2 (List.mem_of_getElem? (i := 149) rfl), rfl⟩
theorem im_X5_clear : Cond.instanceMethod yX5_clear ∈ TS := List.mem_filter.mpr ⟨mt_2 (List.mem_of_getElem? (i := 150) rfl), rfl⟩
theorem se_X5_X5_clear : Cond.selects RX5 yX5_clear yX5_clear ∈ TS := List.mem_filter.mpr ⟨mt_2 (List.mem_of_getElem? (i := 151) rfl), rfl⟩
set_option maxRecDepth 100000 in
theorem co_X5_clear : Cond.code yX5_clear cX5_clear 1 none ∈ TS := List.mem_filter.mpr ⟨mt_2 (List.mem_of_getElem? (i := 152) (by show tables_1_2[_]? = _; rfl)), rfl⟩
theorem ml_X7_48 : Cond.methodLink RX7 48 yX7_start ∈ TS := List.mem_filter.mpr ⟨mt_2 (List.mem_of_getElem? (i := 153) rfl), rfl⟩
theorem im_X7_start : Cond.instanceMethod yX7_start ∈ TS := List.mem_filter.mpr ⟨mt_2 (List.mem_of_getElem? (i := 154) rfl), rfl⟩
theorem se_X7_X7_start : Cond.selects RX7 yX7_start yX7_start ∈ TS := List.mem_filter.mpr ⟨mt_2 (List.mem_of_getElem? (i := 155) rfl), rfl⟩
set_option maxRecDepth 100000 in
theorem co_X7_start : Cond.code yX7_start cX7_start 2 none ∈ TS := List.mem_filter.mpr ⟨mt_2 (List.mem_of_getElem? (i := 156) (by show tables_1_2[_]? = _; rfl)), rfl⟩
theorem ml_X3_28 : Cond.methodLink RX3 28 yX8_clear ∈ TS := List.mem_filter.mpr ⟨mt_2 (List.mem_of_getElem? (i := 157) rfl), rfl⟩
theorem im_X8_clear : Cond.instanceMethod yX8_clear ∈ TS := List.mem_filter.mpr ⟨mt_2 (List.mem_of_getElem? (i := 158) rfl), rfl⟩
theorem se_X8_X8_clear : Cond.selects RX8 yX8_clear yX8_clear ∈ TS := List.mem_filter.mpr ⟨mt_2 (List.mem_of_getElem? (i := 159) rfl), rfl⟩
set_option maxRecDepth 100000 in
theorem co_X8_clear : Cond.code yX8_clear cX8_clear 1 none ∈ TS := List.mem_filter.mpr ⟨mt_2 (List.mem_of_getElem? (i := 160) (by show tables_1_2[_]? = _; rfl)), rfl⟩
theorem ml_X8_46 : Cond.methodLink RX8 46 yX5_clear ∈ TS := List.mem_filter.mpr ⟨mt_2 (List.mem_of_getElem? (i := 161) rfl), rfl⟩
theorem ml_L_90 : Cond.methodLink RL 90 yX9_push ∈ TS := List.mem_filter.mpr ⟨mt_2 (List.mem_of_getElem? (i := 162) rfl), rfl⟩
theorem im_X9_push : Cond.instanceMethod yX9_push ∈ TS := List.mem_filter.mpr ⟨mt_2 (List.mem_of_getElem? (i := 163) rfl), rfl⟩
theorem se_X9_X9_push : Cond.selects RX9 yX9_push yX9_push ∈ TS := List.mem_filter.mpr ⟨mt_2 (List.mem_of_getElem? (i := 164) rfl), rfl⟩
set_option maxRecDepth 100000 in
theorem co_X9_push : Cond.code yX9_push cX9_push 2 (some .int) ∈ TS := List.mem_filter.mpr ⟨mt_2 (List.mem_of_getElem? (i := 165) (by show tables_1_2[_]? = _; rfl)), rfl⟩
theorem ml_X9_135 : Cond.methodLink RX9 135 yX7_sendNext ∈ TS := List.mem_filter.mpr ⟨mt_2 (List.mem_of_getElem? (i := 166) rfl), rfl⟩
theorem im_X7_sendNext : Cond.instanceMethod yX7_sendNext ∈ TS := List.mem_filter.mpr ⟨mt_2 (List.mem_of_getElem? (i := 167) rfl), rfl⟩
theorem se_X7_X7_sendNext : Cond.selects RX7 yX7_sendNext yX7_sendNext ∈ TS := List.mem_filter.mpr ⟨mt_2 (List.mem_of_getElem? (i := 168) rfl), rfl⟩
set_option maxRecDepth 100000 in
theorem co_X7_sendNext : Cond.code yX7_sendNext cX7_sendNext 6 (some .int) ∈ TS := List.mem_filter.mpr ⟨mt_2 (List.mem_of_getElem? (i := 169) (by show tables_1_2[_]? = _; rfl)), rfl⟩
theorem ml_X7_115 : Cond.methodLink RX7 115 yX7_ownerOf ∈ TS := List.mem_filter.mpr ⟨mt_2 (List.mem_of_getElem? (i := 170) rfl), rfl⟩
theorem im_X7_ownerOf : Cond.instanceMethod yX7_ownerOf ∈ TS := List.mem_filter.mpr ⟨mt_2 (List.mem_of_getElem? (i := 171) rfl), rfl⟩
theorem se_X7_X7_ownerOf : Cond.selects RX7 yX7_ownerOf yX7_ownerOf ∈ TS := List.mem_filter.mpr ⟨mt_2 (List.mem_of_getElem? (i := 172) rfl), rfl⟩
set_option maxRecDepth 100000 in
theorem co_X7_ownerOf : Cond.code yX7_ownerOf cX7_ownerOf 4 (some .int) ∈ TS := List.mem_filter.mpr ⟨mt_2 (List.mem_of_getElem? (i := 173) (by show tables_1_2[_]? = _; rfl)), rfl⟩
theorem ml_X7_108 : Cond.methodLink RX7 108 yX5_at ∈ TS := List.mem_filter.mpr ⟨mt_2 (List.mem_of_getElem? (i := 174) rfl), rfl⟩
theorem im_X5_at : Cond.instanceMethod yX5_at ∈ TS := List.mem_filter.mpr ⟨mt_2 (List.mem_of_getElem? (i := 175) rfl), rfl⟩
theorem se_X5_X5_at : Cond.selects RX5 yX5_at yX5_at ∈ TS := List.mem_filter.mpr ⟨mt_2 (List.mem_of_getElem? (i := 176) rfl), rfl⟩
set_option maxRecDepth 100000 in
theorem co_X5_at : Cond.code yX5_at cX5_at 2 (some (.object "RemoteReach$Posted")) ∈ TS := List.mem_filter.mpr ⟨mt_2 (List.mem_of_getElem? (i := 177) (by show tables_1_2[_]? = _; rfl)), rfl⟩
theorem mn_X7_112 : Cond.methodLinkNest RX7 112 yX9_distance RX9 ∈ TS := List.mem_filter.mpr ⟨mt_2 (List.mem_of_getElem? (i := 178) rfl), rfl⟩
theorem st_X9_distance : Cond.static yX9_distance ∈ TS := List.mem_filter.mpr ⟨mt_2 (List.mem_of_getElem? (i := 179) rfl), rfl⟩
set_option maxRecDepth 100000 in
theorem co_X9_distance : Cond.code yX9_distance cX9_distance 2 (some .int) ∈ TS := List.mem_filter.mpr ⟨mt_2 (List.mem_of_getElem? (i := 180) (by show tables_1_2[_]? = _; rfl)), rfl⟩
theorem ml_X7_121 : Cond.methodLink RX7 121 yX7_sendPart ∈ TS := List.mem_filter.mpr ⟨mt_2 (List.mem_of_getElem? (i := 181) rfl), rfl⟩
theorem im_X7_sendPart : Cond.instanceMethod yX7_sendPart ∈ TS := List.mem_filter.mpr ⟨mt_2 (List.mem_of_getElem? (i := 182) rfl), rfl⟩
theorem se_X7_X7_sendPart : Cond.selects RX7 yX7_sendPart yX7_sendPart ∈ TS := List.mem_filter.mpr ⟨mt_2 (List.mem_of_getElem? (i := 183) rfl), rfl⟩
set_option maxRecDepth 100000 in
theorem co_X7_sendPart : Cond.code yX7_sendPart cX7_sendPart 5 none ∈ TS := List.mem_filter.mpr ⟨mt_2 (List.mem_of_getElem? (i := 184) (by show tables_1_2[_]? = _; rfl)), rfl⟩
theorem mn_X7_98 : Cond.methodLinkNest RX7 98 yX9_after RX9 ∈ TS := List.mem_filter.mpr ⟨mt_2 (List.mem_of_getElem? (i := 185) rfl), rfl⟩
theorem st_X9_after : Cond.static yX9_after ∈ TS := List.mem_filter.mpr ⟨mt_2 (List.mem_of_getElem? (i := 186) rfl), rfl⟩
set_option maxRecDepth 100000 in
theorem co_X9_after : Cond.code yX9_after cX9_after 2 (some .int) ∈ TS := List.mem_filter.mpr ⟨mt_2 (List.mem_of_getElem? (i := 187) (by show tables_1_2[_]? = _; rfl)), rfl⟩
theorem ml_X7_125 : Cond.methodLink RX7 125 yX0_carry ∈ TS := List.mem_filter.mpr ⟨mt_2 (List.mem_of_getElem? (i := 188) rfl), rfl⟩
theorem im_X0_carry : Cond.instanceMethod yX0_carry ∈ TS := List.mem_filter.mpr ⟨mt_2 (List.mem_of_getElem? (i := 189) rfl), rfl⟩
theorem se_X0_X0_carry : Cond.selects RX0 yX0_carry yX0_carry ∈ TS := List.mem_filter.mpr ⟨mt_2 (List.mem_of_getElem? (i := 190) rfl), rfl⟩
set_option maxRecDepth 100000 in
theorem co_X0_carry : Cond.code yX0_carry cX0_carry 5 (some (.object "RemoteReach$Packet")) ∈ TS := List.mem_filter.mpr ⟨mt_2 (List.mem_of_getElem? (i := 191) (by show tables_1_2[_]? = _; rfl)), rfl⟩
theorem ml_X0_29 : Cond.methodLink RX0 29 yX0_isFull ∈ TS := List.mem_filter.mpr ⟨mt_2 (List.mem_of_getElem? (i := 192) rfl), rfl⟩
theorem im_X0_isFull : Cond.instanceMethod yX0_isFull ∈ TS := List.mem_filter.mpr ⟨mt_2 (List.mem_of_getElem? (i := 193) rfl), rfl⟩
theorem se_X0_X0_isFull : Cond.selects RX0 yX0_isFull yX0_isFull ∈ TS := List.mem_filter.mpr ⟨mt_2 (List.mem_of_getElem? (i := 194) rfl), rfl⟩
set_option maxRecDepth 100000 in
theorem co_X0_isFull : Cond.code yX0_isFull cX0_isFull 1 (some .boolean) ∈ TS := List.mem_filter.mpr ⟨mt_2 (List.mem_of_getElem? (i := 195) (by show tables_1_2[_]? = _; rfl)), rfl⟩
theorem ml_X0_33 : Cond.methodLink RX0 33 yX2_become ∈ TS := List.mem_filter.mpr ⟨mt_2 (List.mem_of_getElem? (i := 196) rfl), rfl⟩
theorem im_X2_become : Cond.instanceMethod yX2_become ∈ TS := List.mem_filter.mpr ⟨mt_2 (List.mem_of_getElem? (i := 197) rfl), rfl⟩
theorem se_X2_X2_become : Cond.selects RX2 yX2_become yX2_become ∈ TS := List.mem_filter.mpr ⟨mt_2 (List.mem_of_getElem? (i := 198) rfl), rfl⟩
set_option maxRecDepth 100000 in
theorem co_X2_become : Cond.code yX2_become cX2_become 4 none ∈ TS := List.mem_filter.mpr ⟨mt_2 (List.mem_of_getElem? (i := 199) (by show tables_1_2[_]? = _; rfl)), rfl⟩
theorem ml_X7_131 : Cond.methodLink RX7 131 yX4_isLastNumber ∈ TS := List.mem_filter.mpr ⟨mt_2 (List.mem_of_getElem? (i := 200) rfl), rfl⟩
theorem im_X4_isLastNumber : Cond.instanceMethod yX4_isLastNumber ∈ TS := List.mem_filter.mpr ⟨mt_2 (List.mem_of_getElem? (i := 201) rfl), rfl⟩
theorem se_X4_X4_isLastNumber : Cond.selects RX4 yX4_isLastNumber yX4_isLastNumber ∈ TS := List.mem_filter.mpr ⟨mt_2 (List.mem_of_getElem? (i := 202) rfl), rfl⟩
set_option maxRecDepth 100000 in
theorem co_X4_isLastNumber : Cond.code yX4_isLastNumber cX4_isLastNumber 2 (some .boolean) ∈ TS := List.mem_filter.mpr ⟨mt_2 (List.mem_of_getElem? (i := 203) (by show tables_1_2[_]? = _; rfl)), rfl⟩
theorem ml_X7_149 : Cond.methodLink RX7 149 yX4_cellsOf ∈ TS := List.mem_filter.mpr ⟨mt_2 (List.mem_of_getElem? (i := 204) rfl), rfl⟩
theorem im_X4_cellsOf : Cond.instanceMethod yX4_cellsOf ∈ TS := List.mem_filter.mpr ⟨mt_2 (List.mem_of_getElem? (i := 205) rfl), rfl⟩
theorem se_X4_X4_cellsOf : Cond.selects RX4 yX4_cellsOf yX4_cellsOf ∈ TS := List.mem_filter.mpr ⟨mt_2 (List.mem_of_getElem? (i := 206) rfl), rfl⟩
set_option maxRecDepth 100000 in
theorem co_X4_cellsOf : Cond.code yX4_cellsOf cX4_cellsOf 2 (some .int) ∈ TS := List.mem_filter.mpr ⟨mt_2 (List.mem_of_getElem? (i := 207) (by show tables_1_2[_]? = _; rfl)), rfl⟩
theorem ml_X4_15 : Cond.methodLink RX4 15 ⟨"java/lang/Math", "min", "(II)I"⟩ ∈ TS := List.mem_filter.mpr ⟨mt_2 (List.mem_of_getElem? (i := 208) rfl), rfl⟩
theorem ml_X7_152 : Cond.methodLink RX7 152 yX2_load ∈ TS := List.mem_filter.mpr ⟨mt_2 (List.mem_of_getElem? (i := 209) rfl), rfl⟩
theorem im_X2_load : Cond.instanceMethod yX2_load ∈ TS := List.mem_filter.mpr ⟨mt_2 (List.mem_of_getElem? (i := 210) rfl), rfl⟩
theorem se_X2_X2_load : Cond.selects RX2 yX2_load yX2_load ∈ TS := List.mem_filter.mpr ⟨mt_2 (List.mem_of_getElem? (i := 211) rfl), rfl⟩
set_option maxRecDepth 100000 in
theorem co_X2_load : Cond.code yX2_load cX2_load 5 none ∈ TS := List.mem_filter.mpr ⟨mt_2 (List.mem_of_getElem? (i := 212) (by show tables_1_2[_]? = _; rfl)), rfl⟩
theorem ml_X2_41 : Cond.methodLink RX2 41 ⟨"java/lang/Math", "min", "(II)I"⟩ ∈ TS := List.mem_filter.mpr ⟨mt_2 (List.mem_of_getElem? (i := 213) rfl), rfl⟩
theorem ml_X2_47 : Cond.methodLink RX2 47 yX1_at ∈ TS := List.mem_filter.mpr ⟨mt_2 (List.mem_of_getElem? (i := 214) rfl), rfl⟩
theorem ml_L_95 : Cond.methodLink RL 95 yX9_deliver ∈ TS := List.mem_filter.mpr ⟨mt_2 (List.mem_of_getElem? (i := 215) rfl), rfl⟩
theorem im_X9_deliver : Cond.instanceMethod yX9_deliver ∈ TS := List.mem_filter.mpr ⟨mt_2 (List.mem_of_getElem? (i := 216) rfl), rfl⟩
theorem se_X9_X9_deliver : Cond.selects RX9 yX9_deliver yX9_deliver ∈ TS := List.mem_filter.mpr ⟨mt_2 (List.mem_of_getElem? (i := 217) rfl), rfl⟩
set_option maxRecDepth 100000 in
theorem co_X9_deliver : Cond.code yX9_deliver cX9_deliver 3 (some .boolean) ∈ TS := List.mem_filter.mpr ⟨mt_2 (List.mem_of_getElem? (i := 218) (by show tables_1_2[_]? = _; rfl)), rfl⟩
theorem ml_X9_139 : Cond.methodLink RX9 139 yX0_has ∈ TS := List.mem_filter.mpr ⟨mt_2 (List.mem_of_getElem? (i := 219) rfl), rfl⟩
theorem im_X0_has : Cond.instanceMethod yX0_has ∈ TS := List.mem_filter.mpr ⟨mt_2 (List.mem_of_getElem? (i := 220) rfl), rfl⟩
theorem se_X0_X0_has : Cond.selects RX0 yX0_has yX0_has ∈ TS := List.mem_filter.mpr ⟨mt_2 (List.mem_of_getElem? (i := 221) rfl), rfl⟩
set_option maxRecDepth 100000 in
theorem co_X0_has : Cond.code yX0_has cX0_has 2 (some .boolean) ∈ TS := List.mem_filter.mpr ⟨mt_2 (List.mem_of_getElem? (i := 222) (by show tables_1_2[_]? = _; rfl)), rfl⟩
theorem ml_X9_142 : Cond.methodLink RX9 142 yX0_takeOut ∈ TS := List.mem_filter.mpr ⟨mt_2 (List.mem_of_getElem? (i := 223) rfl), rfl⟩
theorem im_X0_takeOut : Cond.instanceMethod yX0_takeOut ∈ TS := List.mem_filter.mpr ⟨mt_2 (List.mem_of_getElem? (i := 224) rfl), rfl⟩
theorem se_X0_X0_takeOut : Cond.selects RX0 yX0_takeOut yX0_takeOut ∈ TS := List.mem_filter.mpr ⟨mt_2 (List.mem_of_getElem? (i := 225) rfl), rfl⟩
set_option maxRecDepth 100000 in
theorem co_X0_takeOut : Cond.code yX0_takeOut cX0_takeOut 4 (some (.object "RemoteReach$Packet")) ∈ TS := List.mem_filter.mpr ⟨mt_2 (List.mem_of_getElem? (i := 226) (by show tables_1_2[_]? = _; rfl)), rfl⟩
theorem ml_X9_151 : Cond.methodLink RX9 151 yX3_takeIn ∈ TS := List.mem_filter.mpr ⟨mt_2 (List.mem_of_getElem? (i := 227) rfl), rfl⟩
theorem im_X3_takeIn : Cond.instanceMethod yX3_takeIn ∈ TS := List.mem_filter.mpr ⟨mt_2 (List.mem_of_getElem? (i := 228) rfl), rfl⟩
theorem se_X3_X3_takeIn : Cond.selects RX3 yX3_takeIn yX3_takeIn ∈ TS := List.mem_filter.mpr ⟨mt_2 (List.mem_of_getElem? (i := 229) rfl), rfl⟩
set_option maxRecDepth 100000 in
theorem co_X3_takeIn : Cond.code yX3_takeIn cX3_takeIn 3 none ∈ TS := List.mem_filter.mpr ⟨mt_2 (List.mem_of_getElem? (i := 230) (by show tables_1_2[_]? = _; rfl)), rfl⟩
theorem ml_X3_56 : Cond.methodLink RX3 56 yX8_takeIn ∈ TS := List.mem_filter.mpr ⟨mt_2 (List.mem_of_getElem? (i := 231) rfl), rfl⟩
theorem im_X8_takeIn : Cond.instanceMethod yX8_takeIn ∈ TS := List.mem_filter.mpr ⟨mt_2 (List.mem_of_getElem? (i := 232) rfl), rfl⟩
theorem se_X8_X8_takeIn : Cond.selects RX8 yX8_takeIn yX8_takeIn ∈ TS := List.mem_filter.mpr ⟨mt_2 (List.mem_of_getElem? (i := 233) rfl), rfl⟩
set_option maxRecDepth 100000 in
theorem co_X8_takeIn : Cond.code yX8_takeIn cX8_takeIn 3 (some .int) ∈ TS := List.mem_filter.mpr ⟨mt_2 (List.mem_of_getElem? (i := 234) (by show tables_1_2[_]? = _; rfl)), rfl⟩
theorem mn_X8_64 : Cond.methodLinkNest RX8 64 yX9_distance RX9 ∈ TS := List.mem_filter.mpr ⟨mt_2 (List.mem_of_getElem? (i := 235) rfl), rfl⟩
theorem ml_X8_68 : Cond.methodLink RX8 68 yX8_answerAgain ∈ TS := List.mem_filter.mpr ⟨mt_2 (List.mem_of_getElem? (i := 236) rfl), rfl⟩
theorem im_X8_answerAgain : Cond.instanceMethod yX8_answerAgain ∈ TS := List.mem_filter.mpr ⟨mt_2 (List.mem_of_getElem? (i := 237) rfl), rfl⟩
theorem se_X8_X8_answerAgain : Cond.selects RX8 yX8_answerAgain yX8_answerAgain ∈ TS := List.mem_filter.mpr ⟨mt_2 (List.mem_of_getElem? (i := 238) rfl), rfl⟩
set_option maxRecDepth 100000 in
theorem co_X8_answerAgain : Cond.code yX8_answerAgain cX8_answerAgain 3 none ∈ TS := List.mem_filter.mpr ⟨mt_2 (List.mem_of_getElem? (i := 239) (by show tables_1_2[_]? = _; rfl)), rfl⟩
theorem ml_X8_89 : Cond.methodLink RX8 89 yX2_isAllowed ∈ TS := List.mem_filter.mpr ⟨mt_3 (List.mem_of_getElem? (i := 0) rfl), rfl⟩
theorem im_X2_isAllowed : Cond.instanceMethod yX2_isAllowed ∈ TS := List.mem_filter.mpr ⟨mt_3 (List.mem_of_getElem? (i := 1) rfl), rfl⟩
theorem se_X2_X2_isAllowed : Cond.selects RX2 yX2_isAllowed yX2_isAllowed ∈ TS := List.mem_filter.mpr ⟨mt_3 (List.mem_of_getElem? (i := 2) rfl), rfl⟩
set_option maxRecDepth 100000 in
theorem co_X2_isAllowed : Cond.code yX2_isAllowed cX2_isAllowed 2 (some .boolean) ∈ TS := List.mem_filter.mpr ⟨mt_3 (List.mem_of_getElem? (i := 3) (by show tables_1_3[_]? = _; rfl)), rfl⟩
theorem ml_X2_57 : Cond.methodLink RX2 57 yX1_allows ∈ TS := List.mem_filter.mpr ⟨mt_3 (List.mem_of_getElem? (i := 4) rfl), rfl⟩
theorem im_X1_allows : Cond.instanceMethod yX1_allows ∈ TS := List.mem_filter.mpr ⟨mt_3 (List.mem_of_getElem? (i := 5) rfl), rfl⟩
theorem se_X1_X1_allows : Cond.selects RX1 yX1_allows yX1_allows ∈ TS := List.mem_filter.mpr ⟨mt_3 (List.mem_of_getElem? (i := 6) rfl), rfl⟩
set_option maxRecDepth 100000 in
theorem co_X1_allows : Cond.code yX1_allows cX1_allows 5 (some .boolean) ∈ TS := List.mem_filter.mpr ⟨mt_3 (List.mem_of_getElem? (i := 7) (by show tables_1_3[_]? = _; rfl)), rfl⟩
theorem mn_X1_29 : Cond.methodLinkNest RX1 29 yX9_isRegion RX9 ∈ TS := List.mem_filter.mpr ⟨mt_3 (List.mem_of_getElem? (i := 8) rfl), rfl⟩
theorem st_X9_isRegion : Cond.static yX9_isRegion ∈ TS := List.mem_filter.mpr ⟨mt_3 (List.mem_of_getElem? (i := 9) rfl), rfl⟩
set_option maxRecDepth 100000 in
theorem co_X9_isRegion : Cond.code yX9_isRegion cX9_isRegion 1 (some .boolean) ∈ TS := List.mem_filter.mpr ⟨mt_3 (List.mem_of_getElem? (i := 10) (by show tables_1_3[_]? = _; rfl)), rfl⟩
theorem ml_X1_32 : Cond.methodLink RX1 32 yX6_allows ∈ TS := List.mem_filter.mpr ⟨mt_3 (List.mem_of_getElem? (i := 11) rfl), rfl⟩
theorem im_X6_allows : Cond.instanceMethod yX6_allows ∈ TS := List.mem_filter.mpr ⟨mt_3 (List.mem_of_getElem? (i := 12) rfl), rfl⟩
theorem se_X6_X6_allows : Cond.selects RX6 yX6_allows yX6_allows ∈ TS := List.mem_filter.mpr ⟨mt_3 (List.mem_of_getElem? (i := 13) rfl), rfl⟩
set_option maxRecDepth 100000 in
theorem co_X6_allows : Cond.code yX6_allows cX6_allows 4 (some .boolean) ∈ TS := List.mem_filter.mpr ⟨mt_3 (List.mem_of_getElem? (i := 14) (by show tables_1_3[_]? = _; rfl)), rfl⟩
theorem ml_X8_93 : Cond.methodLink RX8 93 yX8_replyCells ∈ TS := List.mem_filter.mpr ⟨mt_3 (List.mem_of_getElem? (i := 15) rfl), rfl⟩
theorem im_X8_replyCells : Cond.instanceMethod yX8_replyCells ∈ TS := List.mem_filter.mpr ⟨mt_3 (List.mem_of_getElem? (i := 16) rfl), rfl⟩
theorem se_X8_X8_replyCells : Cond.selects RX8 yX8_replyCells yX8_replyCells ∈ TS := List.mem_filter.mpr ⟨mt_3 (List.mem_of_getElem? (i := 17) rfl), rfl⟩
set_option maxRecDepth 100000 in
theorem co_X8_replyCells : Cond.code yX8_replyCells cX8_replyCells 4 none ∈ TS := List.mem_filter.mpr ⟨mt_3 (List.mem_of_getElem? (i := 18) (by show tables_1_3[_]? = _; rfl)), rfl⟩
theorem mn_X8_164 : Cond.methodLinkNest RX8 164 yX9_after RX9 ∈ TS := List.mem_filter.mpr ⟨mt_3 (List.mem_of_getElem? (i := 19) rfl), rfl⟩
theorem ml_X8_167 : Cond.methodLink RX8 167 yX0_carry ∈ TS := List.mem_filter.mpr ⟨mt_3 (List.mem_of_getElem? (i := 20) rfl), rfl⟩
theorem ml_X8_173 : Cond.methodLink RX8 173 yX2_load ∈ TS := List.mem_filter.mpr ⟨mt_3 (List.mem_of_getElem? (i := 21) rfl), rfl⟩
theorem ml_X8_96 : Cond.methodLink RX8 96 yX8_keptAdd ∈ TS := List.mem_filter.mpr ⟨mt_3 (List.mem_of_getElem? (i := 22) rfl), rfl⟩
theorem im_X8_keptAdd : Cond.instanceMethod yX8_keptAdd ∈ TS := List.mem_filter.mpr ⟨mt_3 (List.mem_of_getElem? (i := 23) rfl), rfl⟩
theorem se_X8_X8_keptAdd : Cond.selects RX8 yX8_keptAdd yX8_keptAdd ∈ TS := List.mem_filter.mpr ⟨mt_3 (List.mem_of_getElem? (i := 24) rfl), rfl⟩
set_option maxRecDepth 100000 in
theorem co_X8_keptAdd : Cond.code yX8_keptAdd cX8_keptAdd 3 (some .int) ∈ TS := List.mem_filter.mpr ⟨mt_3 (List.mem_of_getElem? (i := 25) (by show tables_1_3[_]? = _; rfl)), rfl⟩
theorem ml_X8_99 : Cond.methodLink RX8 99 yX8_replyOne ∈ TS := List.mem_filter.mpr ⟨mt_3 (List.mem_of_getElem? (i := 26) rfl), rfl⟩
theorem im_X8_replyOne : Cond.instanceMethod yX8_replyOne ∈ TS := List.mem_filter.mpr ⟨mt_3 (List.mem_of_getElem? (i := 27) rfl), rfl⟩
theorem se_X8_X8_replyOne : Cond.selects RX8 yX8_replyOne yX8_replyOne ∈ TS := List.mem_filter.mpr ⟨mt_3 (List.mem_of_getElem? (i := 28) rfl), rfl⟩
set_option maxRecDepth 100000 in
theorem co_X8_replyOne : Cond.code yX8_replyOne cX8_replyOne 4 none ∈ TS := List.mem_filter.mpr ⟨mt_3 (List.mem_of_getElem? (i := 29) (by show tables_1_3[_]? = _; rfl)), rfl⟩
theorem mn_X8_102 : Cond.methodLinkNest RX8 102 yX9_before RX9 ∈ TS := List.mem_filter.mpr ⟨mt_3 (List.mem_of_getElem? (i := 30) rfl), rfl⟩
theorem st_X9_before : Cond.static yX9_before ∈ TS := List.mem_filter.mpr ⟨mt_3 (List.mem_of_getElem? (i := 31) rfl), rfl⟩
set_option maxRecDepth 100000 in
theorem co_X9_before : Cond.code yX9_before cX9_before 1 (some .int) ∈ TS := List.mem_filter.mpr ⟨mt_3 (List.mem_of_getElem? (i := 32) (by show tables_1_3[_]? = _; rfl)), rfl⟩
theorem ml_X9_203 : Cond.methodLink RX9 203 yX9_after ∈ TS := List.mem_filter.mpr ⟨mt_3 (List.mem_of_getElem? (i := 33) rfl), rfl⟩
theorem ml_X8_105 : Cond.methodLink RX8 105 yX8_acknowledge ∈ TS := List.mem_filter.mpr ⟨mt_3 (List.mem_of_getElem? (i := 34) rfl), rfl⟩
theorem im_X8_acknowledge : Cond.instanceMethod yX8_acknowledge ∈ TS := List.mem_filter.mpr ⟨mt_3 (List.mem_of_getElem? (i := 35) rfl), rfl⟩
theorem se_X8_X8_acknowledge : Cond.selects RX8 yX8_acknowledge yX8_acknowledge ∈ TS := List.mem_filter.mpr ⟨mt_3 (List.mem_of_getElem? (i := 36) rfl), rfl⟩
set_option maxRecDepth 100000 in
theorem co_X8_acknowledge : Cond.code yX8_acknowledge cX8_acknowledge 2 none ∈ TS := List.mem_filter.mpr ⟨mt_3 (List.mem_of_getElem? (i := 37) (by show tables_1_3[_]? = _; rfl)), rfl⟩
theorem ml_X8_72 : Cond.methodLink RX8 72 yX8_tellSequence ∈ TS := List.mem_filter.mpr ⟨mt_3 (List.mem_of_getElem? (i := 38) rfl), rfl⟩
theorem im_X8_tellSequence : Cond.instanceMethod yX8_tellSequence ∈ TS := List.mem_filter.mpr ⟨mt_3 (List.mem_of_getElem? (i := 39) rfl), rfl⟩
theorem se_X8_X8_tellSequence : Cond.selects RX8 yX8_tellSequence yX8_tellSequence ∈ TS := List.mem_filter.mpr ⟨mt_3 (List.mem_of_getElem? (i := 40) rfl), rfl⟩
set_option maxRecDepth 100000 in
theorem co_X8_tellSequence : Cond.code yX8_tellSequence cX8_tellSequence 1 none ∈ TS := List.mem_filter.mpr ⟨mt_3 (List.mem_of_getElem? (i := 41) (by show tables_1_3[_]? = _; rfl)), rfl⟩
theorem ml_X8_85 : Cond.methodLink RX8 85 yX8_refuse ∈ TS := List.mem_filter.mpr ⟨mt_3 (List.mem_of_getElem? (i := 42) rfl), rfl⟩
theorem im_X8_refuse : Cond.instanceMethod yX8_refuse ∈ TS := List.mem_filter.mpr ⟨mt_3 (List.mem_of_getElem? (i := 43) rfl), rfl⟩
theorem se_X8_X8_refuse : Cond.selects RX8 yX8_refuse yX8_refuse ∈ TS := List.mem_filter.mpr ⟨mt_3 (List.mem_of_getElem? (i := 44) rfl), rfl⟩
set_option maxRecDepth 100000 in
theorem co_X8_refuse : Cond.code yX8_refuse cX8_refuse 3 none ∈ TS := List.mem_filter.mpr ⟨mt_3 (List.mem_of_getElem? (i := 45) (by show tables_1_3[_]? = _; rfl)), rfl⟩
theorem ml_X8_78 : Cond.methodLink RX8 78 yX8_takeSend ∈ TS := List.mem_filter.mpr ⟨mt_3 (List.mem_of_getElem? (i := 46) rfl), rfl⟩
theorem im_X8_takeSend : Cond.instanceMethod yX8_takeSend ∈ TS := List.mem_filter.mpr ⟨mt_3 (List.mem_of_getElem? (i := 47) rfl), rfl⟩
theorem se_X8_X8_takeSend : Cond.selects RX8 yX8_takeSend yX8_takeSend ∈ TS := List.mem_filter.mpr ⟨mt_3 (List.mem_of_getElem? (i := 48) rfl), rfl⟩
set_option maxRecDepth 100000 in
theorem co_X8_takeSend : Cond.code yX8_takeSend cX8_takeSend 4 (some .int) ∈ TS := List.mem_filter.mpr ⟨mt_3 (List.mem_of_getElem? (i := 49) (by show tables_1_3[_]? = _; rfl)), rfl⟩
theorem ml_X8_109 : Cond.methodLink RX8 109 yX2_isFirst ∈ TS := List.mem_filter.mpr ⟨mt_3 (List.mem_of_getElem? (i := 50) rfl), rfl⟩
theorem im_X2_isFirst : Cond.instanceMethod yX2_isFirst ∈ TS := List.mem_filter.mpr ⟨mt_3 (List.mem_of_getElem? (i := 51) rfl), rfl⟩
theorem se_X2_X2_isFirst : Cond.selects RX2 yX2_isFirst yX2_isFirst ∈ TS := List.mem_filter.mpr ⟨mt_3 (List.mem_of_getElem? (i := 52) rfl), rfl⟩
set_option maxRecDepth 100000 in
theorem co_X2_isFirst : Cond.code yX2_isFirst cX2_isFirst 1 (some .boolean) ∈ TS := List.mem_filter.mpr ⟨mt_3 (List.mem_of_getElem? (i := 53) (by show tables_1_3[_]? = _; rfl)), rfl⟩
theorem ml_X8_116 : Cond.methodLink RX8 116 yX5_at ∈ TS := List.mem_filter.mpr ⟨mt_3 (List.mem_of_getElem? (i := 54) rfl), rfl⟩
theorem ml_X8_132 : Cond.methodLink RX8 132 yX2_unload ∈ TS := List.mem_filter.mpr ⟨mt_3 (List.mem_of_getElem? (i := 55) rfl), rfl⟩
theorem im_X2_unload : Cond.instanceMethod yX2_unload ∈ TS := List.mem_filter.mpr ⟨mt_3 (List.mem_of_getElem? (i := 56) rfl), rfl⟩
theorem se_X2_X2_unload : Cond.selects RX2 yX2_unload yX2_unload ∈ TS := List.mem_filter.mpr ⟨mt_3 (List.mem_of_getElem? (i := 57) rfl), rfl⟩
set_option maxRecDepth 100000 in
theorem co_X2_unload : Cond.code yX2_unload cX2_unload 5 none ∈ TS := List.mem_filter.mpr ⟨mt_3 (List.mem_of_getElem? (i := 58) (by show tables_1_3[_]? = _; rfl)), rfl⟩
theorem ml_X2_53 : Cond.methodLink RX2 53 yX1_put ∈ TS := List.mem_filter.mpr ⟨mt_3 (List.mem_of_getElem? (i := 59) rfl), rfl⟩
theorem im_X1_put : Cond.instanceMethod yX1_put ∈ TS := List.mem_filter.mpr ⟨mt_3 (List.mem_of_getElem? (i := 60) rfl), rfl⟩
theorem se_X1_X1_put : Cond.selects RX1 yX1_put yX1_put ∈ TS := List.mem_filter.mpr ⟨mt_3 (List.mem_of_getElem? (i := 61) rfl), rfl⟩
set_option maxRecDepth 100000 in
theorem co_X1_put : Cond.code yX1_put cX1_put 3 none ∈ TS := List.mem_filter.mpr ⟨mt_3 (List.mem_of_getElem? (i := 62) (by show tables_1_3[_]? = _; rfl)), rfl⟩
theorem ml_X8_136 : Cond.methodLink RX8 136 yX2_isLast ∈ TS := List.mem_filter.mpr ⟨mt_3 (List.mem_of_getElem? (i := 63) rfl), rfl⟩
theorem im_X2_isLast : Cond.instanceMethod yX2_isLast ∈ TS := List.mem_filter.mpr ⟨mt_3 (List.mem_of_getElem? (i := 64) rfl), rfl⟩
theorem se_X2_X2_isLast : Cond.selects RX2 yX2_isLast yX2_isLast ∈ TS := List.mem_filter.mpr ⟨mt_3 (List.mem_of_getElem? (i := 65) rfl), rfl⟩
set_option maxRecDepth 100000 in
theorem co_X2_isLast : Cond.code yX2_isLast cX2_isLast 1 (some .boolean) ∈ TS := List.mem_filter.mpr ⟨mt_3 (List.mem_of_getElem? (i := 66) (by show tables_1_3[_]? = _; rfl)), rfl⟩
theorem ml_X8_139 : Cond.methodLink RX8 139 yX5_completeFirst ∈ TS := List.mem_filter.mpr ⟨mt_3 (List.mem_of_getElem? (i := 67) rfl), rfl⟩
theorem im_X5_completeFirst : Cond.instanceMethod yX5_completeFirst ∈ TS := List.mem_filter.mpr ⟨mt_3 (List.mem_of_getElem? (i := 68) rfl), rfl⟩
theorem se_X5_X5_completeFirst : Cond.selects RX5 yX5_completeFirst yX5_completeFirst ∈ TS := List.mem_filter.mpr ⟨mt_3 (List.mem_of_getElem? (i := 69) rfl), rfl⟩
set_option maxRecDepth 100000 in
theorem co_X5_completeFirst : Cond.code yX5_completeFirst cX5_completeFirst 2 none ∈ TS := List.mem_filter.mpr ⟨mt_3 (List.mem_of_getElem? (i := 70) (by show tables_1_3[_]? = _; rfl)), rfl⟩
theorem ml_X5_35 : Cond.methodLink RX5 35 yX5_at ∈ TS := List.mem_filter.mpr ⟨mt_3 (List.mem_of_getElem? (i := 71) rfl), rfl⟩
theorem ml_X5_54 : Cond.methodLink RX5 54 yX1_complete ∈ TS := List.mem_filter.mpr ⟨mt_3 (List.mem_of_getElem? (i := 72) rfl), rfl⟩
theorem im_X1_complete : Cond.instanceMethod yX1_complete ∈ TS := List.mem_filter.mpr ⟨mt_3 (List.mem_of_getElem? (i := 73) rfl), rfl⟩
theorem se_X1_X1_complete : Cond.selects RX1 yX1_complete yX1_complete ∈ TS := List.mem_filter.mpr ⟨mt_3 (List.mem_of_getElem? (i := 74) rfl), rfl⟩
set_option maxRecDepth 100000 in
theorem co_X1_complete : Cond.code yX1_complete cX1_complete 5 none ∈ TS := List.mem_filter.mpr ⟨mt_3 (List.mem_of_getElem? (i := 75) (by show tables_1_3[_]? = _; rfl)), rfl⟩
theorem ml_X8_142 : Cond.methodLink RX8 142 yX8_advance ∈ TS := List.mem_filter.mpr ⟨mt_3 (List.mem_of_getElem? (i := 76) rfl), rfl⟩
theorem im_X8_advance : Cond.instanceMethod yX8_advance ∈ TS := List.mem_filter.mpr ⟨mt_3 (List.mem_of_getElem? (i := 77) rfl), rfl⟩
theorem se_X8_X8_advance : Cond.selects RX8 yX8_advance yX8_advance ∈ TS := List.mem_filter.mpr ⟨mt_3 (List.mem_of_getElem? (i := 78) rfl), rfl⟩
set_option maxRecDepth 100000 in
theorem co_X8_advance : Cond.code yX8_advance cX8_advance 2 none ∈ TS := List.mem_filter.mpr ⟨mt_3 (List.mem_of_getElem? (i := 79) (by show tables_1_3[_]? = _; rfl)), rfl⟩
theorem ml_X8_82 : Cond.methodLink RX8 82 yX8_takeReach ∈ TS := List.mem_filter.mpr ⟨mt_3 (List.mem_of_getElem? (i := 80) rfl), rfl⟩
theorem im_X8_takeReach : Cond.instanceMethod yX8_takeReach ∈ TS := List.mem_filter.mpr ⟨mt_3 (List.mem_of_getElem? (i := 81) rfl), rfl⟩
theorem se_X8_X8_takeReach : Cond.selects RX8 yX8_takeReach yX8_takeReach ∈ TS := List.mem_filter.mpr ⟨mt_3 (List.mem_of_getElem? (i := 82) rfl), rfl⟩
set_option maxRecDepth 100000 in
theorem co_X8_takeReach : Cond.code yX8_takeReach cX8_takeReach 2 (some .int) ∈ TS := List.mem_filter.mpr ⟨mt_3 (List.mem_of_getElem? (i := 83) (by show tables_1_3[_]? = _; rfl)), rfl⟩
theorem mn_X8_145 : Cond.methodLinkNest RX8 145 yX9_numbersFor RX9 ∈ TS := List.mem_filter.mpr ⟨mt_3 (List.mem_of_getElem? (i := 84) rfl), rfl⟩
theorem st_X9_numbersFor : Cond.static yX9_numbersFor ∈ TS := List.mem_filter.mpr ⟨mt_3 (List.mem_of_getElem? (i := 85) rfl), rfl⟩
set_option maxRecDepth 100000 in
theorem co_X9_numbersFor : Cond.code yX9_numbersFor cX9_numbersFor 1 (some .int) ∈ TS := List.mem_filter.mpr ⟨mt_3 (List.mem_of_getElem? (i := 86) (by show tables_1_3[_]? = _; rfl)), rfl⟩
theorem ml_X8_148 : Cond.methodLink RX8 148 yX8_growCell ∈ TS := List.mem_filter.mpr ⟨mt_3 (List.mem_of_getElem? (i := 87) rfl), rfl⟩
theorem im_X8_growCell : Cond.instanceMethod yX8_growCell ∈ TS := List.mem_filter.mpr ⟨mt_3 (List.mem_of_getElem? (i := 88) rfl), rfl⟩
theorem se_X8_X8_growCell : Cond.selects RX8 yX8_growCell yX8_growCell ∈ TS := List.mem_filter.mpr ⟨mt_3 (List.mem_of_getElem? (i := 89) rfl), rfl⟩
set_option maxRecDepth 100000 in
theorem co_X8_growCell : Cond.code yX8_growCell cX8_growCell 4 (some .int) ∈ TS := List.mem_filter.mpr ⟨mt_3 (List.mem_of_getElem? (i := 90) (by show tables_1_3[_]? = _; rfl)), rfl⟩
theorem ml_X8_154 : Cond.methodLink RX8 154 yX1_at ∈ TS := List.mem_filter.mpr ⟨mt_3 (List.mem_of_getElem? (i := 91) rfl), rfl⟩
theorem ml_X8_161 : Cond.methodLink RX8 161 yX1_put ∈ TS := List.mem_filter.mpr ⟨mt_3 (List.mem_of_getElem? (i := 92) rfl), rfl⟩
theorem ml_X3_60 : Cond.methodLink RX3 60 yX3_fail ∈ TS := List.mem_filter.mpr ⟨mt_3 (List.mem_of_getElem? (i := 93) rfl), rfl⟩
theorem im_X3_fail : Cond.instanceMethod yX3_fail ∈ TS := List.mem_filter.mpr ⟨mt_3 (List.mem_of_getElem? (i := 94) rfl), rfl⟩
theorem se_X3_X3_fail : Cond.selects RX3 yX3_fail yX3_fail ∈ TS := List.mem_filter.mpr ⟨mt_3 (List.mem_of_getElem? (i := 95) rfl), rfl⟩
set_option maxRecDepth 100000 in
theorem co_X3_fail : Cond.code yX3_fail cX3_fail 3 none ∈ TS := List.mem_filter.mpr ⟨mt_3 (List.mem_of_getElem? (i := 96) (by show tables_1_3[_]? = _; rfl)), rfl⟩
theorem ml_X3_84 : Cond.methodLink RX3 84 yX5_completeAll ∈ TS := List.mem_filter.mpr ⟨mt_3 (List.mem_of_getElem? (i := 97) rfl), rfl⟩
theorem im_X5_completeAll : Cond.instanceMethod yX5_completeAll ∈ TS := List.mem_filter.mpr ⟨mt_3 (List.mem_of_getElem? (i := 98) rfl), rfl⟩
theorem se_X5_X5_completeAll : Cond.selects RX5 yX5_completeAll yX5_completeAll ∈ TS := List.mem_filter.mpr ⟨mt_3 (List.mem_of_getElem? (i := 99) rfl), rfl⟩
set_option maxRecDepth 100000 in
theorem co_X5_completeAll : Cond.code yX5_completeAll cX5_completeAll 4 none ∈ TS := List.mem_filter.mpr ⟨mt_3 (List.mem_of_getElem? (i := 100) (by show tables_1_3[_]? = _; rfl)), rfl⟩
theorem ml_X5_60 : Cond.methodLink RX5 60 yX5_completeFirst ∈ TS := List.mem_filter.mpr ⟨mt_3 (List.mem_of_getElem? (i := 101) rfl), rfl⟩
theorem ml_X3_87 : Cond.methodLink RX3 87 yX8_completeAll ∈ TS := List.mem_filter.mpr ⟨mt_3 (List.mem_of_getElem? (i := 102) rfl), rfl⟩
theorem im_X8_completeAll : Cond.instanceMethod yX8_completeAll ∈ TS := List.mem_filter.mpr ⟨mt_3 (List.mem_of_getElem? (i := 103) rfl), rfl⟩
theorem se_X8_X8_completeAll : Cond.selects RX8 yX8_completeAll yX8_completeAll ∈ TS := List.mem_filter.mpr ⟨mt_3 (List.mem_of_getElem? (i := 104) rfl), rfl⟩
set_option maxRecDepth 100000 in
theorem co_X8_completeAll : Cond.code yX8_completeAll cX8_completeAll 2 none ∈ TS := List.mem_filter.mpr ⟨mt_3 (List.mem_of_getElem? (i := 105) (by show tables_1_3[_]? = _; rfl)), rfl⟩
theorem ml_X8_182 : Cond.methodLink RX8 182 yX5_completeAll ∈ TS := List.mem_filter.mpr ⟨mt_3 (List.mem_of_getElem? (i := 106) rfl), rfl⟩
theorem ml_X3_70 : Cond.methodLink RX3 70 yX7_takeNak ∈ TS := List.mem_filter.mpr ⟨mt_3 (List.mem_of_getElem? (i := 107) rfl), rfl⟩
theorem im_X7_takeNak : Cond.instanceMethod yX7_takeNak ∈ TS := List.mem_filter.mpr ⟨mt_3 (List.mem_of_getElem? (i := 108) rfl), rfl⟩
theorem se_X7_X7_takeNak : Cond.selects RX7 yX7_takeNak yX7_takeNak ∈ TS := List.mem_filter.mpr ⟨mt_3 (List.mem_of_getElem? (i := 109) rfl), rfl⟩
set_option maxRecDepth 100000 in
theorem co_X7_takeNak : Cond.code yX7_takeNak cX7_takeNak 3 (some .int) ∈ TS := List.mem_filter.mpr ⟨mt_3 (List.mem_of_getElem? (i := 110) (by show tables_1_3[_]? = _; rfl)), rfl⟩
theorem ml_X7_156 : Cond.methodLink RX7 156 yX7_isOpen ∈ TS := List.mem_filter.mpr ⟨mt_3 (List.mem_of_getElem? (i := 111) rfl), rfl⟩
theorem im_X7_isOpen : Cond.instanceMethod yX7_isOpen ∈ TS := List.mem_filter.mpr ⟨mt_3 (List.mem_of_getElem? (i := 112) rfl), rfl⟩
theorem se_X7_X7_isOpen : Cond.selects RX7 yX7_isOpen yX7_isOpen ∈ TS := List.mem_filter.mpr ⟨mt_3 (List.mem_of_getElem? (i := 113) rfl), rfl⟩
set_option maxRecDepth 100000 in
theorem co_X7_isOpen : Cond.code yX7_isOpen cX7_isOpen 2 (some .boolean) ∈ TS := List.mem_filter.mpr ⟨mt_3 (List.mem_of_getElem? (i := 114) (by show tables_1_3[_]? = _; rfl)), rfl⟩
theorem mn_X7_174 : Cond.methodLinkNest RX7 174 yX9_before RX9 ∈ TS := List.mem_filter.mpr ⟨mt_3 (List.mem_of_getElem? (i := 115) rfl), rfl⟩
theorem ml_X7_177 : Cond.methodLink RX7 177 yX7_takeAck ∈ TS := List.mem_filter.mpr ⟨mt_3 (List.mem_of_getElem? (i := 116) rfl), rfl⟩
theorem im_X7_takeAck : Cond.instanceMethod yX7_takeAck ∈ TS := List.mem_filter.mpr ⟨mt_3 (List.mem_of_getElem? (i := 117) rfl), rfl⟩
theorem se_X7_X7_takeAck : Cond.selects RX7 yX7_takeAck yX7_takeAck ∈ TS := List.mem_filter.mpr ⟨mt_3 (List.mem_of_getElem? (i := 118) rfl), rfl⟩
set_option maxRecDepth 100000 in
theorem co_X7_takeAck : Cond.code yX7_takeAck cX7_takeAck 4 none ∈ TS := List.mem_filter.mpr ⟨mt_3 (List.mem_of_getElem? (i := 119) (by show tables_1_3[_]? = _; rfl)), rfl⟩
theorem ml_X7_159 : Cond.methodLink RX7 159 yX7_awaitsReply ∈ TS := List.mem_filter.mpr ⟨mt_3 (List.mem_of_getElem? (i := 120) rfl), rfl⟩
theorem im_X7_awaitsReply : Cond.instanceMethod yX7_awaitsReply ∈ TS := List.mem_filter.mpr ⟨mt_3 (List.mem_of_getElem? (i := 121) rfl), rfl⟩
theorem se_X7_X7_awaitsReply : Cond.selects RX7 yX7_awaitsReply yX7_awaitsReply ∈ TS := List.mem_filter.mpr ⟨mt_3 (List.mem_of_getElem? (i := 122) rfl), rfl⟩
set_option maxRecDepth 100000 in
theorem co_X7_awaitsReply : Cond.code yX7_awaitsReply cX7_awaitsReply 3 (some .boolean) ∈ TS := List.mem_filter.mpr ⟨mt_3 (List.mem_of_getElem? (i := 123) (by show tables_1_3[_]? = _; rfl)), rfl⟩
theorem ml_X7_165 : Cond.methodLink RX7 165 yX4_awaitsReply ∈ TS := List.mem_filter.mpr ⟨mt_3 (List.mem_of_getElem? (i := 124) rfl), rfl⟩
theorem im_X4_awaitsReply : Cond.instanceMethod yX4_awaitsReply ∈ TS := List.mem_filter.mpr ⟨mt_3 (List.mem_of_getElem? (i := 125) rfl), rfl⟩
theorem se_X4_X4_awaitsReply : Cond.selects RX4 yX4_awaitsReply yX4_awaitsReply ∈ TS := List.mem_filter.mpr ⟨mt_3 (List.mem_of_getElem? (i := 126) rfl), rfl⟩
set_option maxRecDepth 100000 in
theorem co_X4_awaitsReply : Cond.code yX4_awaitsReply cX4_awaitsReply 1 (some .boolean) ∈ TS := List.mem_filter.mpr ⟨mt_3 (List.mem_of_getElem? (i := 127) (by show tables_1_3[_]? = _; rfl)), rfl⟩
theorem ml_X7_162 : Cond.methodLink RX7 162 yX7_answer ∈ TS := List.mem_filter.mpr ⟨mt_3 (List.mem_of_getElem? (i := 128) rfl), rfl⟩
theorem im_X7_answer : Cond.instanceMethod yX7_answer ∈ TS := List.mem_filter.mpr ⟨mt_3 (List.mem_of_getElem? (i := 129) rfl), rfl⟩
theorem se_X7_X7_answer : Cond.selects RX7 yX7_answer yX7_answer ∈ TS := List.mem_filter.mpr ⟨mt_3 (List.mem_of_getElem? (i := 130) rfl), rfl⟩
set_option maxRecDepth 100000 in
theorem co_X7_answer : Cond.code yX7_answer cX7_answer 3 none ∈ TS := List.mem_filter.mpr ⟨mt_3 (List.mem_of_getElem? (i := 131) (by show tables_1_3[_]? = _; rfl)), rfl⟩
theorem ml_X7_184 : Cond.methodLink RX7 184 yX7_firstIsAnswered ∈ TS := List.mem_filter.mpr ⟨mt_3 (List.mem_of_getElem? (i := 132) rfl), rfl⟩
theorem im_X7_firstIsAnswered : Cond.instanceMethod yX7_firstIsAnswered ∈ TS := List.mem_filter.mpr ⟨mt_3 (List.mem_of_getElem? (i := 133) rfl), rfl⟩
theorem se_X7_X7_firstIsAnswered : Cond.selects RX7 yX7_firstIsAnswered yX7_firstIsAnswered ∈ TS := List.mem_filter.mpr ⟨mt_3 (List.mem_of_getElem? (i := 134) rfl), rfl⟩
set_option maxRecDepth 100000 in
theorem co_X7_firstIsAnswered : Cond.code yX7_firstIsAnswered cX7_firstIsAnswered 2 (some .boolean) ∈ TS := List.mem_filter.mpr ⟨mt_3 (List.mem_of_getElem? (i := 135) (by show tables_1_3[_]? = _; rfl)), rfl⟩
theorem ml_X7_187 : Cond.methodLink RX7 187 yX5_completeFirst ∈ TS := List.mem_filter.mpr ⟨mt_3 (List.mem_of_getElem? (i := 136) rfl), rfl⟩
theorem ml_X7_180 : Cond.methodLink RX7 180 yX7_rest ∈ TS := List.mem_filter.mpr ⟨mt_3 (List.mem_of_getElem? (i := 137) rfl), rfl⟩
theorem im_X7_rest : Cond.instanceMethod yX7_rest ∈ TS := List.mem_filter.mpr ⟨mt_3 (List.mem_of_getElem? (i := 138) rfl), rfl⟩
theorem se_X7_X7_rest : Cond.selects RX7 yX7_rest yX7_rest ∈ TS := List.mem_filter.mpr ⟨mt_3 (List.mem_of_getElem? (i := 139) rfl), rfl⟩
set_option maxRecDepth 100000 in
theorem co_X7_rest : Cond.code yX7_rest cX7_rest 1 (some .int) ∈ TS := List.mem_filter.mpr ⟨mt_3 (List.mem_of_getElem? (i := 140) (by show tables_1_3[_]? = _; rfl)), rfl⟩
theorem ml_X3_74 : Cond.methodLink RX3 74 yX7_takeAck ∈ TS := List.mem_filter.mpr ⟨mt_3 (List.mem_of_getElem? (i := 141) rfl), rfl⟩
theorem ml_X3_77 : Cond.methodLink RX3 77 yX7_takeReply ∈ TS := List.mem_filter.mpr ⟨mt_3 (List.mem_of_getElem? (i := 142) rfl), rfl⟩
theorem im_X7_takeReply : Cond.instanceMethod yX7_takeReply ∈ TS := List.mem_filter.mpr ⟨mt_3 (List.mem_of_getElem? (i := 143) rfl), rfl⟩
theorem se_X7_X7_takeReply : Cond.selects RX7 yX7_takeReply yX7_takeReply ∈ TS := List.mem_filter.mpr ⟨mt_3 (List.mem_of_getElem? (i := 144) rfl), rfl⟩
set_option maxRecDepth 100000 in
theorem co_X7_takeReply : Cond.code yX7_takeReply cX7_takeReply 4 none ∈ TS := List.mem_filter.mpr ⟨mt_3 (List.mem_of_getElem? (i := 145) (by show tables_1_3[_]? = _; rfl)), rfl⟩
theorem ml_X7_171 : Cond.methodLink RX7 171 yX2_unload ∈ TS := List.mem_filter.mpr ⟨mt_3 (List.mem_of_getElem? (i := 146) rfl), rfl⟩
theorem ml_L_99 : Cond.methodLink RL 99 yX9_spoil ∈ TS := List.mem_filter.mpr ⟨mt_3 (List.mem_of_getElem? (i := 147) rfl), rfl⟩
theorem im_X9_spoil : Cond.instanceMethod yX9_spoil ∈ TS := List.mem_filter.mpr ⟨mt_3 (List.mem_of_getElem? (i := 148) rfl), rfl⟩
theorem se_X9_X9_spoil : Cond.selects RX9 yX9_spoil yX9_spoil ∈ TS := List.mem_filter.mpr ⟨mt_3 (List.mem_of_getElem? (i := 149) rfl), rfl⟩
set_option maxRecDepth 100000 in
theorem co_X9_spoil : Cond.code yX9_spoil cX9_spoil 3 (some .boolean) ∈ TS := List.mem_filter.mpr ⟨mt_3 (List.mem_of_getElem? (i := 150) (by show tables_1_3[_]? = _; rfl)), rfl⟩
theorem ml_X9_155 : Cond.methodLink RX9 155 yX0_isFull ∈ TS := List.mem_filter.mpr ⟨mt_3 (List.mem_of_getElem? (i := 151) rfl), rfl⟩
theorem ml_X9_158 : Cond.methodLink RX9 158 yX0_copyToEnd ∈ TS := List.mem_filter.mpr ⟨mt_3 (List.mem_of_getElem? (i := 152) rfl), rfl⟩
theorem im_X0_copyToEnd : Cond.instanceMethod yX0_copyToEnd ∈ TS := List.mem_filter.mpr ⟨mt_3 (List.mem_of_getElem? (i := 153) rfl), rfl⟩
theorem se_X0_X0_copyToEnd : Cond.selects RX0 yX0_copyToEnd yX0_copyToEnd ∈ TS := List.mem_filter.mpr ⟨mt_3 (List.mem_of_getElem? (i := 154) rfl), rfl⟩
set_option maxRecDepth 100000 in
theorem co_X0_copyToEnd : Cond.code yX0_copyToEnd cX0_copyToEnd 2 none ∈ TS := List.mem_filter.mpr ⟨mt_3 (List.mem_of_getElem? (i := 155) (by show tables_1_3[_]? = _; rfl)), rfl⟩
theorem ml_X0_37 : Cond.methodLink RX0 37 yX2_becomeLike ∈ TS := List.mem_filter.mpr ⟨mt_3 (List.mem_of_getElem? (i := 156) rfl), rfl⟩
theorem im_X2_becomeLike : Cond.instanceMethod yX2_becomeLike ∈ TS := List.mem_filter.mpr ⟨mt_3 (List.mem_of_getElem? (i := 157) rfl), rfl⟩
theorem se_X2_X2_becomeLike : Cond.selects RX2 yX2_becomeLike yX2_becomeLike ∈ TS := List.mem_filter.mpr ⟨mt_3 (List.mem_of_getElem? (i := 158) rfl), rfl⟩
set_option maxRecDepth 100000 in
theorem co_X2_becomeLike : Cond.code yX2_becomeLike cX2_becomeLike 3 none ∈ TS := List.mem_filter.mpr ⟨mt_3 (List.mem_of_getElem? (i := 159) (by show tables_1_3[_]? = _; rfl)), rfl⟩
theorem ml_X2_37 : Cond.methodLink RX2 37 yX2_become ∈ TS := List.mem_filter.mpr ⟨mt_3 (List.mem_of_getElem? (i := 160) rfl), rfl⟩
theorem ml_L_104 : Cond.methodLink RL 104 yX9_tick ∈ TS := List.mem_filter.mpr ⟨mt_3 (List.mem_of_getElem? (i := 161) rfl), rfl⟩
theorem im_X9_tick : Cond.instanceMethod yX9_tick ∈ TS := List.mem_filter.mpr ⟨mt_3 (List.mem_of_getElem? (i := 162) rfl), rfl⟩
theorem se_X9_X9_tick : Cond.selects RX9 yX9_tick yX9_tick ∈ TS := List.mem_filter.mpr ⟨mt_3 (List.mem_of_getElem? (i := 163) rfl), rfl⟩
set_option maxRecDepth 100000 in
theorem co_X9_tick : Cond.code yX9_tick cX9_tick 3 (some .int) ∈ TS := List.mem_filter.mpr ⟨mt_3 (List.mem_of_getElem? (i := 164) (by show tables_1_3[_]? = _; rfl)), rfl⟩
theorem ml_X9_162 : Cond.methodLink RX9 162 yX3_failsByTime ∈ TS := List.mem_filter.mpr ⟨mt_3 (List.mem_of_getElem? (i := 165) rfl), rfl⟩
theorem im_X3_failsByTime : Cond.instanceMethod yX3_failsByTime ∈ TS := List.mem_filter.mpr ⟨mt_3 (List.mem_of_getElem? (i := 166) rfl), rfl⟩
theorem se_X3_X3_failsByTime : Cond.selects RX3 yX3_failsByTime yX3_failsByTime ∈ TS := List.mem_filter.mpr ⟨mt_3 (List.mem_of_getElem? (i := 167) rfl), rfl⟩
set_option maxRecDepth 100000 in
theorem co_X3_failsByTime : Cond.code yX3_failsByTime cX3_failsByTime 1 (some .boolean) ∈ TS := List.mem_filter.mpr ⟨mt_3 (List.mem_of_getElem? (i := 168) (by show tables_1_3[_]? = _; rfl)), rfl⟩
theorem ml_X3_81 : Cond.methodLink RX3 81 yX7_waitsTooLong ∈ TS := List.mem_filter.mpr ⟨mt_3 (List.mem_of_getElem? (i := 169) rfl), rfl⟩
theorem im_X7_waitsTooLong : Cond.instanceMethod yX7_waitsTooLong ∈ TS := List.mem_filter.mpr ⟨mt_3 (List.mem_of_getElem? (i := 170) rfl), rfl⟩
theorem se_X7_X7_waitsTooLong : Cond.selects RX7 yX7_waitsTooLong yX7_waitsTooLong ∈ TS := List.mem_filter.mpr ⟨mt_3 (List.mem_of_getElem? (i := 171) rfl), rfl⟩
set_option maxRecDepth 100000 in
theorem co_X7_waitsTooLong : Cond.code yX7_waitsTooLong cX7_waitsTooLong 1 (some .boolean) ∈ TS := List.mem_filter.mpr ⟨mt_3 (List.mem_of_getElem? (i := 172) (by show tables_1_3[_]? = _; rfl)), rfl⟩
theorem ml_L_109 : Cond.methodLink RL 109 yX9_packets ∈ TS := List.mem_filter.mpr ⟨mt_3 (List.mem_of_getElem? (i := 173) rfl), rfl⟩
theorem im_X9_packets : Cond.instanceMethod yX9_packets ∈ TS := List.mem_filter.mpr ⟨mt_3 (List.mem_of_getElem? (i := 174) rfl), rfl⟩
theorem se_X9_X9_packets : Cond.selects RX9 yX9_packets yX9_packets ∈ TS := List.mem_filter.mpr ⟨mt_3 (List.mem_of_getElem? (i := 175) rfl), rfl⟩
set_option maxRecDepth 100000 in
theorem co_X9_packets : Cond.code yX9_packets cX9_packets 1 (some .int) ∈ TS := List.mem_filter.mpr ⟨mt_3 (List.mem_of_getElem? (i := 176) (by show tables_1_3[_]? = _; rfl)), rfl⟩
theorem ml_L_113 : Cond.methodLink RL 113 yX9_packet ∈ TS := List.mem_filter.mpr ⟨mt_3 (List.mem_of_getElem? (i := 177) rfl), rfl⟩
theorem im_X9_packet : Cond.instanceMethod yX9_packet ∈ TS := List.mem_filter.mpr ⟨mt_3 (List.mem_of_getElem? (i := 178) rfl), rfl⟩
theorem se_X9_X9_packet : Cond.selects RX9 yX9_packet yX9_packet ∈ TS := List.mem_filter.mpr ⟨mt_3 (List.mem_of_getElem? (i := 179) rfl), rfl⟩
set_option maxRecDepth 100000 in
theorem co_X9_packet : Cond.code yX9_packet cX9_packet 3 (some .int) ∈ TS := List.mem_filter.mpr ⟨mt_3 (List.mem_of_getElem? (i := 180) (by show tables_1_3[_]? = _; rfl)), rfl⟩
theorem ml_X9_172 : Cond.methodLink RX9 172 yX2_tell ∈ TS := List.mem_filter.mpr ⟨mt_3 (List.mem_of_getElem? (i := 181) rfl), rfl⟩
theorem im_X2_tell : Cond.instanceMethod yX2_tell ∈ TS := List.mem_filter.mpr ⟨mt_3 (List.mem_of_getElem? (i := 182) rfl), rfl⟩
theorem se_X2_X2_tell : Cond.selects RX2 yX2_tell yX2_tell ∈ TS := List.mem_filter.mpr ⟨mt_3 (List.mem_of_getElem? (i := 183) rfl), rfl⟩
set_option maxRecDepth 100000 in
theorem co_X2_tell : Cond.code yX2_tell cX2_tell 2 (some .int) ∈ TS := List.mem_filter.mpr ⟨mt_3 (List.mem_of_getElem? (i := 184) (by show tables_1_3[_]? = _; rfl)), rfl⟩
theorem ml_L_117 : Cond.methodLink RL 117 yX9_pair ∈ TS := List.mem_filter.mpr ⟨mt_3 (List.mem_of_getElem? (i := 185) rfl), rfl⟩
theorem im_X9_pair : Cond.instanceMethod yX9_pair ∈ TS := List.mem_filter.mpr ⟨mt_3 (List.mem_of_getElem? (i := 186) rfl), rfl⟩
theorem se_X9_X9_pair : Cond.selects RX9 yX9_pair yX9_pair ∈ TS := List.mem_filter.mpr ⟨mt_3 (List.mem_of_getElem? (i := 187) rfl), rfl⟩
set_option maxRecDepth 100000 in
theorem co_X9_pair : Cond.code yX9_pair cX9_pair 3 (some .int) ∈ TS := List.mem_filter.mpr ⟨mt_3 (List.mem_of_getElem? (i := 188) (by show tables_1_3[_]? = _; rfl)), rfl⟩
theorem ml_X9_175 : Cond.methodLink RX9 175 yX3_tell ∈ TS := List.mem_filter.mpr ⟨mt_3 (List.mem_of_getElem? (i := 189) rfl), rfl⟩
theorem im_X3_tell : Cond.instanceMethod yX3_tell ∈ TS := List.mem_filter.mpr ⟨mt_3 (List.mem_of_getElem? (i := 190) rfl), rfl⟩
theorem se_X3_X3_tell : Cond.selects RX3 yX3_tell yX3_tell ∈ TS := List.mem_filter.mpr ⟨mt_3 (List.mem_of_getElem? (i := 191) rfl), rfl⟩
set_option maxRecDepth 100000 in
theorem co_X3_tell : Cond.code yX3_tell cX3_tell 2 (some .int) ∈ TS := List.mem_filter.mpr ⟨mt_3 (List.mem_of_getElem? (i := 192) (by show tables_1_3[_]? = _; rfl)), rfl⟩
theorem ml_L_121 : Cond.methodLink RL 121 yX9_completions ∈ TS := List.mem_filter.mpr ⟨mt_3 (List.mem_of_getElem? (i := 193) rfl), rfl⟩
theorem im_X9_completions : Cond.instanceMethod yX9_completions ∈ TS := List.mem_filter.mpr ⟨mt_3 (List.mem_of_getElem? (i := 194) rfl), rfl⟩
theorem se_X9_X9_completions : Cond.selects RX9 yX9_completions yX9_completions ∈ TS := List.mem_filter.mpr ⟨mt_3 (List.mem_of_getElem? (i := 195) rfl), rfl⟩
set_option maxRecDepth 100000 in
theorem co_X9_completions : Cond.code yX9_completions cX9_completions 2 (some .int) ∈ TS := List.mem_filter.mpr ⟨mt_3 (List.mem_of_getElem? (i := 196) (by show tables_1_3[_]? = _; rfl)), rfl⟩
theorem ml_L_45 : Cond.methodLink RL 45 yL_cell ∈ TS := List.mem_filter.mpr ⟨mt_3 (List.mem_of_getElem? (i := 197) rfl), rfl⟩
theorem st_L_cell : Cond.static yL_cell ∈ TS := List.mem_filter.mpr ⟨mt_3 (List.mem_of_getElem? (i := 198) rfl), rfl⟩
set_option maxRecDepth 100000 in
theorem co_L_cell : Cond.code yL_cell cL_cell 2 (some .int) ∈ TS := List.mem_filter.mpr ⟨mt_3 (List.mem_of_getElem? (i := 199) (by show tables_1_3[_]? = _; rfl)), rfl⟩
theorem ml_L_56 : Cond.methodLink RL 56 yL_region ∈ TS := List.mem_filter.mpr ⟨mt_3 (List.mem_of_getElem? (i := 200) rfl), rfl⟩
theorem st_L_region : Cond.static yL_region ∈ TS := List.mem_filter.mpr ⟨mt_3 (List.mem_of_getElem? (i := 201) rfl), rfl⟩
set_option maxRecDepth 100000 in
theorem co_L_region : Cond.codeWith yL_region cL_region 7 (some .int) [(0, 11, 14, 13)] ∈ TS := List.mem_filter.mpr ⟨mt_3 (List.mem_of_getElem? (i := 202) (by show tables_1_3[_]? = _; rfl)), rfl⟩
theorem cl_L_13 : Cond.classLink RL 13 "java/lang/IllegalArgumentException" ∈ TS := List.mem_filter.mpr ⟨mt_3 (List.mem_of_getElem? (i := 203) rfl), rfl⟩
theorem ml_L_7 : Cond.methodLink RL 7 yX9_region ∈ TS := List.mem_filter.mpr ⟨mt_3 (List.mem_of_getElem? (i := 204) rfl), rfl⟩
theorem im_X9_region : Cond.instanceMethod yX9_region ∈ TS := List.mem_filter.mpr ⟨mt_3 (List.mem_of_getElem? (i := 205) rfl), rfl⟩
theorem se_X9_X9_region : Cond.selects RX9 yX9_region yX9_region ∈ TS := List.mem_filter.mpr ⟨mt_3 (List.mem_of_getElem? (i := 206) rfl), rfl⟩
set_option maxRecDepth 100000 in
theorem co_X9_region : Cond.code yX9_region cX9_region 6 none ∈ TS := List.mem_filter.mpr ⟨mt_3 (List.mem_of_getElem? (i := 207) (by show tables_1_3[_]? = _; rfl)), rfl⟩
theorem ml_X9_50 : Cond.methodLink RX9 50 yX9_isRegion ∈ TS := List.mem_filter.mpr ⟨mt_3 (List.mem_of_getElem? (i := 208) rfl), rfl⟩
theorem ml_X9_53 : Cond.methodLink RX9 53 yX9_require ∈ TS := List.mem_filter.mpr ⟨mt_3 (List.mem_of_getElem? (i := 209) rfl), rfl⟩
theorem st_X9_require : Cond.static yX9_require ∈ TS := List.mem_filter.mpr ⟨mt_3 (List.mem_of_getElem? (i := 210) rfl), rfl⟩
set_option maxRecDepth 100000 in
theorem co_X9_require : Cond.code yX9_require cX9_require 1 none ∈ TS := List.mem_filter.mpr ⟨mt_3 (List.mem_of_getElem? (i := 211) (by show tables_1_3[_]? = _; rfl)), rfl⟩
theorem cl_X9_188 : Cond.classLink RX9 188 "java/lang/IllegalArgumentException" ∈ TS := List.mem_filter.mpr ⟨mt_3 (List.mem_of_getElem? (i := 212) rfl), rfl⟩
theorem ia_IllegalArgumentException : Cond.instantiable "java/lang/IllegalArgumentException" 6 ∈ TS := List.mem_filter.mpr ⟨mt_3 (List.mem_of_getElem? (i := 213) rfl), rfl⟩
theorem ca_IllegalArgumentException_IllegalArgumentException : Cond.castable "java/lang/IllegalArgumentException" "java/lang/IllegalArgumentException" ∈ TS := List.mem_filter.mpr ⟨mt_3 (List.mem_of_getElem? (i := 214) rfl), rfl⟩
theorem se_IllegalArgumentException_Throwable_fillInStackTrace : Cond.selects "java/lang/IllegalArgumentException" ⟨"java/lang/Throwable", "fillInStackTrace", "(I)Ljava/lang/Throwable;"⟩ ⟨"java/lang/Throwable", "fillInStackTrace", "(I)Ljava/lang/Throwable;"⟩ ∈ TS := List.mem_filter.mpr ⟨mt_3 (List.mem_of_getElem? (i := 221) rfl), rfl⟩
theorem la_IllegalArgumentException_cause : Cond.lays "java/lang/IllegalArgumentException" "java/lang/Throwable" "cause" "Ljava/lang/Throwable;" ∈ TS := List.mem_filter.mpr ⟨mt_3 (List.mem_of_getElem? (i := 223) rfl), rfl⟩
theorem la_Throwable_cause : Cond.lays "java/lang/Throwable" "java/lang/Throwable" "cause" "Ljava/lang/Throwable;" ∈ TS := List.mem_filter.mpr ⟨mt_3 (List.mem_of_getElem? (i := 224) rfl), rfl⟩
theorem la_IllegalArgumentException_stackTrace : Cond.lays "java/lang/IllegalArgumentException" "java/lang/Throwable" "stackTrace" "[Ljava/lang/StackTraceElement;" ∈ TS := List.mem_filter.mpr ⟨mt_3 (List.mem_of_getElem? (i := 225) rfl), rfl⟩
theorem la_Throwable_stackTrace : Cond.lays "java/lang/Throwable" "java/lang/Throwable" "stackTrace" "[Ljava/lang/StackTraceElement;" ∈ TS := List.mem_filter.mpr ⟨mt_3 (List.mem_of_getElem? (i := 226) rfl), rfl⟩
theorem la_IllegalArgumentException_suppressedExceptions : Cond.lays "java/lang/IllegalArgumentException" "java/lang/Throwable" "suppressedExceptions" "Ljava/util/List;" ∈ TS := List.mem_filter.mpr ⟨mt_3 (List.mem_of_getElem? (i := 227) rfl), rfl⟩
theorem la_Throwable_suppressedExceptions : Cond.lays "java/lang/Throwable" "java/lang/Throwable" "suppressedExceptions" "Ljava/util/List;" ∈ TS := List.mem_filter.mpr ⟨mt_3 (List.mem_of_getElem? (i := 228) rfl), rfl⟩
theorem la_IllegalArgumentException_detailMessage : Cond.lays "java/lang/IllegalArgumentException" "java/lang/Throwable" "detailMessage" "Ljava/lang/String;" ∈ TS := List.mem_filter.mpr ⟨mt_3 (List.mem_of_getElem? (i := 229) rfl), rfl⟩
theorem la_Throwable_detailMessage : Cond.lays "java/lang/Throwable" "java/lang/Throwable" "detailMessage" "Ljava/lang/String;" ∈ TS := List.mem_filter.mpr ⟨mt_3 (List.mem_of_getElem? (i := 230) rfl), rfl⟩
theorem la_IllegalArgumentException_backtrace : Cond.lays "java/lang/IllegalArgumentException" "java/lang/Throwable" "backtrace" "Ljava/lang/Object;" ∈ TS := List.mem_filter.mpr ⟨mt_3 (List.mem_of_getElem? (i := 231) rfl), rfl⟩
theorem la_Throwable_backtrace : Cond.lays "java/lang/Throwable" "java/lang/Throwable" "backtrace" "Ljava/lang/Object;" ∈ TS := List.mem_filter.mpr ⟨mt_3 (List.mem_of_getElem? (i := 232) rfl), rfl⟩
theorem fl_Throwable_198 : Cond.fieldLink "java/lang/Throwable" 198 "java/lang/Throwable" "backtrace" "Ljava/lang/Object;" ∈ TS := List.mem_filter.mpr ⟨mt_3 (List.mem_of_getElem? (i := 233) rfl), rfl⟩
theorem im_Throwable__init_ : Cond.instanceMethod ⟨"java/lang/Throwable", "<init>", "()V"⟩ ∈ TS := List.mem_filter.mpr ⟨mt_3 (List.mem_of_getElem? (i := 235) rfl), rfl⟩
set_option maxRecDepth 100000 in
theorem co_Throwable__init_ : Cond.code ⟨"java/lang/Throwable", "<init>", "()V"⟩ prog_18_method_1_code 1 none ∈ TS := List.mem_filter.mpr ⟨mt_3 (List.mem_of_getElem? (i := 236) (by show tables_1_3[_]? = _; rfl)), rfl⟩
theorem ml_Throwable_1 : Cond.methodLink "java/lang/Throwable" 1 ⟨"java/lang/Object", "<init>", "()V"⟩ ∈ TS := List.mem_filter.mpr ⟨mt_3 (List.mem_of_getElem? (i := 237) rfl), rfl⟩
theorem fl_Throwable_13 : Cond.fieldLink "java/lang/Throwable" 13 "java/lang/Throwable" "UNASSIGNED_STACK" "[Ljava/lang/StackTraceElement;" ∈ TS := List.mem_filter.mpr ⟨mt_3 (List.mem_of_getElem? (i := 238) rfl), rfl⟩
theorem fl_Throwable_20 : Cond.fieldLink "java/lang/Throwable" 20 "java/lang/Throwable" "SUPPRESSED_SENTINEL" "Ljava/util/List;" ∈ TS := List.mem_filter.mpr ⟨mt_4 (List.mem_of_getElem? (i := 0) rfl), rfl⟩
theorem ml_Throwable_27 : Cond.methodLink "java/lang/Throwable" 27 ⟨"java/lang/Throwable", "fillInStackTrace", "()Ljava/lang/Throwable;"⟩ ∈ TS := List.mem_filter.mpr ⟨mt_4 (List.mem_of_getElem? (i := 2) rfl), rfl⟩
theorem im_Throwable_fillInStackTrace : Cond.instanceMethod ⟨"java/lang/Throwable", "fillInStackTrace", "()Ljava/lang/Throwable;"⟩ ∈ TS := List.mem_filter.mpr ⟨mt_4 (List.mem_of_getElem? (i := 3) rfl), rfl⟩
theorem se_IllegalStateException_Throwable_fillInStackTrace : Cond.selects "java/lang/IllegalStateException" ⟨"java/lang/Throwable", "fillInStackTrace", "()Ljava/lang/Throwable;"⟩ ⟨"java/lang/Throwable", "fillInStackTrace", "()Ljava/lang/Throwable;"⟩ ∈ TS := List.mem_filter.mpr ⟨mt_4 (List.mem_of_getElem? (i := 5) rfl), rfl⟩
theorem se_NoSuchElementException_Throwable_fillInStackTrace : Cond.selects "java/util/NoSuchElementException" ⟨"java/lang/Throwable", "fillInStackTrace", "()Ljava/lang/Throwable;"⟩ ⟨"java/lang/Throwable", "fillInStackTrace", "()Ljava/lang/Throwable;"⟩ ∈ TS := List.mem_filter.mpr ⟨mt_4 (List.mem_of_getElem? (i := 6) rfl), rfl⟩
theorem ml_Throwable_202 : Cond.methodLink "java/lang/Throwable" 202 ⟨"java/lang/Throwable", "fillInStackTrace", "(I)Ljava/lang/Throwable;"⟩ ∈ TS := List.mem_filter.mpr ⟨mt_4 (List.mem_of_getElem? (i := 8) rfl), rfl⟩
theorem ia_Throwable : Cond.instantiable "java/lang/Throwable" 6 ∈ TS := List.mem_filter.mpr ⟨mt_4 (List.mem_of_getElem? (i := 11) rfl), rfl⟩
theorem ml_X9_190 : Cond.methodLink RX9 190 ⟨"java/lang/IllegalArgumentException", "<init>", "()V"⟩ ∈ TS := List.mem_filter.mpr ⟨mt_4 (List.mem_of_getElem? (i := 13) rfl), rfl⟩
theorem im_IllegalArgumentException__init_ : Cond.instanceMethod ⟨"java/lang/IllegalArgumentException", "<init>", "()V"⟩ ∈ TS := List.mem_filter.mpr ⟨mt_4 (List.mem_of_getElem? (i := 14) rfl), rfl⟩
set_option maxRecDepth 100000 in
theorem co_IllegalArgumentException__init_ : Cond.code ⟨"java/lang/IllegalArgumentException", "<init>", "()V"⟩ prog_14_method_1_code 1 none ∈ TS := List.mem_filter.mpr ⟨mt_4 (List.mem_of_getElem? (i := 15) (by show tables_1_4[_]? = _; rfl)), rfl⟩
theorem ml_IllegalArgumentException_1 : Cond.methodLink "java/lang/IllegalArgumentException" 1 ⟨"java/lang/RuntimeException", "<init>", "()V"⟩ ∈ TS := List.mem_filter.mpr ⟨mt_4 (List.mem_of_getElem? (i := 16) rfl), rfl⟩
theorem im_RuntimeException__init_ : Cond.instanceMethod ⟨"java/lang/RuntimeException", "<init>", "()V"⟩ ∈ TS := List.mem_filter.mpr ⟨mt_4 (List.mem_of_getElem? (i := 17) rfl), rfl⟩
set_option maxRecDepth 100000 in
theorem co_RuntimeException__init_ : Cond.code ⟨"java/lang/RuntimeException", "<init>", "()V"⟩ prog_17_method_1_code 1 none ∈ TS := List.mem_filter.mpr ⟨mt_4 (List.mem_of_getElem? (i := 18) (by show tables_1_4[_]? = _; rfl)), rfl⟩
theorem ml_RuntimeException_1 : Cond.methodLink "java/lang/RuntimeException" 1 ⟨"java/lang/Exception", "<init>", "()V"⟩ ∈ TS := List.mem_filter.mpr ⟨mt_4 (List.mem_of_getElem? (i := 19) rfl), rfl⟩
theorem im_Exception__init_ : Cond.instanceMethod ⟨"java/lang/Exception", "<init>", "()V"⟩ ∈ TS := List.mem_filter.mpr ⟨mt_4 (List.mem_of_getElem? (i := 20) rfl), rfl⟩
set_option maxRecDepth 100000 in
theorem co_Exception__init_ : Cond.code ⟨"java/lang/Exception", "<init>", "()V"⟩ prog_13_method_1_code 1 none ∈ TS := List.mem_filter.mpr ⟨mt_4 (List.mem_of_getElem? (i := 21) (by show tables_1_4[_]? = _; rfl)), rfl⟩
theorem ml_Exception_1 : Cond.methodLink "java/lang/Exception" 1 ⟨"java/lang/Throwable", "<init>", "()V"⟩ ∈ TS := List.mem_filter.mpr ⟨mt_4 (List.mem_of_getElem? (i := 22) rfl), rfl⟩
theorem fl_Throwable_7 : Cond.fieldLink "java/lang/Throwable" 7 "java/lang/Throwable" "cause" "Ljava/lang/Throwable;" ∈ TS := List.mem_filter.mpr ⟨mt_4 (List.mem_of_getElem? (i := 24) rfl), rfl⟩
theorem fl_Throwable_17 : Cond.fieldLink "java/lang/Throwable" 17 "java/lang/Throwable" "stackTrace" "[Ljava/lang/StackTraceElement;" ∈ TS := List.mem_filter.mpr ⟨mt_4 (List.mem_of_getElem? (i := 25) rfl), rfl⟩
theorem fl_Throwable_24 : Cond.fieldLink "java/lang/Throwable" 24 "java/lang/Throwable" "suppressedExceptions" "Ljava/util/List;" ∈ TS := List.mem_filter.mpr ⟨mt_4 (List.mem_of_getElem? (i := 26) rfl), rfl⟩
theorem la_IllegalArgumentException_depth : Cond.lays "java/lang/IllegalArgumentException" "java/lang/Throwable" "depth" "I" ∈ TS := List.mem_filter.mpr ⟨mt_4 (List.mem_of_getElem? (i := 31) rfl), rfl⟩
theorem ml_X9_61 : Cond.methodLink RX9 61 yX6_become ∈ TS := List.mem_filter.mpr ⟨mt_4 (List.mem_of_getElem? (i := 35) rfl), rfl⟩
theorem im_X6_become : Cond.instanceMethod yX6_become ∈ TS := List.mem_filter.mpr ⟨mt_4 (List.mem_of_getElem? (i := 36) rfl), rfl⟩
theorem se_X6_X6_become : Cond.selects RX6 yX6_become yX6_become ∈ TS := List.mem_filter.mpr ⟨mt_4 (List.mem_of_getElem? (i := 37) rfl), rfl⟩
set_option maxRecDepth 100000 in
theorem co_X6_become : Cond.code yX6_become cX6_become 4 none ∈ TS := List.mem_filter.mpr ⟨mt_4 (List.mem_of_getElem? (i := 38) (by show tables_1_4[_]? = _; rfl)), rfl⟩
theorem ml_L_60 : Cond.methodLink RL 60 yL_store ∈ TS := List.mem_filter.mpr ⟨mt_4 (List.mem_of_getElem? (i := 39) rfl), rfl⟩
theorem st_L_store : Cond.static yL_store ∈ TS := List.mem_filter.mpr ⟨mt_4 (List.mem_of_getElem? (i := 40) rfl), rfl⟩
set_option maxRecDepth 100000 in
theorem co_L_store : Cond.codeWith yL_store cL_store 5 (some .int) [(0, 7, 10, 13)] ∈ TS := List.mem_filter.mpr ⟨mt_4 (List.mem_of_getElem? (i := 41) (by show tables_1_4[_]? = _; rfl)), rfl⟩
theorem ml_L_15 : Cond.methodLink RL 15 yX9_store ∈ TS := List.mem_filter.mpr ⟨mt_4 (List.mem_of_getElem? (i := 42) rfl), rfl⟩
theorem im_X9_store : Cond.instanceMethod yX9_store ∈ TS := List.mem_filter.mpr ⟨mt_4 (List.mem_of_getElem? (i := 43) rfl), rfl⟩
theorem se_X9_X9_store : Cond.selects RX9 yX9_store yX9_store ∈ TS := List.mem_filter.mpr ⟨mt_4 (List.mem_of_getElem? (i := 44) rfl), rfl⟩
set_option maxRecDepth 100000 in
theorem co_X9_store : Cond.code yX9_store cX9_store 4 none ∈ TS := List.mem_filter.mpr ⟨mt_4 (List.mem_of_getElem? (i := 45) (by show tables_1_4[_]? = _; rfl)), rfl⟩
theorem ml_X9_67 : Cond.methodLink RX9 67 yX9_isCell ∈ TS := List.mem_filter.mpr ⟨mt_4 (List.mem_of_getElem? (i := 46) rfl), rfl⟩
theorem ml_X9_70 : Cond.methodLink RX9 70 yX1_put ∈ TS := List.mem_filter.mpr ⟨mt_4 (List.mem_of_getElem? (i := 47) rfl), rfl⟩
theorem ml_L_67 : Cond.methodLink RL 67 yL_ready ∈ TS := List.mem_filter.mpr ⟨mt_4 (List.mem_of_getElem? (i := 48) rfl), rfl⟩
theorem st_L_ready : Cond.static yL_ready ∈ TS := List.mem_filter.mpr ⟨mt_4 (List.mem_of_getElem? (i := 49) rfl), rfl⟩
set_option maxRecDepth 100000 in
theorem co_L_ready : Cond.codeWith yL_ready cL_ready 5 (some .int) [(0, 7, 10, 13), (0, 7, 14, 22)] ∈ TS := List.mem_filter.mpr ⟨mt_4 (List.mem_of_getElem? (i := 50) (by show tables_1_4[_]? = _; rfl)), rfl⟩
theorem cl_L_22 : Cond.classLink RL 22 "java/lang/IllegalStateException" ∈ TS := List.mem_filter.mpr ⟨mt_4 (List.mem_of_getElem? (i := 51) rfl), rfl⟩
theorem ml_L_19 : Cond.methodLink RL 19 yX9_ready ∈ TS := List.mem_filter.mpr ⟨mt_4 (List.mem_of_getElem? (i := 52) rfl), rfl⟩
theorem im_X9_ready : Cond.instanceMethod yX9_ready ∈ TS := List.mem_filter.mpr ⟨mt_4 (List.mem_of_getElem? (i := 53) rfl), rfl⟩
theorem se_X9_X9_ready : Cond.selects RX9 yX9_ready yX9_ready ∈ TS := List.mem_filter.mpr ⟨mt_4 (List.mem_of_getElem? (i := 54) rfl), rfl⟩
set_option maxRecDepth 100000 in
theorem co_X9_ready : Cond.code yX9_ready cX9_ready 4 none ∈ TS := List.mem_filter.mpr ⟨mt_4 (List.mem_of_getElem? (i := 55) (by show tables_1_4[_]? = _; rfl)), rfl⟩
theorem ml_X9_81 : Cond.methodLink RX9 81 yX9_isNumber ∈ TS := List.mem_filter.mpr ⟨mt_4 (List.mem_of_getElem? (i := 56) rfl), rfl⟩
theorem st_X9_isNumber : Cond.static yX9_isNumber ∈ TS := List.mem_filter.mpr ⟨mt_4 (List.mem_of_getElem? (i := 57) rfl), rfl⟩
set_option maxRecDepth 100000 in
theorem co_X9_isNumber : Cond.code yX9_isNumber cX9_isNumber 1 (some .boolean) ∈ TS := List.mem_filter.mpr ⟨mt_4 (List.mem_of_getElem? (i := 58) (by show tables_1_4[_]? = _; rfl)), rfl⟩
theorem ml_X9_88 : Cond.methodLink RX9 88 yX9_requireState ∈ TS := List.mem_filter.mpr ⟨mt_4 (List.mem_of_getElem? (i := 59) rfl), rfl⟩
theorem st_X9_requireState : Cond.static yX9_requireState ∈ TS := List.mem_filter.mpr ⟨mt_4 (List.mem_of_getElem? (i := 60) rfl), rfl⟩
set_option maxRecDepth 100000 in
theorem co_X9_requireState : Cond.code yX9_requireState cX9_requireState 1 none ∈ TS := List.mem_filter.mpr ⟨mt_4 (List.mem_of_getElem? (i := 61) (by show tables_1_4[_]? = _; rfl)), rfl⟩
theorem cl_X9_191 : Cond.classLink RX9 191 "java/lang/IllegalStateException" ∈ TS := List.mem_filter.mpr ⟨mt_4 (List.mem_of_getElem? (i := 62) rfl), rfl⟩
theorem ia_IllegalStateException : Cond.instantiable "java/lang/IllegalStateException" 6 ∈ TS := List.mem_filter.mpr ⟨mt_4 (List.mem_of_getElem? (i := 63) rfl), rfl⟩
theorem ca_IllegalStateException_IllegalStateException : Cond.castable "java/lang/IllegalStateException" "java/lang/IllegalStateException" ∈ TS := List.mem_filter.mpr ⟨mt_4 (List.mem_of_getElem? (i := 64) rfl), rfl⟩
theorem la_IllegalStateException_cause : Cond.lays "java/lang/IllegalStateException" "java/lang/Throwable" "cause" "Ljava/lang/Throwable;" ∈ TS := List.mem_filter.mpr ⟨mt_4 (List.mem_of_getElem? (i := 66) rfl), rfl⟩
theorem la_IllegalStateException_stackTrace : Cond.lays "java/lang/IllegalStateException" "java/lang/Throwable" "stackTrace" "[Ljava/lang/StackTraceElement;" ∈ TS := List.mem_filter.mpr ⟨mt_4 (List.mem_of_getElem? (i := 67) rfl), rfl⟩
theorem la_IllegalStateException_suppressedExceptions : Cond.lays "java/lang/IllegalStateException" "java/lang/Throwable" "suppressedExceptions" "Ljava/util/List;" ∈ TS := List.mem_filter.mpr ⟨mt_4 (List.mem_of_getElem? (i := 68) rfl), rfl⟩
theorem la_IllegalStateException_detailMessage : Cond.lays "java/lang/IllegalStateException" "java/lang/Throwable" "detailMessage" "Ljava/lang/String;" ∈ TS := List.mem_filter.mpr ⟨mt_4 (List.mem_of_getElem? (i := 69) rfl), rfl⟩
theorem la_IllegalStateException_backtrace : Cond.lays "java/lang/IllegalStateException" "java/lang/Throwable" "backtrace" "Ljava/lang/Object;" ∈ TS := List.mem_filter.mpr ⟨mt_4 (List.mem_of_getElem? (i := 70) rfl), rfl⟩
theorem ml_X9_193 : Cond.methodLink RX9 193 ⟨"java/lang/IllegalStateException", "<init>", "()V"⟩ ∈ TS := List.mem_filter.mpr ⟨mt_4 (List.mem_of_getElem? (i := 71) rfl), rfl⟩
theorem im_IllegalStateException__init_ : Cond.instanceMethod ⟨"java/lang/IllegalStateException", "<init>", "()V"⟩ ∈ TS := List.mem_filter.mpr ⟨mt_4 (List.mem_of_getElem? (i := 72) rfl), rfl⟩
set_option maxRecDepth 100000 in
theorem co_IllegalStateException__init_ : Cond.code ⟨"java/lang/IllegalStateException", "<init>", "()V"⟩ prog_15_method_1_code 1 none ∈ TS := List.mem_filter.mpr ⟨mt_4 (List.mem_of_getElem? (i := 73) (by show tables_1_4[_]? = _; rfl)), rfl⟩
theorem ml_IllegalStateException_1 : Cond.methodLink "java/lang/IllegalStateException" 1 ⟨"java/lang/RuntimeException", "<init>", "()V"⟩ ∈ TS := List.mem_filter.mpr ⟨mt_4 (List.mem_of_getElem? (i := 74) rfl), rfl⟩
theorem la_IllegalStateException_depth : Cond.lays "java/lang/IllegalStateException" "java/lang/Throwable" "depth" "I" ∈ TS := List.mem_filter.mpr ⟨mt_4 (List.mem_of_getElem? (i := 75) rfl), rfl⟩
theorem ml_X9_91 : Cond.methodLink RX9 91 yX3_start ∈ TS := List.mem_filter.mpr ⟨mt_4 (List.mem_of_getElem? (i := 77) rfl), rfl⟩
theorem im_X3_start : Cond.instanceMethod yX3_start ∈ TS := List.mem_filter.mpr ⟨mt_4 (List.mem_of_getElem? (i := 78) rfl), rfl⟩
theorem se_X3_X3_start : Cond.selects RX3 yX3_start yX3_start ∈ TS := List.mem_filter.mpr ⟨mt_4 (List.mem_of_getElem? (i := 79) rfl), rfl⟩
set_option maxRecDepth 100000 in
theorem co_X3_start : Cond.code yX3_start cX3_start 3 none ∈ TS := List.mem_filter.mpr ⟨mt_4 (List.mem_of_getElem? (i := 80) (by show tables_1_4[_]? = _; rfl)), rfl⟩
theorem ml_X3_31 : Cond.methodLink RX3 31 yX7_start ∈ TS := List.mem_filter.mpr ⟨mt_4 (List.mem_of_getElem? (i := 81) rfl), rfl⟩
theorem ml_L_75 : Cond.methodLink RL 75 yL_send ∈ TS := List.mem_filter.mpr ⟨mt_4 (List.mem_of_getElem? (i := 82) rfl), rfl⟩
theorem st_L_send : Cond.static yL_send ∈ TS := List.mem_filter.mpr ⟨mt_4 (List.mem_of_getElem? (i := 83) rfl), rfl⟩
set_option maxRecDepth 100000 in
theorem co_L_send : Cond.codeWith yL_send cL_send 6 (some .int) [(0, 12, 15, 13), (0, 12, 19, 22)] ∈ TS := List.mem_filter.mpr ⟨mt_4 (List.mem_of_getElem? (i := 84) (by show tables_1_4[_]? = _; rfl)), rfl⟩
theorem ml_L_24 : Cond.methodLink RL 24 yX9_send ∈ TS := List.mem_filter.mpr ⟨mt_4 (List.mem_of_getElem? (i := 85) rfl), rfl⟩
theorem im_X9_send : Cond.instanceMethod yX9_send ∈ TS := List.mem_filter.mpr ⟨mt_4 (List.mem_of_getElem? (i := 86) rfl), rfl⟩
theorem se_X9_X9_send : Cond.selects RX9 yX9_send yX9_send ∈ TS := List.mem_filter.mpr ⟨mt_4 (List.mem_of_getElem? (i := 87) rfl), rfl⟩
set_option maxRecDepth 100000 in
theorem co_X9_send : Cond.code yX9_send cX9_send 4 (some .int) ∈ TS := List.mem_filter.mpr ⟨mt_4 (List.mem_of_getElem? (i := 88) (by show tables_1_4[_]? = _; rfl)), rfl⟩
theorem ml_X9_97 : Cond.methodLink RX9 97 yX9_areCells ∈ TS := List.mem_filter.mpr ⟨mt_4 (List.mem_of_getElem? (i := 89) rfl), rfl⟩
theorem st_X9_areCells : Cond.static yX9_areCells ∈ TS := List.mem_filter.mpr ⟨mt_4 (List.mem_of_getElem? (i := 90) rfl), rfl⟩
set_option maxRecDepth 100000 in
theorem co_X9_areCells : Cond.code yX9_areCells cX9_areCells 2 (some .boolean) ∈ TS := List.mem_filter.mpr ⟨mt_4 (List.mem_of_getElem? (i := 91) (by show tables_1_4[_]? = _; rfl)), rfl⟩
theorem ml_X9_101 : Cond.methodLink RX9 101 yX3_takesRequests ∈ TS := List.mem_filter.mpr ⟨mt_4 (List.mem_of_getElem? (i := 92) rfl), rfl⟩
theorem im_X3_takesRequests : Cond.instanceMethod yX3_takesRequests ∈ TS := List.mem_filter.mpr ⟨mt_4 (List.mem_of_getElem? (i := 93) rfl), rfl⟩
theorem se_X3_X3_takesRequests : Cond.selects RX3 yX3_takesRequests yX3_takesRequests ∈ TS := List.mem_filter.mpr ⟨mt_4 (List.mem_of_getElem? (i := 94) rfl), rfl⟩
set_option maxRecDepth 100000 in
theorem co_X3_takesRequests : Cond.code yX3_takesRequests cX3_takesRequests 1 (some .boolean) ∈ TS := List.mem_filter.mpr ⟨mt_4 (List.mem_of_getElem? (i := 95) (by show tables_1_4[_]? = _; rfl)), rfl⟩
theorem ml_X3_42 : Cond.methodLink RX3 42 yX5_isFull ∈ TS := List.mem_filter.mpr ⟨mt_4 (List.mem_of_getElem? (i := 96) rfl), rfl⟩
theorem im_X5_isFull : Cond.instanceMethod yX5_isFull ∈ TS := List.mem_filter.mpr ⟨mt_4 (List.mem_of_getElem? (i := 97) rfl), rfl⟩
theorem se_X5_X5_isFull : Cond.selects RX5 yX5_isFull yX5_isFull ∈ TS := List.mem_filter.mpr ⟨mt_4 (List.mem_of_getElem? (i := 98) rfl), rfl⟩
set_option maxRecDepth 100000 in
theorem co_X5_isFull : Cond.code yX5_isFull cX5_isFull 1 (some .boolean) ∈ TS := List.mem_filter.mpr ⟨mt_4 (List.mem_of_getElem? (i := 99) (by show tables_1_4[_]? = _; rfl)), rfl⟩
theorem ml_X9_109 : Cond.methodLink RX9 109 yX7_post ∈ TS := List.mem_filter.mpr ⟨mt_4 (List.mem_of_getElem? (i := 100) rfl), rfl⟩
theorem im_X7_post : Cond.instanceMethod yX7_post ∈ TS := List.mem_filter.mpr ⟨mt_4 (List.mem_of_getElem? (i := 101) rfl), rfl⟩
theorem se_X7_X7_post : Cond.selects RX7 yX7_post yX7_post ∈ TS := List.mem_filter.mpr ⟨mt_4 (List.mem_of_getElem? (i := 102) rfl), rfl⟩
set_option maxRecDepth 100000 in
theorem co_X7_post : Cond.code yX7_post cX7_post 8 (some .int) ∈ TS := List.mem_filter.mpr ⟨mt_4 (List.mem_of_getElem? (i := 103) (by show tables_1_4[_]? = _; rfl)), rfl⟩
theorem ml_X7_74 : Cond.methodLink RX7 74 yX5_append ∈ TS := List.mem_filter.mpr ⟨mt_4 (List.mem_of_getElem? (i := 104) rfl), rfl⟩
theorem im_X5_append : Cond.instanceMethod yX5_append ∈ TS := List.mem_filter.mpr ⟨mt_4 (List.mem_of_getElem? (i := 105) rfl), rfl⟩
theorem se_X5_X5_append : Cond.selects RX5 yX5_append yX5_append ∈ TS := List.mem_filter.mpr ⟨mt_4 (List.mem_of_getElem? (i := 106) rfl), rfl⟩
set_option maxRecDepth 100000 in
theorem co_X5_append : Cond.code yX5_append cX5_append 5 (some (.object "RemoteReach$Posted")) ∈ TS := List.mem_filter.mpr ⟨mt_4 (List.mem_of_getElem? (i := 107) (by show tables_1_4[_]? = _; rfl)), rfl⟩
theorem mn_X7_83 : Cond.methodLinkNest RX7 83 yX9_numbersFor RX9 ∈ TS := List.mem_filter.mpr ⟨mt_4 (List.mem_of_getElem? (i := 108) rfl), rfl⟩
theorem ml_L_79 : Cond.methodLink RL 79 yL_move ∈ TS := List.mem_filter.mpr ⟨mt_4 (List.mem_of_getElem? (i := 109) rfl), rfl⟩
theorem st_L_move : Cond.static yL_move ∈ TS := List.mem_filter.mpr ⟨mt_4 (List.mem_of_getElem? (i := 110) rfl), rfl⟩
set_option maxRecDepth 100000 in
theorem co_L_move : Cond.codeWith yL_move cL_move 9 (some .int) [(0, 18, 21, 13), (0, 18, 25, 22)] ∈ TS := List.mem_filter.mpr ⟨mt_4 (List.mem_of_getElem? (i := 111) (by show tables_1_4[_]? = _; rfl)), rfl⟩
theorem ml_L_28 : Cond.methodLink RL 28 yX9_move ∈ TS := List.mem_filter.mpr ⟨mt_4 (List.mem_of_getElem? (i := 112) rfl), rfl⟩
theorem im_X9_move : Cond.instanceMethod yX9_move ∈ TS := List.mem_filter.mpr ⟨mt_4 (List.mem_of_getElem? (i := 113) rfl), rfl⟩
theorem se_X9_X9_move : Cond.selects RX9 yX9_move yX9_move ∈ TS := List.mem_filter.mpr ⟨mt_4 (List.mem_of_getElem? (i := 114) rfl), rfl⟩
set_option maxRecDepth 100000 in
theorem co_X9_move : Cond.code yX9_move cX9_move 7 (some .int) ∈ TS := List.mem_filter.mpr ⟨mt_4 (List.mem_of_getElem? (i := 115) (by show tables_1_4[_]? = _; rfl)), rfl⟩
theorem ml_L_83 : Cond.methodLink RL 83 yL_add ∈ TS := List.mem_filter.mpr ⟨mt_4 (List.mem_of_getElem? (i := 116) rfl), rfl⟩
theorem st_L_add : Cond.static yL_add ∈ TS := List.mem_filter.mpr ⟨mt_4 (List.mem_of_getElem? (i := 117) rfl), rfl⟩
set_option maxRecDepth 100000 in
theorem co_L_add : Cond.codeWith yL_add cL_add 8 (some .int) [(0, 16, 19, 13), (0, 16, 23, 22)] ∈ TS := List.mem_filter.mpr ⟨mt_4 (List.mem_of_getElem? (i := 118) (by show tables_1_4[_]? = _; rfl)), rfl⟩
theorem ml_L_32 : Cond.methodLink RL 32 yX9_add ∈ TS := List.mem_filter.mpr ⟨mt_4 (List.mem_of_getElem? (i := 119) rfl), rfl⟩
theorem im_X9_add : Cond.instanceMethod yX9_add ∈ TS := List.mem_filter.mpr ⟨mt_4 (List.mem_of_getElem? (i := 120) rfl), rfl⟩
theorem se_X9_X9_add : Cond.selects RX9 yX9_add yX9_add ∈ TS := List.mem_filter.mpr ⟨mt_4 (List.mem_of_getElem? (i := 121) rfl), rfl⟩
set_option maxRecDepth 100000 in
theorem co_X9_add : Cond.code yX9_add cX9_add 6 (some .int) ∈ TS := List.mem_filter.mpr ⟨mt_4 (List.mem_of_getElem? (i := 122) (by show tables_1_4[_]? = _; rfl)), rfl⟩
theorem ml_L_87 : Cond.methodLink RL 87 yL_receive ∈ TS := List.mem_filter.mpr ⟨mt_4 (List.mem_of_getElem? (i := 123) rfl), rfl⟩
theorem st_L_receive : Cond.static yL_receive ∈ TS := List.mem_filter.mpr ⟨mt_4 (List.mem_of_getElem? (i := 124) rfl), rfl⟩
set_option maxRecDepth 100000 in
theorem co_L_receive : Cond.codeWith yL_receive cL_receive 6 (some .int) [(0, 12, 15, 13), (0, 12, 19, 22)] ∈ TS := List.mem_filter.mpr ⟨mt_4 (List.mem_of_getElem? (i := 125) (by show tables_1_4[_]? = _; rfl)), rfl⟩
theorem ml_L_36 : Cond.methodLink RL 36 yX9_receive ∈ TS := List.mem_filter.mpr ⟨mt_4 (List.mem_of_getElem? (i := 126) rfl), rfl⟩
theorem im_X9_receive : Cond.instanceMethod yX9_receive ∈ TS := List.mem_filter.mpr ⟨mt_4 (List.mem_of_getElem? (i := 127) rfl), rfl⟩
theorem se_X9_X9_receive : Cond.selects RX9 yX9_receive yX9_receive ∈ TS := List.mem_filter.mpr ⟨mt_4 (List.mem_of_getElem? (i := 128) rfl), rfl⟩
set_option maxRecDepth 100000 in
theorem co_X9_receive : Cond.code yX9_receive cX9_receive 4 (some .int) ∈ TS := List.mem_filter.mpr ⟨mt_4 (List.mem_of_getElem? (i := 129) (by show tables_1_4[_]? = _; rfl)), rfl⟩
theorem ml_X9_113 : Cond.methodLink RX9 113 yX3_takesReceives ∈ TS := List.mem_filter.mpr ⟨mt_4 (List.mem_of_getElem? (i := 130) rfl), rfl⟩
theorem im_X3_takesReceives : Cond.instanceMethod yX3_takesReceives ∈ TS := List.mem_filter.mpr ⟨mt_4 (List.mem_of_getElem? (i := 131) rfl), rfl⟩
theorem se_X3_X3_takesReceives : Cond.selects RX3 yX3_takesReceives yX3_takesReceives ∈ TS := List.mem_filter.mpr ⟨mt_4 (List.mem_of_getElem? (i := 132) rfl), rfl⟩
set_option maxRecDepth 100000 in
theorem co_X3_takesReceives : Cond.code yX3_takesReceives cX3_takesReceives 1 (some .boolean) ∈ TS := List.mem_filter.mpr ⟨mt_4 (List.mem_of_getElem? (i := 133) (by show tables_1_4[_]? = _; rfl)), rfl⟩
theorem ml_X9_124 : Cond.methodLink RX9 124 yX5_append ∈ TS := List.mem_filter.mpr ⟨mt_4 (List.mem_of_getElem? (i := 134) rfl), rfl⟩
theorem ml_L_125 : Cond.methodLink RL 125 yL_poll ∈ TS := List.mem_filter.mpr ⟨mt_4 (List.mem_of_getElem? (i := 135) rfl), rfl⟩
theorem st_L_poll : Cond.static yL_poll ∈ TS := List.mem_filter.mpr ⟨mt_4 (List.mem_of_getElem? (i := 136) rfl), rfl⟩
set_option maxRecDepth 100000 in
theorem co_L_poll : Cond.codeWith yL_poll cL_poll 5 (some .int) [(0, 10, 13, 13), (0, 10, 17, 43)] ∈ TS := List.mem_filter.mpr ⟨mt_4 (List.mem_of_getElem? (i := 137) (by show tables_1_4[_]? = _; rfl)), rfl⟩
theorem cl_L_43 : Cond.classLink RL 43 "java/util/NoSuchElementException" ∈ TS := List.mem_filter.mpr ⟨mt_4 (List.mem_of_getElem? (i := 138) rfl), rfl⟩
theorem ml_L_39 : Cond.methodLink RL 39 yX9_poll ∈ TS := List.mem_filter.mpr ⟨mt_4 (List.mem_of_getElem? (i := 139) rfl), rfl⟩
theorem im_X9_poll : Cond.instanceMethod yX9_poll ∈ TS := List.mem_filter.mpr ⟨mt_4 (List.mem_of_getElem? (i := 140) rfl), rfl⟩
theorem se_X9_X9_poll : Cond.selects RX9 yX9_poll yX9_poll ∈ TS := List.mem_filter.mpr ⟨mt_4 (List.mem_of_getElem? (i := 141) rfl), rfl⟩
set_option maxRecDepth 100000 in
theorem co_X9_poll : Cond.code yX9_poll cX9_poll 3 (some .int) ∈ TS := List.mem_filter.mpr ⟨mt_4 (List.mem_of_getElem? (i := 142) (by show tables_1_4[_]? = _; rfl)), rfl⟩
theorem cl_X9_179 : Cond.classLink RX9 179 "java/util/NoSuchElementException" ∈ TS := List.mem_filter.mpr ⟨mt_4 (List.mem_of_getElem? (i := 143) rfl), rfl⟩
theorem ia_NoSuchElementException : Cond.instantiable "java/util/NoSuchElementException" 6 ∈ TS := List.mem_filter.mpr ⟨mt_4 (List.mem_of_getElem? (i := 144) rfl), rfl⟩
theorem ca_NoSuchElementException_NoSuchElementException : Cond.castable "java/util/NoSuchElementException" "java/util/NoSuchElementException" ∈ TS := List.mem_filter.mpr ⟨mt_4 (List.mem_of_getElem? (i := 145) rfl), rfl⟩
theorem la_NoSuchElementException_cause : Cond.lays "java/util/NoSuchElementException" "java/lang/Throwable" "cause" "Ljava/lang/Throwable;" ∈ TS := List.mem_filter.mpr ⟨mt_4 (List.mem_of_getElem? (i := 147) rfl), rfl⟩
theorem la_NoSuchElementException_stackTrace : Cond.lays "java/util/NoSuchElementException" "java/lang/Throwable" "stackTrace" "[Ljava/lang/StackTraceElement;" ∈ TS := List.mem_filter.mpr ⟨mt_4 (List.mem_of_getElem? (i := 148) rfl), rfl⟩
theorem la_NoSuchElementException_suppressedExceptions : Cond.lays "java/util/NoSuchElementException" "java/lang/Throwable" "suppressedExceptions" "Ljava/util/List;" ∈ TS := List.mem_filter.mpr ⟨mt_4 (List.mem_of_getElem? (i := 149) rfl), rfl⟩
theorem la_NoSuchElementException_detailMessage : Cond.lays "java/util/NoSuchElementException" "java/lang/Throwable" "detailMessage" "Ljava/lang/String;" ∈ TS := List.mem_filter.mpr ⟨mt_4 (List.mem_of_getElem? (i := 150) rfl), rfl⟩
theorem la_NoSuchElementException_backtrace : Cond.lays "java/util/NoSuchElementException" "java/lang/Throwable" "backtrace" "Ljava/lang/Object;" ∈ TS := List.mem_filter.mpr ⟨mt_4 (List.mem_of_getElem? (i := 151) rfl), rfl⟩
theorem ml_X9_181 : Cond.methodLink RX9 181 ⟨"java/util/NoSuchElementException", "<init>", "()V"⟩ ∈ TS := List.mem_filter.mpr ⟨mt_4 (List.mem_of_getElem? (i := 152) rfl), rfl⟩
theorem im_NoSuchElementException__init_ : Cond.instanceMethod ⟨"java/util/NoSuchElementException", "<init>", "()V"⟩ ∈ TS := List.mem_filter.mpr ⟨mt_4 (List.mem_of_getElem? (i := 153) rfl), rfl⟩
set_option maxRecDepth 100000 in
theorem co_NoSuchElementException__init_ : Cond.code ⟨"java/util/NoSuchElementException", "<init>", "()V"⟩ prog_19_method_1_code 1 none ∈ TS := List.mem_filter.mpr ⟨mt_4 (List.mem_of_getElem? (i := 154) (by show tables_1_4[_]? = _; rfl)), rfl⟩
theorem ml_NoSuchElementException_1 : Cond.methodLink "java/util/NoSuchElementException" 1 ⟨"java/lang/RuntimeException", "<init>", "()V"⟩ ∈ TS := List.mem_filter.mpr ⟨mt_4 (List.mem_of_getElem? (i := 155) rfl), rfl⟩
theorem la_NoSuchElementException_depth : Cond.lays "java/util/NoSuchElementException" "java/lang/Throwable" "depth" "I" ∈ TS := List.mem_filter.mpr ⟨mt_4 (List.mem_of_getElem? (i := 156) rfl), rfl⟩
theorem ml_X9_182 : Cond.methodLink RX9 182 yX1_tellFirst ∈ TS := List.mem_filter.mpr ⟨mt_4 (List.mem_of_getElem? (i := 158) rfl), rfl⟩
theorem im_X1_tellFirst : Cond.instanceMethod yX1_tellFirst ∈ TS := List.mem_filter.mpr ⟨mt_4 (List.mem_of_getElem? (i := 159) rfl), rfl⟩
theorem se_X1_X1_tellFirst : Cond.selects RX1 yX1_tellFirst yX1_tellFirst ∈ TS := List.mem_filter.mpr ⟨mt_4 (List.mem_of_getElem? (i := 160) rfl), rfl⟩
set_option maxRecDepth 100000 in
theorem co_X1_tellFirst : Cond.code yX1_tellFirst cX1_tellFirst 2 (some .int) ∈ TS := List.mem_filter.mpr ⟨mt_4 (List.mem_of_getElem? (i := 161) (by show tables_1_4[_]? = _; rfl)), rfl⟩
theorem ml_X9_185 : Cond.methodLink RX9 185 yX1_dropFirst ∈ TS := List.mem_filter.mpr ⟨mt_4 (List.mem_of_getElem? (i := 162) rfl), rfl⟩
theorem im_X1_dropFirst : Cond.instanceMethod yX1_dropFirst ∈ TS := List.mem_filter.mpr ⟨mt_4 (List.mem_of_getElem? (i := 163) rfl), rfl⟩
theorem se_X1_X1_dropFirst : Cond.selects RX1 yX1_dropFirst yX1_dropFirst ∈ TS := List.mem_filter.mpr ⟨mt_4 (List.mem_of_getElem? (i := 164) rfl), rfl⟩
set_option maxRecDepth 100000 in
theorem co_X1_dropFirst : Cond.code yX1_dropFirst cX1_dropFirst 1 none ∈ TS := List.mem_filter.mpr ⟨mt_4 (List.mem_of_getElem? (i := 165) (by show tables_1_4[_]? = _; rfl)), rfl⟩
theorem cl_L_53 : Cond.classLink RL 53 RX10 ∈ TS := List.mem_filter.mpr ⟨mt_4 (List.mem_of_getElem? (i := 166) rfl), rfl⟩
theorem ia_X10 : Cond.instantiable RX10 49 ∈ TS := List.mem_filter.mpr ⟨mt_4 (List.mem_of_getElem? (i := 167) rfl), rfl⟩
theorem ml_L_55 : Cond.methodLink RL 55 yX10_init ∈ TS := List.mem_filter.mpr ⟨mt_4 (List.mem_of_getElem? (i := 168) rfl), rfl⟩
theorem im_X10_init : Cond.instanceMethod yX10_init ∈ TS := List.mem_filter.mpr ⟨mt_4 (List.mem_of_getElem? (i := 169) rfl), rfl⟩
set_option maxRecDepth 100000 in
theorem co_X10_init : Cond.code yX10_init cX10_init 4 none ∈ TS := List.mem_filter.mpr ⟨mt_4 (List.mem_of_getElem? (i := 170) (by show tables_1_4[_]? = _; rfl)), rfl⟩
theorem ml_X10_1 : Cond.methodLink RX10 1 ⟨"java/lang/Object", "<init>", "()V"⟩ ∈ TS := List.mem_filter.mpr ⟨mt_4 (List.mem_of_getElem? (i := 171) rfl), rfl⟩
theorem fl_X10_143 : Cond.fieldLink RX10 143 "RemoteReachModel" "timeout" "I" ∈ TS := List.mem_filter.mpr ⟨mt_4 (List.mem_of_getElem? (i := 172) rfl), rfl⟩
theorem fl_X10_147 : Cond.fieldLink RX10 147 "RemoteReachModel" "mostTries" "I" ∈ TS := List.mem_filter.mpr ⟨mt_4 (List.mem_of_getElem? (i := 173) rfl), rfl⟩
theorem fl_X10_150 : Cond.fieldLink RX10 150 "RemoteReachModel" "mostRefusals" "I" ∈ TS := List.mem_filter.mpr ⟨mt_4 (List.mem_of_getElem? (i := 174) rfl), rfl⟩
theorem fl_X10_153 : Cond.fieldLink RX10 153 "RemoteReachModel" "code" "I" ∈ TS := List.mem_filter.mpr ⟨mt_4 (List.mem_of_getElem? (i := 175) rfl), rfl⟩
theorem fl_X10_7 : Cond.fieldLink RX10 7 "RemoteReachModel" "memory" "[I" ∈ TS := List.mem_filter.mpr ⟨mt_4 (List.mem_of_getElem? (i := 176) rfl), rfl⟩
theorem fl_X10_13 : Cond.fieldLink RX10 13 "RemoteReachModel" "base" "[I" ∈ TS := List.mem_filter.mpr ⟨mt_4 (List.mem_of_getElem? (i := 177) rfl), rfl⟩
theorem fl_X10_16 : Cond.fieldLink RX10 16 "RemoteReachModel" "span" "[I" ∈ TS := List.mem_filter.mpr ⟨mt_4 (List.mem_of_getElem? (i := 178) rfl), rfl⟩
theorem fl_X10_19 : Cond.fieldLink RX10 19 "RemoteReachModel" "rights" "[I" ∈ TS := List.mem_filter.mpr ⟨mt_4 (List.mem_of_getElem? (i := 179) rfl), rfl⟩
theorem fl_X10_22 : Cond.fieldLink RX10 22 "RemoteReachModel" "done" "[I" ∈ TS := List.mem_filter.mpr ⟨mt_4 (List.mem_of_getElem? (i := 180) rfl), rfl⟩
theorem fl_X10_25 : Cond.fieldLink RX10 25 "RemoteReachModel" "ends" "[I" ∈ TS := List.mem_filter.mpr ⟨mt_4 (List.mem_of_getElem? (i := 181) rfl), rfl⟩
theorem fl_X10_28 : Cond.fieldLink RX10 28 "RemoteReachModel" "state" "[I" ∈ TS := List.mem_filter.mpr ⟨mt_4 (List.mem_of_getElem? (i := 182) rfl), rfl⟩
theorem fl_X10_31 : Cond.fieldLink RX10 31 "RemoteReachModel" "following" "[I" ∈ TS := List.mem_filter.mpr ⟨mt_4 (List.mem_of_getElem? (i := 183) rfl), rfl⟩
theorem fl_X10_34 : Cond.fieldLink RX10 34 "RemoteReachModel" "oldest" "[I" ∈ TS := List.mem_filter.mpr ⟨mt_4 (List.mem_of_getElem? (i := 184) rfl), rfl⟩
theorem fl_X10_37 : Cond.fieldLink RX10 37 "RemoteReachModel" "cursor" "[I" ∈ TS := List.mem_filter.mpr ⟨mt_4 (List.mem_of_getElem? (i := 185) rfl), rfl⟩
theorem fl_X10_40 : Cond.fieldLink RX10 40 "RemoteReachModel" "expected" "[I" ∈ TS := List.mem_filter.mpr ⟨mt_4 (List.mem_of_getElem? (i := 186) rfl), rfl⟩
theorem fl_X10_43 : Cond.fieldLink RX10 43 "RemoteReachModel" "clock" "[I" ∈ TS := List.mem_filter.mpr ⟨mt_4 (List.mem_of_getElem? (i := 187) rfl), rfl⟩
theorem fl_X10_46 : Cond.fieldLink RX10 46 "RemoteReachModel" "tries" "[I" ∈ TS := List.mem_filter.mpr ⟨mt_4 (List.mem_of_getElem? (i := 188) rfl), rfl⟩
theorem fl_X10_49 : Cond.fieldLink RX10 49 "RemoteReachModel" "refusals" "[I" ∈ TS := List.mem_filter.mpr ⟨mt_4 (List.mem_of_getElem? (i := 189) rfl), rfl⟩
theorem fl_X10_52 : Cond.fieldLink RX10 52 "RemoteReachModel" "resting" "[Z" ∈ TS := List.mem_filter.mpr ⟨mt_4 (List.mem_of_getElem? (i := 190) rfl), rfl⟩
theorem fl_X10_56 : Cond.fieldLink RX10 56 "RemoteReachModel" "nakked" "[Z" ∈ TS := List.mem_filter.mpr ⟨mt_4 (List.mem_of_getElem? (i := 191) rfl), rfl⟩
theorem fl_X10_59 : Cond.fieldLink RX10 59 "RemoteReachModel" "requests" "[I" ∈ TS := List.mem_filter.mpr ⟨mt_4 (List.mem_of_getElem? (i := 192) rfl), rfl⟩
theorem fl_X10_62 : Cond.fieldLink RX10 62 "RemoteReachModel" "serials" "[I" ∈ TS := List.mem_filter.mpr ⟨mt_4 (List.mem_of_getElem? (i := 193) rfl), rfl⟩
theorem fl_X10_65 : Cond.fieldLink RX10 65 "RemoteReachModel" "rKind" "[I" ∈ TS := List.mem_filter.mpr ⟨mt_4 (List.mem_of_getElem? (i := 194) rfl), rfl⟩
theorem fl_X10_68 : Cond.fieldLink RX10 68 "RemoteReachModel" "rHere" "[I" ∈ TS := List.mem_filter.mpr ⟨mt_4 (List.mem_of_getElem? (i := 195) rfl), rfl⟩
theorem fl_X10_71 : Cond.fieldLink RX10 71 "RemoteReachModel" "rSize" "[I" ∈ TS := List.mem_filter.mpr ⟨mt_4 (List.mem_of_getElem? (i := 196) rfl), rfl⟩
theorem fl_X10_74 : Cond.fieldLink RX10 74 "RemoteReachModel" "rRegion" "[I" ∈ TS := List.mem_filter.mpr ⟨mt_4 (List.mem_of_getElem? (i := 197) rfl), rfl⟩
theorem fl_X10_77 : Cond.fieldLink RX10 77 "RemoteReachModel" "rPlace" "[I" ∈ TS := List.mem_filter.mpr ⟨mt_4 (List.mem_of_getElem? (i := 198) rfl), rfl⟩
theorem fl_X10_80 : Cond.fieldLink RX10 80 "RemoteReachModel" "rValue" "[I" ∈ TS := List.mem_filter.mpr ⟨mt_4 (List.mem_of_getElem? (i := 199) rfl), rfl⟩
theorem fl_X10_83 : Cond.fieldLink RX10 83 "RemoteReachModel" "rSerial" "[I" ∈ TS := List.mem_filter.mpr ⟨mt_4 (List.mem_of_getElem? (i := 200) rfl), rfl⟩
theorem fl_X10_86 : Cond.fieldLink RX10 86 "RemoteReachModel" "rFirst" "[I" ∈ TS := List.mem_filter.mpr ⟨mt_4 (List.mem_of_getElem? (i := 201) rfl), rfl⟩
theorem fl_X10_89 : Cond.fieldLink RX10 89 "RemoteReachModel" "receives" "[I" ∈ TS := List.mem_filter.mpr ⟨mt_4 (List.mem_of_getElem? (i := 202) rfl), rfl⟩
theorem fl_X10_92 : Cond.fieldLink RX10 92 "RemoteReachModel" "receiveSerials" "[I" ∈ TS := List.mem_filter.mpr ⟨mt_4 (List.mem_of_getElem? (i := 203) rfl), rfl⟩
theorem fl_X10_95 : Cond.fieldLink RX10 95 "RemoteReachModel" "vHere" "[I" ∈ TS := List.mem_filter.mpr ⟨mt_4 (List.mem_of_getElem? (i := 204) rfl), rfl⟩
theorem fl_X10_98 : Cond.fieldLink RX10 98 "RemoteReachModel" "vSize" "[I" ∈ TS := List.mem_filter.mpr ⟨mt_4 (List.mem_of_getElem? (i := 205) rfl), rfl⟩
theorem fl_X10_101 : Cond.fieldLink RX10 101 "RemoteReachModel" "vSerial" "[I" ∈ TS := List.mem_filter.mpr ⟨mt_4 (List.mem_of_getElem? (i := 206) rfl), rfl⟩
theorem fl_X10_104 : Cond.fieldLink RX10 104 "RemoteReachModel" "vCame" "[I" ∈ TS := List.mem_filter.mpr ⟨mt_4 (List.mem_of_getElem? (i := 207) rfl), rfl⟩
theorem fl_X10_107 : Cond.fieldLink RX10 107 "RemoteReachModel" "begun" "[Z" ∈ TS := List.mem_filter.mpr ⟨mt_4 (List.mem_of_getElem? (i := 208) rfl), rfl⟩
theorem fl_X10_110 : Cond.fieldLink RX10 110 "RemoteReachModel" "adds" "[I" ∈ TS := List.mem_filter.mpr ⟨mt_4 (List.mem_of_getElem? (i := 209) rfl), rfl⟩
theorem fl_X10_113 : Cond.fieldLink RX10 113 "RemoteReachModel" "addNumber" "[I" ∈ TS := List.mem_filter.mpr ⟨mt_4 (List.mem_of_getElem? (i := 210) rfl), rfl⟩
theorem fl_X10_116 : Cond.fieldLink RX10 116 "RemoteReachModel" "addValue" "[I" ∈ TS := List.mem_filter.mpr ⟨mt_4 (List.mem_of_getElem? (i := 211) rfl), rfl⟩
theorem fl_X10_164 : Cond.fieldLink RX10 164 "RemoteReachModel" "packets" "I" ∈ TS := List.mem_filter.mpr ⟨mt_4 (List.mem_of_getElem? (i := 212) rfl), rfl⟩
theorem fl_X10_119 : Cond.fieldLink RX10 119 "RemoteReachModel" "pTo" "[I" ∈ TS := List.mem_filter.mpr ⟨mt_4 (List.mem_of_getElem? (i := 213) rfl), rfl⟩
theorem fl_X10_122 : Cond.fieldLink RX10 122 "RemoteReachModel" "pKind" "[I" ∈ TS := List.mem_filter.mpr ⟨mt_4 (List.mem_of_getElem? (i := 214) rfl), rfl⟩
theorem fl_X10_125 : Cond.fieldLink RX10 125 "RemoteReachModel" "pNumber" "[I" ∈ TS := List.mem_filter.mpr ⟨mt_4 (List.mem_of_getElem? (i := 215) rfl), rfl⟩
theorem fl_X10_128 : Cond.fieldLink RX10 128 "RemoteReachModel" "pSize" "[I" ∈ TS := List.mem_filter.mpr ⟨mt_4 (List.mem_of_getElem? (i := 216) rfl), rfl⟩
theorem fl_X10_131 : Cond.fieldLink RX10 131 "RemoteReachModel" "pMark" "[I" ∈ TS := List.mem_filter.mpr ⟨mt_4 (List.mem_of_getElem? (i := 217) rfl), rfl⟩
theorem fl_X10_134 : Cond.fieldLink RX10 134 "RemoteReachModel" "pPlace" "[I" ∈ TS := List.mem_filter.mpr ⟨mt_4 (List.mem_of_getElem? (i := 218) rfl), rfl⟩
theorem fl_X10_137 : Cond.fieldLink RX10 137 "RemoteReachModel" "pValue" "[I" ∈ TS := List.mem_filter.mpr ⟨mt_4 (List.mem_of_getElem? (i := 219) rfl), rfl⟩
theorem fl_X10_140 : Cond.fieldLink RX10 140 "RemoteReachModel" "pCell" "[I" ∈ TS := List.mem_filter.mpr ⟨mt_4 (List.mem_of_getElem? (i := 220) rfl), rfl⟩
theorem la_X10_timeout : Cond.laysFinal RX10 "RemoteReachModel" "timeout" "I" ∈ TS := List.mem_filter.mpr ⟨mt_4 (List.mem_of_getElem? (i := 221) rfl), rfl⟩
theorem la_X10_mostTries : Cond.laysFinal RX10 "RemoteReachModel" "mostTries" "I" ∈ TS := List.mem_filter.mpr ⟨mt_4 (List.mem_of_getElem? (i := 223) rfl), rfl⟩
theorem la_X10_mostRefusals : Cond.laysFinal RX10 "RemoteReachModel" "mostRefusals" "I" ∈ TS := List.mem_filter.mpr ⟨mt_4 (List.mem_of_getElem? (i := 225) rfl), rfl⟩
theorem la_X10_code : Cond.lays RX10 "RemoteReachModel" "code" "I" ∈ TS := List.mem_filter.mpr ⟨mt_4 (List.mem_of_getElem? (i := 227) rfl), rfl⟩
theorem la_X10_memory : Cond.laysFinal RX10 "RemoteReachModel" "memory" "[I" ∈ TS := List.mem_filter.mpr ⟨mt_4 (List.mem_of_getElem? (i := 229) rfl), rfl⟩
theorem la_X10_base : Cond.laysFinal RX10 "RemoteReachModel" "base" "[I" ∈ TS := List.mem_filter.mpr ⟨mt_4 (List.mem_of_getElem? (i := 231) rfl), rfl⟩
theorem la_X10_span : Cond.laysFinal RX10 "RemoteReachModel" "span" "[I" ∈ TS := List.mem_filter.mpr ⟨mt_4 (List.mem_of_getElem? (i := 233) rfl), rfl⟩
theorem la_X10_rights : Cond.laysFinal RX10 "RemoteReachModel" "rights" "[I" ∈ TS := List.mem_filter.mpr ⟨mt_4 (List.mem_of_getElem? (i := 235) rfl), rfl⟩
theorem la_X10_done : Cond.laysFinal RX10 "RemoteReachModel" "done" "[I" ∈ TS := List.mem_filter.mpr ⟨mt_4 (List.mem_of_getElem? (i := 237) rfl), rfl⟩
theorem la_X10_ends : Cond.laysFinal RX10 "RemoteReachModel" "ends" "[I" ∈ TS := List.mem_filter.mpr ⟨mt_4 (List.mem_of_getElem? (i := 239) rfl), rfl⟩
theorem la_X10_state : Cond.laysFinal RX10 "RemoteReachModel" "state" "[I" ∈ TS := List.mem_filter.mpr ⟨mt_5 (List.mem_of_getElem? (i := 1) rfl), rfl⟩
theorem la_X10_following : Cond.laysFinal RX10 "RemoteReachModel" "following" "[I" ∈ TS := List.mem_filter.mpr ⟨mt_5 (List.mem_of_getElem? (i := 3) rfl), rfl⟩
theorem la_X10_oldest : Cond.laysFinal RX10 "RemoteReachModel" "oldest" "[I" ∈ TS := List.mem_filter.mpr ⟨mt_5 (List.mem_of_getElem? (i := 5) rfl), rfl⟩
theorem la_X10_cursor : Cond.laysFinal RX10 "RemoteReachModel" "cursor" "[I" ∈ TS := List.mem_filter.mpr ⟨mt_5 (List.mem_of_getElem? (i := 7) rfl), rfl⟩
theorem la_X10_expected : Cond.laysFinal RX10 "RemoteReachModel" "expected" "[I" ∈ TS := List.mem_filter.mpr ⟨mt_5 (List.mem_of_getElem? (i := 9) rfl), rfl⟩
theorem la_X10_clock : Cond.laysFinal RX10 "RemoteReachModel" "clock" "[I" ∈ TS := List.mem_filter.mpr ⟨mt_5 (List.mem_of_getElem? (i := 11) rfl), rfl⟩
theorem la_X10_tries : Cond.laysFinal RX10 "RemoteReachModel" "tries" "[I" ∈ TS := List.mem_filter.mpr ⟨mt_5 (List.mem_of_getElem? (i := 13) rfl), rfl⟩
theorem la_X10_refusals : Cond.laysFinal RX10 "RemoteReachModel" "refusals" "[I" ∈ TS := List.mem_filter.mpr ⟨mt_5 (List.mem_of_getElem? (i := 15) rfl), rfl⟩
theorem la_X10_resting : Cond.laysFinal RX10 "RemoteReachModel" "resting" "[Z" ∈ TS := List.mem_filter.mpr ⟨mt_5 (List.mem_of_getElem? (i := 17) rfl), rfl⟩
theorem la_X10_nakked : Cond.laysFinal RX10 "RemoteReachModel" "nakked" "[Z" ∈ TS := List.mem_filter.mpr ⟨mt_5 (List.mem_of_getElem? (i := 19) rfl), rfl⟩
theorem la_X10_requests : Cond.laysFinal RX10 "RemoteReachModel" "requests" "[I" ∈ TS := List.mem_filter.mpr ⟨mt_5 (List.mem_of_getElem? (i := 21) rfl), rfl⟩
theorem la_X10_serials : Cond.laysFinal RX10 "RemoteReachModel" "serials" "[I" ∈ TS := List.mem_filter.mpr ⟨mt_5 (List.mem_of_getElem? (i := 23) rfl), rfl⟩
theorem la_X10_rKind : Cond.laysFinal RX10 "RemoteReachModel" "rKind" "[I" ∈ TS := List.mem_filter.mpr ⟨mt_5 (List.mem_of_getElem? (i := 25) rfl), rfl⟩
theorem la_X10_rHere : Cond.laysFinal RX10 "RemoteReachModel" "rHere" "[I" ∈ TS := List.mem_filter.mpr ⟨mt_5 (List.mem_of_getElem? (i := 27) rfl), rfl⟩
theorem la_X10_rSize : Cond.laysFinal RX10 "RemoteReachModel" "rSize" "[I" ∈ TS := List.mem_filter.mpr ⟨mt_5 (List.mem_of_getElem? (i := 29) rfl), rfl⟩
theorem la_X10_rRegion : Cond.laysFinal RX10 "RemoteReachModel" "rRegion" "[I" ∈ TS := List.mem_filter.mpr ⟨mt_5 (List.mem_of_getElem? (i := 31) rfl), rfl⟩
theorem la_X10_rPlace : Cond.laysFinal RX10 "RemoteReachModel" "rPlace" "[I" ∈ TS := List.mem_filter.mpr ⟨mt_5 (List.mem_of_getElem? (i := 33) rfl), rfl⟩
theorem la_X10_rValue : Cond.laysFinal RX10 "RemoteReachModel" "rValue" "[I" ∈ TS := List.mem_filter.mpr ⟨mt_5 (List.mem_of_getElem? (i := 35) rfl), rfl⟩
theorem la_X10_rSerial : Cond.laysFinal RX10 "RemoteReachModel" "rSerial" "[I" ∈ TS := List.mem_filter.mpr ⟨mt_5 (List.mem_of_getElem? (i := 37) rfl), rfl⟩
theorem la_X10_rFirst : Cond.laysFinal RX10 "RemoteReachModel" "rFirst" "[I" ∈ TS := List.mem_filter.mpr ⟨mt_5 (List.mem_of_getElem? (i := 39) rfl), rfl⟩
theorem la_X10_receives : Cond.laysFinal RX10 "RemoteReachModel" "receives" "[I" ∈ TS := List.mem_filter.mpr ⟨mt_5 (List.mem_of_getElem? (i := 41) rfl), rfl⟩
theorem la_X10_receiveSerials : Cond.laysFinal RX10 "RemoteReachModel" "receiveSerials" "[I" ∈ TS := List.mem_filter.mpr ⟨mt_5 (List.mem_of_getElem? (i := 43) rfl), rfl⟩
theorem la_X10_vHere : Cond.laysFinal RX10 "RemoteReachModel" "vHere" "[I" ∈ TS := List.mem_filter.mpr ⟨mt_5 (List.mem_of_getElem? (i := 45) rfl), rfl⟩
theorem la_X10_vSize : Cond.laysFinal RX10 "RemoteReachModel" "vSize" "[I" ∈ TS := List.mem_filter.mpr ⟨mt_5 (List.mem_of_getElem? (i := 47) rfl), rfl⟩
theorem la_X10_vSerial : Cond.laysFinal RX10 "RemoteReachModel" "vSerial" "[I" ∈ TS := List.mem_filter.mpr ⟨mt_5 (List.mem_of_getElem? (i := 49) rfl), rfl⟩
theorem la_X10_vCame : Cond.laysFinal RX10 "RemoteReachModel" "vCame" "[I" ∈ TS := List.mem_filter.mpr ⟨mt_5 (List.mem_of_getElem? (i := 51) rfl), rfl⟩
theorem la_X10_begun : Cond.laysFinal RX10 "RemoteReachModel" "begun" "[Z" ∈ TS := List.mem_filter.mpr ⟨mt_5 (List.mem_of_getElem? (i := 53) rfl), rfl⟩
theorem la_X10_adds : Cond.laysFinal RX10 "RemoteReachModel" "adds" "[I" ∈ TS := List.mem_filter.mpr ⟨mt_5 (List.mem_of_getElem? (i := 55) rfl), rfl⟩
theorem la_X10_addNumber : Cond.laysFinal RX10 "RemoteReachModel" "addNumber" "[I" ∈ TS := List.mem_filter.mpr ⟨mt_5 (List.mem_of_getElem? (i := 57) rfl), rfl⟩
theorem la_X10_addValue : Cond.laysFinal RX10 "RemoteReachModel" "addValue" "[I" ∈ TS := List.mem_filter.mpr ⟨mt_5 (List.mem_of_getElem? (i := 59) rfl), rfl⟩
theorem la_X10_packets : Cond.lays RX10 "RemoteReachModel" "packets" "I" ∈ TS := List.mem_filter.mpr ⟨mt_5 (List.mem_of_getElem? (i := 61) rfl), rfl⟩
theorem la_X10_pTo : Cond.laysFinal RX10 "RemoteReachModel" "pTo" "[I" ∈ TS := List.mem_filter.mpr ⟨mt_5 (List.mem_of_getElem? (i := 63) rfl), rfl⟩
theorem la_X10_pKind : Cond.laysFinal RX10 "RemoteReachModel" "pKind" "[I" ∈ TS := List.mem_filter.mpr ⟨mt_5 (List.mem_of_getElem? (i := 65) rfl), rfl⟩
theorem la_X10_pNumber : Cond.laysFinal RX10 "RemoteReachModel" "pNumber" "[I" ∈ TS := List.mem_filter.mpr ⟨mt_5 (List.mem_of_getElem? (i := 67) rfl), rfl⟩
theorem la_X10_pSize : Cond.laysFinal RX10 "RemoteReachModel" "pSize" "[I" ∈ TS := List.mem_filter.mpr ⟨mt_5 (List.mem_of_getElem? (i := 69) rfl), rfl⟩
theorem la_X10_pMark : Cond.laysFinal RX10 "RemoteReachModel" "pMark" "[I" ∈ TS := List.mem_filter.mpr ⟨mt_5 (List.mem_of_getElem? (i := 71) rfl), rfl⟩
theorem la_X10_pPlace : Cond.laysFinal RX10 "RemoteReachModel" "pPlace" "[I" ∈ TS := List.mem_filter.mpr ⟨mt_5 (List.mem_of_getElem? (i := 73) rfl), rfl⟩
theorem la_X10_pValue : Cond.laysFinal RX10 "RemoteReachModel" "pValue" "[I" ∈ TS := List.mem_filter.mpr ⟨mt_5 (List.mem_of_getElem? (i := 75) rfl), rfl⟩
theorem la_X10_pCell : Cond.laysFinal RX10 "RemoteReachModel" "pCell" "[I" ∈ TS := List.mem_filter.mpr ⟨mt_5 (List.mem_of_getElem? (i := 77) rfl), rfl⟩
theorem ac_boolean : Cond.arrayClass .boolean ∈ TS := List.mem_filter.mpr ⟨mt_5 (List.mem_of_getElem? (i := 80) rfl), rfl⟩
theorem ml_L_129 : Cond.methodLink RL 129 yX10_thrown ∈ TS := List.mem_filter.mpr ⟨mt_5 (List.mem_of_getElem? (i := 81) rfl), rfl⟩
theorem im_X10_thrown : Cond.instanceMethod yX10_thrown ∈ TS := List.mem_filter.mpr ⟨mt_5 (List.mem_of_getElem? (i := 82) rfl), rfl⟩
theorem se_X10_X10_thrown : Cond.selects RX10 yX10_thrown yX10_thrown ∈ TS := List.mem_filter.mpr ⟨mt_5 (List.mem_of_getElem? (i := 83) rfl), rfl⟩
set_option maxRecDepth 100000 in
theorem co_X10_thrown : Cond.code yX10_thrown cX10_thrown 1 (some .int) ∈ TS := List.mem_filter.mpr ⟨mt_5 (List.mem_of_getElem? (i := 84) (by show tables_1_5[_]? = _; rfl)), rfl⟩
theorem ml_L_59 : Cond.methodLink RL 59 yX10_region ∈ TS := List.mem_filter.mpr ⟨mt_5 (List.mem_of_getElem? (i := 85) rfl), rfl⟩
theorem im_X10_region : Cond.instanceMethod yX10_region ∈ TS := List.mem_filter.mpr ⟨mt_5 (List.mem_of_getElem? (i := 86) rfl), rfl⟩
theorem se_X10_X10_region : Cond.selects RX10 yX10_region yX10_region ∈ TS := List.mem_filter.mpr ⟨mt_5 (List.mem_of_getElem? (i := 87) rfl), rfl⟩
set_option maxRecDepth 100000 in
theorem co_X10_region : Cond.code yX10_region cX10_region 7 none ∈ TS := List.mem_filter.mpr ⟨mt_5 (List.mem_of_getElem? (i := 88) (by show tables_1_5[_]? = _; rfl)), rfl⟩
theorem ml_X10_156 : Cond.methodLink RX10 156 yX10_within ∈ TS := List.mem_filter.mpr ⟨mt_5 (List.mem_of_getElem? (i := 89) rfl), rfl⟩
theorem st_X10_within : Cond.static yX10_within ∈ TS := List.mem_filter.mpr ⟨mt_5 (List.mem_of_getElem? (i := 90) rfl), rfl⟩
set_option maxRecDepth 100000 in
theorem co_X10_within : Cond.code yX10_within cX10_within 2 (some .boolean) ∈ TS := List.mem_filter.mpr ⟨mt_5 (List.mem_of_getElem? (i := 91) (by show tables_1_5[_]? = _; rfl)), rfl⟩
theorem ml_L_63 : Cond.methodLink RL 63 yX10_store ∈ TS := List.mem_filter.mpr ⟨mt_5 (List.mem_of_getElem? (i := 92) rfl), rfl⟩
theorem im_X10_store : Cond.instanceMethod yX10_store ∈ TS := List.mem_filter.mpr ⟨mt_5 (List.mem_of_getElem? (i := 93) rfl), rfl⟩
theorem se_X10_X10_store : Cond.selects RX10 yX10_store yX10_store ∈ TS := List.mem_filter.mpr ⟨mt_5 (List.mem_of_getElem? (i := 94) rfl), rfl⟩
set_option maxRecDepth 100000 in
theorem co_X10_store : Cond.code yX10_store cX10_store 4 none ∈ TS := List.mem_filter.mpr ⟨mt_5 (List.mem_of_getElem? (i := 95) (by show tables_1_5[_]? = _; rfl)), rfl⟩
theorem ml_L_66 : Cond.methodLink RL 66 yX10_cell ∈ TS := List.mem_filter.mpr ⟨mt_5 (List.mem_of_getElem? (i := 96) rfl), rfl⟩
theorem im_X10_cell : Cond.instanceMethod yX10_cell ∈ TS := List.mem_filter.mpr ⟨mt_5 (List.mem_of_getElem? (i := 97) rfl), rfl⟩
theorem se_X10_X10_cell : Cond.selects RX10 yX10_cell yX10_cell ∈ TS := List.mem_filter.mpr ⟨mt_5 (List.mem_of_getElem? (i := 98) rfl), rfl⟩
set_option maxRecDepth 100000 in
theorem co_X10_cell : Cond.code yX10_cell cX10_cell 3 (some .int) ∈ TS := List.mem_filter.mpr ⟨mt_5 (List.mem_of_getElem? (i := 99) (by show tables_1_5[_]? = _; rfl)), rfl⟩
theorem ml_L_78 : Cond.methodLink RL 78 yX10_send ∈ TS := List.mem_filter.mpr ⟨mt_5 (List.mem_of_getElem? (i := 100) rfl), rfl⟩
theorem im_X10_send : Cond.instanceMethod yX10_send ∈ TS := List.mem_filter.mpr ⟨mt_5 (List.mem_of_getElem? (i := 101) rfl), rfl⟩
theorem se_X10_X10_send : Cond.selects RX10 yX10_send yX10_send ∈ TS := List.mem_filter.mpr ⟨mt_5 (List.mem_of_getElem? (i := 102) rfl), rfl⟩
set_option maxRecDepth 100000 in
theorem co_X10_send : Cond.code yX10_send cX10_send 4 (some .int) ∈ TS := List.mem_filter.mpr ⟨mt_5 (List.mem_of_getElem? (i := 103) (by show tables_1_5[_]? = _; rfl)), rfl⟩
theorem ml_X10_181 : Cond.methodLink RX10 181 yX10_cellsGood ∈ TS := List.mem_filter.mpr ⟨mt_5 (List.mem_of_getElem? (i := 104) rfl), rfl⟩
theorem im_X10_cellsGood : Cond.instanceMethod yX10_cellsGood ∈ TS := List.mem_filter.mpr ⟨mt_5 (List.mem_of_getElem? (i := 106) rfl), rfl⟩
set_option maxRecDepth 100000 in
theorem co_X10_cellsGood : Cond.code yX10_cellsGood cX10_cellsGood 4 (some .boolean) ∈ TS := List.mem_filter.mpr ⟨mt_5 (List.mem_of_getElem? (i := 107) (by show tables_1_5[_]? = _; rfl)), rfl⟩
theorem ml_X10_185 : Cond.methodLink RX10 185 yX10_fail ∈ TS := List.mem_filter.mpr ⟨mt_5 (List.mem_of_getElem? (i := 108) rfl), rfl⟩
theorem im_X10_fail : Cond.instanceMethod yX10_fail ∈ TS := List.mem_filter.mpr ⟨mt_5 (List.mem_of_getElem? (i := 110) rfl), rfl⟩
set_option maxRecDepth 100000 in
theorem co_X10_fail : Cond.code yX10_fail cX10_fail 2 (some .int) ∈ TS := List.mem_filter.mpr ⟨mt_5 (List.mem_of_getElem? (i := 111) (by show tables_1_5[_]? = _; rfl)), rfl⟩
theorem ml_X10_188 : Cond.methodLink RX10 188 yX10_full ∈ TS := List.mem_filter.mpr ⟨mt_5 (List.mem_of_getElem? (i := 112) rfl), rfl⟩
theorem im_X10_full : Cond.instanceMethod yX10_full ∈ TS := List.mem_filter.mpr ⟨mt_5 (List.mem_of_getElem? (i := 114) rfl), rfl⟩
set_option maxRecDepth 100000 in
theorem co_X10_full : Cond.code yX10_full cX10_full 2 (some .boolean) ∈ TS := List.mem_filter.mpr ⟨mt_5 (List.mem_of_getElem? (i := 115) (by show tables_1_5[_]? = _; rfl)), rfl⟩
theorem ml_X10_192 : Cond.methodLink RX10 192 yX10_post ∈ TS := List.mem_filter.mpr ⟨mt_5 (List.mem_of_getElem? (i := 116) rfl), rfl⟩
theorem im_X10_post : Cond.instanceMethod yX10_post ∈ TS := List.mem_filter.mpr ⟨mt_5 (List.mem_of_getElem? (i := 118) rfl), rfl⟩
set_option maxRecDepth 100000 in
theorem co_X10_post : Cond.code yX10_post cX10_post 9 (some .int) ∈ TS := List.mem_filter.mpr ⟨mt_5 (List.mem_of_getElem? (i := 119) (by show tables_1_5[_]? = _; rfl)), rfl⟩
theorem ml_X10_178 : Cond.methodLink RX10 178 yX10_numbersOf ∈ TS := List.mem_filter.mpr ⟨mt_5 (List.mem_of_getElem? (i := 120) rfl), rfl⟩
theorem im_X10_numbersOf : Cond.instanceMethod yX10_numbersOf ∈ TS := List.mem_filter.mpr ⟨mt_5 (List.mem_of_getElem? (i := 122) rfl), rfl⟩
set_option maxRecDepth 100000 in
theorem co_X10_numbersOf : Cond.code yX10_numbersOf cX10_numbersOf 2 (some .int) ∈ TS := List.mem_filter.mpr ⟨mt_5 (List.mem_of_getElem? (i := 123) (by show tables_1_5[_]? = _; rfl)), rfl⟩
theorem ml_L_82 : Cond.methodLink RL 82 yX10_move ∈ TS := List.mem_filter.mpr ⟨mt_5 (List.mem_of_getElem? (i := 124) rfl), rfl⟩
theorem im_X10_move : Cond.instanceMethod yX10_move ∈ TS := List.mem_filter.mpr ⟨mt_5 (List.mem_of_getElem? (i := 125) rfl), rfl⟩
theorem se_X10_X10_move : Cond.selects RX10 yX10_move yX10_move ∈ TS := List.mem_filter.mpr ⟨mt_5 (List.mem_of_getElem? (i := 126) rfl), rfl⟩
set_option maxRecDepth 100000 in
theorem co_X10_move : Cond.code yX10_move cX10_move 7 (some .int) ∈ TS := List.mem_filter.mpr ⟨mt_5 (List.mem_of_getElem? (i := 127) (by show tables_1_5[_]? = _; rfl)), rfl⟩
theorem ml_L_86 : Cond.methodLink RL 86 yX10_add ∈ TS := List.mem_filter.mpr ⟨mt_5 (List.mem_of_getElem? (i := 128) rfl), rfl⟩
theorem im_X10_add : Cond.instanceMethod yX10_add ∈ TS := List.mem_filter.mpr ⟨mt_5 (List.mem_of_getElem? (i := 129) rfl), rfl⟩
theorem se_X10_X10_add : Cond.selects RX10 yX10_add yX10_add ∈ TS := List.mem_filter.mpr ⟨mt_5 (List.mem_of_getElem? (i := 130) rfl), rfl⟩
set_option maxRecDepth 100000 in
theorem co_X10_add : Cond.code yX10_add cX10_add 6 (some .int) ∈ TS := List.mem_filter.mpr ⟨mt_5 (List.mem_of_getElem? (i := 131) (by show tables_1_5[_]? = _; rfl)), rfl⟩
theorem ml_L_89 : Cond.methodLink RL 89 yX10_receive ∈ TS := List.mem_filter.mpr ⟨mt_5 (List.mem_of_getElem? (i := 132) rfl), rfl⟩
theorem im_X10_receive : Cond.instanceMethod yX10_receive ∈ TS := List.mem_filter.mpr ⟨mt_5 (List.mem_of_getElem? (i := 133) rfl), rfl⟩
theorem se_X10_X10_receive : Cond.selects RX10 yX10_receive yX10_receive ∈ TS := List.mem_filter.mpr ⟨mt_5 (List.mem_of_getElem? (i := 134) rfl), rfl⟩
set_option maxRecDepth 100000 in
theorem co_X10_receive : Cond.code yX10_receive cX10_receive 5 (some .int) ∈ TS := List.mem_filter.mpr ⟨mt_5 (List.mem_of_getElem? (i := 135) (by show tables_1_5[_]? = _; rfl)), rfl⟩
theorem ml_L_69 : Cond.methodLink RL 69 yX10_ready ∈ TS := List.mem_filter.mpr ⟨mt_5 (List.mem_of_getElem? (i := 136) rfl), rfl⟩
theorem im_X10_ready : Cond.instanceMethod yX10_ready ∈ TS := List.mem_filter.mpr ⟨mt_5 (List.mem_of_getElem? (i := 137) rfl), rfl⟩
theorem se_X10_X10_ready : Cond.selects RX10 yX10_ready yX10_ready ∈ TS := List.mem_filter.mpr ⟨mt_5 (List.mem_of_getElem? (i := 138) rfl), rfl⟩
set_option maxRecDepth 100000 in
theorem co_X10_ready : Cond.code yX10_ready cX10_ready 4 none ∈ TS := List.mem_filter.mpr ⟨mt_5 (List.mem_of_getElem? (i := 139) (by show tables_1_5[_]? = _; rfl)), rfl⟩
theorem ml_L_74 : Cond.methodLink RL 74 yX10_reset ∈ TS := List.mem_filter.mpr ⟨mt_5 (List.mem_of_getElem? (i := 140) rfl), rfl⟩
theorem im_X10_reset : Cond.instanceMethod yX10_reset ∈ TS := List.mem_filter.mpr ⟨mt_5 (List.mem_of_getElem? (i := 141) rfl), rfl⟩
theorem se_X10_X10_reset : Cond.selects RX10 yX10_reset yX10_reset ∈ TS := List.mem_filter.mpr ⟨mt_5 (List.mem_of_getElem? (i := 142) rfl), rfl⟩
set_option maxRecDepth 100000 in
theorem co_X10_reset : Cond.code yX10_reset cX10_reset 2 (some .boolean) ∈ TS := List.mem_filter.mpr ⟨mt_5 (List.mem_of_getElem? (i := 143) (by show tables_1_5[_]? = _; rfl)), rfl⟩
theorem ml_L_94 : Cond.methodLink RL 94 yX10_push ∈ TS := List.mem_filter.mpr ⟨mt_5 (List.mem_of_getElem? (i := 144) rfl), rfl⟩
theorem im_X10_push : Cond.instanceMethod yX10_push ∈ TS := List.mem_filter.mpr ⟨mt_5 (List.mem_of_getElem? (i := 145) rfl), rfl⟩
theorem se_X10_X10_push : Cond.selects RX10 yX10_push yX10_push ∈ TS := List.mem_filter.mpr ⟨mt_5 (List.mem_of_getElem? (i := 146) rfl), rfl⟩
set_option maxRecDepth 100000 in
theorem co_X10_push : Cond.code yX10_push cX10_push 9 (some .int) ∈ TS := List.mem_filter.mpr ⟨mt_5 (List.mem_of_getElem? (i := 147) (by show tables_1_5[_]? = _; rfl)), rfl⟩
theorem ml_X10_196 : Cond.methodLink RX10 196 yX10_requestOf ∈ TS := List.mem_filter.mpr ⟨mt_5 (List.mem_of_getElem? (i := 148) rfl), rfl⟩
theorem im_X10_requestOf : Cond.instanceMethod yX10_requestOf ∈ TS := List.mem_filter.mpr ⟨mt_5 (List.mem_of_getElem? (i := 150) rfl), rfl⟩
set_option maxRecDepth 100000 in
theorem co_X10_requestOf : Cond.code yX10_requestOf cX10_requestOf 4 (some .int) ∈ TS := List.mem_filter.mpr ⟨mt_5 (List.mem_of_getElem? (i := 151) (by show tables_1_5[_]? = _; rfl)), rfl⟩
theorem ml_X10_174 : Cond.methodLink RX10 174 yX10_far ∈ TS := List.mem_filter.mpr ⟨mt_5 (List.mem_of_getElem? (i := 152) rfl), rfl⟩
theorem st_X10_far : Cond.static yX10_far ∈ TS := List.mem_filter.mpr ⟨mt_5 (List.mem_of_getElem? (i := 153) rfl), rfl⟩
set_option maxRecDepth 100000 in
theorem co_X10_far : Cond.code yX10_far cX10_far 2 (some .int) ∈ TS := List.mem_filter.mpr ⟨mt_5 (List.mem_of_getElem? (i := 154) (by show tables_1_5[_]? = _; rfl)), rfl⟩
theorem ml_X10_199 : Cond.methodLink RX10 199 yX10_emit ∈ TS := List.mem_filter.mpr ⟨mt_5 (List.mem_of_getElem? (i := 155) rfl), rfl⟩
theorem im_X10_emit : Cond.instanceMethod yX10_emit ∈ TS := List.mem_filter.mpr ⟨mt_5 (List.mem_of_getElem? (i := 157) rfl), rfl⟩
set_option maxRecDepth 100000 in
theorem co_X10_emit : Cond.code yX10_emit cX10_emit 8 (some .int) ∈ TS := List.mem_filter.mpr ⟨mt_5 (List.mem_of_getElem? (i := 158) (by show tables_1_5[_]? = _; rfl)), rfl⟩
theorem ml_X10_167 : Cond.methodLink RX10 167 yX10_peer ∈ TS := List.mem_filter.mpr ⟨mt_5 (List.mem_of_getElem? (i := 159) rfl), rfl⟩
theorem st_X10_peer : Cond.static yX10_peer ∈ TS := List.mem_filter.mpr ⟨mt_5 (List.mem_of_getElem? (i := 160) rfl), rfl⟩
set_option maxRecDepth 100000 in
theorem co_X10_peer : Cond.code yX10_peer cX10_peer 1 (some .int) ∈ TS := List.mem_filter.mpr ⟨mt_5 (List.mem_of_getElem? (i := 161) (by show tables_1_5[_]? = _; rfl)), rfl⟩
theorem ml_X10_203 : Cond.methodLink RX10 203 yX10_load ∈ TS := List.mem_filter.mpr ⟨mt_5 (List.mem_of_getElem? (i := 162) rfl), rfl⟩
theorem im_X10_load : Cond.instanceMethod yX10_load ∈ TS := List.mem_filter.mpr ⟨mt_5 (List.mem_of_getElem? (i := 164) rfl), rfl⟩
set_option maxRecDepth 100000 in
theorem co_X10_load : Cond.code yX10_load cX10_load 6 none ∈ TS := List.mem_filter.mpr ⟨mt_5 (List.mem_of_getElem? (i := 165) (by show tables_1_5[_]? = _; rfl)), rfl⟩
theorem ml_X10_160 : Cond.methodLink RX10 160 yX10_nodeOf ∈ TS := List.mem_filter.mpr ⟨mt_5 (List.mem_of_getElem? (i := 166) rfl), rfl⟩
theorem st_X10_nodeOf : Cond.static yX10_nodeOf ∈ TS := List.mem_filter.mpr ⟨mt_5 (List.mem_of_getElem? (i := 167) rfl), rfl⟩
set_option maxRecDepth 100000 in
theorem co_X10_nodeOf : Cond.code yX10_nodeOf cX10_nodeOf 1 (some .int) ∈ TS := List.mem_filter.mpr ⟨mt_5 (List.mem_of_getElem? (i := 168) (by show tables_1_5[_]? = _; rfl)), rfl⟩
theorem ml_L_98 : Cond.methodLink RL 98 yX10_deliver ∈ TS := List.mem_filter.mpr ⟨mt_5 (List.mem_of_getElem? (i := 169) rfl), rfl⟩
theorem im_X10_deliver : Cond.instanceMethod yX10_deliver ∈ TS := List.mem_filter.mpr ⟨mt_5 (List.mem_of_getElem? (i := 170) rfl), rfl⟩
theorem se_X10_X10_deliver : Cond.selects RX10 yX10_deliver yX10_deliver ∈ TS := List.mem_filter.mpr ⟨mt_5 (List.mem_of_getElem? (i := 171) rfl), rfl⟩
set_option maxRecDepth 100000 in
theorem co_X10_deliver : Cond.code yX10_deliver cX10_deliver 3 (some .boolean) ∈ TS := List.mem_filter.mpr ⟨mt_5 (List.mem_of_getElem? (i := 172) (by show tables_1_5[_]? = _; rfl)), rfl⟩
theorem ml_X10_170 : Cond.methodLink RX10 170 yX10_move1 ∈ TS := List.mem_filter.mpr ⟨mt_5 (List.mem_of_getElem? (i := 173) rfl), rfl⟩
theorem im_X10_move1 : Cond.instanceMethod yX10_move1 ∈ TS := List.mem_filter.mpr ⟨mt_5 (List.mem_of_getElem? (i := 175) rfl), rfl⟩
set_option maxRecDepth 100000 in
theorem co_X10_move1 : Cond.code yX10_move1 cX10_move1 4 none ∈ TS := List.mem_filter.mpr ⟨mt_5 (List.mem_of_getElem? (i := 176) (by show tables_1_5[_]? = _; rfl)), rfl⟩
theorem ml_X10_265 : Cond.methodLink RX10 265 yX10_drop ∈ TS := List.mem_filter.mpr ⟨mt_5 (List.mem_of_getElem? (i := 177) rfl), rfl⟩
theorem im_X10_drop : Cond.instanceMethod yX10_drop ∈ TS := List.mem_filter.mpr ⟨mt_5 (List.mem_of_getElem? (i := 179) rfl), rfl⟩
set_option maxRecDepth 100000 in
theorem co_X10_drop : Cond.code yX10_drop cX10_drop 3 none ∈ TS := List.mem_filter.mpr ⟨mt_5 (List.mem_of_getElem? (i := 180) (by show tables_1_5[_]? = _; rfl)), rfl⟩
theorem ml_X10_268 : Cond.methodLink RX10 268 yX10_asked ∈ TS := List.mem_filter.mpr ⟨mt_5 (List.mem_of_getElem? (i := 181) rfl), rfl⟩
theorem im_X10_asked : Cond.instanceMethod yX10_asked ∈ TS := List.mem_filter.mpr ⟨mt_5 (List.mem_of_getElem? (i := 183) rfl), rfl⟩
set_option maxRecDepth 100000 in
theorem co_X10_asked : Cond.code yX10_asked cX10_asked 4 none ∈ TS := List.mem_filter.mpr ⟨mt_5 (List.mem_of_getElem? (i := 184) (by show tables_1_5[_]? = _; rfl)), rfl⟩
theorem ml_X10_256 : Cond.methodLink RX10 256 yX10_fresh ∈ TS := List.mem_filter.mpr ⟨mt_5 (List.mem_of_getElem? (i := 185) rfl), rfl⟩
theorem im_X10_fresh : Cond.instanceMethod yX10_fresh ∈ TS := List.mem_filter.mpr ⟨mt_5 (List.mem_of_getElem? (i := 187) rfl), rfl⟩
set_option maxRecDepth 100000 in
theorem co_X10_fresh : Cond.code yX10_fresh cX10_fresh 4 none ∈ TS := List.mem_filter.mpr ⟨mt_5 (List.mem_of_getElem? (i := 188) (by show tables_1_5[_]? = _; rfl)), rfl⟩
theorem ml_X10_243 : Cond.methodLink RX10 243 yX10_freshSend ∈ TS := List.mem_filter.mpr ⟨mt_5 (List.mem_of_getElem? (i := 189) rfl), rfl⟩
theorem im_X10_freshSend : Cond.instanceMethod yX10_freshSend ∈ TS := List.mem_filter.mpr ⟨mt_5 (List.mem_of_getElem? (i := 191) rfl), rfl⟩
set_option maxRecDepth 100000 in
theorem co_X10_freshSend : Cond.code yX10_freshSend cX10_freshSend 4 none ∈ TS := List.mem_filter.mpr ⟨mt_5 (List.mem_of_getElem? (i := 192) (by show tables_1_5[_]? = _; rfl)), rfl⟩
theorem ml_X10_225 : Cond.methodLink RX10 225 yX10_refuse ∈ TS := List.mem_filter.mpr ⟨mt_5 (List.mem_of_getElem? (i := 193) rfl), rfl⟩
theorem im_X10_refuse : Cond.instanceMethod yX10_refuse ∈ TS := List.mem_filter.mpr ⟨mt_5 (List.mem_of_getElem? (i := 195) rfl), rfl⟩
set_option maxRecDepth 100000 in
theorem co_X10_refuse : Cond.code yX10_refuse cX10_refuse 4 none ∈ TS := List.mem_filter.mpr ⟨mt_5 (List.mem_of_getElem? (i := 196) (by show tables_1_5[_]? = _; rfl)), rfl⟩
theorem ml_X10_221 : Cond.methodLink RX10 221 yX10_failPair ∈ TS := List.mem_filter.mpr ⟨mt_5 (List.mem_of_getElem? (i := 197) rfl), rfl⟩
theorem im_X10_failPair : Cond.instanceMethod yX10_failPair ∈ TS := List.mem_filter.mpr ⟨mt_5 (List.mem_of_getElem? (i := 199) rfl), rfl⟩
set_option maxRecDepth 100000 in
theorem co_X10_failPair : Cond.code yX10_failPair cX10_failPair 6 none ∈ TS := List.mem_filter.mpr ⟨mt_5 (List.mem_of_getElem? (i := 200) (by show tables_1_5[_]? = _; rfl)), rfl⟩
theorem ml_X10_207 : Cond.methodLink RX10 207 yX10_complete ∈ TS := List.mem_filter.mpr ⟨mt_5 (List.mem_of_getElem? (i := 201) rfl), rfl⟩
theorem im_X10_complete : Cond.instanceMethod yX10_complete ∈ TS := List.mem_filter.mpr ⟨mt_5 (List.mem_of_getElem? (i := 203) rfl), rfl⟩
set_option maxRecDepth 100000 in
theorem co_X10_complete : Cond.code yX10_complete cX10_complete 8 none ∈ TS := List.mem_filter.mpr ⟨mt_5 (List.mem_of_getElem? (i := 204) (by show tables_1_5[_]? = _; rfl)), rfl⟩
theorem ml_X10_228 : Cond.methodLink RX10 228 yX10_takeCells ∈ TS := List.mem_filter.mpr ⟨mt_5 (List.mem_of_getElem? (i := 205) rfl), rfl⟩
theorem im_X10_takeCells : Cond.instanceMethod yX10_takeCells ∈ TS := List.mem_filter.mpr ⟨mt_5 (List.mem_of_getElem? (i := 207) rfl), rfl⟩
set_option maxRecDepth 100000 in
theorem co_X10_takeCells : Cond.code yX10_takeCells cX10_takeCells 4 none ∈ TS := List.mem_filter.mpr ⟨mt_5 (List.mem_of_getElem? (i := 208) (by show tables_1_5[_]? = _; rfl)), rfl⟩
theorem ml_X10_231 : Cond.methodLink RX10 231 yX10_accept ∈ TS := List.mem_filter.mpr ⟨mt_5 (List.mem_of_getElem? (i := 209) rfl), rfl⟩
theorem im_X10_accept : Cond.instanceMethod yX10_accept ∈ TS := List.mem_filter.mpr ⟨mt_5 (List.mem_of_getElem? (i := 211) rfl), rfl⟩
set_option maxRecDepth 100000 in
theorem co_X10_accept : Cond.code yX10_accept cX10_accept 3 none ∈ TS := List.mem_filter.mpr ⟨mt_5 (List.mem_of_getElem? (i := 212) (by show tables_1_5[_]? = _; rfl)), rfl⟩
theorem ml_X10_234 : Cond.methodLink RX10 234 yX10_ack ∈ TS := List.mem_filter.mpr ⟨mt_5 (List.mem_of_getElem? (i := 213) rfl), rfl⟩
theorem im_X10_ack : Cond.instanceMethod yX10_ack ∈ TS := List.mem_filter.mpr ⟨mt_5 (List.mem_of_getElem? (i := 215) rfl), rfl⟩
set_option maxRecDepth 100000 in
theorem co_X10_ack : Cond.code yX10_ack cX10_ack 4 none ∈ TS := List.mem_filter.mpr ⟨mt_5 (List.mem_of_getElem? (i := 216) (by show tables_1_5[_]? = _; rfl)), rfl⟩
theorem ml_X10_237 : Cond.methodLink RX10 237 yX10_dropReceive ∈ TS := List.mem_filter.mpr ⟨mt_5 (List.mem_of_getElem? (i := 217) rfl), rfl⟩
theorem im_X10_dropReceive : Cond.instanceMethod yX10_dropReceive ∈ TS := List.mem_filter.mpr ⟨mt_5 (List.mem_of_getElem? (i := 219) rfl), rfl⟩
set_option maxRecDepth 100000 in
theorem co_X10_dropReceive : Cond.code yX10_dropReceive cX10_dropReceive 3 none ∈ TS := List.mem_filter.mpr ⟨mt_5 (List.mem_of_getElem? (i := 220) (by show tables_1_5[_]? = _; rfl)), rfl⟩
theorem ml_X10_246 : Cond.methodLink RX10 246 yX10_allows ∈ TS := List.mem_filter.mpr ⟨mt_5 (List.mem_of_getElem? (i := 221) rfl), rfl⟩
theorem im_X10_allows : Cond.instanceMethod yX10_allows ∈ TS := List.mem_filter.mpr ⟨mt_5 (List.mem_of_getElem? (i := 223) rfl), rfl⟩
set_option maxRecDepth 100000 in
theorem co_X10_allows : Cond.code yX10_allows cX10_allows 8 (some .boolean) ∈ TS := List.mem_filter.mpr ⟨mt_5 (List.mem_of_getElem? (i := 224) (by show tables_1_5[_]? = _; rfl)), rfl⟩
theorem ml_X10_250 : Cond.methodLink RX10 250 yX10_reads ∈ TS := List.mem_filter.mpr ⟨mt_5 (List.mem_of_getElem? (i := 225) rfl), rfl⟩
theorem im_X10_reads : Cond.instanceMethod yX10_reads ∈ TS := List.mem_filter.mpr ⟨mt_5 (List.mem_of_getElem? (i := 227) rfl), rfl⟩
set_option maxRecDepth 100000 in
theorem co_X10_reads : Cond.code yX10_reads cX10_reads 5 none ∈ TS := List.mem_filter.mpr ⟨mt_5 (List.mem_of_getElem? (i := 228) (by show tables_1_5[_]? = _; rfl)), rfl⟩
theorem ml_X10_253 : Cond.methodLink RX10 253 yX10_freshAdd ∈ TS := List.mem_filter.mpr ⟨mt_5 (List.mem_of_getElem? (i := 229) rfl), rfl⟩
theorem im_X10_freshAdd : Cond.instanceMethod yX10_freshAdd ∈ TS := List.mem_filter.mpr ⟨mt_5 (List.mem_of_getElem? (i := 231) rfl), rfl⟩
set_option maxRecDepth 100000 in
theorem co_X10_freshAdd : Cond.code yX10_freshAdd cX10_freshAdd 4 none ∈ TS := List.mem_filter.mpr ⟨mt_5 (List.mem_of_getElem? (i := 232) (by show tables_1_5[_]? = _; rfl)), rfl⟩
theorem ml_X10_240 : Cond.methodLink RX10 240 yX10_replyOld ∈ TS := List.mem_filter.mpr ⟨mt_5 (List.mem_of_getElem? (i := 233) rfl), rfl⟩
theorem im_X10_replyOld : Cond.instanceMethod yX10_replyOld ∈ TS := List.mem_filter.mpr ⟨mt_5 (List.mem_of_getElem? (i := 235) rfl), rfl⟩
set_option maxRecDepth 100000 in
theorem co_X10_replyOld : Cond.code yX10_replyOld cX10_replyOld 4 none ∈ TS := List.mem_filter.mpr ⟨mt_5 (List.mem_of_getElem? (i := 236) (by show tables_1_5[_]? = _; rfl)), rfl⟩
theorem ml_X10_259 : Cond.methodLink RX10 259 yX10_again ∈ TS := List.mem_filter.mpr ⟨mt_5 (List.mem_of_getElem? (i := 237) rfl), rfl⟩
theorem im_X10_again : Cond.instanceMethod yX10_again ∈ TS := List.mem_filter.mpr ⟨mt_5 (List.mem_of_getElem? (i := 239) rfl), rfl⟩
set_option maxRecDepth 100000 in
theorem co_X10_again : Cond.code yX10_again cX10_again 5 none ∈ TS := List.mem_filter.mpr ⟨mt_6 (List.mem_of_getElem? (i := 0) (by show tables_1_6[_]? = _; rfl)), rfl⟩
theorem ml_X10_271 : Cond.methodLink RX10 271 yX10_replied ∈ TS := List.mem_filter.mpr ⟨mt_6 (List.mem_of_getElem? (i := 1) rfl), rfl⟩
theorem im_X10_replied : Cond.instanceMethod yX10_replied ∈ TS := List.mem_filter.mpr ⟨mt_6 (List.mem_of_getElem? (i := 3) rfl), rfl⟩
set_option maxRecDepth 100000 in
theorem co_X10_replied : Cond.code yX10_replied cX10_replied 5 none ∈ TS := List.mem_filter.mpr ⟨mt_6 (List.mem_of_getElem? (i := 4) (by show tables_1_6[_]? = _; rfl)), rfl⟩
theorem ml_X10_215 : Cond.methodLink RX10 215 yX10_hasCells ∈ TS := List.mem_filter.mpr ⟨mt_6 (List.mem_of_getElem? (i := 5) rfl), rfl⟩
theorem im_X10_hasCells : Cond.instanceMethod yX10_hasCells ∈ TS := List.mem_filter.mpr ⟨mt_6 (List.mem_of_getElem? (i := 7) rfl), rfl⟩
set_option maxRecDepth 100000 in
theorem co_X10_hasCells : Cond.code yX10_hasCells cX10_hasCells 2 (some .boolean) ∈ TS := List.mem_filter.mpr ⟨mt_6 (List.mem_of_getElem? (i := 8) (by show tables_1_6[_]? = _; rfl)), rfl⟩
theorem ml_X10_218 : Cond.methodLink RX10 218 yX10_answerOne ∈ TS := List.mem_filter.mpr ⟨mt_6 (List.mem_of_getElem? (i := 9) rfl), rfl⟩
theorem im_X10_answerOne : Cond.instanceMethod yX10_answerOne ∈ TS := List.mem_filter.mpr ⟨mt_6 (List.mem_of_getElem? (i := 11) rfl), rfl⟩
set_option maxRecDepth 100000 in
theorem co_X10_answerOne : Cond.code yX10_answerOne cX10_answerOne 4 none ∈ TS := List.mem_filter.mpr ⟨mt_6 (List.mem_of_getElem? (i := 12) (by show tables_1_6[_]? = _; rfl)), rfl⟩
theorem ml_X10_211 : Cond.methodLink RX10 211 yX10_dropRequest ∈ TS := List.mem_filter.mpr ⟨mt_6 (List.mem_of_getElem? (i := 13) rfl), rfl⟩
theorem im_X10_dropRequest : Cond.instanceMethod yX10_dropRequest ∈ TS := List.mem_filter.mpr ⟨mt_6 (List.mem_of_getElem? (i := 15) rfl), rfl⟩
set_option maxRecDepth 100000 in
theorem co_X10_dropRequest : Cond.code yX10_dropRequest cX10_dropRequest 3 none ∈ TS := List.mem_filter.mpr ⟨mt_6 (List.mem_of_getElem? (i := 16) (by show tables_1_6[_]? = _; rfl)), rfl⟩
theorem ml_X10_262 : Cond.methodLink RX10 262 yX10_answerSome ∈ TS := List.mem_filter.mpr ⟨mt_6 (List.mem_of_getElem? (i := 17) rfl), rfl⟩
theorem im_X10_answerSome : Cond.instanceMethod yX10_answerSome ∈ TS := List.mem_filter.mpr ⟨mt_6 (List.mem_of_getElem? (i := 19) rfl), rfl⟩
set_option maxRecDepth 100000 in
theorem co_X10_answerSome : Cond.code yX10_answerSome cX10_answerSome 4 none ∈ TS := List.mem_filter.mpr ⟨mt_6 (List.mem_of_getElem? (i := 20) (by show tables_1_6[_]? = _; rfl)), rfl⟩
theorem ml_X10_274 : Cond.methodLink RX10 274 yX10_refused ∈ TS := List.mem_filter.mpr ⟨mt_6 (List.mem_of_getElem? (i := 21) rfl), rfl⟩
theorem im_X10_refused : Cond.instanceMethod yX10_refused ∈ TS := List.mem_filter.mpr ⟨mt_6 (List.mem_of_getElem? (i := 23) rfl), rfl⟩
set_option maxRecDepth 100000 in
theorem co_X10_refused : Cond.code yX10_refused cX10_refused 4 none ∈ TS := List.mem_filter.mpr ⟨mt_6 (List.mem_of_getElem? (i := 24) (by show tables_1_6[_]? = _; rfl)), rfl⟩
theorem ml_L_103 : Cond.methodLink RL 103 yX10_spoil ∈ TS := List.mem_filter.mpr ⟨mt_6 (List.mem_of_getElem? (i := 25) rfl), rfl⟩
theorem im_X10_spoil : Cond.instanceMethod yX10_spoil ∈ TS := List.mem_filter.mpr ⟨mt_6 (List.mem_of_getElem? (i := 26) rfl), rfl⟩
theorem se_X10_X10_spoil : Cond.selects RX10 yX10_spoil yX10_spoil ∈ TS := List.mem_filter.mpr ⟨mt_6 (List.mem_of_getElem? (i := 27) rfl), rfl⟩
set_option maxRecDepth 100000 in
theorem co_X10_spoil : Cond.code yX10_spoil cX10_spoil 3 (some .boolean) ∈ TS := List.mem_filter.mpr ⟨mt_6 (List.mem_of_getElem? (i := 28) (by show tables_1_6[_]? = _; rfl)), rfl⟩
theorem ml_L_108 : Cond.methodLink RL 108 yX10_tick ∈ TS := List.mem_filter.mpr ⟨mt_6 (List.mem_of_getElem? (i := 29) rfl), rfl⟩
theorem im_X10_tick : Cond.instanceMethod yX10_tick ∈ TS := List.mem_filter.mpr ⟨mt_6 (List.mem_of_getElem? (i := 30) rfl), rfl⟩
theorem se_X10_X10_tick : Cond.selects RX10 yX10_tick yX10_tick ∈ TS := List.mem_filter.mpr ⟨mt_6 (List.mem_of_getElem? (i := 31) rfl), rfl⟩
set_option maxRecDepth 100000 in
theorem co_X10_tick : Cond.code yX10_tick cX10_tick 3 (some .int) ∈ TS := List.mem_filter.mpr ⟨mt_6 (List.mem_of_getElem? (i := 32) (by show tables_1_6[_]? = _; rfl)), rfl⟩
theorem ml_X10_277 : Cond.methodLink RX10 277 yX10_tickPair ∈ TS := List.mem_filter.mpr ⟨mt_6 (List.mem_of_getElem? (i := 33) rfl), rfl⟩
theorem im_X10_tickPair : Cond.instanceMethod yX10_tickPair ∈ TS := List.mem_filter.mpr ⟨mt_6 (List.mem_of_getElem? (i := 35) rfl), rfl⟩
set_option maxRecDepth 100000 in
theorem co_X10_tickPair : Cond.code yX10_tickPair cX10_tickPair 2 (some .int) ∈ TS := List.mem_filter.mpr ⟨mt_6 (List.mem_of_getElem? (i := 36) (by show tables_1_6[_]? = _; rfl)), rfl⟩
theorem ml_L_112 : Cond.methodLink RL 112 yX10_packets ∈ TS := List.mem_filter.mpr ⟨mt_6 (List.mem_of_getElem? (i := 37) rfl), rfl⟩
theorem im_X10_packets : Cond.instanceMethod yX10_packets ∈ TS := List.mem_filter.mpr ⟨mt_6 (List.mem_of_getElem? (i := 38) rfl), rfl⟩
theorem se_X10_X10_packets : Cond.selects RX10 yX10_packets yX10_packets ∈ TS := List.mem_filter.mpr ⟨mt_6 (List.mem_of_getElem? (i := 39) rfl), rfl⟩
set_option maxRecDepth 100000 in
theorem co_X10_packets : Cond.code yX10_packets cX10_packets 1 (some .int) ∈ TS := List.mem_filter.mpr ⟨mt_6 (List.mem_of_getElem? (i := 40) (by show tables_1_6[_]? = _; rfl)), rfl⟩
theorem ml_L_116 : Cond.methodLink RL 116 yX10_packet ∈ TS := List.mem_filter.mpr ⟨mt_6 (List.mem_of_getElem? (i := 41) rfl), rfl⟩
theorem im_X10_packet : Cond.instanceMethod yX10_packet ∈ TS := List.mem_filter.mpr ⟨mt_6 (List.mem_of_getElem? (i := 42) rfl), rfl⟩
theorem se_X10_X10_packet : Cond.selects RX10 yX10_packet yX10_packet ∈ TS := List.mem_filter.mpr ⟨mt_6 (List.mem_of_getElem? (i := 43) rfl), rfl⟩
set_option maxRecDepth 100000 in
theorem co_X10_packet : Cond.code yX10_packet cX10_packet 3 (some .int) ∈ TS := List.mem_filter.mpr ⟨mt_6 (List.mem_of_getElem? (i := 44) (by show tables_1_6[_]? = _; rfl)), rfl⟩
theorem ml_L_120 : Cond.methodLink RL 120 yX10_pair ∈ TS := List.mem_filter.mpr ⟨mt_6 (List.mem_of_getElem? (i := 45) rfl), rfl⟩
theorem im_X10_pair : Cond.instanceMethod yX10_pair ∈ TS := List.mem_filter.mpr ⟨mt_6 (List.mem_of_getElem? (i := 46) rfl), rfl⟩
theorem se_X10_X10_pair : Cond.selects RX10 yX10_pair yX10_pair ∈ TS := List.mem_filter.mpr ⟨mt_6 (List.mem_of_getElem? (i := 47) rfl), rfl⟩
set_option maxRecDepth 100000 in
theorem co_X10_pair : Cond.code yX10_pair cX10_pair 4 (some .int) ∈ TS := List.mem_filter.mpr ⟨mt_6 (List.mem_of_getElem? (i := 48) (by show tables_1_6[_]? = _; rfl)), rfl⟩
theorem ml_L_124 : Cond.methodLink RL 124 yX10_completions ∈ TS := List.mem_filter.mpr ⟨mt_6 (List.mem_of_getElem? (i := 49) rfl), rfl⟩
theorem im_X10_completions : Cond.instanceMethod yX10_completions ∈ TS := List.mem_filter.mpr ⟨mt_6 (List.mem_of_getElem? (i := 50) rfl), rfl⟩
theorem se_X10_X10_completions : Cond.selects RX10 yX10_completions yX10_completions ∈ TS := List.mem_filter.mpr ⟨mt_6 (List.mem_of_getElem? (i := 51) rfl), rfl⟩
set_option maxRecDepth 100000 in
theorem co_X10_completions : Cond.code yX10_completions cX10_completions 2 (some .int) ∈ TS := List.mem_filter.mpr ⟨mt_6 (List.mem_of_getElem? (i := 52) (by show tables_1_6[_]? = _; rfl)), rfl⟩
theorem ml_L_128 : Cond.methodLink RL 128 yX10_poll ∈ TS := List.mem_filter.mpr ⟨mt_6 (List.mem_of_getElem? (i := 53) rfl), rfl⟩
theorem im_X10_poll : Cond.instanceMethod yX10_poll ∈ TS := List.mem_filter.mpr ⟨mt_6 (List.mem_of_getElem? (i := 54) rfl), rfl⟩
theorem se_X10_X10_poll : Cond.selects RX10 yX10_poll yX10_poll ∈ TS := List.mem_filter.mpr ⟨mt_6 (List.mem_of_getElem? (i := 55) rfl), rfl⟩
set_option maxRecDepth 100000 in
theorem co_X10_poll : Cond.code yX10_poll cX10_poll 3 (some .int) ∈ TS := List.mem_filter.mpr ⟨mt_6 (List.mem_of_getElem? (i := 56) (by show tables_1_6[_]? = _; rfl)), rfl⟩
theorem ml_X10_280 : Cond.methodLink RX10 280 yX10_dropEnd ∈ TS := List.mem_filter.mpr ⟨mt_6 (List.mem_of_getElem? (i := 57) rfl), rfl⟩
theorem im_X10_dropEnd : Cond.instanceMethod yX10_dropEnd ∈ TS := List.mem_filter.mpr ⟨mt_6 (List.mem_of_getElem? (i := 59) rfl), rfl⟩
set_option maxRecDepth 100000 in
theorem co_X10_dropEnd : Cond.code yX10_dropEnd cX10_dropEnd 3 (some .int) ∈ TS := List.mem_filter.mpr ⟨mt_6 (List.mem_of_getElem? (i := 60) (by show tables_1_6[_]? = _; rfl)), rfl⟩
theorem ac_long : Cond.arrayClass .long ∈ TS := List.mem_filter.mpr ⟨mt_6 (List.mem_of_getElem? (i := 61) rfl), rfl⟩
end
section
theorem iw_X0 : ∀ w ∈ u_ws RX0 TX0 4, w ∈ TS := by
  intro w hw
  obtain ⟨k, hk, rfl⟩ := List.mem_map.mp hw
  rw [List.mem_range] at hk
  match k, hk with
  | 0, _ => exact la_X0_rows
  | 1, _ => exact la_X0_count
  | 2, _ => exact la_X0_taken
  | 3, _ => exact la_X0_lost
  | k + 4, hk => omega
theorem iw_X1 : ∀ w ∈ u_ws RX1 TX1 5, w ∈ TS := by
  intro w hw
  obtain ⟨k, hk, rfl⟩ := List.mem_map.mp hw
  rw [List.mem_range] at hk
  match k, hk with
  | 0, _ => exact la_X1_cells
  | 1, _ => exact la_X1_regions
  | 2, _ => exact la_X1_ring
  | 3, _ => exact la_X1_head
  | 4, _ => exact la_X1_completed
  | k + 5, hk => omega
theorem iw_X2 : ∀ w ∈ u_ws RX2 TX2 8, w ∈ TS := by
  intro w hw
  obtain ⟨k, hk, rfl⟩ := List.mem_map.mp hw
  rw [List.mem_range] at hk
  match k, hk with
  | 0, _ => exact la_X2_pair
  | 1, _ => exact la_X2_kind
  | 2, _ => exact la_X2_number
  | 3, _ => exact la_X2_count
  | 4, _ => exact la_X2_mark
  | 5, _ => exact la_X2_place
  | 6, _ => exact la_X2_value
  | 7, _ => exact la_X2_cells
  | k + 8, hk => omega
theorem iw_X3 : ∀ w ∈ u_ws RX3 TX3 3, w ∈ TS := by
  intro w hw
  obtain ⟨k, hk, rfl⟩ := List.mem_map.mp hw
  rw [List.mem_range] at hk
  match k, hk with
  | 0, _ => exact la_X3_requester
  | 1, _ => exact la_X3_responder
  | 2, _ => exact la_X3_state
  | k + 3, hk => omega
theorem iw_X4 : ∀ w ∈ u_ws RX4 TX4 10, w ∈ TS := by
  intro w hw
  obtain ⟨k, hk, rfl⟩ := List.mem_map.mp hw
  rw [List.mem_range] at hk
  match k, hk with
  | 0, _ => exact la_X4_kind
  | 1, _ => exact la_X4_serial
  | 2, _ => exact la_X4_here
  | 3, _ => exact la_X4_n
  | 4, _ => exact la_X4_first
  | 5, _ => exact la_X4_numbers
  | 6, _ => exact la_X4_region
  | 7, _ => exact la_X4_place
  | 8, _ => exact la_X4_value
  | 9, _ => exact la_X4_came
  | k + 10, hk => omega
theorem iw_X5 : ∀ w ∈ u_ws RX5 TX5 6, w ∈ TS := by
  intro w hw
  obtain ⟨k, hk, rfl⟩ := List.mem_map.mp hw
  rw [List.mem_range] at hk
  match k, hk with
  | 0, _ => exact la_X5_pair
  | 1, _ => exact la_X5_node
  | 2, _ => exact la_X5_rows
  | 3, _ => exact la_X5_head
  | 4, _ => exact la_X5_count
  | 5, _ => exact la_X5_serials
  | k + 6, hk => omega
theorem iw_X6 : ∀ w ∈ u_ws RX6 TX6 3, w ∈ TS := by
  intro w hw
  obtain ⟨k, hk, rfl⟩ := List.mem_map.mp hw
  rw [List.mem_range] at hk
  match k, hk with
  | 0, _ => exact la_X6_base
  | 1, _ => exact la_X6_length
  | 2, _ => exact la_X6_rights
  | k + 3, hk => omega
theorem iw_X7 : ∀ w ∈ u_ws RX7 TX7 14, w ∈ TS := by
  intro w hw
  obtain ⟨k, hk, rfl⟩ := List.mem_map.mp hw
  rw [List.mem_range] at hk
  match k, hk with
  | 0, _ => exact la_X7_peer
  | 1, _ => exact la_X7_node
  | 2, _ => exact la_X7_fabric
  | 3, _ => exact la_X7_timeout
  | 4, _ => exact la_X7_mostTries
  | 5, _ => exact la_X7_mostRefusals
  | 6, _ => exact la_X7_requests
  | 7, _ => exact la_X7_next
  | 8, _ => exact la_X7_oldest
  | 9, _ => exact la_X7_cursor
  | 10, _ => exact la_X7_clock
  | 11, _ => exact la_X7_tries
  | 12, _ => exact la_X7_refusals
  | 13, _ => exact la_X7_resting
  | k + 14, hk => omega
theorem iw_X8 : ∀ w ∈ u_ws RX8 TX8 9, w ∈ TS := by
  intro w hw
  obtain ⟨k, hk, rfl⟩ := List.mem_map.mp hw
  rw [List.mem_range] at hk
  match k, hk with
  | 0, _ => exact la_X8_peer
  | 1, _ => exact la_X8_node
  | 2, _ => exact la_X8_fabric
  | 3, _ => exact la_X8_receives
  | 4, _ => exact la_X8_expected
  | 5, _ => exact la_X8_begun
  | 6, _ => exact la_X8_sequenceTold
  | 7, _ => exact la_X8_addNumbers
  | 8, _ => exact la_X8_addReplies
  | k + 9, hk => omega
theorem iw_X9 : ∀ w ∈ u_ws RX9 TX9 3, w ∈ TS := by
  intro w hw
  obtain ⟨k, hk, rfl⟩ := List.mem_map.mp hw
  rw [List.mem_range] at hk
  match k, hk with
  | 0, _ => exact la_X9_nodes
  | 1, _ => exact la_X9_pairs
  | 2, _ => exact la_X9_fabric
  | k + 3, hk => omega
theorem iw_X10 : ∀ w ∈ u_ws RX10 TX10 49, w ∈ TS := by
  intro w hw
  obtain ⟨k, hk, rfl⟩ := List.mem_map.mp hw
  rw [List.mem_range] at hk
  match k, hk with
  | 0, _ => exact la_X10_timeout
  | 1, _ => exact la_X10_mostTries
  | 2, _ => exact la_X10_mostRefusals
  | 3, _ => exact la_X10_code
  | 4, _ => exact la_X10_memory
  | 5, _ => exact la_X10_base
  | 6, _ => exact la_X10_span
  | 7, _ => exact la_X10_rights
  | 8, _ => exact la_X10_done
  | 9, _ => exact la_X10_ends
  | 10, _ => exact la_X10_state
  | 11, _ => exact la_X10_following
  | 12, _ => exact la_X10_oldest
  | 13, _ => exact la_X10_cursor
  | 14, _ => exact la_X10_expected
  | 15, _ => exact la_X10_clock
  | 16, _ => exact la_X10_tries
  | 17, _ => exact la_X10_refusals
  | 18, _ => exact la_X10_resting
  | 19, _ => exact la_X10_nakked
  | 20, _ => exact la_X10_requests
  | 21, _ => exact la_X10_serials
  | 22, _ => exact la_X10_rKind
  | 23, _ => exact la_X10_rHere
  | 24, _ => exact la_X10_rSize
  | 25, _ => exact la_X10_rRegion
  | 26, _ => exact la_X10_rPlace
  | 27, _ => exact la_X10_rValue
  | 28, _ => exact la_X10_rSerial
  | 29, _ => exact la_X10_rFirst
  | 30, _ => exact la_X10_receives
  | 31, _ => exact la_X10_receiveSerials
  | 32, _ => exact la_X10_vHere
  | 33, _ => exact la_X10_vSize
  | 34, _ => exact la_X10_vSerial
  | 35, _ => exact la_X10_vCame
  | 36, _ => exact la_X10_begun
  | 37, _ => exact la_X10_adds
  | 38, _ => exact la_X10_addNumber
  | 39, _ => exact la_X10_addValue
  | 40, _ => exact la_X10_packets
  | 41, _ => exact la_X10_pTo
  | 42, _ => exact la_X10_pKind
  | 43, _ => exact la_X10_pNumber
  | 44, _ => exact la_X10_pSize
  | 45, _ => exact la_X10_pMark
  | 46, _ => exact la_X10_pPlace
  | 47, _ => exact la_X10_pValue
  | 48, _ => exact la_X10_pCell
  | k + 49, hk => omega
end
section
section RRV
variable {p : Program} {l : Launch} {e : Env} {R : Room} {s : State} {m : MethodId} {args : Array Value} {below : List Frame} {meth : Method} {c : Code} {H : Heap} {locs : List Loc} {cells slots : Nat} {Q : State → Prop}
variable {cc : ByteArray} {pc : Nat} {ls : Array Slot} {rest : List Value} {D : va_G} {cl : List vw_C} {A : Nat → Prop} {a : Nat} {tys : List (ClassId × FieldType)} {H0 : Heap}
theorem rr_grow {H1 : Heap} (hS : va_S A H0 H locs) (z : H1.size = H.size + 1) (o : ∀ q, q < H.size → H1[q]? = H[q]?) : va_S A H0 H1 locs :=
  ⟨Nat.le_trans hS.1 (by omega), fun x h1 h2 => (o x (Nat.lt_of_lt_of_le h1 hS.1)).trans (hS.2.1 x h1 h2), hS.2.2⟩
theorem rr_put (hexec : p.tables.exec = Jvm.exec) (hb : c.code = cc) {own ref C : String} {T : u_T} {N ci index : Nat} {Ts : List Cond} (hts : ∀ w ∈ Ts, w.before args s = true) (hin : ∀ w ∈ u_ws C T N, w ∈ Ts) (ty0 : Nat → FieldType) (hty : ∀ k, k < N → parseFieldDescriptor (T k).2.2.1 = some (ty0 k)) (hnm : ∀ a, a < N → ∀ b, b < N → a ≠ b → (T a).2.1 ≠ (T b).2.1) (hown : s.vm.findClass own = some m.cls) (hK : va_K D cl tys s) {fs : List Value} (hat : va_at D cl (a, .inr (ci, fs)) H) (hS0 : va_S A H0 H locs) (hA : A a) (hc : cl[ci]? = some (C, T, N)) (k : Nat) (hk : k < N) (hlink : (Cond.fieldLink own index ref (T k).2.1 (T k).2.2.1).before args s = true) (hsame : ∀ x, s.fieldFound? (T k).1 (T k).2.1 (T k).2.2.1 = some x → s.fieldFound? ref (T k).2.1 (T k).2.2.1 = some x) (hfin : (T k).2.2.2 = false) {ty : FieldType} {v : Value} (hd : parseFieldDescriptor (T k).2.2.1 = some ty) (hn : narrow ty v = v) (hfit : fits ty v = true) (hl : k < fs.length)
    (hdg : decode cc pc = .ok (.putfield index, 3)) (kk : ∀ (H1 : Heap) (locs1 : List Loc), va_at D cl (a, .inr (ci, fs.set k v)) H1 → (∀ q, q ≠ a → H1[q]? = H[q]?) → H1.size = H.size → va_S A H0 H1 locs1 → W p l e R s m args below meth c H1 locs1 cells slots Q (F0 m (pc + 3) ls rest)) : W p l e R s m args below meth c H locs cells slots Q (F0 m pc ls (v :: .ref a :: rest)) := by
  have hap := va_apart (own := own) hts hin ty0 hty hnm hK hc
  obtain ⟨r, h1, cell, q1, q2, q3, q4⟩ := hat
  have hr : r = (C, T, N) := Option.some.inj (h1.symm.trans hc)
  subst hr
  obtain ⟨hS, hfc, kC, hkC, hkind⟩ := hK.1 ci _ hc
  obtain ⟨cf, kf, fi, f, hi, hsl⟩ := hS k hk
  have hlay := hts _ (hin _ (u_in_lay hk))
  unfold u_lay at hlay
  rw [if_neg (by rw [hfin]; decide)] at hlay
  have hst := (u_facts hfc hkC (u_lays hts hin hk) hi).1
  have h6 := u_store hfc hkC hkind hlay hi hd hn hfit
  refine W.putK hexec hb (f := f) ⟨hown, hlink, ⟨_, _, _, hsame _ hi⟩, hst⟩ (by rw [q2]; exact h6) q1 q3 (by rw [hsl]; exact k2_hasslot (q4 k hk)) rfl rfl hdg fun H' e1 e2 e3 => ?_
  rw [hsl] at e1 ⊢
  exact kk H' _ ⟨_, hc, t_OB.to (V := updV (vp_V fs) k v) ⟨_, e1, q2, q3, t_set q4 hap hk v⟩ (fun j _ => vp_updV_set hl v j)⟩ e3 e2 (hS0.put e2 e3 hA)
theorem rr_putF (hexec : p.tables.exec = Jvm.exec) (hb : c.code = cc) {own ref C : String} {T : u_T} {N ci index : Nat} {Ts : List Cond} (hts : ∀ w ∈ Ts, w.before args s = true) (hin : ∀ w ∈ u_ws C T N, w ∈ Ts) (ty0 : Nat → FieldType) (hty : ∀ k, k < N → parseFieldDescriptor (T k).2.2.1 = some (ty0 k)) (hnm : ∀ a, a < N → ∀ b, b < N → a ≠ b → (T a).2.1 ≠ (T b).2.1) (hown : s.vm.findClass own = some m.cls) (hK : va_K D cl tys s) {fs : List Value} (hat : va_at D cl (a, .inr (ci, fs)) H) (hS0 : va_S A H0 H locs) (hA : A a) (hc : cl[ci]? = some (C, T, N)) (k : Nat) (hk : k < N) (hlink : (Cond.fieldLink own index ref (T k).2.1 (T k).2.2.1).before args s = true) (hsame : ∀ x, s.fieldFound? (T k).1 (T k).2.1 (T k).2.2.1 = some x → s.fieldFound? ref (T k).2.1 (T k).2.2.1 = some x) (hfin : (T k).2.2.2 = true) (hin2 : meth.name = "<init>") (hdecl : (T k).1 = own) {ty : FieldType} {v : Value} (hd : parseFieldDescriptor (T k).2.2.1 = some ty) (hn : narrow ty v = v) (hfit : fits ty v = true) (hl : k < fs.length)
    (hdg : decode cc pc = .ok (.putfield index, 3)) (kk : ∀ (H1 : Heap) (locs1 : List Loc), va_at D cl (a, .inr (ci, fs.set k v)) H1 → (∀ q, q ≠ a → H1[q]? = H[q]?) → H1.size = H.size → va_S A H0 H1 locs1 → W p l e R s m args below meth c H1 locs1 cells slots Q (F0 m (pc + 3) ls rest)) : W p l e R s m args below meth c H locs cells slots Q (F0 m pc ls (v :: .ref a :: rest)) := by
  have hap := va_apart (own := own) hts hin ty0 hty hnm hK hc
  obtain ⟨r, h1, cell, q1, q2, q3, q4⟩ := hat
  have hr : r = (C, T, N) := Option.some.inj (h1.symm.trans hc)
  subst hr
  obtain ⟨hS, hfc, kC, hkC, hkind⟩ := hK.1 ci _ hc
  obtain ⟨cf, kf, fi, f, hi, hsl⟩ := hS k hk
  have hlay := hts _ (hin _ (u_in_lay hk))
  unfold u_lay at hlay
  rw [if_pos hfin] at hlay
  have hst := (u_facts hfc hkC (u_lays hts hin hk) hi).1
  have hcf : m.cls = cf := by
    obtain ⟨_, _, c', _, _, _, -, -, hf', -, -, -, hown2, -⟩ := Cond.laysFinal_spec hlay
    have e1 : c' = cf := by have := hi.symm.trans hf'; simp at this; exact this.1.symm
    rw [hdecl] at hown2
    rw [← e1]; exact Option.some.inj (hown.symm.trans hown2)
  have h6 := u_fits hfc hkC hkind (Or.inr hlay) hi hd hn hfit
  refine W.putFinK hexec hb hown hlink (hsame _ hi) hst hcf hin2 (by rw [q2]; exact h6) q1 q3 (by rw [hsl]; exact k2_hasslot (q4 k hk)) rfl rfl hdg fun H' e1 e2 e3 => ?_
  rw [hsl] at e1 ⊢
  exact kk H' _ ⟨_, hc, t_OB.to (V := updV (vp_V fs) k v) ⟨_, e1, q2, q3, t_set q4 hap hk v⟩ (fun j _ => vp_updV_set hl v j)⟩ e3 e2 (hS0.put e2 e3 hA)
theorem rr_iast (hexec : p.tables.exec = Jvm.exec) (hb : c.code = cc) (hK : va_K D cl tys s) (t0 : Nat) {cA : ClassId} {n : Nat} {f : Nat → Int32} (hat : va_at D cl (a, .inl (cA, n, .inl f)) H) (hS : va_S A H0 H locs) (hA : A a) (ht : tys[t0]? = some (cA, .int)) {i : Int32} {x : Int32} (hin : vp_in i n) (hdg : decode cc pc = .ok (.iastore, 1))
    (kk : ∀ (H1 : Heap) (locs1 : List Loc), va_at D cl (a, .inl (cA, n, .inl (upd f i.toNatClampNeg x))) H1 → (∀ q, q ≠ a → H1[q]? = H[q]?) → H1.size = H.size → va_S A H0 H1 locs1 → W p l e R s m args below meth c H1 locs1 cells slots Q (F0 m (pc + 1) ls rest)) : W p l e R s m args below meth c H locs cells slots Q (F0 m pc ls (.int x :: .int i :: .ref a :: rest)) := by
  refine W.iast hexec hb hat ((hK.2 t0 _ ht).1 n (fun j => .int (f j))) (fun q => by cases q) (by show ¬ (i < 0 ∨ (arrV _ _ _).slots.size ≤ _); rw [arrV_size]; exact hin) rfl rfl hdg fun H1 e z oq => ?_
  refine kk H1 _ ?_ oq z (hS.put z oq hA)
  show H1[a]? = some (vp_cell _ _)
  rw [e]
  rw [vp_cell_i, vp_cell_i, arrV_store]
  congr 2
  funext q
  by_cases hq : q = i.toNatClampNeg
  · subst hq
    simp [updV, upd]
  · simp [updV, upd, hq]
theorem rr_zast (hexec : p.tables.exec = Jvm.exec) (hb : c.code = cc) (hK : va_K D cl tys s) (t0 : Nat) {cA : ClassId} {n : Nat} {f : Nat → Int32} (hat : va_at D cl (a, .inl (cA, n, .inl f)) H) (hS : va_S A H0 H locs) (hA : A a) (ht : tys[t0]? = some (cA, .boolean)) {i : Int32} {x : Int32} (hin : vp_in i n) (hdg : decode cc pc = .ok (.bastore, 1))
    (kk : ∀ (H1 : Heap) (locs1 : List Loc), va_at D cl (a, .inl (cA, n, .inl (upd f i.toNatClampNeg (vp_nar .boolean x)))) H1 → (∀ q, q ≠ a → H1[q]? = H[q]?) → H1.size = H.size → va_S A H0 H1 locs1 → W p l e R s m args below meth c H1 locs1 cells slots Q (F0 m (pc + 1) ls rest)) : W p l e R s m args below meth c H locs cells slots Q (F0 m pc ls (.int x :: .int i :: .ref a :: rest)) := by
  refine W.zast hexec hb hat ((hK.2 t0 _ ht).1 n (fun j => .int (f j))) (fun q => by cases q) (by show ¬ (i < 0 ∨ (arrV _ _ _).slots.size ≤ _); rw [arrV_size]; exact hin) rfl rfl hdg fun H1 e z oq => ?_
  refine kk H1 _ ?_ oq z (hS.put z oq hA)
  show H1[a]? = some (vp_cell _ _)
  rw [e]
  rw [vp_cell_i, vp_cell_i, arrV_store]
  congr 2
  funext q
  by_cases hq : q = i.toNatClampNeg
  · subst hq
    simp [updV, upd, vp_nar]
    try rfl
  · simp [updV, upd, hq]
theorem rr_aast (hexec : p.tables.exec = Jvm.exec) (hb : c.code = cc) (hK : va_K D cl tys s) (t0 ci : Nat) {cA : ClassId} {r : vw_C} {n v : Nat} {vs : List Value} {f : Nat → Option Nat} (hat : va_at D cl (a, .inl (cA, n, .inr (.inr (.inr (.inr f))))) H) (hS : va_S A H0 H locs) (hA : A a) (ht : tys[t0]? = some (cA, .object r.1)) (hv : va_at D cl (v, .inr (ci, vs)) H) (hc : cl[ci]? = some r) {i : Int32} (hin : vp_in i n) (hdg : decode cc pc = .ok (.aastore, 1))
    (kk : ∀ (H1 : Heap) (locs1 : List Loc), va_at D cl (a, .inl (cA, n, .inr (.inr (.inr (.inr (va_up f i.toNatClampNeg (some v))))))) H1 → (∀ q, q ≠ a → H1[q]? = H[q]?) → H1.size = H.size → va_S A H0 H1 locs1 → W p l e R s m args below meth c H1 locs1 cells slots Q (F0 m (pc + 1) ls rest)) : W p l e R s m args below meth c H locs cells slots Q (F0 m pc ls (.ref v :: .int i :: .ref a :: rest)) := by
  have hlt : i.toNatClampNeg < n := Nat.not_le.mp fun q => hin (Or.inr q)
  have h0 : ¬ i < 0 := fun q => hin (Or.inl q)
  obtain ⟨r', hr', cellV, g1, g2, g3, -⟩ := hv
  have hcls := (hK.1 ci r hc).2
  obtain ⟨kA, comp, k1, k2, k3, -⟩ := (hK.2 t0 _ ht).2
  have hcomp : comp = D.1 ci := Option.some.inj (k3.symm.trans hcls.1)
  subst hcomp
  obtain ⟨kC, hkC, -⟩ := hcls.2
  refine W.aast hexec hb hat (fun q h => by cases h) (fun h => by cases h) k1 k2 rfl hkC ⟨h0, by show _ < (arrV _ _ _).slots.size; rw [arrV_size]; exact hlt⟩ g1 (fun q h => by rw [g3] at h; cases h) (by rw [g2]; exact hkC) (by rw [g2]; exact va_assign hcls) rfl rfl hdg fun H1 e z oq => ?_
  refine kk H1 _ ?_ oq z (hS.put z oq hA)
  show H1[a]? = some (vp_cell _ _)
  rw [e]
  rw [vp_cell_q, vp_cell_q, arrV_store]
  congr 2
  funext q
  by_cases hq : q = i.toNatClampNeg
  · subst hq
    simp [updV, va_up, va_rf]
  · simp [updV, va_up, hq]
theorem rr_newa (hexec : p.tables.exec = Jvm.exec) (hb : c.code = cc) {atype : ArrayType} (harr : (Cond.arrayClass (newarray.typeOf atype)).before args s = true) (hK : va_K D cl tys s) (t0 : Nat) {cA : ClassId} (ht : tys[t0]? = some (cA, newarray.typeOf atype)) (hS : va_S A H0 H locs)
    {n : Int32} {N' : Nat} {a0 : vp_A} (ha : vp_cell cA a0 = arrV cA N' (fun _ => defaultValue (newarray.typeOf atype))) (hn : ¬ n < 0) (hN : n.toNatClampNeg = N') (hbytes : N' * componentBytes (newarray.typeOf atype) ≤ 536870912) (hcells : cells + 1 ≤ R.cells) (hslots : slots + N' ≤ R.slots) (hdg : decode cc pc = .ok (.newarray atype, 2))
    (kk : ∀ (q : Nat) (H1 : Heap), q = H.size → va_at D cl (q, .inl (cA, a0)) H1 → H1.size = H.size + 1 → (∀ x, x < H.size → H1[x]? = H[x]?) → va_S A H0 H1 locs → W p l e R s m args below meth c H1 locs (cells + 1) (slots + N') Q (F0 m (pc + 2) ls (.ref q :: rest))) : W p l e R s m args below meth c H locs cells slots Q (F0 m pc ls (.int n :: rest)) := by
  refine va_newaK hexec hb harr rfl hdg rfl hn hN hbytes hcells hslots rfl fun H1 cA' e1 z1 o1 hAr hNm => ?_
  have hc : cA' = cA := by
    have h := (hK.2 t0 _ ht).2
    cases atype <;> exact Option.some.inj (hNm.symm.trans h)
  subst hc
  refine kk H.size H1 rfl ?_ z1 o1 (rr_grow hS z1 o1)
  show H1[H.size]? = some (vp_cell _ _)
  rw [ha]
  exact e1
theorem rr_newq (hexec : p.tables.exec = Jvm.exec) (hb : c.code = cc) {own C : String} {index : Nat} (hown : s.vm.findClass own = some m.cls) (hclink : (Cond.classLink own index C).before args s = true) (hover : (Cond.arrayOver (.object C)).before args s = true) (hK : va_K D cl tys s) (t0 : Nat) {cA : ClassId} (ht : tys[t0]? = some (cA, .object C)) (hS : va_S A H0 H locs)
    {n : Int32} {N' : Nat} (hn : ¬ n < 0) (hN : n.toNatClampNeg = N') (hbytes : N' * 4 ≤ 536870912) (hcells : cells + 1 ≤ R.cells) (hslots : slots + N' ≤ R.slots) (hdg : decode cc pc = .ok (.anewarray index, 3))
    (kk : ∀ (q : Nat) (H1 : Heap), q = H.size → va_at D cl (q, .inl (cA, N', .inr (.inr (.inr (.inr (fun _ => none)))))) H1 → H1.size = H.size + 1 → (∀ x, x < H.size → H1[x]? = H[x]?) → va_S A H0 H1 locs → W p l e R s m args below meth c H1 locs (cells + 1) (slots + N') Q (F0 m (pc + 3) ls (.ref q :: rest))) : W p l e R s m args below meth c H locs cells slots Q (F0 m pc ls (.int n :: rest)) := by
  subst hN
  refine W.anew hexec hb hown hclink hover rfl hdg rfl hn hbytes hcells hslots fun cA' kA comp f1 f2 f3 f4 => ?_
  have hc : cA' = cA := by
    obtain ⟨_, _, _, _, _, h⟩ := (hK.2 t0 _ ht).2
    exact Option.some.inj (f1.symm.trans h)
  subst hc
  generalize hH1 : H.push ({ cls := cA', slots := Array.replicate n.toNatClampNeg .null, vm := .none } : Cell) = H1
  have z1 : H1.size = H.size + 1 := by rw [← hH1, Array.size_push]
  have e1 : H1[H.size]? = some (arrV cA' n.toNatClampNeg (fun _ => .null)) := by rw [← hH1, Array.getElem?_push_size, ← arrV_new]
  have o1 : ∀ q : Nat, q < H.size → H1[q]? = H[q]? := fun q hq => by rw [← hH1, Array.getElem?_push, if_neg (Nat.ne_of_lt hq)]
  exact kk H.size H1 rfl e1 z1 o1 (rr_grow hS z1 o1)
theorem rr_new {c0 : Code} (hexec : p.tables.exec = Jvm.exec) (hb : c0.code = cc) {own C : String} {T : u_T} {N ci index : Nat} {Ts : List Cond} (hts : ∀ w ∈ Ts, w.before args s = true) (hin : ∀ w ∈ u_ws C T N, w ∈ Ts) (ty : Nat → FieldType) (hty : ∀ k, k < N → parseFieldDescriptor (T k).2.2.1 = some (ty k)) (hown : s.vm.findClass own = some m.cls) (hcl : (Cond.classLink own index C).before args s = true) (hinst : (Cond.instantiable C N).before args s = true) (hini : (Cond.initialized C).before args s = true)
    (hK : va_K D cl tys s) (hS : va_S A H0 H locs) (hc : cl[ci]? = some (C, T, N)) {fs : List Value} (hfs : ∀ j, j < N → defaultValue (ty j) = vp_V fs j) (hcells : cells + 1 ≤ R.cells) (hslots : slots + N ≤ R.slots) (hdg : decode cc pc = .ok (.new index, 3))
    (kk : ∀ (q : Nat) (H1 : Heap), q = H.size → va_at D cl (q, .inr (ci, fs)) H1 → H1.size = H.size + 1 → (∀ x, x < H.size → H1[x]? = H[x]?) → va_S A H0 H1 locs →
      W p l e R s m args below meth c0 H1 locs (cells + 1) (slots + N) Q (F0 m (pc + 3) ls (.ref q :: rest))) : W p l e R s m args below meth c0 H locs cells slots Q (F0 m pc ls rest) := by
  have hKn := hK.1 ci _ hc
  refine W.newcK hexec hb hown hcl hinst hini rfl hdg hcells hslots hKn.2.1 rfl fun H1 kC hkC e1 z1 o1 => ?_
  exact kk H.size H1 rfl ⟨_, hc, (u_born ty hts hin hKn hkC e1 hty).to hfs⟩ z1 o1 (rr_grow hS z1 o1)
end RRV
end
section
def mlen (j : Nat) : Nat := ([0, 0, 0, 0, 64, 12, 12, 12, 2, 160, 4, 4, 4, 4, 4, 4, 4, 4, 4, 4, 4, 4, 16, 16, 16, 16, 16, 16, 16, 16, 4, 4, 16, 16, 16, 16, 4, 4, 8, 8, 0, 25, 25, 25, 25, 25, 25, 25, 100] : List Nat).getD j 0
def mkd (j : Nat) : Nat := if j = 18 ∨ j = 19 ∨ j = 36 then 1 else 0
abbrev mfs (t0 t1 t2 c : Int32) (r : Nat → Nat) (p : Int32) : List Value := [.int t0, .int t1, .int t2, .int c, .ref (r 4), .ref (r 5), .ref (r 6), .ref (r 7), .ref (r 8), .ref (r 9), .ref (r 10), .ref (r 11), .ref (r 12), .ref (r 13), .ref (r 14), .ref (r 15), .ref (r 16), .ref (r 17), .ref (r 18), .ref (r 19), .ref (r 20), .ref (r 21), .ref (r 22), .ref (r 23), .ref (r 24), .ref (r 25), .ref (r 26), .ref (r 27), .ref (r 28), .ref (r 29), .ref (r 30), .ref (r 31), .ref (r 32), .ref (r 33), .ref (r 34), .ref (r 35), .ref (r 36), .ref (r 37), .ref (r 38), .ref (r 39), .int p, .ref (r 41), .ref (r 42), .ref (r 43), .ref (r 44), .ref (r 45), .ref (r 46), .ref (r 47), .ref (r 48)]
/-- what lies in a new object of the class, and of the reference, by groups -/
def T0 (E : EE) (G : Nat → Nat) (g : Nat) (e : va_E) : Prop := match g with
  | 1 => ∃ n p f : Nat, e = .inr (9, [.ref n, .ref p, .ref f]) ∧ G n = 2 ∧ G p = 3 ∧ G f = 4
  | 2 => ∃ f : Nat → Option Nat, e = .inl (E.2.2 3, 2, .inr (.inr (.inr (.inr f)))) ∧ ∀ i, i < 2 → ∃ b, f i = some b ∧ G b = 5
  | 3 => ∃ f : Nat → Option Nat, e = .inl (E.2.2 5, 4, .inr (.inr (.inr (.inr f)))) ∧ ∀ i, i < 4 → ∃ b, f i = some b ∧ G b = 8
  | 4 => ∃ r t o : Nat, e = .inr (0, [.ref r, .int 0, .ref t, .ref o]) ∧ G r = 30 ∧ G t = 31 ∧ G o = 31
  | 5 => ∃ cs rg rn : Nat, e = .inr (1, [.ref cs, .ref rg, .ref rn, .int 0, .int 0]) ∧ G cs = 14 ∧ G rg = 6 ∧ G rn = 15
  | 6 => ∃ f : Nat → Option Nat, e = .inl (E.2.2 4, 6, .inr (.inr (.inr (.inr f)))) ∧ ∀ i, i < 6 → ∃ b, f i = some b ∧ G b = 7
  | 7 => e = .inr (6, [.int 0, .int 0, .int 0])
  | 8 => ∃ rq rs : Nat, e = .inr (3, [.ref rq, .ref rs, .int 0]) ∧ G rq = 9 ∧ G rs = 10
  | 9 => ∃ (pe : Int32) (nd fa : Nat) (to mt mr : Int32) (rq : Nat), e = .inr (7, [.int pe, .ref nd, .ref fa, .int to, .int mt, .int mr, .ref rq, .int 0, .int 0, .int 0, .int 0, .int 0, .int 0, .int 0]) ∧ G nd = 5 ∧ G fa = 4 ∧ G rq = 11 ∧ (0 ≤ pe.toInt ∧ pe.toInt ≤ 3)
  | 10 => ∃ (pe : Int32) (nd fa rc an ar : Nat), e = .inr (8, [.int pe, .ref nd, .ref fa, .ref rc, .int 0, .int 0, .int 0, .ref an, .ref ar]) ∧ G nd = 5 ∧ G fa = 4 ∧ G rc = 11 ∧ G an = 16 ∧ G ar = 17 ∧ (0 ≤ pe.toInt ∧ pe.toInt ≤ 3)
  | 11 => ∃ (pr : Int32) (nd rw : Nat), e = .inr (5, [.int pr, .ref nd, .ref rw, .int 0, .int 0, .int 0]) ∧ G nd = 5 ∧ G rw = 12
  | 12 => ∃ f : Nat → Option Nat, e = .inl (E.2.2 6, 4, .inr (.inr (.inr (.inr f)))) ∧ ∀ i, i < 4 → ∃ b, f i = some b ∧ G b = 13
  | 13 => e = .inr (4, [.int 0, .int 0, .int 0, .int 0, .int 0, .int 0, .int 0, .int 0, .int 0, .int 0])
  | 14 => e = .inl (E.2.2 0, 32, .inl (fun _ => 0))
  | 15 => e = .inl (E.2.2 0, 80, .inl (fun _ => 0))
  | 16 => ∃ f : Nat → Int32, e = .inl (E.2.2 0, 2, .inl f)
  | 17 => ∃ f : Nat → Int32, e = .inl (E.2.2 0, 2, .inl f)
  | 20 => ∃ (t0 t1 t2 : Int32) (r : Nat → Nat), e = .inr (10, mfs t0 t1 t2 0 r 0) ∧ ∀ j, 4 ≤ j → j < 49 → j ≠ 40 → G (r j) = 100 + j
  | 30 => ∃ f : Nat → Option Nat, e = .inl (E.2.2 7, 24, .inr (.inr (.inr (.inr f)))) ∧ ∀ i, i < 24 → ∃ b, f i = some b ∧ G b = 31
  | 31 => ∃ cs : Nat, e = .inr (2, [.int 0, .int 0, .int 0, .int 0, .int 0, .int 0, .int 0, .ref cs]) ∧ G cs = 32
  | 32 => e = .inl (E.2.2 0, 4, .inl (fun _ => 0))
  | g => 100 ≤ g ∧ e = .inl (E.2.2 (mkd (g - 100)), mlen (g - 100), .inl (fun _ => 0))
theorem tg_1 {E : EE} {G : Nat → Nat} {ex : List Nat} {H : Heap} {a : Nat} (h : TH E (T0 E) G ex H) (hg : G a = 1) (hx : a ∉ ex) : ∃ n p f : Nat, va_at (DG E) vwCl (a, .inr (9, [.ref n, .ref p, .ref f])) H ∧ G n = 2 ∧ G p = 3 ∧ G f = 4 := by
  obtain ⟨e, he, hat⟩ := h.atx hg (by decide) hx
  obtain ⟨n, p, f, rfl, hr⟩ := (show T0 E G 1 e from he)
  exact ⟨n, p, f, hat, hr⟩
theorem tg_2 {E : EE} {G : Nat → Nat} {ex : List Nat} {H : Heap} {a : Nat} (h : TH E (T0 E) G ex H) (hg : G a = 2) (hx : a ∉ ex) : ∃ f : Nat → Option Nat, va_at (DG E) vwCl (a, .inl (E.2.2 3, 2, .inr (.inr (.inr (.inr f))))) H ∧ ∀ i, i < 2 → ∃ b, f i = some b ∧ G b = 5 := by
  obtain ⟨e, he, hat⟩ := h.atx hg (by decide) hx
  obtain ⟨f, rfl, hr⟩ := (show T0 E G 2 e from he)
  exact ⟨f, hat, hr⟩
theorem tg_3 {E : EE} {G : Nat → Nat} {ex : List Nat} {H : Heap} {a : Nat} (h : TH E (T0 E) G ex H) (hg : G a = 3) (hx : a ∉ ex) : ∃ f : Nat → Option Nat, va_at (DG E) vwCl (a, .inl (E.2.2 5, 4, .inr (.inr (.inr (.inr f))))) H ∧ ∀ i, i < 4 → ∃ b, f i = some b ∧ G b = 8 := by
  obtain ⟨e, he, hat⟩ := h.atx hg (by decide) hx
  obtain ⟨f, rfl, hr⟩ := (show T0 E G 3 e from he)
  exact ⟨f, hat, hr⟩
theorem tg_4 {E : EE} {G : Nat → Nat} {ex : List Nat} {H : Heap} {a : Nat} (h : TH E (T0 E) G ex H) (hg : G a = 4) (hx : a ∉ ex) : ∃ r t o : Nat, va_at (DG E) vwCl (a, .inr (0, [.ref r, .int 0, .ref t, .ref o])) H ∧ G r = 30 ∧ G t = 31 ∧ G o = 31 := by
  obtain ⟨e, he, hat⟩ := h.atx hg (by decide) hx
  obtain ⟨r, t, o, rfl, hr⟩ := (show T0 E G 4 e from he)
  exact ⟨r, t, o, hat, hr⟩
theorem tg_5 {E : EE} {G : Nat → Nat} {ex : List Nat} {H : Heap} {a : Nat} (h : TH E (T0 E) G ex H) (hg : G a = 5) (hx : a ∉ ex) : ∃ cs rg rn : Nat, va_at (DG E) vwCl (a, .inr (1, [.ref cs, .ref rg, .ref rn, .int 0, .int 0])) H ∧ G cs = 14 ∧ G rg = 6 ∧ G rn = 15 := by
  obtain ⟨e, he, hat⟩ := h.atx hg (by decide) hx
  obtain ⟨cs, rg, rn, rfl, hr⟩ := (show T0 E G 5 e from he)
  exact ⟨cs, rg, rn, hat, hr⟩
theorem tg_6 {E : EE} {G : Nat → Nat} {ex : List Nat} {H : Heap} {a : Nat} (h : TH E (T0 E) G ex H) (hg : G a = 6) (hx : a ∉ ex) : ∃ f : Nat → Option Nat, va_at (DG E) vwCl (a, .inl (E.2.2 4, 6, .inr (.inr (.inr (.inr f))))) H ∧ ∀ i, i < 6 → ∃ b, f i = some b ∧ G b = 7 := by
  obtain ⟨e, he, hat⟩ := h.atx hg (by decide) hx
  obtain ⟨f, rfl, hr⟩ := (show T0 E G 6 e from he)
  exact ⟨f, hat, hr⟩
theorem tg_7 {E : EE} {G : Nat → Nat} {ex : List Nat} {H : Heap} {a : Nat} (h : TH E (T0 E) G ex H) (hg : G a = 7) (hx : a ∉ ex) : va_at (DG E) vwCl (a, .inr (6, [.int 0, .int 0, .int 0])) H := by
  obtain ⟨e, he, hat⟩ := h.atx hg (by decide) hx
  cases (show T0 E G 7 e from he)
  exact hat
theorem tg_8 {E : EE} {G : Nat → Nat} {ex : List Nat} {H : Heap} {a : Nat} (h : TH E (T0 E) G ex H) (hg : G a = 8) (hx : a ∉ ex) : ∃ rq rs : Nat, va_at (DG E) vwCl (a, .inr (3, [.ref rq, .ref rs, .int 0])) H ∧ G rq = 9 ∧ G rs = 10 := by
  obtain ⟨e, he, hat⟩ := h.atx hg (by decide) hx
  obtain ⟨rq, rs, rfl, hr⟩ := (show T0 E G 8 e from he)
  exact ⟨rq, rs, hat, hr⟩
theorem tg_9 {E : EE} {G : Nat → Nat} {ex : List Nat} {H : Heap} {a : Nat} (h : TH E (T0 E) G ex H) (hg : G a = 9) (hx : a ∉ ex) : ∃ (pe : Int32) (nd fa : Nat) (to mt mr : Int32) (rq : Nat), va_at (DG E) vwCl (a, .inr (7, [.int pe, .ref nd, .ref fa, .int to, .int mt, .int mr, .ref rq, .int 0, .int 0, .int 0, .int 0, .int 0, .int 0, .int 0])) H ∧ G nd = 5 ∧ G fa = 4 ∧ G rq = 11 ∧ (0 ≤ pe.toInt ∧ pe.toInt ≤ 3) := by
  obtain ⟨e, he, hat⟩ := h.atx hg (by decide) hx
  obtain ⟨pe, nd, fa, to, mt, mr, rq, rfl, hr⟩ := (show T0 E G 9 e from he)
  exact ⟨pe, nd, fa, to, mt, mr, rq, hat, hr⟩
theorem tg_10 {E : EE} {G : Nat → Nat} {ex : List Nat} {H : Heap} {a : Nat} (h : TH E (T0 E) G ex H) (hg : G a = 10) (hx : a ∉ ex) : ∃ (pe : Int32) (nd fa rc an ar : Nat), va_at (DG E) vwCl (a, .inr (8, [.int pe, .ref nd, .ref fa, .ref rc, .int 0, .int 0, .int 0, .ref an, .ref ar])) H ∧ G nd = 5 ∧ G fa = 4 ∧ G rc = 11 ∧ G an = 16 ∧ G ar = 17 ∧ (0 ≤ pe.toInt ∧ pe.toInt ≤ 3) := by
  obtain ⟨e, he, hat⟩ := h.atx hg (by decide) hx
  obtain ⟨pe, nd, fa, rc, an, ar, rfl, hr⟩ := (show T0 E G 10 e from he)
  exact ⟨pe, nd, fa, rc, an, ar, hat, hr⟩
theorem tg_11 {E : EE} {G : Nat → Nat} {ex : List Nat} {H : Heap} {a : Nat} (h : TH E (T0 E) G ex H) (hg : G a = 11) (hx : a ∉ ex) : ∃ (pr : Int32) (nd rw : Nat), va_at (DG E) vwCl (a, .inr (5, [.int pr, .ref nd, .ref rw, .int 0, .int 0, .int 0])) H ∧ G nd = 5 ∧ G rw = 12 := by
  obtain ⟨e, he, hat⟩ := h.atx hg (by decide) hx
  obtain ⟨pr, nd, rw, rfl, hr⟩ := (show T0 E G 11 e from he)
  exact ⟨pr, nd, rw, hat, hr⟩
theorem tg_12 {E : EE} {G : Nat → Nat} {ex : List Nat} {H : Heap} {a : Nat} (h : TH E (T0 E) G ex H) (hg : G a = 12) (hx : a ∉ ex) : ∃ f : Nat → Option Nat, va_at (DG E) vwCl (a, .inl (E.2.2 6, 4, .inr (.inr (.inr (.inr f))))) H ∧ ∀ i, i < 4 → ∃ b, f i = some b ∧ G b = 13 := by
  obtain ⟨e, he, hat⟩ := h.atx hg (by decide) hx
  obtain ⟨f, rfl, hr⟩ := (show T0 E G 12 e from he)
  exact ⟨f, hat, hr⟩
theorem tg_13 {E : EE} {G : Nat → Nat} {ex : List Nat} {H : Heap} {a : Nat} (h : TH E (T0 E) G ex H) (hg : G a = 13) (hx : a ∉ ex) : va_at (DG E) vwCl (a, .inr (4, [.int 0, .int 0, .int 0, .int 0, .int 0, .int 0, .int 0, .int 0, .int 0, .int 0])) H := by
  obtain ⟨e, he, hat⟩ := h.atx hg (by decide) hx
  cases (show T0 E G 13 e from he)
  exact hat
theorem tg_14 {E : EE} {G : Nat → Nat} {ex : List Nat} {H : Heap} {a : Nat} (h : TH E (T0 E) G ex H) (hg : G a = 14) (hx : a ∉ ex) : va_at (DG E) vwCl (a, .inl (E.2.2 0, 32, .inl (fun _ => 0))) H := by
  obtain ⟨e, he, hat⟩ := h.atx hg (by decide) hx
  cases (show T0 E G 14 e from he)
  exact hat
theorem tg_15 {E : EE} {G : Nat → Nat} {ex : List Nat} {H : Heap} {a : Nat} (h : TH E (T0 E) G ex H) (hg : G a = 15) (hx : a ∉ ex) : va_at (DG E) vwCl (a, .inl (E.2.2 0, 80, .inl (fun _ => 0))) H := by
  obtain ⟨e, he, hat⟩ := h.atx hg (by decide) hx
  cases (show T0 E G 15 e from he)
  exact hat
theorem tg_16 {E : EE} {G : Nat → Nat} {ex : List Nat} {H : Heap} {a : Nat} (h : TH E (T0 E) G ex H) (hg : G a = 16) (hx : a ∉ ex) : ∃ f : Nat → Int32, va_at (DG E) vwCl (a, .inl (E.2.2 0, 2, .inl f)) H := by
  obtain ⟨e, he, hat⟩ := h.atx hg (by decide) hx
  obtain ⟨f, rfl⟩ := (show T0 E G 16 e from he)
  exact ⟨f, hat⟩
theorem tg_17 {E : EE} {G : Nat → Nat} {ex : List Nat} {H : Heap} {a : Nat} (h : TH E (T0 E) G ex H) (hg : G a = 17) (hx : a ∉ ex) : ∃ f : Nat → Int32, va_at (DG E) vwCl (a, .inl (E.2.2 0, 2, .inl f)) H := by
  obtain ⟨e, he, hat⟩ := h.atx hg (by decide) hx
  obtain ⟨f, rfl⟩ := (show T0 E G 17 e from he)
  exact ⟨f, hat⟩
theorem tg_20 {E : EE} {G : Nat → Nat} {ex : List Nat} {H : Heap} {a : Nat} (h : TH E (T0 E) G ex H) (hg : G a = 20) (hx : a ∉ ex) : ∃ (t0 t1 t2 : Int32) (r : Nat → Nat), va_at (DG E) vwCl (a, .inr (10, mfs t0 t1 t2 0 r 0)) H ∧ ∀ j, 4 ≤ j → j < 49 → j ≠ 40 → G (r j) = 100 + j := by
  obtain ⟨e, he, hat⟩ := h.atx hg (by decide) hx
  obtain ⟨t0, t1, t2, r, rfl, hr⟩ := (show T0 E G 20 e from he)
  exact ⟨t0, t1, t2, r, hat, hr⟩
theorem tg_30 {E : EE} {G : Nat → Nat} {ex : List Nat} {H : Heap} {a : Nat} (h : TH E (T0 E) G ex H) (hg : G a = 30) (hx : a ∉ ex) : ∃ f : Nat → Option Nat, va_at (DG E) vwCl (a, .inl (E.2.2 7, 24, .inr (.inr (.inr (.inr f))))) H ∧ ∀ i, i < 24 → ∃ b, f i = some b ∧ G b = 31 := by
  obtain ⟨e, he, hat⟩ := h.atx hg (by decide) hx
  obtain ⟨f, rfl, hr⟩ := (show T0 E G 30 e from he)
  exact ⟨f, hat, hr⟩
theorem tg_31 {E : EE} {G : Nat → Nat} {ex : List Nat} {H : Heap} {a : Nat} (h : TH E (T0 E) G ex H) (hg : G a = 31) (hx : a ∉ ex) : ∃ cs : Nat, va_at (DG E) vwCl (a, .inr (2, [.int 0, .int 0, .int 0, .int 0, .int 0, .int 0, .int 0, .ref cs])) H ∧ G cs = 32 := by
  obtain ⟨e, he, hat⟩ := h.atx hg (by decide) hx
  obtain ⟨cs, rfl, hr⟩ := (show T0 E G 31 e from he)
  exact ⟨cs, hat, hr⟩
theorem tg_32 {E : EE} {G : Nat → Nat} {ex : List Nat} {H : Heap} {a : Nat} (h : TH E (T0 E) G ex H) (hg : G a = 32) (hx : a ∉ ex) : va_at (DG E) vwCl (a, .inl (E.2.2 0, 4, .inl (fun _ => 0))) H := by
  obtain ⟨e, he, hat⟩ := h.atx hg (by decide) hx
  cases (show T0 E G 32 e from he)
  exact hat
theorem tg_arr {E : EE} {G : Nat → Nat} {ex : List Nat} {H : Heap} {a j : Nat} (h : TH E (T0 E) G ex H) (hg : G a = 100 + j) (hx : a ∉ ex) : va_at (DG E) vwCl (a, .inl (E.2.2 (mkd j), mlen j, .inl (fun _ => 0))) H := by
  obtain ⟨e, he, hat⟩ := h.atx hg (by omega) hx
  have h2 : 100 ≤ 100 + j ∧ e = .inl (E.2.2 (mkd (100 + j - 100)), mlen (100 + j - 100), .inl (fun _ => 0)) := by
    unfold T0 at he
    split at he <;> first | omega | exact he
  rw [show 100 + j - 100 = j by omega] at h2
  rw [h2.2] at hat
  exact hat
theorem ne_G {G : Nat → Nat} {a b g g' : Nat} (h1 : G a = g) (h2 : G b = g') (h : g ≠ g') : a ≠ b := fun q => h (by rw [← h1, ← h2, q])
theorem nx_0 {a : Nat} : a ∉ ([] : List Nat) := List.not_mem_nil
theorem nx_1 {a b : Nat} (h : a ≠ b) {l : List Nat} (hl : a ∉ l) : a ∉ b :: l := fun q => (List.mem_cons.mp q).elim h hl
section RN
variable {p : Program} {l : Launch} {e : Env} {R : Room} {s : State} {m : MethodId} {args : Array Value} {below : List Frame} {meth : Method} {c : Code} {H : Heap} {locs : List Loc} {cells slots : Nat}
variable {y : MethodName} {bytes cc : ByteArray} {maxL nL mc ms n index : Nat} {ret : Option FieldType} {ws : List Cond} {rm : Room} {Qc : Array Value → State → Outcome → State → Prop} {XC : String → State → State → Prop} {free : Addr → Prop} {Ts : List Cond} {own C host : String} {b : Addr} {As rest : List Value} {g : JFrame} {E : EE} {z0 : Nat}
theorem rnV (P : Heap → Prop) (S : CallFix p m c cc nL s args Ts own) (hM : Met l y ws rm (va_Pc (.ref b :: As) (fun U => P U.heap ∧ KS E z0 U)) Qc mc ms free) (cw : CallW R s args own C index y bytes maxL ret ws rm mc ms n) (hP : P H) (hKg : ∀ U : State, U.heap = H → s.WarmedH U.vm → KS E z0 U) (hrc : ∃ cellB : Cell, H[b]? = some cellB ∧ cellB.vm.isStatics = false ∧ s.vm.findClass C = some cellB.cls)
    (hg : g.method = m) (hn : As.length = n) (hsize : g.locals.size = nL) (hstack : g.stack = As.reverse ++ .ref b :: rest) (hW : 2 * g.monitorRoom + (rest.map fun v => v.category).sum ≤ 8) (hdg : decode cc g.pc = .ok (.invokevirtual index, 3)) (hf : cells + mc ≤ R.cells ∧ slots + ms ≤ R.slots) :
    va_Run p l e R s m args below meth c H locs cells slots mc ms g rest (Qc (Value.ref b :: As).toArray) free :=
  va_runV S hM cw ⟨fun a U g mk q => ⟨q.1, q.2.1, KS.calling q.2.2⟩, hrc, fun U hU hW => ⟨rfl, by rw [hU]; exact hP, hKg U hU hW⟩⟩ hg hn hsize hstack hW hdg hf
theorem rnS (P : Heap → Prop) (S : CallFix p m c cc nL s args Ts own) (hM : Met l y ws rm (va_Pc As (fun U => P U.heap ∧ KS E z0 U)) Qc mc ms free) (cw : CallB R s args own index y bytes maxL ret ws rm mc ms n ∧ (Cond.static y).before args s = true) (hP : P H) (hKg : ∀ U : State, U.heap = H → s.WarmedH U.vm → KS E z0 U)
    (hg : g.method = m) (hn : As.length = n) (hsize : g.locals.size = nL) (hstack : g.stack = As.reverse ++ rest) (hW : 2 * g.monitorRoom + (rest.map fun v => v.category).sum ≤ 8) (hdg : decode cc g.pc = .ok (.invokestatic index, 3)) (hf : cells + mc ≤ R.cells ∧ slots + ms ≤ R.slots) :
    va_Run p l e R s m args below meth c H locs cells slots mc ms g rest (Qc As.toArray) free :=
  va_runS S hM cw ⟨fun a U g mk q => ⟨q.1, q.2.1, KS.calling q.2.2⟩, fun U hU hW => ⟨rfl, by rw [hU]; exact hP, hKg U hU hW⟩⟩ hg hn hsize hstack hW hdg hf
theorem rnI (P : Heap → Prop) (S : CallFix p m c cc nL s args Ts own) (hM : Met l y ws rm (va_Pc (.ref b :: As) (fun U => P U.heap ∧ KS E z0 U)) Qc mc ms free) (cw : CallB R s args own index y bytes maxL none ws rm mc ms n ∧ y.name = "<init>" ∧ (Cond.instanceMethod y).before args s = true) (hP : P H) (hKg : ∀ U : State, U.heap = H → s.WarmedH U.vm → KS E z0 U)
    (hg : g.method = m) (hn : As.length = n) (hsize : g.locals.size = nL) (hstack : g.stack = As.reverse ++ .ref b :: rest) (hW : 2 * g.monitorRoom + (rest.map fun v => v.category).sum ≤ 8) (hdg : decode cc g.pc = .ok (.invokespecial index, 3)) (hf : cells + mc ≤ R.cells ∧ slots + ms ≤ R.slots) :
    va_Run p l e R s m args below meth c H locs cells slots mc ms g rest (Qc (Value.ref b :: As).toArray) free :=
  va_runI S hM cw ⟨fun a U g mk q => ⟨q.1, q.2.1, KS.calling q.2.2⟩, fun U hU hW => ⟨rfl, by rw [hU]; exact hP, hKg U hU hW⟩⟩ hg hn hsize hstack hW hdg hf
theorem rnIN (P : Heap → Prop) (S : CallFix p m c cc nL s args Ts own) (hM : Met l y ws rm (va_Pc (.ref b :: As) (fun U => P U.heap ∧ KS E z0 U)) Qc mc ms free) (cw : va_CN R s args own index y host bytes maxL none ws rm mc ms n ∧ y.name = "<init>" ∧ (Cond.instanceMethod y).before args s = true) (hP : P H) (hKg : ∀ U : State, U.heap = H → s.WarmedH U.vm → KS E z0 U)
    (hg : g.method = m) (hn : As.length = n) (hsize : g.locals.size = nL) (hstack : g.stack = As.reverse ++ .ref b :: rest) (hW : 2 * g.monitorRoom + (rest.map fun v => v.category).sum ≤ 8) (hdg : decode cc g.pc = .ok (.invokespecial index, 3)) (hf : cells + mc ≤ R.cells ∧ slots + ms ≤ R.slots) :
    va_Run p l e R s m args below meth c H locs cells slots mc ms g rest (Qc (Value.ref b :: As).toArray) free :=
  va_runIN S hM cw ⟨fun a U g mk q => ⟨q.1, q.2.1, KS.calling q.2.2⟩, fun U hU hW => ⟨rfl, by rw [hU]; exact hP, hKg U hU hW⟩⟩ hg hn hsize hstack hW hdg hf
theorem rxV (P : Heap → Prop) (S : CallFix p m c cc nL s args Ts own) (hM : vx_Met l y ws rm (va_Pc (.ref b :: As) (fun U => P U.heap ∧ KS E z0 U)) Qc XC mc ms free) (cw : CallW R s args own C index y bytes maxL ret ws rm mc ms n) (hP : P H) (hKg : ∀ U : State, U.heap = H → s.WarmedH U.vm → KS E z0 U) (hrc : ∃ cellB : Cell, H[b]? = some cellB ∧ cellB.vm.isStatics = false ∧ s.vm.findClass C = some cellB.cls)
    (hg : g.method = m) (hn : As.length = n) (hsize : g.locals.size = nL) (hstack : g.stack = As.reverse ++ .ref b :: rest) (hW : 2 * g.monitorRoom + (rest.map fun v => v.category).sum ≤ 8) (hdg : decode cc g.pc = .ok (.invokevirtual index, 3)) (hf : cells + mc ≤ R.cells ∧ slots + ms ≤ R.slots) :
    vx_Run p l e R s m args below meth c H locs cells slots mc ms g rest (Qc (Value.ref b :: As).toArray) XC free :=
  vx_runV S hM cw ⟨fun a U g mk q => ⟨q.1, q.2.1, KS.calling q.2.2⟩, hrc, fun U hU hW => ⟨rfl, by rw [hU]; exact hP, hKg U hU hW⟩⟩ hg hn hsize hstack hW hdg hf
theorem rxS (P : Heap → Prop) (S : CallFix p m c cc nL s args Ts own) (hM : vx_Met l y ws rm (va_Pc As (fun U => P U.heap ∧ KS E z0 U)) Qc XC mc ms free) (cw : CallB R s args own index y bytes maxL ret ws rm mc ms n ∧ (Cond.static y).before args s = true) (hP : P H) (hKg : ∀ U : State, U.heap = H → s.WarmedH U.vm → KS E z0 U)
    (hg : g.method = m) (hn : As.length = n) (hsize : g.locals.size = nL) (hstack : g.stack = As.reverse ++ rest) (hW : 2 * g.monitorRoom + (rest.map fun v => v.category).sum ≤ 8) (hdg : decode cc g.pc = .ok (.invokestatic index, 3)) (hf : cells + mc ≤ R.cells ∧ slots + ms ≤ R.slots) :
    vx_Run p l e R s m args below meth c H locs cells slots mc ms g rest (Qc As.toArray) XC free :=
  vx_runS S hM cw ⟨fun a U g mk q => ⟨q.1, q.2.1, KS.calling q.2.2⟩, fun U hU hW => ⟨rfl, by rw [hU]; exact hP, hKg U hU hW⟩⟩ hg hn hsize hstack hW hdg hf
/-- a pure static method of a nest mate -/
theorem rnSN {r : Int32} (S : CallFix p m c cc nL s args Ts own) (hM : Met l y ws rm (fun v _ => v = As.toArray) (QcRead r) 0 0 (fun _ => False)) (cw : va_CN R s args own index y host bytes maxL ret ws rm 0 0 n ∧ (Cond.static y).before args s = true ∧ True)
    (hg : g.method = m) (hn : As.length = n) (hsize : g.locals.size = nL) (hstack : g.stack = As.reverse ++ rest) (hW : 2 * g.monitorRoom + (rest.map fun v => v.category).sum ≤ 8) (hdg : decode cc g.pc = .ok (.invokestatic index, 3)) (hf : cells + 0 ≤ R.cells ∧ slots + 0 ≤ R.slots) {Q : State → Prop}
    (kk : W p l e R s m args below meth c H locs cells slots Q { g with pc := g.pc + 3, stack := .int r :: rest }) : W p l e R s m args below meth c H locs cells slots Q g := by
  intro T hT X
  obtain ⟨v, st₀, t, T', L, h0, X', hL, e1, e2, ⟨hv, hh⟩, st⟩ := va_runSN S hM cw preEq hg hn hsize hstack hW hdg hf T hT X
  cases hv
  obtain ⟨t2, a1, b1⟩ := kk T' (by rw [e1, hh, h0]) (Stand.forget X' (fun q h => (hL q h).elim))
  exact ⟨t2, st t2 a1, b1⟩
end RN
theorem i_0 : (0 : Int32).toInt = 0 := by decide
theorem i_1 : (1 : Int32).toInt = 1 := by decide
theorem i_2 : (2 : Int32).toInt = 2 := by decide
theorem i_3 : (3 : Int32).toInt = 3 := by decide
theorem i_4 : (4 : Int32).toInt = 4 := by decide
theorem i_5 : (5 : Int32).toInt = 5 := by decide
theorem i_6 : (6 : Int32).toInt = 6 := by decide
theorem i_7 : (7 : Int32).toInt = 7 := by decide
theorem i_8 : (8 : Int32).toInt = 8 := by decide
theorem i_10 : (10 : Int32).toInt = 10 := by decide
theorem i_12 : (12 : Int32).toInt = 12 := by decide
theorem i_16 : (16 : Int32).toInt = 16 := by decide
theorem i_20 : (20 : Int32).toInt = 20 := by decide
theorem i_23 : (23 : Int32).toInt = 23 := by decide
theorem i_24 : (24 : Int32).toInt = 24 := by decide
theorem i_31 : (31 : Int32).toInt = 31 := by decide
theorem i_32 : (32 : Int32).toInt = 32 := by decide
theorem i_63 : (63 : Int32).toInt = 63 := by decide
theorem i_64 : (64 : Int32).toInt = 64 := by decide
theorem i_m1 : (-1 : Int32).toInt = -1 := by decide
end
section
theorem s_add {x y : Int32} (h1 : -2147483648 ≤ x.toInt + y.toInt) (h2 : x.toInt + y.toInt < 2147483648) : (x + y).toInt = x.toInt + y.toInt := by
  simp only [Int32.toInt_add, Int.bmod]; omega
theorem s_sub {x y : Int32} (h1 : -2147483648 ≤ x.toInt - y.toInt) (h2 : x.toInt - y.toInt < 2147483648) : (x - y).toInt = x.toInt - y.toInt := by
  simp only [Int32.toInt_sub, Int.bmod]; omega
theorem s_mulK {k y : Int32} {K : Int} (hk : k.toInt = K) (h1 : -2147483648 ≤ K * y.toInt) (h2 : K * y.toInt < 2147483648) : (k * y).toInt = K * y.toInt := by
  subst hk
  simp only [Int32.toInt_mul, Int.bmod]
  generalize k.toInt * y.toInt = z at *
  omega
theorem s_bd (x : Int32) : -2147483648 ≤ x.toInt ∧ x.toInt < 2147483648 := ⟨Int32.le_toInt x, Int32.toInt_lt x⟩
theorem TH.set {E : EE} {ty : (Nat → Nat) → Nat → va_E → Prop} {G : Nat → Nat} {H H1 : Heap} (h : TH E ty G [] H) {a g : Nat} {e' : va_E} (hg : G a = g) (he : ty G g e') (hat : va_at (DG E) vwCl (a, e') H1) (ho : ∀ q, q ≠ a → H1[q]? = H[q]?) : TH E ty G [] H1 := fun b hb hx => by
  by_cases hq : b = a
  · subst hq
    rw [hg]
    exact ⟨e', he, hat⟩
  · obtain ⟨e2, h1, h2⟩ := h b hb hx
    exact ⟨e2, h1, h2.kept (ho b hq)⟩
def IAE : String := "java/lang/IllegalArgumentException"
def ISE : String := "java/lang/IllegalStateException"
def NSE : String := "java/util/NoSuchElementException"
def upn : List String := ["java/lang/RuntimeException", "java/lang/Exception"]
end
section
theorem dX9_isNode_0 : decode cX9_isNode 0 = .ok (.iload_n 0, 1) := by decide +kernel
theorem dX9_isNode_1 : decode cX9_isNode 1 = .ok (.ifCond .lt 12, 3) := by decide +kernel
theorem dX9_isNode_4 : decode cX9_isNode 4 = .ok (.iload_n 0, 1) := by decide +kernel
theorem dX9_isNode_5 : decode cX9_isNode 5 = .ok (.iconst 2, 1) := by decide +kernel
theorem dX9_isNode_6 : decode cX9_isNode 6 = .ok (.if_icmp .ge 7, 3) := by decide +kernel
theorem dX9_isNode_9 : decode cX9_isNode 9 = .ok (.iconst 1, 1) := by decide +kernel
theorem dX9_isNode_10 : decode cX9_isNode 10 = .ok (.goto 4, 3) := by decide +kernel
theorem dX9_isNode_13 : decode cX9_isNode 13 = .ok (.iconst 0, 1) := by decide +kernel
theorem dX9_isNode_14 : decode cX9_isNode 14 = .ok (.ireturn, 1) := by decide +kernel
theorem dX9_isRegion_0 : decode cX9_isRegion 0 = .ok (.iload_n 0, 1) := by decide +kernel
theorem dX9_isRegion_1 : decode cX9_isRegion 1 = .ok (.ifCond .lt 13, 3) := by decide +kernel
theorem dX9_isRegion_4 : decode cX9_isRegion 4 = .ok (.iload_n 0, 1) := by decide +kernel
theorem dX9_isRegion_5 : decode cX9_isRegion 5 = .ok (.bipush 6, 2) := by decide +kernel
theorem dX9_isRegion_7 : decode cX9_isRegion 7 = .ok (.if_icmp .ge 7, 3) := by decide +kernel
theorem dX9_isRegion_10 : decode cX9_isRegion 10 = .ok (.iconst 1, 1) := by decide +kernel
theorem dX9_isRegion_11 : decode cX9_isRegion 11 = .ok (.goto 4, 3) := by decide +kernel
theorem dX9_isRegion_14 : decode cX9_isRegion 14 = .ok (.iconst 0, 1) := by decide +kernel
theorem dX9_isRegion_15 : decode cX9_isRegion 15 = .ok (.ireturn, 1) := by decide +kernel
theorem dX9_isCell_0 : decode cX9_isCell 0 = .ok (.iload_n 0, 1) := by decide +kernel
theorem dX9_isCell_1 : decode cX9_isCell 1 = .ok (.ifCond .lt 13, 3) := by decide +kernel
theorem dX9_isCell_4 : decode cX9_isCell 4 = .ok (.iload_n 0, 1) := by decide +kernel
theorem dX9_isCell_5 : decode cX9_isCell 5 = .ok (.bipush 32, 2) := by decide +kernel
theorem dX9_isCell_7 : decode cX9_isCell 7 = .ok (.if_icmp .ge 7, 3) := by decide +kernel
theorem dX9_isCell_10 : decode cX9_isCell 10 = .ok (.iconst 1, 1) := by decide +kernel
theorem dX9_isCell_11 : decode cX9_isCell 11 = .ok (.goto 4, 3) := by decide +kernel
theorem dX9_isCell_14 : decode cX9_isCell 14 = .ok (.iconst 0, 1) := by decide +kernel
theorem dX9_isCell_15 : decode cX9_isCell 15 = .ok (.ireturn, 1) := by decide +kernel
theorem dX9_isPair_0 : decode cX9_isPair 0 = .ok (.iload_n 0, 1) := by decide +kernel
theorem dX9_isPair_1 : decode cX9_isPair 1 = .ok (.ifCond .lt 12, 3) := by decide +kernel
theorem dX9_isPair_4 : decode cX9_isPair 4 = .ok (.iload_n 0, 1) := by decide +kernel
theorem dX9_isPair_5 : decode cX9_isPair 5 = .ok (.iconst 4, 1) := by decide +kernel
theorem dX9_isPair_6 : decode cX9_isPair 6 = .ok (.if_icmp .ge 7, 3) := by decide +kernel
theorem dX9_isPair_9 : decode cX9_isPair 9 = .ok (.iconst 1, 1) := by decide +kernel
theorem dX9_isPair_10 : decode cX9_isPair 10 = .ok (.goto 4, 3) := by decide +kernel
theorem dX9_isPair_13 : decode cX9_isPair 13 = .ok (.iconst 0, 1) := by decide +kernel
theorem dX9_isPair_14 : decode cX9_isPair 14 = .ok (.ireturn, 1) := by decide +kernel
theorem dX9_isNumber_0 : decode cX9_isNumber 0 = .ok (.iload_n 0, 1) := by decide +kernel
theorem dX9_isNumber_1 : decode cX9_isNumber 1 = .ok (.ifCond .lt 13, 3) := by decide +kernel
theorem dX9_isNumber_4 : decode cX9_isNumber 4 = .ok (.iload_n 0, 1) := by decide +kernel
theorem dX9_isNumber_5 : decode cX9_isNumber 5 = .ok (.bipush 64, 2) := by decide +kernel
theorem dX9_isNumber_7 : decode cX9_isNumber 7 = .ok (.if_icmp .ge 7, 3) := by decide +kernel
theorem dX9_isNumber_10 : decode cX9_isNumber 10 = .ok (.iconst 1, 1) := by decide +kernel
theorem dX9_isNumber_11 : decode cX9_isNumber 11 = .ok (.goto 4, 3) := by decide +kernel
theorem dX9_isNumber_14 : decode cX9_isNumber 14 = .ok (.iconst 0, 1) := by decide +kernel
theorem dX9_isNumber_15 : decode cX9_isNumber 15 = .ok (.ireturn, 1) := by decide +kernel
theorem dX9_areCells_0 : decode cX9_areCells 0 = .ok (.iload_n 1, 1) := by decide +kernel
theorem dX9_areCells_1 : decode cX9_areCells 1 = .ok (.iconst 1, 1) := by decide +kernel
theorem dX9_areCells_2 : decode cX9_areCells 2 = .ok (.if_icmp .lt 25, 3) := by decide +kernel
theorem dX9_areCells_5 : decode cX9_areCells 5 = .ok (.iload_n 1, 1) := by decide +kernel
theorem dX9_areCells_6 : decode cX9_areCells 6 = .ok (.bipush 12, 2) := by decide +kernel
theorem dX9_areCells_8 : decode cX9_areCells 8 = .ok (.if_icmp .gt 19, 3) := by decide +kernel
theorem dX9_areCells_11 : decode cX9_areCells 11 = .ok (.iload_n 0, 1) := by decide +kernel
theorem dX9_areCells_12 : decode cX9_areCells 12 = .ok (.ifCond .lt 15, 3) := by decide +kernel
theorem dX9_areCells_15 : decode cX9_areCells 15 = .ok (.iload_n 0, 1) := by decide +kernel
theorem dX9_areCells_16 : decode cX9_areCells 16 = .ok (.bipush 32, 2) := by decide +kernel
theorem dX9_areCells_18 : decode cX9_areCells 18 = .ok (.iload_n 1, 1) := by decide +kernel
theorem dX9_areCells_19 : decode cX9_areCells 19 = .ok (.isub, 1) := by decide +kernel
theorem dX9_areCells_20 : decode cX9_areCells 20 = .ok (.if_icmp .gt 7, 3) := by decide +kernel
theorem dX9_areCells_23 : decode cX9_areCells 23 = .ok (.iconst 1, 1) := by decide +kernel
theorem dX9_areCells_24 : decode cX9_areCells 24 = .ok (.goto 4, 3) := by decide +kernel
theorem dX9_areCells_27 : decode cX9_areCells 27 = .ok (.iconst 0, 1) := by decide +kernel
theorem dX9_areCells_28 : decode cX9_areCells 28 = .ok (.ireturn, 1) := by decide +kernel
theorem dX9_peerOf_0 : decode cX9_peerOf 0 = .ok (.iload_n 0, 1) := by decide +kernel
theorem dX9_peerOf_1 : decode cX9_peerOf 1 = .ok (.iconst 1, 1) := by decide +kernel
theorem dX9_peerOf_2 : decode cX9_peerOf 2 = .ok (.ixor, 1) := by decide +kernel
theorem dX9_peerOf_3 : decode cX9_peerOf 3 = .ok (.ireturn, 1) := by decide +kernel
set_option maxHeartbeats 4000000 in
set_option maxRecDepth 100000 in
theorem c_X9_isNode (l : Launch) (p0 : Int32) : Met l yX9_isNode [Cond.code yX9_isNode cX9_isNode 1 (some .boolean)] ({ frames := 0, cells := 0, slots := 0, locals := 0 } : Room) (fun v _ => v = ([.int p0] : List Value).toArray) (QcRead (bI (0 ≤ p0.toInt ∧ p0.toInt < 2))) 0 0 (fun _ => False) := by
  refine Met.ofW (cc := cX9_isNode) (maxL := 1) (ret := (some .boolean)) (by decide) rfl ?_
  intro p e s m args below meth c s₁ B hml hv
  subst hv
  have hx := B.exec
  have hb := B.bytes
  have hr := B.returns
  have hlocks := B.notSynchronized
  have hl := lv_entry ([.int p0]) (n := 1) (Nat.le_of_ble_eq_true rfl)
  rw [lg_entry_eq]
  generalize (lg_sl ([.int p0]) ++ List.replicate (1 - (lg_sl ([.int p0])).length) Slot.unset).toArray = ls at hl ⊢
  have hl : lv_has ls 1 [(0, .int p0)] := hl
  refine lv_iload_n hx hb dX9_isNode_0 rfl (lv_at hl 0 rfl) ?_
  refine lv_if_lt (tgt := 13) hx hb dX9_isNode_1 (by decide) (fun c_1 => ?_) (fun c_1 => ?_)
  · simp only [lt_I, le_I, eq_I, i_0, i_1, i_2, i_3, i_4, i_5, i_6, i_7, i_8, i_10, i_12, i_16, i_20, i_23, i_24, i_31, i_32, i_63, i_64, i_m1] at c_1
    refine lv_iconst (v := 0) hx hb dX9_isNode_13 (by decide) ?_
    exact W.zret (v := 0) (ty := .boolean) hx hb hr rfl (fun t ht hW => ⟨(by rw [bI_f (by omega)]), ht⟩) (fun q hq => nomatch hq) dX9_isNode_14
  · simp only [lt_I, le_I, eq_I, i_0, i_1, i_2, i_3, i_4, i_5, i_6, i_7, i_8, i_10, i_12, i_16, i_20, i_23, i_24, i_31, i_32, i_63, i_64, i_m1] at c_1
    refine lv_iload_n hx hb dX9_isNode_4 rfl (lv_at hl 0 rfl) ?_
    refine lv_iconst (v := 2) hx hb dX9_isNode_5 (by decide) ?_
    refine lv_icmp_ge (tgt := 13) hx hb dX9_isNode_6 (by decide) (fun c_2 => ?_) (fun c_2 => ?_)
    · simp only [lt_I, le_I, eq_I, i_0, i_1, i_2, i_3, i_4, i_5, i_6, i_7, i_8, i_10, i_12, i_16, i_20, i_23, i_24, i_31, i_32, i_63, i_64, i_m1] at c_2
      refine lv_iconst (v := 0) hx hb dX9_isNode_13 (by decide) ?_
      exact W.zret (v := 0) (ty := .boolean) hx hb hr rfl (fun t ht hW => ⟨(by rw [bI_f (by omega)]), ht⟩) (fun q hq => nomatch hq) dX9_isNode_14
    · simp only [lt_I, le_I, eq_I, i_0, i_1, i_2, i_3, i_4, i_5, i_6, i_7, i_8, i_10, i_12, i_16, i_20, i_23, i_24, i_31, i_32, i_63, i_64, i_m1] at c_2
      refine lv_iconst (v := 1) hx hb dX9_isNode_9 (by decide) ?_
      refine lv_goto (tgt := 14) hx hb dX9_isNode_10 (by decide) ?_
      exact W.zret (v := 1) (ty := .boolean) hx hb hr rfl (fun t ht hW => ⟨(by rw [bI_t (by omega)]), ht⟩) (fun q hq => nomatch hq) dX9_isNode_14
set_option maxHeartbeats 4000000 in
set_option maxRecDepth 100000 in
theorem c_X9_isRegion (l : Launch) (p0 : Int32) : Met l yX9_isRegion [Cond.code yX9_isRegion cX9_isRegion 1 (some .boolean)] ({ frames := 0, cells := 0, slots := 0, locals := 0 } : Room) (fun v _ => v = ([.int p0] : List Value).toArray) (QcRead (bI (0 ≤ p0.toInt ∧ p0.toInt < 6))) 0 0 (fun _ => False) := by
  refine Met.ofW (cc := cX9_isRegion) (maxL := 1) (ret := (some .boolean)) (by decide) rfl ?_
  intro p e s m args below meth c s₁ B hml hv
  subst hv
  have hx := B.exec
  have hb := B.bytes
  have hr := B.returns
  have hlocks := B.notSynchronized
  have hl := lv_entry ([.int p0]) (n := 1) (Nat.le_of_ble_eq_true rfl)
  rw [lg_entry_eq]
  generalize (lg_sl ([.int p0]) ++ List.replicate (1 - (lg_sl ([.int p0])).length) Slot.unset).toArray = ls at hl ⊢
  have hl : lv_has ls 1 [(0, .int p0)] := hl
  refine lv_iload_n hx hb dX9_isRegion_0 rfl (lv_at hl 0 rfl) ?_
  refine lv_if_lt (tgt := 14) hx hb dX9_isRegion_1 (by decide) (fun c_1 => ?_) (fun c_1 => ?_)
  · simp only [lt_I, le_I, eq_I, i_0, i_1, i_2, i_3, i_4, i_5, i_6, i_7, i_8, i_10, i_12, i_16, i_20, i_23, i_24, i_31, i_32, i_63, i_64, i_m1] at c_1
    refine lv_iconst (v := 0) hx hb dX9_isRegion_14 (by decide) ?_
    exact W.zret (v := 0) (ty := .boolean) hx hb hr rfl (fun t ht hW => ⟨(by rw [bI_f (by omega)]), ht⟩) (fun q hq => nomatch hq) dX9_isRegion_15
  · simp only [lt_I, le_I, eq_I, i_0, i_1, i_2, i_3, i_4, i_5, i_6, i_7, i_8, i_10, i_12, i_16, i_20, i_23, i_24, i_31, i_32, i_63, i_64, i_m1] at c_1
    refine lv_iload_n hx hb dX9_isRegion_4 rfl (lv_at hl 0 rfl) ?_
    refine lv_bipush (v := 6) hx hb dX9_isRegion_5 (by decide) ?_
    refine lv_icmp_ge (tgt := 14) hx hb dX9_isRegion_7 (by decide) (fun c_2 => ?_) (fun c_2 => ?_)
    · simp only [lt_I, le_I, eq_I, i_0, i_1, i_2, i_3, i_4, i_5, i_6, i_7, i_8, i_10, i_12, i_16, i_20, i_23, i_24, i_31, i_32, i_63, i_64, i_m1] at c_2
      refine lv_iconst (v := 0) hx hb dX9_isRegion_14 (by decide) ?_
      exact W.zret (v := 0) (ty := .boolean) hx hb hr rfl (fun t ht hW => ⟨(by rw [bI_f (by omega)]), ht⟩) (fun q hq => nomatch hq) dX9_isRegion_15
    · simp only [lt_I, le_I, eq_I, i_0, i_1, i_2, i_3, i_4, i_5, i_6, i_7, i_8, i_10, i_12, i_16, i_20, i_23, i_24, i_31, i_32, i_63, i_64, i_m1] at c_2
      refine lv_iconst (v := 1) hx hb dX9_isRegion_10 (by decide) ?_
      refine lv_goto (tgt := 15) hx hb dX9_isRegion_11 (by decide) ?_
      exact W.zret (v := 1) (ty := .boolean) hx hb hr rfl (fun t ht hW => ⟨(by rw [bI_t (by omega)]), ht⟩) (fun q hq => nomatch hq) dX9_isRegion_15
set_option maxHeartbeats 4000000 in
set_option maxRecDepth 100000 in
theorem c_X9_isCell (l : Launch) (p0 : Int32) : Met l yX9_isCell [Cond.code yX9_isCell cX9_isCell 1 (some .boolean)] ({ frames := 0, cells := 0, slots := 0, locals := 0 } : Room) (fun v _ => v = ([.int p0] : List Value).toArray) (QcRead (bI (0 ≤ p0.toInt ∧ p0.toInt < 32))) 0 0 (fun _ => False) := by
  refine Met.ofW (cc := cX9_isCell) (maxL := 1) (ret := (some .boolean)) (by decide) rfl ?_
  intro p e s m args below meth c s₁ B hml hv
  subst hv
  have hx := B.exec
  have hb := B.bytes
  have hr := B.returns
  have hlocks := B.notSynchronized
  have hl := lv_entry ([.int p0]) (n := 1) (Nat.le_of_ble_eq_true rfl)
  rw [lg_entry_eq]
  generalize (lg_sl ([.int p0]) ++ List.replicate (1 - (lg_sl ([.int p0])).length) Slot.unset).toArray = ls at hl ⊢
  have hl : lv_has ls 1 [(0, .int p0)] := hl
  refine lv_iload_n hx hb dX9_isCell_0 rfl (lv_at hl 0 rfl) ?_
  refine lv_if_lt (tgt := 14) hx hb dX9_isCell_1 (by decide) (fun c_1 => ?_) (fun c_1 => ?_)
  · simp only [lt_I, le_I, eq_I, i_0, i_1, i_2, i_3, i_4, i_5, i_6, i_7, i_8, i_10, i_12, i_16, i_20, i_23, i_24, i_31, i_32, i_63, i_64, i_m1] at c_1
    refine lv_iconst (v := 0) hx hb dX9_isCell_14 (by decide) ?_
    exact W.zret (v := 0) (ty := .boolean) hx hb hr rfl (fun t ht hW => ⟨(by rw [bI_f (by omega)]), ht⟩) (fun q hq => nomatch hq) dX9_isCell_15
  · simp only [lt_I, le_I, eq_I, i_0, i_1, i_2, i_3, i_4, i_5, i_6, i_7, i_8, i_10, i_12, i_16, i_20, i_23, i_24, i_31, i_32, i_63, i_64, i_m1] at c_1
    refine lv_iload_n hx hb dX9_isCell_4 rfl (lv_at hl 0 rfl) ?_
    refine lv_bipush (v := 32) hx hb dX9_isCell_5 (by decide) ?_
    refine lv_icmp_ge (tgt := 14) hx hb dX9_isCell_7 (by decide) (fun c_2 => ?_) (fun c_2 => ?_)
    · simp only [lt_I, le_I, eq_I, i_0, i_1, i_2, i_3, i_4, i_5, i_6, i_7, i_8, i_10, i_12, i_16, i_20, i_23, i_24, i_31, i_32, i_63, i_64, i_m1] at c_2
      refine lv_iconst (v := 0) hx hb dX9_isCell_14 (by decide) ?_
      exact W.zret (v := 0) (ty := .boolean) hx hb hr rfl (fun t ht hW => ⟨(by rw [bI_f (by omega)]), ht⟩) (fun q hq => nomatch hq) dX9_isCell_15
    · simp only [lt_I, le_I, eq_I, i_0, i_1, i_2, i_3, i_4, i_5, i_6, i_7, i_8, i_10, i_12, i_16, i_20, i_23, i_24, i_31, i_32, i_63, i_64, i_m1] at c_2
      refine lv_iconst (v := 1) hx hb dX9_isCell_10 (by decide) ?_
      refine lv_goto (tgt := 15) hx hb dX9_isCell_11 (by decide) ?_
      exact W.zret (v := 1) (ty := .boolean) hx hb hr rfl (fun t ht hW => ⟨(by rw [bI_t (by omega)]), ht⟩) (fun q hq => nomatch hq) dX9_isCell_15
set_option maxHeartbeats 4000000 in
set_option maxRecDepth 100000 in
theorem c_X9_isPair (l : Launch) (p0 : Int32) : Met l yX9_isPair [Cond.code yX9_isPair cX9_isPair 1 (some .boolean)] ({ frames := 0, cells := 0, slots := 0, locals := 0 } : Room) (fun v _ => v = ([.int p0] : List Value).toArray) (QcRead (bI (0 ≤ p0.toInt ∧ p0.toInt < 4))) 0 0 (fun _ => False) := by
  refine Met.ofW (cc := cX9_isPair) (maxL := 1) (ret := (some .boolean)) (by decide) rfl ?_
  intro p e s m args below meth c s₁ B hml hv
  subst hv
  have hx := B.exec
  have hb := B.bytes
  have hr := B.returns
  have hlocks := B.notSynchronized
  have hl := lv_entry ([.int p0]) (n := 1) (Nat.le_of_ble_eq_true rfl)
  rw [lg_entry_eq]
  generalize (lg_sl ([.int p0]) ++ List.replicate (1 - (lg_sl ([.int p0])).length) Slot.unset).toArray = ls at hl ⊢
  have hl : lv_has ls 1 [(0, .int p0)] := hl
  refine lv_iload_n hx hb dX9_isPair_0 rfl (lv_at hl 0 rfl) ?_
  refine lv_if_lt (tgt := 13) hx hb dX9_isPair_1 (by decide) (fun c_1 => ?_) (fun c_1 => ?_)
  · simp only [lt_I, le_I, eq_I, i_0, i_1, i_2, i_3, i_4, i_5, i_6, i_7, i_8, i_10, i_12, i_16, i_20, i_23, i_24, i_31, i_32, i_63, i_64, i_m1] at c_1
    refine lv_iconst (v := 0) hx hb dX9_isPair_13 (by decide) ?_
    exact W.zret (v := 0) (ty := .boolean) hx hb hr rfl (fun t ht hW => ⟨(by rw [bI_f (by omega)]), ht⟩) (fun q hq => nomatch hq) dX9_isPair_14
  · simp only [lt_I, le_I, eq_I, i_0, i_1, i_2, i_3, i_4, i_5, i_6, i_7, i_8, i_10, i_12, i_16, i_20, i_23, i_24, i_31, i_32, i_63, i_64, i_m1] at c_1
    refine lv_iload_n hx hb dX9_isPair_4 rfl (lv_at hl 0 rfl) ?_
    refine lv_iconst (v := 4) hx hb dX9_isPair_5 (by decide) ?_
    refine lv_icmp_ge (tgt := 13) hx hb dX9_isPair_6 (by decide) (fun c_2 => ?_) (fun c_2 => ?_)
    · simp only [lt_I, le_I, eq_I, i_0, i_1, i_2, i_3, i_4, i_5, i_6, i_7, i_8, i_10, i_12, i_16, i_20, i_23, i_24, i_31, i_32, i_63, i_64, i_m1] at c_2
      refine lv_iconst (v := 0) hx hb dX9_isPair_13 (by decide) ?_
      exact W.zret (v := 0) (ty := .boolean) hx hb hr rfl (fun t ht hW => ⟨(by rw [bI_f (by omega)]), ht⟩) (fun q hq => nomatch hq) dX9_isPair_14
    · simp only [lt_I, le_I, eq_I, i_0, i_1, i_2, i_3, i_4, i_5, i_6, i_7, i_8, i_10, i_12, i_16, i_20, i_23, i_24, i_31, i_32, i_63, i_64, i_m1] at c_2
      refine lv_iconst (v := 1) hx hb dX9_isPair_9 (by decide) ?_
      refine lv_goto (tgt := 14) hx hb dX9_isPair_10 (by decide) ?_
      exact W.zret (v := 1) (ty := .boolean) hx hb hr rfl (fun t ht hW => ⟨(by rw [bI_t (by omega)]), ht⟩) (fun q hq => nomatch hq) dX9_isPair_14
set_option maxHeartbeats 4000000 in
set_option maxRecDepth 100000 in
theorem c_X9_isNumber (l : Launch) (p0 : Int32) : Met l yX9_isNumber [Cond.code yX9_isNumber cX9_isNumber 1 (some .boolean)] ({ frames := 0, cells := 0, slots := 0, locals := 0 } : Room) (fun v _ => v = ([.int p0] : List Value).toArray) (QcRead (bI (0 ≤ p0.toInt ∧ p0.toInt < 64))) 0 0 (fun _ => False) := by
  refine Met.ofW (cc := cX9_isNumber) (maxL := 1) (ret := (some .boolean)) (by decide) rfl ?_
  intro p e s m args below meth c s₁ B hml hv
  subst hv
  have hx := B.exec
  have hb := B.bytes
  have hr := B.returns
  have hlocks := B.notSynchronized
  have hl := lv_entry ([.int p0]) (n := 1) (Nat.le_of_ble_eq_true rfl)
  rw [lg_entry_eq]
  generalize (lg_sl ([.int p0]) ++ List.replicate (1 - (lg_sl ([.int p0])).length) Slot.unset).toArray = ls at hl ⊢
  have hl : lv_has ls 1 [(0, .int p0)] := hl
  refine lv_iload_n hx hb dX9_isNumber_0 rfl (lv_at hl 0 rfl) ?_
  refine lv_if_lt (tgt := 14) hx hb dX9_isNumber_1 (by decide) (fun c_1 => ?_) (fun c_1 => ?_)
  · simp only [lt_I, le_I, eq_I, i_0, i_1, i_2, i_3, i_4, i_5, i_6, i_7, i_8, i_10, i_12, i_16, i_20, i_23, i_24, i_31, i_32, i_63, i_64, i_m1] at c_1
    refine lv_iconst (v := 0) hx hb dX9_isNumber_14 (by decide) ?_
    exact W.zret (v := 0) (ty := .boolean) hx hb hr rfl (fun t ht hW => ⟨(by rw [bI_f (by omega)]), ht⟩) (fun q hq => nomatch hq) dX9_isNumber_15
  · simp only [lt_I, le_I, eq_I, i_0, i_1, i_2, i_3, i_4, i_5, i_6, i_7, i_8, i_10, i_12, i_16, i_20, i_23, i_24, i_31, i_32, i_63, i_64, i_m1] at c_1
    refine lv_iload_n hx hb dX9_isNumber_4 rfl (lv_at hl 0 rfl) ?_
    refine lv_bipush (v := 64) hx hb dX9_isNumber_5 (by decide) ?_
    refine lv_icmp_ge (tgt := 14) hx hb dX9_isNumber_7 (by decide) (fun c_2 => ?_) (fun c_2 => ?_)
    · simp only [lt_I, le_I, eq_I, i_0, i_1, i_2, i_3, i_4, i_5, i_6, i_7, i_8, i_10, i_12, i_16, i_20, i_23, i_24, i_31, i_32, i_63, i_64, i_m1] at c_2
      refine lv_iconst (v := 0) hx hb dX9_isNumber_14 (by decide) ?_
      exact W.zret (v := 0) (ty := .boolean) hx hb hr rfl (fun t ht hW => ⟨(by rw [bI_f (by omega)]), ht⟩) (fun q hq => nomatch hq) dX9_isNumber_15
    · simp only [lt_I, le_I, eq_I, i_0, i_1, i_2, i_3, i_4, i_5, i_6, i_7, i_8, i_10, i_12, i_16, i_20, i_23, i_24, i_31, i_32, i_63, i_64, i_m1] at c_2
      refine lv_iconst (v := 1) hx hb dX9_isNumber_10 (by decide) ?_
      refine lv_goto (tgt := 15) hx hb dX9_isNumber_11 (by decide) ?_
      exact W.zret (v := 1) (ty := .boolean) hx hb hr rfl (fun t ht hW => ⟨(by rw [bI_t (by omega)]), ht⟩) (fun q hq => nomatch hq) dX9_isNumber_15
set_option maxHeartbeats 4000000 in
set_option maxRecDepth 100000 in
theorem c_X9_areCells (l : Launch) (p0 p1 : Int32) : Met l yX9_areCells [Cond.code yX9_areCells cX9_areCells 2 (some .boolean)] ({ frames := 0, cells := 0, slots := 0, locals := 0 } : Room) (fun v _ => v = ([.int p0, .int p1] : List Value).toArray) (QcRead (bI (1 ≤ p1.toInt ∧ p1.toInt ≤ 12 ∧ 0 ≤ p0.toInt ∧ p0.toInt ≤ 32 - p1.toInt))) 0 0 (fun _ => False) := by
  refine Met.ofW (cc := cX9_areCells) (maxL := 2) (ret := (some .boolean)) (by decide) rfl ?_
  intro p e s m args below meth c s₁ B hml hv
  subst hv
  have hx := B.exec
  have hb := B.bytes
  have hr := B.returns
  have hlocks := B.notSynchronized
  have hl := lv_entry ([.int p0, .int p1]) (n := 2) (Nat.le_of_ble_eq_true rfl)
  rw [lg_entry_eq]
  generalize (lg_sl ([.int p0, .int p1]) ++ List.replicate (2 - (lg_sl ([.int p0, .int p1])).length) Slot.unset).toArray = ls at hl ⊢
  have hl : lv_has ls 2 [(0, .int p0), (1, .int p1)] := hl
  refine lv_iload_n hx hb dX9_areCells_0 rfl (lv_at hl 1 rfl) ?_
  refine lv_iconst (v := 1) hx hb dX9_areCells_1 (by decide) ?_
  refine lv_icmp_lt (tgt := 27) hx hb dX9_areCells_2 (by decide) (fun c_1 => ?_) (fun c_1 => ?_)
  · simp only [lt_I, le_I, eq_I, i_0, i_1, i_2, i_3, i_4, i_5, i_6, i_7, i_8, i_10, i_12, i_16, i_20, i_23, i_24, i_31, i_32, i_63, i_64, i_m1] at c_1
    refine lv_iconst (v := 0) hx hb dX9_areCells_27 (by decide) ?_
    exact W.zret (v := 0) (ty := .boolean) hx hb hr rfl (fun t ht hW => ⟨(by rw [bI_f (by first | omega | (have h32 := s_sub (x := 32) (y := p1) (by rw [i_32]; omega) (by rw [i_32]; omega); rw [i_32] at h32; omega))]), ht⟩) (fun q hq => nomatch hq) dX9_areCells_28
  · simp only [lt_I, le_I, eq_I, i_0, i_1, i_2, i_3, i_4, i_5, i_6, i_7, i_8, i_10, i_12, i_16, i_20, i_23, i_24, i_31, i_32, i_63, i_64, i_m1] at c_1
    refine lv_iload_n hx hb dX9_areCells_5 rfl (lv_at hl 1 rfl) ?_
    refine lv_bipush (v := 12) hx hb dX9_areCells_6 (by decide) ?_
    refine lv_icmp_gt (tgt := 27) hx hb dX9_areCells_8 (by decide) (fun c_2 => ?_) (fun c_2 => ?_)
    · simp only [lt_I, le_I, eq_I, i_0, i_1, i_2, i_3, i_4, i_5, i_6, i_7, i_8, i_10, i_12, i_16, i_20, i_23, i_24, i_31, i_32, i_63, i_64, i_m1] at c_2
      refine lv_iconst (v := 0) hx hb dX9_areCells_27 (by decide) ?_
      exact W.zret (v := 0) (ty := .boolean) hx hb hr rfl (fun t ht hW => ⟨(by rw [bI_f (by first | omega | (have h32 := s_sub (x := 32) (y := p1) (by rw [i_32]; omega) (by rw [i_32]; omega); rw [i_32] at h32; omega))]), ht⟩) (fun q hq => nomatch hq) dX9_areCells_28
    · simp only [lt_I, le_I, eq_I, i_0, i_1, i_2, i_3, i_4, i_5, i_6, i_7, i_8, i_10, i_12, i_16, i_20, i_23, i_24, i_31, i_32, i_63, i_64, i_m1] at c_2
      refine lv_iload_n hx hb dX9_areCells_11 rfl (lv_at hl 0 rfl) ?_
      refine lv_if_lt (tgt := 27) hx hb dX9_areCells_12 (by decide) (fun c_3 => ?_) (fun c_3 => ?_)
      · simp only [lt_I, le_I, eq_I, i_0, i_1, i_2, i_3, i_4, i_5, i_6, i_7, i_8, i_10, i_12, i_16, i_20, i_23, i_24, i_31, i_32, i_63, i_64, i_m1] at c_3
        refine lv_iconst (v := 0) hx hb dX9_areCells_27 (by decide) ?_
        exact W.zret (v := 0) (ty := .boolean) hx hb hr rfl (fun t ht hW => ⟨(by rw [bI_f (by first | omega | (have h32 := s_sub (x := 32) (y := p1) (by rw [i_32]; omega) (by rw [i_32]; omega); rw [i_32] at h32; omega))]), ht⟩) (fun q hq => nomatch hq) dX9_areCells_28
      · simp only [lt_I, le_I, eq_I, i_0, i_1, i_2, i_3, i_4, i_5, i_6, i_7, i_8, i_10, i_12, i_16, i_20, i_23, i_24, i_31, i_32, i_63, i_64, i_m1] at c_3
        refine lv_iload_n hx hb dX9_areCells_15 rfl (lv_at hl 0 rfl) ?_
        refine lv_bipush (v := 32) hx hb dX9_areCells_16 (by decide) ?_
        refine lv_iload_n hx hb dX9_areCells_18 rfl (lv_at hl 1 rfl) ?_
        refine lv_isub hx hb dX9_areCells_19 ?_
        refine lv_icmp_gt (tgt := 27) hx hb dX9_areCells_20 (by decide) (fun c_4 => ?_) (fun c_4 => ?_)
        · simp only [lt_I, le_I, eq_I, i_0, i_1, i_2, i_3, i_4, i_5, i_6, i_7, i_8, i_10, i_12, i_16, i_20, i_23, i_24, i_31, i_32, i_63, i_64, i_m1] at c_4
          refine lv_iconst (v := 0) hx hb dX9_areCells_27 (by decide) ?_
          exact W.zret (v := 0) (ty := .boolean) hx hb hr rfl (fun t ht hW => ⟨(by rw [bI_f (by first | omega | (have h32 := s_sub (x := 32) (y := p1) (by rw [i_32]; omega) (by rw [i_32]; omega); rw [i_32] at h32; omega))]), ht⟩) (fun q hq => nomatch hq) dX9_areCells_28
        · simp only [lt_I, le_I, eq_I, i_0, i_1, i_2, i_3, i_4, i_5, i_6, i_7, i_8, i_10, i_12, i_16, i_20, i_23, i_24, i_31, i_32, i_63, i_64, i_m1] at c_4
          refine lv_iconst (v := 1) hx hb dX9_areCells_23 (by decide) ?_
          refine lv_goto (tgt := 28) hx hb dX9_areCells_24 (by decide) ?_
          exact W.zret (v := 1) (ty := .boolean) hx hb hr rfl (fun t ht hW => ⟨(by rw [bI_t (by first | omega | (have h32 := s_sub (x := 32) (y := p1) (by rw [i_32]; omega) (by rw [i_32]; omega); rw [i_32] at h32; omega))]), ht⟩) (fun q hq => nomatch hq) dX9_areCells_28
set_option maxHeartbeats 4000000 in
set_option maxRecDepth 100000 in
theorem c_X9_peerOf (l : Launch) (p0 : Int32) : Met l yX9_peerOf [Cond.code yX9_peerOf cX9_peerOf 1 (some .int)] ({ frames := 0, cells := 0, slots := 0, locals := 0 } : Room) (fun v _ => v = ([.int p0] : List Value).toArray) (QcRead (p0 ^^^ 1)) 0 0 (fun _ => False) := by
  refine Met.ofW (cc := cX9_peerOf) (maxL := 1) (ret := (some .int)) (by decide) rfl ?_
  intro p e s m args below meth c s₁ B hml hv
  subst hv
  have hx := B.exec
  have hb := B.bytes
  have hr := B.returns
  have hlocks := B.notSynchronized
  have hl := lv_entry ([.int p0]) (n := 1) (Nat.le_of_ble_eq_true rfl)
  rw [lg_entry_eq]
  generalize (lg_sl ([.int p0]) ++ List.replicate (1 - (lg_sl ([.int p0])).length) Slot.unset).toArray = ls at hl ⊢
  have hl : lv_has ls 1 [(0, .int p0)] := hl
  refine lv_iload_n hx hb dX9_peerOf_0 rfl (lv_at hl 0 rfl) ?_
  refine lv_iconst (v := 1) hx hb dX9_peerOf_1 (by decide) ?_
  refine lv_ixor hx hb dX9_peerOf_2 ?_
  exact W.iret (v := (p0 ^^^ 1)) hx hb hr (fun t ht hW => ⟨rfl, ht⟩) (fun q hq => nomatch hq) dX9_peerOf_3
end
section
theorem tw_T : ∀ w ∈ Bundle.throwableAtoms.filter vx_no, w ∈ TS := by decide +kernel
theorem tw_U : ∀ w ∈ (Bundle.chain0Atoms "java/lang/RuntimeException" ["java/lang/Exception"]).filter vx_no, w ∈ TS := by decide +kernel
theorem tw_X {X : String} {ic : Nat} (h1 : ∀ w ∈ (Bundle.passAtoms X "java/lang/RuntimeException" 1 Bundle.five).filter vx_no, w ∈ TS) (h2 : ∀ w ∈ ((Bundle.ownAtoms0 RX9 ic X upn).drop (Bundle.throwableAtoms ++ Bundle.chain0Atoms X upn).length).filter vx_no, w ∈ TS) : ∀ w ∈ vx_at0 RX9 ic X upn, w ∈ TS := by
  intro w hw
  obtain ⟨h, hn⟩ := List.mem_filter.mp (show w ∈ (Bundle.ownAtoms0 RX9 ic X upn).filter vx_no from hw)
  rcases List.mem_append.mp (show w ∈ (Bundle.throwableAtoms ++ Bundle.chain0Atoms X upn) ++ _ from h) with h | h
  · rcases List.mem_append.mp h with h | h
    · exact tw_T w (List.mem_filter.mpr ⟨h, hn⟩)
    · rcases List.mem_append.mp (show w ∈ Bundle.passAtoms X "java/lang/RuntimeException" 1 Bundle.five ++ Bundle.chain0Atoms "java/lang/RuntimeException" ["java/lang/Exception"] from h) with h | h
      · exact h1 w (List.mem_filter.mpr ⟨h, hn⟩)
      · exact tw_U w (List.mem_filter.mpr ⟨h, hn⟩)
  · refine h2 w (List.mem_filter.mpr ⟨?_, hn⟩)
    rw [show Bundle.ownAtoms0 RX9 ic X upn = (Bundle.throwableAtoms ++ Bundle.chain0Atoms X upn) ++ _ from rfl, List.drop_left]
    exact h
theorem tw_IAE : ∀ w ∈ vx_at0 RX9 190 IAE upn, w ∈ TS := tw_X (by decide +kernel) (by decide +kernel)
theorem tw_ISE : ∀ w ∈ vx_at0 RX9 193 ISE upn, w ∈ TS := tw_X (by decide +kernel) (by decide +kernel)
theorem tw_NSE : ∀ w ∈ vx_at0 RX9 181 NSE upn, w ∈ TS := tw_X (by decide +kernel) (by decide +kernel)
theorem tg_IAE : ∀ w ∈ Cond.classLink RX9 188 IAE :: Cond.initialized IAE :: vx_at0 RX9 190 IAE upn, vx_ot w = true := by decide +kernel
theorem tg_ISE : ∀ w ∈ Cond.classLink RX9 191 ISE :: Cond.initialized ISE :: vx_at0 RX9 193 ISE upn, vx_ot w = true := by decide +kernel
theorem tg_NSE : ∀ w ∈ Cond.classLink RX9 179 NSE :: Cond.initialized NSE :: vx_at0 RX9 181 NSE upn, vx_ot w = true := by decide +kernel
end
section
theorem dX9_require_0 : decode cX9_require 0 = .ok (.iload_n 0, 1) := by decide +kernel
theorem dX9_require_1 : decode cX9_require 1 = .ok (.ifCond .ne 11, 3) := by decide +kernel
theorem dX9_require_4 : decode cX9_require 4 = .ok (.new 188, 3) := by decide +kernel
theorem dX9_require_7 : decode cX9_require 7 = .ok (.dup, 1) := by decide +kernel
theorem dX9_require_8 : decode cX9_require 8 = .ok (.invokespecial 190, 3) := by decide +kernel
theorem dX9_require_11 : decode cX9_require 11 = .ok (.athrow, 1) := by decide +kernel
theorem dX9_require_12 : decode cX9_require 12 = .ok (.return_, 1) := by decide +kernel
theorem dX9_requireState_0 : decode cX9_requireState 0 = .ok (.iload_n 0, 1) := by decide +kernel
theorem dX9_requireState_1 : decode cX9_requireState 1 = .ok (.ifCond .ne 11, 3) := by decide +kernel
theorem dX9_requireState_4 : decode cX9_requireState 4 = .ok (.new 191, 3) := by decide +kernel
theorem dX9_requireState_7 : decode cX9_requireState 7 = .ok (.dup, 1) := by decide +kernel
theorem dX9_requireState_8 : decode cX9_requireState 8 = .ok (.invokespecial 193, 3) := by decide +kernel
theorem dX9_requireState_11 : decode cX9_requireState 11 = .ok (.athrow, 1) := by decide +kernel
theorem dX9_requireState_12 : decode cX9_requireState 12 = .ok (.return_, 1) := by decide +kernel
set_option maxHeartbeats 4000000 in
set_option maxRecDepth 100000 in
theorem c_X9_require (l : Launch) (hst : l.stackTraces = false) (E : EE) (z0 : Nat) (p0 : Int32) : vx_Met l yX9_require [Cond.code yX9_require cX9_require 1 none] ({ frames := 6, cells := 1, slots := 6, locals := 81 } : Room) (va_Pc [.int p0] (fun U => True ∧ KS E z0 U)) (va_Qv (fun (_ : Unit) => ¬ p0 = 0) (fun _ _ => True) (fun _ : Nat => False)) (vx_X (fun (_ : Unit) => p0 = 0) (fun En _ _ => En = IAE) (fun _ : Nat => False)) 1 6 (fun _ : Nat => False) := by
  refine vx_ofW (cc := cX9_require) (maxL := 1) (ret := none) (by decide) rfl ?_
  intro p e s m args below meth c s₁ B hml hne hv
  obtain ⟨rfl, -, hK⟩ := hv
  have hx := B.exec
  have hb := B.bytes
  have hr := B.returns
  have hts : ∀ w ∈ TS, w.before ([.int p0] : List Value).toArray s = true := fun w hw => hK.2.1 w hw _
  have hown : s.vm.findClass RX9 = some m.cls := findClass_of_methodNamed B.named
  have hlocks := B.notSynchronized
  have hS : va_S (fun _ : Nat => False) s.heap s.heap [] := va_S.rf
  have hl := lv_entry ([.int p0]) (n := 1) (Nat.le_of_ble_eq_true rfl)
  rw [lg_entry_eq]
  generalize (lg_sl ([.int p0]) ++ List.replicate (1 - (lg_sl ([.int p0])).length) Slot.unset).toArray = ls at hl ⊢
  have hl : lv_has ls 1 [(0, .int p0)] := hl
  refine lv_iload_n hx hb dX9_require_0 rfl (lv_at hl 0 rfl) ?_
  refine lv_if_ne (tgt := 12) hx hb dX9_require_1 (by decide) (fun c1 => ?_) (fun c1 => ?_)
  · refine vx_ret ?_
    refine W.widen (k := 1) (n := 6) (by decide) (by decide) ?_
    exact W.vret hx hb hr (fun t ht hW => ⟨⟨(), rfl, c1, trivial⟩, hS.F ht⟩) hS.2.2 dX9_require_12
  · exact vx_throw0 (A := AZ z0) hx hb hst (own := RX9) (cls := IAE) (names := upn) (ik := 188) (ic := 190) hown (by decide +kernel) (by decide +kernel) (hts _ cl_X9_188) (hts _ in_IllegalArgumentException) (fun w hw => hts w (tw_IAE w hw)) tg_IAE hK.2.2.1 hK.2.2.2 va_S.rf (by rw [hml]; exact hl.1) dX9_require_4 dX9_require_7 dX9_require_8 dX9_require_11 (fun x hx => (hne x hx).elim) (by decide) (by decide) (by decide) (by decide) hlocks (fun t hA hz hk => ⟨(), c1, rfl, ⟨hz, fun q hq _ => hk q hq⟩⟩) (fun z hz => nomatch hz) (by decide) (by decide)
set_option maxHeartbeats 4000000 in
set_option maxRecDepth 100000 in
theorem c_X9_requireState (l : Launch) (hst : l.stackTraces = false) (E : EE) (z0 : Nat) (p0 : Int32) : vx_Met l yX9_requireState [Cond.code yX9_requireState cX9_requireState 1 none] ({ frames := 6, cells := 1, slots := 6, locals := 81 } : Room) (va_Pc [.int p0] (fun U => True ∧ KS E z0 U)) (va_Qv (fun (_ : Unit) => ¬ p0 = 0) (fun _ _ => True) (fun _ : Nat => False)) (vx_X (fun (_ : Unit) => p0 = 0) (fun En _ _ => En = ISE) (fun _ : Nat => False)) 1 6 (fun _ : Nat => False) := by
  refine vx_ofW (cc := cX9_requireState) (maxL := 1) (ret := none) (by decide) rfl ?_
  intro p e s m args below meth c s₁ B hml hne hv
  obtain ⟨rfl, -, hK⟩ := hv
  have hx := B.exec
  have hb := B.bytes
  have hr := B.returns
  have hts : ∀ w ∈ TS, w.before ([.int p0] : List Value).toArray s = true := fun w hw => hK.2.1 w hw _
  have hown : s.vm.findClass RX9 = some m.cls := findClass_of_methodNamed B.named
  have hlocks := B.notSynchronized
  have hS : va_S (fun _ : Nat => False) s.heap s.heap [] := va_S.rf
  have hl := lv_entry ([.int p0]) (n := 1) (Nat.le_of_ble_eq_true rfl)
  rw [lg_entry_eq]
  generalize (lg_sl ([.int p0]) ++ List.replicate (1 - (lg_sl ([.int p0])).length) Slot.unset).toArray = ls at hl ⊢
  have hl : lv_has ls 1 [(0, .int p0)] := hl
  refine lv_iload_n hx hb dX9_requireState_0 rfl (lv_at hl 0 rfl) ?_
  refine lv_if_ne (tgt := 12) hx hb dX9_requireState_1 (by decide) (fun c1 => ?_) (fun c1 => ?_)
  · refine vx_ret ?_
    refine W.widen (k := 1) (n := 6) (by decide) (by decide) ?_
    exact W.vret hx hb hr (fun t ht hW => ⟨⟨(), rfl, c1, trivial⟩, hS.F ht⟩) hS.2.2 dX9_requireState_12
  · exact vx_throw0 (A := AZ z0) hx hb hst (own := RX9) (cls := ISE) (names := upn) (ik := 191) (ic := 193) hown (by decide +kernel) (by decide +kernel) (hts _ cl_X9_191) (hts _ in_IllegalStateException) (fun w hw => hts w (tw_ISE w hw)) tg_ISE hK.2.2.1 hK.2.2.2 va_S.rf (by rw [hml]; exact hl.1) dX9_requireState_4 dX9_requireState_7 dX9_requireState_8 dX9_requireState_11 (fun x hx => (hne x hx).elim) (by decide) (by decide) (by decide) (by decide) hlocks (fun t hA hz hk => ⟨(), c1, rfl, ⟨hz, fun q hq _ => hk q hq⟩⟩) (fun z hz => nomatch hz) (by decide) (by decide)
end

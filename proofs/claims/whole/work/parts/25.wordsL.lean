/-! THE CLAIM OUT OF ONE WALK OF THE LAW'S BODY. Your part is whole_start (and what it stands on); all else here is the same for every law, but numbers. -/
def R_law : String := "ModeKeeperLaw"
def lw_P (b : Addr) (xs : List Int32) (args : Array Value) (s : State) : Prop := args = #[.ref b] ∧ s.IntsAt b xs ∧ xs.length ≤ 1536 ∧ (Jvm.Cond.and given_1 narrow_1).before args s = true
def lw_Q (_ : Array Value) (s : State) (o : Outcome) (t : State) : Prop := o = .returned (some (.int 1)) ∧ Framed s o t [] 600000 7302250
def lw_Z (below : List Frame) (a : Array Value) (s : State) : State → Prop := fun t => ∃ o, t.status = .running ∧ Ended t below o ∧ lw_Q a s o t
/-- the law's own end, with 1 on the stack, nothing written that was there before, its room as the claim has it -/
theorem lw_ret {p : Program} {l : Launch} {e : Env} {s : State} {m : MethodId} {below : List Frame} {meth : Method} {c : Code} {b : Nat} (hx : p.tables.exec = Jvm.exec) (hb : c.code = code) (hr : meth.sig.returnType = ret) (hlocks : meth.locks = false) {pc : Nat} {H : Heap} {ls : Array Slot} (hdg : decode code pc = .ok (.ireturn, 1)) : W p l e room_1 s m #[Value.ref b] below meth c H [] 600000 7302250 (lw_Z below #[Value.ref b] s) (F0 m pc ls [.int 1]) := by
  intro T hT X
  obtain ⟨fs, hret, hrun, hended, hW, hframe⟩ := X.leave (v := some (.int 1)) (hlocks := hlocks) (fun h => by rw [hr] at h; cases h)
  have hmeth' : T.vm.method? m = some meth := X.method'
  refine ⟨T.setFrames fs, ?_, .returned (some (.int 1)), hrun, hended, rfl, ⟨_, rfl⟩, hW, hframe⟩
  jvm_step X.here [X.here.top, hx, hb, hdg, hmeth', hr, ret, narrow_b1]
  (try refine ⟨rfl, ?_⟩); (try refine ⟨rfl, ?_⟩)
  first | (intro acts; rw [hret _ acts rfl rfl rfl]) | rw [hret _ _ rfl rfl rfl]
  exact Steps.refl _
/-- what holds at the law's entry: the machine, the code, the tables' words (any of lw_tbl by 'hts w (by decide +kernel)'), the script of L ints xs at the cell b, what the Statement gives of the start (any of its parts by flat_of_before) -/
def lw_At (p : Program) (s : State) (m : MethodId) (meth : Method) (c : Code) (b L : Nat) (xs : Nat → Int32) : Prop :=
  p.tables.exec = Jvm.exec ∧ c.code = code ∧ meth.sig.returnType = ret ∧ c.maxLocals = 4 ∧ s.vm.findClass R_law = some m.cls ∧ (∀ w ∈ lw_tbl, w.before #[Value.ref b] s = true) ∧ va_X b L xs s s.heap ∧ b < s.heap.size ∧ meth.locks = false ∧ (Jvm.Cond.and given_1 narrow_1).before #[Value.ref b] s = true

theorem ql_0 : Cond.methodLink R_law 13 y_ModeKeeper_move ∈ wAll := wAll_of 81 rfl rfl
theorem ql_1 : Cond.instanceMethod y_ModeKeeper_move ∈ wAll := wAll_of 82 rfl rfl
theorem ql_2 : Cond.selects R_ModeKeeper y_ModeKeeper_move y_ModeKeeper_move ∈ wAll := wAll_of 83 rfl rfl
theorem ql_3 : Cond.methodLink R_law 17 y_Model_move ∈ wAll := wAll_of 200 rfl rfl
theorem ql_4 : Cond.instanceMethod y_Model_move ∈ wAll := wAll_of 201 rfl rfl
theorem ql_5 : Cond.selects R_Model y_Model_move y_Model_move ∈ wAll := wAll_of 202 rfl rfl
theorem ql_6 : Cond.methodLink R_law 18 y_ModeKeeper_enter ∈ wAll := wAll_of 88 rfl rfl
theorem ql_7 : Cond.instanceMethod y_ModeKeeper_enter ∈ wAll := wAll_of 89 rfl rfl
theorem ql_8 : Cond.selects R_ModeKeeper y_ModeKeeper_enter y_ModeKeeper_enter ∈ wAll := wAll_of 90 rfl rfl
theorem ql_9 : Cond.methodLink R_law 22 y_Model_enter ∈ wAll := wAll_of 204 rfl rfl
theorem ql_10 : Cond.instanceMethod y_Model_enter ∈ wAll := wAll_of 205 rfl rfl
theorem ql_11 : Cond.selects R_Model y_Model_enter y_Model_enter ∈ wAll := wAll_of 206 rfl rfl
theorem ql_12 : Cond.methodLink R_law 23 y_ModeKeeper_alarm ∈ wAll := wAll_of 101 rfl rfl
theorem ql_13 : Cond.instanceMethod y_ModeKeeper_alarm ∈ wAll := wAll_of 102 rfl rfl
theorem ql_14 : Cond.selects R_ModeKeeper y_ModeKeeper_alarm y_ModeKeeper_alarm ∈ wAll := wAll_of 103 rfl rfl
theorem ql_15 : Cond.methodLink R_law 27 y_Model_alarm ∈ wAll := wAll_of 212 rfl rfl
theorem ql_16 : Cond.instanceMethod y_Model_alarm ∈ wAll := wAll_of 213 rfl rfl
theorem ql_17 : Cond.selects R_Model y_Model_alarm y_Model_alarm ∈ wAll := wAll_of 214 rfl rfl
theorem ql_18 : Cond.methodLink R_law 28 y_ModeKeeper_look ∈ wAll := wAll_of 105 rfl rfl
theorem ql_19 : Cond.instanceMethod y_ModeKeeper_look ∈ wAll := wAll_of 106 rfl rfl
theorem ql_20 : Cond.selects R_ModeKeeper y_ModeKeeper_look y_ModeKeeper_look ∈ wAll := wAll_of 107 rfl rfl
theorem ql_21 : Cond.methodLink R_law 31 y_Model_look ∈ wAll := wAll_of 216 rfl rfl
theorem ql_22 : Cond.instanceMethod y_Model_look ∈ wAll := wAll_of 217 rfl rfl
theorem ql_23 : Cond.selects R_Model y_Model_look y_Model_look ∈ wAll := wAll_of 218 rfl rfl
theorem ql_24 : Cond.methodLink R_law 32 y_ModeKeeper_put ∈ wAll := wAll_of 109 rfl rfl
theorem ql_25 : Cond.instanceMethod y_ModeKeeper_put ∈ wAll := wAll_of 110 rfl rfl
theorem ql_26 : Cond.selects R_ModeKeeper y_ModeKeeper_put y_ModeKeeper_put ∈ wAll := wAll_of 111 rfl rfl
theorem ql_27 : Cond.methodLink R_law 35 y_Model_put ∈ wAll := wAll_of 220 rfl rfl
theorem ql_28 : Cond.instanceMethod y_Model_put ∈ wAll := wAll_of 221 rfl rfl
theorem ql_29 : Cond.selects R_Model y_Model_put y_Model_put ∈ wAll := wAll_of 222 rfl rfl
theorem ql_30 : Cond.methodLink R_law 36 y_ModeKeeper_form ∈ wAll := wAll_of 113 rfl rfl
theorem ql_31 : Cond.instanceMethod y_ModeKeeper_form ∈ wAll := wAll_of 114 rfl rfl
theorem ql_32 : Cond.selects R_ModeKeeper y_ModeKeeper_form y_ModeKeeper_form ∈ wAll := wAll_of 115 rfl rfl
theorem ql_33 : Cond.methodLink R_law 39 y_Model_form ∈ wAll := wAll_of 224 rfl rfl
theorem ql_34 : Cond.instanceMethod y_Model_form ∈ wAll := wAll_of 225 rfl rfl
theorem ql_35 : Cond.selects R_Model y_Model_form y_Model_form ∈ wAll := wAll_of 226 rfl rfl
theorem ql_36 : Cond.methodLink R_law 40 y_ModeKeeper_remove ∈ wAll := wAll_of 129 rfl rfl
theorem ql_37 : Cond.instanceMethod y_ModeKeeper_remove ∈ wAll := wAll_of 130 rfl rfl
theorem ql_38 : Cond.selects R_ModeKeeper y_ModeKeeper_remove y_ModeKeeper_remove ∈ wAll := wAll_of 131 rfl rfl
theorem ql_39 : Cond.methodLink R_law 43 y_Model_remove ∈ wAll := wAll_of 232 rfl rfl
theorem ql_40 : Cond.instanceMethod y_Model_remove ∈ wAll := wAll_of 233 rfl rfl
theorem ql_41 : Cond.selects R_Model y_Model_remove y_Model_remove ∈ wAll := wAll_of 234 rfl rfl
theorem ql_42 : Cond.methodLink R_law 44 y_ModeKeeper_enable ∈ wAll := wAll_of 133 rfl rfl
theorem ql_43 : Cond.instanceMethod y_ModeKeeper_enable ∈ wAll := wAll_of 134 rfl rfl
theorem ql_44 : Cond.selects R_ModeKeeper y_ModeKeeper_enable y_ModeKeeper_enable ∈ wAll := wAll_of 135 rfl rfl
theorem ql_45 : Cond.methodLink R_law 48 y_Model_enable ∈ wAll := wAll_of 240 rfl rfl
theorem ql_46 : Cond.instanceMethod y_Model_enable ∈ wAll := wAll_of 241 rfl rfl
theorem ql_47 : Cond.selects R_Model y_Model_enable y_Model_enable ∈ wAll := wAll_of 242 rfl rfl
theorem ql_48 : Cond.methodLink R_law 49 y_ModeKeeper_due ∈ wAll := wAll_of 137 rfl rfl
theorem ql_49 : Cond.instanceMethod y_ModeKeeper_due ∈ wAll := wAll_of 138 rfl rfl
theorem ql_50 : Cond.selects R_ModeKeeper y_ModeKeeper_due y_ModeKeeper_due ∈ wAll := wAll_of 139 rfl rfl
theorem ql_51 : Cond.methodLink R_law 52 y_Model_due ∈ wAll := wAll_of 244 rfl rfl
theorem ql_52 : Cond.instanceMethod y_Model_due ∈ wAll := wAll_of 245 rfl rfl
theorem ql_53 : Cond.selects R_Model y_Model_due y_Model_due ∈ wAll := wAll_of 246 rfl rfl
theorem ql_54 : Cond.methodLink R_law 53 y_ModeKeeper_parameter ∈ wAll := wAll_of 144 rfl rfl
theorem ql_55 : Cond.instanceMethod y_ModeKeeper_parameter ∈ wAll := wAll_of 145 rfl rfl
theorem ql_56 : Cond.selects R_ModeKeeper y_ModeKeeper_parameter y_ModeKeeper_parameter ∈ wAll := wAll_of 146 rfl rfl
theorem ql_57 : Cond.methodLink R_law 56 y_Model_parameter ∈ wAll := wAll_of 248 rfl rfl
theorem ql_58 : Cond.instanceMethod y_Model_parameter ∈ wAll := wAll_of 249 rfl rfl
theorem ql_59 : Cond.selects R_Model y_Model_parameter y_Model_parameter ∈ wAll := wAll_of 250 rfl rfl
theorem ql_60 : Cond.methodLink R_law 57 y_ModeKeeper_value ∈ wAll := wAll_of 148 rfl rfl
theorem ql_61 : Cond.instanceMethod y_ModeKeeper_value ∈ wAll := wAll_of 149 rfl rfl
theorem ql_62 : Cond.selects R_ModeKeeper y_ModeKeeper_value y_ModeKeeper_value ∈ wAll := wAll_of 150 rfl rfl
theorem ql_63 : Cond.methodLink R_law 60 y_Model_value ∈ wAll := wAll_of 252 rfl rfl
theorem ql_64 : Cond.instanceMethod y_Model_value ∈ wAll := wAll_of 253 rfl rfl
theorem ql_65 : Cond.selects R_Model y_Model_value y_Model_value ∈ wAll := wAll_of 254 rfl rfl
theorem ql_66 : Cond.methodLink R_law 61 y_ModeKeeper_about ∈ wAll := wAll_of 152 rfl rfl
theorem ql_67 : Cond.instanceMethod y_ModeKeeper_about ∈ wAll := wAll_of 153 rfl rfl
theorem ql_68 : Cond.selects R_ModeKeeper y_ModeKeeper_about y_ModeKeeper_about ∈ wAll := wAll_of 154 rfl rfl
theorem ql_69 : Cond.methodLink R_law 64 y_Model_about ∈ wAll := wAll_of 256 rfl rfl
theorem ql_70 : Cond.instanceMethod y_Model_about ∈ wAll := wAll_of 257 rfl rfl
theorem ql_71 : Cond.selects R_Model y_Model_about y_Model_about ∈ wAll := wAll_of 258 rfl rfl
theorem ql_72 : Cond.instantiable R_ModeKeeper 9 ∈ wAll := wAll_of 13 rfl rfl
theorem ql_73 : Cond.instantiable R_Model 12 ∈ wAll := wAll_of 157 rfl rfl
theorem ql_74 : Cond.classLink R_law 7 R_ModeKeeper ∈ wAll := wAll_of 12 rfl rfl
theorem ql_75 : Cond.methodLink R_law 9 y_ModeKeeper_init ∈ wAll := wAll_of 14 rfl rfl
theorem ql_76 : Cond.instanceMethod y_ModeKeeper_init ∈ wAll := wAll_of 15 rfl rfl
theorem ql_77 : Cond.classLink R_law 10 R_Model ∈ wAll := wAll_of 156 rfl rfl
theorem ql_78 : Cond.methodLink R_law 12 y_Model_init ∈ wAll := wAll_of 158 rfl rfl
theorem ql_79 : Cond.instanceMethod y_Model_init ∈ wAll := wAll_of 159 rfl rfl

/-- a private method of a class that the tables say can be made, by its rows of tables_1 -/
def lw_okq (q : MethodName × Nat) : Prop := (q.1.cls ≠ "java/lang/invoke/MethodHandle" ∧ q.1.cls ≠ "java/lang/invoke/VarHandle") ∧ Cond.instantiable q.1.cls q.2 ∈ tables_1 ∧ Cond.privateMethod q.1 ∈ tables_1 ∧ Cond.instanceMethod q.1 ∈ tables_1
theorem lw_p0 : lw_okq (⟨"ModeKeeper", "changeMode", "(I)Z"⟩, 9) := ⟨⟨by decide +kernel, by decide +kernel⟩, List.mem_of_getElem? (i := 6) (by decide +kernel), List.mem_of_getElem? (i := 86) (by decide +kernel), List.mem_of_getElem? (i := 87) (by decide +kernel)⟩
theorem lw_p1 : lw_okq (⟨"ModeKeeper", "failureOfNewForm", "(II)I"⟩, 9) := ⟨⟨by decide +kernel, by decide +kernel⟩, List.mem_of_getElem? (i := 6) (by decide +kernel), List.mem_of_getElem? (i := 111) (by decide +kernel), List.mem_of_getElem? (i := 112) (by decide +kernel)⟩
theorem lw_p2 : lw_okq (⟨"ModeKeeper", "find", "(I)LModeKeeper$Form;"⟩, 9) := ⟨⟨by decide +kernel, by decide +kernel⟩, List.mem_of_getElem? (i := 6) (by decide +kernel), List.mem_of_getElem? (i := 115) (by decide +kernel), List.mem_of_getElem? (i := 116) (by decide +kernel)⟩
theorem lw_p3 : lw_okq (⟨"ModeKeeper", "fillEmptyPlace", "(II)V"⟩, 9) := ⟨⟨by decide +kernel, by decide +kernel⟩, List.mem_of_getElem? (i := 6) (by decide +kernel), List.mem_of_getElem? (i := 119) (by decide +kernel), List.mem_of_getElem? (i := 120) (by decide +kernel)⟩
theorem lw_p4 : lw_okq (⟨"ModeKeeperModel", "becomes", "(I)Z"⟩, 12) := ⟨⟨by decide +kernel, by decide +kernel⟩, List.mem_of_getElem? (i := 150) (by decide +kernel), List.mem_of_getElem? (i := 202) (by decide +kernel), List.mem_of_getElem? (i := 203) (by decide +kernel)⟩
theorem lw_p5 : lw_okq (⟨"ModeKeeperModel", "forms", "()I"⟩, 12) := ⟨⟨by decide +kernel, by decide +kernel⟩, List.mem_of_getElem? (i := 150) (by decide +kernel), List.mem_of_getElem? (i := 222) (by decide +kernel), List.mem_of_getElem? (i := 223) (by decide +kernel)⟩
theorem lw_p6 : lw_okq (⟨"ModeKeeperModel", "isThere", "(I)Z"⟩, 12) := ⟨⟨by decide +kernel, by decide +kernel⟩, List.mem_of_getElem? (i := 150) (by decide +kernel), List.mem_of_getElem? (i := 230) (by decide +kernel), List.mem_of_getElem? (i := 231) (by decide +kernel)⟩
def lw_privs_1 : List (MethodName × Nat) := [(⟨"ModeKeeper", "changeMode", "(I)Z"⟩, 9), (⟨"ModeKeeper", "failureOfNewForm", "(II)I"⟩, 9), (⟨"ModeKeeper", "find", "(I)LModeKeeper$Form;"⟩, 9), (⟨"ModeKeeper", "fillEmptyPlace", "(II)V"⟩, 9), (⟨"ModeKeeperModel", "becomes", "(I)Z"⟩, 12), (⟨"ModeKeeperModel", "forms", "()I"⟩, 12), (⟨"ModeKeeperModel", "isThere", "(I)Z"⟩, 12)]
theorem lw_r1 : ∀ q ∈ lw_privs_1, lw_okq q := List.forall_mem_cons.mpr ⟨lw_p0, List.forall_mem_cons.mpr ⟨lw_p1, List.forall_mem_cons.mpr ⟨lw_p2, List.forall_mem_cons.mpr ⟨lw_p3, List.forall_mem_cons.mpr ⟨lw_p4, List.forall_mem_cons.mpr ⟨lw_p5, List.forall_mem_cons.mpr ⟨lw_p6, fun _ h => absurd h List.not_mem_nil⟩⟩⟩⟩⟩⟩⟩
def lw_privs : List (MethodName × Nat) := lw_privs_1
def lw_tbl : List Cond := k2_sels lw_privs ++ tables_1
theorem lw_privs_ok : ∀ q ∈ lw_privs, lw_okq q := lw_r1

def wAll : List Cond := lw_tbl.filter goodWord
theorem wAll_of {w : Cond} (i : Nat) (h : lw_tbl[i]? = some w) (hg : goodWord w = true) : w ∈ wAll := List.mem_filter.mpr ⟨List.mem_of_getElem? h, hg⟩
theorem gd_all : ∀ w ∈ wAll, ((w.onTables && w.keeps) = true ∨ ∃ ty, w = Cond.arrayClass ty) := fun w h => good_of_word (List.mem_filter.mp h).2
theorem gd {b : Cond} (hb : b ∈ wAll) : GoodIn wAll (b :: wAll) := by
  intro w hw
  rcases List.mem_cons.mp hw with rfl | hw
  · exact ⟨hb, gd_all _ hb⟩
  · exact ⟨hw, gd_all w hw⟩
def R_Form : String := "ModeKeeper$Form"
def F_Form : u_T := fun k => match k with
  | 0 => ("ModeKeeper$Form", "there", "Z", false)
  | 1 => ("ModeKeeper$Form", "id", "I", false)
  | 2 => ("ModeKeeper$Form", "every", "I", false)
  | 3 => ("ModeKeeper$Form", "on", "Z", false)
  | 4 => ("ModeKeeper$Form", "count", "I", false)
  | _ => ("ModeKeeper$Form", "parameters", "[I", true)
def t_Form : Nat → FieldType := fun k => match k with
  | 0 => .boolean
  | 1 => .int
  | 2 => .int
  | 3 => .boolean
  | 4 => .int
  | _ => .array .int
theorem n_Form : ∀ a, a < 6 → ∀ b, b < 6 → a ≠ b → (F_Form a).2.1 ≠ (F_Form b).2.1 := by decide +kernel
theorem t_Form_ok : ∀ k, k < 6 → parseFieldDescriptor (F_Form k).2.2.1 = some (t_Form k) := by decide +kernel
theorem iw_F : ∀ w ∈ u_ws R_Form F_Form 6, w ∈ wAll := by decide +kernel
def R_ModeKeeper : String := "ModeKeeper"
def F_ModeKeeper : u_T := fun k => match k with
  | 0 => ("ModeKeeper", "actuators", "[I", true)
  | 1 => ("ModeKeeper", "mode", "I", false)
  | 2 => ("ModeKeeper", "changes", "I", false)
  | 3 => ("ModeKeeper", "alarmIsSet", "Z", false)
  | 4 => ("ModeKeeper", "alarmTick", "I", false)
  | 5 => ("ModeKeeper", "text", "[I", true)
  | 6 => ("ModeKeeper", "textCount", "I", false)
  | 7 => ("ModeKeeper", "forms", "[LModeKeeper$Form;", true)
  | _ => ("ModeKeeper", "formCount", "I", false)
def t_ModeKeeper : Nat → FieldType := fun k => match k with
  | 0 => .array .int
  | 1 => .int
  | 2 => .int
  | 3 => .boolean
  | 4 => .int
  | 5 => .array .int
  | 6 => .int
  | 7 => .array (.object "ModeKeeper$Form")
  | _ => .int
theorem n_ModeKeeper : ∀ a, a < 9 → ∀ b, b < 9 → a ≠ b → (F_ModeKeeper a).2.1 ≠ (F_ModeKeeper b).2.1 := by decide +kernel
theorem t_ModeKeeper_ok : ∀ k, k < 9 → parseFieldDescriptor (F_ModeKeeper k).2.2.1 = some (t_ModeKeeper k) := by decide +kernel
theorem iw_K : ∀ w ∈ u_ws R_ModeKeeper F_ModeKeeper 9, w ∈ wAll := by decide +kernel
def R_Model : String := "ModeKeeperModel"
def F_Model : u_T := fun k => match k with
  | 0 => ("ModeKeeperModel", "thrown", "I", false)
  | 1 => ("ModeKeeperModel", "mode", "I", false)
  | 2 => ("ModeKeeperModel", "actuators", "[I", true)
  | 3 => ("ModeKeeperModel", "alarmed", "Z", false)
  | 4 => ("ModeKeeperModel", "alarmTick", "I", false)
  | 5 => ("ModeKeeperModel", "changes", "I", false)
  | 6 => ("ModeKeeperModel", "size", "I", false)
  | 7 => ("ModeKeeperModel", "text", "[I", true)
  | 8 => ("ModeKeeperModel", "every", "[I", true)
  | 9 => ("ModeKeeperModel", "on", "[Z", true)
  | 10 => ("ModeKeeperModel", "many", "[I", true)
  | _ => ("ModeKeeperModel", "parameters", "[I", true)
def t_Model : Nat → FieldType := fun k => match k with
  | 0 => .int
  | 1 => .int
  | 2 => .array .int
  | 3 => .boolean
  | 4 => .int
  | 5 => .int
  | 6 => .int
  | 7 => .array .int
  | 8 => .array .int
  | 9 => .array .boolean
  | 10 => .array .int
  | _ => .array .int
theorem n_Model : ∀ a, a < 12 → ∀ b, b < 12 → a ≠ b → (F_Model a).2.1 ≠ (F_Model b).2.1 := by decide +kernel
theorem t_Model_ok : ∀ k, k < 12 → parseFieldDescriptor (F_Model k).2.2.1 = some (t_Model k) := by decide +kernel
theorem iw_M : ∀ w ∈ u_ws R_Model F_Model 12, w ∈ wAll := by decide +kernel
abbrev classes : List vw_C := [(R_ModeKeeper, F_ModeKeeper, 9), (R_Form, F_Form, 6), (R_Model, F_Model, 12)]
abbrev b_ModeKeeper_init : ByteArray := prog_1_method_1_code
def y_ModeKeeper_init : MethodName := ⟨R_ModeKeeper, "<init>", "()V"⟩
def w_ModeKeeper_init : List Cond := .code y_ModeKeeper_init b_ModeKeeper_init 2 none :: wAll
theorem m_ModeKeeper_init : Cond.code y_ModeKeeper_init b_ModeKeeper_init 2 none ∈ wAll := wAll_of 16 rfl rfl
abbrev b_Form_init : ByteArray := prog_2_method_1_code
def y_Form_init : MethodName := ⟨R_Form, "<init>", "()V"⟩
def w_Form_init : List Cond := .code y_Form_init b_Form_init 1 none :: wAll
theorem m_Form_init : Cond.code y_Form_init b_Form_init 1 none ∈ wAll := wAll_of 25 rfl rfl
abbrev b_ModeKeeper_move : ByteArray := prog_1_method_2_code
def y_ModeKeeper_move : MethodName := ⟨R_ModeKeeper, "move", "(II)I"⟩
def w_ModeKeeper_move : List Cond := .code y_ModeKeeper_move b_ModeKeeper_move 3 ((some .int)) :: wAll
theorem m_ModeKeeper_move : Cond.code y_ModeKeeper_move b_ModeKeeper_move 3 ((some .int)) ∈ wAll := wAll_of 84 rfl rfl
abbrev b_ModeKeeper_isActuator : ByteArray := prog_1_method_14_code
def y_ModeKeeper_isActuator : MethodName := ⟨R_ModeKeeper, "isActuator", "(I)Z"⟩
def w_ModeKeeper_isActuator : List Cond := .code y_ModeKeeper_isActuator b_ModeKeeper_isActuator 1 ((some .boolean)) :: wAll
theorem m_ModeKeeper_isActuator : Cond.code y_ModeKeeper_isActuator b_ModeKeeper_isActuator 1 ((some .boolean)) ∈ wAll := wAll_of 87 rfl rfl
abbrev b_ModeKeeper_enter : ByteArray := prog_1_method_3_code
def y_ModeKeeper_enter : MethodName := ⟨R_ModeKeeper, "enter", "(I)I"⟩
def w_ModeKeeper_enter : List Cond := .code y_ModeKeeper_enter b_ModeKeeper_enter 2 ((some .int)) :: wAll
theorem m_ModeKeeper_enter : Cond.code y_ModeKeeper_enter b_ModeKeeper_enter 2 ((some .int)) ∈ wAll := wAll_of 91 rfl rfl
abbrev b_ModeKeeper_changeMode : ByteArray := prog_1_method_16_code
def y_ModeKeeper_changeMode : MethodName := ⟨R_ModeKeeper, "changeMode", "(I)Z"⟩
def w_ModeKeeper_changeMode : List Cond := .code y_ModeKeeper_changeMode b_ModeKeeper_changeMode 2 ((some .boolean)) :: wAll
theorem m_ModeKeeper_changeMode : Cond.code y_ModeKeeper_changeMode b_ModeKeeper_changeMode 2 ((some .boolean)) ∈ wAll := wAll_of 95 rfl rfl
abbrev b_ModeKeeper_alarm : ByteArray := prog_1_method_4_code
def y_ModeKeeper_alarm : MethodName := ⟨R_ModeKeeper, "alarm", "(I)Z"⟩
def w_ModeKeeper_alarm : List Cond := .code y_ModeKeeper_alarm b_ModeKeeper_alarm 2 ((some .boolean)) :: wAll
theorem m_ModeKeeper_alarm : Cond.code y_ModeKeeper_alarm b_ModeKeeper_alarm 2 ((some .boolean)) ∈ wAll := wAll_of 104 rfl rfl
abbrev b_ModeKeeper_look : ByteArray := prog_1_method_5_code
def y_ModeKeeper_look : MethodName := ⟨R_ModeKeeper, "look", "(I)Z"⟩
def w_ModeKeeper_look : List Cond := .code y_ModeKeeper_look b_ModeKeeper_look 2 ((some .boolean)) :: wAll
theorem m_ModeKeeper_look : Cond.code y_ModeKeeper_look b_ModeKeeper_look 2 ((some .boolean)) ∈ wAll := wAll_of 108 rfl rfl
abbrev b_ModeKeeper_put : ByteArray := prog_1_method_6_code
def y_ModeKeeper_put : MethodName := ⟨R_ModeKeeper, "put", "(I)I"⟩
def w_ModeKeeper_put : List Cond := .code y_ModeKeeper_put b_ModeKeeper_put 2 ((some .int)) :: wAll
theorem m_ModeKeeper_put : Cond.code y_ModeKeeper_put b_ModeKeeper_put 2 ((some .int)) ∈ wAll := wAll_of 112 rfl rfl
abbrev b_ModeKeeper_form : ByteArray := prog_1_method_7_code
def y_ModeKeeper_form : MethodName := ⟨R_ModeKeeper, "form", "(II)I"⟩
def w_ModeKeeper_form : List Cond := .code y_ModeKeeper_form b_ModeKeeper_form 4 ((some .int)) :: wAll
theorem m_ModeKeeper_form : Cond.code y_ModeKeeper_form b_ModeKeeper_form 4 ((some .int)) ∈ wAll := wAll_of 116 rfl rfl
abbrev b_ModeKeeper_failureOfNewForm : ByteArray := prog_1_method_17_code
def y_ModeKeeper_failureOfNewForm : MethodName := ⟨R_ModeKeeper, "failureOfNewForm", "(II)I"⟩
def w_ModeKeeper_failureOfNewForm : List Cond := .code y_ModeKeeper_failureOfNewForm b_ModeKeeper_failureOfNewForm 3 ((some .int)) :: wAll
theorem m_ModeKeeper_failureOfNewForm : Cond.code y_ModeKeeper_failureOfNewForm b_ModeKeeper_failureOfNewForm 3 ((some .int)) ∈ wAll := wAll_of 120 rfl rfl
abbrev b_ModeKeeper_find : ByteArray := prog_1_method_19_code
def y_ModeKeeper_find : MethodName := ⟨R_ModeKeeper, "find", "(I)LModeKeeper$Form;"⟩
def w_ModeKeeper_find : List Cond := .code y_ModeKeeper_find b_ModeKeeper_find 4 ((some (.object "ModeKeeper$Form"))) :: wAll
theorem m_ModeKeeper_find : Cond.code y_ModeKeeper_find b_ModeKeeper_find 4 ((some (.object "ModeKeeper$Form"))) ∈ wAll := wAll_of 124 rfl rfl
abbrev b_ModeKeeper_fillEmptyPlace : ByteArray := prog_1_method_18_code
def y_ModeKeeper_fillEmptyPlace : MethodName := ⟨R_ModeKeeper, "fillEmptyPlace", "(II)V"⟩
def w_ModeKeeper_fillEmptyPlace : List Cond := .code y_ModeKeeper_fillEmptyPlace b_ModeKeeper_fillEmptyPlace 5 none :: wAll
theorem m_ModeKeeper_fillEmptyPlace : Cond.code y_ModeKeeper_fillEmptyPlace b_ModeKeeper_fillEmptyPlace 5 none ∈ wAll := wAll_of 128 rfl rfl
abbrev b_ModeKeeper_remove : ByteArray := prog_1_method_8_code
def y_ModeKeeper_remove : MethodName := ⟨R_ModeKeeper, "remove", "(I)I"⟩
def w_ModeKeeper_remove : List Cond := .code y_ModeKeeper_remove b_ModeKeeper_remove 3 ((some .int)) :: wAll
theorem m_ModeKeeper_remove : Cond.code y_ModeKeeper_remove b_ModeKeeper_remove 3 ((some .int)) ∈ wAll := wAll_of 132 rfl rfl
abbrev b_ModeKeeper_enable : ByteArray := prog_1_method_9_code
def y_ModeKeeper_enable : MethodName := ⟨R_ModeKeeper, "enable", "(IZ)I"⟩
def w_ModeKeeper_enable : List Cond := .code y_ModeKeeper_enable b_ModeKeeper_enable 4 ((some .int)) :: wAll
theorem m_ModeKeeper_enable : Cond.code y_ModeKeeper_enable b_ModeKeeper_enable 4 ((some .int)) ∈ wAll := wAll_of 136 rfl rfl
abbrev b_ModeKeeper_due : ByteArray := prog_1_method_10_code
def y_ModeKeeper_due : MethodName := ⟨R_ModeKeeper, "due", "(II)I"⟩
def w_ModeKeeper_due : List Cond := .code y_ModeKeeper_due b_ModeKeeper_due 6 ((some .int)) :: wAll
theorem m_ModeKeeper_due : Cond.code y_ModeKeeper_due b_ModeKeeper_due 6 ((some .int)) ∈ wAll := wAll_of 140 rfl rfl
abbrev b_ModeKeeper_divides : ByteArray := prog_1_method_15_code
def y_ModeKeeper_divides : MethodName := ⟨R_ModeKeeper, "divides", "(II)Z"⟩
def w_ModeKeeper_divides : List Cond := .code y_ModeKeeper_divides b_ModeKeeper_divides 2 ((some .boolean)) :: wAll
theorem m_ModeKeeper_divides : Cond.code y_ModeKeeper_divides b_ModeKeeper_divides 2 ((some .boolean)) ∈ wAll := wAll_of 143 rfl rfl
abbrev b_ModeKeeper_parameter : ByteArray := prog_1_method_11_code
def y_ModeKeeper_parameter : MethodName := ⟨R_ModeKeeper, "parameter", "(II)I"⟩
def w_ModeKeeper_parameter : List Cond := .code y_ModeKeeper_parameter b_ModeKeeper_parameter 4 ((some .int)) :: wAll
theorem m_ModeKeeper_parameter : Cond.code y_ModeKeeper_parameter b_ModeKeeper_parameter 4 ((some .int)) ∈ wAll := wAll_of 147 rfl rfl
abbrev b_ModeKeeper_value : ByteArray := prog_1_method_12_code
def y_ModeKeeper_value : MethodName := ⟨R_ModeKeeper, "value", "(I)I"⟩
def w_ModeKeeper_value : List Cond := .code y_ModeKeeper_value b_ModeKeeper_value 2 ((some .int)) :: wAll
theorem m_ModeKeeper_value : Cond.code y_ModeKeeper_value b_ModeKeeper_value 2 ((some .int)) ∈ wAll := wAll_of 151 rfl rfl
abbrev b_ModeKeeper_about : ByteArray := prog_1_method_13_code
def y_ModeKeeper_about : MethodName := ⟨R_ModeKeeper, "about", "(II)I"⟩
def w_ModeKeeper_about : List Cond := .code y_ModeKeeper_about b_ModeKeeper_about 4 ((some .int)) :: wAll
theorem m_ModeKeeper_about : Cond.code y_ModeKeeper_about b_ModeKeeper_about 4 ((some .int)) ∈ wAll := wAll_of 155 rfl rfl
abbrev b_Model_init : ByteArray := prog_4_method_1_code
def y_Model_init : MethodName := ⟨R_Model, "<init>", "()V"⟩
def w_Model_init : List Cond := .code y_Model_init b_Model_init 1 none :: wAll
theorem m_Model_init : Cond.code y_Model_init b_Model_init 1 none ∈ wAll := wAll_of 160 rfl rfl
abbrev b_Model_move : ByteArray := prog_4_method_3_code
def y_Model_move : MethodName := ⟨R_Model, "move", "(II)I"⟩
def w_Model_move : List Cond := .code y_Model_move b_Model_move 3 ((some .int)) :: wAll
theorem m_Model_move : Cond.code y_Model_move b_Model_move 3 ((some .int)) ∈ wAll := wAll_of 203 rfl rfl
abbrev b_Model_enter : ByteArray := prog_4_method_5_code
def y_Model_enter : MethodName := ⟨R_Model, "enter", "(I)I"⟩
def w_Model_enter : List Cond := .code y_Model_enter b_Model_enter 3 ((some .int)) :: wAll
theorem m_Model_enter : Cond.code y_Model_enter b_Model_enter 3 ((some .int)) ∈ wAll := wAll_of 207 rfl rfl
abbrev b_Model_becomes : ByteArray := prog_4_method_4_code
def y_Model_becomes : MethodName := ⟨R_Model, "becomes", "(I)Z"⟩
def w_Model_becomes : List Cond := .code y_Model_becomes b_Model_becomes 4 ((some .boolean)) :: wAll
theorem m_Model_becomes : Cond.code y_Model_becomes b_Model_becomes 4 ((some .boolean)) ∈ wAll := wAll_of 211 rfl rfl
abbrev b_Model_alarm : ByteArray := prog_4_method_6_code
def y_Model_alarm : MethodName := ⟨R_Model, "alarm", "(I)Z"⟩
def w_Model_alarm : List Cond := .code y_Model_alarm b_Model_alarm 2 ((some .boolean)) :: wAll
theorem m_Model_alarm : Cond.code y_Model_alarm b_Model_alarm 2 ((some .boolean)) ∈ wAll := wAll_of 215 rfl rfl
abbrev b_Model_look : ByteArray := prog_4_method_7_code
def y_Model_look : MethodName := ⟨R_Model, "look", "(I)Z"⟩
def w_Model_look : List Cond := .code y_Model_look b_Model_look 2 ((some .boolean)) :: wAll
theorem m_Model_look : Cond.code y_Model_look b_Model_look 2 ((some .boolean)) ∈ wAll := wAll_of 219 rfl rfl
abbrev b_Model_put : ByteArray := prog_4_method_10_code
def y_Model_put : MethodName := ⟨R_Model, "put", "(I)I"⟩
def w_Model_put : List Cond := .code y_Model_put b_Model_put 2 ((some .int)) :: wAll
theorem m_Model_put : Cond.code y_Model_put b_Model_put 2 ((some .int)) ∈ wAll := wAll_of 223 rfl rfl
abbrev b_Model_form : ByteArray := prog_4_method_11_code
def y_Model_form : MethodName := ⟨R_Model, "form", "(II)I"⟩
def w_Model_form : List Cond := .code y_Model_form b_Model_form 5 ((some .int)) :: wAll
theorem m_Model_form : Cond.code y_Model_form b_Model_form 5 ((some .int)) ∈ wAll := wAll_of 227 rfl rfl
abbrev b_Model_forms : ByteArray := prog_4_method_9_code
def y_Model_forms : MethodName := ⟨R_Model, "forms", "()I"⟩
def w_Model_forms : List Cond := .code y_Model_forms b_Model_forms 3 ((some .int)) :: wAll
theorem m_Model_forms : Cond.code y_Model_forms b_Model_forms 3 ((some .int)) ∈ wAll := wAll_of 231 rfl rfl
abbrev b_Model_remove : ByteArray := prog_4_method_12_code
def y_Model_remove : MethodName := ⟨R_Model, "remove", "(I)I"⟩
def w_Model_remove : List Cond := .code y_Model_remove b_Model_remove 2 ((some .int)) :: wAll
theorem m_Model_remove : Cond.code y_Model_remove b_Model_remove 2 ((some .int)) ∈ wAll := wAll_of 235 rfl rfl
abbrev b_Model_isThere : ByteArray := prog_4_method_8_code
def y_Model_isThere : MethodName := ⟨R_Model, "isThere", "(I)Z"⟩
def w_Model_isThere : List Cond := .code y_Model_isThere b_Model_isThere 2 ((some .boolean)) :: wAll
theorem m_Model_isThere : Cond.code y_Model_isThere b_Model_isThere 2 ((some .boolean)) ∈ wAll := wAll_of 239 rfl rfl
abbrev b_Model_enable : ByteArray := prog_4_method_13_code
def y_Model_enable : MethodName := ⟨R_Model, "enable", "(IZ)I"⟩
def w_Model_enable : List Cond := .code y_Model_enable b_Model_enable 3 ((some .int)) :: wAll
theorem m_Model_enable : Cond.code y_Model_enable b_Model_enable 3 ((some .int)) ∈ wAll := wAll_of 243 rfl rfl
abbrev b_Model_due : ByteArray := prog_4_method_14_code
def y_Model_due : MethodName := ⟨R_Model, "due", "(II)I"⟩
def w_Model_due : List Cond := .code y_Model_due b_Model_due 5 ((some .int)) :: wAll
theorem m_Model_due : Cond.code y_Model_due b_Model_due 5 ((some .int)) ∈ wAll := wAll_of 247 rfl rfl
abbrev b_Model_parameter : ByteArray := prog_4_method_15_code
def y_Model_parameter : MethodName := ⟨R_Model, "parameter", "(II)I"⟩
def w_Model_parameter : List Cond := .code y_Model_parameter b_Model_parameter 3 ((some .int)) :: wAll
theorem m_Model_parameter : Cond.code y_Model_parameter b_Model_parameter 3 ((some .int)) ∈ wAll := wAll_of 251 rfl rfl
abbrev b_Model_value : ByteArray := prog_4_method_16_code
def y_Model_value : MethodName := ⟨R_Model, "value", "(I)I"⟩
def w_Model_value : List Cond := .code y_Model_value b_Model_value 2 ((some .int)) :: wAll
theorem m_Model_value : Cond.code y_Model_value b_Model_value 2 ((some .int)) ∈ wAll := wAll_of 255 rfl rfl
abbrev b_Model_about : ByteArray := prog_4_method_17_code
def y_Model_about : MethodName := ⟨R_Model, "about", "(II)I"⟩
def w_Model_about : List Cond := .code y_Model_about b_Model_about 3 ((some .int)) :: wAll
theorem m_Model_about : Cond.code y_Model_about b_Model_about 3 ((some .int)) ∈ wAll := wAll_of 259 rfl rfl

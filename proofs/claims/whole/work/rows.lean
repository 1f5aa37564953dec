section
/-- a private method of a class that the tables say can be made, by its rows of tables_1 -/
def lw_okq (q : MethodName × Nat) : Prop := (q.1.cls ≠ "java/lang/invoke/MethodHandle" ∧ q.1.cls ≠ "java/lang/invoke/VarHandle") ∧ Cond.instantiable q.1.cls q.2 ∈ tables_1 ∧ Cond.privateMethod q.1 ∈ tables_1 ∧ Cond.instanceMethod q.1 ∈ tables_1
theorem lw_p0 : lw_okq (⟨"ModeKeeper", "changeMode", "(I)Z"⟩, 9) := ⟨⟨by decide +kernel, by decide +kernel⟩, List.mem_of_getElem? (i := 6) (by decide +kernel), List.mem_of_getElem? (i := 86) (by decide +kernel), List.mem_of_getElem? (i := 87) (by decide +kernel)⟩
theorem lw_p1 : lw_okq (⟨"ModeKeeper", "failureOfNewForm", "(II)I"⟩, 9) := ⟨⟨by decide +kernel, by decide +kernel⟩, List.mem_of_getElem? (i := 6) (by decide +kernel), List.mem_of_getElem? (i := 111) (by decide +kernel), List.mem_of_getElem? (i := 112) (by decide +kernel)⟩
theorem lw_p2 : lw_okq (⟨"ModeKeeper", "find", "(I)LModeKeeper$Form;"⟩, 9) := ⟨⟨by decide +kernel, by decide +kernel⟩, List.mem_of_getElem? (i := 6) (by decide +kernel), List.mem_of_getElem? (i := 115) (by decide +kernel), List.mem_of_getElem? (i := 116) (by decide +kernel)⟩
theorem lw_p3 : lw_okq (⟨"ModeKeeper", "fillEmptyPlace", "(II)V"⟩, 9) := ⟨⟨by decide +kernel, by decide +kernel⟩, List.mem_of_getElem? (i := 6) (by decide +kernel), List.mem_of_getElem? (i := 119) (by decide +kernel), List.mem_of_getElem? (i := 120) (by decide +kernel)⟩
theorem lw_p4 : lw_okq (⟨"ModeKeeperModel", "becomes", "(I)Z"⟩, 12) := ⟨⟨by decide +kernel, by decide +kernel⟩, List.mem_of_getElem? (i := 150) (by decide +kernel), List.mem_of_getElem? (i := 202) (by decide +kernel), List.mem_of_getElem? (i := 203) (by decide +kernel)⟩
theorem lw_p5 : lw_okq (⟨"ModeKeeperModel", "forms", "()I"⟩, 12) := ⟨⟨by decide +kernel, by decide +kernel⟩, List.mem_of_getElem? (i := 150) (by decide +kernel), List.mem_of_getElem? (i := 222) (by decide +kernel), List.mem_of_getElem? (i := 223) (by decide +kernel)⟩
theorem lw_p6 : lw_okq (⟨"ModeKeeperModel", "isThere", "(I)Z"⟩, 12) := ⟨⟨by decide +kernel, by decide +kernel⟩, List.mem_of_getElem? (i := 150) (by decide +kernel), List.mem_of_getElem? (i := 230) (by decide +kernel), List.mem_of_getElem? (i := 231) (by decide +kernel)⟩
def lw_privs_1 : List (MethodName × Nat) := [(⟨"ModeKeeper", "changeMode", "(I)Z"⟩, 9), (⟨"ModeKeeper", "failureOfNewForm", "(II)I"⟩, 9), (⟨"ModeKeeper", "find", "(I)LModeKeeper$Form;"⟩, 9), (⟨"ModeKeeper", "fillEmptyPlace", "(II)V"⟩, 9), (⟨"ModeKeeperModel", "becomes", "(I)Z"⟩, 12), (⟨"ModeKeeperModel", "forms", "()I"⟩, 12), (⟨"ModeKeeperModel", "isThere", "(I)Z"⟩, 12)]
theorem lw_r1 : ∀ q ∈ lw_privs_1, lw_okq q := List.forall_mem_cons.mpr ⟨lw_p0, List.forall_mem_cons.mpr ⟨lw_p1, List.forall_mem_cons.mpr ⟨lw_p2, List.forall_mem_cons.mpr ⟨lw_p3, List.forall_mem_cons.mpr ⟨lw_p4, List.forall_mem_cons.mpr ⟨lw_p5, List.forall_mem_cons.mpr ⟨lw_p6, fun _ h => absurd h List.not_mem_nil⟩⟩⟩⟩⟩⟩⟩
def lw_privs : List (MethodName × Nat) := lw_privs_1
def lw_tbl : List Cond := k2_sels lw_privs ++ tables_1
theorem lw_privs_ok : ∀ q ∈ lw_privs, lw_okq q := lw_r1

def wAll : List Cond := lw_tbl.filter goodWord
theorem wAll_of {w : Cond} (i : Nat) (h : lw_tbl[i]? = some w) (hg : goodWord w = true) : w ∈ wAll := List.mem_filter.mpr ⟨List.mem_of_getElem? h, hg⟩
theorem gd_all : ∀ w ∈ wAll, ((w.onTables && w.keeps) = true ∨ ∃ ty, w = Cond.arrayClass ty) := fun w h => good_of_word (List.mem_filter.mp h).2
theorem gd {b : Cond} (hb : b ∈ wAll) : GoodIn wAll (b :: wAll) := by
  intro w hw
  rcases List.mem_cons.mp hw with rfl | hw
  · exact ⟨hb, gd_all _ hb⟩
  · exact ⟨hw, gd_all w hw⟩
def R_Form : String := "ModeKeeper$Form"
def F_Form : u_T := fun k => match k with
  | 0 => ("ModeKeeper$Form", "there", "Z", false)
  | 1 => ("ModeKeeper$Form", "id", "I", false)
  | 2 => ("ModeKeeper$Form", "every", "I", false)
  | 3 => ("ModeKeeper$Form", "on", "Z", false)
  | 4 => ("ModeKeeper$Form", "count", "I", false)
  | _ => ("ModeKeeper$Form", "parameters", "[I", true)
def t_Form : Nat → FieldType := fun k => match k with
  | 0 => .boolean
  | 1 => .int
  | 2 => .int
  | 3 => .boolean
  | 4 => .int
  | _ => .array .int
theorem n_Form : ∀ a, a < 6 → ∀ b, b < 6 → a ≠ b → (F_Form a).2.1 ≠ (F_Form b).2.1 := by decide +kernel
theorem t_Form_ok : ∀ k, k < 6 → parseFieldDescriptor (F_Form k).2.2.1 = some (t_Form k) := by decide +kernel
theorem iw_F : ∀ w ∈ u_ws R_Form F_Form 6, w ∈ wAll := by decide +kernel
def R_ModeKeeper : String := "ModeKeeper"
def F_ModeKeeper : u_T := fun k => match k with
  | 0 => ("ModeKeeper", "actuators", "[I", true)
  | 1 => ("ModeKeeper", "mode", "I", false)
  | 2 => ("ModeKeeper", "changes", "I", false)
  | 3 => ("ModeKeeper", "alarmIsSet", "Z", false)
  | 4 => ("ModeKeeper", "alarmTick", "I", false)
  | 5 => ("ModeKeeper", "text", "[I", true)
  | 6 => ("ModeKeeper", "textCount", "I", false)
  | 7 => ("ModeKeeper", "forms", "[LModeKeeper$Form;", true)
  | _ => ("ModeKeeper", "formCount", "I", false)
def t_ModeKeeper : Nat → FieldType := fun k => match k with
  | 0 => .array .int
  | 1 => .int
  | 2 => .int
  | 3 => .boolean
  | 4 => .int
  | 5 => .array .int
  | 6 => .int
  | 7 => .array (.object "ModeKeeper$Form")
  | _ => .int
theorem n_ModeKeeper : ∀ a, a < 9 → ∀ b, b < 9 → a ≠ b → (F_ModeKeeper a).2.1 ≠ (F_ModeKeeper b).2.1 := by decide +kernel
theorem t_ModeKeeper_ok : ∀ k, k < 9 → parseFieldDescriptor (F_ModeKeeper k).2.2.1 = some (t_ModeKeeper k) := by decide +kernel
theorem iw_K : ∀ w ∈ u_ws R_ModeKeeper F_ModeKeeper 9, w ∈ wAll := by decide +kernel
def R_Model : String := "ModeKeeperModel"
def F_Model : u_T := fun k => match k with
  | 0 => ("ModeKeeperModel", "thrown", "I", false)
  | 1 => ("ModeKeeperModel", "mode", "I", false)
  | 2 => ("ModeKeeperModel", "actuators", "[I", true)
  | 3 => ("ModeKeeperModel", "alarmed", "Z", false)
  | 4 => ("ModeKeeperModel", "alarmTick", "I", false)
  | 5 => ("ModeKeeperModel", "changes", "I", false)
  | 6 => ("ModeKeeperModel", "size", "I", false)
  | 7 => ("ModeKeeperModel", "text", "[I", true)
  | 8 => ("ModeKeeperModel", "every", "[I", true)
  | 9 => ("ModeKeeperModel", "on", "[Z", true)
  | 10 => ("ModeKeeperModel", "many", "[I", true)
  | _ => ("ModeKeeperModel", "parameters", "[I", true)
def t_Model : Nat → FieldType := fun k => match k with
  | 0 => .int
  | 1 => .int
  | 2 => .array .int
  | 3 => .boolean
  | 4 => .int
  | 5 => .int
  | 6 => .int
  | 7 => .array .int
  | 8 => .array .int
  | 9 => .array .boolean
  | 10 => .array .int
  | _ => .array .int
theorem n_Model : ∀ a, a < 12 → ∀ b, b < 12 → a ≠ b → (F_Model a).2.1 ≠ (F_Model b).2.1 := by decide +kernel
theorem t_Model_ok : ∀ k, k < 12 → parseFieldDescriptor (F_Model k).2.2.1 = some (t_Model k) := by decide +kernel
theorem iw_M : ∀ w ∈ u_ws R_Model F_Model 12, w ∈ wAll := by decide +kernel
abbrev classes : List vw_C := [(R_ModeKeeper, F_ModeKeeper, 9), (R_Form, F_Form, 6), (R_Model, F_Model, 12)]
abbrev b_ModeKeeper_init : ByteArray := prog_1_method_1_code
def y_ModeKeeper_init : MethodName := ⟨R_ModeKeeper, "<init>", "()V"⟩
def w_ModeKeeper_init : List Cond := .code y_ModeKeeper_init b_ModeKeeper_init 2 none :: wAll
theorem m_ModeKeeper_init : Cond.code y_ModeKeeper_init b_ModeKeeper_init 2 none ∈ wAll := wAll_of 16 rfl rfl
abbrev b_Form_init : ByteArray := prog_2_method_1_code
def y_Form_init : MethodName := ⟨R_Form, "<init>", "()V"⟩
def w_Form_init : List Cond := .code y_Form_init b_Form_init 1 none :: wAll
theorem m_Form_init : Cond.code y_Form_init b_Form_init 1 none ∈ wAll := wAll_of 25 rfl rfl
abbrev b_ModeKeeper_move : ByteArray := prog_1_method_2_code
def y_ModeKeeper_move : MethodName := ⟨R_ModeKeeper, "move", "(II)I"⟩
def w_ModeKeeper_move : List Cond := .code y_ModeKeeper_move b_ModeKeeper_move 3 ((some .int)) :: wAll
theorem m_ModeKeeper_move : Cond.code y_ModeKeeper_move b_ModeKeeper_move 3 ((some .int)) ∈ wAll := wAll_of 84 rfl rfl
abbrev b_ModeKeeper_isActuator : ByteArray := prog_1_method_14_code
def y_ModeKeeper_isActuator : MethodName := ⟨R_ModeKeeper, "isActuator", "(I)Z"⟩
def w_ModeKeeper_isActuator : List Cond := .code y_ModeKeeper_isActuator b_ModeKeeper_isActuator 1 ((some .boolean)) :: wAll
theorem m_ModeKeeper_isActuator : Cond.code y_ModeKeeper_isActuator b_ModeKeeper_isActuator 1 ((some .boolean)) ∈ wAll := wAll_of 87 rfl rfl
abbrev b_ModeKeeper_enter : ByteArray := prog_1_method_3_code
def y_ModeKeeper_enter : MethodName := ⟨R_ModeKeeper, "enter", "(I)I"⟩
def w_ModeKeeper_enter : List Cond := .code y_ModeKeeper_enter b_ModeKeeper_enter 2 ((some .int)) :: wAll
theorem m_ModeKeeper_enter : Cond.code y_ModeKeeper_enter b_ModeKeeper_enter 2 ((some .int)) ∈ wAll := wAll_of 91 rfl rfl
abbrev b_ModeKeeper_changeMode : ByteArray := prog_1_method_16_code
def y_ModeKeeper_changeMode : MethodName := ⟨R_ModeKeeper, "changeMode", "(I)Z"⟩
def w_ModeKeeper_changeMode : List Cond := .code y_ModeKeeper_changeMode b_ModeKeeper_changeMode 2 ((some .boolean)) :: wAll
theorem m_ModeKeeper_changeMode : Cond.code y_ModeKeeper_changeMode b_ModeKeeper_changeMode 2 ((some .boolean)) ∈ wAll := wAll_of 95 rfl rfl
abbrev b_ModeKeeper_alarm : ByteArray := prog_1_method_4_code
def y_ModeKeeper_alarm : MethodName := ⟨R_ModeKeeper, "alarm", "(I)Z"⟩
def w_ModeKeeper_alarm : List Cond := .code y_ModeKeeper_alarm b_ModeKeeper_alarm 2 ((some .boolean)) :: wAll
theorem m_ModeKeeper_alarm : Cond.code y_ModeKeeper_alarm b_ModeKeeper_alarm 2 ((some .boolean)) ∈ wAll := wAll_of 104 rfl rfl
abbrev b_ModeKeeper_look : ByteArray := prog_1_method_5_code
def y_ModeKeeper_look : MethodName := ⟨R_ModeKeeper, "look", "(I)Z"⟩
def w_ModeKeeper_look : List Cond := .code y_ModeKeeper_look b_ModeKeeper_look 2 ((some .boolean)) :: wAll
theorem m_ModeKeeper_look : Cond.code y_ModeKeeper_look b_ModeKeeper_look 2 ((some .boolean)) ∈ wAll := wAll_of 108 rfl rfl
abbrev b_ModeKeeper_put : ByteArray := prog_1_method_6_code
def y_ModeKeeper_put : MethodName := ⟨R_ModeKeeper, "put", "(I)I"⟩
def w_ModeKeeper_put : List Cond := .code y_ModeKeeper_put b_ModeKeeper_put 2 ((some .int)) :: wAll
theorem m_ModeKeeper_put : Cond.code y_ModeKeeper_put b_ModeKeeper_put 2 ((some .int)) ∈ wAll := wAll_of 112 rfl rfl
abbrev b_ModeKeeper_form : ByteArray := prog_1_method_7_code
def y_ModeKeeper_form : MethodName := ⟨R_ModeKeeper, "form", "(II)I"⟩
def w_ModeKeeper_form : List Cond := .code y_ModeKeeper_form b_ModeKeeper_form 4 ((some .int)) :: wAll
theorem m_ModeKeeper_form : Cond.code y_ModeKeeper_form b_ModeKeeper_form 4 ((some .int)) ∈ wAll := wAll_of 116 rfl rfl
abbrev b_ModeKeeper_failureOfNewForm : ByteArray := prog_1_method_17_code
def y_ModeKeeper_failureOfNewForm : MethodName := ⟨R_ModeKeeper, "failureOfNewForm", "(II)I"⟩
def w_ModeKeeper_failureOfNewForm : List Cond := .code y_ModeKeeper_failureOfNewForm b_ModeKeeper_failureOfNewForm 3 ((some .int)) :: wAll
theorem m_ModeKeeper_failureOfNewForm : Cond.code y_ModeKeeper_failureOfNewForm b_ModeKeeper_failureOfNewForm 3 ((some .int)) ∈ wAll := wAll_of 120 rfl rfl
abbrev b_ModeKeeper_find : ByteArray := prog_1_method_19_code
def y_ModeKeeper_find : MethodName := ⟨R_ModeKeeper, "find", "(I)LModeKeeper$Form;"⟩
def w_ModeKeeper_find : List Cond := .code y_ModeKeeper_find b_ModeKeeper_find 4 ((some (.object "ModeKeeper$Form"))) :: wAll
theorem m_ModeKeeper_find : Cond.code y_ModeKeeper_find b_ModeKeeper_find 4 ((some (.object "ModeKeeper$Form"))) ∈ wAll := wAll_of 124 rfl rfl
abbrev b_ModeKeeper_fillEmptyPlace : ByteArray := prog_1_method_18_code
def y_ModeKeeper_fillEmptyPlace : MethodName := ⟨R_ModeKeeper, "fillEmptyPlace", "(II)V"⟩
def w_ModeKeeper_fillEmptyPlace : List Cond := .code y_ModeKeeper_fillEmptyPlace b_ModeKeeper_fillEmptyPlace 5 none :: wAll
theorem m_ModeKeeper_fillEmptyPlace : Cond.code y_ModeKeeper_fillEmptyPlace b_ModeKeeper_fillEmptyPlace 5 none ∈ wAll := wAll_of 128 rfl rfl
abbrev b_ModeKeeper_remove : ByteArray := prog_1_method_8_code
def y_ModeKeeper_remove : MethodName := ⟨R_ModeKeeper, "remove", "(I)I"⟩
def w_ModeKeeper_remove : List Cond := .code y_ModeKeeper_remove b_ModeKeeper_remove 3 ((some .int)) :: wAll
theorem m_ModeKeeper_remove : Cond.code y_ModeKeeper_remove b_ModeKeeper_remove 3 ((some .int)) ∈ wAll := wAll_of 132 rfl rfl
abbrev b_ModeKeeper_enable : ByteArray := prog_1_method_9_code
def y_ModeKeeper_enable : MethodName := ⟨R_ModeKeeper, "enable", "(IZ)I"⟩
def w_ModeKeeper_enable : List Cond := .code y_ModeKeeper_enable b_ModeKeeper_enable 4 ((some .int)) :: wAll
theorem m_ModeKeeper_enable : Cond.code y_ModeKeeper_enable b_ModeKeeper_enable 4 ((some .int)) ∈ wAll := wAll_of 136 rfl rfl
abbrev b_ModeKeeper_due : ByteArray := prog_1_method_10_code
def y_ModeKeeper_due : MethodName := ⟨R_ModeKeeper, "due", "(II)I"⟩
def w_ModeKeeper_due : List Cond := .code y_ModeKeeper_due b_ModeKeeper_due 6 ((some .int)) :: wAll
theorem m_ModeKeeper_due : Cond.code y_ModeKeeper_due b_ModeKeeper_due 6 ((some .int)) ∈ wAll := wAll_of 140 rfl rfl
abbrev b_ModeKeeper_divides : ByteArray := prog_1_method_15_code
def y_ModeKeeper_divides : MethodName := ⟨R_ModeKeeper, "divides", "(II)Z"⟩
def w_ModeKeeper_divides : List Cond := .code y_ModeKeeper_divides b_ModeKeeper_divides 2 ((some .boolean)) :: wAll
theorem m_ModeKeeper_divides : Cond.code y_ModeKeeper_divides b_ModeKeeper_divides 2 ((some .boolean)) ∈ wAll := wAll_of 143 rfl rfl
abbrev b_ModeKeeper_parameter : ByteArray := prog_1_method_11_code
def y_ModeKeeper_parameter : MethodName := ⟨R_ModeKeeper, "parameter", "(II)I"⟩
def w_ModeKeeper_parameter : List Cond := .code y_ModeKeeper_parameter b_ModeKeeper_parameter 4 ((some .int)) :: wAll
theorem m_ModeKeeper_parameter : Cond.code y_ModeKeeper_parameter b_ModeKeeper_parameter 4 ((some .int)) ∈ wAll := wAll_of 147 rfl rfl
abbrev b_ModeKeeper_value : ByteArray := prog_1_method_12_code
def y_ModeKeeper_value : MethodName := ⟨R_ModeKeeper, "value", "(I)I"⟩
def w_ModeKeeper_value : List Cond := .code y_ModeKeeper_value b_ModeKeeper_value 2 ((some .int)) :: wAll
theorem m_ModeKeeper_value : Cond.code y_ModeKeeper_value b_ModeKeeper_value 2 ((some .int)) ∈ wAll := wAll_of 151 rfl rfl
abbrev b_ModeKeeper_about : ByteArray := prog_1_method_13_code
def y_ModeKeeper_about : MethodName := ⟨R_ModeKeeper, "about", "(II)I"⟩
def w_ModeKeeper_about : List Cond := .code y_ModeKeeper_about b_ModeKeeper_about 4 ((some .int)) :: wAll
theorem m_ModeKeeper_about : Cond.code y_ModeKeeper_about b_ModeKeeper_about 4 ((some .int)) ∈ wAll := wAll_of 155 rfl rfl
abbrev b_Model_init : ByteArray := prog_4_method_1_code
def y_Model_init : MethodName := ⟨R_Model, "<init>", "()V"⟩
def w_Model_init : List Cond := .code y_Model_init b_Model_init 1 none :: wAll
theorem m_Model_init : Cond.code y_Model_init b_Model_init 1 none ∈ wAll := wAll_of 160 rfl rfl
abbrev b_Model_move : ByteArray := prog_4_method_3_code
def y_Model_move : MethodName := ⟨R_Model, "move", "(II)I"⟩
def w_Model_move : List Cond := .code y_Model_move b_Model_move 3 ((some .int)) :: wAll
theorem m_Model_move : Cond.code y_Model_move b_Model_move 3 ((some .int)) ∈ wAll := wAll_of 203 rfl rfl
abbrev b_Model_enter : ByteArray := prog_4_method_5_code
def y_Model_enter : MethodName := ⟨R_Model, "enter", "(I)I"⟩
def w_Model_enter : List Cond := .code y_Model_enter b_Model_enter 3 ((some .int)) :: wAll
theorem m_Model_enter : Cond.code y_Model_enter b_Model_enter 3 ((some .int)) ∈ wAll := wAll_of 207 rfl rfl
abbrev b_Model_becomes : ByteArray := prog_4_method_4_code
def y_Model_becomes : MethodName := ⟨R_Model, "becomes", "(I)Z"⟩
def w_Model_becomes : List Cond := .code y_Model_becomes b_Model_becomes 4 ((some .boolean)) :: wAll
theorem m_Model_becomes : Cond.code y_Model_becomes b_Model_becomes 4 ((some .boolean)) ∈ wAll := wAll_of 211 rfl rfl
abbrev b_Model_alarm : ByteArray := prog_4_method_6_code
def y_Model_alarm : MethodName := ⟨R_Model, "alarm", "(I)Z"⟩
def w_Model_alarm : List Cond := .code y_Model_alarm b_Model_alarm 2 ((some .boolean)) :: wAll
theorem m_Model_alarm : Cond.code y_Model_alarm b_Model_alarm 2 ((some .boolean)) ∈ wAll := wAll_of 215 rfl rfl
abbrev b_Model_look : ByteArray := prog_4_method_7_code
def y_Model_look : MethodName := ⟨R_Model, "look", "(I)Z"⟩
def w_Model_look : List Cond := .code y_Model_look b_Model_look 2 ((some .boolean)) :: wAll
theorem m_Model_look : Cond.code y_Model_look b_Model_look 2 ((some .boolean)) ∈ wAll := wAll_of 219 rfl rfl
abbrev b_Model_put : ByteArray := prog_4_method_10_code
def y_Model_put : MethodName := ⟨R_Model, "put", "(I)I"⟩
def w_Model_put : List Cond := .code y_Model_put b_Model_put 2 ((some .int)) :: wAll
theorem m_Model_put : Cond.code y_Model_put b_Model_put 2 ((some .int)) ∈ wAll := wAll_of 223 rfl rfl
abbrev b_Model_form : ByteArray := prog_4_method_11_code
def y_Model_form : MethodName := ⟨R_Model, "form", "(II)I"⟩
def w_Model_form : List Cond := .code y_Model_form b_Model_form 5 ((some .int)) :: wAll
theorem m_Model_form : Cond.code y_Model_form b_Model_form 5 ((some .int)) ∈ wAll := wAll_of 227 rfl rfl
abbrev b_Model_forms : ByteArray := prog_4_method_9_code
def y_Model_forms : MethodName := ⟨R_Model, "forms", "()I"⟩
def w_Model_forms : List Cond := .code y_Model_forms b_Model_forms 3 ((some .int)) :: wAll
theorem m_Model_forms : Cond.code y_Model_forms b_Model_forms 3 ((some .int)) ∈ wAll := wAll_of 231 rfl rfl
abbrev b_Model_remove : ByteArray := prog_4_method_12_code
def y_Model_remove : MethodName := ⟨R_Model, "remove", "(I)I"⟩
def w_Model_remove : List Cond := .code y_Model_remove b_Model_remove 2 ((some .int)) :: wAll
theorem m_Model_remove : Cond.code y_Model_remove b_Model_remove 2 ((some .int)) ∈ wAll := wAll_of 235 rfl rfl
abbrev b_Model_isThere : ByteArray := prog_4_method_8_code
def y_Model_isThere : MethodName := ⟨R_Model, "isThere", "(I)Z"⟩
def w_Model_isThere : List Cond := .code y_Model_isThere b_Model_isThere 2 ((some .boolean)) :: wAll
theorem m_Model_isThere : Cond.code y_Model_isThere b_Model_isThere 2 ((some .boolean)) ∈ wAll := wAll_of 239 rfl rfl
abbrev b_Model_enable : ByteArray := prog_4_method_13_code
def y_Model_enable : MethodName := ⟨R_Model, "enable", "(IZ)I"⟩
def w_Model_enable : List Cond := .code y_Model_enable b_Model_enable 3 ((some .int)) :: wAll
theorem m_Model_enable : Cond.code y_Model_enable b_Model_enable 3 ((some .int)) ∈ wAll := wAll_of 243 rfl rfl
abbrev b_Model_due : ByteArray := prog_4_method_14_code
def y_Model_due : MethodName := ⟨R_Model, "due", "(II)I"⟩
def w_Model_due : List Cond := .code y_Model_due b_Model_due 5 ((some .int)) :: wAll
theorem m_Model_due : Cond.code y_Model_due b_Model_due 5 ((some .int)) ∈ wAll := wAll_of 247 rfl rfl
abbrev b_Model_parameter : ByteArray := prog_4_method_15_code
def y_Model_parameter : MethodName := ⟨R_Model, "parameter", "(II)I"⟩
def w_Model_parameter : List Cond := .code y_Model_parameter b_Model_parameter 3 ((some .int)) :: wAll
theorem m_Model_parameter : Cond.code y_Model_parameter b_Model_parameter 3 ((some .int)) ∈ wAll := wAll_of 251 rfl rfl
abbrev b_Model_value : ByteArray := prog_4_method_16_code
def y_Model_value : MethodName := ⟨R_Model, "value", "(I)I"⟩
def w_Model_value : List Cond := .code y_Model_value b_Model_value 2 ((some .int)) :: wAll
theorem m_Model_value : Cond.code y_Model_value b_Model_value 2 ((some .int)) ∈ wAll := wAll_of 255 rfl rfl
abbrev b_Model_about : ByteArray := prog_4_method_17_code
def y_Model_about : MethodName := ⟨R_Model, "about", "(II)I"⟩
def w_Model_about : List Cond := .code y_Model_about b_Model_about 3 ((some .int)) :: wAll
theorem m_Model_about : Cond.code y_Model_about b_Model_about 3 ((some .int)) ∈ wAll := wAll_of 259 rfl rfl
end
section
theorem d_ModeKeeper_init_0 : decode b_ModeKeeper_init 0 = .ok (.aload_n 0, 1) := by decide +kernel
theorem d_ModeKeeper_init_1 : decode b_ModeKeeper_init 1 = .ok (.invokespecial 1, 3) := by decide +kernel
theorem d_ModeKeeper_init_4 : decode b_ModeKeeper_init 4 = .ok (.aload_n 0, 1) := by decide +kernel
theorem d_ModeKeeper_init_5 : decode b_ModeKeeper_init 5 = .ok (.bipush 8, 2) := by decide +kernel
theorem d_ModeKeeper_init_7 : decode b_ModeKeeper_init 7 = .ok (.newarray .int, 2) := by decide +kernel
theorem d_ModeKeeper_init_9 : decode b_ModeKeeper_init 9 = .ok (.putfield 9, 3) := by decide +kernel
theorem d_ModeKeeper_init_12 : decode b_ModeKeeper_init 12 = .ok (.aload_n 0, 1) := by decide +kernel
theorem d_ModeKeeper_init_13 : decode b_ModeKeeper_init 13 = .ok (.iconst 1, 1) := by decide +kernel
theorem d_ModeKeeper_init_14 : decode b_ModeKeeper_init 14 = .ok (.putfield 13, 3) := by decide +kernel
theorem d_ModeKeeper_init_17 : decode b_ModeKeeper_init 17 = .ok (.aload_n 0, 1) := by decide +kernel
theorem d_ModeKeeper_init_18 : decode b_ModeKeeper_init 18 = .ok (.iconst 0, 1) := by decide +kernel
theorem d_ModeKeeper_init_19 : decode b_ModeKeeper_init 19 = .ok (.putfield 17, 3) := by decide +kernel
theorem d_ModeKeeper_init_22 : decode b_ModeKeeper_init 22 = .ok (.aload_n 0, 1) := by decide +kernel
theorem d_ModeKeeper_init_23 : decode b_ModeKeeper_init 23 = .ok (.iconst 0, 1) := by decide +kernel
theorem d_ModeKeeper_init_24 : decode b_ModeKeeper_init 24 = .ok (.putfield 20, 3) := by decide +kernel
theorem d_ModeKeeper_init_27 : decode b_ModeKeeper_init 27 = .ok (.aload_n 0, 1) := by decide +kernel
theorem d_ModeKeeper_init_28 : decode b_ModeKeeper_init 28 = .ok (.iconst 0, 1) := by decide +kernel
theorem d_ModeKeeper_init_29 : decode b_ModeKeeper_init 29 = .ok (.putfield 24, 3) := by decide +kernel
theorem d_ModeKeeper_init_32 : decode b_ModeKeeper_init 32 = .ok (.aload_n 0, 1) := by decide +kernel
theorem d_ModeKeeper_init_33 : decode b_ModeKeeper_init 33 = .ok (.bipush 8, 2) := by decide +kernel
theorem d_ModeKeeper_init_35 : decode b_ModeKeeper_init 35 = .ok (.newarray .int, 2) := by decide +kernel
theorem d_ModeKeeper_init_37 : decode b_ModeKeeper_init 37 = .ok (.putfield 27, 3) := by decide +kernel
theorem d_ModeKeeper_init_40 : decode b_ModeKeeper_init 40 = .ok (.aload_n 0, 1) := by decide +kernel
theorem d_ModeKeeper_init_41 : decode b_ModeKeeper_init 41 = .ok (.iconst 0, 1) := by decide +kernel
theorem d_ModeKeeper_init_42 : decode b_ModeKeeper_init 42 = .ok (.putfield 30, 3) := by decide +kernel
theorem d_ModeKeeper_init_45 : decode b_ModeKeeper_init 45 = .ok (.aload_n 0, 1) := by decide +kernel
theorem d_ModeKeeper_init_46 : decode b_ModeKeeper_init 46 = .ok (.bipush 8, 2) := by decide +kernel
theorem d_ModeKeeper_init_48 : decode b_ModeKeeper_init 48 = .ok (.anewarray 33, 3) := by decide +kernel
theorem d_ModeKeeper_init_51 : decode b_ModeKeeper_init 51 = .ok (.putfield 35, 3) := by decide +kernel
theorem d_ModeKeeper_init_54 : decode b_ModeKeeper_init 54 = .ok (.aload_n 0, 1) := by decide +kernel
theorem d_ModeKeeper_init_55 : decode b_ModeKeeper_init 55 = .ok (.iconst 0, 1) := by decide +kernel
theorem d_ModeKeeper_init_56 : decode b_ModeKeeper_init 56 = .ok (.putfield 39, 3) := by decide +kernel
theorem d_ModeKeeper_init_59 : decode b_ModeKeeper_init 59 = .ok (.iconst 0, 1) := by decide +kernel
theorem d_ModeKeeper_init_60 : decode b_ModeKeeper_init 60 = .ok (.istore_n 1, 1) := by decide +kernel
theorem d_ModeKeeper_init_61 : decode b_ModeKeeper_init 61 = .ok (.iload_n 1, 1) := by decide +kernel
theorem d_ModeKeeper_init_62 : decode b_ModeKeeper_init 62 = .ok (.bipush 8, 2) := by decide +kernel
theorem d_ModeKeeper_init_64 : decode b_ModeKeeper_init 64 = .ok (.if_icmp .ge 22, 3) := by decide +kernel
theorem d_ModeKeeper_init_67 : decode b_ModeKeeper_init 67 = .ok (.aload_n 0, 1) := by decide +kernel
theorem d_ModeKeeper_init_68 : decode b_ModeKeeper_init 68 = .ok (.getfield 35, 3) := by decide +kernel
theorem d_ModeKeeper_init_71 : decode b_ModeKeeper_init 71 = .ok (.iload_n 1, 1) := by decide +kernel
theorem d_ModeKeeper_init_72 : decode b_ModeKeeper_init 72 = .ok (.new 33, 3) := by decide +kernel
theorem d_ModeKeeper_init_75 : decode b_ModeKeeper_init 75 = .ok (.dup, 1) := by decide +kernel
theorem d_ModeKeeper_init_76 : decode b_ModeKeeper_init 76 = .ok (.invokespecial 42, 3) := by decide +kernel
theorem d_ModeKeeper_init_79 : decode b_ModeKeeper_init 79 = .ok (.aastore, 1) := by decide +kernel
theorem d_ModeKeeper_init_80 : decode b_ModeKeeper_init 80 = .ok (.iinc 1 1, 3) := by decide +kernel
theorem d_ModeKeeper_init_83 : decode b_ModeKeeper_init 83 = .ok (.goto (-22), 3) := by decide +kernel
theorem d_ModeKeeper_init_86 : decode b_ModeKeeper_init 86 = .ok (.return_, 1) := by decide +kernel
theorem d_ModeKeeper_move_0 : decode b_ModeKeeper_move 0 = .ok (.iload_n 1, 1) := by decide +kernel
theorem d_ModeKeeper_move_1 : decode b_ModeKeeper_move 1 = .ok (.invokestatic 43, 3) := by decide +kernel
theorem d_ModeKeeper_move_4 : decode b_ModeKeeper_move 4 = .ok (.ifCond .ne 6, 3) := by decide +kernel
theorem d_ModeKeeper_move_7 : decode b_ModeKeeper_move 7 = .ok (.bipush 18, 2) := by decide +kernel
theorem d_ModeKeeper_move_9 : decode b_ModeKeeper_move 9 = .ok (.ireturn, 1) := by decide +kernel
theorem d_ModeKeeper_move_10 : decode b_ModeKeeper_move 10 = .ok (.aload_n 0, 1) := by decide +kernel
theorem d_ModeKeeper_move_11 : decode b_ModeKeeper_move 11 = .ok (.getfield 13, 3) := by decide +kernel
theorem d_ModeKeeper_move_14 : decode b_ModeKeeper_move 14 = .ok (.ifCond .ne 6, 3) := by decide +kernel
theorem d_ModeKeeper_move_17 : decode b_ModeKeeper_move 17 = .ok (.bipush 19, 2) := by decide +kernel
theorem d_ModeKeeper_move_19 : decode b_ModeKeeper_move 19 = .ok (.ireturn, 1) := by decide +kernel
theorem d_ModeKeeper_move_20 : decode b_ModeKeeper_move 20 = .ok (.aload_n 0, 1) := by decide +kernel
theorem d_ModeKeeper_move_21 : decode b_ModeKeeper_move 21 = .ok (.getfield 9, 3) := by decide +kernel
theorem d_ModeKeeper_move_24 : decode b_ModeKeeper_move 24 = .ok (.iload_n 1, 1) := by decide +kernel
theorem d_ModeKeeper_move_25 : decode b_ModeKeeper_move 25 = .ok (.iload_n 2, 1) := by decide +kernel
theorem d_ModeKeeper_move_26 : decode b_ModeKeeper_move 26 = .ok (.iastore, 1) := by decide +kernel
theorem d_ModeKeeper_move_27 : decode b_ModeKeeper_move 27 = .ok (.iconst 0, 1) := by decide +kernel
theorem d_ModeKeeper_move_28 : decode b_ModeKeeper_move 28 = .ok (.ireturn, 1) := by decide +kernel
theorem d_ModeKeeper_enter_0 : decode b_ModeKeeper_enter 0 = .ok (.iload_n 1, 1) := by decide +kernel
theorem d_ModeKeeper_enter_1 : decode b_ModeKeeper_enter 1 = .ok (.ifCond .lt 8, 3) := by decide +kernel
theorem d_ModeKeeper_enter_4 : decode b_ModeKeeper_enter 4 = .ok (.iload_n 1, 1) := by decide +kernel
theorem d_ModeKeeper_enter_5 : decode b_ModeKeeper_enter 5 = .ok (.iconst 2, 1) := by decide +kernel
theorem d_ModeKeeper_enter_6 : decode b_ModeKeeper_enter 6 = .ok (.if_icmp .le 6, 3) := by decide +kernel
theorem d_ModeKeeper_enter_9 : decode b_ModeKeeper_enter 9 = .ok (.bipush 18, 2) := by decide +kernel
theorem d_ModeKeeper_enter_11 : decode b_ModeKeeper_enter 11 = .ok (.ireturn, 1) := by decide +kernel
theorem d_ModeKeeper_enter_12 : decode b_ModeKeeper_enter 12 = .ok (.aload_n 0, 1) := by decide +kernel
theorem d_ModeKeeper_enter_13 : decode b_ModeKeeper_enter 13 = .ok (.getfield 13, 3) := by decide +kernel
theorem d_ModeKeeper_enter_16 : decode b_ModeKeeper_enter 16 = .ok (.ifCond .ne 11, 3) := by decide +kernel
theorem d_ModeKeeper_enter_19 : decode b_ModeKeeper_enter 19 = .ok (.iload_n 1, 1) := by decide +kernel
theorem d_ModeKeeper_enter_20 : decode b_ModeKeeper_enter 20 = .ok (.iconst 2, 1) := by decide +kernel
theorem d_ModeKeeper_enter_21 : decode b_ModeKeeper_enter 21 = .ok (.if_icmp .ne 6, 3) := by decide +kernel
theorem d_ModeKeeper_enter_24 : decode b_ModeKeeper_enter 24 = .ok (.bipush 19, 2) := by decide +kernel
theorem d_ModeKeeper_enter_26 : decode b_ModeKeeper_enter 26 = .ok (.ireturn, 1) := by decide +kernel
theorem d_ModeKeeper_enter_27 : decode b_ModeKeeper_enter 27 = .ok (.aload_n 0, 1) := by decide +kernel
theorem d_ModeKeeper_enter_28 : decode b_ModeKeeper_enter 28 = .ok (.iload_n 1, 1) := by decide +kernel
theorem d_ModeKeeper_enter_29 : decode b_ModeKeeper_enter 29 = .ok (.invokevirtual 47, 3) := by decide +kernel
theorem d_ModeKeeper_enter_32 : decode b_ModeKeeper_enter 32 = .ok (.pop, 1) := by decide +kernel
theorem d_ModeKeeper_enter_33 : decode b_ModeKeeper_enter 33 = .ok (.iconst 0, 1) := by decide +kernel
theorem d_ModeKeeper_enter_34 : decode b_ModeKeeper_enter 34 = .ok (.ireturn, 1) := by decide +kernel
theorem d_ModeKeeper_alarm_0 : decode b_ModeKeeper_alarm 0 = .ok (.aload_n 0, 1) := by decide +kernel
theorem d_ModeKeeper_alarm_1 : decode b_ModeKeeper_alarm 1 = .ok (.getfield 20, 3) := by decide +kernel
theorem d_ModeKeeper_alarm_4 : decode b_ModeKeeper_alarm 4 = .ok (.ifCond .eq 5, 3) := by decide +kernel
theorem d_ModeKeeper_alarm_7 : decode b_ModeKeeper_alarm 7 = .ok (.iconst 0, 1) := by decide +kernel
theorem d_ModeKeeper_alarm_8 : decode b_ModeKeeper_alarm 8 = .ok (.ireturn, 1) := by decide +kernel
theorem d_ModeKeeper_alarm_9 : decode b_ModeKeeper_alarm 9 = .ok (.aload_n 0, 1) := by decide +kernel
theorem d_ModeKeeper_alarm_10 : decode b_ModeKeeper_alarm 10 = .ok (.iconst 1, 1) := by decide +kernel
theorem d_ModeKeeper_alarm_11 : decode b_ModeKeeper_alarm 11 = .ok (.putfield 20, 3) := by decide +kernel
theorem d_ModeKeeper_alarm_14 : decode b_ModeKeeper_alarm 14 = .ok (.aload_n 0, 1) := by decide +kernel
theorem d_ModeKeeper_alarm_15 : decode b_ModeKeeper_alarm 15 = .ok (.iload_n 1, 1) := by decide +kernel
theorem d_ModeKeeper_alarm_16 : decode b_ModeKeeper_alarm 16 = .ok (.putfield 24, 3) := by decide +kernel
theorem d_ModeKeeper_alarm_19 : decode b_ModeKeeper_alarm 19 = .ok (.iconst 1, 1) := by decide +kernel
theorem d_ModeKeeper_alarm_20 : decode b_ModeKeeper_alarm 20 = .ok (.ireturn, 1) := by decide +kernel
theorem d_ModeKeeper_look_0 : decode b_ModeKeeper_look 0 = .ok (.aload_n 0, 1) := by decide +kernel
theorem d_ModeKeeper_look_1 : decode b_ModeKeeper_look 1 = .ok (.getfield 20, 3) := by decide +kernel
theorem d_ModeKeeper_look_4 : decode b_ModeKeeper_look 4 = .ok (.ifCond .eq 11, 3) := by decide +kernel
theorem d_ModeKeeper_look_7 : decode b_ModeKeeper_look 7 = .ok (.aload_n 0, 1) := by decide +kernel
theorem d_ModeKeeper_look_8 : decode b_ModeKeeper_look 8 = .ok (.getfield 24, 3) := by decide +kernel
theorem d_ModeKeeper_look_11 : decode b_ModeKeeper_look 11 = .ok (.iload_n 1, 1) := by decide +kernel
theorem d_ModeKeeper_look_12 : decode b_ModeKeeper_look 12 = .ok (.if_icmp .le 5, 3) := by decide +kernel
theorem d_ModeKeeper_look_15 : decode b_ModeKeeper_look 15 = .ok (.iconst 0, 1) := by decide +kernel
theorem d_ModeKeeper_look_16 : decode b_ModeKeeper_look 16 = .ok (.ireturn, 1) := by decide +kernel
theorem d_ModeKeeper_look_17 : decode b_ModeKeeper_look 17 = .ok (.aload_n 0, 1) := by decide +kernel
theorem d_ModeKeeper_look_18 : decode b_ModeKeeper_look 18 = .ok (.iconst 0, 1) := by decide +kernel
theorem d_ModeKeeper_look_19 : decode b_ModeKeeper_look 19 = .ok (.putfield 20, 3) := by decide +kernel
theorem d_ModeKeeper_look_22 : decode b_ModeKeeper_look 22 = .ok (.aload_n 0, 1) := by decide +kernel
theorem d_ModeKeeper_look_23 : decode b_ModeKeeper_look 23 = .ok (.iconst 0, 1) := by decide +kernel
theorem d_ModeKeeper_look_24 : decode b_ModeKeeper_look 24 = .ok (.invokevirtual 47, 3) := by decide +kernel
theorem d_ModeKeeper_look_27 : decode b_ModeKeeper_look 27 = .ok (.ireturn, 1) := by decide +kernel
theorem d_ModeKeeper_put_0 : decode b_ModeKeeper_put 0 = .ok (.iload_n 1, 1) := by decide +kernel
theorem d_ModeKeeper_put_1 : decode b_ModeKeeper_put 1 = .ok (.ifCond .lt 18, 3) := by decide +kernel
theorem d_ModeKeeper_put_4 : decode b_ModeKeeper_put 4 = .ok (.iload_n 1, 1) := by decide +kernel
theorem d_ModeKeeper_put_5 : decode b_ModeKeeper_put 5 = .ok (.bipush 31, 2) := by decide +kernel
theorem d_ModeKeeper_put_7 : decode b_ModeKeeper_put 7 = .ok (.if_icmp .gt 12, 3) := by decide +kernel
theorem d_ModeKeeper_put_10 : decode b_ModeKeeper_put 10 = .ok (.aload_n 0, 1) := by decide +kernel
theorem d_ModeKeeper_put_11 : decode b_ModeKeeper_put 11 = .ok (.getfield 30, 3) := by decide +kernel
theorem d_ModeKeeper_put_14 : decode b_ModeKeeper_put 14 = .ok (.bipush 8, 2) := by decide +kernel
theorem d_ModeKeeper_put_16 : decode b_ModeKeeper_put 16 = .ok (.if_icmp .lt 5, 3) := by decide +kernel
theorem d_ModeKeeper_put_19 : decode b_ModeKeeper_put 19 = .ok (.iconst (-1), 1) := by decide +kernel
theorem d_ModeKeeper_put_20 : decode b_ModeKeeper_put 20 = .ok (.ireturn, 1) := by decide +kernel
theorem d_ModeKeeper_put_21 : decode b_ModeKeeper_put 21 = .ok (.aload_n 0, 1) := by decide +kernel
theorem d_ModeKeeper_put_22 : decode b_ModeKeeper_put 22 = .ok (.getfield 27, 3) := by decide +kernel
theorem d_ModeKeeper_put_25 : decode b_ModeKeeper_put 25 = .ok (.aload_n 0, 1) := by decide +kernel
theorem d_ModeKeeper_put_26 : decode b_ModeKeeper_put 26 = .ok (.getfield 30, 3) := by decide +kernel
theorem d_ModeKeeper_put_29 : decode b_ModeKeeper_put 29 = .ok (.iload_n 1, 1) := by decide +kernel
theorem d_ModeKeeper_put_30 : decode b_ModeKeeper_put 30 = .ok (.iastore, 1) := by decide +kernel
theorem d_ModeKeeper_put_31 : decode b_ModeKeeper_put 31 = .ok (.aload_n 0, 1) := by decide +kernel
theorem d_ModeKeeper_put_32 : decode b_ModeKeeper_put 32 = .ok (.dup, 1) := by decide +kernel
theorem d_ModeKeeper_put_33 : decode b_ModeKeeper_put 33 = .ok (.getfield 30, 3) := by decide +kernel
theorem d_ModeKeeper_put_36 : decode b_ModeKeeper_put 36 = .ok (.iconst 1, 1) := by decide +kernel
theorem d_ModeKeeper_put_37 : decode b_ModeKeeper_put 37 = .ok (.iadd, 1) := by decide +kernel
theorem d_ModeKeeper_put_38 : decode b_ModeKeeper_put 38 = .ok (.putfield 30, 3) := by decide +kernel
theorem d_ModeKeeper_put_41 : decode b_ModeKeeper_put 41 = .ok (.aload_n 0, 1) := by decide +kernel
theorem d_ModeKeeper_put_42 : decode b_ModeKeeper_put 42 = .ok (.getfield 30, 3) := by decide +kernel
theorem d_ModeKeeper_put_45 : decode b_ModeKeeper_put 45 = .ok (.ireturn, 1) := by decide +kernel
theorem d_ModeKeeper_form_0 : decode b_ModeKeeper_form 0 = .ok (.aload_n 0, 1) := by decide +kernel
theorem d_ModeKeeper_form_1 : decode b_ModeKeeper_form 1 = .ok (.iload_n 1, 1) := by decide +kernel
theorem d_ModeKeeper_form_2 : decode b_ModeKeeper_form 2 = .ok (.iload_n 2, 1) := by decide +kernel
theorem d_ModeKeeper_form_3 : decode b_ModeKeeper_form 3 = .ok (.invokevirtual 50, 3) := by decide +kernel
theorem d_ModeKeeper_form_6 : decode b_ModeKeeper_form 6 = .ok (.istore_n 3, 1) := by decide +kernel
theorem d_ModeKeeper_form_7 : decode b_ModeKeeper_form 7 = .ok (.iload_n 3, 1) := by decide +kernel
theorem d_ModeKeeper_form_8 : decode b_ModeKeeper_form 8 = .ok (.ifCond .ne 9, 3) := by decide +kernel
theorem d_ModeKeeper_form_11 : decode b_ModeKeeper_form 11 = .ok (.aload_n 0, 1) := by decide +kernel
theorem d_ModeKeeper_form_12 : decode b_ModeKeeper_form 12 = .ok (.iload_n 1, 1) := by decide +kernel
theorem d_ModeKeeper_form_13 : decode b_ModeKeeper_form 13 = .ok (.iload_n 2, 1) := by decide +kernel
theorem d_ModeKeeper_form_14 : decode b_ModeKeeper_form 14 = .ok (.invokevirtual 54, 3) := by decide +kernel
theorem d_ModeKeeper_form_17 : decode b_ModeKeeper_form 17 = .ok (.aload_n 0, 1) := by decide +kernel
theorem d_ModeKeeper_form_18 : decode b_ModeKeeper_form 18 = .ok (.iconst 0, 1) := by decide +kernel
theorem d_ModeKeeper_form_19 : decode b_ModeKeeper_form 19 = .ok (.putfield 30, 3) := by decide +kernel
theorem d_ModeKeeper_form_22 : decode b_ModeKeeper_form 22 = .ok (.iload_n 3, 1) := by decide +kernel
theorem d_ModeKeeper_form_23 : decode b_ModeKeeper_form 23 = .ok (.ireturn, 1) := by decide +kernel
theorem d_ModeKeeper_remove_0 : decode b_ModeKeeper_remove 0 = .ok (.aload_n 0, 1) := by decide +kernel
theorem d_ModeKeeper_remove_1 : decode b_ModeKeeper_remove 1 = .ok (.iload_n 1, 1) := by decide +kernel
theorem d_ModeKeeper_remove_2 : decode b_ModeKeeper_remove 2 = .ok (.invokevirtual 58, 3) := by decide +kernel
theorem d_ModeKeeper_remove_5 : decode b_ModeKeeper_remove 5 = .ok (.astore_n 2, 1) := by decide +kernel
theorem d_ModeKeeper_remove_6 : decode b_ModeKeeper_remove 6 = .ok (.aload_n 2, 1) := by decide +kernel
theorem d_ModeKeeper_remove_7 : decode b_ModeKeeper_remove 7 = .ok (.ifnonnull 6, 3) := by decide +kernel
theorem d_ModeKeeper_remove_10 : decode b_ModeKeeper_remove 10 = .ok (.bipush 14, 2) := by decide +kernel
theorem d_ModeKeeper_remove_12 : decode b_ModeKeeper_remove 12 = .ok (.ireturn, 1) := by decide +kernel
theorem d_ModeKeeper_remove_13 : decode b_ModeKeeper_remove 13 = .ok (.aload_n 2, 1) := by decide +kernel
theorem d_ModeKeeper_remove_14 : decode b_ModeKeeper_remove 14 = .ok (.getfield 62, 3) := by decide +kernel
theorem d_ModeKeeper_remove_17 : decode b_ModeKeeper_remove 17 = .ok (.ifCond .eq 6, 3) := by decide +kernel
theorem d_ModeKeeper_remove_20 : decode b_ModeKeeper_remove 20 = .ok (.bipush 15, 2) := by decide +kernel
theorem d_ModeKeeper_remove_22 : decode b_ModeKeeper_remove 22 = .ok (.ireturn, 1) := by decide +kernel
theorem d_ModeKeeper_remove_23 : decode b_ModeKeeper_remove 23 = .ok (.aload_n 2, 1) := by decide +kernel
theorem d_ModeKeeper_remove_24 : decode b_ModeKeeper_remove 24 = .ok (.iconst 0, 1) := by decide +kernel
theorem d_ModeKeeper_remove_25 : decode b_ModeKeeper_remove 25 = .ok (.putfield 65, 3) := by decide +kernel
theorem d_ModeKeeper_remove_28 : decode b_ModeKeeper_remove 28 = .ok (.aload_n 0, 1) := by decide +kernel
theorem d_ModeKeeper_remove_29 : decode b_ModeKeeper_remove 29 = .ok (.dup, 1) := by decide +kernel
theorem d_ModeKeeper_remove_30 : decode b_ModeKeeper_remove 30 = .ok (.getfield 39, 3) := by decide +kernel
theorem d_ModeKeeper_remove_33 : decode b_ModeKeeper_remove 33 = .ok (.iconst 1, 1) := by decide +kernel
theorem d_ModeKeeper_remove_34 : decode b_ModeKeeper_remove 34 = .ok (.isub, 1) := by decide +kernel
theorem d_ModeKeeper_remove_35 : decode b_ModeKeeper_remove 35 = .ok (.putfield 39, 3) := by decide +kernel
theorem d_ModeKeeper_remove_38 : decode b_ModeKeeper_remove 38 = .ok (.iconst 0, 1) := by decide +kernel
theorem d_ModeKeeper_remove_39 : decode b_ModeKeeper_remove 39 = .ok (.ireturn, 1) := by decide +kernel
theorem d_ModeKeeper_enable_0 : decode b_ModeKeeper_enable 0 = .ok (.aload_n 0, 1) := by decide +kernel
theorem d_ModeKeeper_enable_1 : decode b_ModeKeeper_enable 1 = .ok (.iload_n 1, 1) := by decide +kernel
theorem d_ModeKeeper_enable_2 : decode b_ModeKeeper_enable 2 = .ok (.invokevirtual 58, 3) := by decide +kernel
theorem d_ModeKeeper_enable_5 : decode b_ModeKeeper_enable 5 = .ok (.astore_n 3, 1) := by decide +kernel
theorem d_ModeKeeper_enable_6 : decode b_ModeKeeper_enable 6 = .ok (.aload_n 3, 1) := by decide +kernel
theorem d_ModeKeeper_enable_7 : decode b_ModeKeeper_enable 7 = .ok (.ifnonnull 6, 3) := by decide +kernel
theorem d_ModeKeeper_enable_10 : decode b_ModeKeeper_enable 10 = .ok (.bipush 14, 2) := by decide +kernel
theorem d_ModeKeeper_enable_12 : decode b_ModeKeeper_enable 12 = .ok (.ireturn, 1) := by decide +kernel
theorem d_ModeKeeper_enable_13 : decode b_ModeKeeper_enable 13 = .ok (.aload_n 3, 1) := by decide +kernel
theorem d_ModeKeeper_enable_14 : decode b_ModeKeeper_enable 14 = .ok (.iload_n 2, 1) := by decide +kernel
theorem d_ModeKeeper_enable_15 : decode b_ModeKeeper_enable 15 = .ok (.putfield 62, 3) := by decide +kernel
theorem d_ModeKeeper_enable_18 : decode b_ModeKeeper_enable 18 = .ok (.iconst 0, 1) := by decide +kernel
theorem d_ModeKeeper_enable_19 : decode b_ModeKeeper_enable 19 = .ok (.ireturn, 1) := by decide +kernel
theorem d_ModeKeeper_due_0 : decode b_ModeKeeper_due 0 = .ok (.iconst (-1), 1) := by decide +kernel
theorem d_ModeKeeper_due_1 : decode b_ModeKeeper_due 1 = .ok (.istore_n 3, 1) := by decide +kernel
theorem d_ModeKeeper_due_2 : decode b_ModeKeeper_due 2 = .ok (.iconst 0, 1) := by decide +kernel
theorem d_ModeKeeper_due_3 : decode b_ModeKeeper_due 3 = .ok (.istore 4, 2) := by decide +kernel
theorem d_ModeKeeper_due_5 : decode b_ModeKeeper_due 5 = .ok (.iload 4, 2) := by decide +kernel
theorem d_ModeKeeper_due_7 : decode b_ModeKeeper_due 7 = .ok (.bipush 8, 2) := by decide +kernel
theorem d_ModeKeeper_due_9 : decode b_ModeKeeper_due 9 = .ok (.if_icmp .ge 75, 3) := by decide +kernel
theorem d_ModeKeeper_due_12 : decode b_ModeKeeper_due 12 = .ok (.aload_n 0, 1) := by decide +kernel
theorem d_ModeKeeper_due_13 : decode b_ModeKeeper_due 13 = .ok (.getfield 35, 3) := by decide +kernel
theorem d_ModeKeeper_due_16 : decode b_ModeKeeper_due 16 = .ok (.iload 4, 2) := by decide +kernel
theorem d_ModeKeeper_due_18 : decode b_ModeKeeper_due 18 = .ok (.aaload, 1) := by decide +kernel
theorem d_ModeKeeper_due_19 : decode b_ModeKeeper_due 19 = .ok (.astore 5, 2) := by decide +kernel
theorem d_ModeKeeper_due_21 : decode b_ModeKeeper_due 21 = .ok (.aload 5, 2) := by decide +kernel
theorem d_ModeKeeper_due_23 : decode b_ModeKeeper_due 23 = .ok (.getfield 65, 3) := by decide +kernel
theorem d_ModeKeeper_due_26 : decode b_ModeKeeper_due 26 = .ok (.ifCond .eq 52, 3) := by decide +kernel
theorem d_ModeKeeper_due_29 : decode b_ModeKeeper_due 29 = .ok (.aload 5, 2) := by decide +kernel
theorem d_ModeKeeper_due_31 : decode b_ModeKeeper_due 31 = .ok (.getfield 62, 3) := by decide +kernel
theorem d_ModeKeeper_due_34 : decode b_ModeKeeper_due 34 = .ok (.ifCond .eq 44, 3) := by decide +kernel
theorem d_ModeKeeper_due_37 : decode b_ModeKeeper_due 37 = .ok (.aload 5, 2) := by decide +kernel
theorem d_ModeKeeper_due_39 : decode b_ModeKeeper_due 39 = .ok (.getfield 68, 3) := by decide +kernel
theorem d_ModeKeeper_due_42 : decode b_ModeKeeper_due 42 = .ok (.iload_n 2, 1) := by decide +kernel
theorem d_ModeKeeper_due_43 : decode b_ModeKeeper_due 43 = .ok (.if_icmp .lt 35, 3) := by decide +kernel
theorem d_ModeKeeper_due_46 : decode b_ModeKeeper_due 46 = .ok (.aload 5, 2) := by decide +kernel
theorem d_ModeKeeper_due_48 : decode b_ModeKeeper_due 48 = .ok (.getfield 71, 3) := by decide +kernel
theorem d_ModeKeeper_due_51 : decode b_ModeKeeper_due 51 = .ok (.iload_n 1, 1) := by decide +kernel
theorem d_ModeKeeper_due_52 : decode b_ModeKeeper_due 52 = .ok (.invokestatic 74, 3) := by decide +kernel
theorem d_ModeKeeper_due_55 : decode b_ModeKeeper_due 55 = .ok (.ifCond .eq 23, 3) := by decide +kernel
theorem d_ModeKeeper_due_58 : decode b_ModeKeeper_due 58 = .ok (.iload_n 3, 1) := by decide +kernel
theorem d_ModeKeeper_due_59 : decode b_ModeKeeper_due 59 = .ok (.iconst (-1), 1) := by decide +kernel
theorem d_ModeKeeper_due_60 : decode b_ModeKeeper_due 60 = .ok (.if_icmp .eq 12, 3) := by decide +kernel
theorem d_ModeKeeper_due_63 : decode b_ModeKeeper_due 63 = .ok (.aload 5, 2) := by decide +kernel
theorem d_ModeKeeper_due_65 : decode b_ModeKeeper_due 65 = .ok (.getfield 68, 3) := by decide +kernel
theorem d_ModeKeeper_due_68 : decode b_ModeKeeper_due 68 = .ok (.iload_n 3, 1) := by decide +kernel
theorem d_ModeKeeper_due_69 : decode b_ModeKeeper_due 69 = .ok (.if_icmp .ge 9, 3) := by decide +kernel
theorem d_ModeKeeper_due_72 : decode b_ModeKeeper_due 72 = .ok (.aload 5, 2) := by decide +kernel
theorem d_ModeKeeper_due_74 : decode b_ModeKeeper_due 74 = .ok (.getfield 68, 3) := by decide +kernel
theorem d_ModeKeeper_due_77 : decode b_ModeKeeper_due 77 = .ok (.istore_n 3, 1) := by decide +kernel
theorem d_ModeKeeper_due_78 : decode b_ModeKeeper_due 78 = .ok (.iinc 4 1, 3) := by decide +kernel
theorem d_ModeKeeper_due_81 : decode b_ModeKeeper_due 81 = .ok (.goto (-76), 3) := by decide +kernel
theorem d_ModeKeeper_due_84 : decode b_ModeKeeper_due 84 = .ok (.iload_n 3, 1) := by decide +kernel
theorem d_ModeKeeper_due_85 : decode b_ModeKeeper_due 85 = .ok (.ireturn, 1) := by decide +kernel
theorem d_ModeKeeper_parameter_0 : decode b_ModeKeeper_parameter 0 = .ok (.aload_n 0, 1) := by decide +kernel
theorem d_ModeKeeper_parameter_1 : decode b_ModeKeeper_parameter 1 = .ok (.iload_n 1, 1) := by decide +kernel
theorem d_ModeKeeper_parameter_2 : decode b_ModeKeeper_parameter 2 = .ok (.invokevirtual 58, 3) := by decide +kernel
theorem d_ModeKeeper_parameter_5 : decode b_ModeKeeper_parameter 5 = .ok (.astore_n 3, 1) := by decide +kernel
theorem d_ModeKeeper_parameter_6 : decode b_ModeKeeper_parameter 6 = .ok (.aload_n 3, 1) := by decide +kernel
theorem d_ModeKeeper_parameter_7 : decode b_ModeKeeper_parameter 7 = .ok (.ifnonnull 5, 3) := by decide +kernel
theorem d_ModeKeeper_parameter_10 : decode b_ModeKeeper_parameter 10 = .ok (.iconst (-1), 1) := by decide +kernel
theorem d_ModeKeeper_parameter_11 : decode b_ModeKeeper_parameter 11 = .ok (.ireturn, 1) := by decide +kernel
theorem d_ModeKeeper_parameter_12 : decode b_ModeKeeper_parameter 12 = .ok (.iload_n 2, 1) := by decide +kernel
theorem d_ModeKeeper_parameter_13 : decode b_ModeKeeper_parameter 13 = .ok (.iconst (-1), 1) := by decide +kernel
theorem d_ModeKeeper_parameter_14 : decode b_ModeKeeper_parameter 14 = .ok (.if_icmp .ne 8, 3) := by decide +kernel
theorem d_ModeKeeper_parameter_17 : decode b_ModeKeeper_parameter 17 = .ok (.aload_n 3, 1) := by decide +kernel
theorem d_ModeKeeper_parameter_18 : decode b_ModeKeeper_parameter 18 = .ok (.getfield 78, 3) := by decide +kernel
theorem d_ModeKeeper_parameter_21 : decode b_ModeKeeper_parameter 21 = .ok (.ireturn, 1) := by decide +kernel
theorem d_ModeKeeper_parameter_22 : decode b_ModeKeeper_parameter 22 = .ok (.iload_n 2, 1) := by decide +kernel
theorem d_ModeKeeper_parameter_23 : decode b_ModeKeeper_parameter 23 = .ok (.ifCond .lt 11, 3) := by decide +kernel
theorem d_ModeKeeper_parameter_26 : decode b_ModeKeeper_parameter 26 = .ok (.iload_n 2, 1) := by decide +kernel
theorem d_ModeKeeper_parameter_27 : decode b_ModeKeeper_parameter 27 = .ok (.aload_n 3, 1) := by decide +kernel
theorem d_ModeKeeper_parameter_28 : decode b_ModeKeeper_parameter 28 = .ok (.getfield 78, 3) := by decide +kernel
theorem d_ModeKeeper_parameter_31 : decode b_ModeKeeper_parameter 31 = .ok (.if_icmp .lt 5, 3) := by decide +kernel
theorem d_ModeKeeper_parameter_34 : decode b_ModeKeeper_parameter 34 = .ok (.iconst (-1), 1) := by decide +kernel
theorem d_ModeKeeper_parameter_35 : decode b_ModeKeeper_parameter 35 = .ok (.ireturn, 1) := by decide +kernel
theorem d_ModeKeeper_parameter_36 : decode b_ModeKeeper_parameter 36 = .ok (.aload_n 3, 1) := by decide +kernel
theorem d_ModeKeeper_parameter_37 : decode b_ModeKeeper_parameter 37 = .ok (.getfield 81, 3) := by decide +kernel
theorem d_ModeKeeper_parameter_40 : decode b_ModeKeeper_parameter 40 = .ok (.iload_n 2, 1) := by decide +kernel
theorem d_ModeKeeper_parameter_41 : decode b_ModeKeeper_parameter 41 = .ok (.iaload, 1) := by decide +kernel
theorem d_ModeKeeper_parameter_42 : decode b_ModeKeeper_parameter 42 = .ok (.ireturn, 1) := by decide +kernel
theorem d_ModeKeeper_value_0 : decode b_ModeKeeper_value 0 = .ok (.iload_n 1, 1) := by decide +kernel
theorem d_ModeKeeper_value_1 : decode b_ModeKeeper_value 1 = .ok (.invokestatic 43, 3) := by decide +kernel
theorem d_ModeKeeper_value_4 : decode b_ModeKeeper_value 4 = .ok (.ifCond .eq 10, 3) := by decide +kernel
theorem d_ModeKeeper_value_7 : decode b_ModeKeeper_value 7 = .ok (.aload_n 0, 1) := by decide +kernel
theorem d_ModeKeeper_value_8 : decode b_ModeKeeper_value 8 = .ok (.getfield 9, 3) := by decide +kernel
theorem d_ModeKeeper_value_11 : decode b_ModeKeeper_value 11 = .ok (.iload_n 1, 1) := by decide +kernel
theorem d_ModeKeeper_value_12 : decode b_ModeKeeper_value 12 = .ok (.iaload, 1) := by decide +kernel
theorem d_ModeKeeper_value_13 : decode b_ModeKeeper_value 13 = .ok (.ireturn, 1) := by decide +kernel
theorem d_ModeKeeper_value_14 : decode b_ModeKeeper_value 14 = .ok (.iload_n 1, 1) := by decide +kernel
theorem d_ModeKeeper_value_15 : decode b_ModeKeeper_value 15 = .ok (.tableswitch 60 8 11 #[29, 34, 50, 55], 29) := by decide +kernel
theorem d_ModeKeeper_value_44 : decode b_ModeKeeper_value 44 = .ok (.aload_n 0, 1) := by decide +kernel
theorem d_ModeKeeper_value_45 : decode b_ModeKeeper_value 45 = .ok (.getfield 13, 3) := by decide +kernel
theorem d_ModeKeeper_value_48 : decode b_ModeKeeper_value 48 = .ok (.ireturn, 1) := by decide +kernel
theorem d_ModeKeeper_value_49 : decode b_ModeKeeper_value 49 = .ok (.aload_n 0, 1) := by decide +kernel
theorem d_ModeKeeper_value_50 : decode b_ModeKeeper_value 50 = .ok (.getfield 20, 3) := by decide +kernel
theorem d_ModeKeeper_value_53 : decode b_ModeKeeper_value 53 = .ok (.ifCond .eq 10, 3) := by decide +kernel
theorem d_ModeKeeper_value_56 : decode b_ModeKeeper_value 56 = .ok (.aload_n 0, 1) := by decide +kernel
theorem d_ModeKeeper_value_57 : decode b_ModeKeeper_value 57 = .ok (.getfield 24, 3) := by decide +kernel
theorem d_ModeKeeper_value_60 : decode b_ModeKeeper_value 60 = .ok (.goto 4, 3) := by decide +kernel
theorem d_ModeKeeper_value_63 : decode b_ModeKeeper_value 63 = .ok (.iconst (-1), 1) := by decide +kernel
theorem d_ModeKeeper_value_64 : decode b_ModeKeeper_value 64 = .ok (.ireturn, 1) := by decide +kernel
theorem d_ModeKeeper_value_65 : decode b_ModeKeeper_value 65 = .ok (.aload_n 0, 1) := by decide +kernel
theorem d_ModeKeeper_value_66 : decode b_ModeKeeper_value 66 = .ok (.getfield 17, 3) := by decide +kernel
theorem d_ModeKeeper_value_69 : decode b_ModeKeeper_value 69 = .ok (.ireturn, 1) := by decide +kernel
theorem d_ModeKeeper_value_70 : decode b_ModeKeeper_value 70 = .ok (.aload_n 0, 1) := by decide +kernel
theorem d_ModeKeeper_value_71 : decode b_ModeKeeper_value 71 = .ok (.getfield 39, 3) := by decide +kernel
theorem d_ModeKeeper_value_74 : decode b_ModeKeeper_value 74 = .ok (.ireturn, 1) := by decide +kernel
theorem d_ModeKeeper_value_75 : decode b_ModeKeeper_value 75 = .ok (.iconst 0, 1) := by decide +kernel
theorem d_ModeKeeper_value_76 : decode b_ModeKeeper_value 76 = .ok (.ireturn, 1) := by decide +kernel
theorem d_ModeKeeper_about_0 : decode b_ModeKeeper_about 0 = .ok (.aload_n 0, 1) := by decide +kernel
theorem d_ModeKeeper_about_1 : decode b_ModeKeeper_about 1 = .ok (.iload_n 1, 1) := by decide +kernel
theorem d_ModeKeeper_about_2 : decode b_ModeKeeper_about 2 = .ok (.invokevirtual 58, 3) := by decide +kernel
theorem d_ModeKeeper_about_5 : decode b_ModeKeeper_about 5 = .ok (.astore_n 3, 1) := by decide +kernel
theorem d_ModeKeeper_about_6 : decode b_ModeKeeper_about 6 = .ok (.aload_n 3, 1) := by decide +kernel
theorem d_ModeKeeper_about_7 : decode b_ModeKeeper_about 7 = .ok (.ifnonnull 5, 3) := by decide +kernel
theorem d_ModeKeeper_about_10 : decode b_ModeKeeper_about 10 = .ok (.iconst (-1), 1) := by decide +kernel
theorem d_ModeKeeper_about_11 : decode b_ModeKeeper_about 11 = .ok (.ireturn, 1) := by decide +kernel
theorem d_ModeKeeper_about_12 : decode b_ModeKeeper_about 12 = .ok (.iload_n 2, 1) := by decide +kernel
theorem d_ModeKeeper_about_13 : decode b_ModeKeeper_about 13 = .ok (.lookupswitch 45 #[(0, 27), (1, 32)], 27) := by decide +kernel
theorem d_ModeKeeper_about_40 : decode b_ModeKeeper_about 40 = .ok (.aload_n 3, 1) := by decide +kernel
theorem d_ModeKeeper_about_41 : decode b_ModeKeeper_about 41 = .ok (.getfield 71, 3) := by decide +kernel
theorem d_ModeKeeper_about_44 : decode b_ModeKeeper_about 44 = .ok (.ireturn, 1) := by decide +kernel
theorem d_ModeKeeper_about_45 : decode b_ModeKeeper_about 45 = .ok (.aload_n 3, 1) := by decide +kernel
theorem d_ModeKeeper_about_46 : decode b_ModeKeeper_about 46 = .ok (.getfield 62, 3) := by decide +kernel
theorem d_ModeKeeper_about_49 : decode b_ModeKeeper_about 49 = .ok (.ifCond .eq 7, 3) := by decide +kernel
theorem d_ModeKeeper_about_52 : decode b_ModeKeeper_about 52 = .ok (.iconst 1, 1) := by decide +kernel
theorem d_ModeKeeper_about_53 : decode b_ModeKeeper_about 53 = .ok (.goto 4, 3) := by decide +kernel
theorem d_ModeKeeper_about_56 : decode b_ModeKeeper_about 56 = .ok (.iconst 0, 1) := by decide +kernel
theorem d_ModeKeeper_about_57 : decode b_ModeKeeper_about 57 = .ok (.ireturn, 1) := by decide +kernel
theorem d_ModeKeeper_about_58 : decode b_ModeKeeper_about 58 = .ok (.iconst (-1), 1) := by decide +kernel
theorem d_ModeKeeper_about_59 : decode b_ModeKeeper_about 59 = .ok (.ireturn, 1) := by decide +kernel
theorem d_ModeKeeper_isActuator_0 : decode b_ModeKeeper_isActuator 0 = .ok (.iload_n 0, 1) := by decide +kernel
theorem d_ModeKeeper_isActuator_1 : decode b_ModeKeeper_isActuator 1 = .ok (.ifCond .lt 13, 3) := by decide +kernel
theorem d_ModeKeeper_isActuator_4 : decode b_ModeKeeper_isActuator 4 = .ok (.iload_n 0, 1) := by decide +kernel
theorem d_ModeKeeper_isActuator_5 : decode b_ModeKeeper_isActuator 5 = .ok (.bipush 8, 2) := by decide +kernel
theorem d_ModeKeeper_isActuator_7 : decode b_ModeKeeper_isActuator 7 = .ok (.if_icmp .ge 7, 3) := by decide +kernel
theorem d_ModeKeeper_isActuator_10 : decode b_ModeKeeper_isActuator 10 = .ok (.iconst 1, 1) := by decide +kernel
theorem d_ModeKeeper_isActuator_11 : decode b_ModeKeeper_isActuator 11 = .ok (.goto 4, 3) := by decide +kernel
theorem d_ModeKeeper_isActuator_14 : decode b_ModeKeeper_isActuator 14 = .ok (.iconst 0, 1) := by decide +kernel
theorem d_ModeKeeper_isActuator_15 : decode b_ModeKeeper_isActuator 15 = .ok (.ireturn, 1) := by decide +kernel
theorem d_ModeKeeper_divides_0 : decode b_ModeKeeper_divides 0 = .ok (.iload_n 0, 1) := by decide +kernel
theorem d_ModeKeeper_divides_1 : decode b_ModeKeeper_divides 1 = .ok (.ifCond .le 13, 3) := by decide +kernel
theorem d_ModeKeeper_divides_4 : decode b_ModeKeeper_divides 4 = .ok (.iload_n 1, 1) := by decide +kernel
theorem d_ModeKeeper_divides_5 : decode b_ModeKeeper_divides 5 = .ok (.iload_n 0, 1) := by decide +kernel
theorem d_ModeKeeper_divides_6 : decode b_ModeKeeper_divides 6 = .ok (.irem, 1) := by decide +kernel
theorem d_ModeKeeper_divides_7 : decode b_ModeKeeper_divides 7 = .ok (.ifCond .ne 7, 3) := by decide +kernel
theorem d_ModeKeeper_divides_10 : decode b_ModeKeeper_divides 10 = .ok (.iconst 1, 1) := by decide +kernel
theorem d_ModeKeeper_divides_11 : decode b_ModeKeeper_divides 11 = .ok (.goto 4, 3) := by decide +kernel
theorem d_ModeKeeper_divides_14 : decode b_ModeKeeper_divides 14 = .ok (.iconst 0, 1) := by decide +kernel
theorem d_ModeKeeper_divides_15 : decode b_ModeKeeper_divides 15 = .ok (.ireturn, 1) := by decide +kernel
theorem d_ModeKeeper_changeMode_0 : decode b_ModeKeeper_changeMode 0 = .ok (.aload_n 0, 1) := by decide +kernel
theorem d_ModeKeeper_changeMode_1 : decode b_ModeKeeper_changeMode 1 = .ok (.getfield 13, 3) := by decide +kernel
theorem d_ModeKeeper_changeMode_4 : decode b_ModeKeeper_changeMode 4 = .ok (.iload_n 1, 1) := by decide +kernel
theorem d_ModeKeeper_changeMode_5 : decode b_ModeKeeper_changeMode 5 = .ok (.if_icmp .ne 5, 3) := by decide +kernel
theorem d_ModeKeeper_changeMode_8 : decode b_ModeKeeper_changeMode 8 = .ok (.iconst 0, 1) := by decide +kernel
theorem d_ModeKeeper_changeMode_9 : decode b_ModeKeeper_changeMode 9 = .ok (.ireturn, 1) := by decide +kernel
theorem d_ModeKeeper_changeMode_10 : decode b_ModeKeeper_changeMode 10 = .ok (.aload_n 0, 1) := by decide +kernel
theorem d_ModeKeeper_changeMode_11 : decode b_ModeKeeper_changeMode 11 = .ok (.iload_n 1, 1) := by decide +kernel
theorem d_ModeKeeper_changeMode_12 : decode b_ModeKeeper_changeMode 12 = .ok (.putfield 13, 3) := by decide +kernel
theorem d_ModeKeeper_changeMode_15 : decode b_ModeKeeper_changeMode 15 = .ok (.aload_n 0, 1) := by decide +kernel
theorem d_ModeKeeper_changeMode_16 : decode b_ModeKeeper_changeMode 16 = .ok (.dup, 1) := by decide +kernel
theorem d_ModeKeeper_changeMode_17 : decode b_ModeKeeper_changeMode 17 = .ok (.getfield 17, 3) := by decide +kernel
theorem d_ModeKeeper_changeMode_20 : decode b_ModeKeeper_changeMode 20 = .ok (.iconst 1, 1) := by decide +kernel
theorem d_ModeKeeper_changeMode_21 : decode b_ModeKeeper_changeMode 21 = .ok (.iadd, 1) := by decide +kernel
theorem d_ModeKeeper_changeMode_22 : decode b_ModeKeeper_changeMode 22 = .ok (.putfield 17, 3) := by decide +kernel
theorem d_ModeKeeper_changeMode_25 : decode b_ModeKeeper_changeMode 25 = .ok (.iload_n 1, 1) := by decide +kernel
theorem d_ModeKeeper_changeMode_26 : decode b_ModeKeeper_changeMode 26 = .ok (.ifCond .ne 17, 3) := by decide +kernel
theorem d_ModeKeeper_changeMode_29 : decode b_ModeKeeper_changeMode 29 = .ok (.getstatic 84, 3) := by decide +kernel
theorem d_ModeKeeper_changeMode_32 : decode b_ModeKeeper_changeMode 32 = .ok (.iconst 0, 1) := by decide +kernel
theorem d_ModeKeeper_changeMode_33 : decode b_ModeKeeper_changeMode 33 = .ok (.aload_n 0, 1) := by decide +kernel
theorem d_ModeKeeper_changeMode_34 : decode b_ModeKeeper_changeMode 34 = .ok (.getfield 9, 3) := by decide +kernel
theorem d_ModeKeeper_changeMode_37 : decode b_ModeKeeper_changeMode 37 = .ok (.iconst 0, 1) := by decide +kernel
theorem d_ModeKeeper_changeMode_38 : decode b_ModeKeeper_changeMode 38 = .ok (.bipush 8, 2) := by decide +kernel
theorem d_ModeKeeper_changeMode_40 : decode b_ModeKeeper_changeMode 40 = .ok (.invokestatic 87, 3) := by decide +kernel
theorem d_ModeKeeper_changeMode_43 : decode b_ModeKeeper_changeMode 43 = .ok (.iconst 1, 1) := by decide +kernel
theorem d_ModeKeeper_changeMode_44 : decode b_ModeKeeper_changeMode 44 = .ok (.ireturn, 1) := by decide +kernel
theorem d_ModeKeeper_failureOfNewForm_0 : decode b_ModeKeeper_failureOfNewForm 0 = .ok (.aload_n 0, 1) := by decide +kernel
theorem d_ModeKeeper_failureOfNewForm_1 : decode b_ModeKeeper_failureOfNewForm 1 = .ok (.getfield 30, 3) := by decide +kernel
theorem d_ModeKeeper_failureOfNewForm_4 : decode b_ModeKeeper_failureOfNewForm 4 = .ok (.ifCond .eq 26, 3) := by decide +kernel
theorem d_ModeKeeper_failureOfNewForm_7 : decode b_ModeKeeper_failureOfNewForm 7 = .ok (.iload_n 2, 1) := by decide +kernel
theorem d_ModeKeeper_failureOfNewForm_8 : decode b_ModeKeeper_failureOfNewForm 8 = .ok (.iconst 1, 1) := by decide +kernel
theorem d_ModeKeeper_failureOfNewForm_9 : decode b_ModeKeeper_failureOfNewForm 9 = .ok (.if_icmp .lt 21, 3) := by decide +kernel
theorem d_ModeKeeper_failureOfNewForm_12 : decode b_ModeKeeper_failureOfNewForm 12 = .ok (.iload_n 2, 1) := by decide +kernel
theorem d_ModeKeeper_failureOfNewForm_13 : decode b_ModeKeeper_failureOfNewForm 13 = .ok (.sipush 255, 3) := by decide +kernel
theorem d_ModeKeeper_failureOfNewForm_16 : decode b_ModeKeeper_failureOfNewForm 16 = .ok (.if_icmp .gt 14, 3) := by decide +kernel
theorem d_ModeKeeper_failureOfNewForm_19 : decode b_ModeKeeper_failureOfNewForm 19 = .ok (.iload_n 1, 1) := by decide +kernel
theorem d_ModeKeeper_failureOfNewForm_20 : decode b_ModeKeeper_failureOfNewForm 20 = .ok (.ifCond .lt 10, 3) := by decide +kernel
theorem d_ModeKeeper_failureOfNewForm_23 : decode b_ModeKeeper_failureOfNewForm 23 = .ok (.iload_n 1, 1) := by decide +kernel
theorem d_ModeKeeper_failureOfNewForm_24 : decode b_ModeKeeper_failureOfNewForm 24 = .ok (.sipush 255, 3) := by decide +kernel
theorem d_ModeKeeper_failureOfNewForm_27 : decode b_ModeKeeper_failureOfNewForm 27 = .ok (.if_icmp .le 6, 3) := by decide +kernel
theorem d_ModeKeeper_failureOfNewForm_30 : decode b_ModeKeeper_failureOfNewForm 30 = .ok (.bipush 13, 2) := by decide +kernel
theorem d_ModeKeeper_failureOfNewForm_32 : decode b_ModeKeeper_failureOfNewForm 32 = .ok (.ireturn, 1) := by decide +kernel
theorem d_ModeKeeper_failureOfNewForm_33 : decode b_ModeKeeper_failureOfNewForm 33 = .ok (.aload_n 0, 1) := by decide +kernel
theorem d_ModeKeeper_failureOfNewForm_34 : decode b_ModeKeeper_failureOfNewForm 34 = .ok (.iload_n 1, 1) := by decide +kernel
theorem d_ModeKeeper_failureOfNewForm_35 : decode b_ModeKeeper_failureOfNewForm 35 = .ok (.invokevirtual 58, 3) := by decide +kernel
theorem d_ModeKeeper_failureOfNewForm_38 : decode b_ModeKeeper_failureOfNewForm 38 = .ok (.ifnull 6, 3) := by decide +kernel
theorem d_ModeKeeper_failureOfNewForm_41 : decode b_ModeKeeper_failureOfNewForm 41 = .ok (.bipush 11, 2) := by decide +kernel
theorem d_ModeKeeper_failureOfNewForm_43 : decode b_ModeKeeper_failureOfNewForm 43 = .ok (.ireturn, 1) := by decide +kernel
theorem d_ModeKeeper_failureOfNewForm_44 : decode b_ModeKeeper_failureOfNewForm 44 = .ok (.aload_n 0, 1) := by decide +kernel
theorem d_ModeKeeper_failureOfNewForm_45 : decode b_ModeKeeper_failureOfNewForm 45 = .ok (.getfield 39, 3) := by decide +kernel
theorem d_ModeKeeper_failureOfNewForm_48 : decode b_ModeKeeper_failureOfNewForm 48 = .ok (.bipush 8, 2) := by decide +kernel
theorem d_ModeKeeper_failureOfNewForm_50 : decode b_ModeKeeper_failureOfNewForm 50 = .ok (.if_icmp .lt 6, 3) := by decide +kernel
theorem d_ModeKeeper_failureOfNewForm_53 : decode b_ModeKeeper_failureOfNewForm 53 = .ok (.bipush 12, 2) := by decide +kernel
theorem d_ModeKeeper_failureOfNewForm_55 : decode b_ModeKeeper_failureOfNewForm 55 = .ok (.ireturn, 1) := by decide +kernel
theorem d_ModeKeeper_failureOfNewForm_56 : decode b_ModeKeeper_failureOfNewForm 56 = .ok (.iconst 0, 1) := by decide +kernel
theorem d_ModeKeeper_failureOfNewForm_57 : decode b_ModeKeeper_failureOfNewForm 57 = .ok (.ireturn, 1) := by decide +kernel
theorem d_ModeKeeper_fillEmptyPlace_0 : decode b_ModeKeeper_fillEmptyPlace 0 = .ok (.iconst 0, 1) := by decide +kernel
theorem d_ModeKeeper_fillEmptyPlace_1 : decode b_ModeKeeper_fillEmptyPlace 1 = .ok (.istore_n 3, 1) := by decide +kernel
theorem d_ModeKeeper_fillEmptyPlace_2 : decode b_ModeKeeper_fillEmptyPlace 2 = .ok (.iload_n 3, 1) := by decide +kernel
theorem d_ModeKeeper_fillEmptyPlace_3 : decode b_ModeKeeper_fillEmptyPlace 3 = .ok (.bipush 8, 2) := by decide +kernel
theorem d_ModeKeeper_fillEmptyPlace_5 : decode b_ModeKeeper_fillEmptyPlace 5 = .ok (.if_icmp .ge 87, 3) := by decide +kernel
theorem d_ModeKeeper_fillEmptyPlace_8 : decode b_ModeKeeper_fillEmptyPlace 8 = .ok (.aload_n 0, 1) := by decide +kernel
theorem d_ModeKeeper_fillEmptyPlace_9 : decode b_ModeKeeper_fillEmptyPlace 9 = .ok (.getfield 35, 3) := by decide +kernel
theorem d_ModeKeeper_fillEmptyPlace_12 : decode b_ModeKeeper_fillEmptyPlace 12 = .ok (.iload_n 3, 1) := by decide +kernel
theorem d_ModeKeeper_fillEmptyPlace_13 : decode b_ModeKeeper_fillEmptyPlace 13 = .ok (.aaload, 1) := by decide +kernel
theorem d_ModeKeeper_fillEmptyPlace_14 : decode b_ModeKeeper_fillEmptyPlace 14 = .ok (.astore 4, 2) := by decide +kernel
theorem d_ModeKeeper_fillEmptyPlace_16 : decode b_ModeKeeper_fillEmptyPlace 16 = .ok (.aload 4, 2) := by decide +kernel
theorem d_ModeKeeper_fillEmptyPlace_18 : decode b_ModeKeeper_fillEmptyPlace 18 = .ok (.getfield 65, 3) := by decide +kernel
theorem d_ModeKeeper_fillEmptyPlace_21 : decode b_ModeKeeper_fillEmptyPlace 21 = .ok (.ifCond .ne 65, 3) := by decide +kernel
theorem d_ModeKeeper_fillEmptyPlace_24 : decode b_ModeKeeper_fillEmptyPlace 24 = .ok (.aload 4, 2) := by decide +kernel
theorem d_ModeKeeper_fillEmptyPlace_26 : decode b_ModeKeeper_fillEmptyPlace 26 = .ok (.iconst 1, 1) := by decide +kernel
theorem d_ModeKeeper_fillEmptyPlace_27 : decode b_ModeKeeper_fillEmptyPlace 27 = .ok (.putfield 65, 3) := by decide +kernel
theorem d_ModeKeeper_fillEmptyPlace_30 : decode b_ModeKeeper_fillEmptyPlace 30 = .ok (.aload 4, 2) := by decide +kernel
theorem d_ModeKeeper_fillEmptyPlace_32 : decode b_ModeKeeper_fillEmptyPlace 32 = .ok (.iload_n 1, 1) := by decide +kernel
theorem d_ModeKeeper_fillEmptyPlace_33 : decode b_ModeKeeper_fillEmptyPlace 33 = .ok (.putfield 68, 3) := by decide +kernel
theorem d_ModeKeeper_fillEmptyPlace_36 : decode b_ModeKeeper_fillEmptyPlace 36 = .ok (.aload 4, 2) := by decide +kernel
theorem d_ModeKeeper_fillEmptyPlace_38 : decode b_ModeKeeper_fillEmptyPlace 38 = .ok (.iload_n 2, 1) := by decide +kernel
theorem d_ModeKeeper_fillEmptyPlace_39 : decode b_ModeKeeper_fillEmptyPlace 39 = .ok (.putfield 71, 3) := by decide +kernel
theorem d_ModeKeeper_fillEmptyPlace_42 : decode b_ModeKeeper_fillEmptyPlace 42 = .ok (.aload 4, 2) := by decide +kernel
theorem d_ModeKeeper_fillEmptyPlace_44 : decode b_ModeKeeper_fillEmptyPlace 44 = .ok (.iconst 0, 1) := by decide +kernel
theorem d_ModeKeeper_fillEmptyPlace_45 : decode b_ModeKeeper_fillEmptyPlace 45 = .ok (.putfield 62, 3) := by decide +kernel
theorem d_ModeKeeper_fillEmptyPlace_48 : decode b_ModeKeeper_fillEmptyPlace 48 = .ok (.aload 4, 2) := by decide +kernel
theorem d_ModeKeeper_fillEmptyPlace_50 : decode b_ModeKeeper_fillEmptyPlace 50 = .ok (.aload_n 0, 1) := by decide +kernel
theorem d_ModeKeeper_fillEmptyPlace_51 : decode b_ModeKeeper_fillEmptyPlace 51 = .ok (.getfield 30, 3) := by decide +kernel
theorem d_ModeKeeper_fillEmptyPlace_54 : decode b_ModeKeeper_fillEmptyPlace 54 = .ok (.putfield 78, 3) := by decide +kernel
theorem d_ModeKeeper_fillEmptyPlace_57 : decode b_ModeKeeper_fillEmptyPlace 57 = .ok (.aload_n 0, 1) := by decide +kernel
theorem d_ModeKeeper_fillEmptyPlace_58 : decode b_ModeKeeper_fillEmptyPlace 58 = .ok (.getfield 27, 3) := by decide +kernel
theorem d_ModeKeeper_fillEmptyPlace_61 : decode b_ModeKeeper_fillEmptyPlace 61 = .ok (.iconst 0, 1) := by decide +kernel
theorem d_ModeKeeper_fillEmptyPlace_62 : decode b_ModeKeeper_fillEmptyPlace 62 = .ok (.aload 4, 2) := by decide +kernel
theorem d_ModeKeeper_fillEmptyPlace_64 : decode b_ModeKeeper_fillEmptyPlace 64 = .ok (.getfield 81, 3) := by decide +kernel
theorem d_ModeKeeper_fillEmptyPlace_67 : decode b_ModeKeeper_fillEmptyPlace 67 = .ok (.iconst 0, 1) := by decide +kernel
theorem d_ModeKeeper_fillEmptyPlace_68 : decode b_ModeKeeper_fillEmptyPlace 68 = .ok (.aload_n 0, 1) := by decide +kernel
theorem d_ModeKeeper_fillEmptyPlace_69 : decode b_ModeKeeper_fillEmptyPlace 69 = .ok (.getfield 30, 3) := by decide +kernel
theorem d_ModeKeeper_fillEmptyPlace_72 : decode b_ModeKeeper_fillEmptyPlace 72 = .ok (.invokestatic 87, 3) := by decide +kernel
theorem d_ModeKeeper_fillEmptyPlace_75 : decode b_ModeKeeper_fillEmptyPlace 75 = .ok (.aload_n 0, 1) := by decide +kernel
theorem d_ModeKeeper_fillEmptyPlace_76 : decode b_ModeKeeper_fillEmptyPlace 76 = .ok (.dup, 1) := by decide +kernel
theorem d_ModeKeeper_fillEmptyPlace_77 : decode b_ModeKeeper_fillEmptyPlace 77 = .ok (.getfield 39, 3) := by decide +kernel
theorem d_ModeKeeper_fillEmptyPlace_80 : decode b_ModeKeeper_fillEmptyPlace 80 = .ok (.iconst 1, 1) := by decide +kernel
theorem d_ModeKeeper_fillEmptyPlace_81 : decode b_ModeKeeper_fillEmptyPlace 81 = .ok (.iadd, 1) := by decide +kernel
theorem d_ModeKeeper_fillEmptyPlace_82 : decode b_ModeKeeper_fillEmptyPlace 82 = .ok (.putfield 39, 3) := by decide +kernel
theorem d_ModeKeeper_fillEmptyPlace_85 : decode b_ModeKeeper_fillEmptyPlace 85 = .ok (.return_, 1) := by decide +kernel
theorem d_ModeKeeper_fillEmptyPlace_86 : decode b_ModeKeeper_fillEmptyPlace 86 = .ok (.iinc 3 1, 3) := by decide +kernel
theorem d_ModeKeeper_fillEmptyPlace_89 : decode b_ModeKeeper_fillEmptyPlace 89 = .ok (.goto (-87), 3) := by decide +kernel
theorem d_ModeKeeper_fillEmptyPlace_92 : decode b_ModeKeeper_fillEmptyPlace 92 = .ok (.return_, 1) := by decide +kernel
theorem d_ModeKeeper_find_0 : decode b_ModeKeeper_find 0 = .ok (.iconst 0, 1) := by decide +kernel
theorem d_ModeKeeper_find_1 : decode b_ModeKeeper_find 1 = .ok (.istore_n 2, 1) := by decide +kernel
theorem d_ModeKeeper_find_2 : decode b_ModeKeeper_find 2 = .ok (.iload_n 2, 1) := by decide +kernel
theorem d_ModeKeeper_find_3 : decode b_ModeKeeper_find 3 = .ok (.bipush 8, 2) := by decide +kernel
theorem d_ModeKeeper_find_5 : decode b_ModeKeeper_find 5 = .ok (.if_icmp .ge 33, 3) := by decide +kernel
theorem d_ModeKeeper_find_8 : decode b_ModeKeeper_find 8 = .ok (.aload_n 0, 1) := by decide +kernel
theorem d_ModeKeeper_find_9 : decode b_ModeKeeper_find 9 = .ok (.getfield 35, 3) := by decide +kernel
theorem d_ModeKeeper_find_12 : decode b_ModeKeeper_find 12 = .ok (.iload_n 2, 1) := by decide +kernel
theorem d_ModeKeeper_find_13 : decode b_ModeKeeper_find 13 = .ok (.aaload, 1) := by decide +kernel
theorem d_ModeKeeper_find_14 : decode b_ModeKeeper_find 14 = .ok (.astore_n 3, 1) := by decide +kernel
theorem d_ModeKeeper_find_15 : decode b_ModeKeeper_find 15 = .ok (.aload_n 3, 1) := by decide +kernel
theorem d_ModeKeeper_find_16 : decode b_ModeKeeper_find 16 = .ok (.getfield 65, 3) := by decide +kernel
theorem d_ModeKeeper_find_19 : decode b_ModeKeeper_find 19 = .ok (.ifCond .eq 13, 3) := by decide +kernel
theorem d_ModeKeeper_find_22 : decode b_ModeKeeper_find 22 = .ok (.aload_n 3, 1) := by decide +kernel
theorem d_ModeKeeper_find_23 : decode b_ModeKeeper_find 23 = .ok (.getfield 68, 3) := by decide +kernel
theorem d_ModeKeeper_find_26 : decode b_ModeKeeper_find 26 = .ok (.iload_n 1, 1) := by decide +kernel
theorem d_ModeKeeper_find_27 : decode b_ModeKeeper_find 27 = .ok (.if_icmp .ne 5, 3) := by decide +kernel
theorem d_ModeKeeper_find_30 : decode b_ModeKeeper_find 30 = .ok (.aload_n 3, 1) := by decide +kernel
theorem d_ModeKeeper_find_31 : decode b_ModeKeeper_find 31 = .ok (.areturn, 1) := by decide +kernel
theorem d_ModeKeeper_find_32 : decode b_ModeKeeper_find 32 = .ok (.iinc 2 1, 3) := by decide +kernel
theorem d_ModeKeeper_find_35 : decode b_ModeKeeper_find 35 = .ok (.goto (-33), 3) := by decide +kernel
theorem d_ModeKeeper_find_38 : decode b_ModeKeeper_find 38 = .ok (.aconst_null, 1) := by decide +kernel
theorem d_ModeKeeper_find_39 : decode b_ModeKeeper_find 39 = .ok (.areturn, 1) := by decide +kernel
theorem d_Form_init_0 : decode b_Form_init 0 = .ok (.aload_n 0, 1) := by decide +kernel
theorem d_Form_init_1 : decode b_Form_init 1 = .ok (.invokespecial 3, 3) := by decide +kernel
theorem d_Form_init_4 : decode b_Form_init 4 = .ok (.aload_n 0, 1) := by decide +kernel
theorem d_Form_init_5 : decode b_Form_init 5 = .ok (.iconst 0, 1) := by decide +kernel
theorem d_Form_init_6 : decode b_Form_init 6 = .ok (.putfield 9, 3) := by decide +kernel
theorem d_Form_init_9 : decode b_Form_init 9 = .ok (.aload_n 0, 1) := by decide +kernel
theorem d_Form_init_10 : decode b_Form_init 10 = .ok (.iconst 0, 1) := by decide +kernel
theorem d_Form_init_11 : decode b_Form_init 11 = .ok (.putfield 15, 3) := by decide +kernel
theorem d_Form_init_14 : decode b_Form_init 14 = .ok (.aload_n 0, 1) := by decide +kernel
theorem d_Form_init_15 : decode b_Form_init 15 = .ok (.iconst 1, 1) := by decide +kernel
theorem d_Form_init_16 : decode b_Form_init 16 = .ok (.putfield 19, 3) := by decide +kernel
theorem d_Form_init_19 : decode b_Form_init 19 = .ok (.aload_n 0, 1) := by decide +kernel
theorem d_Form_init_20 : decode b_Form_init 20 = .ok (.iconst 0, 1) := by decide +kernel
theorem d_Form_init_21 : decode b_Form_init 21 = .ok (.putfield 22, 3) := by decide +kernel
theorem d_Form_init_24 : decode b_Form_init 24 = .ok (.aload_n 0, 1) := by decide +kernel
theorem d_Form_init_25 : decode b_Form_init 25 = .ok (.iconst 0, 1) := by decide +kernel
theorem d_Form_init_26 : decode b_Form_init 26 = .ok (.putfield 25, 3) := by decide +kernel
theorem d_Form_init_29 : decode b_Form_init 29 = .ok (.aload_n 0, 1) := by decide +kernel
theorem d_Form_init_30 : decode b_Form_init 30 = .ok (.bipush 8, 2) := by decide +kernel
theorem d_Form_init_32 : decode b_Form_init 32 = .ok (.newarray .int, 2) := by decide +kernel
theorem d_Form_init_34 : decode b_Form_init 34 = .ok (.putfield 28, 3) := by decide +kernel
theorem d_Form_init_37 : decode b_Form_init 37 = .ok (.return_, 1) := by decide +kernel
end
section
/-! Rows of my own: worlds in two parts, calls that get a whole part, arrays by a Nat index. -/
section MKB
variable {p : Program} {l : Launch} {e : Env} {R : Room} {s : State} {m : MethodId} {args : Array Value} {below : List Frame} {meth : Method} {c : Code} {H : Heap} {locs : List Loc} {cells slots : Nat} {Q : State → Prop}
variable {pc : Nat} {ls : Array Slot} {rest st0 : List Value} {a : Array Value} {A0 A1 : Nat → Prop} {H0 : Heap} {D : va_G} {cl : List vw_C} {tys : List (ClassId × FieldType)} {cc : ByteArray}
theorem g_left {X Y : va_W} {k : Nat} {q : Nat × va_E} (h : X[k]? = some q) : (X ++ Y)[k]? = some q := by
  rw [List.getElem?_append_left (List.getElem?_eq_some_iff.mp h).1]
  exact h
theorem g_right {X Y : va_W} {k : Nat} {q : Nat × va_E} (h : Y[k]? = some q) : (X ++ Y)[X.length + k]? = some q := by
  rw [List.getElem?_append_right (Nat.le_add_right _ _), Nat.add_sub_cancel_left]
  exact h
theorem g_PL {X Y : va_W} (h : va_P D cl (X ++ Y) H) : va_P D cl X H := fun k q hk => h k q (g_left hk)
theorem g_PR {X Y : va_W} (h : va_P D cl (X ++ Y) H) : va_P D cl Y H := fun k q hk => h _ q (g_right hk)
theorem g_DL {X Y : va_W} (h : va_D A0 (X ++ Y)) : va_D A0 X := ⟨fun i j p q h1 h2 e => h.1 i j p q (g_left h1) (g_left h2) e, fun k q hk => h.2 k q (g_left hk)⟩
theorem g_DR {X Y : va_W} (h : va_D A0 (X ++ Y)) : va_D A0 Y := ⟨fun i j p q h1 h2 e => Nat.add_left_cancel (h.1 _ _ p q (g_right h1) (g_right h2) e), fun k q hk => h.2 _ q (g_right hk)⟩
theorem g_DX {X Y : va_W} (h : va_D A0 (X ++ Y)) (i j : Nat) (p q : Nat × va_E) (h1 : X[i]? = some p) (h2 : Y[j]? = some q) : p.1 ≠ q.1 := fun z => by
  have h3 := h.1 _ _ p q (g_left h1) (g_right h2) z
  have h4 := (List.getElem?_eq_some_iff.mp h1).1
  omega
theorem g_swap {X Y : va_W} (h : va_D A0 (X ++ Y)) : va_D A0 (Y ++ X) := va_D.app (g_DR h) (g_DL h) (fun i j p q h1 h2 z => g_DX h j i q p h2 h1 z.symm)
/-- what a callee that gets the part X may change -/
theorem g_free {X : va_W} (hD : va_D A0 X) (hS : va_S A0 H0 H locs) (hA : ∀ q, H0.size ≤ q → A0 q) : ∀ q, va_A X H.size q → A0 q := by
  intro q hq
  rcases hq with ⟨k, e, hk⟩ | hq
  · exact hD.2 k (q, e) hk
  · exact hA q (Nat.le_trans hS.1 hq)
/-- behind a call that got X and left X': Y is as it was -/
theorem g_keep {X X' Y : va_W} {H1 : Heap} (hPY : va_P D cl Y H) (hD : va_D A0 (X ++ Y)) (hF : ∀ q, va_A X H.size q → A0 q) (hk : ∀ q : Nat, q < H.size → ¬ va_A X H.size q → H1[q]? = H[q]?) (hD1 : va_D (va_A X H.size) X') : va_P D cl Y H1 ∧ va_D A0 (X' ++ Y) := by
  have hlt : ∀ (k : Nat) (q : Nat × va_E), Y[k]? = some q → q.1 < H.size ∧ ¬ va_A X H.size q.1 := by
    intro k q hq
    have h1 := (hPY k q hq).lt
    refine ⟨h1, fun z => ?_⟩
    rcases z with ⟨i, e, hi⟩ | z
    · exact g_DX hD i k _ q hi hq rfl
    · omega
  refine ⟨hPY.kept (fun k q hq => hk q.1 (hlt k q hq).1 (hlt k q hq).2), va_D.app (hD1.weaken (fun _ _ _ h => hF _ h)) (g_DR hD) ?_⟩
  intro i j p q h1 h2 z
  have h3 := hD1.2 i p h1
  rw [z] at h3
  exact (hlt j q h2).2 h3
/-- the world behind a call -/
def gB (D : va_G) (cl : List vw_C) (A : Nat → Prop) (X : va_W) (t : State) : Prop := va_P D cl X t.heap ∧ va_D A X
/-- a call of an int method that gets the whole world -/
theorem g_calli {X X' : va_W} {post : Int32 → Prop} (hr : va_Run p l e R s m args below meth c H locs cells slots 0 0 (F0 m pc ls st0) rest (va_Qi (fun r (_ : Unit) => post r) (fun _ t => gB D cl (va_A X H.size) X' t) (va_A X H.size) a) (va_A X H.size)) (hD : va_D A0 X) (hS : va_S A0 H0 H locs) (hA : ∀ q, H0.size ≤ q → A0 q)
    (kk : ∀ (r : Int32) (H1 : Heap) (locs1 : List Loc), post r → va_P D cl X' H1 → va_D A0 X' → va_S A0 H0 H1 locs1 → W p l e R s m args below meth c H1 locs1 cells slots Q (F0 m (pc + 3) ls (.int r :: rest))) : W p l e R s m args below meth c H locs cells slots Q (F0 m pc ls st0) := by
  have hF := g_free hD hS hA
  refine va_calli hr hS (fun q _ h => hF q h) hF ?_
  intro r u t H1 locs1 ht hvm hw hB hz hk hS1
  obtain ⟨hP1, hD1⟩ := hB
  rw [ht] at hP1
  exact kk r H1 locs1 hw hP1 (hD1.weaken (fun _ _ _ h => hF _ h)) hS1
/-- the same, of a void method -/
theorem g_callv {X X' : va_W} (hr : va_Run p l e R s m args below meth c H locs cells slots 0 0 (F0 m pc ls st0) rest (va_Qv (fun (_ : Unit) => True) (fun _ t => gB D cl (va_A X H.size) X' t) (va_A X H.size) a) (va_A X H.size)) (hD : va_D A0 X) (hS : va_S A0 H0 H locs) (hA : ∀ q, H0.size ≤ q → A0 q)
    (kk : ∀ (H1 : Heap) (locs1 : List Loc), va_P D cl X' H1 → va_D A0 X' → va_S A0 H0 H1 locs1 → W p l e R s m args below meth c H1 locs1 cells slots Q (F0 m (pc + 3) ls rest)) : W p l e R s m args below meth c H locs cells slots Q (F0 m pc ls st0) := by
  have hF := g_free hD hS hA
  refine va_callv hr hS (fun q _ h => hF q h) hF ?_
  intro u t H1 locs1 ht hvm hw hB hz hk hS1
  obtain ⟨hP1, hD1⟩ := hB
  rw [ht] at hP1
  exact kk H1 locs1 hP1 (hD1.weaken (fun _ _ _ h => hF _ h)) hS1
/-- a call of an int method that gets the first part of the world -/
theorem g_calliL {X X' Y : va_W} {post : Int32 → Prop} (hr : va_Run p l e R s m args below meth c H locs cells slots 0 0 (F0 m pc ls st0) rest (va_Qi (fun r (_ : Unit) => post r) (fun _ t => gB D cl (va_A X H.size) X' t) (va_A X H.size) a) (va_A X H.size)) (hPY : va_P D cl Y H) (hD : va_D A0 (X ++ Y)) (hS : va_S A0 H0 H locs) (hA : ∀ q, H0.size ≤ q → A0 q)
    (kk : ∀ (r : Int32) (H1 : Heap) (locs1 : List Loc), post r → va_P D cl X' H1 → va_P D cl Y H1 → va_D A0 (X' ++ Y) → va_S A0 H0 H1 locs1 → W p l e R s m args below meth c H1 locs1 cells slots Q (F0 m (pc + 3) ls (.int r :: rest))) : W p l e R s m args below meth c H locs cells slots Q (F0 m pc ls st0) := by
  have hF := g_free (g_DL hD) hS hA
  refine va_calli hr hS (fun q _ h => hF q h) hF ?_
  intro r u t H1 locs1 ht hvm hw hB hz hk hS1
  obtain ⟨hP1, hD1⟩ := hB
  rw [ht] at hP1
  obtain ⟨h1, h2⟩ := g_keep hPY hD hF hk hD1
  exact kk r H1 locs1 hw hP1 h1 h2 hS1
/-- a call of an int method that gets the second part of the world -/
theorem g_calliR {X Y Y' : va_W} {post : Int32 → Prop} (hr : va_Run p l e R s m args below meth c H locs cells slots 0 0 (F0 m pc ls st0) rest (va_Qi (fun r (_ : Unit) => post r) (fun _ t => gB D cl (va_A Y H.size) Y' t) (va_A Y H.size) a) (va_A Y H.size)) (hPX : va_P D cl X H) (hD : va_D A0 (X ++ Y)) (hS : va_S A0 H0 H locs) (hA : ∀ q, H0.size ≤ q → A0 q)
    (kk : ∀ (r : Int32) (H1 : Heap) (locs1 : List Loc), post r → va_P D cl X H1 → va_P D cl Y' H1 → va_D A0 (X ++ Y') → va_S A0 H0 H1 locs1 → W p l e R s m args below meth c H1 locs1 cells slots Q (F0 m (pc + 3) ls (.int r :: rest))) : W p l e R s m args below meth c H locs cells slots Q (F0 m pc ls st0) := by
  have hF := g_free (g_DR hD) hS hA
  refine va_calli hr hS (fun q _ h => hF q h) hF ?_
  intro r u t H1 locs1 ht hvm hw hB hz hk hS1
  obtain ⟨hP1, hD1⟩ := hB
  rw [ht] at hP1
  obtain ⟨h1, h2⟩ := g_keep hPX (g_swap hD) hF hk hD1
  exact kk r H1 locs1 hw h1 hP1 (g_swap h2) hS1
/-- two arrays of ints are of one kind -/
theorem g_same {i j : Nat} {c1 c2 : ClassId} (hK : va_K D cl tys s) (h1 : tys[i]? = some (c1, .int)) (h2 : tys[j]? = some (c2, .int)) : c1 = c2 := by
  have a1 : s.vm.findClass ("[" ++ FieldType.int.toString) = some c1 := (hK.2 i _ h1).2
  have a2 : s.vm.findClass ("[" ++ FieldType.int.toString) = some c2 := (hK.2 j _ h2).2
  exact Option.some.inj (a1.symm.trans a2)
/-- a cell of an array of references, by a Nat index -/
theorem g_ald {ad : Nat} {ws : va_W} (hexec : p.tables.exec = Jvm.exec) (hb : c.code = cc) (hK : va_K D cl tys s) (hP : va_P D cl ws H) (q0 t0 : Nat) {cA : ClassId} {C : String} {n : Nat} {f : Nat → Option Nat} (ha : ws[q0]? = some (ad, .inl (cA, n, .inr (.inr (.inr (.inr f)))))) (ht : tys[t0]? = some (cA, .object C)) {i y : Nat} (hi : i < n) (hn : n < 2 ^ 31) (hf : f i = some y) (hdg : decode cc pc = .ok (.aaload, 1))
    (kk : W p l e R s m args below meth c H locs cells slots Q (F0 m (pc + 1) ls (.ref y :: rest))) : W p l e R s m args below meth c H locs cells slots Q (F0 m pc ls (.int (nI i) :: .ref ad :: rest)) := by
  refine va_aldq hexec hb hK hP q0 t0 ha ht (vp_in_nI hi hn) hdg ?_
  rw [nI_clamp (Nat.lt_trans hi hn), hf]
  exact kk
/-- an int of an array, by a Nat index -/
theorem g_ild {ad : Nat} {ws : va_W} (hexec : p.tables.exec = Jvm.exec) (hb : c.code = cc) (hK : va_K D cl tys s) (hP : va_P D cl ws H) (q0 t0 : Nat) {cA : ClassId} {n : Nat} {f : Nat → Int32} (ha : ws[q0]? = some (ad, .inl (cA, n, .inl f))) (ht : tys[t0]? = some (cA, .int)) {i : Nat} (hi : i < n) (hn : n < 2 ^ 31) (hdg : decode cc pc = .ok (.iaload, 1))
    (kk : W p l e R s m args below meth c H locs cells slots Q (F0 m (pc + 1) ls (.int (f i) :: rest))) : W p l e R s m args below meth c H locs cells slots Q (F0 m pc ls (.int (nI i) :: .ref ad :: rest)) := by
  refine va_iald hexec hb hK hP q0 t0 ha ht (vp_in_nI hi hn) hdg ?_
  rw [nI_clamp (Nat.lt_trans hi hn)]
  exact kk
theorem g_ist {ad : Nat} {ws : va_W} (hexec : p.tables.exec = Jvm.exec) (hb : c.code = cc) (hK : va_K D cl tys s) (hP : va_P D cl ws H) (hD : va_D A0 ws) (hS : va_S A0 H0 H locs) (q0 t0 : Nat) {cA : ClassId} {n : Nat} {f : Nat → Int32} (ha : ws[q0]? = some (ad, .inl (cA, n, .inl f))) (ht : tys[t0]? = some (cA, .int)) {i : Nat} {x : Int32} (hi : i < n) (hn : n < 2 ^ 31) (hdg : decode cc pc = .ok (.iastore, 1))
    (kk : ∀ (H1 : Heap) (locs1 : List Loc), va_P D cl (ws.set q0 (ad, .inl (cA, n, .inl (upd f i x)))) H1 → va_D A0 (ws.set q0 (ad, .inl (cA, n, .inl (upd f i x)))) → va_S A0 H0 H1 locs1 → W p l e R s m args below meth c H1 locs1 cells slots Q (F0 m (pc + 1) ls rest)) : W p l e R s m args below meth c H locs cells slots Q (F0 m pc ls (.int x :: .int (nI i) :: .ref ad :: rest)) := by
  refine va_iast hexec hb hK hP hD hS q0 t0 ha ht (vp_in_nI hi hn) hdg ?_
  rw [nI_clamp (Nat.lt_trans hi hn)]
  exact kk
end MKB
def up2 (F : Nat → Nat → Int32) (i j : Nat) (v : Int32) : Nat → Nat → Int32 := fun a b => if a = i then (if b = j then v else F a b) else F a b
theorem g_nar {x : Int32} (h : x = 0 ∨ x = 1) : narrow .boolean (.int x) = .int x := by
  rcases h with rfl | rfl <;> rfl
theorem g_fit {x : Int32} (h : x = 0 ∨ x = 1) : fits .boolean (.int x) = true := by
  rcases h with rfl | rfl <;> rfl
end
section
/-! What the keeper's methods answer and do, as functions of its cells. k: its own fields by their place (1 mode, 2 changes, 3 alarm set, 4 alarm tick, 6 text count, 8 form count); act, txt: its int arrays; F i j: field j of place i (0 there, 1 id, 2 every, 3 on, 4 count); pr i: its parameters. -/
def kA (a : Int32) : Int32 := if a < 0 then 0 else if 8 ≤ a then 0 else 1
def kD (e t : Int32) : Int32 := if e ≤ 0 then 0 else if t - t / e * e = 0 then 1 else 0
def kFind (F : Nat → Nat → Int32) (id : Int32) : Nat → Nat → Option Nat
  | 0, _ => none
  | n + 1, i => if F i 0 = 0 then kFind F id n (i + 1) else if F i 1 = id then some i else kFind F id n (i + 1)
def kFree (F : Nat → Nat → Int32) : Nat → Nat → Option Nat
  | 0, _ => none
  | n + 1, i => if F i 0 = 0 then some i else kFree F n (i + 1)
def kDue (F : Nat → Nat → Int32) (tick fr : Int32) : Nat → Nat → Int32 → Int32
  | 0, _, x => x
  | n + 1, i, x => if F i 0 = 0 then kDue F tick fr n (i + 1) x else if F i 3 = 0 then kDue F tick fr n (i + 1) x else if F i 1 < fr then kDue F tick fr n (i + 1) x else if kD (F i 2) tick = 0 then kDue F tick fr n (i + 1) x else if x = -1 then kDue F tick fr n (i + 1) (F i 1) else if x ≤ F i 1 then kDue F tick fr n (i + 1) x else kDue F tick fr n (i + 1) (F i 1)
def kMvR (k : Nat → Int32) (a : Int32) : Int32 := if kA a = 0 then 18 else if k 1 = 0 then 19 else 0
def kMvA (k act : Nat → Int32) (a v : Int32) : Nat → Int32 := if kA a = 0 then act else if k 1 = 0 then act else upd act a.toNatClampNeg v
def kSafe : Nat → Int32 := fun j => ([0, 0, 0, 0, 50, 50, 100, 1] : List Int32).getD j 0
def kChR (k : Nat → Int32) (m : Int32) : Int32 := if k 1 = m then 0 else 1
def kChK (k : Nat → Int32) (m : Int32) : Nat → Int32 := if k 1 = m then k else upd (upd k 1 m) 2 (k 2 + 1)
def kChA (k act : Nat → Int32) (m : Int32) : Nat → Int32 := if k 1 = m then act else if m = 0 then va_cpy kSafe act 0 0 8 else act
def kEnR (k : Nat → Int32) (m : Int32) : Int32 := if m < 0 then 18 else if m ≤ 2 then (if k 1 = 0 then (if m = 2 then 19 else 0) else 0) else 18
def kEnK (k : Nat → Int32) (m : Int32) : Nat → Int32 := if m < 0 then k else if m ≤ 2 then (if k 1 = 0 then (if m = 2 then k else kChK k m) else kChK k m) else k
def kEnA (k act : Nat → Int32) (m : Int32) : Nat → Int32 := if m < 0 then act else if m ≤ 2 then (if k 1 = 0 then (if m = 2 then act else kChA k act m) else kChA k act m) else act
def kAlR (k : Nat → Int32) : Int32 := if k 3 = 0 then 1 else 0
def kAlK (k : Nat → Int32) (t : Int32) : Nat → Int32 := if k 3 = 0 then upd (upd k 3 1) 4 t else k
def kLkR (k : Nat → Int32) (t : Int32) : Int32 := if k 3 = 0 then 0 else if k 4 ≤ t then kChR (upd k 3 0) 0 else 0
def kLkK (k : Nat → Int32) (t : Int32) : Nat → Int32 := if k 3 = 0 then k else if k 4 ≤ t then kChK (upd k 3 0) 0 else k
def kLkA (k act : Nat → Int32) (t : Int32) : Nat → Int32 := if k 3 = 0 then act else if k 4 ≤ t then kChA (upd k 3 0) act 0 else act
def kPuR (k : Nat → Int32) (x : Int32) : Int32 := if x < 0 then -1 else if 31 < x then -1 else if k 6 < 8 then k 6 + 1 else -1
def kPuK (k : Nat → Int32) (x : Int32) : Nat → Int32 := if x < 0 then k else if 31 < x then k else if k 6 < 8 then upd k 6 (k 6 + 1) else k
def kPuT (k txt : Nat → Int32) (x : Int32) : Nat → Int32 := if x < 0 then txt else if 31 < x then txt else if k 6 < 8 then upd txt (k 6).toNatClampNeg x else txt
def kFail (k : Nat → Int32) (F : Nat → Nat → Int32) (id ev : Int32) : Int32 := if k 6 = 0 then 13 else if ev < 1 then 13 else if 255 < ev then 13 else if id < 0 then 13 else if id ≤ 255 then (match kFind F id 8 0 with | some _ => 11 | none => if k 8 < 8 then 0 else 12) else 13
def kFiK (k : Nat → Int32) (F : Nat → Nat → Int32) : Nat → Int32 := match kFree F 8 0 with | some _ => upd k 8 (k 8 + 1) | none => k
def kFiF (k : Nat → Int32) (F : Nat → Nat → Int32) (id ev : Int32) : Nat → Nat → Int32 := match kFree F 8 0 with | some i => up2 (up2 (up2 (up2 (up2 F i 0 1) i 1 id) i 2 ev) i 3 0) i 4 (k 6) | none => F
def kFiP (k txt : Nat → Int32) (F pr : Nat → Nat → Int32) : Nat → Nat → Int32 := match kFree F 8 0 with | some i => va_up pr i (va_cpy txt (pr i) 0 0 (k 6).toNatClampNeg) | none => pr
def kFoK (k : Nat → Int32) (F : Nat → Nat → Int32) (id ev : Int32) : Nat → Int32 := upd (if kFail k F id ev = 0 then kFiK k F else k) 6 0
def kFoF (k : Nat → Int32) (F : Nat → Nat → Int32) (id ev : Int32) : Nat → Nat → Int32 := if kFail k F id ev = 0 then kFiF k F id ev else F
def kFoP (k txt : Nat → Int32) (F pr : Nat → Nat → Int32) (id ev : Int32) : Nat → Nat → Int32 := if kFail k F id ev = 0 then kFiP k txt F pr else pr
def kReR (F : Nat → Nat → Int32) (id : Int32) : Int32 := match kFind F id 8 0 with | none => 14 | some i => if F i 3 = 0 then 0 else 15
def kReK (k : Nat → Int32) (F : Nat → Nat → Int32) (id : Int32) : Nat → Int32 := match kFind F id 8 0 with | none => k | some i => if F i 3 = 0 then upd k 8 (k 8 - 1) else k
def kReF (F : Nat → Nat → Int32) (id : Int32) : Nat → Nat → Int32 := match kFind F id 8 0 with | none => F | some i => if F i 3 = 0 then up2 F i 0 0 else F
def kEbR (F : Nat → Nat → Int32) (id : Int32) : Int32 := match kFind F id 8 0 with | none => 14 | some _ => 0
def kEbF (F : Nat → Nat → Int32) (id on : Int32) : Nat → Nat → Int32 := match kFind F id 8 0 with | none => F | some i => up2 F i 3 on
def kPaR (F pr : Nat → Nat → Int32) (id j : Int32) : Int32 := match kFind F id 8 0 with | none => -1 | some i => if j = -1 then F i 4 else if j < 0 then -1 else if j < F i 4 then pr i j.toNatClampNeg else -1
def kVaR (k act : Nat → Int32) (w : Int32) : Int32 := if kA w = 0 then (if w = 8 then k 1 else if w = 9 then (if k 3 = 0 then -1 else k 4) else if w = 10 then k 2 else if w = 11 then k 8 else 0) else act w.toNatClampNeg
def kAbR (F : Nat → Nat → Int32) (id w : Int32) : Int32 := match kFind F id 8 0 with | none => -1 | some i => if w = 0 then F i 2 else if w = 1 then (if F i 3 = 0 then 0 else 1) else -1
theorem kA_in {a : Int32} (h : ¬ kA a = 0) : vp_in a 8 := by
  unfold kA at h
  by_cases h1 : a < 0
  · rw [if_pos h1] at h; exact absurd rfl h
  · rw [if_neg h1] at h
    by_cases h2 : 8 ≤ a
    · rw [if_pos h2] at h; exact absurd rfl h
    · rw [vp_in_iff]
      have h3 := Int32.not_lt.mp h1
      have h4 := Int32.not_le.mp h2
      rw [Int32.le_iff_toInt_le] at h3
      rw [Int32.lt_iff_toInt_lt] at h4
      exact ⟨h3, h4⟩
theorem kA_01 (a : Int32) : kA a = 0 ∨ kA a = 1 := by
  unfold kA
  split
  · exact Or.inl rfl
  · split
    · exact Or.inl rfl
    · exact Or.inr rfl
theorem kD_01 (e t : Int32) : kD e t = 0 ∨ kD e t = 1 := by
  unfold kD
  split
  · exact Or.inl rfl
  · split
    · exact Or.inr rfl
    · exact Or.inl rfl
theorem kChR_01 (k : Nat → Int32) (m : Int32) : kChR k m = 0 ∨ kChR k m = 1 := by
  unfold kChR
  split
  · exact Or.inl rfl
  · exact Or.inr rfl
theorem kFind_some {F : Nat → Nat → Int32} {id : Int32} : ∀ {n i j : Nat}, kFind F id n i = some j → i ≤ j ∧ j < i + n ∧ ¬ F j 0 = 0 ∧ F j 1 = id := by
  intro n
  induction n with
  | zero => intro i j h; cases h
  | succ n ih =>
    intro i j h
    unfold kFind at h
    by_cases h1 : F i 0 = 0
    · rw [if_pos h1] at h
      obtain ⟨a, b, c, d⟩ := ih h
      exact ⟨by omega, by omega, c, d⟩
    · rw [if_neg h1] at h
      by_cases h2 : F i 1 = id
      · rw [if_pos h2] at h
        cases h
        exact ⟨Nat.le_refl _, by omega, h1, h2⟩
      · rw [if_neg h2] at h
        obtain ⟨a, b, c, d⟩ := ih h
        exact ⟨by omega, by omega, c, d⟩
theorem kFree_some {F : Nat → Nat → Int32} : ∀ {n i j : Nat}, kFree F n i = some j → i ≤ j ∧ j < i + n ∧ F j 0 = 0 := by
  intro n
  induction n with
  | zero => intro i j h; cases h
  | succ n ih =>
    intro i j h
    unfold kFree at h
    by_cases h1 : F i 0 = 0
    · rw [if_pos h1] at h
      cases h
      exact ⟨Nat.le_refl _, by omega, h1⟩
    · rw [if_neg h1] at h
      obtain ⟨a, b, c⟩ := ih h
      exact ⟨by omega, by omega, c⟩
end
section
/-! The keeper's world: twenty cells at ad 0 .. ad 19. -/
def gR (ad : Nat → Nat) : Nat → Option Nat := fun j => if j < 8 then some (ad (4 + j)) else none
def tyK (cI cF : ClassId) : List (ClassId × FieldType) := [(cI, .int), (cF, .object "ModeKeeper$Form")]
def wK (ad : Nat → Nat) (cI cF : ClassId) (k act txt : Nat → Int32) (F pr : Nat → Nat → Int32) : va_W :=
  [(ad 0, .inr (0, [.ref (ad 1), .int (k 1), .int (k 2), .int (k 3), .int (k 4), .ref (ad 2), .int (k 6), .ref (ad 3), .int (k 8)])), (ad 1, .inl (cI, 8, .inl act)), (ad 2, .inl (cI, 8, .inl txt)), (ad 3, .inl (cF, 8, .inr (.inr (.inr (.inr (gR ad)))))), (ad 4, .inr (1, [.int (F 0 0), .int (F 0 1), .int (F 0 2), .int (F 0 3), .int (F 0 4), .ref (ad 12)])), (ad 5, .inr (1, [.int (F 1 0), .int (F 1 1), .int (F 1 2), .int (F 1 3), .int (F 1 4), .ref (ad 13)])), (ad 6, .inr (1, [.int (F 2 0), .int (F 2 1), .int (F 2 2), .int (F 2 3), .int (F 2 4), .ref (ad 14)])), (ad 7, .inr (1, [.int (F 3 0), .int (F 3 1), .int (F 3 2), .int (F 3 3), .int (F 3 4), .ref (ad 15)])), (ad 8, .inr (1, [.int (F 4 0), .int (F 4 1), .int (F 4 2), .int (F 4 3), .int (F 4 4), .ref (ad 16)])), (ad 9, .inr (1, [.int (F 5 0), .int (F 5 1), .int (F 5 2), .int (F 5 3), .int (F 5 4), .ref (ad 17)])), (ad 10, .inr (1, [.int (F 6 0), .int (F 6 1), .int (F 6 2), .int (F 6 3), .int (F 6 4), .ref (ad 18)])), (ad 11, .inr (1, [.int (F 7 0), .int (F 7 1), .int (F 7 2), .int (F 7 3), .int (F 7 4), .ref (ad 19)])), (ad 12, .inl (cI, 8, .inl (pr 0))), (ad 13, .inl (cI, 8, .inl (pr 1))), (ad 14, .inl (cI, 8, .inl (pr 2))), (ad 15, .inl (cI, 8, .inl (pr 3))), (ad 16, .inl (cI, 8, .inl (pr 4))), (ad 17, .inl (cI, 8, .inl (pr 5))), (ad 18, .inl (cI, 8, .inl (pr 6))), (ad 19, .inl (cI, 8, .inl (pr 7)))]
def kK0 : Nat → Int32 := fun j => if j = 1 then 1 else 0
def kF0 : Nat → Nat → Int32 := fun _ j => if j = 2 then 1 else 0
theorem wK_at {ad : Nat → Nat} {cI cF : ClassId} {k act txt : Nat → Int32} {F pr : Nat → Nat → Int32} {i : Nat} (hi : i < 8) : (wK ad cI cF k act txt F pr)[4 + i]? = some (ad (4 + i), .inr (1, [.int (F i 0), .int (F i 1), .int (F i 2), .int (F i 3), .int (F i 4), .ref (ad (12 + i))])) := by
  match i, hi with
  | 0, _ => rfl
  | 1, _ => rfl
  | 2, _ => rfl
  | 3, _ => rfl
  | 4, _ => rfl
  | 5, _ => rfl
  | 6, _ => rfl
  | 7, _ => rfl
  | n + 8, h => exact absurd h (by omega)
theorem wK_pat {ad : Nat → Nat} {cI cF : ClassId} {k act txt : Nat → Int32} {F pr : Nat → Nat → Int32} {i : Nat} (hi : i < 8) : (wK ad cI cF k act txt F pr)[12 + i]? = some (ad (12 + i), .inl (cI, 8, .inl (pr i))) := by
  match i, hi with
  | 0, _ => rfl
  | 1, _ => rfl
  | 2, _ => rfl
  | 3, _ => rfl
  | 4, _ => rfl
  | 5, _ => rfl
  | 6, _ => rfl
  | 7, _ => rfl
  | n + 8, h => exact absurd h (by omega)
theorem wK_set0 {ad : Nat → Nat} {cI cF : ClassId} {k act txt : Nat → Int32} {F pr : Nat → Nat → Int32} {i : Nat} {v : Int32} (hi : i < 8) : (wK ad cI cF k act txt F pr).set (4 + i) (ad (4 + i), .inr (1, [.int (F i 0), .int (F i 1), .int (F i 2), .int (F i 3), .int (F i 4), .ref (ad (12 + i))].set 0 (.int v))) = wK ad cI cF k act txt (up2 F i 0 v) pr := by
  match i, hi with
  | 0, _ => rfl
  | 1, _ => rfl
  | 2, _ => rfl
  | 3, _ => rfl
  | 4, _ => rfl
  | 5, _ => rfl
  | 6, _ => rfl
  | 7, _ => rfl
  | n + 8, h => exact absurd h (by omega)
theorem wK_set1 {ad : Nat → Nat} {cI cF : ClassId} {k act txt : Nat → Int32} {F pr : Nat → Nat → Int32} {i : Nat} {v : Int32} (hi : i < 8) : (wK ad cI cF k act txt F pr).set (4 + i) (ad (4 + i), .inr (1, [.int (F i 0), .int (F i 1), .int (F i 2), .int (F i 3), .int (F i 4), .ref (ad (12 + i))].set 1 (.int v))) = wK ad cI cF k act txt (up2 F i 1 v) pr := by
  match i, hi with
  | 0, _ => rfl
  | 1, _ => rfl
  | 2, _ => rfl
  | 3, _ => rfl
  | 4, _ => rfl
  | 5, _ => rfl
  | 6, _ => rfl
  | 7, _ => rfl
  | n + 8, h => exact absurd h (by omega)
theorem wK_set2 {ad : Nat → Nat} {cI cF : ClassId} {k act txt : Nat → Int32} {F pr : Nat → Nat → Int32} {i : Nat} {v : Int32} (hi : i < 8) : (wK ad cI cF k act txt F pr).set (4 + i) (ad (4 + i), .inr (1, [.int (F i 0), .int (F i 1), .int (F i 2), .int (F i 3), .int (F i 4), .ref (ad (12 + i))].set 2 (.int v))) = wK ad cI cF k act txt (up2 F i 2 v) pr := by
  match i, hi with
  | 0, _ => rfl
  | 1, _ => rfl
  | 2, _ => rfl
  | 3, _ => rfl
  | 4, _ => rfl
  | 5, _ => rfl
  | 6, _ => rfl
  | 7, _ => rfl
  | n + 8, h => exact absurd h (by omega)
theorem wK_set3 {ad : Nat → Nat} {cI cF : ClassId} {k act txt : Nat → Int32} {F pr : Nat → Nat → Int32} {i : Nat} {v : Int32} (hi : i < 8) : (wK ad cI cF k act txt F pr).set (4 + i) (ad (4 + i), .inr (1, [.int (F i 0), .int (F i 1), .int (F i 2), .int (F i 3), .int (F i 4), .ref (ad (12 + i))].set 3 (.int v))) = wK ad cI cF k act txt (up2 F i 3 v) pr := by
  match i, hi with
  | 0, _ => rfl
  | 1, _ => rfl
  | 2, _ => rfl
  | 3, _ => rfl
  | 4, _ => rfl
  | 5, _ => rfl
  | 6, _ => rfl
  | 7, _ => rfl
  | n + 8, h => exact absurd h (by omega)
theorem wK_set4 {ad : Nat → Nat} {cI cF : ClassId} {k act txt : Nat → Int32} {F pr : Nat → Nat → Int32} {i : Nat} {v : Int32} (hi : i < 8) : (wK ad cI cF k act txt F pr).set (4 + i) (ad (4 + i), .inr (1, [.int (F i 0), .int (F i 1), .int (F i 2), .int (F i 3), .int (F i 4), .ref (ad (12 + i))].set 4 (.int v))) = wK ad cI cF k act txt (up2 F i 4 v) pr := by
  match i, hi with
  | 0, _ => rfl
  | 1, _ => rfl
  | 2, _ => rfl
  | 3, _ => rfl
  | 4, _ => rfl
  | 5, _ => rfl
  | 6, _ => rfl
  | 7, _ => rfl
  | n + 8, h => exact absurd h (by omega)
theorem wK_pset {ad : Nat → Nat} {cI cF : ClassId} {k act txt : Nat → Int32} {F pr : Nat → Nat → Int32} {i : Nat} {g : Nat → Int32} (hi : i < 8) : (wK ad cI cF k act txt F pr).set (12 + i) (ad (12 + i), .inl (cI, 8, .inl g)) = wK ad cI cF k act txt F (va_up pr i g) := by
  match i, hi with
  | 0, _ => rfl
  | 1, _ => rfl
  | 2, _ => rfl
  | 3, _ => rfl
  | 4, _ => rfl
  | 5, _ => rfl
  | 6, _ => rfl
  | 7, _ => rfl
  | n + 8, h => exact absurd h (by omega)
theorem gR_8 (h0 q1 q2 q3 f0 f1 f2 f3 f4 f5 f6 f7 p0 p1 p2 p3 p4 p5 p6 p7 : Nat) : ((va_up (va_up (va_up (va_up (va_up (va_up (va_up (va_up (fun _ => none) 0 (some f0)) 1 (some f1)) 2 (some f2)) 3 (some f3)) 4 (some f4)) 5 (some f5)) 6 (some f6)) 7 (some f7)) : Nat → Option Nat) = gR (fun j => ([h0, q1, q2, q3, f0, f1, f2, f3, f4, f5, f6, f7, p0, p1, p2, p3, p4, p5, p6, p7] : List Nat).getD j 0) := by
  funext j
  match j with
  | 0 => rfl
  | 1 => rfl
  | 2 => rfl
  | 3 => rfl
  | 4 => rfl
  | 5 => rfl
  | 6 => rfl
  | 7 => rfl
  | n + 8 =>
    unfold gR
    rw [if_neg (by omega)]
    simp only [va_up]
    rw [if_neg (by omega), if_neg (by omega), if_neg (by omega), if_neg (by omega), if_neg (by omega), if_neg (by omega), if_neg (by omega), if_neg (by omega)]
theorem kP_in {j n : Int32} (h : n.toInt ≤ 8) (h1 : ¬ j < 0) (h2 : j < n) : vp_in j 8 := by
  rw [vp_in_iff]
  have h3 := Int32.not_lt.mp h1
  rw [Int32.le_iff_toInt_le] at h3
  rw [Int32.lt_iff_toInt_lt] at h2
  exact ⟨h3, by omega⟩
section MKW
variable {p : Program} {l : Launch} {e : Env} {R : Room} {s : State} {m : MethodId} {args : Array Value} {below : List Frame} {meth : Method} {c : Code} {H : Heap} {locs : List Loc} {cells slots : Nat} {Q : State → Prop}
variable {pc : Nat} {ls : Array Slot} {rest st0 : List Value} {a : Array Value} {A0 A1 : Nat → Prop} {H0 : Heap} {D : va_G} {cl : List vw_C} {tys : List (ClassId × FieldType)} {cc : ByteArray} {X : va_W} {av : List Value} {sz tS : Nat}
/-- words of the tables on nest mates, which a caller hands on -/
def gN (U : State) : Prop := va_Nw (.fieldLinkNest R_ModeKeeper 65 "ModeKeeper$Form" "there" "Z" "ModeKeeper") U ∧ va_Nw (.fieldLinkNest R_ModeKeeper 68 "ModeKeeper$Form" "id" "I" "ModeKeeper") U ∧ va_Nw (.fieldLinkNest R_ModeKeeper 71 "ModeKeeper$Form" "every" "I" "ModeKeeper") U ∧ va_Nw (.fieldLinkNest R_ModeKeeper 62 "ModeKeeper$Form" "on" "Z" "ModeKeeper") U ∧ va_Nw (.fieldLinkNest R_ModeKeeper 78 "ModeKeeper$Form" "count" "I" "ModeKeeper") U ∧ va_Nw (.fieldLinkNest R_ModeKeeper 81 "ModeKeeper$Form" "parameters" "[I" "ModeKeeper") U ∧ va_Nw (.methodLinkNest R_ModeKeeper 42 y_Form_init "ModeKeeper") U ∧ va_AO "ModeKeeper$Form" U
theorem gN_there {U : State} {A : Array Value} (h : gN U) : (Cond.fieldLinkNest R_ModeKeeper 65 "ModeKeeper$Form" "there" "Z" "ModeKeeper").before A U = true := va_Nw.use rfl h.1
theorem gN_id {U : State} {A : Array Value} (h : gN U) : (Cond.fieldLinkNest R_ModeKeeper 68 "ModeKeeper$Form" "id" "I" "ModeKeeper").before A U = true := va_Nw.use rfl h.2.1
theorem gN_every {U : State} {A : Array Value} (h : gN U) : (Cond.fieldLinkNest R_ModeKeeper 71 "ModeKeeper$Form" "every" "I" "ModeKeeper").before A U = true := va_Nw.use rfl h.2.2.1
theorem gN_on {U : State} {A : Array Value} (h : gN U) : (Cond.fieldLinkNest R_ModeKeeper 62 "ModeKeeper$Form" "on" "Z" "ModeKeeper").before A U = true := va_Nw.use rfl h.2.2.2.1
theorem gN_count {U : State} {A : Array Value} (h : gN U) : (Cond.fieldLinkNest R_ModeKeeper 78 "ModeKeeper$Form" "count" "I" "ModeKeeper").before A U = true := va_Nw.use rfl h.2.2.2.2.1
theorem gN_parameters {U : State} {A : Array Value} (h : gN U) : (Cond.fieldLinkNest R_ModeKeeper 81 "ModeKeeper$Form" "parameters" "[I" "ModeKeeper").before A U = true := va_Nw.use rfl h.2.2.2.2.2.1
theorem gN.warm {U : State} (hW : s.WarmedH U.vm) (h : gN s) : gN U := ⟨h.1.warmF hW, h.2.1.warmF hW, h.2.2.1.warmF hW, h.2.2.2.1.warmF hW, h.2.2.2.2.1.warmF hW, h.2.2.2.2.2.1.warmF hW, h.2.2.2.2.2.2.1.warmM hW, h.2.2.2.2.2.2.2.moved hW.alike⟩
theorem gN.same {u U : State} (e : u.vm = U.vm) (h : gN u) : gN U := ⟨h.1.same rfl e, h.2.1.same rfl e, h.2.2.1.same rfl e, h.2.2.2.1.same rfl e, h.2.2.2.2.1.same rfl e, h.2.2.2.2.2.1.same rfl e, h.2.2.2.2.2.2.1.same rfl e, h.2.2.2.2.2.2.2.moved (by rw [e]; exact Vm.Alike.refl _)⟩
/-- what a method finds -/
def gP (D : va_G) (cl : List vw_C) (tys : List (ClassId × FieldType)) (X : va_W) (sz : Nat) (U : State) : Prop := U.heap.size = sz ∧ va_P D cl X U.heap ∧ va_K D cl tys U ∧ va_D (fun _ => True) X ∧ gN U
theorem gP.calling {g : JFrame} {mk : MethodId} {U : State} (q : gP D cl tys X sz U) : gP D cl tys X sz (U.calling g mk a) := by
  obtain ⟨q1, qP, qK, qD, qN⟩ := q
  exact ⟨q1, qP, va_K.moved (u := U) (U := U.calling g mk a) (Vm.Alike.refl U.vm) qK, qD, gN.same (u := U) (U := U.calling g mk a) rfl qN⟩
theorem g_blind : FrameBlind (va_Pc av (gP D cl tys X sz)) := fun _ _ _ _ q => ⟨q.1, q.2.calling⟩
theorem gP.of {U : State} (hP : va_P D cl X H) (hK : va_K D cl tys s) (hD : va_D A0 X) (hN : gN s) (hU : U.heap = H) (hW : s.WarmedH U.vm) : gP D cl tys X H.size U := ⟨by rw [hU], by rw [hU]; exact hP, va_K.moved hW.alike hK, hD.weaken (fun _ _ _ _ => trivial), hN.warm hW⟩
theorem g_pre (hP : va_P D cl X H) (hK : va_K D cl tys s) (hD : va_D A0 X) (hN : gN s) : ∀ U : State, U.heap = H → s.WarmedH U.vm → va_Pc av (gP D cl tys X H.size) av.toArray U := fun _ hU hW => ⟨rfl, gP.of hP hK hD hN hU hW⟩
theorem g_blind0 : FrameBlind (va_Pc av (fun _ => True)) := fun _ _ _ _ q => q
/-- the table of the safe mode: its static field, and the ints that it holds -/
def gZ (tS : Nat) (A : Nat → Prop) (U : State) (H : Heap) : Prop := va_Z "ModeKeeper" "SAFE_ACTUATORS" "[I" (.ref tS) A U H ∧ va_X tS 8 kSafe U H ∧ tS < H.size ∧ ¬ A tS
def gPz (D : va_G) (cl : List vw_C) (tys : List (ClassId × FieldType)) (X : va_W) (sz tS : Nat) (U : State) : Prop := gP D cl tys X sz U ∧ gZ tS (va_A X sz) U U.heap
theorem gZ.moved {A : Nat → Prop} {u U : State} (hvm : u.vm.Alike U.vm) (h : gZ tS A u H) : gZ tS A U H := ⟨h.1.moved hvm, h.2.1.moved hvm, h.2.2⟩
theorem g_blindZ : FrameBlind (va_Pc av (gPz D cl tys X sz tS)) := fun a U g mk q => ⟨q.1, q.2.1.calling, gZ.moved (u := U) (U := U.calling g mk a) (Vm.Alike.refl U.vm) q.2.2⟩
theorem gZ.pass (hZ : gZ tS A0 s s.heap) (hD : va_D A0 X) (hS : va_S A0 s.heap H locs) (hA : ∀ q, s.heap.size ≤ q → A0 q) : gZ tS (va_A X H.size) s H := by
  have hF := g_free hD hS hA
  obtain ⟨h1, h2, h3, h4⟩ := hZ
  exact ⟨(h1.kept hS.2.1).narrow hF, h2.kept (hS.2.1 tS h3 h4), Nat.lt_of_lt_of_le h3 hS.1, fun z => h4 (hF tS z)⟩
theorem g_preZ (hP : va_P D cl X H) (hK : va_K D cl tys s) (hD : va_D A0 X) (hN : gN s) (hZ : gZ tS (va_A X H.size) s H) : ∀ U : State, U.heap = H → s.WarmedH U.vm → va_Pc av (gPz D cl tys X H.size tS) av.toArray U := fun U hU hW => ⟨rfl, gP.of hP hK hD hN hU hW, by rw [hU]; exact hZ.moved hW.alike⟩
/-- an object into an array of references, by a Nat index -/
theorem g_ast {ad : Nat} {ws : va_W} (hexec : p.tables.exec = Jvm.exec) (hb : c.code = cc) (hK : va_K D cl tys s) (hP : va_P D cl ws H) (hD : va_D A0 ws) (hS : va_S A0 H0 H locs) (q0 t0 qk ci : Nat) {cA : ClassId} {r : vw_C} {n v : Nat} {vs : List Value} {f : Nat → Option Nat} (ha : ws[q0]? = some (ad, .inl (cA, n, .inr (.inr (.inr (.inr f)))))) (ht : tys[t0]? = some (cA, .object r.1)) (hv : ws[qk]? = some (v, .inr (ci, vs))) (hc : cl[ci]? = some r) {i : Nat} (hi : i < n) (hn : n < 2 ^ 31) (hdg : decode cc pc = .ok (.aastore, 1))
    (kk : ∀ (H1 : Heap) (locs1 : List Loc), va_P D cl (ws.set q0 (ad, .inl (cA, n, .inr (.inr (.inr (.inr (va_up f i (some v)))))))) H1 → va_D A0 (ws.set q0 (ad, .inl (cA, n, .inr (.inr (.inr (.inr (va_up f i (some v)))))))) → va_S A0 H0 H1 locs1 → W p l e R s m args below meth c H1 locs1 cells slots Q (F0 m (pc + 1) ls rest)) : W p l e R s m args below meth c H locs cells slots Q (F0 m pc ls (.ref v :: .int (nI i) :: .ref ad :: rest)) := by
  refine va_astq hexec hb hK hP hD hS q0 t0 qk ci ha ht hv hc (vp_in_nI hi hn) hdg ?_
  rw [nI_clamp (Nat.lt_trans hi hn)]
  exact kk
end MKW
end
section
theorem qk_0 : Cond.fieldLink R_ModeKeeper 35 "ModeKeeper" "forms" "[LModeKeeper$Form;" ∈ wAll := wAll_of 60 rfl rfl
theorem qk_1 : Cond.fieldLink R_ModeKeeper 13 "ModeKeeper" "mode" "I" ∈ wAll := wAll_of 54 rfl rfl
theorem qk_2 : Cond.fieldLink R_ModeKeeper 17 "ModeKeeper" "changes" "I" ∈ wAll := wAll_of 55 rfl rfl
theorem qk_3 : Cond.fieldLink R_ModeKeeper 84 "ModeKeeper" "SAFE_ACTUATORS" "[I" ∈ wAll := wAll_of 96 rfl rfl
theorem qk_4 : Cond.fieldLink R_ModeKeeper 9 "ModeKeeper" "actuators" "[I" ∈ wAll := wAll_of 53 rfl rfl
theorem qk_5 : Cond.methodLink R_ModeKeeper 87 arraycopyName ∈ wAll := wAll_of 98 rfl rfl
theorem qk_6 : Cond.native arraycopyName ∈ wAll := wAll_of 100 rfl rfl
theorem qk_7 : Cond.static arraycopyName ∈ wAll := wAll_of 99 rfl rfl
theorem qk_8 : Cond.initialized "java/lang/System" ∈ wAll := wAll_of 11 rfl rfl
theorem qk_9 : Cond.fieldLink R_ModeKeeper 30 "ModeKeeper" "textCount" "I" ∈ wAll := wAll_of 59 rfl rfl
theorem qk_10 : Cond.initialized R_ModeKeeper ∈ wAll := wAll_of 8 rfl rfl
theorem qk_11 : Cond.methodLink R_ModeKeeper 58 y_ModeKeeper_find ∈ wAll := wAll_of 121 rfl rfl
theorem qk_12 : Cond.instanceMethod y_ModeKeeper_find ∈ wAll := wAll_of 123 rfl rfl
theorem qk_13 : Cond.selects R_ModeKeeper y_ModeKeeper_find y_ModeKeeper_find ∈ wAll := wAll_of 2 rfl rfl
theorem qk_14 : Cond.fieldLink R_ModeKeeper 39 "ModeKeeper" "formCount" "I" ∈ wAll := wAll_of 61 rfl rfl
theorem qk_15 : Cond.fieldLink R_ModeKeeper 27 "ModeKeeper" "text" "[I" ∈ wAll := wAll_of 58 rfl rfl
theorem qk_16 : Cond.methodLink R_ModeKeeper 43 y_ModeKeeper_isActuator ∈ wAll := wAll_of 85 rfl rfl
theorem qk_17 : Cond.static y_ModeKeeper_isActuator ∈ wAll := wAll_of 86 rfl rfl
theorem qk_18 : Cond.methodLink R_ModeKeeper 47 y_ModeKeeper_changeMode ∈ wAll := wAll_of 92 rfl rfl
theorem qk_19 : Cond.instanceMethod y_ModeKeeper_changeMode ∈ wAll := wAll_of 94 rfl rfl
theorem qk_20 : Cond.selects R_ModeKeeper y_ModeKeeper_changeMode y_ModeKeeper_changeMode ∈ wAll := wAll_of 0 rfl rfl
theorem qk_21 : Cond.fieldLink R_ModeKeeper 20 "ModeKeeper" "alarmIsSet" "Z" ∈ wAll := wAll_of 56 rfl rfl
theorem qk_22 : Cond.fieldLink R_ModeKeeper 24 "ModeKeeper" "alarmTick" "I" ∈ wAll := wAll_of 57 rfl rfl
theorem qk_23 : Cond.methodLink R_ModeKeeper 50 y_ModeKeeper_failureOfNewForm ∈ wAll := wAll_of 117 rfl rfl
theorem qk_24 : Cond.instanceMethod y_ModeKeeper_failureOfNewForm ∈ wAll := wAll_of 119 rfl rfl
theorem qk_25 : Cond.selects R_ModeKeeper y_ModeKeeper_failureOfNewForm y_ModeKeeper_failureOfNewForm ∈ wAll := wAll_of 1 rfl rfl
theorem qk_26 : Cond.methodLink R_ModeKeeper 54 y_ModeKeeper_fillEmptyPlace ∈ wAll := wAll_of 125 rfl rfl
theorem qk_27 : Cond.instanceMethod y_ModeKeeper_fillEmptyPlace ∈ wAll := wAll_of 127 rfl rfl
theorem qk_28 : Cond.selects R_ModeKeeper y_ModeKeeper_fillEmptyPlace y_ModeKeeper_fillEmptyPlace ∈ wAll := wAll_of 3 rfl rfl
theorem qk_29 : Cond.methodLink R_ModeKeeper 74 y_ModeKeeper_divides ∈ wAll := wAll_of 141 rfl rfl
theorem qk_30 : Cond.static y_ModeKeeper_divides ∈ wAll := wAll_of 142 rfl rfl
theorem qk_31 : Cond.methodLink R_Form 3 objectInit ∈ wAll := wAll_of 26 rfl rfl
theorem qk_32 : Cond.instanceMethod objectInit ∈ wAll := wAll_of 18 rfl rfl
theorem qk_33 : Cond.code objectInit ⟨#[0xb1]⟩ 1 none ∈ wAll := wAll_of 19 rfl rfl
theorem qk_34 : Cond.fieldLink R_Form 9 "ModeKeeper$Form" "there" "Z" ∈ wAll := wAll_of 27 rfl rfl
theorem qk_35 : Cond.fieldLink R_Form 15 "ModeKeeper$Form" "id" "I" ∈ wAll := wAll_of 29 rfl rfl
theorem qk_36 : Cond.fieldLink R_Form 19 "ModeKeeper$Form" "every" "I" ∈ wAll := wAll_of 31 rfl rfl
theorem qk_37 : Cond.fieldLink R_Form 22 "ModeKeeper$Form" "on" "Z" ∈ wAll := wAll_of 33 rfl rfl
theorem qk_38 : Cond.fieldLink R_Form 25 "ModeKeeper$Form" "count" "I" ∈ wAll := wAll_of 35 rfl rfl
theorem qk_39 : Cond.arrayClass .int ∈ wAll := wAll_of 52 rfl rfl
theorem qk_40 : Cond.fieldLink R_Form 28 "ModeKeeper$Form" "parameters" "[I" ∈ wAll := wAll_of 37 rfl rfl
theorem qk_41 : Cond.methodLink R_ModeKeeper 1 objectInit ∈ wAll := wAll_of 17 rfl rfl
theorem qk_42 : Cond.classLink R_ModeKeeper 33 R_Form ∈ wAll := wAll_of 20 rfl rfl
theorem qk_43 : Cond.instantiable R_Form 6 ∈ wAll := wAll_of 22 rfl rfl
theorem qk_44 : Cond.initialized R_Form ∈ wAll := wAll_of 9 rfl rfl
theorem qk_45 : Cond.instanceMethod y_Form_init ∈ wAll := wAll_of 24 rfl rfl
end
section
set_option maxHeartbeats 4000000 in
set_option maxRecDepth 100000 in
theorem c_ModeKeeper_isActuator (l : Launch) (a : Int32) : Met l y_ModeKeeper_isActuator w_ModeKeeper_isActuator ({ frames := 0, cells := 0, slots := 0, locals := 0 }) (va_Pc [.int a] (fun _ => True)) (vp_Si (fun r => r = (kA a))) 0 0 (fun _ => False) := by
  refine Met.ofW (cc := b_ModeKeeper_isActuator) (maxL := 1) (ret := (some .boolean)) (by decide) rfl ?_
  intro p e s m args below meth c s₁ B hml hv
  obtain ⟨rfl, -⟩ := hv
  have hx := B.exec
  have hb := B.bytes
  have hrt := B.returns
  have hq : ∀ w ∈ wAll, w.before ([.int a] : List Value).toArray s = true := fun w h => atoms_spec (ws := w_ModeKeeper_isActuator) B.pre w (List.mem_cons_of_mem _ h)
  have hown : s.vm.findClass R_ModeKeeper = some m.cls := findClass_of_methodNamed B.named
  have hlocks := B.notSynchronized
  have hl := lv_entry ([.int a]) (n := 1) (Nat.le_of_ble_eq_true rfl)
  rw [lg_entry_eq]
  generalize (lg_sl ([.int a]) ++ List.replicate (1 - (lg_sl ([.int a])).length) Slot.unset).toArray = ls at hl ⊢
  have hl : lv_has ls 1 [(0, .int a)] := hl
  refine lv_iload_n hx hb d_ModeKeeper_isActuator_0 rfl (lv_at hl 0 rfl) ?_
  refine lv_if_lt (tgt := 14) hx hb d_ModeKeeper_isActuator_1 (by decide) (fun c_1 => ?_) (fun c_1 => ?_)
  · refine lv_iconst (v := 0) hx hb d_ModeKeeper_isActuator_14 (by decide) ?_
    exact W.zret (v := 0) hx hb hrt rfl (fun t ht hW => ⟨0, rfl, (by simp only [kA, if_pos c_1] <;> rfl), ht⟩) (fun _ h => by cases h) d_ModeKeeper_isActuator_15
  · refine lv_iload_n hx hb d_ModeKeeper_isActuator_4 rfl (lv_at hl 0 rfl) ?_
    refine lv_bipush (v := 8) hx hb d_ModeKeeper_isActuator_5 (by decide) ?_
    refine lv_icmp_ge (tgt := 14) hx hb d_ModeKeeper_isActuator_7 (by decide) (fun c_2 => ?_) (fun c_2 => ?_)
    · refine lv_iconst (v := 0) hx hb d_ModeKeeper_isActuator_14 (by decide) ?_
      exact W.zret (v := 0) hx hb hrt rfl (fun t ht hW => ⟨0, rfl, (by simp only [kA, if_neg c_1, if_pos c_2] <;> rfl), ht⟩) (fun _ h => by cases h) d_ModeKeeper_isActuator_15
    · refine lv_iconst (v := 1) hx hb d_ModeKeeper_isActuator_10 (by decide) ?_
      refine lv_goto (tgt := 15) hx hb d_ModeKeeper_isActuator_11 (by decide) ?_
      exact W.zret (v := 1) hx hb hrt rfl (fun t ht hW => ⟨1, rfl, (by simp only [kA, if_neg c_1, if_neg c_2] <;> rfl), ht⟩) (fun _ h => by cases h) d_ModeKeeper_isActuator_15
set_option maxHeartbeats 4000000 in
set_option maxRecDepth 100000 in
theorem c_ModeKeeper_divides (l : Launch) (x y : Int32) : Met l y_ModeKeeper_divides w_ModeKeeper_divides ({ frames := 0, cells := 0, slots := 0, locals := 0 }) (va_Pc [.int x, .int y] (fun _ => True)) (vp_Si (fun r => r = (kD x y))) 0 0 (fun _ => False) := by
  refine Met.ofW (cc := b_ModeKeeper_divides) (maxL := 2) (ret := (some .boolean)) (by decide) rfl ?_
  intro p e s m args below meth c s₁ B hml hv
  obtain ⟨rfl, -⟩ := hv
  have hx := B.exec
  have hb := B.bytes
  have hrt := B.returns
  have hq : ∀ w ∈ wAll, w.before ([.int x, .int y] : List Value).toArray s = true := fun w h => atoms_spec (ws := w_ModeKeeper_divides) B.pre w (List.mem_cons_of_mem _ h)
  have hown : s.vm.findClass R_ModeKeeper = some m.cls := findClass_of_methodNamed B.named
  have hlocks := B.notSynchronized
  have hl := lv_entry ([.int x, .int y]) (n := 2) (Nat.le_of_ble_eq_true rfl)
  rw [lg_entry_eq]
  generalize (lg_sl ([.int x, .int y]) ++ List.replicate (2 - (lg_sl ([.int x, .int y])).length) Slot.unset).toArray = ls at hl ⊢
  have hl : lv_has ls 2 [(0, .int x), (1, .int y)] := hl
  refine lv_iload_n hx hb d_ModeKeeper_divides_0 rfl (lv_at hl 0 rfl) ?_
  refine lv_if_le (tgt := 14) hx hb d_ModeKeeper_divides_1 (by decide) (fun c_1 => ?_) (fun c_1 => ?_)
  · refine lv_iconst (v := 0) hx hb d_ModeKeeper_divides_14 (by decide) ?_
    exact W.zret (v := 0) hx hb hrt rfl (fun t ht hW => ⟨0, rfl, (by simp only [kD, if_pos c_1] <;> rfl), ht⟩) (fun _ h => by cases h) d_ModeKeeper_divides_15
  · refine lv_iload_n hx hb d_ModeKeeper_divides_4 rfl (lv_at hl 1 rfl) ?_
    refine lv_iload_n hx hb d_ModeKeeper_divides_5 rfl (lv_at hl 0 rfl) ?_
    refine lv_irem hx hb d_ModeKeeper_divides_6 (fun h0 => c_1 (by rw [h0]; decide)) ?_
    refine lv_if_ne (tgt := 14) hx hb d_ModeKeeper_divides_7 (by decide) (fun c_2 => ?_) (fun c_2 => ?_)
    · refine lv_iconst (v := 0) hx hb d_ModeKeeper_divides_14 (by decide) ?_
      exact W.zret (v := 0) hx hb hrt rfl (fun t ht hW => ⟨0, rfl, (by simp only [kD, if_neg c_1, if_neg c_2] <;> rfl), ht⟩) (fun _ h => by cases h) d_ModeKeeper_divides_15
    · refine lv_iconst (v := 1) hx hb d_ModeKeeper_divides_10 (by decide) ?_
      refine lv_goto (tgt := 15) hx hb d_ModeKeeper_divides_11 (by decide) ?_
      exact W.zret (v := 1) hx hb hrt rfl (fun t ht hW => ⟨1, rfl, (by simp only [kD, if_neg c_1, if_pos c_2] <;> rfl), ht⟩) (fun _ h => by cases h) d_ModeKeeper_divides_15
set_option maxHeartbeats 4000000 in
set_option maxRecDepth 100000 in
theorem c_ModeKeeper_find (l : Launch) (dC : Nat → ClassId) (dI : Nat → Nat → Nat) (ad : Nat → Nat) (sz : Nat) (cI cF : ClassId) (k act txt : Nat → Int32) (F pr : Nat → Nat → Int32) (id : Int32) : Met l y_ModeKeeper_find w_ModeKeeper_find ({ frames := 0, cells := 0, slots := 0, locals := 0 }) (va_Pc [.ref (ad 0), .int id] (gP (dC, dI) classes (tyK cI cF) (wK ad cI cF k act txt F pr) sz)) (va_Sq (fun r => r = (kFind F id 8 0).map (fun i => ad (4 + i)))) 0 0 (fun _ => False) := by
  refine Met.ofW (cc := b_ModeKeeper_find) (maxL := 4) (ret := (some (.object "ModeKeeper$Form"))) (by decide) rfl ?_
  intro p e s m args below meth c s₁ B hml hv
  obtain ⟨rfl, hsz, hP, hK, hD0, hN⟩ := hv
  have hx := B.exec
  have hb := B.bytes
  have hrt := B.returns
  have hq : ∀ w ∈ wAll, w.before ([.ref (ad 0), .int id] : List Value).toArray s = true := fun w h => atoms_spec (ws := w_ModeKeeper_find) B.pre w (List.mem_cons_of_mem _ h)
  have hown : s.vm.findClass R_ModeKeeper = some m.cls := findClass_of_methodNamed B.named
  have hlocks := B.notSynchronized
  subst hsz
  have hD := hD0
  have hl := lv_entry ([.ref (ad 0), .int id]) (n := 4) (Nat.le_of_ble_eq_true rfl)
  rw [lg_entry_eq]
  generalize (lg_sl ([.ref (ad 0), .int id]) ++ List.replicate (4 - (lg_sl ([.ref (ad 0), .int id])).length) Slot.unset).toArray = ls at hl ⊢
  have hl : lv_has ls 4 [(0, .ref (ad 0)), (1, .int id)] := hl
  have key : ∀ (n i : Nat), i + n = 8 → kFind F id 8 0 = kFind F id n i → ∀ (ls : Array Slot), lv_has ls 4 [(0, .ref (ad 0)), (1, .int id), (2, .int (nI i))] → W p l e (headSpec w_ModeKeeper_find ({ frames := 0, cells := 0, slots := 0, locals := 0 })).room s m ([.ref (ad 0), .int id] : List Value).toArray below meth c s.heap [] 0 0 (MQ below (va_Sq (fun r => r = (kFind F id 8 0).map (fun i => ad (4 + i)))) ([.ref (ad 0), .int id] : List Value).toArray s 0 0 (fun _ => False)) (F0 m 2 ls []) := by
    intro n
    induction n with
    | zero =>
      intro i hin hres ls hl
      obtain rfl : i = 8 := by omega
      refine lv_iload_n hx hb d_ModeKeeper_find_2 rfl (lv_at hl 2 rfl) ?_
      refine lv_bipush (v := 8) hx hb d_ModeKeeper_find_3 (by decide) ?_
      refine lv_icmp_ge (tgt := 38) hx hb d_ModeKeeper_find_5 (by decide) (fun c_1 => ?_) (fun c_1 => ?_)
      · refine lv_null hx hb d_ModeKeeper_find_38 ?_
        exact W.aret (v := .null) hx hb hrt (Or.inl ⟨_, rfl⟩) (Or.inl rfl) (fun t ht hW => ⟨none, rfl, (by rw [hres]; rfl), ht⟩) (fun _ h => by cases h) d_ModeKeeper_find_39
      · exact absurd (by decide +kernel) c_1
    | succ n ih =>
      intro i hin hres ls hl
      have hi : i < 8 := by omega
      refine lv_iload_n hx hb d_ModeKeeper_find_2 rfl (lv_at hl 2 rfl) ?_
      refine lv_bipush (v := 8) hx hb d_ModeKeeper_find_3 (by decide) ?_
      refine lv_icmp_ge (tgt := 38) hx hb d_ModeKeeper_find_5 (by decide) (fun c_2 => ?_) (fun c_2 => ?_)
      · exact absurd c_2 (nI_ge (b := 8) hi (by decide))
      · refine lv_aload_n hx hb d_ModeKeeper_find_8 rfl (lv_at hl 0 rfl) ?_
        refine va_get (D := (dC, dI)) (ci := 0) (v := .ref (ad 3)) (C := R_ModeKeeper) (T := F_ModeKeeper) (N := 9) hx hb hq iw_K hown hK hP 0 rfl rfl 7 (by decide) (hq _ qk_0) (fun _ h9 => h9) rfl d_ModeKeeper_find_9 ?_
        refine lv_iload_n hx hb d_ModeKeeper_find_12 rfl (lv_at hl 2 rfl) ?_
        refine g_ald (D := (dC, dI)) hx hb hK hP 3 1 rfl rfl (i := i) (y := ad (4 + i)) hi (by decide) (if_pos hi) d_ModeKeeper_find_13 ?_
        refine lv_astore_n (lv' := [(3, .ref (ad (4 + i))), (0, .ref (ad 0)), (1, .int id), (2, .int (nI i))]) hx hb d_ModeKeeper_find_14 rfl hl (by decide) rfl (fun ls hl => ?_)
        refine lv_aload_n hx hb d_ModeKeeper_find_15 rfl (lv_at hl 0 rfl) ?_
        refine va_getN (D := (dC, dI)) (ci := 1) (v := .int (F i 0)) (C := R_Form) (T := F_Form) (N := 6) hx hb hq iw_F hown hK hP (4 + i) (wK_at hi) rfl 0 (by decide) (gN_there hN) (fun _ h9 => h9) rfl d_ModeKeeper_find_16 ?_
        refine lv_if_eq (tgt := 32) hx hb d_ModeKeeper_find_19 (by decide) (fun c_3 => ?_) (fun c_3 => ?_)
        · refine lv_iinc (v := (nI (i + 1))) (lv' := [(2, .int (nI (i + 1))), (3, .ref (ad (4 + i))), (0, .ref (ad 0)), (1, .int id)]) hx hb d_ModeKeeper_find_32 hl (k := 3) rfl ((show nI i + Int32.ofInt 1 = nI i + 1 from rfl).trans (nI_1 i)) (by decide) rfl (fun ls hl => ?_)
          refine lv_goto (tgt := 2) hx hb d_ModeKeeper_find_35 (by decide) ?_
          exact ih (i + 1) (by omega) (by rw [hres]; simp only [kFind, if_pos c_3]) ls (lv_sub hl [2, 3, 0] rfl)
        · refine lv_aload_n hx hb d_ModeKeeper_find_22 rfl (lv_at hl 0 rfl) ?_
          refine va_getN (D := (dC, dI)) (ci := 1) (v := .int (F i 1)) (C := R_Form) (T := F_Form) (N := 6) hx hb hq iw_F hown hK hP (4 + i) (wK_at hi) rfl 1 (by decide) (gN_id hN) (fun _ h9 => h9) rfl d_ModeKeeper_find_23 ?_
          refine lv_iload_n hx hb d_ModeKeeper_find_26 rfl (lv_at hl 2 rfl) ?_
          refine lv_icmp_ne (tgt := 32) hx hb d_ModeKeeper_find_27 (by decide) (fun c_4 => ?_) (fun c_4 => ?_)
          · refine lv_iinc (v := (nI (i + 1))) (lv' := [(2, .int (nI (i + 1))), (3, .ref (ad (4 + i))), (0, .ref (ad 0)), (1, .int id)]) hx hb d_ModeKeeper_find_32 hl (k := 3) rfl ((show nI i + Int32.ofInt 1 = nI i + 1 from rfl).trans (nI_1 i)) (by decide) rfl (fun ls hl => ?_)
            refine lv_goto (tgt := 2) hx hb d_ModeKeeper_find_35 (by decide) ?_
            exact ih (i + 1) (by omega) (by rw [hres]; simp only [kFind, if_neg c_3, if_neg c_4]) ls (lv_sub hl [2, 3, 0] rfl)
          · refine lv_aload_n hx hb d_ModeKeeper_find_30 rfl (lv_at hl 0 rfl) ?_
            exact W.aret (v := .ref (ad (4 + i))) hx hb hrt (Or.inl ⟨_, rfl⟩) (Or.inr ⟨_, rfl⟩) (fun t ht hW => ⟨(some ((ad (4 + i)))), rfl, (by rw [hres]; simp only [kFind, if_neg c_3, if_pos c_4] <;> rfl), ht⟩) (fun _ h => by cases h) d_ModeKeeper_find_31
  refine lv_iconst (v := 0) hx hb d_ModeKeeper_find_0 (by decide) ?_
  refine lv_istore_n (lv' := [(2, .int 0), (0, .ref (ad 0)), (1, .int id)]) hx hb d_ModeKeeper_find_1 rfl hl (by decide) rfl (fun ls hl => ?_)
  exact key 8 0 rfl rfl ls (lv_sub hl [1, 2, 0] rfl)
end
section
set_option maxHeartbeats 4000000 in
set_option maxRecDepth 100000 in
theorem c_ModeKeeper_changeMode (l : Launch) (dC : Nat → ClassId) (dI : Nat → Nat → Nat) (ad : Nat → Nat) (sz : Nat) (cI cF : ClassId) (k act txt : Nat → Int32) (F pr : Nat → Nat → Int32) (m0 : Int32) (tS : Nat) : Met l y_ModeKeeper_changeMode w_ModeKeeper_changeMode ({ frames := 1, cells := 0, slots := 0, locals := 18 }) (va_Pc [.ref (ad 0), .int m0] (gPz (dC, dI) classes (tyK cI cF) (wK ad cI cF k act txt F pr) sz tS)) (va_Qi (fun r (_ : Unit) => r = (kChR k m0)) (fun _ t => gB (dC, dI) classes (va_A (wK ad cI cF k act txt F pr) sz) (wK ad cI cF ((kChK k m0)) ((kChA k act m0)) txt F pr) t) (va_A (wK ad cI cF k act txt F pr) sz)) 0 0 (va_A (wK ad cI cF k act txt F pr) sz) := by
  refine Met.ofW (cc := b_ModeKeeper_changeMode) (maxL := 2) (ret := (some .boolean)) (by decide) rfl ?_
  intro p e s m args below meth c s₁ B hml hv
  obtain ⟨rfl, ⟨hsz, hP, hK, hD0, hN⟩, hZ⟩ := hv
  have hx := B.exec
  have hb := B.bytes
  have hrt := B.returns
  have hq : ∀ w ∈ wAll, w.before ([.ref (ad 0), .int m0] : List Value).toArray s = true := fun w h => atoms_spec (ws := w_ModeKeeper_changeMode) B.pre w (List.mem_cons_of_mem _ h)
  have hown : s.vm.findClass R_ModeKeeper = some m.cls := findClass_of_methodNamed B.named
  have hlocks := B.notSynchronized
  subst hsz
  have hD := hD0.self (sz := s.heap.size)
  generalize hAe : va_A (wK ad cI cF k act txt F pr) s.heap.size = A at hD hZ ⊢
  have hA : ∀ q : Nat, s.heap.size ≤ q → A q := fun q h => by rw [← hAe]; exact Or.inr h
  have hS : va_S A s.heap s.heap [] := va_S.rf
  have hl := lv_entry ([.ref (ad 0), .int m0]) (n := 2) (Nat.le_of_ble_eq_true rfl)
  rw [lg_entry_eq]
  generalize (lg_sl ([.ref (ad 0), .int m0]) ++ List.replicate (2 - (lg_sl ([.ref (ad 0), .int m0])).length) Slot.unset).toArray = ls at hl ⊢
  have hl : lv_has ls 2 [(0, .ref (ad 0)), (1, .int m0)] := hl
  refine lv_aload_n hx hb d_ModeKeeper_changeMode_0 rfl (lv_at hl 0 rfl) ?_
  refine va_get (D := (dC, dI)) (ci := 0) (v := .int (k 1)) (C := R_ModeKeeper) (T := F_ModeKeeper) (N := 9) hx hb hq iw_K hown hK hP 0 rfl rfl 1 (by decide) (hq _ qk_1) (fun _ h9 => h9) rfl d_ModeKeeper_changeMode_1 ?_
  refine lv_iload_n hx hb d_ModeKeeper_changeMode_4 rfl (lv_at hl 1 rfl) ?_
  refine lv_icmp_ne (tgt := 10) hx hb d_ModeKeeper_changeMode_5 (by decide) (fun c_1 => ?_) (fun c_1 => ?_)
  · refine lv_aload_n hx hb d_ModeKeeper_changeMode_10 rfl (lv_at hl 0 rfl) ?_
    refine lv_iload_n hx hb d_ModeKeeper_changeMode_11 rfl (lv_at hl 1 rfl) ?_
    refine va_put (D := (dC, dI)) (ci := 0) (v := .int m0) (ty := .int) (C := R_ModeKeeper) (T := F_ModeKeeper) (N := 9) hx hb hq iw_K t_ModeKeeper t_ModeKeeper_ok n_ModeKeeper hown hK hP hD hS 0 rfl rfl 1 (by decide) (hq _ qk_1) (fun _ h9 => h9) rfl (by decide +kernel) rfl rfl (Nat.le_of_ble_eq_true rfl) d_ModeKeeper_changeMode_12 (fun H locs hP hD hS => ?_)
    have hP : va_P (dC, dI) classes (wK ad cI cF ((upd k 1 m0)) act txt F pr) H := hP
    have hD : va_D A (wK ad cI cF ((upd k 1 m0)) act txt F pr) := hD
    refine lv_aload_n hx hb d_ModeKeeper_changeMode_15 rfl (lv_at hl 0 rfl) ?_
    refine lv_dup hx hb d_ModeKeeper_changeMode_16 rfl ?_
    refine va_get (D := (dC, dI)) (ci := 0) (v := .int ((upd k 1 m0) 2)) (C := R_ModeKeeper) (T := F_ModeKeeper) (N := 9) hx hb hq iw_K hown hK hP 0 rfl rfl 2 (by decide) (hq _ qk_2) (fun _ h9 => h9) rfl d_ModeKeeper_changeMode_17 ?_
    refine lv_iconst (v := 1) hx hb d_ModeKeeper_changeMode_20 (by decide) ?_
    refine lv_iadd hx hb d_ModeKeeper_changeMode_21 ?_
    refine va_put (D := (dC, dI)) (ci := 0) (v := .int (((upd k 1 m0) 2) + 1)) (ty := .int) (C := R_ModeKeeper) (T := F_ModeKeeper) (N := 9) hx hb hq iw_K t_ModeKeeper t_ModeKeeper_ok n_ModeKeeper hown hK hP hD hS 0 rfl rfl 2 (by decide) (hq _ qk_2) (fun _ h9 => h9) rfl (by decide +kernel) rfl rfl (Nat.le_of_ble_eq_true rfl) d_ModeKeeper_changeMode_22 (fun H locs hP hD hS => ?_)
    have hP : va_P (dC, dI) classes (wK ad cI cF ((upd (upd k 1 m0) 2 ((((upd k 1 m0) 2) + 1)))) act txt F pr) H := hP
    have hD : va_D A (wK ad cI cF ((upd (upd k 1 m0) 2 ((((upd k 1 m0) 2) + 1)))) act txt F pr) := hD
    refine lv_iload_n hx hb d_ModeKeeper_changeMode_25 rfl (lv_at hl 1 rfl) ?_
    refine lv_if_ne (tgt := 43) hx hb d_ModeKeeper_changeMode_26 (by decide) (fun c_2 => ?_) (fun c_2 => ?_)
    · refine lv_iconst (v := 1) hx hb d_ModeKeeper_changeMode_43 (by decide) ?_
      have e_k : (kChK k m0) = (upd (upd k 1 m0) 2 ((((upd k 1 m0) 2) + 1))) := (by simp only [kChR, kChK, kChA, if_neg c_1, if_neg c_2] <;> rfl)
      have e_act : (kChA k act m0) = act := (by simp only [kChR, kChK, kChA, if_neg c_1, if_neg c_2] <;> rfl)
      have hP9 : va_P (dC, dI) classes (wK ad cI cF ((kChK k m0)) ((kChA k act m0)) txt F pr) H := by rw [e_k, e_act]; exact hP
      have hD9 : va_D A (wK ad cI cF ((kChK k m0)) ((kChA k act m0)) txt F pr) := by rw [e_k, e_act]; exact hD
      exact W.zret (v := 1) hx hb hrt rfl (fun t ht hW => ⟨⟨1, (), rfl, (by simp only [kChR, kChK, kChA, if_neg c_1, if_neg c_2] <;> rfl), by rw [ht]; exact hP9, hD9⟩, hS.F ht⟩) hS.2.2 d_ModeKeeper_changeMode_44
    · refine va_gets hx hb hZ.1 hS hown (hq _ qk_3) (fun _ h9 => h9) d_ModeKeeper_changeMode_29 ?_
      refine lv_iconst (v := 0) hx hb d_ModeKeeper_changeMode_32 (by decide) ?_
      refine lv_aload_n hx hb d_ModeKeeper_changeMode_33 rfl (lv_at hl 0 rfl) ?_
      refine va_get (D := (dC, dI)) (ci := 0) (v := .ref (ad 1)) (C := R_ModeKeeper) (T := F_ModeKeeper) (N := 9) hx hb hq iw_K hown hK hP 0 rfl rfl 0 (by decide) (hq _ qk_4) (fun _ h9 => h9) rfl d_ModeKeeper_changeMode_34 ?_
      refine lv_iconst (v := 0) hx hb d_ModeKeeper_changeMode_37 (by decide) ?_
      refine lv_bipush (v := 8) hx hb d_ModeKeeper_changeMode_38 (by decide) ?_
      refine va_copyx (D := (dC, dI)) hx hb (by rw [hml]; exact hl.1.symm) hown (hq _ qk_5) (hq _ qk_6) (hq _ qk_7) (hq _ qk_8) hK hP hD hS hZ.2.1 hZ.2.2.1 hZ.2.2.2 1 0 rfl rfl (by decide) (by decide) (by decide) (by decide) (by decide) (Nat.le_of_ble_eq_true rfl) (by decide +kernel) d_ModeKeeper_changeMode_40 (fun H locs hP hD hS => ?_)
      have hP : va_P (dC, dI) classes (wK ad cI cF ((upd (upd k 1 m0) 2 ((((upd k 1 m0) 2) + 1)))) ((va_cpy kSafe act 0 0 8)) txt F pr) H := hP
      have hD : va_D A (wK ad cI cF ((upd (upd k 1 m0) 2 ((((upd k 1 m0) 2) + 1)))) ((va_cpy kSafe act 0 0 8)) txt F pr) := hD
      refine lv_iconst (v := 1) hx hb d_ModeKeeper_changeMode_43 (by decide) ?_
      have e_k : (kChK k m0) = (upd (upd k 1 m0) 2 ((((upd k 1 m0) 2) + 1))) := (by simp only [kChR, kChK, kChA, if_neg c_1, if_pos c_2] <;> rfl)
      have e_act : (kChA k act m0) = (va_cpy kSafe act 0 0 8) := (by simp only [kChR, kChK, kChA, if_neg c_1, if_pos c_2] <;> rfl)
      have hP9 : va_P (dC, dI) classes (wK ad cI cF ((kChK k m0)) ((kChA k act m0)) txt F pr) H := by rw [e_k, e_act]; exact hP
      have hD9 : va_D A (wK ad cI cF ((kChK k m0)) ((kChA k act m0)) txt F pr) := by rw [e_k, e_act]; exact hD
      exact W.zret (v := 1) hx hb hrt rfl (fun t ht hW => ⟨⟨1, (), rfl, (by simp only [kChR, kChK, kChA, if_neg c_1, if_pos c_2] <;> rfl), by rw [ht]; exact hP9, hD9⟩, hS.F ht⟩) hS.2.2 d_ModeKeeper_changeMode_44
  · refine lv_iconst (v := 0) hx hb d_ModeKeeper_changeMode_8 (by decide) ?_
    have e_k : (kChK k m0) = k := (by simp only [kChR, kChK, kChA, if_pos c_1] <;> rfl)
    have e_act : (kChA k act m0) = act := (by simp only [kChR, kChK, kChA, if_pos c_1] <;> rfl)
    have hP9 : va_P (dC, dI) classes (wK ad cI cF ((kChK k m0)) ((kChA k act m0)) txt F pr) s.heap := by rw [e_k, e_act]; exact hP
    have hD9 : va_D A (wK ad cI cF ((kChK k m0)) ((kChA k act m0)) txt F pr) := by rw [e_k, e_act]; exact hD
    exact W.zret (v := 0) hx hb hrt rfl (fun t ht hW => ⟨⟨0, (), rfl, (by simp only [kChR, kChK, kChA, if_pos c_1] <;> rfl), by rw [ht]; exact hP9, hD9⟩, hS.F ht⟩) hS.2.2 d_ModeKeeper_changeMode_9
set_option maxHeartbeats 4000000 in
set_option maxRecDepth 100000 in
theorem c_ModeKeeper_failureOfNewForm (l : Launch) (dC : Nat → ClassId) (dI : Nat → Nat → Nat) (ad : Nat → Nat) (sz : Nat) (cI cF : ClassId) (k act txt : Nat → Int32) (F pr : Nat → Nat → Int32) (id ev : Int32) : Met l y_ModeKeeper_failureOfNewForm w_ModeKeeper_failureOfNewForm ({ frames := 1, cells := 0, slots := 0, locals := 23 }) (va_Pc [.ref (ad 0), .int id, .int ev] (gP (dC, dI) classes (tyK cI cF) (wK ad cI cF k act txt F pr) sz)) (vp_Si (fun r => r = (kFail k F id ev))) 0 0 (fun _ => False) := by
  refine Met.ofW (cc := b_ModeKeeper_failureOfNewForm) (maxL := 3) (ret := (some .int)) (by decide) rfl ?_
  intro p e s m args below meth c s₁ B hml hv
  obtain ⟨rfl, hsz, hP, hK, hD0, hN⟩ := hv
  have hx := B.exec
  have hb := B.bytes
  have hrt := B.returns
  have hq : ∀ w ∈ wAll, w.before ([.ref (ad 0), .int id, .int ev] : List Value).toArray s = true := fun w h => atoms_spec (ws := w_ModeKeeper_failureOfNewForm) B.pre w (List.mem_cons_of_mem _ h)
  have hown : s.vm.findClass R_ModeKeeper = some m.cls := findClass_of_methodNamed B.named
  have hlocks := B.notSynchronized
  subst hsz
  have hD := hD0
  have hl := lv_entry ([.ref (ad 0), .int id, .int ev]) (n := 3) (Nat.le_of_ble_eq_true rfl)
  rw [lg_entry_eq]
  generalize (lg_sl ([.ref (ad 0), .int id, .int ev]) ++ List.replicate (3 - (lg_sl ([.ref (ad 0), .int id, .int ev])).length) Slot.unset).toArray = ls at hl ⊢
  have hl : lv_has ls 3 [(0, .ref (ad 0)), (1, .int id), (2, .int ev)] := hl
  refine lv_aload_n hx hb d_ModeKeeper_failureOfNewForm_0 rfl (lv_at hl 0 rfl) ?_
  refine va_get (D := (dC, dI)) (ci := 0) (v := .int (k 6)) (C := R_ModeKeeper) (T := F_ModeKeeper) (N := 9) hx hb hq iw_K hown hK hP 0 rfl rfl 6 (by decide) (hq _ qk_9) (fun _ h9 => h9) rfl d_ModeKeeper_failureOfNewForm_1 ?_
  refine lv_if_eq (tgt := 30) hx hb d_ModeKeeper_failureOfNewForm_4 (by decide) (fun c_1 => ?_) (fun c_1 => ?_)
  · refine lv_bipush (v := 13) hx hb d_ModeKeeper_failureOfNewForm_30 (by decide) ?_
    exact W.iret (v := 13) hx hb hrt (fun t ht hW => ⟨13, rfl, (by simp only [kFail, if_pos c_1] <;> rfl), ht⟩) (fun _ h => by cases h) d_ModeKeeper_failureOfNewForm_32
  · refine lv_iload_n hx hb d_ModeKeeper_failureOfNewForm_7 rfl (lv_at hl 2 rfl) ?_
    refine lv_iconst (v := 1) hx hb d_ModeKeeper_failureOfNewForm_8 (by decide) ?_
    refine lv_icmp_lt (tgt := 30) hx hb d_ModeKeeper_failureOfNewForm_9 (by decide) (fun c_2 => ?_) (fun c_2 => ?_)
    · refine lv_bipush (v := 13) hx hb d_ModeKeeper_failureOfNewForm_30 (by decide) ?_
      exact W.iret (v := 13) hx hb hrt (fun t ht hW => ⟨13, rfl, (by simp only [kFail, if_neg c_1, if_pos c_2] <;> rfl), ht⟩) (fun _ h => by cases h) d_ModeKeeper_failureOfNewForm_32
    · refine lv_iload_n hx hb d_ModeKeeper_failureOfNewForm_12 rfl (lv_at hl 2 rfl) ?_
      refine lv_sipush (v := 255) hx hb d_ModeKeeper_failureOfNewForm_13 (by decide) ?_
      refine lv_icmp_gt (tgt := 30) hx hb d_ModeKeeper_failureOfNewForm_16 (by decide) (fun c_3 => ?_) (fun c_3 => ?_)
      · refine lv_bipush (v := 13) hx hb d_ModeKeeper_failureOfNewForm_30 (by decide) ?_
        exact W.iret (v := 13) hx hb hrt (fun t ht hW => ⟨13, rfl, (by simp only [kFail, if_neg c_1, if_neg c_2, if_pos c_3] <;> rfl), ht⟩) (fun _ h => by cases h) d_ModeKeeper_failureOfNewForm_32
      · refine lv_iload_n hx hb d_ModeKeeper_failureOfNewForm_19 rfl (lv_at hl 1 rfl) ?_
        refine lv_if_lt (tgt := 30) hx hb d_ModeKeeper_failureOfNewForm_20 (by decide) (fun c_4 => ?_) (fun c_4 => ?_)
        · refine lv_bipush (v := 13) hx hb d_ModeKeeper_failureOfNewForm_30 (by decide) ?_
          exact W.iret (v := 13) hx hb hrt (fun t ht hW => ⟨13, rfl, (by simp only [kFail, if_neg c_1, if_neg c_2, if_neg c_3, if_pos c_4] <;> rfl), ht⟩) (fun _ h => by cases h) d_ModeKeeper_failureOfNewForm_32
        · refine lv_iload_n hx hb d_ModeKeeper_failureOfNewForm_23 rfl (lv_at hl 1 rfl) ?_
          refine lv_sipush (v := 255) hx hb d_ModeKeeper_failureOfNewForm_24 (by decide) ?_
          refine lv_icmp_le (tgt := 33) hx hb d_ModeKeeper_failureOfNewForm_27 (by decide) (fun c_5 => ?_) (fun c_5 => ?_)
          · refine lv_aload_n hx hb d_ModeKeeper_failureOfNewForm_33 rfl (lv_at hl 0 rfl) ?_
            refine lv_iload_n hx hb d_ModeKeeper_failureOfNewForm_34 rfl (lv_at hl 1 rfl) ?_
            refine va_csq (va_Run.run (va_runV (As := [.int id]) (rest := []) ⟨hx, hb, hml, hown, hq⟩ (c_ModeKeeper_find l dC dI ad s.heap.size cI cF k act txt F pr id) ⟨callB_of 1 hq (gd m_ModeKeeper_find) rfl rfl rfl (hq _ qk_10) (hq _ qk_11) (by decide +kernel) ⟨Nat.le_of_ble_eq_true rfl, Nat.le_of_ble_eq_true rfl⟩, (hq _ qk_12), (hq _ qk_13)⟩ ⟨g_blind, va_recv hK hP (ci := 0) (q0 := 0) rfl rfl, g_pre hP hK hD hN⟩ rfl rfl hl.1 rfl (lv_room (Nat.le_of_ble_eq_true rfl)) d_ModeKeeper_failureOfNewForm_35 ⟨Nat.zero_le _, Nat.zero_le _⟩)) (fun r hr => ?_)
            cases hf_6 : kFind F id 8 0 with
            | none =>
              obtain rfl : r = none := by rw [hr, hf_6]; rfl
              refine lv_ifnullN (tgt := 44) hx hb d_ModeKeeper_failureOfNewForm_38 (by decide) ?_
              refine lv_aload_n hx hb d_ModeKeeper_failureOfNewForm_44 rfl (lv_at hl 0 rfl) ?_
              refine va_get (D := (dC, dI)) (ci := 0) (v := .int (k 8)) (C := R_ModeKeeper) (T := F_ModeKeeper) (N := 9) hx hb hq iw_K hown hK hP 0 rfl rfl 8 (by decide) (hq _ qk_14) (fun _ h9 => h9) rfl d_ModeKeeper_failureOfNewForm_45 ?_
              refine lv_bipush (v := 8) hx hb d_ModeKeeper_failureOfNewForm_48 (by decide) ?_
              refine lv_icmp_lt (tgt := 56) hx hb d_ModeKeeper_failureOfNewForm_50 (by decide) (fun c_7 => ?_) (fun c_7 => ?_)
              · refine lv_iconst (v := 0) hx hb d_ModeKeeper_failureOfNewForm_56 (by decide) ?_
                exact W.iret (v := 0) hx hb hrt (fun t ht hW => ⟨0, rfl, (by simp only [kFail, if_neg c_1, if_neg c_2, if_neg c_3, if_neg c_4, if_pos c_5, hf_6, if_pos c_7] <;> rfl), ht⟩) (fun _ h => by cases h) d_ModeKeeper_failureOfNewForm_57
              · refine lv_bipush (v := 12) hx hb d_ModeKeeper_failureOfNewForm_53 (by decide) ?_
                exact W.iret (v := 12) hx hb hrt (fun t ht hW => ⟨12, rfl, (by simp only [kFail, if_neg c_1, if_neg c_2, if_neg c_3, if_neg c_4, if_pos c_5, hf_6, if_neg c_7] <;> rfl), ht⟩) (fun _ h => by cases h) d_ModeKeeper_failureOfNewForm_55
            | some i_8 =>
              obtain rfl : r = some (ad (4 + i_8)) := by rw [hr, hf_6]; rfl
              have hi : i_8 < 8 := by have h8 := (kFind_some hf_6).2.1; omega
              refine lv_ifnull hx hb d_ModeKeeper_failureOfNewForm_38 ?_
              refine lv_bipush (v := 11) hx hb d_ModeKeeper_failureOfNewForm_41 (by decide) ?_
              exact W.iret (v := 11) hx hb hrt (fun t ht hW => ⟨11, rfl, (by simp only [kFail, if_neg c_1, if_neg c_2, if_neg c_3, if_neg c_4, if_pos c_5, hf_6] <;> rfl), ht⟩) (fun _ h => by cases h) d_ModeKeeper_failureOfNewForm_43
          · refine lv_bipush (v := 13) hx hb d_ModeKeeper_failureOfNewForm_30 (by decide) ?_
            exact W.iret (v := 13) hx hb hrt (fun t ht hW => ⟨13, rfl, (by simp only [kFail, if_neg c_1, if_neg c_2, if_neg c_3, if_neg c_4, if_neg c_5] <;> rfl), ht⟩) (fun _ h => by cases h) d_ModeKeeper_failureOfNewForm_32
set_option maxHeartbeats 4000000 in
set_option maxRecDepth 100000 in
theorem c_ModeKeeper_fillEmptyPlace (l : Launch) (dC : Nat → ClassId) (dI : Nat → Nat → Nat) (ad : Nat → Nat) (sz : Nat) (cI cF : ClassId) (k act txt : Nat → Int32) (F pr : Nat → Nat → Int32) (id ev : Int32) (t : Nat) (ht8 : t ≤ 8) (hk6 : k 6 = nI t) : Met l y_ModeKeeper_fillEmptyPlace w_ModeKeeper_fillEmptyPlace ({ frames := 1, cells := 0, slots := 0, locals := 18 }) (va_Pc [.ref (ad 0), .int id, .int ev] (gP (dC, dI) classes (tyK cI cF) (wK ad cI cF k act txt F pr) sz)) (va_Qv (fun (_ : Unit) => True) (fun _ t => gB (dC, dI) classes (va_A (wK ad cI cF k act txt F pr) sz) (wK ad cI cF ((kFiK k F)) act txt ((kFiF k F id ev)) ((kFiP k txt F pr))) t) (va_A (wK ad cI cF k act txt F pr) sz)) 0 0 (va_A (wK ad cI cF k act txt F pr) sz) := by
  refine Met.ofW (cc := b_ModeKeeper_fillEmptyPlace) (maxL := 5) (ret := none) (by decide) rfl ?_
  intro p e s m args below meth c s₁ B hml hv
  obtain ⟨rfl, hsz, hP, hK, hD0, hN⟩ := hv
  have hx := B.exec
  have hb := B.bytes
  have hrt := B.returns
  have hq : ∀ w ∈ wAll, w.before ([.ref (ad 0), .int id, .int ev] : List Value).toArray s = true := fun w h => atoms_spec (ws := w_ModeKeeper_fillEmptyPlace) B.pre w (List.mem_cons_of_mem _ h)
  have hown : s.vm.findClass R_ModeKeeper = some m.cls := findClass_of_methodNamed B.named
  have hlocks := B.notSynchronized
  subst hsz
  have hD := hD0.self (sz := s.heap.size)
  generalize hAe : va_A (wK ad cI cF k act txt F pr) s.heap.size = A at hD ⊢
  have hA : ∀ q : Nat, s.heap.size ≤ q → A q := fun q h => by rw [← hAe]; exact Or.inr h
  have hS : va_S A s.heap s.heap [] := va_S.rf
  have hl := lv_entry ([.ref (ad 0), .int id, .int ev]) (n := 5) (Nat.le_of_ble_eq_true rfl)
  rw [lg_entry_eq]
  generalize (lg_sl ([.ref (ad 0), .int id, .int ev]) ++ List.replicate (5 - (lg_sl ([.ref (ad 0), .int id, .int ev])).length) Slot.unset).toArray = ls at hl ⊢
  have hl : lv_has ls 5 [(0, .ref (ad 0)), (1, .int id), (2, .int ev)] := hl
  have key : ∀ (n i : Nat), i + n = 8 → kFree F 8 0 = kFree F n i → ∀ (ls : Array Slot), lv_has ls 5 [(0, .ref (ad 0)), (1, .int id), (2, .int ev), (3, .int (nI i))] → W p l e (headSpec w_ModeKeeper_fillEmptyPlace ({ frames := 1, cells := 0, slots := 0, locals := 18 })).room s m ([.ref (ad 0), .int id, .int ev] : List Value).toArray below meth c s.heap [] 0 0 (MQ below (va_Qv (fun (_ : Unit) => True) (fun _ t => gB (dC, dI) classes A (wK ad cI cF ((kFiK k F)) act txt ((kFiF k F id ev)) ((kFiP k txt F pr))) t) A) ([.ref (ad 0), .int id, .int ev] : List Value).toArray s 0 0 A) (F0 m 2 ls []) := by
    intro n
    induction n with
    | zero =>
      intro i hin hres ls hl
      obtain rfl : i = 8 := by omega
      have hn : kFree F 8 0 = none := hres
      refine lv_iload_n hx hb d_ModeKeeper_fillEmptyPlace_2 rfl (lv_at hl 3 rfl) ?_
      refine lv_bipush (v := 8) hx hb d_ModeKeeper_fillEmptyPlace_3 (by decide) ?_
      refine lv_icmp_ge (tgt := 92) hx hb d_ModeKeeper_fillEmptyPlace_5 (by decide) (fun c_1 => ?_) (fun c_1 => ?_)
      · have e_k : (kFiK k F) = k := (by simp only [kFiK, hn])
        have e_F : (kFiF k F id ev) = F := (by simp only [kFiF, hn])
        have e_pr : (kFiP k txt F pr) = pr := (by simp only [kFiP, hn])
        have hP9 : va_P (dC, dI) classes (wK ad cI cF ((kFiK k F)) act txt ((kFiF k F id ev)) ((kFiP k txt F pr))) s.heap := by rw [e_k, e_F, e_pr]; exact hP
        have hD9 : va_D A (wK ad cI cF ((kFiK k F)) act txt ((kFiF k F id ev)) ((kFiP k txt F pr))) := by rw [e_k, e_F, e_pr]; exact hD
        exact W.vret hx hb hrt (fun t ht hW => ⟨⟨(), rfl, trivial, by rw [ht]; exact hP9, hD9⟩, hS.F ht⟩) hS.2.2 d_ModeKeeper_fillEmptyPlace_92
      · exact absurd (by decide +kernel) c_1
    | succ n ih =>
      intro i hin hres ls hl
      have hi : i < 8 := by omega
      refine lv_iload_n hx hb d_ModeKeeper_fillEmptyPlace_2 rfl (lv_at hl 3 rfl) ?_
      refine lv_bipush (v := 8) hx hb d_ModeKeeper_fillEmptyPlace_3 (by decide) ?_
      refine lv_icmp_ge (tgt := 92) hx hb d_ModeKeeper_fillEmptyPlace_5 (by decide) (fun c_2 => ?_) (fun c_2 => ?_)
      · exact absurd c_2 (nI_ge (b := 8) hi (by decide))
      · refine lv_aload_n hx hb d_ModeKeeper_fillEmptyPlace_8 rfl (lv_at hl 0 rfl) ?_
        refine va_get (D := (dC, dI)) (ci := 0) (v := .ref (ad 3)) (C := R_ModeKeeper) (T := F_ModeKeeper) (N := 9) hx hb hq iw_K hown hK hP 0 rfl rfl 7 (by decide) (hq _ qk_0) (fun _ h9 => h9) rfl d_ModeKeeper_fillEmptyPlace_9 ?_
        refine lv_iload_n hx hb d_ModeKeeper_fillEmptyPlace_12 rfl (lv_at hl 3 rfl) ?_
        refine g_ald (D := (dC, dI)) hx hb hK hP 3 1 rfl rfl (i := i) (y := ad (4 + i)) hi (by decide) (if_pos hi) d_ModeKeeper_fillEmptyPlace_13 ?_
        refine lv_astore (lv' := [(4, .ref (ad (4 + i))), (0, .ref (ad 0)), (1, .int id), (2, .int ev), (3, .int (nI i))]) hx hb d_ModeKeeper_fillEmptyPlace_14 hl (by decide) rfl (fun ls hl => ?_)
        refine lv_aload hx hb d_ModeKeeper_fillEmptyPlace_16 (lv_at hl 0 rfl) ?_
        refine va_getN (D := (dC, dI)) (ci := 1) (v := .int (F i 0)) (C := R_Form) (T := F_Form) (N := 6) hx hb hq iw_F hown hK hP (4 + i) (wK_at hi) rfl 0 (by decide) (gN_there hN) (fun _ h9 => h9) rfl d_ModeKeeper_fillEmptyPlace_18 ?_
        refine lv_if_ne (tgt := 86) hx hb d_ModeKeeper_fillEmptyPlace_21 (by decide) (fun c_3 => ?_) (fun c_3 => ?_)
        · refine lv_iinc (v := (nI (i + 1))) (lv' := [(3, .int (nI (i + 1))), (4, .ref (ad (4 + i))), (0, .ref (ad 0)), (1, .int id), (2, .int ev)]) hx hb d_ModeKeeper_fillEmptyPlace_86 hl (k := 4) rfl ((show nI i + Int32.ofInt 1 = nI i + 1 from rfl).trans (nI_1 i)) (by decide) rfl (fun ls hl => ?_)
          refine lv_goto (tgt := 2) hx hb d_ModeKeeper_fillEmptyPlace_89 (by decide) ?_
          exact ih (i + 1) (by omega) (by rw [hres]; simp only [kFree, if_neg c_3]) ls (lv_sub hl [2, 3, 4, 0] rfl)
        · refine lv_aload hx hb d_ModeKeeper_fillEmptyPlace_24 (lv_at hl 0 rfl) ?_
          refine lv_iconst (v := 1) hx hb d_ModeKeeper_fillEmptyPlace_26 (by decide) ?_
          refine va_putN (D := (dC, dI)) (ci := 1) (v := .int 1) (ty := .boolean) (C := R_Form) (T := F_Form) (N := 6) hx hb hq iw_F t_Form t_Form_ok n_Form hown hK hP hD hS (4 + i) (wK_at hi) rfl 0 (by decide) (gN_there hN) (fun _ h9 => h9) rfl (by decide +kernel) rfl rfl (Nat.le_of_ble_eq_true rfl) d_ModeKeeper_fillEmptyPlace_27 (fun H locs hP hD hS => ?_)
          rw [wK_set0 hi] at hP hD
          have hP : va_P (dC, dI) classes (wK ad cI cF k act txt ((up2 F i 0 1)) pr) H := hP
          have hD : va_D A (wK ad cI cF k act txt ((up2 F i 0 1)) pr) := hD
          refine lv_aload hx hb d_ModeKeeper_fillEmptyPlace_30 (lv_at hl 0 rfl) ?_
          refine lv_iload_n hx hb d_ModeKeeper_fillEmptyPlace_32 rfl (lv_at hl 2 rfl) ?_
          refine va_putN (D := (dC, dI)) (ci := 1) (v := .int id) (ty := .int) (C := R_Form) (T := F_Form) (N := 6) hx hb hq iw_F t_Form t_Form_ok n_Form hown hK hP hD hS (4 + i) (wK_at hi) rfl 1 (by decide) (gN_id hN) (fun _ h9 => h9) rfl (by decide +kernel) rfl rfl (Nat.le_of_ble_eq_true rfl) d_ModeKeeper_fillEmptyPlace_33 (fun H locs hP hD hS => ?_)
          rw [wK_set1 hi] at hP hD
          have hP : va_P (dC, dI) classes (wK ad cI cF k act txt ((up2 (up2 F i 0 1) i 1 id)) pr) H := hP
          have hD : va_D A (wK ad cI cF k act txt ((up2 (up2 F i 0 1) i 1 id)) pr) := hD
          refine lv_aload hx hb d_ModeKeeper_fillEmptyPlace_36 (lv_at hl 0 rfl) ?_
          refine lv_iload_n hx hb d_ModeKeeper_fillEmptyPlace_38 rfl (lv_at hl 3 rfl) ?_
          refine va_putN (D := (dC, dI)) (ci := 1) (v := .int ev) (ty := .int) (C := R_Form) (T := F_Form) (N := 6) hx hb hq iw_F t_Form t_Form_ok n_Form hown hK hP hD hS (4 + i) (wK_at hi) rfl 2 (by decide) (gN_every hN) (fun _ h9 => h9) rfl (by decide +kernel) rfl rfl (Nat.le_of_ble_eq_true rfl) d_ModeKeeper_fillEmptyPlace_39 (fun H locs hP hD hS => ?_)
          rw [wK_set2 hi] at hP hD
          have hP : va_P (dC, dI) classes (wK ad cI cF k act txt ((up2 (up2 (up2 F i 0 1) i 1 id) i 2 ev)) pr) H := hP
          have hD : va_D A (wK ad cI cF k act txt ((up2 (up2 (up2 F i 0 1) i 1 id) i 2 ev)) pr) := hD
          refine lv_aload hx hb d_ModeKeeper_fillEmptyPlace_42 (lv_at hl 0 rfl) ?_
          refine lv_iconst (v := 0) hx hb d_ModeKeeper_fillEmptyPlace_44 (by decide) ?_
          refine va_putN (D := (dC, dI)) (ci := 1) (v := .int 0) (ty := .boolean) (C := R_Form) (T := F_Form) (N := 6) hx hb hq iw_F t_Form t_Form_ok n_Form hown hK hP hD hS (4 + i) (wK_at hi) rfl 3 (by decide) (gN_on hN) (fun _ h9 => h9) rfl (by decide +kernel) rfl rfl (Nat.le_of_ble_eq_true rfl) d_ModeKeeper_fillEmptyPlace_45 (fun H locs hP hD hS => ?_)
          rw [wK_set3 hi] at hP hD
          have hP : va_P (dC, dI) classes (wK ad cI cF k act txt ((up2 (up2 (up2 (up2 F i 0 1) i 1 id) i 2 ev) i 3 0)) pr) H := hP
          have hD : va_D A (wK ad cI cF k act txt ((up2 (up2 (up2 (up2 F i 0 1) i 1 id) i 2 ev) i 3 0)) pr) := hD
          refine lv_aload hx hb d_ModeKeeper_fillEmptyPlace_48 (lv_at hl 0 rfl) ?_
          refine lv_aload_n hx hb d_ModeKeeper_fillEmptyPlace_50 rfl (lv_at hl 1 rfl) ?_
          refine va_get (D := (dC, dI)) (ci := 0) (v := .int (k 6)) (C := R_ModeKeeper) (T := F_ModeKeeper) (N := 9) hx hb hq iw_K hown hK hP 0 rfl rfl 6 (by decide) (hq _ qk_9) (fun _ h9 => h9) rfl d_ModeKeeper_fillEmptyPlace_51 ?_
          refine va_putN (D := (dC, dI)) (ci := 1) (v := .int (k 6)) (ty := .int) (C := R_Form) (T := F_Form) (N := 6) hx hb hq iw_F t_Form t_Form_ok n_Form hown hK hP hD hS (4 + i) (wK_at hi) rfl 4 (by decide) (gN_count hN) (fun _ h9 => h9) rfl (by decide +kernel) rfl rfl (Nat.le_of_ble_eq_true rfl) d_ModeKeeper_fillEmptyPlace_54 (fun H locs hP hD hS => ?_)
          rw [wK_set4 hi] at hP hD
          have hP : va_P (dC, dI) classes (wK ad cI cF k act txt ((up2 (up2 (up2 (up2 (up2 F i 0 1) i 1 id) i 2 ev) i 3 0) i 4 ((k 6)))) pr) H := hP
          have hD : va_D A (wK ad cI cF k act txt ((up2 (up2 (up2 (up2 (up2 F i 0 1) i 1 id) i 2 ev) i 3 0) i 4 ((k 6)))) pr) := hD
          refine lv_aload_n hx hb d_ModeKeeper_fillEmptyPlace_57 rfl (lv_at hl 1 rfl) ?_
          refine va_get (D := (dC, dI)) (ci := 0) (v := .ref (ad 2)) (C := R_ModeKeeper) (T := F_ModeKeeper) (N := 9) hx hb hq iw_K hown hK hP 0 rfl rfl 5 (by decide) (hq _ qk_15) (fun _ h9 => h9) rfl d_ModeKeeper_fillEmptyPlace_58 ?_
          refine lv_iconst (v := 0) hx hb d_ModeKeeper_fillEmptyPlace_61 (by decide) ?_
          refine lv_aload hx hb d_ModeKeeper_fillEmptyPlace_62 (lv_at hl 0 rfl) ?_
          refine va_getN (D := (dC, dI)) (ci := 1) (v := .ref (ad (12 + i))) (C := R_Form) (T := F_Form) (N := 6) hx hb hq iw_F hown hK hP (4 + i) (wK_at hi) rfl 5 (by decide) (gN_parameters hN) (fun _ h9 => h9) rfl d_ModeKeeper_fillEmptyPlace_64 ?_
          refine lv_iconst (v := 0) hx hb d_ModeKeeper_fillEmptyPlace_67 (by decide) ?_
          refine lv_aload_n hx hb d_ModeKeeper_fillEmptyPlace_68 rfl (lv_at hl 1 rfl) ?_
          refine va_get (D := (dC, dI)) (ci := 0) (v := .int (k 6)) (C := R_ModeKeeper) (T := F_ModeKeeper) (N := 9) hx hb hq iw_K hown hK hP 0 rfl rfl 6 (by decide) (hq _ qk_9) (fun _ h9 => h9) rfl d_ModeKeeper_fillEmptyPlace_69 ?_
          refine va_copyi (D := (dC, dI)) hx hb (by rw [hml]; exact hl.1.symm) hown (hq _ qk_5) (hq _ qk_6) (hq _ qk_7) (hq _ qk_8) hK hP hD hS 2 (12 + i) 0 0 rfl (wK_pat hi) rfl rfl rfl (by decide) (by decide) (by show ¬ k 6 < 0; rw [hk6]; exact nI_pos (by omega)) (by show 0 + (k 6).toNatClampNeg ≤ 8; rw [hk6, nI_clamp (by omega)]; omega) (by show 0 + (k 6).toNatClampNeg ≤ 8; rw [hk6, nI_clamp (by omega)]; omega) (fun _ _ => rfl) (Nat.le_of_ble_eq_true rfl) (by decide +kernel) d_ModeKeeper_fillEmptyPlace_72 (fun H locs hP hD hS => ?_)
          rw [wK_pset hi] at hP hD
          have hP : va_P (dC, dI) classes (wK ad cI cF k act txt ((up2 (up2 (up2 (up2 (up2 F i 0 1) i 1 id) i 2 ev) i 3 0) i 4 ((k 6)))) ((va_up pr i (va_cpy txt (pr i) 0 0 ((k 6)).toNatClampNeg)))) H := hP
          have hD : va_D A (wK ad cI cF k act txt ((up2 (up2 (up2 (up2 (up2 F i 0 1) i 1 id) i 2 ev) i 3 0) i 4 ((k 6)))) ((va_up pr i (va_cpy txt (pr i) 0 0 ((k 6)).toNatClampNeg)))) := hD
          refine lv_aload_n hx hb d_ModeKeeper_fillEmptyPlace_75 rfl (lv_at hl 1 rfl) ?_
          refine lv_dup hx hb d_ModeKeeper_fillEmptyPlace_76 rfl ?_
          refine va_get (D := (dC, dI)) (ci := 0) (v := .int (k 8)) (C := R_ModeKeeper) (T := F_ModeKeeper) (N := 9) hx hb hq iw_K hown hK hP 0 rfl rfl 8 (by decide) (hq _ qk_14) (fun _ h9 => h9) rfl d_ModeKeeper_fillEmptyPlace_77 ?_
          refine lv_iconst (v := 1) hx hb d_ModeKeeper_fillEmptyPlace_80 (by decide) ?_
          refine lv_iadd hx hb d_ModeKeeper_fillEmptyPlace_81 ?_
          refine va_put (D := (dC, dI)) (ci := 0) (v := .int ((k 8) + 1)) (ty := .int) (C := R_ModeKeeper) (T := F_ModeKeeper) (N := 9) hx hb hq iw_K t_ModeKeeper t_ModeKeeper_ok n_ModeKeeper hown hK hP hD hS 0 rfl rfl 8 (by decide) (hq _ qk_14) (fun _ h9 => h9) rfl (by decide +kernel) rfl rfl (Nat.le_of_ble_eq_true rfl) d_ModeKeeper_fillEmptyPlace_82 (fun H locs hP hD hS => ?_)
          have hP : va_P (dC, dI) classes (wK ad cI cF ((upd k 8 (((k 8) + 1)))) act txt ((up2 (up2 (up2 (up2 (up2 F i 0 1) i 1 id) i 2 ev) i 3 0) i 4 ((k 6)))) ((va_up pr i (va_cpy txt (pr i) 0 0 ((k 6)).toNatClampNeg)))) H := hP
          have hD : va_D A (wK ad cI cF ((upd k 8 (((k 8) + 1)))) act txt ((up2 (up2 (up2 (up2 (up2 F i 0 1) i 1 id) i 2 ev) i 3 0) i 4 ((k 6)))) ((va_up pr i (va_cpy txt (pr i) 0 0 ((k 6)).toNatClampNeg)))) := hD
          have hs : kFree F 8 0 = some i := by rw [hres]; simp only [kFree, if_pos c_3]
          have e_k : (kFiK k F) = (upd k 8 (((k 8) + 1))) := (by simp only [kFiK, hs] <;> rfl)
          have e_F : (kFiF k F id ev) = (up2 (up2 (up2 (up2 (up2 F i 0 1) i 1 id) i 2 ev) i 3 0) i 4 ((k 6))) := (by simp only [kFiF, hs] <;> rfl)
          have e_pr : (kFiP k txt F pr) = (va_up pr i (va_cpy txt (pr i) 0 0 ((k 6)).toNatClampNeg)) := (by simp only [kFiP, hs] <;> rfl)
          have hP9 : va_P (dC, dI) classes (wK ad cI cF ((kFiK k F)) act txt ((kFiF k F id ev)) ((kFiP k txt F pr))) H := by rw [e_k, e_F, e_pr]; exact hP
          have hD9 : va_D A (wK ad cI cF ((kFiK k F)) act txt ((kFiF k F id ev)) ((kFiP k txt F pr))) := by rw [e_k, e_F, e_pr]; exact hD
          exact W.vret hx hb hrt (fun t ht hW => ⟨⟨(), rfl, trivial, by rw [ht]; exact hP9, hD9⟩, hS.F ht⟩) hS.2.2 d_ModeKeeper_fillEmptyPlace_85
  refine lv_iconst (v := 0) hx hb d_ModeKeeper_fillEmptyPlace_0 (by decide) ?_
  refine lv_istore_n (lv' := [(3, .int 0), (0, .ref (ad 0)), (1, .int id), (2, .int ev)]) hx hb d_ModeKeeper_fillEmptyPlace_1 rfl hl (by decide) rfl (fun ls hl => ?_)
  exact key 8 0 rfl rfl ls (lv_sub hl [1, 2, 3, 0] rfl)
end
section
set_option maxHeartbeats 4000000 in
set_option maxRecDepth 100000 in
theorem c_ModeKeeper_move (l : Launch) (dC : Nat → ClassId) (dI : Nat → Nat → Nat) (ad : Nat → Nat) (sz : Nat) (cI cF : ClassId) (k act txt : Nat → Int32) (F pr : Nat → Nat → Int32) (a v : Int32) : Met l y_ModeKeeper_move w_ModeKeeper_move ({ frames := 1, cells := 0, slots := 0, locals := 20 }) (va_Pc [.ref (ad 0), .int a, .int v] (gP (dC, dI) classes (tyK cI cF) (wK ad cI cF k act txt F pr) sz)) (va_Qi (fun r (_ : Unit) => r = (kMvR k a)) (fun _ t => gB (dC, dI) classes (va_A (wK ad cI cF k act txt F pr) sz) (wK ad cI cF k ((kMvA k act a v)) txt F pr) t) (va_A (wK ad cI cF k act txt F pr) sz)) 0 0 (va_A (wK ad cI cF k act txt F pr) sz) := by
  refine Met.ofW (cc := b_ModeKeeper_move) (maxL := 3) (ret := (some .int)) (by decide) rfl ?_
  intro p e s m args below meth c s₁ B hml hv
  obtain ⟨rfl, hsz, hP, hK, hD0, hN⟩ := hv
  have hx := B.exec
  have hb := B.bytes
  have hrt := B.returns
  have hq : ∀ w ∈ wAll, w.before ([.ref (ad 0), .int a, .int v] : List Value).toArray s = true := fun w h => atoms_spec (ws := w_ModeKeeper_move) B.pre w (List.mem_cons_of_mem _ h)
  have hown : s.vm.findClass R_ModeKeeper = some m.cls := findClass_of_methodNamed B.named
  have hlocks := B.notSynchronized
  subst hsz
  have hD := hD0.self (sz := s.heap.size)
  generalize hAe : va_A (wK ad cI cF k act txt F pr) s.heap.size = A at hD ⊢
  have hA : ∀ q : Nat, s.heap.size ≤ q → A q := fun q h => by rw [← hAe]; exact Or.inr h
  have hS : va_S A s.heap s.heap [] := va_S.rf
  have hl := lv_entry ([.ref (ad 0), .int a, .int v]) (n := 3) (Nat.le_of_ble_eq_true rfl)
  rw [lg_entry_eq]
  generalize (lg_sl ([.ref (ad 0), .int a, .int v]) ++ List.replicate (3 - (lg_sl ([.ref (ad 0), .int a, .int v])).length) Slot.unset).toArray = ls at hl ⊢
  have hl : lv_has ls 3 [(0, .ref (ad 0)), (1, .int a), (2, .int v)] := hl
  refine lv_iload_n hx hb d_ModeKeeper_move_0 rfl (lv_at hl 1 rfl) ?_
  refine vp_callSi (va_Run.run (va_runS (As := [.int a]) (rest := []) ⟨hx, hb, hml, hown, hq⟩ (c_ModeKeeper_isActuator l a) ⟨callB_of 1 hq (gd m_ModeKeeper_isActuator) rfl rfl rfl (hq _ qk_10) (hq _ qk_16) (by decide +kernel) ⟨Nat.le_of_ble_eq_true rfl, Nat.le_of_ble_eq_true rfl⟩, (hq _ qk_17)⟩ ⟨g_blind0, fun _ _ _ => ⟨rfl, trivial⟩⟩ rfl rfl hl.1 rfl (lv_room (Nat.le_of_ble_eq_true rfl)) d_ModeKeeper_move_1 ⟨Nat.zero_le _, Nat.zero_le _⟩)) (fun r hr => ?_)
  subst hr
  refine lv_if_ne (tgt := 10) hx hb d_ModeKeeper_move_4 (by decide) (fun c_1 => ?_) (fun c_1 => ?_)
  · refine lv_aload_n hx hb d_ModeKeeper_move_10 rfl (lv_at hl 0 rfl) ?_
    refine va_get (D := (dC, dI)) (ci := 0) (v := .int (k 1)) (C := R_ModeKeeper) (T := F_ModeKeeper) (N := 9) hx hb hq iw_K hown hK hP 0 rfl rfl 1 (by decide) (hq _ qk_1) (fun _ h9 => h9) rfl d_ModeKeeper_move_11 ?_
    refine lv_if_ne (tgt := 20) hx hb d_ModeKeeper_move_14 (by decide) (fun c_2 => ?_) (fun c_2 => ?_)
    · refine lv_aload_n hx hb d_ModeKeeper_move_20 rfl (lv_at hl 0 rfl) ?_
      refine va_get (D := (dC, dI)) (ci := 0) (v := .ref (ad 1)) (C := R_ModeKeeper) (T := F_ModeKeeper) (N := 9) hx hb hq iw_K hown hK hP 0 rfl rfl 0 (by decide) (hq _ qk_4) (fun _ h9 => h9) rfl d_ModeKeeper_move_21 ?_
      refine lv_iload_n hx hb d_ModeKeeper_move_24 rfl (lv_at hl 1 rfl) ?_
      refine lv_iload_n hx hb d_ModeKeeper_move_25 rfl (lv_at hl 2 rfl) ?_
      refine va_iast (D := (dC, dI)) hx hb hK hP hD hS 1 0 rfl rfl (kA_in c_1) d_ModeKeeper_move_26 (fun H locs hP hD hS => ?_)
      have hP : va_P (dC, dI) classes (wK ad cI cF k ((upd act a.toNatClampNeg v)) txt F pr) H := hP
      have hD : va_D A (wK ad cI cF k ((upd act a.toNatClampNeg v)) txt F pr) := hD
      refine lv_iconst (v := 0) hx hb d_ModeKeeper_move_27 (by decide) ?_
      have e_act : (kMvA k act a v) = (upd act a.toNatClampNeg v) := (by simp only [kMvR, kMvA, if_neg c_1, if_neg c_2] <;> rfl)
      have hP9 : va_P (dC, dI) classes (wK ad cI cF k ((kMvA k act a v)) txt F pr) H := by rw [e_act]; exact hP
      have hD9 : va_D A (wK ad cI cF k ((kMvA k act a v)) txt F pr) := by rw [e_act]; exact hD
      exact W.iret (v := 0) hx hb hrt (fun t ht hW => ⟨⟨0, (), rfl, (by simp only [kMvR, kMvA, if_neg c_1, if_neg c_2] <;> rfl), by rw [ht]; exact hP9, hD9⟩, hS.F ht⟩) hS.2.2 d_ModeKeeper_move_28
    · refine lv_bipush (v := 19) hx hb d_ModeKeeper_move_17 (by decide) ?_
      have e_act : (kMvA k act a v) = act := (by simp only [kMvR, kMvA, if_neg c_1, if_pos c_2] <;> rfl)
      have hP9 : va_P (dC, dI) classes (wK ad cI cF k ((kMvA k act a v)) txt F pr) s.heap := by rw [e_act]; exact hP
      have hD9 : va_D A (wK ad cI cF k ((kMvA k act a v)) txt F pr) := by rw [e_act]; exact hD
      exact W.iret (v := 19) hx hb hrt (fun t ht hW => ⟨⟨19, (), rfl, (by simp only [kMvR, kMvA, if_neg c_1, if_pos c_2] <;> rfl), by rw [ht]; exact hP9, hD9⟩, hS.F ht⟩) hS.2.2 d_ModeKeeper_move_19
  · refine lv_bipush (v := 18) hx hb d_ModeKeeper_move_7 (by decide) ?_
    have e_act : (kMvA k act a v) = act := (by simp only [kMvR, kMvA, if_pos c_1] <;> rfl)
    have hP9 : va_P (dC, dI) classes (wK ad cI cF k ((kMvA k act a v)) txt F pr) s.heap := by rw [e_act]; exact hP
    have hD9 : va_D A (wK ad cI cF k ((kMvA k act a v)) txt F pr) := by rw [e_act]; exact hD
    exact W.iret (v := 18) hx hb hrt (fun t ht hW => ⟨⟨18, (), rfl, (by simp only [kMvR, kMvA, if_pos c_1] <;> rfl), by rw [ht]; exact hP9, hD9⟩, hS.F ht⟩) hS.2.2 d_ModeKeeper_move_9
set_option maxHeartbeats 4000000 in
set_option maxRecDepth 100000 in
theorem c_ModeKeeper_enter (l : Launch) (dC : Nat → ClassId) (dI : Nat → Nat → Nat) (ad : Nat → Nat) (sz : Nat) (cI cF : ClassId) (k act txt : Nat → Int32) (F pr : Nat → Nat → Int32) (m0 : Int32) (tS : Nat) : Met l y_ModeKeeper_enter w_ModeKeeper_enter ({ frames := 2, cells := 0, slots := 0, locals := 39 }) (va_Pc [.ref (ad 0), .int m0] (gPz (dC, dI) classes (tyK cI cF) (wK ad cI cF k act txt F pr) sz tS)) (va_Qi (fun r (_ : Unit) => r = (kEnR k m0)) (fun _ t => gB (dC, dI) classes (va_A (wK ad cI cF k act txt F pr) sz) (wK ad cI cF ((kEnK k m0)) ((kEnA k act m0)) txt F pr) t) (va_A (wK ad cI cF k act txt F pr) sz)) 0 0 (va_A (wK ad cI cF k act txt F pr) sz) := by
  refine Met.ofW (cc := b_ModeKeeper_enter) (maxL := 2) (ret := (some .int)) (by decide) rfl ?_
  intro p e s m args below meth c s₁ B hml hv
  obtain ⟨rfl, ⟨hsz, hP, hK, hD0, hN⟩, hZ⟩ := hv
  have hx := B.exec
  have hb := B.bytes
  have hrt := B.returns
  have hq : ∀ w ∈ wAll, w.before ([.ref (ad 0), .int m0] : List Value).toArray s = true := fun w h => atoms_spec (ws := w_ModeKeeper_enter) B.pre w (List.mem_cons_of_mem _ h)
  have hown : s.vm.findClass R_ModeKeeper = some m.cls := findClass_of_methodNamed B.named
  have hlocks := B.notSynchronized
  subst hsz
  have hD := hD0.self (sz := s.heap.size)
  generalize hAe : va_A (wK ad cI cF k act txt F pr) s.heap.size = A at hD hZ ⊢
  have hA : ∀ q : Nat, s.heap.size ≤ q → A q := fun q h => by rw [← hAe]; exact Or.inr h
  have hS : va_S A s.heap s.heap [] := va_S.rf
  have hl := lv_entry ([.ref (ad 0), .int m0]) (n := 2) (Nat.le_of_ble_eq_true rfl)
  rw [lg_entry_eq]
  generalize (lg_sl ([.ref (ad 0), .int m0]) ++ List.replicate (2 - (lg_sl ([.ref (ad 0), .int m0])).length) Slot.unset).toArray = ls at hl ⊢
  have hl : lv_has ls 2 [(0, .ref (ad 0)), (1, .int m0)] := hl
  refine lv_iload_n hx hb d_ModeKeeper_enter_0 rfl (lv_at hl 1 rfl) ?_
  refine lv_if_lt (tgt := 9) hx hb d_ModeKeeper_enter_1 (by decide) (fun c_1 => ?_) (fun c_1 => ?_)
  · refine lv_bipush (v := 18) hx hb d_ModeKeeper_enter_9 (by decide) ?_
    have e_k : (kEnK k m0) = k := (by simp only [kEnR, kEnK, kEnA, if_pos c_1] <;> rfl)
    have e_act : (kEnA k act m0) = act := (by simp only [kEnR, kEnK, kEnA, if_pos c_1] <;> rfl)
    have hP9 : va_P (dC, dI) classes (wK ad cI cF ((kEnK k m0)) ((kEnA k act m0)) txt F pr) s.heap := by rw [e_k, e_act]; exact hP
    have hD9 : va_D A (wK ad cI cF ((kEnK k m0)) ((kEnA k act m0)) txt F pr) := by rw [e_k, e_act]; exact hD
    exact W.iret (v := 18) hx hb hrt (fun t ht hW => ⟨⟨18, (), rfl, (by simp only [kEnR, kEnK, kEnA, if_pos c_1] <;> rfl), by rw [ht]; exact hP9, hD9⟩, hS.F ht⟩) hS.2.2 d_ModeKeeper_enter_11
  · refine lv_iload_n hx hb d_ModeKeeper_enter_4 rfl (lv_at hl 1 rfl) ?_
    refine lv_iconst (v := 2) hx hb d_ModeKeeper_enter_5 (by decide) ?_
    refine lv_icmp_le (tgt := 12) hx hb d_ModeKeeper_enter_6 (by decide) (fun c_2 => ?_) (fun c_2 => ?_)
    · refine lv_aload_n hx hb d_ModeKeeper_enter_12 rfl (lv_at hl 0 rfl) ?_
      refine va_get (D := (dC, dI)) (ci := 0) (v := .int (k 1)) (C := R_ModeKeeper) (T := F_ModeKeeper) (N := 9) hx hb hq iw_K hown hK hP 0 rfl rfl 1 (by decide) (hq _ qk_1) (fun _ h9 => h9) rfl d_ModeKeeper_enter_13 ?_
      refine lv_if_ne (tgt := 27) hx hb d_ModeKeeper_enter_16 (by decide) (fun c_3 => ?_) (fun c_3 => ?_)
      · refine lv_aload_n hx hb d_ModeKeeper_enter_27 rfl (lv_at hl 0 rfl) ?_
        refine lv_iload_n hx hb d_ModeKeeper_enter_28 rfl (lv_at hl 1 rfl) ?_
        refine g_calli (va_runV (As := [.int m0]) (rest := []) ⟨hx, hb, hml, hown, hq⟩ (c_ModeKeeper_changeMode l dC dI ad s.heap.size cI cF k act txt F pr m0 tS) ⟨callB_of 1 hq (gd m_ModeKeeper_changeMode) rfl rfl rfl (hq _ qk_10) (hq _ qk_18) (by decide +kernel) ⟨Nat.le_of_ble_eq_true rfl, Nat.le_of_ble_eq_true rfl⟩, (hq _ qk_19), (hq _ qk_20)⟩ ⟨g_blindZ, va_recv hK hP (ci := 0) (q0 := 0) rfl rfl, g_preZ hP hK hD hN (hZ.pass hD hS hA)⟩ rfl rfl hl.1 rfl (lv_room (Nat.le_of_ble_eq_true rfl)) d_ModeKeeper_enter_29 ⟨Nat.zero_le _, Nat.zero_le _⟩) hD hS hA (fun r H locs hr hP hD hS => ?_)
        subst hr
        refine lv_pop hx hb d_ModeKeeper_enter_32 rfl ?_
        refine lv_iconst (v := 0) hx hb d_ModeKeeper_enter_33 (by decide) ?_
        have e_k : (kEnK k m0) = (kChK k m0) := (by simp only [kEnR, kEnK, kEnA, if_neg c_1, if_pos c_2, if_neg c_3] <;> rfl)
        have e_act : (kEnA k act m0) = (kChA k act m0) := (by simp only [kEnR, kEnK, kEnA, if_neg c_1, if_pos c_2, if_neg c_3] <;> rfl)
        have hP9 : va_P (dC, dI) classes (wK ad cI cF ((kEnK k m0)) ((kEnA k act m0)) txt F pr) H := by rw [e_k, e_act]; exact hP
        have hD9 : va_D A (wK ad cI cF ((kEnK k m0)) ((kEnA k act m0)) txt F pr) := by rw [e_k, e_act]; exact hD
        exact W.iret (v := 0) hx hb hrt (fun t ht hW => ⟨⟨0, (), rfl, (by simp only [kEnR, kEnK, kEnA, if_neg c_1, if_pos c_2, if_neg c_3] <;> rfl), by rw [ht]; exact hP9, hD9⟩, hS.F ht⟩) hS.2.2 d_ModeKeeper_enter_34
      · refine lv_iload_n hx hb d_ModeKeeper_enter_19 rfl (lv_at hl 1 rfl) ?_
        refine lv_iconst (v := 2) hx hb d_ModeKeeper_enter_20 (by decide) ?_
        refine lv_icmp_ne (tgt := 27) hx hb d_ModeKeeper_enter_21 (by decide) (fun c_4 => ?_) (fun c_4 => ?_)
        · refine lv_aload_n hx hb d_ModeKeeper_enter_27 rfl (lv_at hl 0 rfl) ?_
          refine lv_iload_n hx hb d_ModeKeeper_enter_28 rfl (lv_at hl 1 rfl) ?_
          refine g_calli (va_runV (As := [.int m0]) (rest := []) ⟨hx, hb, hml, hown, hq⟩ (c_ModeKeeper_changeMode l dC dI ad s.heap.size cI cF k act txt F pr m0 tS) ⟨callB_of 1 hq (gd m_ModeKeeper_changeMode) rfl rfl rfl (hq _ qk_10) (hq _ qk_18) (by decide +kernel) ⟨Nat.le_of_ble_eq_true rfl, Nat.le_of_ble_eq_true rfl⟩, (hq _ qk_19), (hq _ qk_20)⟩ ⟨g_blindZ, va_recv hK hP (ci := 0) (q0 := 0) rfl rfl, g_preZ hP hK hD hN (hZ.pass hD hS hA)⟩ rfl rfl hl.1 rfl (lv_room (Nat.le_of_ble_eq_true rfl)) d_ModeKeeper_enter_29 ⟨Nat.zero_le _, Nat.zero_le _⟩) hD hS hA (fun r H locs hr hP hD hS => ?_)
          subst hr
          refine lv_pop hx hb d_ModeKeeper_enter_32 rfl ?_
          refine lv_iconst (v := 0) hx hb d_ModeKeeper_enter_33 (by decide) ?_
          have e_k : (kEnK k m0) = (kChK k m0) := (by simp only [kEnR, kEnK, kEnA, if_neg c_1, if_pos c_2, if_pos c_3, if_neg c_4] <;> rfl)
          have e_act : (kEnA k act m0) = (kChA k act m0) := (by simp only [kEnR, kEnK, kEnA, if_neg c_1, if_pos c_2, if_pos c_3, if_neg c_4] <;> rfl)
          have hP9 : va_P (dC, dI) classes (wK ad cI cF ((kEnK k m0)) ((kEnA k act m0)) txt F pr) H := by rw [e_k, e_act]; exact hP
          have hD9 : va_D A (wK ad cI cF ((kEnK k m0)) ((kEnA k act m0)) txt F pr) := by rw [e_k, e_act]; exact hD
          exact W.iret (v := 0) hx hb hrt (fun t ht hW => ⟨⟨0, (), rfl, (by simp only [kEnR, kEnK, kEnA, if_neg c_1, if_pos c_2, if_pos c_3, if_neg c_4] <;> rfl), by rw [ht]; exact hP9, hD9⟩, hS.F ht⟩) hS.2.2 d_ModeKeeper_enter_34
        · refine lv_bipush (v := 19) hx hb d_ModeKeeper_enter_24 (by decide) ?_
          have e_k : (kEnK k m0) = k := (by simp only [kEnR, kEnK, kEnA, if_neg c_1, if_pos c_2, if_pos c_3, if_pos c_4] <;> rfl)
          have e_act : (kEnA k act m0) = act := (by simp only [kEnR, kEnK, kEnA, if_neg c_1, if_pos c_2, if_pos c_3, if_pos c_4] <;> rfl)
          have hP9 : va_P (dC, dI) classes (wK ad cI cF ((kEnK k m0)) ((kEnA k act m0)) txt F pr) s.heap := by rw [e_k, e_act]; exact hP
          have hD9 : va_D A (wK ad cI cF ((kEnK k m0)) ((kEnA k act m0)) txt F pr) := by rw [e_k, e_act]; exact hD
          exact W.iret (v := 19) hx hb hrt (fun t ht hW => ⟨⟨19, (), rfl, (by simp only [kEnR, kEnK, kEnA, if_neg c_1, if_pos c_2, if_pos c_3, if_pos c_4] <;> rfl), by rw [ht]; exact hP9, hD9⟩, hS.F ht⟩) hS.2.2 d_ModeKeeper_enter_26
    · refine lv_bipush (v := 18) hx hb d_ModeKeeper_enter_9 (by decide) ?_
      have e_k : (kEnK k m0) = k := (by simp only [kEnR, kEnK, kEnA, if_neg c_1, if_neg c_2] <;> rfl)
      have e_act : (kEnA k act m0) = act := (by simp only [kEnR, kEnK, kEnA, if_neg c_1, if_neg c_2] <;> rfl)
      have hP9 : va_P (dC, dI) classes (wK ad cI cF ((kEnK k m0)) ((kEnA k act m0)) txt F pr) s.heap := by rw [e_k, e_act]; exact hP
      have hD9 : va_D A (wK ad cI cF ((kEnK k m0)) ((kEnA k act m0)) txt F pr) := by rw [e_k, e_act]; exact hD
      exact W.iret (v := 18) hx hb hrt (fun t ht hW => ⟨⟨18, (), rfl, (by simp only [kEnR, kEnK, kEnA, if_neg c_1, if_neg c_2] <;> rfl), by rw [ht]; exact hP9, hD9⟩, hS.F ht⟩) hS.2.2 d_ModeKeeper_enter_11
set_option maxHeartbeats 4000000 in
set_option maxRecDepth 100000 in
theorem c_ModeKeeper_alarm (l : Launch) (dC : Nat → ClassId) (dI : Nat → Nat → Nat) (ad : Nat → Nat) (sz : Nat) (cI cF : ClassId) (k act txt : Nat → Int32) (F pr : Nat → Nat → Int32) (t0 : Int32) : Met l y_ModeKeeper_alarm w_ModeKeeper_alarm ({ frames := 0, cells := 0, slots := 0, locals := 0 }) (va_Pc [.ref (ad 0), .int t0] (gP (dC, dI) classes (tyK cI cF) (wK ad cI cF k act txt F pr) sz)) (va_Qi (fun r (_ : Unit) => r = (kAlR k)) (fun _ t => gB (dC, dI) classes (va_A (wK ad cI cF k act txt F pr) sz) (wK ad cI cF ((kAlK k t0)) act txt F pr) t) (va_A (wK ad cI cF k act txt F pr) sz)) 0 0 (va_A (wK ad cI cF k act txt F pr) sz) := by
  refine Met.ofW (cc := b_ModeKeeper_alarm) (maxL := 2) (ret := (some .boolean)) (by decide) rfl ?_
  intro p e s m args below meth c s₁ B hml hv
  obtain ⟨rfl, hsz, hP, hK, hD0, hN⟩ := hv
  have hx := B.exec
  have hb := B.bytes
  have hrt := B.returns
  have hq : ∀ w ∈ wAll, w.before ([.ref (ad 0), .int t0] : List Value).toArray s = true := fun w h => atoms_spec (ws := w_ModeKeeper_alarm) B.pre w (List.mem_cons_of_mem _ h)
  have hown : s.vm.findClass R_ModeKeeper = some m.cls := findClass_of_methodNamed B.named
  have hlocks := B.notSynchronized
  subst hsz
  have hD := hD0.self (sz := s.heap.size)
  generalize hAe : va_A (wK ad cI cF k act txt F pr) s.heap.size = A at hD ⊢
  have hA : ∀ q : Nat, s.heap.size ≤ q → A q := fun q h => by rw [← hAe]; exact Or.inr h
  have hS : va_S A s.heap s.heap [] := va_S.rf
  have hl := lv_entry ([.ref (ad 0), .int t0]) (n := 2) (Nat.le_of_ble_eq_true rfl)
  rw [lg_entry_eq]
  generalize (lg_sl ([.ref (ad 0), .int t0]) ++ List.replicate (2 - (lg_sl ([.ref (ad 0), .int t0])).length) Slot.unset).toArray = ls at hl ⊢
  have hl : lv_has ls 2 [(0, .ref (ad 0)), (1, .int t0)] := hl
  refine lv_aload_n hx hb d_ModeKeeper_alarm_0 rfl (lv_at hl 0 rfl) ?_
  refine va_get (D := (dC, dI)) (ci := 0) (v := .int (k 3)) (C := R_ModeKeeper) (T := F_ModeKeeper) (N := 9) hx hb hq iw_K hown hK hP 0 rfl rfl 3 (by decide) (hq _ qk_21) (fun _ h9 => h9) rfl d_ModeKeeper_alarm_1 ?_
  refine lv_if_eq (tgt := 9) hx hb d_ModeKeeper_alarm_4 (by decide) (fun c_1 => ?_) (fun c_1 => ?_)
  · refine lv_aload_n hx hb d_ModeKeeper_alarm_9 rfl (lv_at hl 0 rfl) ?_
    refine lv_iconst (v := 1) hx hb d_ModeKeeper_alarm_10 (by decide) ?_
    refine va_put (D := (dC, dI)) (ci := 0) (v := .int 1) (ty := .boolean) (C := R_ModeKeeper) (T := F_ModeKeeper) (N := 9) hx hb hq iw_K t_ModeKeeper t_ModeKeeper_ok n_ModeKeeper hown hK hP hD hS 0 rfl rfl 3 (by decide) (hq _ qk_21) (fun _ h9 => h9) rfl (by decide +kernel) rfl rfl (Nat.le_of_ble_eq_true rfl) d_ModeKeeper_alarm_11 (fun H locs hP hD hS => ?_)
    have hP : va_P (dC, dI) classes (wK ad cI cF ((upd k 3 1)) act txt F pr) H := hP
    have hD : va_D A (wK ad cI cF ((upd k 3 1)) act txt F pr) := hD
    refine lv_aload_n hx hb d_ModeKeeper_alarm_14 rfl (lv_at hl 0 rfl) ?_
    refine lv_iload_n hx hb d_ModeKeeper_alarm_15 rfl (lv_at hl 1 rfl) ?_
    refine va_put (D := (dC, dI)) (ci := 0) (v := .int t0) (ty := .int) (C := R_ModeKeeper) (T := F_ModeKeeper) (N := 9) hx hb hq iw_K t_ModeKeeper t_ModeKeeper_ok n_ModeKeeper hown hK hP hD hS 0 rfl rfl 4 (by decide) (hq _ qk_22) (fun _ h9 => h9) rfl (by decide +kernel) rfl rfl (Nat.le_of_ble_eq_true rfl) d_ModeKeeper_alarm_16 (fun H locs hP hD hS => ?_)
    have hP : va_P (dC, dI) classes (wK ad cI cF ((upd (upd k 3 1) 4 t0)) act txt F pr) H := hP
    have hD : va_D A (wK ad cI cF ((upd (upd k 3 1) 4 t0)) act txt F pr) := hD
    refine lv_iconst (v := 1) hx hb d_ModeKeeper_alarm_19 (by decide) ?_
    have e_k : (kAlK k t0) = (upd (upd k 3 1) 4 t0) := (by simp only [kAlR, kAlK, if_pos c_1] <;> rfl)
    have hP9 : va_P (dC, dI) classes (wK ad cI cF ((kAlK k t0)) act txt F pr) H := by rw [e_k]; exact hP
    have hD9 : va_D A (wK ad cI cF ((kAlK k t0)) act txt F pr) := by rw [e_k]; exact hD
    exact W.zret (v := 1) hx hb hrt rfl (fun t ht hW => ⟨⟨1, (), rfl, (by simp only [kAlR, kAlK, if_pos c_1] <;> rfl), by rw [ht]; exact hP9, hD9⟩, hS.F ht⟩) hS.2.2 d_ModeKeeper_alarm_20
  · refine lv_iconst (v := 0) hx hb d_ModeKeeper_alarm_7 (by decide) ?_
    have e_k : (kAlK k t0) = k := (by simp only [kAlR, kAlK, if_neg c_1] <;> rfl)
    have hP9 : va_P (dC, dI) classes (wK ad cI cF ((kAlK k t0)) act txt F pr) s.heap := by rw [e_k]; exact hP
    have hD9 : va_D A (wK ad cI cF ((kAlK k t0)) act txt F pr) := by rw [e_k]; exact hD
    exact W.zret (v := 0) hx hb hrt rfl (fun t ht hW => ⟨⟨0, (), rfl, (by simp only [kAlR, kAlK, if_neg c_1] <;> rfl), by rw [ht]; exact hP9, hD9⟩, hS.F ht⟩) hS.2.2 d_ModeKeeper_alarm_8
set_option maxHeartbeats 4000000 in
set_option maxRecDepth 100000 in
theorem c_ModeKeeper_look (l : Launch) (dC : Nat → ClassId) (dI : Nat → Nat → Nat) (ad : Nat → Nat) (sz : Nat) (cI cF : ClassId) (k act txt : Nat → Int32) (F pr : Nat → Nat → Int32) (t0 : Int32) (tS : Nat) : Met l y_ModeKeeper_look w_ModeKeeper_look ({ frames := 2, cells := 0, slots := 0, locals := 39 }) (va_Pc [.ref (ad 0), .int t0] (gPz (dC, dI) classes (tyK cI cF) (wK ad cI cF k act txt F pr) sz tS)) (va_Qi (fun r (_ : Unit) => r = (kLkR k t0)) (fun _ t => gB (dC, dI) classes (va_A (wK ad cI cF k act txt F pr) sz) (wK ad cI cF ((kLkK k t0)) ((kLkA k act t0)) txt F pr) t) (va_A (wK ad cI cF k act txt F pr) sz)) 0 0 (va_A (wK ad cI cF k act txt F pr) sz) := by
  refine Met.ofW (cc := b_ModeKeeper_look) (maxL := 2) (ret := (some .boolean)) (by decide) rfl ?_
  intro p e s m args below meth c s₁ B hml hv
  obtain ⟨rfl, ⟨hsz, hP, hK, hD0, hN⟩, hZ⟩ := hv
  have hx := B.exec
  have hb := B.bytes
  have hrt := B.returns
  have hq : ∀ w ∈ wAll, w.before ([.ref (ad 0), .int t0] : List Value).toArray s = true := fun w h => atoms_spec (ws := w_ModeKeeper_look) B.pre w (List.mem_cons_of_mem _ h)
  have hown : s.vm.findClass R_ModeKeeper = some m.cls := findClass_of_methodNamed B.named
  have hlocks := B.notSynchronized
  subst hsz
  have hD := hD0.self (sz := s.heap.size)
  generalize hAe : va_A (wK ad cI cF k act txt F pr) s.heap.size = A at hD hZ ⊢
  have hA : ∀ q : Nat, s.heap.size ≤ q → A q := fun q h => by rw [← hAe]; exact Or.inr h
  have hS : va_S A s.heap s.heap [] := va_S.rf
  have hl := lv_entry ([.ref (ad 0), .int t0]) (n := 2) (Nat.le_of_ble_eq_true rfl)
  rw [lg_entry_eq]
  generalize (lg_sl ([.ref (ad 0), .int t0]) ++ List.replicate (2 - (lg_sl ([.ref (ad 0), .int t0])).length) Slot.unset).toArray = ls at hl ⊢
  have hl : lv_has ls 2 [(0, .ref (ad 0)), (1, .int t0)] := hl
  refine lv_aload_n hx hb d_ModeKeeper_look_0 rfl (lv_at hl 0 rfl) ?_
  refine va_get (D := (dC, dI)) (ci := 0) (v := .int (k 3)) (C := R_ModeKeeper) (T := F_ModeKeeper) (N := 9) hx hb hq iw_K hown hK hP 0 rfl rfl 3 (by decide) (hq _ qk_21) (fun _ h9 => h9) rfl d_ModeKeeper_look_1 ?_
  refine lv_if_eq (tgt := 15) hx hb d_ModeKeeper_look_4 (by decide) (fun c_1 => ?_) (fun c_1 => ?_)
  · refine lv_iconst (v := 0) hx hb d_ModeKeeper_look_15 (by decide) ?_
    have e_k : (kLkK k t0) = k := (by simp only [kLkR, kLkK, kLkA, if_pos c_1] <;> rfl)
    have e_act : (kLkA k act t0) = act := (by simp only [kLkR, kLkK, kLkA, if_pos c_1] <;> rfl)
    have hP9 : va_P (dC, dI) classes (wK ad cI cF ((kLkK k t0)) ((kLkA k act t0)) txt F pr) s.heap := by rw [e_k, e_act]; exact hP
    have hD9 : va_D A (wK ad cI cF ((kLkK k t0)) ((kLkA k act t0)) txt F pr) := by rw [e_k, e_act]; exact hD
    exact W.zret (v := 0) hx hb hrt rfl (fun t ht hW => ⟨⟨0, (), rfl, (by simp only [kLkR, kLkK, kLkA, if_pos c_1] <;> rfl), by rw [ht]; exact hP9, hD9⟩, hS.F ht⟩) hS.2.2 d_ModeKeeper_look_16
  · refine lv_aload_n hx hb d_ModeKeeper_look_7 rfl (lv_at hl 0 rfl) ?_
    refine va_get (D := (dC, dI)) (ci := 0) (v := .int (k 4)) (C := R_ModeKeeper) (T := F_ModeKeeper) (N := 9) hx hb hq iw_K hown hK hP 0 rfl rfl 4 (by decide) (hq _ qk_22) (fun _ h9 => h9) rfl d_ModeKeeper_look_8 ?_
    refine lv_iload_n hx hb d_ModeKeeper_look_11 rfl (lv_at hl 1 rfl) ?_
    refine lv_icmp_le (tgt := 17) hx hb d_ModeKeeper_look_12 (by decide) (fun c_2 => ?_) (fun c_2 => ?_)
    · refine lv_aload_n hx hb d_ModeKeeper_look_17 rfl (lv_at hl 0 rfl) ?_
      refine lv_iconst (v := 0) hx hb d_ModeKeeper_look_18 (by decide) ?_
      refine va_put (D := (dC, dI)) (ci := 0) (v := .int 0) (ty := .boolean) (C := R_ModeKeeper) (T := F_ModeKeeper) (N := 9) hx hb hq iw_K t_ModeKeeper t_ModeKeeper_ok n_ModeKeeper hown hK hP hD hS 0 rfl rfl 3 (by decide) (hq _ qk_21) (fun _ h9 => h9) rfl (by decide +kernel) rfl rfl (Nat.le_of_ble_eq_true rfl) d_ModeKeeper_look_19 (fun H locs hP hD hS => ?_)
      have hP : va_P (dC, dI) classes (wK ad cI cF ((upd k 3 0)) act txt F pr) H := hP
      have hD : va_D A (wK ad cI cF ((upd k 3 0)) act txt F pr) := hD
      refine lv_aload_n hx hb d_ModeKeeper_look_22 rfl (lv_at hl 0 rfl) ?_
      refine lv_iconst (v := 0) hx hb d_ModeKeeper_look_23 (by decide) ?_
      refine g_calli (va_runV (As := [.int 0]) (rest := []) ⟨hx, hb, hml, hown, hq⟩ (c_ModeKeeper_changeMode l dC dI ad H.size cI cF ((upd k 3 0)) act txt F pr 0 tS) ⟨callB_of 1 hq (gd m_ModeKeeper_changeMode) rfl rfl rfl (hq _ qk_10) (hq _ qk_18) (by decide +kernel) ⟨Nat.le_of_ble_eq_true rfl, Nat.le_of_ble_eq_true rfl⟩, (hq _ qk_19), (hq _ qk_20)⟩ ⟨g_blindZ, va_recv hK hP (ci := 0) (q0 := 0) rfl rfl, g_preZ hP hK hD hN (hZ.pass hD hS hA)⟩ rfl rfl hl.1 rfl (lv_room (Nat.le_of_ble_eq_true rfl)) d_ModeKeeper_look_24 ⟨Nat.zero_le _, Nat.zero_le _⟩) hD hS hA (fun r H locs hr hP hD hS => ?_)
      subst hr
      have e_k : (kLkK k t0) = (kChK ((upd k 3 0)) 0) := (by simp only [kLkR, kLkK, kLkA, if_neg c_1, if_pos c_2] <;> rfl)
      have e_act : (kLkA k act t0) = (kChA ((upd k 3 0)) act 0) := (by simp only [kLkR, kLkK, kLkA, if_neg c_1, if_pos c_2] <;> rfl)
      have hP9 : va_P (dC, dI) classes (wK ad cI cF ((kLkK k t0)) ((kLkA k act t0)) txt F pr) H := by rw [e_k, e_act]; exact hP
      have hD9 : va_D A (wK ad cI cF ((kLkK k t0)) ((kLkA k act t0)) txt F pr) := by rw [e_k, e_act]; exact hD
      exact W.zret (v := (kChR ((upd k 3 0)) 0)) hx hb hrt (g_nar (kChR_01 _ _)) (fun t ht hW => ⟨⟨(kChR ((upd k 3 0)) 0), (), rfl, (by simp only [kLkR, kLkK, kLkA, if_neg c_1, if_pos c_2] <;> rfl), by rw [ht]; exact hP9, hD9⟩, hS.F ht⟩) hS.2.2 d_ModeKeeper_look_27
    · refine lv_iconst (v := 0) hx hb d_ModeKeeper_look_15 (by decide) ?_
      have e_k : (kLkK k t0) = k := (by simp only [kLkR, kLkK, kLkA, if_neg c_1, if_neg c_2] <;> rfl)
      have e_act : (kLkA k act t0) = act := (by simp only [kLkR, kLkK, kLkA, if_neg c_1, if_neg c_2] <;> rfl)
      have hP9 : va_P (dC, dI) classes (wK ad cI cF ((kLkK k t0)) ((kLkA k act t0)) txt F pr) s.heap := by rw [e_k, e_act]; exact hP
      have hD9 : va_D A (wK ad cI cF ((kLkK k t0)) ((kLkA k act t0)) txt F pr) := by rw [e_k, e_act]; exact hD
      exact W.zret (v := 0) hx hb hrt rfl (fun t ht hW => ⟨⟨0, (), rfl, (by simp only [kLkR, kLkK, kLkA, if_neg c_1, if_neg c_2] <;> rfl), by rw [ht]; exact hP9, hD9⟩, hS.F ht⟩) hS.2.2 d_ModeKeeper_look_16
set_option maxHeartbeats 4000000 in
set_option maxRecDepth 100000 in
theorem c_ModeKeeper_put (l : Launch) (dC : Nat → ClassId) (dI : Nat → Nat → Nat) (ad : Nat → Nat) (sz : Nat) (cI cF : ClassId) (k act txt : Nat → Int32) (F pr : Nat → Nat → Int32) (x : Int32) (t : Nat) (ht8 : t ≤ 8) (hk6 : k 6 = nI t) : Met l y_ModeKeeper_put w_ModeKeeper_put ({ frames := 0, cells := 0, slots := 0, locals := 0 }) (va_Pc [.ref (ad 0), .int x] (gP (dC, dI) classes (tyK cI cF) (wK ad cI cF k act txt F pr) sz)) (va_Qi (fun r (_ : Unit) => r = (kPuR k x)) (fun _ t => gB (dC, dI) classes (va_A (wK ad cI cF k act txt F pr) sz) (wK ad cI cF ((kPuK k x)) act ((kPuT k txt x)) F pr) t) (va_A (wK ad cI cF k act txt F pr) sz)) 0 0 (va_A (wK ad cI cF k act txt F pr) sz) := by
  refine Met.ofW (cc := b_ModeKeeper_put) (maxL := 2) (ret := (some .int)) (by decide) rfl ?_
  intro p e s m args below meth c s₁ B hml hv
  obtain ⟨rfl, hsz, hP, hK, hD0, hN⟩ := hv
  have hx := B.exec
  have hb := B.bytes
  have hrt := B.returns
  have hq : ∀ w ∈ wAll, w.before ([.ref (ad 0), .int x] : List Value).toArray s = true := fun w h => atoms_spec (ws := w_ModeKeeper_put) B.pre w (List.mem_cons_of_mem _ h)
  have hown : s.vm.findClass R_ModeKeeper = some m.cls := findClass_of_methodNamed B.named
  have hlocks := B.notSynchronized
  subst hsz
  have hD := hD0.self (sz := s.heap.size)
  generalize hAe : va_A (wK ad cI cF k act txt F pr) s.heap.size = A at hD ⊢
  have hA : ∀ q : Nat, s.heap.size ≤ q → A q := fun q h => by rw [← hAe]; exact Or.inr h
  have hS : va_S A s.heap s.heap [] := va_S.rf
  have hl := lv_entry ([.ref (ad 0), .int x]) (n := 2) (Nat.le_of_ble_eq_true rfl)
  rw [lg_entry_eq]
  generalize (lg_sl ([.ref (ad 0), .int x]) ++ List.replicate (2 - (lg_sl ([.ref (ad 0), .int x])).length) Slot.unset).toArray = ls at hl ⊢
  have hl : lv_has ls 2 [(0, .ref (ad 0)), (1, .int x)] := hl
  refine lv_iload_n hx hb d_ModeKeeper_put_0 rfl (lv_at hl 1 rfl) ?_
  refine lv_if_lt (tgt := 19) hx hb d_ModeKeeper_put_1 (by decide) (fun c_1 => ?_) (fun c_1 => ?_)
  · refine lv_iconst (v := (-1)) hx hb d_ModeKeeper_put_19 (by decide) ?_
    have e_k : (kPuK k x) = k := (by simp only [kPuR, kPuK, kPuT, if_pos c_1] <;> rfl)
    have e_txt : (kPuT k txt x) = txt := (by simp only [kPuR, kPuK, kPuT, if_pos c_1] <;> rfl)
    have hP9 : va_P (dC, dI) classes (wK ad cI cF ((kPuK k x)) act ((kPuT k txt x)) F pr) s.heap := by rw [e_k, e_txt]; exact hP
    have hD9 : va_D A (wK ad cI cF ((kPuK k x)) act ((kPuT k txt x)) F pr) := by rw [e_k, e_txt]; exact hD
    exact W.iret (v := (-1)) hx hb hrt (fun t ht hW => ⟨⟨(-1), (), rfl, (by simp only [kPuR, kPuK, kPuT, if_pos c_1] <;> rfl), by rw [ht]; exact hP9, hD9⟩, hS.F ht⟩) hS.2.2 d_ModeKeeper_put_20
  · refine lv_iload_n hx hb d_ModeKeeper_put_4 rfl (lv_at hl 1 rfl) ?_
    refine lv_bipush (v := 31) hx hb d_ModeKeeper_put_5 (by decide) ?_
    refine lv_icmp_gt (tgt := 19) hx hb d_ModeKeeper_put_7 (by decide) (fun c_2 => ?_) (fun c_2 => ?_)
    · refine lv_iconst (v := (-1)) hx hb d_ModeKeeper_put_19 (by decide) ?_
      have e_k : (kPuK k x) = k := (by simp only [kPuR, kPuK, kPuT, if_neg c_1, if_pos c_2] <;> rfl)
      have e_txt : (kPuT k txt x) = txt := (by simp only [kPuR, kPuK, kPuT, if_neg c_1, if_pos c_2] <;> rfl)
      have hP9 : va_P (dC, dI) classes (wK ad cI cF ((kPuK k x)) act ((kPuT k txt x)) F pr) s.heap := by rw [e_k, e_txt]; exact hP
      have hD9 : va_D A (wK ad cI cF ((kPuK k x)) act ((kPuT k txt x)) F pr) := by rw [e_k, e_txt]; exact hD
      exact W.iret (v := (-1)) hx hb hrt (fun t ht hW => ⟨⟨(-1), (), rfl, (by simp only [kPuR, kPuK, kPuT, if_neg c_1, if_pos c_2] <;> rfl), by rw [ht]; exact hP9, hD9⟩, hS.F ht⟩) hS.2.2 d_ModeKeeper_put_20
    · refine lv_aload_n hx hb d_ModeKeeper_put_10 rfl (lv_at hl 0 rfl) ?_
      refine va_get (D := (dC, dI)) (ci := 0) (v := .int (k 6)) (C := R_ModeKeeper) (T := F_ModeKeeper) (N := 9) hx hb hq iw_K hown hK hP 0 rfl rfl 6 (by decide) (hq _ qk_9) (fun _ h9 => h9) rfl d_ModeKeeper_put_11 ?_
      refine lv_bipush (v := 8) hx hb d_ModeKeeper_put_14 (by decide) ?_
      refine lv_icmp_lt (tgt := 21) hx hb d_ModeKeeper_put_16 (by decide) (fun c_3 => ?_) (fun c_3 => ?_)
      · refine lv_aload_n hx hb d_ModeKeeper_put_21 rfl (lv_at hl 0 rfl) ?_
        refine va_get (D := (dC, dI)) (ci := 0) (v := .ref (ad 2)) (C := R_ModeKeeper) (T := F_ModeKeeper) (N := 9) hx hb hq iw_K hown hK hP 0 rfl rfl 5 (by decide) (hq _ qk_15) (fun _ h9 => h9) rfl d_ModeKeeper_put_22 ?_
        refine lv_aload_n hx hb d_ModeKeeper_put_25 rfl (lv_at hl 0 rfl) ?_
        refine va_get (D := (dC, dI)) (ci := 0) (v := .int (k 6)) (C := R_ModeKeeper) (T := F_ModeKeeper) (N := 9) hx hb hq iw_K hown hK hP 0 rfl rfl 6 (by decide) (hq _ qk_9) (fun _ h9 => h9) rfl d_ModeKeeper_put_26 ?_
        refine lv_iload_n hx hb d_ModeKeeper_put_29 rfl (lv_at hl 1 rfl) ?_
        refine va_iast (D := (dC, dI)) hx hb hK hP hD hS 2 0 rfl rfl (by show vp_in (k 6) 8; rw [hk6] at c_3 ⊢; exact vp_in_nI ((nI_ltI (by omega) (by decide)).mp c_3) (by decide)) d_ModeKeeper_put_30 (fun H locs hP hD hS => ?_)
        have hP : va_P (dC, dI) classes (wK ad cI cF k act ((upd txt ((k 6)).toNatClampNeg x)) F pr) H := hP
        have hD : va_D A (wK ad cI cF k act ((upd txt ((k 6)).toNatClampNeg x)) F pr) := hD
        refine lv_aload_n hx hb d_ModeKeeper_put_31 rfl (lv_at hl 0 rfl) ?_
        refine lv_dup hx hb d_ModeKeeper_put_32 rfl ?_
        refine va_get (D := (dC, dI)) (ci := 0) (v := .int (k 6)) (C := R_ModeKeeper) (T := F_ModeKeeper) (N := 9) hx hb hq iw_K hown hK hP 0 rfl rfl 6 (by decide) (hq _ qk_9) (fun _ h9 => h9) rfl d_ModeKeeper_put_33 ?_
        refine lv_iconst (v := 1) hx hb d_ModeKeeper_put_36 (by decide) ?_
        refine lv_iadd hx hb d_ModeKeeper_put_37 ?_
        refine va_put (D := (dC, dI)) (ci := 0) (v := .int ((k 6) + 1)) (ty := .int) (C := R_ModeKeeper) (T := F_ModeKeeper) (N := 9) hx hb hq iw_K t_ModeKeeper t_ModeKeeper_ok n_ModeKeeper hown hK hP hD hS 0 rfl rfl 6 (by decide) (hq _ qk_9) (fun _ h9 => h9) rfl (by decide +kernel) rfl rfl (Nat.le_of_ble_eq_true rfl) d_ModeKeeper_put_38 (fun H locs hP hD hS => ?_)
        have hP : va_P (dC, dI) classes (wK ad cI cF ((upd k 6 (((k 6) + 1)))) act ((upd txt ((k 6)).toNatClampNeg x)) F pr) H := hP
        have hD : va_D A (wK ad cI cF ((upd k 6 (((k 6) + 1)))) act ((upd txt ((k 6)).toNatClampNeg x)) F pr) := hD
        refine lv_aload_n hx hb d_ModeKeeper_put_41 rfl (lv_at hl 0 rfl) ?_
        refine va_get (D := (dC, dI)) (ci := 0) (v := .int ((upd k 6 (((k 6) + 1))) 6)) (C := R_ModeKeeper) (T := F_ModeKeeper) (N := 9) hx hb hq iw_K hown hK hP 0 rfl rfl 6 (by decide) (hq _ qk_9) (fun _ h9 => h9) rfl d_ModeKeeper_put_42 ?_
        have e_k : (kPuK k x) = (upd k 6 (((k 6) + 1))) := (by simp only [kPuR, kPuK, kPuT, if_neg c_1, if_neg c_2, if_pos c_3] <;> rfl)
        have e_txt : (kPuT k txt x) = (upd txt ((k 6)).toNatClampNeg x) := (by simp only [kPuR, kPuK, kPuT, if_neg c_1, if_neg c_2, if_pos c_3] <;> rfl)
        have hP9 : va_P (dC, dI) classes (wK ad cI cF ((kPuK k x)) act ((kPuT k txt x)) F pr) H := by rw [e_k, e_txt]; exact hP
        have hD9 : va_D A (wK ad cI cF ((kPuK k x)) act ((kPuT k txt x)) F pr) := by rw [e_k, e_txt]; exact hD
        exact W.iret (v := ((upd k 6 (((k 6) + 1))) 6)) hx hb hrt (fun t ht hW => ⟨⟨((upd k 6 (((k 6) + 1))) 6), (), rfl, (by simp only [kPuR, kPuK, kPuT, if_neg c_1, if_neg c_2, if_pos c_3] <;> rfl), by rw [ht]; exact hP9, hD9⟩, hS.F ht⟩) hS.2.2 d_ModeKeeper_put_45
      · refine lv_iconst (v := (-1)) hx hb d_ModeKeeper_put_19 (by decide) ?_
        have e_k : (kPuK k x) = k := (by simp only [kPuR, kPuK, kPuT, if_neg c_1, if_neg c_2, if_neg c_3] <;> rfl)
        have e_txt : (kPuT k txt x) = txt := (by simp only [kPuR, kPuK, kPuT, if_neg c_1, if_neg c_2, if_neg c_3] <;> rfl)
        have hP9 : va_P (dC, dI) classes (wK ad cI cF ((kPuK k x)) act ((kPuT k txt x)) F pr) s.heap := by rw [e_k, e_txt]; exact hP
        have hD9 : va_D A (wK ad cI cF ((kPuK k x)) act ((kPuT k txt x)) F pr) := by rw [e_k, e_txt]; exact hD
        exact W.iret (v := (-1)) hx hb hrt (fun t ht hW => ⟨⟨(-1), (), rfl, (by simp only [kPuR, kPuK, kPuT, if_neg c_1, if_neg c_2, if_neg c_3] <;> rfl), by rw [ht]; exact hP9, hD9⟩, hS.F ht⟩) hS.2.2 d_ModeKeeper_put_20
end
section
set_option maxHeartbeats 4000000 in
set_option maxRecDepth 100000 in
theorem c_ModeKeeper_form (l : Launch) (dC : Nat → ClassId) (dI : Nat → Nat → Nat) (ad : Nat → Nat) (sz : Nat) (cI cF : ClassId) (k act txt : Nat → Int32) (F pr : Nat → Nat → Int32) (id ev : Int32) (t : Nat) (ht8 : t ≤ 8) (hk6 : k 6 = nI t) : Met l y_ModeKeeper_form w_ModeKeeper_form ({ frames := 2, cells := 0, slots := 0, locals := 45 }) (va_Pc [.ref (ad 0), .int id, .int ev] (gP (dC, dI) classes (tyK cI cF) (wK ad cI cF k act txt F pr) sz)) (va_Qi (fun r (_ : Unit) => r = (kFail k F id ev)) (fun _ t => gB (dC, dI) classes (va_A (wK ad cI cF k act txt F pr) sz) (wK ad cI cF ((kFoK k F id ev)) act txt ((kFoF k F id ev)) ((kFoP k txt F pr id ev))) t) (va_A (wK ad cI cF k act txt F pr) sz)) 0 0 (va_A (wK ad cI cF k act txt F pr) sz) := by
  refine Met.ofW (cc := b_ModeKeeper_form) (maxL := 4) (ret := (some .int)) (by decide) rfl ?_
  intro p e s m args below meth c s₁ B hml hv
  obtain ⟨rfl, hsz, hP, hK, hD0, hN⟩ := hv
  have hx := B.exec
  have hb := B.bytes
  have hrt := B.returns
  have hq : ∀ w ∈ wAll, w.before ([.ref (ad 0), .int id, .int ev] : List Value).toArray s = true := fun w h => atoms_spec (ws := w_ModeKeeper_form) B.pre w (List.mem_cons_of_mem _ h)
  have hown : s.vm.findClass R_ModeKeeper = some m.cls := findClass_of_methodNamed B.named
  have hlocks := B.notSynchronized
  subst hsz
  have hD := hD0.self (sz := s.heap.size)
  generalize hAe : va_A (wK ad cI cF k act txt F pr) s.heap.size = A at hD ⊢
  have hA : ∀ q : Nat, s.heap.size ≤ q → A q := fun q h => by rw [← hAe]; exact Or.inr h
  have hS : va_S A s.heap s.heap [] := va_S.rf
  have hl := lv_entry ([.ref (ad 0), .int id, .int ev]) (n := 4) (Nat.le_of_ble_eq_true rfl)
  rw [lg_entry_eq]
  generalize (lg_sl ([.ref (ad 0), .int id, .int ev]) ++ List.replicate (4 - (lg_sl ([.ref (ad 0), .int id, .int ev])).length) Slot.unset).toArray = ls at hl ⊢
  have hl : lv_has ls 4 [(0, .ref (ad 0)), (1, .int id), (2, .int ev)] := hl
  refine lv_aload_n hx hb d_ModeKeeper_form_0 rfl (lv_at hl 0 rfl) ?_
  refine lv_iload_n hx hb d_ModeKeeper_form_1 rfl (lv_at hl 1 rfl) ?_
  refine lv_iload_n hx hb d_ModeKeeper_form_2 rfl (lv_at hl 2 rfl) ?_
  refine vp_callSi (va_Run.run (va_runV (As := [.int id, .int ev]) (rest := []) ⟨hx, hb, hml, hown, hq⟩ (c_ModeKeeper_failureOfNewForm l dC dI ad s.heap.size cI cF k act txt F pr id ev) ⟨callB_of 2 hq (gd m_ModeKeeper_failureOfNewForm) rfl rfl rfl (hq _ qk_10) (hq _ qk_23) (by decide +kernel) ⟨Nat.le_of_ble_eq_true rfl, Nat.le_of_ble_eq_true rfl⟩, (hq _ qk_24), (hq _ qk_25)⟩ ⟨g_blind, va_recv hK hP (ci := 0) (q0 := 0) rfl rfl, g_pre hP hK hD hN⟩ rfl rfl hl.1 rfl (lv_room (Nat.le_of_ble_eq_true rfl)) d_ModeKeeper_form_3 ⟨Nat.zero_le _, Nat.zero_le _⟩)) (fun r hr => ?_)
  subst hr
  refine lv_istore_n (lv' := [(3, .int (kFail k F id ev)), (0, .ref (ad 0)), (1, .int id), (2, .int ev)]) hx hb d_ModeKeeper_form_6 rfl hl (by decide) rfl (fun ls hl => ?_)
  refine lv_iload_n hx hb d_ModeKeeper_form_7 rfl (lv_at hl 0 rfl) ?_
  refine lv_if_ne (tgt := 17) hx hb d_ModeKeeper_form_8 (by decide) (fun c_1 => ?_) (fun c_1 => ?_)
  · refine lv_aload_n hx hb d_ModeKeeper_form_17 rfl (lv_at hl 1 rfl) ?_
    refine lv_iconst (v := 0) hx hb d_ModeKeeper_form_18 (by decide) ?_
    refine va_put (D := (dC, dI)) (ci := 0) (v := .int 0) (ty := .int) (C := R_ModeKeeper) (T := F_ModeKeeper) (N := 9) hx hb hq iw_K t_ModeKeeper t_ModeKeeper_ok n_ModeKeeper hown hK hP hD hS 0 rfl rfl 6 (by decide) (hq _ qk_9) (fun _ h9 => h9) rfl (by decide +kernel) rfl rfl (Nat.le_of_ble_eq_true rfl) d_ModeKeeper_form_19 (fun H locs hP hD hS => ?_)
    have hP : va_P (dC, dI) classes (wK ad cI cF ((upd k 6 0)) act txt F pr) H := hP
    have hD : va_D A (wK ad cI cF ((upd k 6 0)) act txt F pr) := hD
    refine lv_iload_n hx hb d_ModeKeeper_form_22 rfl (lv_at hl 0 rfl) ?_
    have e_k : (kFoK k F id ev) = (upd k 6 0) := (by simp only [kFoK, kFoF, kFoP, if_neg c_1] <;> rfl)
    have e_F : (kFoF k F id ev) = F := (by simp only [kFoK, kFoF, kFoP, if_neg c_1] <;> rfl)
    have e_pr : (kFoP k txt F pr id ev) = pr := (by simp only [kFoK, kFoF, kFoP, if_neg c_1] <;> rfl)
    have hP9 : va_P (dC, dI) classes (wK ad cI cF ((kFoK k F id ev)) act txt ((kFoF k F id ev)) ((kFoP k txt F pr id ev))) H := by rw [e_k, e_F, e_pr]; exact hP
    have hD9 : va_D A (wK ad cI cF ((kFoK k F id ev)) act txt ((kFoF k F id ev)) ((kFoP k txt F pr id ev))) := by rw [e_k, e_F, e_pr]; exact hD
    exact W.iret (v := (kFail k F id ev)) hx hb hrt (fun t ht hW => ⟨⟨(kFail k F id ev), (), rfl, rfl, by rw [ht]; exact hP9, hD9⟩, hS.F ht⟩) hS.2.2 d_ModeKeeper_form_23
  · refine lv_aload_n hx hb d_ModeKeeper_form_11 rfl (lv_at hl 1 rfl) ?_
    refine lv_iload_n hx hb d_ModeKeeper_form_12 rfl (lv_at hl 2 rfl) ?_
    refine lv_iload_n hx hb d_ModeKeeper_form_13 rfl (lv_at hl 3 rfl) ?_
    refine g_callv (va_runV (As := [.int id, .int ev]) (rest := []) ⟨hx, hb, hml, hown, hq⟩ (c_ModeKeeper_fillEmptyPlace l dC dI ad s.heap.size cI cF k act txt F pr id ev t ht8 hk6) ⟨callB_of 2 hq (gd m_ModeKeeper_fillEmptyPlace) rfl rfl rfl (hq _ qk_10) (hq _ qk_26) (by decide +kernel) ⟨Nat.le_of_ble_eq_true rfl, Nat.le_of_ble_eq_true rfl⟩, (hq _ qk_27), (hq _ qk_28)⟩ ⟨g_blind, va_recv hK hP (ci := 0) (q0 := 0) rfl rfl, g_pre hP hK hD hN⟩ rfl rfl hl.1 rfl (lv_room (Nat.le_of_ble_eq_true rfl)) d_ModeKeeper_form_14 ⟨Nat.zero_le _, Nat.zero_le _⟩) hD hS hA (fun H locs hP hD hS => ?_)
    refine lv_aload_n hx hb d_ModeKeeper_form_17 rfl (lv_at hl 1 rfl) ?_
    refine lv_iconst (v := 0) hx hb d_ModeKeeper_form_18 (by decide) ?_
    refine va_put (D := (dC, dI)) (ci := 0) (v := .int 0) (ty := .int) (C := R_ModeKeeper) (T := F_ModeKeeper) (N := 9) hx hb hq iw_K t_ModeKeeper t_ModeKeeper_ok n_ModeKeeper hown hK hP hD hS 0 rfl rfl 6 (by decide) (hq _ qk_9) (fun _ h9 => h9) rfl (by decide +kernel) rfl rfl (Nat.le_of_ble_eq_true rfl) d_ModeKeeper_form_19 (fun H locs hP hD hS => ?_)
    have hP : va_P (dC, dI) classes (wK ad cI cF ((upd (kFiK k F) 6 0)) act txt ((kFiF k F id ev)) ((kFiP k txt F pr))) H := hP
    have hD : va_D A (wK ad cI cF ((upd (kFiK k F) 6 0)) act txt ((kFiF k F id ev)) ((kFiP k txt F pr))) := hD
    refine lv_iload_n hx hb d_ModeKeeper_form_22 rfl (lv_at hl 0 rfl) ?_
    have e_k : (kFoK k F id ev) = (upd (kFiK k F) 6 0) := (by simp only [kFoK, kFoF, kFoP, if_pos c_1] <;> rfl)
    have e_F : (kFoF k F id ev) = (kFiF k F id ev) := (by simp only [kFoK, kFoF, kFoP, if_pos c_1] <;> rfl)
    have e_pr : (kFoP k txt F pr id ev) = (kFiP k txt F pr) := (by simp only [kFoK, kFoF, kFoP, if_pos c_1] <;> rfl)
    have hP9 : va_P (dC, dI) classes (wK ad cI cF ((kFoK k F id ev)) act txt ((kFoF k F id ev)) ((kFoP k txt F pr id ev))) H := by rw [e_k, e_F, e_pr]; exact hP
    have hD9 : va_D A (wK ad cI cF ((kFoK k F id ev)) act txt ((kFoF k F id ev)) ((kFoP k txt F pr id ev))) := by rw [e_k, e_F, e_pr]; exact hD
    exact W.iret (v := (kFail k F id ev)) hx hb hrt (fun t ht hW => ⟨⟨(kFail k F id ev), (), rfl, rfl, by rw [ht]; exact hP9, hD9⟩, hS.F ht⟩) hS.2.2 d_ModeKeeper_form_23
set_option maxHeartbeats 4000000 in
set_option maxRecDepth 100000 in
theorem c_ModeKeeper_remove (l : Launch) (dC : Nat → ClassId) (dI : Nat → Nat → Nat) (ad : Nat → Nat) (sz : Nat) (cI cF : ClassId) (k act txt : Nat → Int32) (F pr : Nat → Nat → Int32) (id : Int32) : Met l y_ModeKeeper_remove w_ModeKeeper_remove ({ frames := 1, cells := 0, slots := 0, locals := 23 }) (va_Pc [.ref (ad 0), .int id] (gP (dC, dI) classes (tyK cI cF) (wK ad cI cF k act txt F pr) sz)) (va_Qi (fun r (_ : Unit) => r = (kReR F id)) (fun _ t => gB (dC, dI) classes (va_A (wK ad cI cF k act txt F pr) sz) (wK ad cI cF ((kReK k F id)) act txt ((kReF F id)) pr) t) (va_A (wK ad cI cF k act txt F pr) sz)) 0 0 (va_A (wK ad cI cF k act txt F pr) sz) := by
  refine Met.ofW (cc := b_ModeKeeper_remove) (maxL := 3) (ret := (some .int)) (by decide) rfl ?_
  intro p e s m args below meth c s₁ B hml hv
  obtain ⟨rfl, hsz, hP, hK, hD0, hN⟩ := hv
  have hx := B.exec
  have hb := B.bytes
  have hrt := B.returns
  have hq : ∀ w ∈ wAll, w.before ([.ref (ad 0), .int id] : List Value).toArray s = true := fun w h => atoms_spec (ws := w_ModeKeeper_remove) B.pre w (List.mem_cons_of_mem _ h)
  have hown : s.vm.findClass R_ModeKeeper = some m.cls := findClass_of_methodNamed B.named
  have hlocks := B.notSynchronized
  subst hsz
  have hD := hD0.self (sz := s.heap.size)
  generalize hAe : va_A (wK ad cI cF k act txt F pr) s.heap.size = A at hD ⊢
  have hA : ∀ q : Nat, s.heap.size ≤ q → A q := fun q h => by rw [← hAe]; exact Or.inr h
  have hS : va_S A s.heap s.heap [] := va_S.rf
  have hl := lv_entry ([.ref (ad 0), .int id]) (n := 3) (Nat.le_of_ble_eq_true rfl)
  rw [lg_entry_eq]
  generalize (lg_sl ([.ref (ad 0), .int id]) ++ List.replicate (3 - (lg_sl ([.ref (ad 0), .int id])).length) Slot.unset).toArray = ls at hl ⊢
  have hl : lv_has ls 3 [(0, .ref (ad 0)), (1, .int id)] := hl
  refine lv_aload_n hx hb d_ModeKeeper_remove_0 rfl (lv_at hl 0 rfl) ?_
  refine lv_iload_n hx hb d_ModeKeeper_remove_1 rfl (lv_at hl 1 rfl) ?_
  refine va_csq (va_Run.run (va_runV (As := [.int id]) (rest := []) ⟨hx, hb, hml, hown, hq⟩ (c_ModeKeeper_find l dC dI ad s.heap.size cI cF k act txt F pr id) ⟨callB_of 1 hq (gd m_ModeKeeper_find) rfl rfl rfl (hq _ qk_10) (hq _ qk_11) (by decide +kernel) ⟨Nat.le_of_ble_eq_true rfl, Nat.le_of_ble_eq_true rfl⟩, (hq _ qk_12), (hq _ qk_13)⟩ ⟨g_blind, va_recv hK hP (ci := 0) (q0 := 0) rfl rfl, g_pre hP hK hD hN⟩ rfl rfl hl.1 rfl (lv_room (Nat.le_of_ble_eq_true rfl)) d_ModeKeeper_remove_2 ⟨Nat.zero_le _, Nat.zero_le _⟩)) (fun r hr => ?_)
  cases hf_1 : kFind F id 8 0 with
  | none =>
    obtain rfl : r = none := by rw [hr, hf_1]; rfl
    refine lv_astore_nN (lv' := [(2, .null), (0, .ref (ad 0)), (1, .int id)]) hx hb d_ModeKeeper_remove_5 rfl hl (by decide) rfl (fun ls hl => ?_)
    refine lv_aload_nN hx hb d_ModeKeeper_remove_6 rfl (lv_at hl 0 rfl) ?_
    refine lv_ifnonnullN hx hb d_ModeKeeper_remove_7 ?_
    refine lv_bipush (v := 14) hx hb d_ModeKeeper_remove_10 (by decide) ?_
    have e_k : (kReK k F id) = k := (by simp only [kReR, kReK, kReF, hf_1] <;> rfl)
    have e_F : (kReF F id) = F := (by simp only [kReR, kReK, kReF, hf_1] <;> rfl)
    have hP9 : va_P (dC, dI) classes (wK ad cI cF ((kReK k F id)) act txt ((kReF F id)) pr) s.heap := by rw [e_k, e_F]; exact hP
    have hD9 : va_D A (wK ad cI cF ((kReK k F id)) act txt ((kReF F id)) pr) := by rw [e_k, e_F]; exact hD
    exact W.iret (v := 14) hx hb hrt (fun t ht hW => ⟨⟨14, (), rfl, (by simp only [kReR, kReK, kReF, hf_1] <;> rfl), by rw [ht]; exact hP9, hD9⟩, hS.F ht⟩) hS.2.2 d_ModeKeeper_remove_12
  | some i_2 =>
    obtain rfl : r = some (ad (4 + i_2)) := by rw [hr, hf_1]; rfl
    have hi : i_2 < 8 := by have h8 := (kFind_some hf_1).2.1; omega
    refine lv_astore_n (lv' := [(2, .ref (ad (4 + i_2))), (0, .ref (ad 0)), (1, .int id)]) hx hb d_ModeKeeper_remove_5 rfl hl (by decide) rfl (fun ls hl => ?_)
    refine lv_aload_n hx hb d_ModeKeeper_remove_6 rfl (lv_at hl 0 rfl) ?_
    refine lv_ifnonnull (tgt := 13) hx hb d_ModeKeeper_remove_7 (by decide) ?_
    refine lv_aload_n hx hb d_ModeKeeper_remove_13 rfl (lv_at hl 0 rfl) ?_
    refine va_getN (D := (dC, dI)) (ci := 1) (v := .int (F i_2 3)) (C := R_Form) (T := F_Form) (N := 6) hx hb hq iw_F hown hK hP (4 + i_2) (wK_at hi) rfl 3 (by decide) (gN_on hN) (fun _ h9 => h9) rfl d_ModeKeeper_remove_14 ?_
    refine lv_if_eq (tgt := 23) hx hb d_ModeKeeper_remove_17 (by decide) (fun c_3 => ?_) (fun c_3 => ?_)
    · refine lv_aload_n hx hb d_ModeKeeper_remove_23 rfl (lv_at hl 0 rfl) ?_
      refine lv_iconst (v := 0) hx hb d_ModeKeeper_remove_24 (by decide) ?_
      refine va_putN (D := (dC, dI)) (ci := 1) (v := .int 0) (ty := .boolean) (C := R_Form) (T := F_Form) (N := 6) hx hb hq iw_F t_Form t_Form_ok n_Form hown hK hP hD hS (4 + i_2) (wK_at hi) rfl 0 (by decide) (gN_there hN) (fun _ h9 => h9) rfl (by decide +kernel) rfl rfl (Nat.le_of_ble_eq_true rfl) d_ModeKeeper_remove_25 (fun H locs hP hD hS => ?_)
      rw [wK_set0 hi] at hP hD
      have hP : va_P (dC, dI) classes (wK ad cI cF k act txt ((up2 F i_2 0 0)) pr) H := hP
      have hD : va_D A (wK ad cI cF k act txt ((up2 F i_2 0 0)) pr) := hD
      refine lv_aload_n hx hb d_ModeKeeper_remove_28 rfl (lv_at hl 1 rfl) ?_
      refine lv_dup hx hb d_ModeKeeper_remove_29 rfl ?_
      refine va_get (D := (dC, dI)) (ci := 0) (v := .int (k 8)) (C := R_ModeKeeper) (T := F_ModeKeeper) (N := 9) hx hb hq iw_K hown hK hP 0 rfl rfl 8 (by decide) (hq _ qk_14) (fun _ h9 => h9) rfl d_ModeKeeper_remove_30 ?_
      refine lv_iconst (v := 1) hx hb d_ModeKeeper_remove_33 (by decide) ?_
      refine lv_isub hx hb d_ModeKeeper_remove_34 ?_
      refine va_put (D := (dC, dI)) (ci := 0) (v := .int ((k 8) - 1)) (ty := .int) (C := R_ModeKeeper) (T := F_ModeKeeper) (N := 9) hx hb hq iw_K t_ModeKeeper t_ModeKeeper_ok n_ModeKeeper hown hK hP hD hS 0 rfl rfl 8 (by decide) (hq _ qk_14) (fun _ h9 => h9) rfl (by decide +kernel) rfl rfl (Nat.le_of_ble_eq_true rfl) d_ModeKeeper_remove_35 (fun H locs hP hD hS => ?_)
      have hP : va_P (dC, dI) classes (wK ad cI cF ((upd k 8 (((k 8) - 1)))) act txt ((up2 F i_2 0 0)) pr) H := hP
      have hD : va_D A (wK ad cI cF ((upd k 8 (((k 8) - 1)))) act txt ((up2 F i_2 0 0)) pr) := hD
      refine lv_iconst (v := 0) hx hb d_ModeKeeper_remove_38 (by decide) ?_
      have e_k : (kReK k F id) = (upd k 8 (((k 8) - 1))) := (by simp only [kReR, kReK, kReF, hf_1, if_pos c_3] <;> rfl)
      have e_F : (kReF F id) = (up2 F i_2 0 0) := (by simp only [kReR, kReK, kReF, hf_1, if_pos c_3] <;> rfl)
      have hP9 : va_P (dC, dI) classes (wK ad cI cF ((kReK k F id)) act txt ((kReF F id)) pr) H := by rw [e_k, e_F]; exact hP
      have hD9 : va_D A (wK ad cI cF ((kReK k F id)) act txt ((kReF F id)) pr) := by rw [e_k, e_F]; exact hD
      exact W.iret (v := 0) hx hb hrt (fun t ht hW => ⟨⟨0, (), rfl, (by simp only [kReR, kReK, kReF, hf_1, if_pos c_3] <;> rfl), by rw [ht]; exact hP9, hD9⟩, hS.F ht⟩) hS.2.2 d_ModeKeeper_remove_39
    · refine lv_bipush (v := 15) hx hb d_ModeKeeper_remove_20 (by decide) ?_
      have e_k : (kReK k F id) = k := (by simp only [kReR, kReK, kReF, hf_1, if_neg c_3] <;> rfl)
      have e_F : (kReF F id) = F := (by simp only [kReR, kReK, kReF, hf_1, if_neg c_3] <;> rfl)
      have hP9 : va_P (dC, dI) classes (wK ad cI cF ((kReK k F id)) act txt ((kReF F id)) pr) s.heap := by rw [e_k, e_F]; exact hP
      have hD9 : va_D A (wK ad cI cF ((kReK k F id)) act txt ((kReF F id)) pr) := by rw [e_k, e_F]; exact hD
      exact W.iret (v := 15) hx hb hrt (fun t ht hW => ⟨⟨15, (), rfl, (by simp only [kReR, kReK, kReF, hf_1, if_neg c_3] <;> rfl), by rw [ht]; exact hP9, hD9⟩, hS.F ht⟩) hS.2.2 d_ModeKeeper_remove_22
set_option maxHeartbeats 4000000 in
set_option maxRecDepth 100000 in
theorem c_ModeKeeper_enable (l : Launch) (dC : Nat → ClassId) (dI : Nat → Nat → Nat) (ad : Nat → Nat) (sz : Nat) (cI cF : ClassId) (k act txt : Nat → Int32) (F pr : Nat → Nat → Int32) (id on : Int32) (hon : on = 0 ∨ on = 1) : Met l y_ModeKeeper_enable w_ModeKeeper_enable ({ frames := 1, cells := 0, slots := 0, locals := 23 }) (va_Pc [.ref (ad 0), .int id, .int on] (gP (dC, dI) classes (tyK cI cF) (wK ad cI cF k act txt F pr) sz)) (va_Qi (fun r (_ : Unit) => r = (kEbR F id)) (fun _ t => gB (dC, dI) classes (va_A (wK ad cI cF k act txt F pr) sz) (wK ad cI cF k act txt ((kEbF F id on)) pr) t) (va_A (wK ad cI cF k act txt F pr) sz)) 0 0 (va_A (wK ad cI cF k act txt F pr) sz) := by
  refine Met.ofW (cc := b_ModeKeeper_enable) (maxL := 4) (ret := (some .int)) (by decide) rfl ?_
  intro p e s m args below meth c s₁ B hml hv
  obtain ⟨rfl, hsz, hP, hK, hD0, hN⟩ := hv
  have hx := B.exec
  have hb := B.bytes
  have hrt := B.returns
  have hq : ∀ w ∈ wAll, w.before ([.ref (ad 0), .int id, .int on] : List Value).toArray s = true := fun w h => atoms_spec (ws := w_ModeKeeper_enable) B.pre w (List.mem_cons_of_mem _ h)
  have hown : s.vm.findClass R_ModeKeeper = some m.cls := findClass_of_methodNamed B.named
  have hlocks := B.notSynchronized
  subst hsz
  have hD := hD0.self (sz := s.heap.size)
  generalize hAe : va_A (wK ad cI cF k act txt F pr) s.heap.size = A at hD ⊢
  have hA : ∀ q : Nat, s.heap.size ≤ q → A q := fun q h => by rw [← hAe]; exact Or.inr h
  have hS : va_S A s.heap s.heap [] := va_S.rf
  have hl := lv_entry ([.ref (ad 0), .int id, .int on]) (n := 4) (Nat.le_of_ble_eq_true rfl)
  rw [lg_entry_eq]
  generalize (lg_sl ([.ref (ad 0), .int id, .int on]) ++ List.replicate (4 - (lg_sl ([.ref (ad 0), .int id, .int on])).length) Slot.unset).toArray = ls at hl ⊢
  have hl : lv_has ls 4 [(0, .ref (ad 0)), (1, .int id), (2, .int on)] := hl
  refine lv_aload_n hx hb d_ModeKeeper_enable_0 rfl (lv_at hl 0 rfl) ?_
  refine lv_iload_n hx hb d_ModeKeeper_enable_1 rfl (lv_at hl 1 rfl) ?_
  refine va_csq (va_Run.run (va_runV (As := [.int id]) (rest := []) ⟨hx, hb, hml, hown, hq⟩ (c_ModeKeeper_find l dC dI ad s.heap.size cI cF k act txt F pr id) ⟨callB_of 1 hq (gd m_ModeKeeper_find) rfl rfl rfl (hq _ qk_10) (hq _ qk_11) (by decide +kernel) ⟨Nat.le_of_ble_eq_true rfl, Nat.le_of_ble_eq_true rfl⟩, (hq _ qk_12), (hq _ qk_13)⟩ ⟨g_blind, va_recv hK hP (ci := 0) (q0 := 0) rfl rfl, g_pre hP hK hD hN⟩ rfl rfl hl.1 rfl (lv_room (Nat.le_of_ble_eq_true rfl)) d_ModeKeeper_enable_2 ⟨Nat.zero_le _, Nat.zero_le _⟩)) (fun r hr => ?_)
  cases hf_1 : kFind F id 8 0 with
  | none =>
    obtain rfl : r = none := by rw [hr, hf_1]; rfl
    refine lv_astore_nN (lv' := [(3, .null), (0, .ref (ad 0)), (1, .int id), (2, .int on)]) hx hb d_ModeKeeper_enable_5 rfl hl (by decide) rfl (fun ls hl => ?_)
    refine lv_aload_nN hx hb d_ModeKeeper_enable_6 rfl (lv_at hl 0 rfl) ?_
    refine lv_ifnonnullN hx hb d_ModeKeeper_enable_7 ?_
    refine lv_bipush (v := 14) hx hb d_ModeKeeper_enable_10 (by decide) ?_
    have e_F : (kEbF F id on) = F := (by simp only [kEbR, kEbF, hf_1] <;> rfl)
    have hP9 : va_P (dC, dI) classes (wK ad cI cF k act txt ((kEbF F id on)) pr) s.heap := by rw [e_F]; exact hP
    have hD9 : va_D A (wK ad cI cF k act txt ((kEbF F id on)) pr) := by rw [e_F]; exact hD
    exact W.iret (v := 14) hx hb hrt (fun t ht hW => ⟨⟨14, (), rfl, (by simp only [kEbR, kEbF, hf_1] <;> rfl), by rw [ht]; exact hP9, hD9⟩, hS.F ht⟩) hS.2.2 d_ModeKeeper_enable_12
  | some i_2 =>
    obtain rfl : r = some (ad (4 + i_2)) := by rw [hr, hf_1]; rfl
    have hi : i_2 < 8 := by have h8 := (kFind_some hf_1).2.1; omega
    refine lv_astore_n (lv' := [(3, .ref (ad (4 + i_2))), (0, .ref (ad 0)), (1, .int id), (2, .int on)]) hx hb d_ModeKeeper_enable_5 rfl hl (by decide) rfl (fun ls hl => ?_)
    refine lv_aload_n hx hb d_ModeKeeper_enable_6 rfl (lv_at hl 0 rfl) ?_
    refine lv_ifnonnull (tgt := 13) hx hb d_ModeKeeper_enable_7 (by decide) ?_
    refine lv_aload_n hx hb d_ModeKeeper_enable_13 rfl (lv_at hl 0 rfl) ?_
    refine lv_iload_n hx hb d_ModeKeeper_enable_14 rfl (lv_at hl 3 rfl) ?_
    refine va_putN (D := (dC, dI)) (ci := 1) (v := .int on) (ty := .boolean) (C := R_Form) (T := F_Form) (N := 6) hx hb hq iw_F t_Form t_Form_ok n_Form hown hK hP hD hS (4 + i_2) (wK_at hi) rfl 3 (by decide) (gN_on hN) (fun _ h9 => h9) rfl (by decide +kernel) (g_nar hon) (g_fit hon) (Nat.le_of_ble_eq_true rfl) d_ModeKeeper_enable_15 (fun H locs hP hD hS => ?_)
    rw [wK_set3 hi] at hP hD
    have hP : va_P (dC, dI) classes (wK ad cI cF k act txt ((up2 F i_2 3 on)) pr) H := hP
    have hD : va_D A (wK ad cI cF k act txt ((up2 F i_2 3 on)) pr) := hD
    refine lv_iconst (v := 0) hx hb d_ModeKeeper_enable_18 (by decide) ?_
    have e_F : (kEbF F id on) = (up2 F i_2 3 on) := (by simp only [kEbR, kEbF, hf_1] <;> rfl)
    have hP9 : va_P (dC, dI) classes (wK ad cI cF k act txt ((kEbF F id on)) pr) H := by rw [e_F]; exact hP
    have hD9 : va_D A (wK ad cI cF k act txt ((kEbF F id on)) pr) := by rw [e_F]; exact hD
    exact W.iret (v := 0) hx hb hrt (fun t ht hW => ⟨⟨0, (), rfl, (by simp only [kEbR, kEbF, hf_1] <;> rfl), by rw [ht]; exact hP9, hD9⟩, hS.F ht⟩) hS.2.2 d_ModeKeeper_enable_19
end
section
set_option maxHeartbeats 4000000 in
set_option maxRecDepth 100000 in
theorem c_ModeKeeper_due (l : Launch) (dC : Nat → ClassId) (dI : Nat → Nat → Nat) (ad : Nat → Nat) (sz : Nat) (cI cF : ClassId) (k act txt : Nat → Int32) (F pr : Nat → Nat → Int32) (tick fr : Int32) : Met l y_ModeKeeper_due w_ModeKeeper_due ({ frames := 1, cells := 0, slots := 0, locals := 21 }) (va_Pc [.ref (ad 0), .int tick, .int fr] (gP (dC, dI) classes (tyK cI cF) (wK ad cI cF k act txt F pr) sz)) (vp_Si (fun r => r = (kDue F tick fr 8 0 (-1)))) 0 0 (fun _ => False) := by
  refine Met.ofW (cc := b_ModeKeeper_due) (maxL := 6) (ret := (some .int)) (by decide) rfl ?_
  intro p e s m args below meth c s₁ B hml hv
  obtain ⟨rfl, hsz, hP, hK, hD0, hN⟩ := hv
  have hx := B.exec
  have hb := B.bytes
  have hrt := B.returns
  have hq : ∀ w ∈ wAll, w.before ([.ref (ad 0), .int tick, .int fr] : List Value).toArray s = true := fun w h => atoms_spec (ws := w_ModeKeeper_due) B.pre w (List.mem_cons_of_mem _ h)
  have hown : s.vm.findClass R_ModeKeeper = some m.cls := findClass_of_methodNamed B.named
  have hlocks := B.notSynchronized
  subst hsz
  have hD := hD0
  have hl := lv_entry ([.ref (ad 0), .int tick, .int fr]) (n := 6) (Nat.le_of_ble_eq_true rfl)
  rw [lg_entry_eq]
  generalize (lg_sl ([.ref (ad 0), .int tick, .int fr]) ++ List.replicate (6 - (lg_sl ([.ref (ad 0), .int tick, .int fr])).length) Slot.unset).toArray = ls at hl ⊢
  have hl : lv_has ls 6 [(0, .ref (ad 0)), (1, .int tick), (2, .int fr)] := hl
  have key : ∀ (n i : Nat) (x : Int32), i + n = 8 → kDue F tick fr 8 0 (-1) = kDue F tick fr n i x → ∀ (ls : Array Slot), lv_has ls 6 [(0, .ref (ad 0)), (1, .int tick), (2, .int fr), (3, .int x), (4, .int (nI i))] → W p l e (headSpec w_ModeKeeper_due ({ frames := 1, cells := 0, slots := 0, locals := 21 })).room s m ([.ref (ad 0), .int tick, .int fr] : List Value).toArray below meth c s.heap [] 0 0 (MQ below (vp_Si (fun r => r = (kDue F tick fr 8 0 (-1)))) ([.ref (ad 0), .int tick, .int fr] : List Value).toArray s 0 0 (fun _ => False)) (F0 m 5 ls []) := by
    intro n
    induction n with
    | zero =>
      intro i x hin hres ls hl
      obtain rfl : i = 8 := by omega
      refine lv_iload hx hb d_ModeKeeper_due_5 (lv_at hl 4 rfl) ?_
      refine lv_bipush (v := 8) hx hb d_ModeKeeper_due_7 (by decide) ?_
      refine lv_icmp_ge (tgt := 84) hx hb d_ModeKeeper_due_9 (by decide) (fun c_1 => ?_) (fun c_1 => ?_)
      · refine lv_iload_n hx hb d_ModeKeeper_due_84 rfl (lv_at hl 3 rfl) ?_
        exact W.iret (v := x) hx hb hrt (fun t ht hW => ⟨x, rfl, hres.symm, ht⟩) (fun _ h => by cases h) d_ModeKeeper_due_85
      · exact absurd (by decide +kernel) c_1
    | succ n ih =>
      intro i x hin hres ls hl
      have hi : i < 8 := by omega
      refine lv_iload hx hb d_ModeKeeper_due_5 (lv_at hl 4 rfl) ?_
      refine lv_bipush (v := 8) hx hb d_ModeKeeper_due_7 (by decide) ?_
      refine lv_icmp_ge (tgt := 84) hx hb d_ModeKeeper_due_9 (by decide) (fun c_2 => ?_) (fun c_2 => ?_)
      · exact absurd c_2 (nI_ge (b := 8) hi (by decide))
      · refine lv_aload_n hx hb d_ModeKeeper_due_12 rfl (lv_at hl 0 rfl) ?_
        refine va_get (D := (dC, dI)) (ci := 0) (v := .ref (ad 3)) (C := R_ModeKeeper) (T := F_ModeKeeper) (N := 9) hx hb hq iw_K hown hK hP 0 rfl rfl 7 (by decide) (hq _ qk_0) (fun _ h9 => h9) rfl d_ModeKeeper_due_13 ?_
        refine lv_iload hx hb d_ModeKeeper_due_16 (lv_at hl 4 rfl) ?_
        refine g_ald (D := (dC, dI)) hx hb hK hP 3 1 rfl rfl (i := i) (y := ad (4 + i)) hi (by decide) (if_pos hi) d_ModeKeeper_due_18 ?_
        refine lv_astore (lv' := [(5, .ref (ad (4 + i))), (0, .ref (ad 0)), (1, .int tick), (2, .int fr), (3, .int x), (4, .int (nI i))]) hx hb d_ModeKeeper_due_19 hl (by decide) rfl (fun ls hl => ?_)
        refine lv_aload hx hb d_ModeKeeper_due_21 (lv_at hl 0 rfl) ?_
        refine va_getN (D := (dC, dI)) (ci := 1) (v := .int (F i 0)) (C := R_Form) (T := F_Form) (N := 6) hx hb hq iw_F hown hK hP (4 + i) (wK_at hi) rfl 0 (by decide) (gN_there hN) (fun _ h9 => h9) rfl d_ModeKeeper_due_23 ?_
        refine lv_if_eq (tgt := 78) hx hb d_ModeKeeper_due_26 (by decide) (fun c_3 => ?_) (fun c_3 => ?_)
        · refine lv_iinc (v := (nI (i + 1))) (lv' := [(4, .int (nI (i + 1))), (5, .ref (ad (4 + i))), (0, .ref (ad 0)), (1, .int tick), (2, .int fr), (3, .int x)]) hx hb d_ModeKeeper_due_78 hl (k := 5) rfl ((show nI i + Int32.ofInt 1 = nI i + 1 from rfl).trans (nI_1 i)) (by decide) rfl (fun ls hl => ?_)
          refine lv_goto (tgt := 5) hx hb d_ModeKeeper_due_81 (by decide) ?_
          exact ih (i + 1) x (by omega) (by rw [hres]; simp only [kDue, if_pos c_3]) ls (lv_sub hl [2, 3, 4, 5, 0] rfl)
        · refine lv_aload hx hb d_ModeKeeper_due_29 (lv_at hl 0 rfl) ?_
          refine va_getN (D := (dC, dI)) (ci := 1) (v := .int (F i 3)) (C := R_Form) (T := F_Form) (N := 6) hx hb hq iw_F hown hK hP (4 + i) (wK_at hi) rfl 3 (by decide) (gN_on hN) (fun _ h9 => h9) rfl d_ModeKeeper_due_31 ?_
          refine lv_if_eq (tgt := 78) hx hb d_ModeKeeper_due_34 (by decide) (fun c_4 => ?_) (fun c_4 => ?_)
          · refine lv_iinc (v := (nI (i + 1))) (lv' := [(4, .int (nI (i + 1))), (5, .ref (ad (4 + i))), (0, .ref (ad 0)), (1, .int tick), (2, .int fr), (3, .int x)]) hx hb d_ModeKeeper_due_78 hl (k := 5) rfl ((show nI i + Int32.ofInt 1 = nI i + 1 from rfl).trans (nI_1 i)) (by decide) rfl (fun ls hl => ?_)
            refine lv_goto (tgt := 5) hx hb d_ModeKeeper_due_81 (by decide) ?_
            exact ih (i + 1) x (by omega) (by rw [hres]; simp only [kDue, if_neg c_3, if_pos c_4]) ls (lv_sub hl [2, 3, 4, 5, 0] rfl)
          · refine lv_aload hx hb d_ModeKeeper_due_37 (lv_at hl 0 rfl) ?_
            refine va_getN (D := (dC, dI)) (ci := 1) (v := .int (F i 1)) (C := R_Form) (T := F_Form) (N := 6) hx hb hq iw_F hown hK hP (4 + i) (wK_at hi) rfl 1 (by decide) (gN_id hN) (fun _ h9 => h9) rfl d_ModeKeeper_due_39 ?_
            refine lv_iload_n hx hb d_ModeKeeper_due_42 rfl (lv_at hl 3 rfl) ?_
            refine lv_icmp_lt (tgt := 78) hx hb d_ModeKeeper_due_43 (by decide) (fun c_5 => ?_) (fun c_5 => ?_)
            · refine lv_iinc (v := (nI (i + 1))) (lv' := [(4, .int (nI (i + 1))), (5, .ref (ad (4 + i))), (0, .ref (ad 0)), (1, .int tick), (2, .int fr), (3, .int x)]) hx hb d_ModeKeeper_due_78 hl (k := 5) rfl ((show nI i + Int32.ofInt 1 = nI i + 1 from rfl).trans (nI_1 i)) (by decide) rfl (fun ls hl => ?_)
              refine lv_goto (tgt := 5) hx hb d_ModeKeeper_due_81 (by decide) ?_
              exact ih (i + 1) x (by omega) (by rw [hres]; simp only [kDue, if_neg c_3, if_neg c_4, if_pos c_5]) ls (lv_sub hl [2, 3, 4, 5, 0] rfl)
            · refine lv_aload hx hb d_ModeKeeper_due_46 (lv_at hl 0 rfl) ?_
              refine va_getN (D := (dC, dI)) (ci := 1) (v := .int (F i 2)) (C := R_Form) (T := F_Form) (N := 6) hx hb hq iw_F hown hK hP (4 + i) (wK_at hi) rfl 2 (by decide) (gN_every hN) (fun _ h9 => h9) rfl d_ModeKeeper_due_48 ?_
              refine lv_iload_n hx hb d_ModeKeeper_due_51 rfl (lv_at hl 2 rfl) ?_
              refine vp_callSi (va_Run.run (va_runS (As := [.int (F i 2), .int tick]) (rest := []) ⟨hx, hb, hml, hown, hq⟩ (c_ModeKeeper_divides l ((F i 2)) tick) ⟨callB_of 2 hq (gd m_ModeKeeper_divides) rfl rfl rfl (hq _ qk_10) (hq _ qk_29) (by decide +kernel) ⟨Nat.le_of_ble_eq_true rfl, Nat.le_of_ble_eq_true rfl⟩, (hq _ qk_30)⟩ ⟨g_blind0, fun _ _ _ => ⟨rfl, trivial⟩⟩ rfl rfl hl.1 rfl (lv_room (Nat.le_of_ble_eq_true rfl)) d_ModeKeeper_due_52 ⟨Nat.zero_le _, Nat.zero_le _⟩)) (fun r hr => ?_)
              subst hr
              refine lv_if_eq (tgt := 78) hx hb d_ModeKeeper_due_55 (by decide) (fun c_6 => ?_) (fun c_6 => ?_)
              · refine lv_iinc (v := (nI (i + 1))) (lv' := [(4, .int (nI (i + 1))), (5, .ref (ad (4 + i))), (0, .ref (ad 0)), (1, .int tick), (2, .int fr), (3, .int x)]) hx hb d_ModeKeeper_due_78 hl (k := 5) rfl ((show nI i + Int32.ofInt 1 = nI i + 1 from rfl).trans (nI_1 i)) (by decide) rfl (fun ls hl => ?_)
                refine lv_goto (tgt := 5) hx hb d_ModeKeeper_due_81 (by decide) ?_
                exact ih (i + 1) x (by omega) (by rw [hres]; simp only [kDue, if_neg c_3, if_neg c_4, if_neg c_5, if_pos c_6]) ls (lv_sub hl [2, 3, 4, 5, 0] rfl)
              · refine lv_iload_n hx hb d_ModeKeeper_due_58 rfl (lv_at hl 4 rfl) ?_
                refine lv_iconst (v := (-1)) hx hb d_ModeKeeper_due_59 (by decide) ?_
                refine lv_icmp_eq (tgt := 72) hx hb d_ModeKeeper_due_60 (by decide) (fun c_7 => ?_) (fun c_7 => ?_)
                · refine lv_aload hx hb d_ModeKeeper_due_72 (lv_at hl 0 rfl) ?_
                  refine va_getN (D := (dC, dI)) (ci := 1) (v := .int (F i 1)) (C := R_Form) (T := F_Form) (N := 6) hx hb hq iw_F hown hK hP (4 + i) (wK_at hi) rfl 1 (by decide) (gN_id hN) (fun _ h9 => h9) rfl d_ModeKeeper_due_74 ?_
                  refine lv_istore_n (lv' := [(3, .int (F i 1)), (5, .ref (ad (4 + i))), (0, .ref (ad 0)), (1, .int tick), (2, .int fr), (4, .int (nI i))]) hx hb d_ModeKeeper_due_77 rfl hl (by decide) rfl (fun ls hl => ?_)
                  refine lv_iinc (v := (nI (i + 1))) (lv' := [(4, .int (nI (i + 1))), (3, .int (F i 1)), (5, .ref (ad (4 + i))), (0, .ref (ad 0)), (1, .int tick), (2, .int fr)]) hx hb d_ModeKeeper_due_78 hl (k := 5) rfl ((show nI i + Int32.ofInt 1 = nI i + 1 from rfl).trans (nI_1 i)) (by decide) rfl (fun ls hl => ?_)
                  refine lv_goto (tgt := 5) hx hb d_ModeKeeper_due_81 (by decide) ?_
                  exact ih (i + 1) ((F i 1)) (by omega) (by rw [hres]; simp only [kDue, if_neg c_3, if_neg c_4, if_neg c_5, if_neg c_6, if_pos c_7]) ls (lv_sub hl [3, 4, 5, 1, 0] rfl)
                · refine lv_aload hx hb d_ModeKeeper_due_63 (lv_at hl 0 rfl) ?_
                  refine va_getN (D := (dC, dI)) (ci := 1) (v := .int (F i 1)) (C := R_Form) (T := F_Form) (N := 6) hx hb hq iw_F hown hK hP (4 + i) (wK_at hi) rfl 1 (by decide) (gN_id hN) (fun _ h9 => h9) rfl d_ModeKeeper_due_65 ?_
                  refine lv_iload_n hx hb d_ModeKeeper_due_68 rfl (lv_at hl 4 rfl) ?_
                  refine lv_icmp_ge (tgt := 78) hx hb d_ModeKeeper_due_69 (by decide) (fun c_8 => ?_) (fun c_8 => ?_)
                  · refine lv_iinc (v := (nI (i + 1))) (lv' := [(4, .int (nI (i + 1))), (5, .ref (ad (4 + i))), (0, .ref (ad 0)), (1, .int tick), (2, .int fr), (3, .int x)]) hx hb d_ModeKeeper_due_78 hl (k := 5) rfl ((show nI i + Int32.ofInt 1 = nI i + 1 from rfl).trans (nI_1 i)) (by decide) rfl (fun ls hl => ?_)
                    refine lv_goto (tgt := 5) hx hb d_ModeKeeper_due_81 (by decide) ?_
                    exact ih (i + 1) x (by omega) (by rw [hres]; simp only [kDue, if_neg c_3, if_neg c_4, if_neg c_5, if_neg c_6, if_neg c_7, if_pos c_8]) ls (lv_sub hl [2, 3, 4, 5, 0] rfl)
                  · refine lv_aload hx hb d_ModeKeeper_due_72 (lv_at hl 0 rfl) ?_
                    refine va_getN (D := (dC, dI)) (ci := 1) (v := .int (F i 1)) (C := R_Form) (T := F_Form) (N := 6) hx hb hq iw_F hown hK hP (4 + i) (wK_at hi) rfl 1 (by decide) (gN_id hN) (fun _ h9 => h9) rfl d_ModeKeeper_due_74 ?_
                    refine lv_istore_n (lv' := [(3, .int (F i 1)), (5, .ref (ad (4 + i))), (0, .ref (ad 0)), (1, .int tick), (2, .int fr), (4, .int (nI i))]) hx hb d_ModeKeeper_due_77 rfl hl (by decide) rfl (fun ls hl => ?_)
                    refine lv_iinc (v := (nI (i + 1))) (lv' := [(4, .int (nI (i + 1))), (3, .int (F i 1)), (5, .ref (ad (4 + i))), (0, .ref (ad 0)), (1, .int tick), (2, .int fr)]) hx hb d_ModeKeeper_due_78 hl (k := 5) rfl ((show nI i + Int32.ofInt 1 = nI i + 1 from rfl).trans (nI_1 i)) (by decide) rfl (fun ls hl => ?_)
                    refine lv_goto (tgt := 5) hx hb d_ModeKeeper_due_81 (by decide) ?_
                    exact ih (i + 1) ((F i 1)) (by omega) (by rw [hres]; simp only [kDue, if_neg c_3, if_neg c_4, if_neg c_5, if_neg c_6, if_neg c_7, if_neg c_8]) ls (lv_sub hl [3, 4, 5, 1, 0] rfl)
  refine lv_iconst (v := (-1)) hx hb d_ModeKeeper_due_0 (by decide) ?_
  refine lv_istore_n (lv' := [(3, .int (-1)), (0, .ref (ad 0)), (1, .int tick), (2, .int fr)]) hx hb d_ModeKeeper_due_1 rfl hl (by decide) rfl (fun ls hl => ?_)
  refine lv_iconst (v := 0) hx hb d_ModeKeeper_due_2 (by decide) ?_
  refine lv_istore (lv' := [(4, .int 0), (3, .int (-1)), (0, .ref (ad 0)), (1, .int tick), (2, .int fr)]) hx hb d_ModeKeeper_due_3 hl (by decide) rfl (fun ls hl => ?_)
  exact key 8 0 (-1) rfl rfl ls (lv_sub hl [2, 3, 4, 1, 0] rfl)
set_option maxHeartbeats 4000000 in
set_option maxRecDepth 100000 in
theorem c_ModeKeeper_parameter (l : Launch) (dC : Nat → ClassId) (dI : Nat → Nat → Nat) (ad : Nat → Nat) (sz : Nat) (cI cF : ClassId) (k act txt : Nat → Int32) (F pr : Nat → Nat → Int32) (id j : Int32) (hct : ∀ i, i < 8 → (F i 4).toInt ≤ 8) : Met l y_ModeKeeper_parameter w_ModeKeeper_parameter ({ frames := 1, cells := 0, slots := 0, locals := 23 }) (va_Pc [.ref (ad 0), .int id, .int j] (gP (dC, dI) classes (tyK cI cF) (wK ad cI cF k act txt F pr) sz)) (vp_Si (fun r => r = (kPaR F pr id j))) 0 0 (fun _ => False) := by
  refine Met.ofW (cc := b_ModeKeeper_parameter) (maxL := 4) (ret := (some .int)) (by decide) rfl ?_
  intro p e s m args below meth c s₁ B hml hv
  obtain ⟨rfl, hsz, hP, hK, hD0, hN⟩ := hv
  have hx := B.exec
  have hb := B.bytes
  have hrt := B.returns
  have hq : ∀ w ∈ wAll, w.before ([.ref (ad 0), .int id, .int j] : List Value).toArray s = true := fun w h => atoms_spec (ws := w_ModeKeeper_parameter) B.pre w (List.mem_cons_of_mem _ h)
  have hown : s.vm.findClass R_ModeKeeper = some m.cls := findClass_of_methodNamed B.named
  have hlocks := B.notSynchronized
  subst hsz
  have hD := hD0
  have hl := lv_entry ([.ref (ad 0), .int id, .int j]) (n := 4) (Nat.le_of_ble_eq_true rfl)
  rw [lg_entry_eq]
  generalize (lg_sl ([.ref (ad 0), .int id, .int j]) ++ List.replicate (4 - (lg_sl ([.ref (ad 0), .int id, .int j])).length) Slot.unset).toArray = ls at hl ⊢
  have hl : lv_has ls 4 [(0, .ref (ad 0)), (1, .int id), (2, .int j)] := hl
  refine lv_aload_n hx hb d_ModeKeeper_parameter_0 rfl (lv_at hl 0 rfl) ?_
  refine lv_iload_n hx hb d_ModeKeeper_parameter_1 rfl (lv_at hl 1 rfl) ?_
  refine va_csq (va_Run.run (va_runV (As := [.int id]) (rest := []) ⟨hx, hb, hml, hown, hq⟩ (c_ModeKeeper_find l dC dI ad s.heap.size cI cF k act txt F pr id) ⟨callB_of 1 hq (gd m_ModeKeeper_find) rfl rfl rfl (hq _ qk_10) (hq _ qk_11) (by decide +kernel) ⟨Nat.le_of_ble_eq_true rfl, Nat.le_of_ble_eq_true rfl⟩, (hq _ qk_12), (hq _ qk_13)⟩ ⟨g_blind, va_recv hK hP (ci := 0) (q0 := 0) rfl rfl, g_pre hP hK hD hN⟩ rfl rfl hl.1 rfl (lv_room (Nat.le_of_ble_eq_true rfl)) d_ModeKeeper_parameter_2 ⟨Nat.zero_le _, Nat.zero_le _⟩)) (fun r hr => ?_)
  cases hf_1 : kFind F id 8 0 with
  | none =>
    obtain rfl : r = none := by rw [hr, hf_1]; rfl
    refine lv_astore_nN (lv' := [(3, .null), (0, .ref (ad 0)), (1, .int id), (2, .int j)]) hx hb d_ModeKeeper_parameter_5 rfl hl (by decide) rfl (fun ls hl => ?_)
    refine lv_aload_nN hx hb d_ModeKeeper_parameter_6 rfl (lv_at hl 0 rfl) ?_
    refine lv_ifnonnullN hx hb d_ModeKeeper_parameter_7 ?_
    refine lv_iconst (v := (-1)) hx hb d_ModeKeeper_parameter_10 (by decide) ?_
    exact W.iret (v := (-1)) hx hb hrt (fun t ht hW => ⟨(-1), rfl, (by simp only [kPaR, hf_1] <;> rfl), ht⟩) (fun _ h => by cases h) d_ModeKeeper_parameter_11
  | some i_2 =>
    obtain rfl : r = some (ad (4 + i_2)) := by rw [hr, hf_1]; rfl
    have hi : i_2 < 8 := by have h8 := (kFind_some hf_1).2.1; omega
    refine lv_astore_n (lv' := [(3, .ref (ad (4 + i_2))), (0, .ref (ad 0)), (1, .int id), (2, .int j)]) hx hb d_ModeKeeper_parameter_5 rfl hl (by decide) rfl (fun ls hl => ?_)
    refine lv_aload_n hx hb d_ModeKeeper_parameter_6 rfl (lv_at hl 0 rfl) ?_
    refine lv_ifnonnull (tgt := 12) hx hb d_ModeKeeper_parameter_7 (by decide) ?_
    refine lv_iload_n hx hb d_ModeKeeper_parameter_12 rfl (lv_at hl 3 rfl) ?_
    refine lv_iconst (v := (-1)) hx hb d_ModeKeeper_parameter_13 (by decide) ?_
    refine lv_icmp_ne (tgt := 22) hx hb d_ModeKeeper_parameter_14 (by decide) (fun c_3 => ?_) (fun c_3 => ?_)
    · refine lv_iload_n hx hb d_ModeKeeper_parameter_22 rfl (lv_at hl 3 rfl) ?_
      refine lv_if_lt (tgt := 34) hx hb d_ModeKeeper_parameter_23 (by decide) (fun c_4 => ?_) (fun c_4 => ?_)
      · refine lv_iconst (v := (-1)) hx hb d_ModeKeeper_parameter_34 (by decide) ?_
        exact W.iret (v := (-1)) hx hb hrt (fun t ht hW => ⟨(-1), rfl, (by simp only [kPaR, hf_1, if_neg c_3, if_pos c_4] <;> rfl), ht⟩) (fun _ h => by cases h) d_ModeKeeper_parameter_35
      · refine lv_iload_n hx hb d_ModeKeeper_parameter_26 rfl (lv_at hl 3 rfl) ?_
        refine lv_aload_n hx hb d_ModeKeeper_parameter_27 rfl (lv_at hl 0 rfl) ?_
        refine va_getN (D := (dC, dI)) (ci := 1) (v := .int (F i_2 4)) (C := R_Form) (T := F_Form) (N := 6) hx hb hq iw_F hown hK hP (4 + i_2) (wK_at hi) rfl 4 (by decide) (gN_count hN) (fun _ h9 => h9) rfl d_ModeKeeper_parameter_28 ?_
        refine lv_icmp_lt (tgt := 36) hx hb d_ModeKeeper_parameter_31 (by decide) (fun c_5 => ?_) (fun c_5 => ?_)
        · refine lv_aload_n hx hb d_ModeKeeper_parameter_36 rfl (lv_at hl 0 rfl) ?_
          refine va_getN (D := (dC, dI)) (ci := 1) (v := .ref (ad (12 + i_2))) (C := R_Form) (T := F_Form) (N := 6) hx hb hq iw_F hown hK hP (4 + i_2) (wK_at hi) rfl 5 (by decide) (gN_parameters hN) (fun _ h9 => h9) rfl d_ModeKeeper_parameter_37 ?_
          refine lv_iload_n hx hb d_ModeKeeper_parameter_40 rfl (lv_at hl 3 rfl) ?_
          refine va_iald (D := (dC, dI)) hx hb hK hP (12 + i_2) 0 (wK_pat hi) rfl (kP_in (hct _ hi) c_4 c_5) d_ModeKeeper_parameter_41 ?_
          exact W.iret (v := ((pr i_2) j.toNatClampNeg)) hx hb hrt (fun t ht hW => ⟨((pr i_2) j.toNatClampNeg), rfl, (by simp only [kPaR, hf_1, if_neg c_3, if_neg c_4, if_pos c_5] <;> rfl), ht⟩) (fun _ h => by cases h) d_ModeKeeper_parameter_42
        · refine lv_iconst (v := (-1)) hx hb d_ModeKeeper_parameter_34 (by decide) ?_
          exact W.iret (v := (-1)) hx hb hrt (fun t ht hW => ⟨(-1), rfl, (by simp only [kPaR, hf_1, if_neg c_3, if_neg c_4, if_neg c_5] <;> rfl), ht⟩) (fun _ h => by cases h) d_ModeKeeper_parameter_35
    · refine lv_aload_n hx hb d_ModeKeeper_parameter_17 rfl (lv_at hl 0 rfl) ?_
      refine va_getN (D := (dC, dI)) (ci := 1) (v := .int (F i_2 4)) (C := R_Form) (T := F_Form) (N := 6) hx hb hq iw_F hown hK hP (4 + i_2) (wK_at hi) rfl 4 (by decide) (gN_count hN) (fun _ h9 => h9) rfl d_ModeKeeper_parameter_18 ?_
      exact W.iret (v := (F i_2 4)) hx hb hrt (fun t ht hW => ⟨(F i_2 4), rfl, (by simp only [kPaR, hf_1, if_pos c_3] <;> rfl), ht⟩) (fun _ h => by cases h) d_ModeKeeper_parameter_21
set_option maxHeartbeats 4000000 in
set_option maxRecDepth 100000 in
theorem c_ModeKeeper_value (l : Launch) (dC : Nat → ClassId) (dI : Nat → Nat → Nat) (ad : Nat → Nat) (sz : Nat) (cI cF : ClassId) (k act txt : Nat → Int32) (F pr : Nat → Nat → Int32) (x : Int32) : Met l y_ModeKeeper_value w_ModeKeeper_value ({ frames := 1, cells := 0, slots := 0, locals := 20 }) (va_Pc [.ref (ad 0), .int x] (gP (dC, dI) classes (tyK cI cF) (wK ad cI cF k act txt F pr) sz)) (vp_Si (fun r => r = (kVaR k act x))) 0 0 (fun _ => False) := by
  refine Met.ofW (cc := b_ModeKeeper_value) (maxL := 2) (ret := (some .int)) (by decide) rfl ?_
  intro p e s m args below meth c s₁ B hml hv
  obtain ⟨rfl, hsz, hP, hK, hD0, hN⟩ := hv
  have hx := B.exec
  have hb := B.bytes
  have hrt := B.returns
  have hq : ∀ w ∈ wAll, w.before ([.ref (ad 0), .int x] : List Value).toArray s = true := fun w h => atoms_spec (ws := w_ModeKeeper_value) B.pre w (List.mem_cons_of_mem _ h)
  have hown : s.vm.findClass R_ModeKeeper = some m.cls := findClass_of_methodNamed B.named
  have hlocks := B.notSynchronized
  subst hsz
  have hD := hD0
  have hl := lv_entry ([.ref (ad 0), .int x]) (n := 2) (Nat.le_of_ble_eq_true rfl)
  rw [lg_entry_eq]
  generalize (lg_sl ([.ref (ad 0), .int x]) ++ List.replicate (2 - (lg_sl ([.ref (ad 0), .int x])).length) Slot.unset).toArray = ls at hl ⊢
  have hl : lv_has ls 2 [(0, .ref (ad 0)), (1, .int x)] := hl
  refine lv_iload_n hx hb d_ModeKeeper_value_0 rfl (lv_at hl 1 rfl) ?_
  refine vp_callSi (va_Run.run (va_runS (As := [.int x]) (rest := []) ⟨hx, hb, hml, hown, hq⟩ (c_ModeKeeper_isActuator l x) ⟨callB_of 1 hq (gd m_ModeKeeper_isActuator) rfl rfl rfl (hq _ qk_10) (hq _ qk_16) (by decide +kernel) ⟨Nat.le_of_ble_eq_true rfl, Nat.le_of_ble_eq_true rfl⟩, (hq _ qk_17)⟩ ⟨g_blind0, fun _ _ _ => ⟨rfl, trivial⟩⟩ rfl rfl hl.1 rfl (lv_room (Nat.le_of_ble_eq_true rfl)) d_ModeKeeper_value_1 ⟨Nat.zero_le _, Nat.zero_le _⟩)) (fun r hr => ?_)
  subst hr
  refine lv_if_eq (tgt := 14) hx hb d_ModeKeeper_value_4 (by decide) (fun c_1 => ?_) (fun c_1 => ?_)
  · refine lv_iload_n hx hb d_ModeKeeper_value_14 rfl (lv_at hl 1 rfl) ?_
    by_cases h_2 : x = 8
    · refine lv_tableIn (tgt := 44) hx hb d_ModeKeeper_value_15 (by rw [h_2]; decide) (by rw [h_2]; decide) (by rw [h_2]; rfl) (by decide) ?_
      refine lv_aload_n hx hb d_ModeKeeper_value_44 rfl (lv_at hl 0 rfl) ?_
      refine va_get (D := (dC, dI)) (ci := 0) (v := .int (k 1)) (C := R_ModeKeeper) (T := F_ModeKeeper) (N := 9) hx hb hq iw_K hown hK hP 0 rfl rfl 1 (by decide) (hq _ qk_1) (fun _ h9 => h9) rfl d_ModeKeeper_value_45 ?_
      exact W.iret (v := (k 1)) hx hb hrt (fun t ht hW => ⟨(k 1), rfl, (by simp only [kVaR, if_pos c_1, if_pos h_2] <;> rfl), ht⟩) (fun _ h => by cases h) d_ModeKeeper_value_48
    · by_cases h_3 : x = 9
      · refine lv_tableIn (tgt := 49) hx hb d_ModeKeeper_value_15 (by rw [h_3]; decide) (by rw [h_3]; decide) (by rw [h_3]; rfl) (by decide) ?_
        refine lv_aload_n hx hb d_ModeKeeper_value_49 rfl (lv_at hl 0 rfl) ?_
        refine va_get (D := (dC, dI)) (ci := 0) (v := .int (k 3)) (C := R_ModeKeeper) (T := F_ModeKeeper) (N := 9) hx hb hq iw_K hown hK hP 0 rfl rfl 3 (by decide) (hq _ qk_21) (fun _ h9 => h9) rfl d_ModeKeeper_value_50 ?_
        refine lv_if_eq (tgt := 63) hx hb d_ModeKeeper_value_53 (by decide) (fun c_4 => ?_) (fun c_4 => ?_)
        · refine lv_iconst (v := (-1)) hx hb d_ModeKeeper_value_63 (by decide) ?_
          exact W.iret (v := (-1)) hx hb hrt (fun t ht hW => ⟨(-1), rfl, (by simp only [kVaR, if_pos c_1, if_neg h_2, if_pos h_3, if_pos c_4] <;> rfl), ht⟩) (fun _ h => by cases h) d_ModeKeeper_value_64
        · refine lv_aload_n hx hb d_ModeKeeper_value_56 rfl (lv_at hl 0 rfl) ?_
          refine va_get (D := (dC, dI)) (ci := 0) (v := .int (k 4)) (C := R_ModeKeeper) (T := F_ModeKeeper) (N := 9) hx hb hq iw_K hown hK hP 0 rfl rfl 4 (by decide) (hq _ qk_22) (fun _ h9 => h9) rfl d_ModeKeeper_value_57 ?_
          refine lv_goto (tgt := 64) hx hb d_ModeKeeper_value_60 (by decide) ?_
          exact W.iret (v := (k 4)) hx hb hrt (fun t ht hW => ⟨(k 4), rfl, (by simp only [kVaR, if_pos c_1, if_neg h_2, if_pos h_3, if_neg c_4] <;> rfl), ht⟩) (fun _ h => by cases h) d_ModeKeeper_value_64
      · by_cases h_5 : x = 10
        · refine lv_tableIn (tgt := 65) hx hb d_ModeKeeper_value_15 (by rw [h_5]; decide) (by rw [h_5]; decide) (by rw [h_5]; rfl) (by decide) ?_
          refine lv_aload_n hx hb d_ModeKeeper_value_65 rfl (lv_at hl 0 rfl) ?_
          refine va_get (D := (dC, dI)) (ci := 0) (v := .int (k 2)) (C := R_ModeKeeper) (T := F_ModeKeeper) (N := 9) hx hb hq iw_K hown hK hP 0 rfl rfl 2 (by decide) (hq _ qk_2) (fun _ h9 => h9) rfl d_ModeKeeper_value_66 ?_
          exact W.iret (v := (k 2)) hx hb hrt (fun t ht hW => ⟨(k 2), rfl, (by simp only [kVaR, if_pos c_1, if_neg h_2, if_neg h_3, if_pos h_5] <;> rfl), ht⟩) (fun _ h => by cases h) d_ModeKeeper_value_69
        · by_cases h_6 : x = 11
          · refine lv_tableIn (tgt := 70) hx hb d_ModeKeeper_value_15 (by rw [h_6]; decide) (by rw [h_6]; decide) (by rw [h_6]; rfl) (by decide) ?_
            refine lv_aload_n hx hb d_ModeKeeper_value_70 rfl (lv_at hl 0 rfl) ?_
            refine va_get (D := (dC, dI)) (ci := 0) (v := .int (k 8)) (C := R_ModeKeeper) (T := F_ModeKeeper) (N := 9) hx hb hq iw_K hown hK hP 0 rfl rfl 8 (by decide) (hq _ qk_14) (fun _ h9 => h9) rfl d_ModeKeeper_value_71 ?_
            exact W.iret (v := (k 8)) hx hb hrt (fun t ht hW => ⟨(k 8), rfl, (by simp only [kVaR, if_pos c_1, if_neg h_2, if_neg h_3, if_neg h_5, if_pos h_6] <;> rfl), ht⟩) (fun _ h => by cases h) d_ModeKeeper_value_74
          · refine lv_tableOut (tgt := 75) hx hb d_ModeKeeper_value_15 (by have zh_2 := lv_neT h_2 (a := 8) (by decide); have zh_3 := lv_neT h_3 (a := 9) (by decide); have zh_5 := lv_neT h_5 (a := 10) (by decide); have zh_6 := lv_neT h_6 (a := 11) (by decide); omega) (by decide) ?_
            refine lv_iconst (v := 0) hx hb d_ModeKeeper_value_75 (by decide) ?_
            exact W.iret (v := 0) hx hb hrt (fun t ht hW => ⟨0, rfl, (by simp only [kVaR, if_pos c_1, if_neg h_2, if_neg h_3, if_neg h_5, if_neg h_6] <;> rfl), ht⟩) (fun _ h => by cases h) d_ModeKeeper_value_76
  · refine lv_aload_n hx hb d_ModeKeeper_value_7 rfl (lv_at hl 0 rfl) ?_
    refine va_get (D := (dC, dI)) (ci := 0) (v := .ref (ad 1)) (C := R_ModeKeeper) (T := F_ModeKeeper) (N := 9) hx hb hq iw_K hown hK hP 0 rfl rfl 0 (by decide) (hq _ qk_4) (fun _ h9 => h9) rfl d_ModeKeeper_value_8 ?_
    refine lv_iload_n hx hb d_ModeKeeper_value_11 rfl (lv_at hl 1 rfl) ?_
    refine va_iald (D := (dC, dI)) hx hb hK hP 1 0 rfl rfl (kA_in c_1) d_ModeKeeper_value_12 ?_
    exact W.iret (v := (act x.toNatClampNeg)) hx hb hrt (fun t ht hW => ⟨(act x.toNatClampNeg), rfl, (by simp only [kVaR, if_neg c_1] <;> rfl), ht⟩) (fun _ h => by cases h) d_ModeKeeper_value_13
set_option maxHeartbeats 4000000 in
set_option maxRecDepth 100000 in
theorem c_ModeKeeper_about (l : Launch) (dC : Nat → ClassId) (dI : Nat → Nat → Nat) (ad : Nat → Nat) (sz : Nat) (cI cF : ClassId) (k act txt : Nat → Int32) (F pr : Nat → Nat → Int32) (id x : Int32) : Met l y_ModeKeeper_about w_ModeKeeper_about ({ frames := 1, cells := 0, slots := 0, locals := 23 }) (va_Pc [.ref (ad 0), .int id, .int x] (gP (dC, dI) classes (tyK cI cF) (wK ad cI cF k act txt F pr) sz)) (vp_Si (fun r => r = (kAbR F id x))) 0 0 (fun _ => False) := by
  refine Met.ofW (cc := b_ModeKeeper_about) (maxL := 4) (ret := (some .int)) (by decide) rfl ?_
  intro p e s m args below meth c s₁ B hml hv
  obtain ⟨rfl, hsz, hP, hK, hD0, hN⟩ := hv
  have hx := B.exec
  have hb := B.bytes
  have hrt := B.returns
  have hq : ∀ w ∈ wAll, w.before ([.ref (ad 0), .int id, .int x] : List Value).toArray s = true := fun w h => atoms_spec (ws := w_ModeKeeper_about) B.pre w (List.mem_cons_of_mem _ h)
  have hown : s.vm.findClass R_ModeKeeper = some m.cls := findClass_of_methodNamed B.named
  have hlocks := B.notSynchronized
  subst hsz
  have hD := hD0
  have hl := lv_entry ([.ref (ad 0), .int id, .int x]) (n := 4) (Nat.le_of_ble_eq_true rfl)
  rw [lg_entry_eq]
  generalize (lg_sl ([.ref (ad 0), .int id, .int x]) ++ List.replicate (4 - (lg_sl ([.ref (ad 0), .int id, .int x])).length) Slot.unset).toArray = ls at hl ⊢
  have hl : lv_has ls 4 [(0, .ref (ad 0)), (1, .int id), (2, .int x)] := hl
  refine lv_aload_n hx hb d_ModeKeeper_about_0 rfl (lv_at hl 0 rfl) ?_
  refine lv_iload_n hx hb d_ModeKeeper_about_1 rfl (lv_at hl 1 rfl) ?_
  refine va_csq (va_Run.run (va_runV (As := [.int id]) (rest := []) ⟨hx, hb, hml, hown, hq⟩ (c_ModeKeeper_find l dC dI ad s.heap.size cI cF k act txt F pr id) ⟨callB_of 1 hq (gd m_ModeKeeper_find) rfl rfl rfl (hq _ qk_10) (hq _ qk_11) (by decide +kernel) ⟨Nat.le_of_ble_eq_true rfl, Nat.le_of_ble_eq_true rfl⟩, (hq _ qk_12), (hq _ qk_13)⟩ ⟨g_blind, va_recv hK hP (ci := 0) (q0 := 0) rfl rfl, g_pre hP hK hD hN⟩ rfl rfl hl.1 rfl (lv_room (Nat.le_of_ble_eq_true rfl)) d_ModeKeeper_about_2 ⟨Nat.zero_le _, Nat.zero_le _⟩)) (fun r hr => ?_)
  cases hf_1 : kFind F id 8 0 with
  | none =>
    obtain rfl : r = none := by rw [hr, hf_1]; rfl
    refine lv_astore_nN (lv' := [(3, .null), (0, .ref (ad 0)), (1, .int id), (2, .int x)]) hx hb d_ModeKeeper_about_5 rfl hl (by decide) rfl (fun ls hl => ?_)
    refine lv_aload_nN hx hb d_ModeKeeper_about_6 rfl (lv_at hl 0 rfl) ?_
    refine lv_ifnonnullN hx hb d_ModeKeeper_about_7 ?_
    refine lv_iconst (v := (-1)) hx hb d_ModeKeeper_about_10 (by decide) ?_
    exact W.iret (v := (-1)) hx hb hrt (fun t ht hW => ⟨(-1), rfl, (by simp only [kAbR, hf_1] <;> rfl), ht⟩) (fun _ h => by cases h) d_ModeKeeper_about_11
  | some i_2 =>
    obtain rfl : r = some (ad (4 + i_2)) := by rw [hr, hf_1]; rfl
    have hi : i_2 < 8 := by have h8 := (kFind_some hf_1).2.1; omega
    refine lv_astore_n (lv' := [(3, .ref (ad (4 + i_2))), (0, .ref (ad 0)), (1, .int id), (2, .int x)]) hx hb d_ModeKeeper_about_5 rfl hl (by decide) rfl (fun ls hl => ?_)
    refine lv_aload_n hx hb d_ModeKeeper_about_6 rfl (lv_at hl 0 rfl) ?_
    refine lv_ifnonnull (tgt := 12) hx hb d_ModeKeeper_about_7 (by decide) ?_
    refine lv_iload_n hx hb d_ModeKeeper_about_12 rfl (lv_at hl 3 rfl) ?_
    by_cases h_3 : x = 0
    · refine lv_lookup (tgt := 40) (off := 27) hx hb d_ModeKeeper_about_13 (by decide) (by rw [h_3]; rfl) (by decide) ?_
      refine lv_aload_n hx hb d_ModeKeeper_about_40 rfl (lv_at hl 0 rfl) ?_
      refine va_getN (D := (dC, dI)) (ci := 1) (v := .int (F i_2 2)) (C := R_Form) (T := F_Form) (N := 6) hx hb hq iw_F hown hK hP (4 + i_2) (wK_at hi) rfl 2 (by decide) (gN_every hN) (fun _ h9 => h9) rfl d_ModeKeeper_about_41 ?_
      exact W.iret (v := (F i_2 2)) hx hb hrt (fun t ht hW => ⟨(F i_2 2), rfl, (by simp only [kAbR, hf_1, if_pos h_3] <;> rfl), ht⟩) (fun _ h => by cases h) d_ModeKeeper_about_44
    · by_cases h_4 : x = 1
      · refine lv_lookup (tgt := 45) (off := 32) hx hb d_ModeKeeper_about_13 (by decide) (by rw [h_4]; rfl) (by decide) ?_
        refine lv_aload_n hx hb d_ModeKeeper_about_45 rfl (lv_at hl 0 rfl) ?_
        refine va_getN (D := (dC, dI)) (ci := 1) (v := .int (F i_2 3)) (C := R_Form) (T := F_Form) (N := 6) hx hb hq iw_F hown hK hP (4 + i_2) (wK_at hi) rfl 3 (by decide) (gN_on hN) (fun _ h9 => h9) rfl d_ModeKeeper_about_46 ?_
        refine lv_if_eq (tgt := 56) hx hb d_ModeKeeper_about_49 (by decide) (fun c_5 => ?_) (fun c_5 => ?_)
        · refine lv_iconst (v := 0) hx hb d_ModeKeeper_about_56 (by decide) ?_
          exact W.iret (v := 0) hx hb hrt (fun t ht hW => ⟨0, rfl, (by simp only [kAbR, hf_1, if_neg h_3, if_pos h_4, if_pos c_5] <;> rfl), ht⟩) (fun _ h => by cases h) d_ModeKeeper_about_57
        · refine lv_iconst (v := 1) hx hb d_ModeKeeper_about_52 (by decide) ?_
          refine lv_goto (tgt := 57) hx hb d_ModeKeeper_about_53 (by decide) ?_
          exact W.iret (v := 1) hx hb hrt (fun t ht hW => ⟨1, rfl, (by simp only [kAbR, hf_1, if_neg h_3, if_pos h_4, if_neg c_5] <;> rfl), ht⟩) (fun _ h => by cases h) d_ModeKeeper_about_57
      · refine lv_lookup (tgt := 58) (off := 45) hx hb d_ModeKeeper_about_13 (by decide) (by show Op.lookupswitch.offset _ _ _ = _; rw [lv_osw h_3 (by decide)]; show Op.lookupswitch.offset _ _ _ = _; rw [lv_osw h_4 (by decide)]; rfl) (by decide) ?_
        refine lv_iconst (v := (-1)) hx hb d_ModeKeeper_about_58 (by decide) ?_
        exact W.iret (v := (-1)) hx hb hrt (fun t ht hW => ⟨(-1), rfl, (by simp only [kAbR, hf_1, if_neg h_3, if_neg h_4] <;> rfl), ht⟩) (fun _ h => by cases h) d_ModeKeeper_about_59
end
section
set_option maxHeartbeats 8000000 in
set_option maxRecDepth 100000 in
theorem c_Form_init (l : Launch) (dC : Nat → ClassId) (dI : Nat → Nat → Nat) (h0 : Nat) (sz : Nat) (cI : ClassId) : Met l y_Form_init w_Form_init ({ frames := 1, cells := 1, slots := 8, locals := 12 }) (va_Pc [.ref h0] (gP (dC, dI) classes [(cI, .int)] [(h0, .inr (1, [.int 0, .int 0, .int 0, .int 0, .int 0, .null]))] sz)) (va_Qv (fun (_ : Nat) => True) (fun q t => gB (dC, dI) classes (va_A [(h0, .inr (1, [.int 0, .int 0, .int 0, .int 0, .int 0, .null]))] sz) [(h0, .inr (1, [.int 0, .int 0, .int 1, .int 0, .int 0, .ref q])), (q, .inl (cI, 8, .inl (fun _ => 0)))] t) (va_A [(h0, .inr (1, [.int 0, .int 0, .int 0, .int 0, .int 0, .null]))] sz)) 1 8 (va_A [(h0, .inr (1, [.int 0, .int 0, .int 0, .int 0, .int 0, .null]))] sz) := by
  refine Met.ofW (cc := b_Form_init) (maxL := 1) (ret := none) (by decide) rfl ?_
  intro p e s m args below meth c s₁ B hml hv
  obtain ⟨rfl, hsz, hP, hK, hD0, hN⟩ := hv
  have hx := B.exec
  have hb := B.bytes
  have hrt := B.returns
  have hq : ∀ w ∈ wAll, w.before ([.ref h0] : List Value).toArray s = true := fun w h => atoms_spec (ws := w_Form_init) B.pre w (List.mem_cons_of_mem _ h)
  have hown : s.vm.findClass R_Form = some m.cls := findClass_of_methodNamed B.named
  have hlocks := B.notSynchronized
  have hin : meth.name = "<init>" := (name_of_methodNamed B.named B.method).1
  subst hsz
  have hD := hD0.self (sz := s.heap.size)
  generalize hAe : va_A [(h0, .inr (1, [.int 0, .int 0, .int 0, .int 0, .int 0, .null]))] s.heap.size = A at hD ⊢
  have hA : ∀ q : Nat, s.heap.size ≤ q → A q := fun q h => by rw [← hAe]; exact Or.inr h
  have hS : va_S A s.heap s.heap [] := va_S.rf
  have hP : va_P (dC, dI) classes [(h0, .inr (1, [.int 0, .int 0, .int 0, .int 0, .int 0, .null]))] s.heap := hP
  have hl := lv_entry ([.ref h0]) (n := 1) (Nat.le_of_ble_eq_true rfl)
  rw [lg_entry_eq]
  generalize (lg_sl ([.ref h0]) ++ List.replicate (1 - (lg_sl ([.ref h0])).length) Slot.unset).toArray = ls at hl ⊢
  have hl : lv_has ls 1 [(0, .ref h0)] := hl
  refine lv_aload_n hx hb d_Form_init_0 rfl (lv_at hl 0 rfl) ?_
  refine W.objInit hx hb hown (hq _ qk_31) (hq _ qk_32) (hq _ qk_33) rfl (by rw [hml]; exact hl.1) rfl d_Form_init_1 (Nat.le_of_ble_eq_true rfl) (Nat.le_of_ble_eq_true rfl) ?_
  refine W.eq (g2 := F0 m 4 ls []) rfl ?_
  refine lv_aload_n hx hb d_Form_init_4 rfl (lv_at hl 0 rfl) ?_
  refine lv_iconst (v := 0) hx hb d_Form_init_5 (by decide) ?_
  refine va_put (D := (dC, dI)) (ci := 1) (v := .int 0) (ty := .boolean) (C := R_Form) (T := F_Form) (N := 6) hx hb hq iw_F t_Form t_Form_ok n_Form hown hK hP hD hS 0 rfl rfl 0 (by decide) (hq _ qk_34) (fun _ h9 => h9) rfl (by decide +kernel) rfl rfl (Nat.le_of_ble_eq_true rfl) d_Form_init_6 (fun H locs hP hD hS => ?_)
  have hP : va_P (dC, dI) classes [(h0, .inr (1, [.int 0, .int 0, .int 0, .int 0, .int 0, .null]))] H := hP
  have hD : va_D A [(h0, .inr (1, [.int 0, .int 0, .int 0, .int 0, .int 0, .null]))] := hD
  refine lv_aload_n hx hb d_Form_init_9 rfl (lv_at hl 0 rfl) ?_
  refine lv_iconst (v := 0) hx hb d_Form_init_10 (by decide) ?_
  refine va_put (D := (dC, dI)) (ci := 1) (v := .int 0) (ty := .int) (C := R_Form) (T := F_Form) (N := 6) hx hb hq iw_F t_Form t_Form_ok n_Form hown hK hP hD hS 0 rfl rfl 1 (by decide) (hq _ qk_35) (fun _ h9 => h9) rfl (by decide +kernel) rfl rfl (Nat.le_of_ble_eq_true rfl) d_Form_init_11 (fun H locs hP hD hS => ?_)
  have hP : va_P (dC, dI) classes [(h0, .inr (1, [.int 0, .int 0, .int 0, .int 0, .int 0, .null]))] H := hP
  have hD : va_D A [(h0, .inr (1, [.int 0, .int 0, .int 0, .int 0, .int 0, .null]))] := hD
  refine lv_aload_n hx hb d_Form_init_14 rfl (lv_at hl 0 rfl) ?_
  refine lv_iconst (v := 1) hx hb d_Form_init_15 (by decide) ?_
  refine va_put (D := (dC, dI)) (ci := 1) (v := .int 1) (ty := .int) (C := R_Form) (T := F_Form) (N := 6) hx hb hq iw_F t_Form t_Form_ok n_Form hown hK hP hD hS 0 rfl rfl 2 (by decide) (hq _ qk_36) (fun _ h9 => h9) rfl (by decide +kernel) rfl rfl (Nat.le_of_ble_eq_true rfl) d_Form_init_16 (fun H locs hP hD hS => ?_)
  have hP : va_P (dC, dI) classes [(h0, .inr (1, [.int 0, .int 0, .int 1, .int 0, .int 0, .null]))] H := hP
  have hD : va_D A [(h0, .inr (1, [.int 0, .int 0, .int 1, .int 0, .int 0, .null]))] := hD
  refine lv_aload_n hx hb d_Form_init_19 rfl (lv_at hl 0 rfl) ?_
  refine lv_iconst (v := 0) hx hb d_Form_init_20 (by decide) ?_
  refine va_put (D := (dC, dI)) (ci := 1) (v := .int 0) (ty := .boolean) (C := R_Form) (T := F_Form) (N := 6) hx hb hq iw_F t_Form t_Form_ok n_Form hown hK hP hD hS 0 rfl rfl 3 (by decide) (hq _ qk_37) (fun _ h9 => h9) rfl (by decide +kernel) rfl rfl (Nat.le_of_ble_eq_true rfl) d_Form_init_21 (fun H locs hP hD hS => ?_)
  have hP : va_P (dC, dI) classes [(h0, .inr (1, [.int 0, .int 0, .int 1, .int 0, .int 0, .null]))] H := hP
  have hD : va_D A [(h0, .inr (1, [.int 0, .int 0, .int 1, .int 0, .int 0, .null]))] := hD
  refine lv_aload_n hx hb d_Form_init_24 rfl (lv_at hl 0 rfl) ?_
  refine lv_iconst (v := 0) hx hb d_Form_init_25 (by decide) ?_
  refine va_put (D := (dC, dI)) (ci := 1) (v := .int 0) (ty := .int) (C := R_Form) (T := F_Form) (N := 6) hx hb hq iw_F t_Form t_Form_ok n_Form hown hK hP hD hS 0 rfl rfl 4 (by decide) (hq _ qk_38) (fun _ h9 => h9) rfl (by decide +kernel) rfl rfl (Nat.le_of_ble_eq_true rfl) d_Form_init_26 (fun H locs hP hD hS => ?_)
  have hP : va_P (dC, dI) classes [(h0, .inr (1, [.int 0, .int 0, .int 1, .int 0, .int 0, .null]))] H := hP
  have hD : va_D A [(h0, .inr (1, [.int 0, .int 0, .int 1, .int 0, .int 0, .null]))] := hD
  refine lv_aload_n hx hb d_Form_init_29 rfl (lv_at hl 0 rfl) ?_
  refine lv_bipush (v := 8) hx hb d_Form_init_30 (by decide) ?_
  refine va_newa (D := (dC, dI)) (atype := .int) (ty := .int) (a0 := (8, .inl (fun _ => 0))) hx hb (hq _ qk_39) rfl hK hP hD hS hA (fun _ => rfl) (by decide) (N' := 8) (by decide) (by decide) (Nat.le_of_ble_eq_true rfl) (Nat.le_of_ble_eq_true rfl) d_Form_init_32 (fun q5 c5 H hK hP hD hS => ?_)
  obtain rfl : cI = c5 := g_same hK (i := 0) (j := 1) rfl rfl
  have hK := hK.sub (tys' := [(cI, .int)]) [0] rfl
  refine W.widen (k := 1) (n := 8) (by omega) (by omega) ?_
  have hP : va_P (dC, dI) classes [(h0, .inr (1, [.int 0, .int 0, .int 1, .int 0, .int 0, .null])), (q5, .inl (cI, 8, .inl (fun _ => 0)))] H := hP
  have hD : va_D A [(h0, .inr (1, [.int 0, .int 0, .int 1, .int 0, .int 0, .null])), (q5, .inl (cI, 8, .inl (fun _ => 0)))] := hD
  refine va_putF (D := (dC, dI)) (ci := 1) (v := .ref q5) (ty := (.array .int)) (C := R_Form) (T := F_Form) (N := 6) hx hb hq iw_F t_Form t_Form_ok n_Form hown hK hP hD hS 0 rfl rfl 5 (by decide) (hq _ qk_40) (fun _ h9 => h9) rfl hin rfl (by decide +kernel) rfl rfl (Nat.le_of_ble_eq_true rfl) d_Form_init_34 (fun H locs hP hD hS => ?_)
  have hP : va_P (dC, dI) classes [(h0, .inr (1, [.int 0, .int 0, .int 1, .int 0, .int 0, .ref q5])), (q5, .inl (cI, 8, .inl (fun _ => 0)))] H := hP
  have hD : va_D A [(h0, .inr (1, [.int 0, .int 0, .int 1, .int 0, .int 0, .ref q5])), (q5, .inl (cI, 8, .inl (fun _ => 0)))] := hD
  exact W.vret hx hb hrt (fun t ht hW => ⟨⟨q5, rfl, trivial, by rw [ht]; exact hP, hD⟩, hS.F ht⟩) hS.2.2 d_Form_init_37
set_option maxHeartbeats 8000000 in
set_option maxRecDepth 100000 in
theorem c_ModeKeeper_init (l : Launch) (dC : Nat → ClassId) (dI : Nat → Nat → Nat) (h0 : Nat) (sz : Nat) : Met l y_ModeKeeper_init w_ModeKeeper_init ({ frames := 2, cells := 19, slots := 136, locals := 32 }) (va_Pc [.ref h0] (gP (dC, dI) classes [] [(h0, .inr (0, [.null, .int 0, .int 0, .int 0, .int 0, .null, .int 0, .null, .int 0]))] sz)) (va_Qv (fun (u : (Nat → Nat) × ClassId × ClassId) => u.1 0 = h0) (fun u t => gB (dC, dI) classes (va_A [(h0, .inr (0, [.null, .int 0, .int 0, .int 0, .int 0, .null, .int 0, .null, .int 0]))] sz) (wK u.1 u.2.1 u.2.2 kK0 (fun _ => 0) (fun _ => 0) kF0 (fun _ _ => 0)) t ∧ va_K (dC, dI) classes (tyK u.2.1 u.2.2) t) (va_A [(h0, .inr (0, [.null, .int 0, .int 0, .int 0, .int 0, .null, .int 0, .null, .int 0]))] sz)) 19 136 (va_A [(h0, .inr (0, [.null, .int 0, .int 0, .int 0, .int 0, .null, .int 0, .null, .int 0]))] sz) := by
  refine Met.ofW (cc := b_ModeKeeper_init) (maxL := 2) (ret := none) (by decide) rfl ?_
  intro p e s m args below meth c s₁ B hml hv
  obtain ⟨rfl, hsz, hP, hK, hD0, hN⟩ := hv
  have hx := B.exec
  have hb := B.bytes
  have hrt := B.returns
  have hq : ∀ w ∈ wAll, w.before ([.ref h0] : List Value).toArray s = true := fun w h => atoms_spec (ws := w_ModeKeeper_init) B.pre w (List.mem_cons_of_mem _ h)
  have hown : s.vm.findClass R_ModeKeeper = some m.cls := findClass_of_methodNamed B.named
  have hlocks := B.notSynchronized
  have hin : meth.name = "<init>" := (name_of_methodNamed B.named B.method).1
  subst hsz
  have hD := hD0.self (sz := s.heap.size)
  generalize hAe : va_A [(h0, .inr (0, [.null, .int 0, .int 0, .int 0, .int 0, .null, .int 0, .null, .int 0]))] s.heap.size = A at hD ⊢
  have hA : ∀ q : Nat, s.heap.size ≤ q → A q := fun q h => by rw [← hAe]; exact Or.inr h
  have hS : va_S A s.heap s.heap [] := va_S.rf
  have hP : va_P (dC, dI) classes [(h0, .inr (0, [.null, .int 0, .int 0, .int 0, .int 0, .null, .int 0, .null, .int 0]))] s.heap := hP
  have hl := lv_entry ([.ref h0]) (n := 2) (Nat.le_of_ble_eq_true rfl)
  rw [lg_entry_eq]
  generalize (lg_sl ([.ref h0]) ++ List.replicate (2 - (lg_sl ([.ref h0])).length) Slot.unset).toArray = ls at hl ⊢
  have hl : lv_has ls 2 [(0, .ref h0)] := hl
  refine lv_aload_n hx hb d_ModeKeeper_init_0 rfl (lv_at hl 0 rfl) ?_
  refine W.objInit hx hb hown (hq _ qk_41) (hq _ qk_32) (hq _ qk_33) rfl (by rw [hml]; exact hl.1) rfl d_ModeKeeper_init_1 (Nat.le_of_ble_eq_true rfl) (Nat.le_of_ble_eq_true rfl) ?_
  refine W.eq (g2 := F0 m 4 ls []) rfl ?_
  refine lv_aload_n hx hb d_ModeKeeper_init_4 rfl (lv_at hl 0 rfl) ?_
  refine lv_bipush (v := 8) hx hb d_ModeKeeper_init_5 (by decide) ?_
  refine va_newa (D := (dC, dI)) (atype := .int) (ty := .int) (a0 := (8, .inl (fun _ => 0))) hx hb (hq _ qk_39) rfl hK hP hD hS hA (fun _ => rfl) (by decide) (N' := 8) (by decide) (by decide) (Nat.le_of_ble_eq_true rfl) (Nat.le_of_ble_eq_true rfl) d_ModeKeeper_init_7 (fun q1 cI H hK hP hD hS => ?_)
  refine W.widen (k := 1) (n := 8) (by omega) (by omega) ?_
  have hP : va_P (dC, dI) classes [(h0, .inr (0, [.null, .int 0, .int 0, .int 0, .int 0, .null, .int 0, .null, .int 0])), (q1, .inl (cI, 8, .inl (fun _ => 0)))] H := hP
  have hD : va_D A [(h0, .inr (0, [.null, .int 0, .int 0, .int 0, .int 0, .null, .int 0, .null, .int 0])), (q1, .inl (cI, 8, .inl (fun _ => 0)))] := hD
  refine va_putF (D := (dC, dI)) (ci := 0) (v := .ref q1) (ty := (.array .int)) (C := R_ModeKeeper) (T := F_ModeKeeper) (N := 9) hx hb hq iw_K t_ModeKeeper t_ModeKeeper_ok n_ModeKeeper hown hK hP hD hS 0 rfl rfl 0 (by decide) (hq _ qk_4) (fun _ h9 => h9) rfl hin rfl (by decide +kernel) rfl rfl (Nat.le_of_ble_eq_true rfl) d_ModeKeeper_init_9 (fun H locs hP hD hS => ?_)
  have hP : va_P (dC, dI) classes [(h0, .inr (0, [.ref q1, .int 0, .int 0, .int 0, .int 0, .null, .int 0, .null, .int 0])), (q1, .inl (cI, 8, .inl (fun _ => 0)))] H := hP
  have hD : va_D A [(h0, .inr (0, [.ref q1, .int 0, .int 0, .int 0, .int 0, .null, .int 0, .null, .int 0])), (q1, .inl (cI, 8, .inl (fun _ => 0)))] := hD
  refine lv_aload_n hx hb d_ModeKeeper_init_12 rfl (lv_at hl 0 rfl) ?_
  refine lv_iconst (v := 1) hx hb d_ModeKeeper_init_13 (by decide) ?_
  refine va_put (D := (dC, dI)) (ci := 0) (v := .int 1) (ty := .int) (C := R_ModeKeeper) (T := F_ModeKeeper) (N := 9) hx hb hq iw_K t_ModeKeeper t_ModeKeeper_ok n_ModeKeeper hown hK hP hD hS 0 rfl rfl 1 (by decide) (hq _ qk_1) (fun _ h9 => h9) rfl (by decide +kernel) rfl rfl (Nat.le_of_ble_eq_true rfl) d_ModeKeeper_init_14 (fun H locs hP hD hS => ?_)
  have hP : va_P (dC, dI) classes [(h0, .inr (0, [.ref q1, .int 1, .int 0, .int 0, .int 0, .null, .int 0, .null, .int 0])), (q1, .inl (cI, 8, .inl (fun _ => 0)))] H := hP
  have hD : va_D A [(h0, .inr (0, [.ref q1, .int 1, .int 0, .int 0, .int 0, .null, .int 0, .null, .int 0])), (q1, .inl (cI, 8, .inl (fun _ => 0)))] := hD
  refine lv_aload_n hx hb d_ModeKeeper_init_17 rfl (lv_at hl 0 rfl) ?_
  refine lv_iconst (v := 0) hx hb d_ModeKeeper_init_18 (by decide) ?_
  refine va_put (D := (dC, dI)) (ci := 0) (v := .int 0) (ty := .int) (C := R_ModeKeeper) (T := F_ModeKeeper) (N := 9) hx hb hq iw_K t_ModeKeeper t_ModeKeeper_ok n_ModeKeeper hown hK hP hD hS 0 rfl rfl 2 (by decide) (hq _ qk_2) (fun _ h9 => h9) rfl (by decide +kernel) rfl rfl (Nat.le_of_ble_eq_true rfl) d_ModeKeeper_init_19 (fun H locs hP hD hS => ?_)
  have hP : va_P (dC, dI) classes [(h0, .inr (0, [.ref q1, .int 1, .int 0, .int 0, .int 0, .null, .int 0, .null, .int 0])), (q1, .inl (cI, 8, .inl (fun _ => 0)))] H := hP
  have hD : va_D A [(h0, .inr (0, [.ref q1, .int 1, .int 0, .int 0, .int 0, .null, .int 0, .null, .int 0])), (q1, .inl (cI, 8, .inl (fun _ => 0)))] := hD
  refine lv_aload_n hx hb d_ModeKeeper_init_22 rfl (lv_at hl 0 rfl) ?_
  refine lv_iconst (v := 0) hx hb d_ModeKeeper_init_23 (by decide) ?_
  refine va_put (D := (dC, dI)) (ci := 0) (v := .int 0) (ty := .boolean) (C := R_ModeKeeper) (T := F_ModeKeeper) (N := 9) hx hb hq iw_K t_ModeKeeper t_ModeKeeper_ok n_ModeKeeper hown hK hP hD hS 0 rfl rfl 3 (by decide) (hq _ qk_21) (fun _ h9 => h9) rfl (by decide +kernel) rfl rfl (Nat.le_of_ble_eq_true rfl) d_ModeKeeper_init_24 (fun H locs hP hD hS => ?_)
  have hP : va_P (dC, dI) classes [(h0, .inr (0, [.ref q1, .int 1, .int 0, .int 0, .int 0, .null, .int 0, .null, .int 0])), (q1, .inl (cI, 8, .inl (fun _ => 0)))] H := hP
  have hD : va_D A [(h0, .inr (0, [.ref q1, .int 1, .int 0, .int 0, .int 0, .null, .int 0, .null, .int 0])), (q1, .inl (cI, 8, .inl (fun _ => 0)))] := hD
  refine lv_aload_n hx hb d_ModeKeeper_init_27 rfl (lv_at hl 0 rfl) ?_
  refine lv_iconst (v := 0) hx hb d_ModeKeeper_init_28 (by decide) ?_
  refine va_put (D := (dC, dI)) (ci := 0) (v := .int 0) (ty := .int) (C := R_ModeKeeper) (T := F_ModeKeeper) (N := 9) hx hb hq iw_K t_ModeKeeper t_ModeKeeper_ok n_ModeKeeper hown hK hP hD hS 0 rfl rfl 4 (by decide) (hq _ qk_22) (fun _ h9 => h9) rfl (by decide +kernel) rfl rfl (Nat.le_of_ble_eq_true rfl) d_ModeKeeper_init_29 (fun H locs hP hD hS => ?_)
  have hP : va_P (dC, dI) classes [(h0, .inr (0, [.ref q1, .int 1, .int 0, .int 0, .int 0, .null, .int 0, .null, .int 0])), (q1, .inl (cI, 8, .inl (fun _ => 0)))] H := hP
  have hD : va_D A [(h0, .inr (0, [.ref q1, .int 1, .int 0, .int 0, .int 0, .null, .int 0, .null, .int 0])), (q1, .inl (cI, 8, .inl (fun _ => 0)))] := hD
  refine lv_aload_n hx hb d_ModeKeeper_init_32 rfl (lv_at hl 0 rfl) ?_
  refine lv_bipush (v := 8) hx hb d_ModeKeeper_init_33 (by decide) ?_
  refine va_newa (D := (dC, dI)) (atype := .int) (ty := .int) (a0 := (8, .inl (fun _ => 0))) hx hb (hq _ qk_39) rfl hK hP hD hS hA (fun _ => rfl) (by decide) (N' := 8) (by decide) (by decide) (Nat.le_of_ble_eq_true rfl) (Nat.le_of_ble_eq_true rfl) d_ModeKeeper_init_35 (fun q2 c2 H hK hP hD hS => ?_)
  obtain rfl : cI = c2 := g_same hK (i := 0) (j := 1) rfl rfl
  have hK := hK.sub (tys' := [(cI, .int)]) [0] rfl
  refine W.widen (k := 2) (n := 16) (by omega) (by omega) ?_
  have hP : va_P (dC, dI) classes [(h0, .inr (0, [.ref q1, .int 1, .int 0, .int 0, .int 0, .null, .int 0, .null, .int 0])), (q1, .inl (cI, 8, .inl (fun _ => 0))), (q2, .inl (cI, 8, .inl (fun _ => 0)))] H := hP
  have hD : va_D A [(h0, .inr (0, [.ref q1, .int 1, .int 0, .int 0, .int 0, .null, .int 0, .null, .int 0])), (q1, .inl (cI, 8, .inl (fun _ => 0))), (q2, .inl (cI, 8, .inl (fun _ => 0)))] := hD
  refine va_putF (D := (dC, dI)) (ci := 0) (v := .ref q2) (ty := (.array .int)) (C := R_ModeKeeper) (T := F_ModeKeeper) (N := 9) hx hb hq iw_K t_ModeKeeper t_ModeKeeper_ok n_ModeKeeper hown hK hP hD hS 0 rfl rfl 5 (by decide) (hq _ qk_15) (fun _ h9 => h9) rfl hin rfl (by decide +kernel) rfl rfl (Nat.le_of_ble_eq_true rfl) d_ModeKeeper_init_37 (fun H locs hP hD hS => ?_)
  have hP : va_P (dC, dI) classes [(h0, .inr (0, [.ref q1, .int 1, .int 0, .int 0, .int 0, .ref q2, .int 0, .null, .int 0])), (q1, .inl (cI, 8, .inl (fun _ => 0))), (q2, .inl (cI, 8, .inl (fun _ => 0)))] H := hP
  have hD : va_D A [(h0, .inr (0, [.ref q1, .int 1, .int 0, .int 0, .int 0, .ref q2, .int 0, .null, .int 0])), (q1, .inl (cI, 8, .inl (fun _ => 0))), (q2, .inl (cI, 8, .inl (fun _ => 0)))] := hD
  refine lv_aload_n hx hb d_ModeKeeper_init_40 rfl (lv_at hl 0 rfl) ?_
  refine lv_iconst (v := 0) hx hb d_ModeKeeper_init_41 (by decide) ?_
  refine va_put (D := (dC, dI)) (ci := 0) (v := .int 0) (ty := .int) (C := R_ModeKeeper) (T := F_ModeKeeper) (N := 9) hx hb hq iw_K t_ModeKeeper t_ModeKeeper_ok n_ModeKeeper hown hK hP hD hS 0 rfl rfl 6 (by decide) (hq _ qk_9) (fun _ h9 => h9) rfl (by decide +kernel) rfl rfl (Nat.le_of_ble_eq_true rfl) d_ModeKeeper_init_42 (fun H locs hP hD hS => ?_)
  have hP : va_P (dC, dI) classes [(h0, .inr (0, [.ref q1, .int 1, .int 0, .int 0, .int 0, .ref q2, .int 0, .null, .int 0])), (q1, .inl (cI, 8, .inl (fun _ => 0))), (q2, .inl (cI, 8, .inl (fun _ => 0)))] H := hP
  have hD : va_D A [(h0, .inr (0, [.ref q1, .int 1, .int 0, .int 0, .int 0, .ref q2, .int 0, .null, .int 0])), (q1, .inl (cI, 8, .inl (fun _ => 0))), (q2, .inl (cI, 8, .inl (fun _ => 0)))] := hD
  refine lv_aload_n hx hb d_ModeKeeper_init_45 rfl (lv_at hl 0 rfl) ?_
  refine lv_bipush (v := 8) hx hb d_ModeKeeper_init_46 (by decide) ?_
  refine va_newq (D := (dC, dI)) (C := "ModeKeeper$Form") hx hb hown (hq _ qk_42) hN.2.2.2.2.2.2.2 hK hP hD hS hA (by decide) (N' := 8) (by decide) (by decide) (Nat.le_of_ble_eq_true rfl) (Nat.le_of_ble_eq_true rfl) d_ModeKeeper_init_48 (fun q3 cF H hK hP hD hS => ?_)
  refine W.widen (k := 3) (n := 24) (by omega) (by omega) ?_
  have hP : va_P (dC, dI) classes [(h0, .inr (0, [.ref q1, .int 1, .int 0, .int 0, .int 0, .ref q2, .int 0, .null, .int 0])), (q1, .inl (cI, 8, .inl (fun _ => 0))), (q2, .inl (cI, 8, .inl (fun _ => 0))), (q3, .inl (cF, 8, .inr (.inr (.inr (.inr (fun _ => none))))))] H := hP
  have hD : va_D A [(h0, .inr (0, [.ref q1, .int 1, .int 0, .int 0, .int 0, .ref q2, .int 0, .null, .int 0])), (q1, .inl (cI, 8, .inl (fun _ => 0))), (q2, .inl (cI, 8, .inl (fun _ => 0))), (q3, .inl (cF, 8, .inr (.inr (.inr (.inr (fun _ => none))))))] := hD
  have hK : va_K (dC, dI) classes (tyK cI cF) s := hK
  refine va_putF (D := (dC, dI)) (ci := 0) (v := .ref q3) (ty := (.array (.object "ModeKeeper$Form"))) (C := R_ModeKeeper) (T := F_ModeKeeper) (N := 9) hx hb hq iw_K t_ModeKeeper t_ModeKeeper_ok n_ModeKeeper hown hK hP hD hS 0 rfl rfl 7 (by decide) (hq _ qk_0) (fun _ h9 => h9) rfl hin rfl (by decide +kernel) rfl rfl (Nat.le_of_ble_eq_true rfl) d_ModeKeeper_init_51 (fun H locs hP hD hS => ?_)
  have hP : va_P (dC, dI) classes [(h0, .inr (0, [.ref q1, .int 1, .int 0, .int 0, .int 0, .ref q2, .int 0, .ref q3, .int 0])), (q1, .inl (cI, 8, .inl (fun _ => 0))), (q2, .inl (cI, 8, .inl (fun _ => 0))), (q3, .inl (cF, 8, .inr (.inr (.inr (.inr (fun _ => none))))))] H := hP
  have hD : va_D A [(h0, .inr (0, [.ref q1, .int 1, .int 0, .int 0, .int 0, .ref q2, .int 0, .ref q3, .int 0])), (q1, .inl (cI, 8, .inl (fun _ => 0))), (q2, .inl (cI, 8, .inl (fun _ => 0))), (q3, .inl (cF, 8, .inr (.inr (.inr (.inr (fun _ => none))))))] := hD
  refine lv_aload_n hx hb d_ModeKeeper_init_54 rfl (lv_at hl 0 rfl) ?_
  refine lv_iconst (v := 0) hx hb d_ModeKeeper_init_55 (by decide) ?_
  refine va_put (D := (dC, dI)) (ci := 0) (v := .int 0) (ty := .int) (C := R_ModeKeeper) (T := F_ModeKeeper) (N := 9) hx hb hq iw_K t_ModeKeeper t_ModeKeeper_ok n_ModeKeeper hown hK hP hD hS 0 rfl rfl 8 (by decide) (hq _ qk_14) (fun _ h9 => h9) rfl (by decide +kernel) rfl rfl (Nat.le_of_ble_eq_true rfl) d_ModeKeeper_init_56 (fun H locs hP hD hS => ?_)
  have hP : va_P (dC, dI) classes [(h0, .inr (0, [.ref q1, .int 1, .int 0, .int 0, .int 0, .ref q2, .int 0, .ref q3, .int 0])), (q1, .inl (cI, 8, .inl (fun _ => 0))), (q2, .inl (cI, 8, .inl (fun _ => 0))), (q3, .inl (cF, 8, .inr (.inr (.inr (.inr (fun _ => none))))))] H := hP
  have hD : va_D A [(h0, .inr (0, [.ref q1, .int 1, .int 0, .int 0, .int 0, .ref q2, .int 0, .ref q3, .int 0])), (q1, .inl (cI, 8, .inl (fun _ => 0))), (q2, .inl (cI, 8, .inl (fun _ => 0))), (q3, .inl (cF, 8, .inr (.inr (.inr (.inr (fun _ => none))))))] := hD
  refine lv_iconst (v := 0) hx hb d_ModeKeeper_init_59 (by decide) ?_
  refine lv_istore_n (lv' := [(1, .int 0), (0, .ref h0)]) hx hb d_ModeKeeper_init_60 rfl hl (by decide) rfl (fun ls hl => ?_)
  have hl : lv_has ls 2 [(1, .int (nI 0)), (0, .ref h0)] := hl
  refine lv_iload_n hx hb d_ModeKeeper_init_61 rfl (lv_at hl 0 rfl) ?_
  refine lv_bipush (v := 8) hx hb d_ModeKeeper_init_62 (by decide) ?_
  refine lv_icmp_ge (tgt := 86) hx hb d_ModeKeeper_init_64 (by decide) (fun c9 => absurd c9 (by decide +kernel)) (fun _ => ?_)
  refine lv_aload_n hx hb d_ModeKeeper_init_67 rfl (lv_at hl 1 rfl) ?_
  refine va_get (D := (dC, dI)) (ci := 0) (v := .ref q3) (C := R_ModeKeeper) (T := F_ModeKeeper) (N := 9) hx hb hq iw_K hown hK hP 0 rfl rfl 7 (by decide) (hq _ qk_0) (fun _ h9 => h9) rfl d_ModeKeeper_init_68 ?_
  refine lv_iload_n hx hb d_ModeKeeper_init_71 rfl (lv_at hl 0 rfl) ?_
  refine va_new (D := (dC, dI)) (ci := 1) (fs := [.int 0, .int 0, .int 0, .int 0, .int 0, .null]) (C := R_Form) (T := F_Form) (N := 6) hx hb hq iw_F t_Form t_Form_ok hown (hq _ qk_42) (hq _ qk_43) (hq _ qk_44) hK hP hD hS hA rfl (fun j hj => by rcases (show j = 0 ∨ j = 1 ∨ j = 2 ∨ j = 3 ∨ j = 4 ∨ j = 5 by omega) with rfl | rfl | rfl | rfl | rfl | rfl <;> rfl) (Nat.le_of_ble_eq_true rfl) (Nat.le_of_ble_eq_true rfl) d_ModeKeeper_init_72 (fun f0 H hP hD hS => ?_)
  refine W.widen (k := 4) (n := 30) (by omega) (by omega) ?_
  have hP : va_P (dC, dI) classes [(h0, .inr (0, [.ref q1, .int 1, .int 0, .int 0, .int 0, .ref q2, .int 0, .ref q3, .int 0])), (q1, .inl (cI, 8, .inl (fun _ => 0))), (q2, .inl (cI, 8, .inl (fun _ => 0))), (q3, .inl (cF, 8, .inr (.inr (.inr (.inr (fun _ => none)))))), (f0, .inr (1, [.int 0, .int 0, .int 0, .int 0, .int 0, .null]))] H := hP
  have hD : va_D A [(h0, .inr (0, [.ref q1, .int 1, .int 0, .int 0, .int 0, .ref q2, .int 0, .ref q3, .int 0])), (q1, .inl (cI, 8, .inl (fun _ => 0))), (q2, .inl (cI, 8, .inl (fun _ => 0))), (q3, .inl (cF, 8, .inr (.inr (.inr (.inr (fun _ => none)))))), (f0, .inr (1, [.int 0, .int 0, .int 0, .int 0, .int 0, .null]))] := hD
  refine lv_dup hx hb d_ModeKeeper_init_75 rfl ?_
  have hPc := hP.sub (ws' := [(f0, .inr (1, [.int 0, .int 0, .int 0, .int 0, .int 0, .null]))]) [4] rfl
  have hDc := hD.sub (ws' := [(f0, .inr (1, [.int 0, .int 0, .int 0, .int 0, .int 0, .null]))]) [4] (by decide) rfl
  have hFc := va_free (wc := [(f0, .inr (1, [.int 0, .int 0, .int 0, .int 0, .int 0, .null]))]) hD hS hA [4] rfl
  refine va_callv (va_runIN (As := []) (rest := [.ref f0, .int (nI 0), .ref q3]) ⟨hx, hb, hml, hown, hq⟩ (c_Form_init l dC dI f0 H.size cI) ⟨va_cnB 0 hq (gd m_Form_init) rfl rfl rfl hN.2.2.2.2.2.2.1 (hq _ qk_44) (by decide +kernel) ⟨Nat.le_of_ble_eq_true rfl, Nat.le_of_ble_eq_true rfl⟩, rfl, (hq _ qk_45)⟩ ⟨g_blind, g_pre hPc (hK.sub (tys' := [(cI, .int)]) [0] rfl) hDc hN⟩ rfl rfl hl.1 rfl (lv_room (Nat.le_of_ble_eq_true rfl)) d_ModeKeeper_init_76 ⟨Nat.le_of_ble_eq_true rfl, Nat.le_of_ble_eq_true rfl⟩) hS (fun q _ h => hFc q h) hFc (fun p0 t H1 locs ht hvm hw hB hz1 hk1 hS => ?_)
  obtain ⟨hP1, hD1⟩ := hB
  rw [ht] at hP1
  obtain ⟨hP, hD⟩ := va_join (wr := [(h0, .inr (0, [.ref q1, .int 1, .int 0, .int 0, .int 0, .ref q2, .int 0, .ref q3, .int 0])), (q1, .inl (cI, 8, .inl (fun _ => 0))), (q2, .inl (cI, 8, .inl (fun _ => 0))), (q3, .inl (cF, 8, .inr (.inr (.inr (.inr (fun _ => none))))))]) (w1 := [(f0, .inr (1, [.int 0, .int 0, .int 1, .int 0, .int 0, .ref p0])), (p0, .inl (cI, 8, .inl (fun _ => 0)))]) hP hD [4] [0, 1, 2, 3] rfl rfl (by decide) (by decide) hk1 hFc hP1 hD1
  generalize H1 = H at hP hS ⊢
  refine W.widen (k := 5) (n := 38) (by omega) (by omega) ?_
  have hP : va_P (dC, dI) classes [(h0, .inr (0, [.ref q1, .int 1, .int 0, .int 0, .int 0, .ref q2, .int 0, .ref q3, .int 0])), (q1, .inl (cI, 8, .inl (fun _ => 0))), (q2, .inl (cI, 8, .inl (fun _ => 0))), (q3, .inl (cF, 8, .inr (.inr (.inr (.inr (fun _ => none)))))), (f0, .inr (1, [.int 0, .int 0, .int 1, .int 0, .int 0, .ref p0])), (p0, .inl (cI, 8, .inl (fun _ => 0)))] H := hP
  have hD : va_D A [(h0, .inr (0, [.ref q1, .int 1, .int 0, .int 0, .int 0, .ref q2, .int 0, .ref q3, .int 0])), (q1, .inl (cI, 8, .inl (fun _ => 0))), (q2, .inl (cI, 8, .inl (fun _ => 0))), (q3, .inl (cF, 8, .inr (.inr (.inr (.inr (fun _ => none)))))), (f0, .inr (1, [.int 0, .int 0, .int 1, .int 0, .int 0, .ref p0])), (p0, .inl (cI, 8, .inl (fun _ => 0)))] := hD
  refine g_ast (D := (dC, dI)) hx hb hK hP hD hS 3 1 4 1 (r := (R_Form, F_Form, 6)) rfl rfl rfl rfl (i := 0) (by decide) (by decide) d_ModeKeeper_init_79 (fun H locs hP hD hS => ?_)
  have hP : va_P (dC, dI) classes [(h0, .inr (0, [.ref q1, .int 1, .int 0, .int 0, .int 0, .ref q2, .int 0, .ref q3, .int 0])), (q1, .inl (cI, 8, .inl (fun _ => 0))), (q2, .inl (cI, 8, .inl (fun _ => 0))), (q3, .inl (cF, 8, .inr (.inr (.inr (.inr (va_up (fun _ => none) 0 (some f0))))))), (f0, .inr (1, [.int 0, .int 0, .int 1, .int 0, .int 0, .ref p0])), (p0, .inl (cI, 8, .inl (fun _ => 0)))] H := hP
  have hD : va_D A [(h0, .inr (0, [.ref q1, .int 1, .int 0, .int 0, .int 0, .ref q2, .int 0, .ref q3, .int 0])), (q1, .inl (cI, 8, .inl (fun _ => 0))), (q2, .inl (cI, 8, .inl (fun _ => 0))), (q3, .inl (cF, 8, .inr (.inr (.inr (.inr (va_up (fun _ => none) 0 (some f0))))))), (f0, .inr (1, [.int 0, .int 0, .int 1, .int 0, .int 0, .ref p0])), (p0, .inl (cI, 8, .inl (fun _ => 0)))] := hD
  refine lv_iinc (v := nI 1) (lv' := [(1, .int (nI 1)), (0, .ref h0)]) hx hb d_ModeKeeper_init_80 hl (k := 0) rfl (by decide +kernel) (by decide) rfl (fun ls hl => ?_)
  refine lv_goto (tgt := 61) hx hb d_ModeKeeper_init_83 (by decide) ?_
  refine lv_iload_n hx hb d_ModeKeeper_init_61 rfl (lv_at hl 0 rfl) ?_
  refine lv_bipush (v := 8) hx hb d_ModeKeeper_init_62 (by decide) ?_
  refine lv_icmp_ge (tgt := 86) hx hb d_ModeKeeper_init_64 (by decide) (fun c9 => absurd c9 (by decide +kernel)) (fun _ => ?_)
  refine lv_aload_n hx hb d_ModeKeeper_init_67 rfl (lv_at hl 1 rfl) ?_
  refine va_get (D := (dC, dI)) (ci := 0) (v := .ref q3) (C := R_ModeKeeper) (T := F_ModeKeeper) (N := 9) hx hb hq iw_K hown hK hP 0 rfl rfl 7 (by decide) (hq _ qk_0) (fun _ h9 => h9) rfl d_ModeKeeper_init_68 ?_
  refine lv_iload_n hx hb d_ModeKeeper_init_71 rfl (lv_at hl 0 rfl) ?_
  refine va_new (D := (dC, dI)) (ci := 1) (fs := [.int 0, .int 0, .int 0, .int 0, .int 0, .null]) (C := R_Form) (T := F_Form) (N := 6) hx hb hq iw_F t_Form t_Form_ok hown (hq _ qk_42) (hq _ qk_43) (hq _ qk_44) hK hP hD hS hA rfl (fun j hj => by rcases (show j = 0 ∨ j = 1 ∨ j = 2 ∨ j = 3 ∨ j = 4 ∨ j = 5 by omega) with rfl | rfl | rfl | rfl | rfl | rfl <;> rfl) (Nat.le_of_ble_eq_true rfl) (Nat.le_of_ble_eq_true rfl) d_ModeKeeper_init_72 (fun f1 H hP hD hS => ?_)
  refine W.widen (k := 6) (n := 44) (by omega) (by omega) ?_
  have hP : va_P (dC, dI) classes [(h0, .inr (0, [.ref q1, .int 1, .int 0, .int 0, .int 0, .ref q2, .int 0, .ref q3, .int 0])), (q1, .inl (cI, 8, .inl (fun _ => 0))), (q2, .inl (cI, 8, .inl (fun _ => 0))), (q3, .inl (cF, 8, .inr (.inr (.inr (.inr (va_up (fun _ => none) 0 (some f0))))))), (f0, .inr (1, [.int 0, .int 0, .int 1, .int 0, .int 0, .ref p0])), (p0, .inl (cI, 8, .inl (fun _ => 0))), (f1, .inr (1, [.int 0, .int 0, .int 0, .int 0, .int 0, .null]))] H := hP
  have hD : va_D A [(h0, .inr (0, [.ref q1, .int 1, .int 0, .int 0, .int 0, .ref q2, .int 0, .ref q3, .int 0])), (q1, .inl (cI, 8, .inl (fun _ => 0))), (q2, .inl (cI, 8, .inl (fun _ => 0))), (q3, .inl (cF, 8, .inr (.inr (.inr (.inr (va_up (fun _ => none) 0 (some f0))))))), (f0, .inr (1, [.int 0, .int 0, .int 1, .int 0, .int 0, .ref p0])), (p0, .inl (cI, 8, .inl (fun _ => 0))), (f1, .inr (1, [.int 0, .int 0, .int 0, .int 0, .int 0, .null]))] := hD
  refine lv_dup hx hb d_ModeKeeper_init_75 rfl ?_
  have hPc := hP.sub (ws' := [(f1, .inr (1, [.int 0, .int 0, .int 0, .int 0, .int 0, .null]))]) [6] rfl
  have hDc := hD.sub (ws' := [(f1, .inr (1, [.int 0, .int 0, .int 0, .int 0, .int 0, .null]))]) [6] (by decide) rfl
  have hFc := va_free (wc := [(f1, .inr (1, [.int 0, .int 0, .int 0, .int 0, .int 0, .null]))]) hD hS hA [6] rfl
  refine va_callv (va_runIN (As := []) (rest := [.ref f1, .int (nI 1), .ref q3]) ⟨hx, hb, hml, hown, hq⟩ (c_Form_init l dC dI f1 H.size cI) ⟨va_cnB 0 hq (gd m_Form_init) rfl rfl rfl hN.2.2.2.2.2.2.1 (hq _ qk_44) (by decide +kernel) ⟨Nat.le_of_ble_eq_true rfl, Nat.le_of_ble_eq_true rfl⟩, rfl, (hq _ qk_45)⟩ ⟨g_blind, g_pre hPc (hK.sub (tys' := [(cI, .int)]) [0] rfl) hDc hN⟩ rfl rfl hl.1 rfl (lv_room (Nat.le_of_ble_eq_true rfl)) d_ModeKeeper_init_76 ⟨Nat.le_of_ble_eq_true rfl, Nat.le_of_ble_eq_true rfl⟩) hS (fun q _ h => hFc q h) hFc (fun p1 t H1 locs ht hvm hw hB hz1 hk1 hS => ?_)
  obtain ⟨hP1, hD1⟩ := hB
  rw [ht] at hP1
  obtain ⟨hP, hD⟩ := va_join (wr := [(h0, .inr (0, [.ref q1, .int 1, .int 0, .int 0, .int 0, .ref q2, .int 0, .ref q3, .int 0])), (q1, .inl (cI, 8, .inl (fun _ => 0))), (q2, .inl (cI, 8, .inl (fun _ => 0))), (q3, .inl (cF, 8, .inr (.inr (.inr (.inr (va_up (fun _ => none) 0 (some f0))))))), (f0, .inr (1, [.int 0, .int 0, .int 1, .int 0, .int 0, .ref p0])), (p0, .inl (cI, 8, .inl (fun _ => 0)))]) (w1 := [(f1, .inr (1, [.int 0, .int 0, .int 1, .int 0, .int 0, .ref p1])), (p1, .inl (cI, 8, .inl (fun _ => 0)))]) hP hD [6] [0, 1, 2, 3, 4, 5] rfl rfl (by decide) (by decide) hk1 hFc hP1 hD1
  generalize H1 = H at hP hS ⊢
  refine W.widen (k := 7) (n := 52) (by omega) (by omega) ?_
  have hP : va_P (dC, dI) classes [(h0, .inr (0, [.ref q1, .int 1, .int 0, .int 0, .int 0, .ref q2, .int 0, .ref q3, .int 0])), (q1, .inl (cI, 8, .inl (fun _ => 0))), (q2, .inl (cI, 8, .inl (fun _ => 0))), (q3, .inl (cF, 8, .inr (.inr (.inr (.inr (va_up (fun _ => none) 0 (some f0))))))), (f0, .inr (1, [.int 0, .int 0, .int 1, .int 0, .int 0, .ref p0])), (p0, .inl (cI, 8, .inl (fun _ => 0))), (f1, .inr (1, [.int 0, .int 0, .int 1, .int 0, .int 0, .ref p1])), (p1, .inl (cI, 8, .inl (fun _ => 0)))] H := hP
  have hD : va_D A [(h0, .inr (0, [.ref q1, .int 1, .int 0, .int 0, .int 0, .ref q2, .int 0, .ref q3, .int 0])), (q1, .inl (cI, 8, .inl (fun _ => 0))), (q2, .inl (cI, 8, .inl (fun _ => 0))), (q3, .inl (cF, 8, .inr (.inr (.inr (.inr (va_up (fun _ => none) 0 (some f0))))))), (f0, .inr (1, [.int 0, .int 0, .int 1, .int 0, .int 0, .ref p0])), (p0, .inl (cI, 8, .inl (fun _ => 0))), (f1, .inr (1, [.int 0, .int 0, .int 1, .int 0, .int 0, .ref p1])), (p1, .inl (cI, 8, .inl (fun _ => 0)))] := hD
  refine g_ast (D := (dC, dI)) hx hb hK hP hD hS 3 1 6 1 (r := (R_Form, F_Form, 6)) rfl rfl rfl rfl (i := 1) (by decide) (by decide) d_ModeKeeper_init_79 (fun H locs hP hD hS => ?_)
  have hP : va_P (dC, dI) classes [(h0, .inr (0, [.ref q1, .int 1, .int 0, .int 0, .int 0, .ref q2, .int 0, .ref q3, .int 0])), (q1, .inl (cI, 8, .inl (fun _ => 0))), (q2, .inl (cI, 8, .inl (fun _ => 0))), (q3, .inl (cF, 8, .inr (.inr (.inr (.inr (va_up (va_up (fun _ => none) 0 (some f0)) 1 (some f1))))))), (f0, .inr (1, [.int 0, .int 0, .int 1, .int 0, .int 0, .ref p0])), (p0, .inl (cI, 8, .inl (fun _ => 0))), (f1, .inr (1, [.int 0, .int 0, .int 1, .int 0, .int 0, .ref p1])), (p1, .inl (cI, 8, .inl (fun _ => 0)))] H := hP
  have hD : va_D A [(h0, .inr (0, [.ref q1, .int 1, .int 0, .int 0, .int 0, .ref q2, .int 0, .ref q3, .int 0])), (q1, .inl (cI, 8, .inl (fun _ => 0))), (q2, .inl (cI, 8, .inl (fun _ => 0))), (q3, .inl (cF, 8, .inr (.inr (.inr (.inr (va_up (va_up (fun _ => none) 0 (some f0)) 1 (some f1))))))), (f0, .inr (1, [.int 0, .int 0, .int 1, .int 0, .int 0, .ref p0])), (p0, .inl (cI, 8, .inl (fun _ => 0))), (f1, .inr (1, [.int 0, .int 0, .int 1, .int 0, .int 0, .ref p1])), (p1, .inl (cI, 8, .inl (fun _ => 0)))] := hD
  refine lv_iinc (v := nI 2) (lv' := [(1, .int (nI 2)), (0, .ref h0)]) hx hb d_ModeKeeper_init_80 hl (k := 0) rfl (by decide +kernel) (by decide) rfl (fun ls hl => ?_)
  refine lv_goto (tgt := 61) hx hb d_ModeKeeper_init_83 (by decide) ?_
  refine lv_iload_n hx hb d_ModeKeeper_init_61 rfl (lv_at hl 0 rfl) ?_
  refine lv_bipush (v := 8) hx hb d_ModeKeeper_init_62 (by decide) ?_
  refine lv_icmp_ge (tgt := 86) hx hb d_ModeKeeper_init_64 (by decide) (fun c9 => absurd c9 (by decide +kernel)) (fun _ => ?_)
  refine lv_aload_n hx hb d_ModeKeeper_init_67 rfl (lv_at hl 1 rfl) ?_
  refine va_get (D := (dC, dI)) (ci := 0) (v := .ref q3) (C := R_ModeKeeper) (T := F_ModeKeeper) (N := 9) hx hb hq iw_K hown hK hP 0 rfl rfl 7 (by decide) (hq _ qk_0) (fun _ h9 => h9) rfl d_ModeKeeper_init_68 ?_
  refine lv_iload_n hx hb d_ModeKeeper_init_71 rfl (lv_at hl 0 rfl) ?_
  refine va_new (D := (dC, dI)) (ci := 1) (fs := [.int 0, .int 0, .int 0, .int 0, .int 0, .null]) (C := R_Form) (T := F_Form) (N := 6) hx hb hq iw_F t_Form t_Form_ok hown (hq _ qk_42) (hq _ qk_43) (hq _ qk_44) hK hP hD hS hA rfl (fun j hj => by rcases (show j = 0 ∨ j = 1 ∨ j = 2 ∨ j = 3 ∨ j = 4 ∨ j = 5 by omega) with rfl | rfl | rfl | rfl | rfl | rfl <;> rfl) (Nat.le_of_ble_eq_true rfl) (Nat.le_of_ble_eq_true rfl) d_ModeKeeper_init_72 (fun f2 H hP hD hS => ?_)
  refine W.widen (k := 8) (n := 58) (by omega) (by omega) ?_
  have hP : va_P (dC, dI) classes [(h0, .inr (0, [.ref q1, .int 1, .int 0, .int 0, .int 0, .ref q2, .int 0, .ref q3, .int 0])), (q1, .inl (cI, 8, .inl (fun _ => 0))), (q2, .inl (cI, 8, .inl (fun _ => 0))), (q3, .inl (cF, 8, .inr (.inr (.inr (.inr (va_up (va_up (fun _ => none) 0 (some f0)) 1 (some f1))))))), (f0, .inr (1, [.int 0, .int 0, .int 1, .int 0, .int 0, .ref p0])), (p0, .inl (cI, 8, .inl (fun _ => 0))), (f1, .inr (1, [.int 0, .int 0, .int 1, .int 0, .int 0, .ref p1])), (p1, .inl (cI, 8, .inl (fun _ => 0))), (f2, .inr (1, [.int 0, .int 0, .int 0, .int 0, .int 0, .null]))] H := hP
  have hD : va_D A [(h0, .inr (0, [.ref q1, .int 1, .int 0, .int 0, .int 0, .ref q2, .int 0, .ref q3, .int 0])), (q1, .inl (cI, 8, .inl (fun _ => 0))), (q2, .inl (cI, 8, .inl (fun _ => 0))), (q3, .inl (cF, 8, .inr (.inr (.inr (.inr (va_up (va_up (fun _ => none) 0 (some f0)) 1 (some f1))))))), (f0, .inr (1, [.int 0, .int 0, .int 1, .int 0, .int 0, .ref p0])), (p0, .inl (cI, 8, .inl (fun _ => 0))), (f1, .inr (1, [.int 0, .int 0, .int 1, .int 0, .int 0, .ref p1])), (p1, .inl (cI, 8, .inl (fun _ => 0))), (f2, .inr (1, [.int 0, .int 0, .int 0, .int 0, .int 0, .null]))] := hD
  refine lv_dup hx hb d_ModeKeeper_init_75 rfl ?_
  have hPc := hP.sub (ws' := [(f2, .inr (1, [.int 0, .int 0, .int 0, .int 0, .int 0, .null]))]) [8] rfl
  have hDc := hD.sub (ws' := [(f2, .inr (1, [.int 0, .int 0, .int 0, .int 0, .int 0, .null]))]) [8] (by decide) rfl
  have hFc := va_free (wc := [(f2, .inr (1, [.int 0, .int 0, .int 0, .int 0, .int 0, .null]))]) hD hS hA [8] rfl
  refine va_callv (va_runIN (As := []) (rest := [.ref f2, .int (nI 2), .ref q3]) ⟨hx, hb, hml, hown, hq⟩ (c_Form_init l dC dI f2 H.size cI) ⟨va_cnB 0 hq (gd m_Form_init) rfl rfl rfl hN.2.2.2.2.2.2.1 (hq _ qk_44) (by decide +kernel) ⟨Nat.le_of_ble_eq_true rfl, Nat.le_of_ble_eq_true rfl⟩, rfl, (hq _ qk_45)⟩ ⟨g_blind, g_pre hPc (hK.sub (tys' := [(cI, .int)]) [0] rfl) hDc hN⟩ rfl rfl hl.1 rfl (lv_room (Nat.le_of_ble_eq_true rfl)) d_ModeKeeper_init_76 ⟨Nat.le_of_ble_eq_true rfl, Nat.le_of_ble_eq_true rfl⟩) hS (fun q _ h => hFc q h) hFc (fun p2 t H1 locs ht hvm hw hB hz1 hk1 hS => ?_)
  obtain ⟨hP1, hD1⟩ := hB
  rw [ht] at hP1
  obtain ⟨hP, hD⟩ := va_join (wr := [(h0, .inr (0, [.ref q1, .int 1, .int 0, .int 0, .int 0, .ref q2, .int 0, .ref q3, .int 0])), (q1, .inl (cI, 8, .inl (fun _ => 0))), (q2, .inl (cI, 8, .inl (fun _ => 0))), (q3, .inl (cF, 8, .inr (.inr (.inr (.inr (va_up (va_up (fun _ => none) 0 (some f0)) 1 (some f1))))))), (f0, .inr (1, [.int 0, .int 0, .int 1, .int 0, .int 0, .ref p0])), (p0, .inl (cI, 8, .inl (fun _ => 0))), (f1, .inr (1, [.int 0, .int 0, .int 1, .int 0, .int 0, .ref p1])), (p1, .inl (cI, 8, .inl (fun _ => 0)))]) (w1 := [(f2, .inr (1, [.int 0, .int 0, .int 1, .int 0, .int 0, .ref p2])), (p2, .inl (cI, 8, .inl (fun _ => 0)))]) hP hD [8] [0, 1, 2, 3, 4, 5, 6, 7] rfl rfl (by decide) (by decide) hk1 hFc hP1 hD1
  generalize H1 = H at hP hS ⊢
  refine W.widen (k := 9) (n := 66) (by omega) (by omega) ?_
  have hP : va_P (dC, dI) classes [(h0, .inr (0, [.ref q1, .int 1, .int 0, .int 0, .int 0, .ref q2, .int 0, .ref q3, .int 0])), (q1, .inl (cI, 8, .inl (fun _ => 0))), (q2, .inl (cI, 8, .inl (fun _ => 0))), (q3, .inl (cF, 8, .inr (.inr (.inr (.inr (va_up (va_up (fun _ => none) 0 (some f0)) 1 (some f1))))))), (f0, .inr (1, [.int 0, .int 0, .int 1, .int 0, .int 0, .ref p0])), (p0, .inl (cI, 8, .inl (fun _ => 0))), (f1, .inr (1, [.int 0, .int 0, .int 1, .int 0, .int 0, .ref p1])), (p1, .inl (cI, 8, .inl (fun _ => 0))), (f2, .inr (1, [.int 0, .int 0, .int 1, .int 0, .int 0, .ref p2])), (p2, .inl (cI, 8, .inl (fun _ => 0)))] H := hP
  have hD : va_D A [(h0, .inr (0, [.ref q1, .int 1, .int 0, .int 0, .int 0, .ref q2, .int 0, .ref q3, .int 0])), (q1, .inl (cI, 8, .inl (fun _ => 0))), (q2, .inl (cI, 8, .inl (fun _ => 0))), (q3, .inl (cF, 8, .inr (.inr (.inr (.inr (va_up (va_up (fun _ => none) 0 (some f0)) 1 (some f1))))))), (f0, .inr (1, [.int 0, .int 0, .int 1, .int 0, .int 0, .ref p0])), (p0, .inl (cI, 8, .inl (fun _ => 0))), (f1, .inr (1, [.int 0, .int 0, .int 1, .int 0, .int 0, .ref p1])), (p1, .inl (cI, 8, .inl (fun _ => 0))), (f2, .inr (1, [.int 0, .int 0, .int 1, .int 0, .int 0, .ref p2])), (p2, .inl (cI, 8, .inl (fun _ => 0)))] := hD
  refine g_ast (D := (dC, dI)) hx hb hK hP hD hS 3 1 8 1 (r := (R_Form, F_Form, 6)) rfl rfl rfl rfl (i := 2) (by decide) (by decide) d_ModeKeeper_init_79 (fun H locs hP hD hS => ?_)
  have hP : va_P (dC, dI) classes [(h0, .inr (0, [.ref q1, .int 1, .int 0, .int 0, .int 0, .ref q2, .int 0, .ref q3, .int 0])), (q1, .inl (cI, 8, .inl (fun _ => 0))), (q2, .inl (cI, 8, .inl (fun _ => 0))), (q3, .inl (cF, 8, .inr (.inr (.inr (.inr (va_up (va_up (va_up (fun _ => none) 0 (some f0)) 1 (some f1)) 2 (some f2))))))), (f0, .inr (1, [.int 0, .int 0, .int 1, .int 0, .int 0, .ref p0])), (p0, .inl (cI, 8, .inl (fun _ => 0))), (f1, .inr (1, [.int 0, .int 0, .int 1, .int 0, .int 0, .ref p1])), (p1, .inl (cI, 8, .inl (fun _ => 0))), (f2, .inr (1, [.int 0, .int 0, .int 1, .int 0, .int 0, .ref p2])), (p2, .inl (cI, 8, .inl (fun _ => 0)))] H := hP
  have hD : va_D A [(h0, .inr (0, [.ref q1, .int 1, .int 0, .int 0, .int 0, .ref q2, .int 0, .ref q3, .int 0])), (q1, .inl (cI, 8, .inl (fun _ => 0))), (q2, .inl (cI, 8, .inl (fun _ => 0))), (q3, .inl (cF, 8, .inr (.inr (.inr (.inr (va_up (va_up (va_up (fun _ => none) 0 (some f0)) 1 (some f1)) 2 (some f2))))))), (f0, .inr (1, [.int 0, .int 0, .int 1, .int 0, .int 0, .ref p0])), (p0, .inl (cI, 8, .inl (fun _ => 0))), (f1, .inr (1, [.int 0, .int 0, .int 1, .int 0, .int 0, .ref p1])), (p1, .inl (cI, 8, .inl (fun _ => 0))), (f2, .inr (1, [.int 0, .int 0, .int 1, .int 0, .int 0, .ref p2])), (p2, .inl (cI, 8, .inl (fun _ => 0)))] := hD
  refine lv_iinc (v := nI 3) (lv' := [(1, .int (nI 3)), (0, .ref h0)]) hx hb d_ModeKeeper_init_80 hl (k := 0) rfl (by decide +kernel) (by decide) rfl (fun ls hl => ?_)
  refine lv_goto (tgt := 61) hx hb d_ModeKeeper_init_83 (by decide) ?_
  refine lv_iload_n hx hb d_ModeKeeper_init_61 rfl (lv_at hl 0 rfl) ?_
  refine lv_bipush (v := 8) hx hb d_ModeKeeper_init_62 (by decide) ?_
  refine lv_icmp_ge (tgt := 86) hx hb d_ModeKeeper_init_64 (by decide) (fun c9 => absurd c9 (by decide +kernel)) (fun _ => ?_)
  refine lv_aload_n hx hb d_ModeKeeper_init_67 rfl (lv_at hl 1 rfl) ?_
  refine va_get (D := (dC, dI)) (ci := 0) (v := .ref q3) (C := R_ModeKeeper) (T := F_ModeKeeper) (N := 9) hx hb hq iw_K hown hK hP 0 rfl rfl 7 (by decide) (hq _ qk_0) (fun _ h9 => h9) rfl d_ModeKeeper_init_68 ?_
  refine lv_iload_n hx hb d_ModeKeeper_init_71 rfl (lv_at hl 0 rfl) ?_
  refine va_new (D := (dC, dI)) (ci := 1) (fs := [.int 0, .int 0, .int 0, .int 0, .int 0, .null]) (C := R_Form) (T := F_Form) (N := 6) hx hb hq iw_F t_Form t_Form_ok hown (hq _ qk_42) (hq _ qk_43) (hq _ qk_44) hK hP hD hS hA rfl (fun j hj => by rcases (show j = 0 ∨ j = 1 ∨ j = 2 ∨ j = 3 ∨ j = 4 ∨ j = 5 by omega) with rfl | rfl | rfl | rfl | rfl | rfl <;> rfl) (Nat.le_of_ble_eq_true rfl) (Nat.le_of_ble_eq_true rfl) d_ModeKeeper_init_72 (fun f3 H hP hD hS => ?_)
  refine W.widen (k := 10) (n := 72) (by omega) (by omega) ?_
  have hP : va_P (dC, dI) classes [(h0, .inr (0, [.ref q1, .int 1, .int 0, .int 0, .int 0, .ref q2, .int 0, .ref q3, .int 0])), (q1, .inl (cI, 8, .inl (fun _ => 0))), (q2, .inl (cI, 8, .inl (fun _ => 0))), (q3, .inl (cF, 8, .inr (.inr (.inr (.inr (va_up (va_up (va_up (fun _ => none) 0 (some f0)) 1 (some f1)) 2 (some f2))))))), (f0, .inr (1, [.int 0, .int 0, .int 1, .int 0, .int 0, .ref p0])), (p0, .inl (cI, 8, .inl (fun _ => 0))), (f1, .inr (1, [.int 0, .int 0, .int 1, .int 0, .int 0, .ref p1])), (p1, .inl (cI, 8, .inl (fun _ => 0))), (f2, .inr (1, [.int 0, .int 0, .int 1, .int 0, .int 0, .ref p2])), (p2, .inl (cI, 8, .inl (fun _ => 0))), (f3, .inr (1, [.int 0, .int 0, .int 0, .int 0, .int 0, .null]))] H := hP
  have hD : va_D A [(h0, .inr (0, [.ref q1, .int 1, .int 0, .int 0, .int 0, .ref q2, .int 0, .ref q3, .int 0])), (q1, .inl (cI, 8, .inl (fun _ => 0))), (q2, .inl (cI, 8, .inl (fun _ => 0))), (q3, .inl (cF, 8, .inr (.inr (.inr (.inr (va_up (va_up (va_up (fun _ => none) 0 (some f0)) 1 (some f1)) 2 (some f2))))))), (f0, .inr (1, [.int 0, .int 0, .int 1, .int 0, .int 0, .ref p0])), (p0, .inl (cI, 8, .inl (fun _ => 0))), (f1, .inr (1, [.int 0, .int 0, .int 1, .int 0, .int 0, .ref p1])), (p1, .inl (cI, 8, .inl (fun _ => 0))), (f2, .inr (1, [.int 0, .int 0, .int 1, .int 0, .int 0, .ref p2])), (p2, .inl (cI, 8, .inl (fun _ => 0))), (f3, .inr (1, [.int 0, .int 0, .int 0, .int 0, .int 0, .null]))] := hD
  refine lv_dup hx hb d_ModeKeeper_init_75 rfl ?_
  have hPc := hP.sub (ws' := [(f3, .inr (1, [.int 0, .int 0, .int 0, .int 0, .int 0, .null]))]) [10] rfl
  have hDc := hD.sub (ws' := [(f3, .inr (1, [.int 0, .int 0, .int 0, .int 0, .int 0, .null]))]) [10] (by decide) rfl
  have hFc := va_free (wc := [(f3, .inr (1, [.int 0, .int 0, .int 0, .int 0, .int 0, .null]))]) hD hS hA [10] rfl
  refine va_callv (va_runIN (As := []) (rest := [.ref f3, .int (nI 3), .ref q3]) ⟨hx, hb, hml, hown, hq⟩ (c_Form_init l dC dI f3 H.size cI) ⟨va_cnB 0 hq (gd m_Form_init) rfl rfl rfl hN.2.2.2.2.2.2.1 (hq _ qk_44) (by decide +kernel) ⟨Nat.le_of_ble_eq_true rfl, Nat.le_of_ble_eq_true rfl⟩, rfl, (hq _ qk_45)⟩ ⟨g_blind, g_pre hPc (hK.sub (tys' := [(cI, .int)]) [0] rfl) hDc hN⟩ rfl rfl hl.1 rfl (lv_room (Nat.le_of_ble_eq_true rfl)) d_ModeKeeper_init_76 ⟨Nat.le_of_ble_eq_true rfl, Nat.le_of_ble_eq_true rfl⟩) hS (fun q _ h => hFc q h) hFc (fun p3 t H1 locs ht hvm hw hB hz1 hk1 hS => ?_)
  obtain ⟨hP1, hD1⟩ := hB
  rw [ht] at hP1
  obtain ⟨hP, hD⟩ := va_join (wr := [(h0, .inr (0, [.ref q1, .int 1, .int 0, .int 0, .int 0, .ref q2, .int 0, .ref q3, .int 0])), (q1, .inl (cI, 8, .inl (fun _ => 0))), (q2, .inl (cI, 8, .inl (fun _ => 0))), (q3, .inl (cF, 8, .inr (.inr (.inr (.inr (va_up (va_up (va_up (fun _ => none) 0 (some f0)) 1 (some f1)) 2 (some f2))))))), (f0, .inr (1, [.int 0, .int 0, .int 1, .int 0, .int 0, .ref p0])), (p0, .inl (cI, 8, .inl (fun _ => 0))), (f1, .inr (1, [.int 0, .int 0, .int 1, .int 0, .int 0, .ref p1])), (p1, .inl (cI, 8, .inl (fun _ => 0))), (f2, .inr (1, [.int 0, .int 0, .int 1, .int 0, .int 0, .ref p2])), (p2, .inl (cI, 8, .inl (fun _ => 0)))]) (w1 := [(f3, .inr (1, [.int 0, .int 0, .int 1, .int 0, .int 0, .ref p3])), (p3, .inl (cI, 8, .inl (fun _ => 0)))]) hP hD [10] [0, 1, 2, 3, 4, 5, 6, 7, 8, 9] rfl rfl (by decide) (by decide) hk1 hFc hP1 hD1
  generalize H1 = H at hP hS ⊢
  refine W.widen (k := 11) (n := 80) (by omega) (by omega) ?_
  have hP : va_P (dC, dI) classes [(h0, .inr (0, [.ref q1, .int 1, .int 0, .int 0, .int 0, .ref q2, .int 0, .ref q3, .int 0])), (q1, .inl (cI, 8, .inl (fun _ => 0))), (q2, .inl (cI, 8, .inl (fun _ => 0))), (q3, .inl (cF, 8, .inr (.inr (.inr (.inr (va_up (va_up (va_up (fun _ => none) 0 (some f0)) 1 (some f1)) 2 (some f2))))))), (f0, .inr (1, [.int 0, .int 0, .int 1, .int 0, .int 0, .ref p0])), (p0, .inl (cI, 8, .inl (fun _ => 0))), (f1, .inr (1, [.int 0, .int 0, .int 1, .int 0, .int 0, .ref p1])), (p1, .inl (cI, 8, .inl (fun _ => 0))), (f2, .inr (1, [.int 0, .int 0, .int 1, .int 0, .int 0, .ref p2])), (p2, .inl (cI, 8, .inl (fun _ => 0))), (f3, .inr (1, [.int 0, .int 0, .int 1, .int 0, .int 0, .ref p3])), (p3, .inl (cI, 8, .inl (fun _ => 0)))] H := hP
  have hD : va_D A [(h0, .inr (0, [.ref q1, .int 1, .int 0, .int 0, .int 0, .ref q2, .int 0, .ref q3, .int 0])), (q1, .inl (cI, 8, .inl (fun _ => 0))), (q2, .inl (cI, 8, .inl (fun _ => 0))), (q3, .inl (cF, 8, .inr (.inr (.inr (.inr (va_up (va_up (va_up (fun _ => none) 0 (some f0)) 1 (some f1)) 2 (some f2))))))), (f0, .inr (1, [.int 0, .int 0, .int 1, .int 0, .int 0, .ref p0])), (p0, .inl (cI, 8, .inl (fun _ => 0))), (f1, .inr (1, [.int 0, .int 0, .int 1, .int 0, .int 0, .ref p1])), (p1, .inl (cI, 8, .inl (fun _ => 0))), (f2, .inr (1, [.int 0, .int 0, .int 1, .int 0, .int 0, .ref p2])), (p2, .inl (cI, 8, .inl (fun _ => 0))), (f3, .inr (1, [.int 0, .int 0, .int 1, .int 0, .int 0, .ref p3])), (p3, .inl (cI, 8, .inl (fun _ => 0)))] := hD
  refine g_ast (D := (dC, dI)) hx hb hK hP hD hS 3 1 10 1 (r := (R_Form, F_Form, 6)) rfl rfl rfl rfl (i := 3) (by decide) (by decide) d_ModeKeeper_init_79 (fun H locs hP hD hS => ?_)
  have hP : va_P (dC, dI) classes [(h0, .inr (0, [.ref q1, .int 1, .int 0, .int 0, .int 0, .ref q2, .int 0, .ref q3, .int 0])), (q1, .inl (cI, 8, .inl (fun _ => 0))), (q2, .inl (cI, 8, .inl (fun _ => 0))), (q3, .inl (cF, 8, .inr (.inr (.inr (.inr (va_up (va_up (va_up (va_up (fun _ => none) 0 (some f0)) 1 (some f1)) 2 (some f2)) 3 (some f3))))))), (f0, .inr (1, [.int 0, .int 0, .int 1, .int 0, .int 0, .ref p0])), (p0, .inl (cI, 8, .inl (fun _ => 0))), (f1, .inr (1, [.int 0, .int 0, .int 1, .int 0, .int 0, .ref p1])), (p1, .inl (cI, 8, .inl (fun _ => 0))), (f2, .inr (1, [.int 0, .int 0, .int 1, .int 0, .int 0, .ref p2])), (p2, .inl (cI, 8, .inl (fun _ => 0))), (f3, .inr (1, [.int 0, .int 0, .int 1, .int 0, .int 0, .ref p3])), (p3, .inl (cI, 8, .inl (fun _ => 0)))] H := hP
  have hD : va_D A [(h0, .inr (0, [.ref q1, .int 1, .int 0, .int 0, .int 0, .ref q2, .int 0, .ref q3, .int 0])), (q1, .inl (cI, 8, .inl (fun _ => 0))), (q2, .inl (cI, 8, .inl (fun _ => 0))), (q3, .inl (cF, 8, .inr (.inr (.inr (.inr (va_up (va_up (va_up (va_up (fun _ => none) 0 (some f0)) 1 (some f1)) 2 (some f2)) 3 (some f3))))))), (f0, .inr (1, [.int 0, .int 0, .int 1, .int 0, .int 0, .ref p0])), (p0, .inl (cI, 8, .inl (fun _ => 0))), (f1, .inr (1, [.int 0, .int 0, .int 1, .int 0, .int 0, .ref p1])), (p1, .inl (cI, 8, .inl (fun _ => 0))), (f2, .inr (1, [.int 0, .int 0, .int 1, .int 0, .int 0, .ref p2])), (p2, .inl (cI, 8, .inl (fun _ => 0))), (f3, .inr (1, [.int 0, .int 0, .int 1, .int 0, .int 0, .ref p3])), (p3, .inl (cI, 8, .inl (fun _ => 0)))] := hD
  refine lv_iinc (v := nI 4) (lv' := [(1, .int (nI 4)), (0, .ref h0)]) hx hb d_ModeKeeper_init_80 hl (k := 0) rfl (by decide +kernel) (by decide) rfl (fun ls hl => ?_)
  refine lv_goto (tgt := 61) hx hb d_ModeKeeper_init_83 (by decide) ?_
  refine lv_iload_n hx hb d_ModeKeeper_init_61 rfl (lv_at hl 0 rfl) ?_
  refine lv_bipush (v := 8) hx hb d_ModeKeeper_init_62 (by decide) ?_
  refine lv_icmp_ge (tgt := 86) hx hb d_ModeKeeper_init_64 (by decide) (fun c9 => absurd c9 (by decide +kernel)) (fun _ => ?_)
  refine lv_aload_n hx hb d_ModeKeeper_init_67 rfl (lv_at hl 1 rfl) ?_
  refine va_get (D := (dC, dI)) (ci := 0) (v := .ref q3) (C := R_ModeKeeper) (T := F_ModeKeeper) (N := 9) hx hb hq iw_K hown hK hP 0 rfl rfl 7 (by decide) (hq _ qk_0) (fun _ h9 => h9) rfl d_ModeKeeper_init_68 ?_
  refine lv_iload_n hx hb d_ModeKeeper_init_71 rfl (lv_at hl 0 rfl) ?_
  refine va_new (D := (dC, dI)) (ci := 1) (fs := [.int 0, .int 0, .int 0, .int 0, .int 0, .null]) (C := R_Form) (T := F_Form) (N := 6) hx hb hq iw_F t_Form t_Form_ok hown (hq _ qk_42) (hq _ qk_43) (hq _ qk_44) hK hP hD hS hA rfl (fun j hj => by rcases (show j = 0 ∨ j = 1 ∨ j = 2 ∨ j = 3 ∨ j = 4 ∨ j = 5 by omega) with rfl | rfl | rfl | rfl | rfl | rfl <;> rfl) (Nat.le_of_ble_eq_true rfl) (Nat.le_of_ble_eq_true rfl) d_ModeKeeper_init_72 (fun f4 H hP hD hS => ?_)
  refine W.widen (k := 12) (n := 86) (by omega) (by omega) ?_
  have hP : va_P (dC, dI) classes [(h0, .inr (0, [.ref q1, .int 1, .int 0, .int 0, .int 0, .ref q2, .int 0, .ref q3, .int 0])), (q1, .inl (cI, 8, .inl (fun _ => 0))), (q2, .inl (cI, 8, .inl (fun _ => 0))), (q3, .inl (cF, 8, .inr (.inr (.inr (.inr (va_up (va_up (va_up (va_up (fun _ => none) 0 (some f0)) 1 (some f1)) 2 (some f2)) 3 (some f3))))))), (f0, .inr (1, [.int 0, .int 0, .int 1, .int 0, .int 0, .ref p0])), (p0, .inl (cI, 8, .inl (fun _ => 0))), (f1, .inr (1, [.int 0, .int 0, .int 1, .int 0, .int 0, .ref p1])), (p1, .inl (cI, 8, .inl (fun _ => 0))), (f2, .inr (1, [.int 0, .int 0, .int 1, .int 0, .int 0, .ref p2])), (p2, .inl (cI, 8, .inl (fun _ => 0))), (f3, .inr (1, [.int 0, .int 0, .int 1, .int 0, .int 0, .ref p3])), (p3, .inl (cI, 8, .inl (fun _ => 0))), (f4, .inr (1, [.int 0, .int 0, .int 0, .int 0, .int 0, .null]))] H := hP
  have hD : va_D A [(h0, .inr (0, [.ref q1, .int 1, .int 0, .int 0, .int 0, .ref q2, .int 0, .ref q3, .int 0])), (q1, .inl (cI, 8, .inl (fun _ => 0))), (q2, .inl (cI, 8, .inl (fun _ => 0))), (q3, .inl (cF, 8, .inr (.inr (.inr (.inr (va_up (va_up (va_up (va_up (fun _ => none) 0 (some f0)) 1 (some f1)) 2 (some f2)) 3 (some f3))))))), (f0, .inr (1, [.int 0, .int 0, .int 1, .int 0, .int 0, .ref p0])), (p0, .inl (cI, 8, .inl (fun _ => 0))), (f1, .inr (1, [.int 0, .int 0, .int 1, .int 0, .int 0, .ref p1])), (p1, .inl (cI, 8, .inl (fun _ => 0))), (f2, .inr (1, [.int 0, .int 0, .int 1, .int 0, .int 0, .ref p2])), (p2, .inl (cI, 8, .inl (fun _ => 0))), (f3, .inr (1, [.int 0, .int 0, .int 1, .int 0, .int 0, .ref p3])), (p3, .inl (cI, 8, .inl (fun _ => 0))), (f4, .inr (1, [.int 0, .int 0, .int 0, .int 0, .int 0, .null]))] := hD
  refine lv_dup hx hb d_ModeKeeper_init_75 rfl ?_
  have hPc := hP.sub (ws' := [(f4, .inr (1, [.int 0, .int 0, .int 0, .int 0, .int 0, .null]))]) [12] rfl
  have hDc := hD.sub (ws' := [(f4, .inr (1, [.int 0, .int 0, .int 0, .int 0, .int 0, .null]))]) [12] (by decide) rfl
  have hFc := va_free (wc := [(f4, .inr (1, [.int 0, .int 0, .int 0, .int 0, .int 0, .null]))]) hD hS hA [12] rfl
  refine va_callv (va_runIN (As := []) (rest := [.ref f4, .int (nI 4), .ref q3]) ⟨hx, hb, hml, hown, hq⟩ (c_Form_init l dC dI f4 H.size cI) ⟨va_cnB 0 hq (gd m_Form_init) rfl rfl rfl hN.2.2.2.2.2.2.1 (hq _ qk_44) (by decide +kernel) ⟨Nat.le_of_ble_eq_true rfl, Nat.le_of_ble_eq_true rfl⟩, rfl, (hq _ qk_45)⟩ ⟨g_blind, g_pre hPc (hK.sub (tys' := [(cI, .int)]) [0] rfl) hDc hN⟩ rfl rfl hl.1 rfl (lv_room (Nat.le_of_ble_eq_true rfl)) d_ModeKeeper_init_76 ⟨Nat.le_of_ble_eq_true rfl, Nat.le_of_ble_eq_true rfl⟩) hS (fun q _ h => hFc q h) hFc (fun p4 t H1 locs ht hvm hw hB hz1 hk1 hS => ?_)
  obtain ⟨hP1, hD1⟩ := hB
  rw [ht] at hP1
  obtain ⟨hP, hD⟩ := va_join (wr := [(h0, .inr (0, [.ref q1, .int 1, .int 0, .int 0, .int 0, .ref q2, .int 0, .ref q3, .int 0])), (q1, .inl (cI, 8, .inl (fun _ => 0))), (q2, .inl (cI, 8, .inl (fun _ => 0))), (q3, .inl (cF, 8, .inr (.inr (.inr (.inr (va_up (va_up (va_up (va_up (fun _ => none) 0 (some f0)) 1 (some f1)) 2 (some f2)) 3 (some f3))))))), (f0, .inr (1, [.int 0, .int 0, .int 1, .int 0, .int 0, .ref p0])), (p0, .inl (cI, 8, .inl (fun _ => 0))), (f1, .inr (1, [.int 0, .int 0, .int 1, .int 0, .int 0, .ref p1])), (p1, .inl (cI, 8, .inl (fun _ => 0))), (f2, .inr (1, [.int 0, .int 0, .int 1, .int 0, .int 0, .ref p2])), (p2, .inl (cI, 8, .inl (fun _ => 0))), (f3, .inr (1, [.int 0, .int 0, .int 1, .int 0, .int 0, .ref p3])), (p3, .inl (cI, 8, .inl (fun _ => 0)))]) (w1 := [(f4, .inr (1, [.int 0, .int 0, .int 1, .int 0, .int 0, .ref p4])), (p4, .inl (cI, 8, .inl (fun _ => 0)))]) hP hD [12] [0, 1, 2, 3, 4, 5, 6, 7, 8, 9, 10, 11] rfl rfl (by decide) (by decide) hk1 hFc hP1 hD1
  generalize H1 = H at hP hS ⊢
  refine W.widen (k := 13) (n := 94) (by omega) (by omega) ?_
  have hP : va_P (dC, dI) classes [(h0, .inr (0, [.ref q1, .int 1, .int 0, .int 0, .int 0, .ref q2, .int 0, .ref q3, .int 0])), (q1, .inl (cI, 8, .inl (fun _ => 0))), (q2, .inl (cI, 8, .inl (fun _ => 0))), (q3, .inl (cF, 8, .inr (.inr (.inr (.inr (va_up (va_up (va_up (va_up (fun _ => none) 0 (some f0)) 1 (some f1)) 2 (some f2)) 3 (some f3))))))), (f0, .inr (1, [.int 0, .int 0, .int 1, .int 0, .int 0, .ref p0])), (p0, .inl (cI, 8, .inl (fun _ => 0))), (f1, .inr (1, [.int 0, .int 0, .int 1, .int 0, .int 0, .ref p1])), (p1, .inl (cI, 8, .inl (fun _ => 0))), (f2, .inr (1, [.int 0, .int 0, .int 1, .int 0, .int 0, .ref p2])), (p2, .inl (cI, 8, .inl (fun _ => 0))), (f3, .inr (1, [.int 0, .int 0, .int 1, .int 0, .int 0, .ref p3])), (p3, .inl (cI, 8, .inl (fun _ => 0))), (f4, .inr (1, [.int 0, .int 0, .int 1, .int 0, .int 0, .ref p4])), (p4, .inl (cI, 8, .inl (fun _ => 0)))] H := hP
  have hD : va_D A [(h0, .inr (0, [.ref q1, .int 1, .int 0, .int 0, .int 0, .ref q2, .int 0, .ref q3, .int 0])), (q1, .inl (cI, 8, .inl (fun _ => 0))), (q2, .inl (cI, 8, .inl (fun _ => 0))), (q3, .inl (cF, 8, .inr (.inr (.inr (.inr (va_up (va_up (va_up (va_up (fun _ => none) 0 (some f0)) 1 (some f1)) 2 (some f2)) 3 (some f3))))))), (f0, .inr (1, [.int 0, .int 0, .int 1, .int 0, .int 0, .ref p0])), (p0, .inl (cI, 8, .inl (fun _ => 0))), (f1, .inr (1, [.int 0, .int 0, .int 1, .int 0, .int 0, .ref p1])), (p1, .inl (cI, 8, .inl (fun _ => 0))), (f2, .inr (1, [.int 0, .int 0, .int 1, .int 0, .int 0, .ref p2])), (p2, .inl (cI, 8, .inl (fun _ => 0))), (f3, .inr (1, [.int 0, .int 0, .int 1, .int 0, .int 0, .ref p3])), (p3, .inl (cI, 8, .inl (fun _ => 0))), (f4, .inr (1, [.int 0, .int 0, .int 1, .int 0, .int 0, .ref p4])), (p4, .inl (cI, 8, .inl (fun _ => 0)))] := hD
  refine g_ast (D := (dC, dI)) hx hb hK hP hD hS 3 1 12 1 (r := (R_Form, F_Form, 6)) rfl rfl rfl rfl (i := 4) (by decide) (by decide) d_ModeKeeper_init_79 (fun H locs hP hD hS => ?_)
  have hP : va_P (dC, dI) classes [(h0, .inr (0, [.ref q1, .int 1, .int 0, .int 0, .int 0, .ref q2, .int 0, .ref q3, .int 0])), (q1, .inl (cI, 8, .inl (fun _ => 0))), (q2, .inl (cI, 8, .inl (fun _ => 0))), (q3, .inl (cF, 8, .inr (.inr (.inr (.inr (va_up (va_up (va_up (va_up (va_up (fun _ => none) 0 (some f0)) 1 (some f1)) 2 (some f2)) 3 (some f3)) 4 (some f4))))))), (f0, .inr (1, [.int 0, .int 0, .int 1, .int 0, .int 0, .ref p0])), (p0, .inl (cI, 8, .inl (fun _ => 0))), (f1, .inr (1, [.int 0, .int 0, .int 1, .int 0, .int 0, .ref p1])), (p1, .inl (cI, 8, .inl (fun _ => 0))), (f2, .inr (1, [.int 0, .int 0, .int 1, .int 0, .int 0, .ref p2])), (p2, .inl (cI, 8, .inl (fun _ => 0))), (f3, .inr (1, [.int 0, .int 0, .int 1, .int 0, .int 0, .ref p3])), (p3, .inl (cI, 8, .inl (fun _ => 0))), (f4, .inr (1, [.int 0, .int 0, .int 1, .int 0, .int 0, .ref p4])), (p4, .inl (cI, 8, .inl (fun _ => 0)))] H := hP
  have hD : va_D A [(h0, .inr (0, [.ref q1, .int 1, .int 0, .int 0, .int 0, .ref q2, .int 0, .ref q3, .int 0])), (q1, .inl (cI, 8, .inl (fun _ => 0))), (q2, .inl (cI, 8, .inl (fun _ => 0))), (q3, .inl (cF, 8, .inr (.inr (.inr (.inr (va_up (va_up (va_up (va_up (va_up (fun _ => none) 0 (some f0)) 1 (some f1)) 2 (some f2)) 3 (some f3)) 4 (some f4))))))), (f0, .inr (1, [.int 0, .int 0, .int 1, .int 0, .int 0, .ref p0])), (p0, .inl (cI, 8, .inl (fun _ => 0))), (f1, .inr (1, [.int 0, .int 0, .int 1, .int 0, .int 0, .ref p1])), (p1, .inl (cI, 8, .inl (fun _ => 0))), (f2, .inr (1, [.int 0, .int 0, .int 1, .int 0, .int 0, .ref p2])), (p2, .inl (cI, 8, .inl (fun _ => 0))), (f3, .inr (1, [.int 0, .int 0, .int 1, .int 0, .int 0, .ref p3])), (p3, .inl (cI, 8, .inl (fun _ => 0))), (f4, .inr (1, [.int 0, .int 0, .int 1, .int 0, .int 0, .ref p4])), (p4, .inl (cI, 8, .inl (fun _ => 0)))] := hD
  refine lv_iinc (v := nI 5) (lv' := [(1, .int (nI 5)), (0, .ref h0)]) hx hb d_ModeKeeper_init_80 hl (k := 0) rfl (by decide +kernel) (by decide) rfl (fun ls hl => ?_)
  refine lv_goto (tgt := 61) hx hb d_ModeKeeper_init_83 (by decide) ?_
  refine lv_iload_n hx hb d_ModeKeeper_init_61 rfl (lv_at hl 0 rfl) ?_
  refine lv_bipush (v := 8) hx hb d_ModeKeeper_init_62 (by decide) ?_
  refine lv_icmp_ge (tgt := 86) hx hb d_ModeKeeper_init_64 (by decide) (fun c9 => absurd c9 (by decide +kernel)) (fun _ => ?_)
  refine lv_aload_n hx hb d_ModeKeeper_init_67 rfl (lv_at hl 1 rfl) ?_
  refine va_get (D := (dC, dI)) (ci := 0) (v := .ref q3) (C := R_ModeKeeper) (T := F_ModeKeeper) (N := 9) hx hb hq iw_K hown hK hP 0 rfl rfl 7 (by decide) (hq _ qk_0) (fun _ h9 => h9) rfl d_ModeKeeper_init_68 ?_
  refine lv_iload_n hx hb d_ModeKeeper_init_71 rfl (lv_at hl 0 rfl) ?_
  refine va_new (D := (dC, dI)) (ci := 1) (fs := [.int 0, .int 0, .int 0, .int 0, .int 0, .null]) (C := R_Form) (T := F_Form) (N := 6) hx hb hq iw_F t_Form t_Form_ok hown (hq _ qk_42) (hq _ qk_43) (hq _ qk_44) hK hP hD hS hA rfl (fun j hj => by rcases (show j = 0 ∨ j = 1 ∨ j = 2 ∨ j = 3 ∨ j = 4 ∨ j = 5 by omega) with rfl | rfl | rfl | rfl | rfl | rfl <;> rfl) (Nat.le_of_ble_eq_true rfl) (Nat.le_of_ble_eq_true rfl) d_ModeKeeper_init_72 (fun f5 H hP hD hS => ?_)
  refine W.widen (k := 14) (n := 100) (by omega) (by omega) ?_
  have hP : va_P (dC, dI) classes [(h0, .inr (0, [.ref q1, .int 1, .int 0, .int 0, .int 0, .ref q2, .int 0, .ref q3, .int 0])), (q1, .inl (cI, 8, .inl (fun _ => 0))), (q2, .inl (cI, 8, .inl (fun _ => 0))), (q3, .inl (cF, 8, .inr (.inr (.inr (.inr (va_up (va_up (va_up (va_up (va_up (fun _ => none) 0 (some f0)) 1 (some f1)) 2 (some f2)) 3 (some f3)) 4 (some f4))))))), (f0, .inr (1, [.int 0, .int 0, .int 1, .int 0, .int 0, .ref p0])), (p0, .inl (cI, 8, .inl (fun _ => 0))), (f1, .inr (1, [.int 0, .int 0, .int 1, .int 0, .int 0, .ref p1])), (p1, .inl (cI, 8, .inl (fun _ => 0))), (f2, .inr (1, [.int 0, .int 0, .int 1, .int 0, .int 0, .ref p2])), (p2, .inl (cI, 8, .inl (fun _ => 0))), (f3, .inr (1, [.int 0, .int 0, .int 1, .int 0, .int 0, .ref p3])), (p3, .inl (cI, 8, .inl (fun _ => 0))), (f4, .inr (1, [.int 0, .int 0, .int 1, .int 0, .int 0, .ref p4])), (p4, .inl (cI, 8, .inl (fun _ => 0))), (f5, .inr (1, [.int 0, .int 0, .int 0, .int 0, .int 0, .null]))] H := hP
  have hD : va_D A [(h0, .inr (0, [.ref q1, .int 1, .int 0, .int 0, .int 0, .ref q2, .int 0, .ref q3, .int 0])), (q1, .inl (cI, 8, .inl (fun _ => 0))), (q2, .inl (cI, 8, .inl (fun _ => 0))), (q3, .inl (cF, 8, .inr (.inr (.inr (.inr (va_up (va_up (va_up (va_up (va_up (fun _ => none) 0 (some f0)) 1 (some f1)) 2 (some f2)) 3 (some f3)) 4 (some f4))))))), (f0, .inr (1, [.int 0, .int 0, .int 1, .int 0, .int 0, .ref p0])), (p0, .inl (cI, 8, .inl (fun _ => 0))), (f1, .inr (1, [.int 0, .int 0, .int 1, .int 0, .int 0, .ref p1])), (p1, .inl (cI, 8, .inl (fun _ => 0))), (f2, .inr (1, [.int 0, .int 0, .int 1, .int 0, .int 0, .ref p2])), (p2, .inl (cI, 8, .inl (fun _ => 0))), (f3, .inr (1, [.int 0, .int 0, .int 1, .int 0, .int 0, .ref p3])), (p3, .inl (cI, 8, .inl (fun _ => 0))), (f4, .inr (1, [.int 0, .int 0, .int 1, .int 0, .int 0, .ref p4])), (p4, .inl (cI, 8, .inl (fun _ => 0))), (f5, .inr (1, [.int 0, .int 0, .int 0, .int 0, .int 0, .null]))] := hD
  refine lv_dup hx hb d_ModeKeeper_init_75 rfl ?_
  have hPc := hP.sub (ws' := [(f5, .inr (1, [.int 0, .int 0, .int 0, .int 0, .int 0, .null]))]) [14] rfl
  have hDc := hD.sub (ws' := [(f5, .inr (1, [.int 0, .int 0, .int 0, .int 0, .int 0, .null]))]) [14] (by decide) rfl
  have hFc := va_free (wc := [(f5, .inr (1, [.int 0, .int 0, .int 0, .int 0, .int 0, .null]))]) hD hS hA [14] rfl
  refine va_callv (va_runIN (As := []) (rest := [.ref f5, .int (nI 5), .ref q3]) ⟨hx, hb, hml, hown, hq⟩ (c_Form_init l dC dI f5 H.size cI) ⟨va_cnB 0 hq (gd m_Form_init) rfl rfl rfl hN.2.2.2.2.2.2.1 (hq _ qk_44) (by decide +kernel) ⟨Nat.le_of_ble_eq_true rfl, Nat.le_of_ble_eq_true rfl⟩, rfl, (hq _ qk_45)⟩ ⟨g_blind, g_pre hPc (hK.sub (tys' := [(cI, .int)]) [0] rfl) hDc hN⟩ rfl rfl hl.1 rfl (lv_room (Nat.le_of_ble_eq_true rfl)) d_ModeKeeper_init_76 ⟨Nat.le_of_ble_eq_true rfl, Nat.le_of_ble_eq_true rfl⟩) hS (fun q _ h => hFc q h) hFc (fun p5 t H1 locs ht hvm hw hB hz1 hk1 hS => ?_)
  obtain ⟨hP1, hD1⟩ := hB
  rw [ht] at hP1
  obtain ⟨hP, hD⟩ := va_join (wr := [(h0, .inr (0, [.ref q1, .int 1, .int 0, .int 0, .int 0, .ref q2, .int 0, .ref q3, .int 0])), (q1, .inl (cI, 8, .inl (fun _ => 0))), (q2, .inl (cI, 8, .inl (fun _ => 0))), (q3, .inl (cF, 8, .inr (.inr (.inr (.inr (va_up (va_up (va_up (va_up (va_up (fun _ => none) 0 (some f0)) 1 (some f1)) 2 (some f2)) 3 (some f3)) 4 (some f4))))))), (f0, .inr (1, [.int 0, .int 0, .int 1, .int 0, .int 0, .ref p0])), (p0, .inl (cI, 8, .inl (fun _ => 0))), (f1, .inr (1, [.int 0, .int 0, .int 1, .int 0, .int 0, .ref p1])), (p1, .inl (cI, 8, .inl (fun _ => 0))), (f2, .inr (1, [.int 0, .int 0, .int 1, .int 0, .int 0, .ref p2])), (p2, .inl (cI, 8, .inl (fun _ => 0))), (f3, .inr (1, [.int 0, .int 0, .int 1, .int 0, .int 0, .ref p3])), (p3, .inl (cI, 8, .inl (fun _ => 0))), (f4, .inr (1, [.int 0, .int 0, .int 1, .int 0, .int 0, .ref p4])), (p4, .inl (cI, 8, .inl (fun _ => 0)))]) (w1 := [(f5, .inr (1, [.int 0, .int 0, .int 1, .int 0, .int 0, .ref p5])), (p5, .inl (cI, 8, .inl (fun _ => 0)))]) hP hD [14] [0, 1, 2, 3, 4, 5, 6, 7, 8, 9, 10, 11, 12, 13] rfl rfl (by decide) (by decide) hk1 hFc hP1 hD1
  generalize H1 = H at hP hS ⊢
  refine W.widen (k := 15) (n := 108) (by omega) (by omega) ?_
  have hP : va_P (dC, dI) classes [(h0, .inr (0, [.ref q1, .int 1, .int 0, .int 0, .int 0, .ref q2, .int 0, .ref q3, .int 0])), (q1, .inl (cI, 8, .inl (fun _ => 0))), (q2, .inl (cI, 8, .inl (fun _ => 0))), (q3, .inl (cF, 8, .inr (.inr (.inr (.inr (va_up (va_up (va_up (va_up (va_up (fun _ => none) 0 (some f0)) 1 (some f1)) 2 (some f2)) 3 (some f3)) 4 (some f4))))))), (f0, .inr (1, [.int 0, .int 0, .int 1, .int 0, .int 0, .ref p0])), (p0, .inl (cI, 8, .inl (fun _ => 0))), (f1, .inr (1, [.int 0, .int 0, .int 1, .int 0, .int 0, .ref p1])), (p1, .inl (cI, 8, .inl (fun _ => 0))), (f2, .inr (1, [.int 0, .int 0, .int 1, .int 0, .int 0, .ref p2])), (p2, .inl (cI, 8, .inl (fun _ => 0))), (f3, .inr (1, [.int 0, .int 0, .int 1, .int 0, .int 0, .ref p3])), (p3, .inl (cI, 8, .inl (fun _ => 0))), (f4, .inr (1, [.int 0, .int 0, .int 1, .int 0, .int 0, .ref p4])), (p4, .inl (cI, 8, .inl (fun _ => 0))), (f5, .inr (1, [.int 0, .int 0, .int 1, .int 0, .int 0, .ref p5])), (p5, .inl (cI, 8, .inl (fun _ => 0)))] H := hP
  have hD : va_D A [(h0, .inr (0, [.ref q1, .int 1, .int 0, .int 0, .int 0, .ref q2, .int 0, .ref q3, .int 0])), (q1, .inl (cI, 8, .inl (fun _ => 0))), (q2, .inl (cI, 8, .inl (fun _ => 0))), (q3, .inl (cF, 8, .inr (.inr (.inr (.inr (va_up (va_up (va_up (va_up (va_up (fun _ => none) 0 (some f0)) 1 (some f1)) 2 (some f2)) 3 (some f3)) 4 (some f4))))))), (f0, .inr (1, [.int 0, .int 0, .int 1, .int 0, .int 0, .ref p0])), (p0, .inl (cI, 8, .inl (fun _ => 0))), (f1, .inr (1, [.int 0, .int 0, .int 1, .int 0, .int 0, .ref p1])), (p1, .inl (cI, 8, .inl (fun _ => 0))), (f2, .inr (1, [.int 0, .int 0, .int 1, .int 0, .int 0, .ref p2])), (p2, .inl (cI, 8, .inl (fun _ => 0))), (f3, .inr (1, [.int 0, .int 0, .int 1, .int 0, .int 0, .ref p3])), (p3, .inl (cI, 8, .inl (fun _ => 0))), (f4, .inr (1, [.int 0, .int 0, .int 1, .int 0, .int 0, .ref p4])), (p4, .inl (cI, 8, .inl (fun _ => 0))), (f5, .inr (1, [.int 0, .int 0, .int 1, .int 0, .int 0, .ref p5])), (p5, .inl (cI, 8, .inl (fun _ => 0)))] := hD
  refine g_ast (D := (dC, dI)) hx hb hK hP hD hS 3 1 14 1 (r := (R_Form, F_Form, 6)) rfl rfl rfl rfl (i := 5) (by decide) (by decide) d_ModeKeeper_init_79 (fun H locs hP hD hS => ?_)
  have hP : va_P (dC, dI) classes [(h0, .inr (0, [.ref q1, .int 1, .int 0, .int 0, .int 0, .ref q2, .int 0, .ref q3, .int 0])), (q1, .inl (cI, 8, .inl (fun _ => 0))), (q2, .inl (cI, 8, .inl (fun _ => 0))), (q3, .inl (cF, 8, .inr (.inr (.inr (.inr (va_up (va_up (va_up (va_up (va_up (va_up (fun _ => none) 0 (some f0)) 1 (some f1)) 2 (some f2)) 3 (some f3)) 4 (some f4)) 5 (some f5))))))), (f0, .inr (1, [.int 0, .int 0, .int 1, .int 0, .int 0, .ref p0])), (p0, .inl (cI, 8, .inl (fun _ => 0))), (f1, .inr (1, [.int 0, .int 0, .int 1, .int 0, .int 0, .ref p1])), (p1, .inl (cI, 8, .inl (fun _ => 0))), (f2, .inr (1, [.int 0, .int 0, .int 1, .int 0, .int 0, .ref p2])), (p2, .inl (cI, 8, .inl (fun _ => 0))), (f3, .inr (1, [.int 0, .int 0, .int 1, .int 0, .int 0, .ref p3])), (p3, .inl (cI, 8, .inl (fun _ => 0))), (f4, .inr (1, [.int 0, .int 0, .int 1, .int 0, .int 0, .ref p4])), (p4, .inl (cI, 8, .inl (fun _ => 0))), (f5, .inr (1, [.int 0, .int 0, .int 1, .int 0, .int 0, .ref p5])), (p5, .inl (cI, 8, .inl (fun _ => 0)))] H := hP
  have hD : va_D A [(h0, .inr (0, [.ref q1, .int 1, .int 0, .int 0, .int 0, .ref q2, .int 0, .ref q3, .int 0])), (q1, .inl (cI, 8, .inl (fun _ => 0))), (q2, .inl (cI, 8, .inl (fun _ => 0))), (q3, .inl (cF, 8, .inr (.inr (.inr (.inr (va_up (va_up (va_up (va_up (va_up (va_up (fun _ => none) 0 (some f0)) 1 (some f1)) 2 (some f2)) 3 (some f3)) 4 (some f4)) 5 (some f5))))))), (f0, .inr (1, [.int 0, .int 0, .int 1, .int 0, .int 0, .ref p0])), (p0, .inl (cI, 8, .inl (fun _ => 0))), (f1, .inr (1, [.int 0, .int 0, .int 1, .int 0, .int 0, .ref p1])), (p1, .inl (cI, 8, .inl (fun _ => 0))), (f2, .inr (1, [.int 0, .int 0, .int 1, .int 0, .int 0, .ref p2])), (p2, .inl (cI, 8, .inl (fun _ => 0))), (f3, .inr (1, [.int 0, .int 0, .int 1, .int 0, .int 0, .ref p3])), (p3, .inl (cI, 8, .inl (fun _ => 0))), (f4, .inr (1, [.int 0, .int 0, .int 1, .int 0, .int 0, .ref p4])), (p4, .inl (cI, 8, .inl (fun _ => 0))), (f5, .inr (1, [.int 0, .int 0, .int 1, .int 0, .int 0, .ref p5])), (p5, .inl (cI, 8, .inl (fun _ => 0)))] := hD
  refine lv_iinc (v := nI 6) (lv' := [(1, .int (nI 6)), (0, .ref h0)]) hx hb d_ModeKeeper_init_80 hl (k := 0) rfl (by decide +kernel) (by decide) rfl (fun ls hl => ?_)
  refine lv_goto (tgt := 61) hx hb d_ModeKeeper_init_83 (by decide) ?_
  refine lv_iload_n hx hb d_ModeKeeper_init_61 rfl (lv_at hl 0 rfl) ?_
  refine lv_bipush (v := 8) hx hb d_ModeKeeper_init_62 (by decide) ?_
  refine lv_icmp_ge (tgt := 86) hx hb d_ModeKeeper_init_64 (by decide) (fun c9 => absurd c9 (by decide +kernel)) (fun _ => ?_)
  refine lv_aload_n hx hb d_ModeKeeper_init_67 rfl (lv_at hl 1 rfl) ?_
  refine va_get (D := (dC, dI)) (ci := 0) (v := .ref q3) (C := R_ModeKeeper) (T := F_ModeKeeper) (N := 9) hx hb hq iw_K hown hK hP 0 rfl rfl 7 (by decide) (hq _ qk_0) (fun _ h9 => h9) rfl d_ModeKeeper_init_68 ?_
  refine lv_iload_n hx hb d_ModeKeeper_init_71 rfl (lv_at hl 0 rfl) ?_
  refine va_new (D := (dC, dI)) (ci := 1) (fs := [.int 0, .int 0, .int 0, .int 0, .int 0, .null]) (C := R_Form) (T := F_Form) (N := 6) hx hb hq iw_F t_Form t_Form_ok hown (hq _ qk_42) (hq _ qk_43) (hq _ qk_44) hK hP hD hS hA rfl (fun j hj => by rcases (show j = 0 ∨ j = 1 ∨ j = 2 ∨ j = 3 ∨ j = 4 ∨ j = 5 by omega) with rfl | rfl | rfl | rfl | rfl | rfl <;> rfl) (Nat.le_of_ble_eq_true rfl) (Nat.le_of_ble_eq_true rfl) d_ModeKeeper_init_72 (fun f6 H hP hD hS => ?_)
  refine W.widen (k := 16) (n := 114) (by omega) (by omega) ?_
  have hP : va_P (dC, dI) classes [(h0, .inr (0, [.ref q1, .int 1, .int 0, .int 0, .int 0, .ref q2, .int 0, .ref q3, .int 0])), (q1, .inl (cI, 8, .inl (fun _ => 0))), (q2, .inl (cI, 8, .inl (fun _ => 0))), (q3, .inl (cF, 8, .inr (.inr (.inr (.inr (va_up (va_up (va_up (va_up (va_up (va_up (fun _ => none) 0 (some f0)) 1 (some f1)) 2 (some f2)) 3 (some f3)) 4 (some f4)) 5 (some f5))))))), (f0, .inr (1, [.int 0, .int 0, .int 1, .int 0, .int 0, .ref p0])), (p0, .inl (cI, 8, .inl (fun _ => 0))), (f1, .inr (1, [.int 0, .int 0, .int 1, .int 0, .int 0, .ref p1])), (p1, .inl (cI, 8, .inl (fun _ => 0))), (f2, .inr (1, [.int 0, .int 0, .int 1, .int 0, .int 0, .ref p2])), (p2, .inl (cI, 8, .inl (fun _ => 0))), (f3, .inr (1, [.int 0, .int 0, .int 1, .int 0, .int 0, .ref p3])), (p3, .inl (cI, 8, .inl (fun _ => 0))), (f4, .inr (1, [.int 0, .int 0, .int 1, .int 0, .int 0, .ref p4])), (p4, .inl (cI, 8, .inl (fun _ => 0))), (f5, .inr (1, [.int 0, .int 0, .int 1, .int 0, .int 0, .ref p5])), (p5, .inl (cI, 8, .inl (fun _ => 0))), (f6, .inr (1, [.int 0, .int 0, .int 0, .int 0, .int 0, .null]))] H := hP
  have hD : va_D A [(h0, .inr (0, [.ref q1, .int 1, .int 0, .int 0, .int 0, .ref q2, .int 0, .ref q3, .int 0])), (q1, .inl (cI, 8, .inl (fun _ => 0))), (q2, .inl (cI, 8, .inl (fun _ => 0))), (q3, .inl (cF, 8, .inr (.inr (.inr (.inr (va_up (va_up (va_up (va_up (va_up (va_up (fun _ => none) 0 (some f0)) 1 (some f1)) 2 (some f2)) 3 (some f3)) 4 (some f4)) 5 (some f5))))))), (f0, .inr (1, [.int 0, .int 0, .int 1, .int 0, .int 0, .ref p0])), (p0, .inl (cI, 8, .inl (fun _ => 0))), (f1, .inr (1, [.int 0, .int 0, .int 1, .int 0, .int 0, .ref p1])), (p1, .inl (cI, 8, .inl (fun _ => 0))), (f2, .inr (1, [.int 0, .int 0, .int 1, .int 0, .int 0, .ref p2])), (p2, .inl (cI, 8, .inl (fun _ => 0))), (f3, .inr (1, [.int 0, .int 0, .int 1, .int 0, .int 0, .ref p3])), (p3, .inl (cI, 8, .inl (fun _ => 0))), (f4, .inr (1, [.int 0, .int 0, .int 1, .int 0, .int 0, .ref p4])), (p4, .inl (cI, 8, .inl (fun _ => 0))), (f5, .inr (1, [.int 0, .int 0, .int 1, .int 0, .int 0, .ref p5])), (p5, .inl (cI, 8, .inl (fun _ => 0))), (f6, .inr (1, [.int 0, .int 0, .int 0, .int 0, .int 0, .null]))] := hD
  refine lv_dup hx hb d_ModeKeeper_init_75 rfl ?_
  have hPc := hP.sub (ws' := [(f6, .inr (1, [.int 0, .int 0, .int 0, .int 0, .int 0, .null]))]) [16] rfl
  have hDc := hD.sub (ws' := [(f6, .inr (1, [.int 0, .int 0, .int 0, .int 0, .int 0, .null]))]) [16] (by decide) rfl
  have hFc := va_free (wc := [(f6, .inr (1, [.int 0, .int 0, .int 0, .int 0, .int 0, .null]))]) hD hS hA [16] rfl
  refine va_callv (va_runIN (As := []) (rest := [.ref f6, .int (nI 6), .ref q3]) ⟨hx, hb, hml, hown, hq⟩ (c_Form_init l dC dI f6 H.size cI) ⟨va_cnB 0 hq (gd m_Form_init) rfl rfl rfl hN.2.2.2.2.2.2.1 (hq _ qk_44) (by decide +kernel) ⟨Nat.le_of_ble_eq_true rfl, Nat.le_of_ble_eq_true rfl⟩, rfl, (hq _ qk_45)⟩ ⟨g_blind, g_pre hPc (hK.sub (tys' := [(cI, .int)]) [0] rfl) hDc hN⟩ rfl rfl hl.1 rfl (lv_room (Nat.le_of_ble_eq_true rfl)) d_ModeKeeper_init_76 ⟨Nat.le_of_ble_eq_true rfl, Nat.le_of_ble_eq_true rfl⟩) hS (fun q _ h => hFc q h) hFc (fun p6 t H1 locs ht hvm hw hB hz1 hk1 hS => ?_)
  obtain ⟨hP1, hD1⟩ := hB
  rw [ht] at hP1
  obtain ⟨hP, hD⟩ := va_join (wr := [(h0, .inr (0, [.ref q1, .int 1, .int 0, .int 0, .int 0, .ref q2, .int 0, .ref q3, .int 0])), (q1, .inl (cI, 8, .inl (fun _ => 0))), (q2, .inl (cI, 8, .inl (fun _ => 0))), (q3, .inl (cF, 8, .inr (.inr (.inr (.inr (va_up (va_up (va_up (va_up (va_up (va_up (fun _ => none) 0 (some f0)) 1 (some f1)) 2 (some f2)) 3 (some f3)) 4 (some f4)) 5 (some f5))))))), (f0, .inr (1, [.int 0, .int 0, .int 1, .int 0, .int 0, .ref p0])), (p0, .inl (cI, 8, .inl (fun _ => 0))), (f1, .inr (1, [.int 0, .int 0, .int 1, .int 0, .int 0, .ref p1])), (p1, .inl (cI, 8, .inl (fun _ => 0))), (f2, .inr (1, [.int 0, .int 0, .int 1, .int 0, .int 0, .ref p2])), (p2, .inl (cI, 8, .inl (fun _ => 0))), (f3, .inr (1, [.int 0, .int 0, .int 1, .int 0, .int 0, .ref p3])), (p3, .inl (cI, 8, .inl (fun _ => 0))), (f4, .inr (1, [.int 0, .int 0, .int 1, .int 0, .int 0, .ref p4])), (p4, .inl (cI, 8, .inl (fun _ => 0))), (f5, .inr (1, [.int 0, .int 0, .int 1, .int 0, .int 0, .ref p5])), (p5, .inl (cI, 8, .inl (fun _ => 0)))]) (w1 := [(f6, .inr (1, [.int 0, .int 0, .int 1, .int 0, .int 0, .ref p6])), (p6, .inl (cI, 8, .inl (fun _ => 0)))]) hP hD [16] [0, 1, 2, 3, 4, 5, 6, 7, 8, 9, 10, 11, 12, 13, 14, 15] rfl rfl (by decide) (by decide) hk1 hFc hP1 hD1
  generalize H1 = H at hP hS ⊢
  refine W.widen (k := 17) (n := 122) (by omega) (by omega) ?_
  have hP : va_P (dC, dI) classes [(h0, .inr (0, [.ref q1, .int 1, .int 0, .int 0, .int 0, .ref q2, .int 0, .ref q3, .int 0])), (q1, .inl (cI, 8, .inl (fun _ => 0))), (q2, .inl (cI, 8, .inl (fun _ => 0))), (q3, .inl (cF, 8, .inr (.inr (.inr (.inr (va_up (va_up (va_up (va_up (va_up (va_up (fun _ => none) 0 (some f0)) 1 (some f1)) 2 (some f2)) 3 (some f3)) 4 (some f4)) 5 (some f5))))))), (f0, .inr (1, [.int 0, .int 0, .int 1, .int 0, .int 0, .ref p0])), (p0, .inl (cI, 8, .inl (fun _ => 0))), (f1, .inr (1, [.int 0, .int 0, .int 1, .int 0, .int 0, .ref p1])), (p1, .inl (cI, 8, .inl (fun _ => 0))), (f2, .inr (1, [.int 0, .int 0, .int 1, .int 0, .int 0, .ref p2])), (p2, .inl (cI, 8, .inl (fun _ => 0))), (f3, .inr (1, [.int 0, .int 0, .int 1, .int 0, .int 0, .ref p3])), (p3, .inl (cI, 8, .inl (fun _ => 0))), (f4, .inr (1, [.int 0, .int 0, .int 1, .int 0, .int 0, .ref p4])), (p4, .inl (cI, 8, .inl (fun _ => 0))), (f5, .inr (1, [.int 0, .int 0, .int 1, .int 0, .int 0, .ref p5])), (p5, .inl (cI, 8, .inl (fun _ => 0))), (f6, .inr (1, [.int 0, .int 0, .int 1, .int 0, .int 0, .ref p6])), (p6, .inl (cI, 8, .inl (fun _ => 0)))] H := hP
  have hD : va_D A [(h0, .inr (0, [.ref q1, .int 1, .int 0, .int 0, .int 0, .ref q2, .int 0, .ref q3, .int 0])), (q1, .inl (cI, 8, .inl (fun _ => 0))), (q2, .inl (cI, 8, .inl (fun _ => 0))), (q3, .inl (cF, 8, .inr (.inr (.inr (.inr (va_up (va_up (va_up (va_up (va_up (va_up (fun _ => none) 0 (some f0)) 1 (some f1)) 2 (some f2)) 3 (some f3)) 4 (some f4)) 5 (some f5))))))), (f0, .inr (1, [.int 0, .int 0, .int 1, .int 0, .int 0, .ref p0])), (p0, .inl (cI, 8, .inl (fun _ => 0))), (f1, .inr (1, [.int 0, .int 0, .int 1, .int 0, .int 0, .ref p1])), (p1, .inl (cI, 8, .inl (fun _ => 0))), (f2, .inr (1, [.int 0, .int 0, .int 1, .int 0, .int 0, .ref p2])), (p2, .inl (cI, 8, .inl (fun _ => 0))), (f3, .inr (1, [.int 0, .int 0, .int 1, .int 0, .int 0, .ref p3])), (p3, .inl (cI, 8, .inl (fun _ => 0))), (f4, .inr (1, [.int 0, .int 0, .int 1, .int 0, .int 0, .ref p4])), (p4, .inl (cI, 8, .inl (fun _ => 0))), (f5, .inr (1, [.int 0, .int 0, .int 1, .int 0, .int 0, .ref p5])), (p5, .inl (cI, 8, .inl (fun _ => 0))), (f6, .inr (1, [.int 0, .int 0, .int 1, .int 0, .int 0, .ref p6])), (p6, .inl (cI, 8, .inl (fun _ => 0)))] := hD
  refine g_ast (D := (dC, dI)) hx hb hK hP hD hS 3 1 16 1 (r := (R_Form, F_Form, 6)) rfl rfl rfl rfl (i := 6) (by decide) (by decide) d_ModeKeeper_init_79 (fun H locs hP hD hS => ?_)
  have hP : va_P (dC, dI) classes [(h0, .inr (0, [.ref q1, .int 1, .int 0, .int 0, .int 0, .ref q2, .int 0, .ref q3, .int 0])), (q1, .inl (cI, 8, .inl (fun _ => 0))), (q2, .inl (cI, 8, .inl (fun _ => 0))), (q3, .inl (cF, 8, .inr (.inr (.inr (.inr (va_up (va_up (va_up (va_up (va_up (va_up (va_up (fun _ => none) 0 (some f0)) 1 (some f1)) 2 (some f2)) 3 (some f3)) 4 (some f4)) 5 (some f5)) 6 (some f6))))))), (f0, .inr (1, [.int 0, .int 0, .int 1, .int 0, .int 0, .ref p0])), (p0, .inl (cI, 8, .inl (fun _ => 0))), (f1, .inr (1, [.int 0, .int 0, .int 1, .int 0, .int 0, .ref p1])), (p1, .inl (cI, 8, .inl (fun _ => 0))), (f2, .inr (1, [.int 0, .int 0, .int 1, .int 0, .int 0, .ref p2])), (p2, .inl (cI, 8, .inl (fun _ => 0))), (f3, .inr (1, [.int 0, .int 0, .int 1, .int 0, .int 0, .ref p3])), (p3, .inl (cI, 8, .inl (fun _ => 0))), (f4, .inr (1, [.int 0, .int 0, .int 1, .int 0, .int 0, .ref p4])), (p4, .inl (cI, 8, .inl (fun _ => 0))), (f5, .inr (1, [.int 0, .int 0, .int 1, .int 0, .int 0, .ref p5])), (p5, .inl (cI, 8, .inl (fun _ => 0))), (f6, .inr (1, [.int 0, .int 0, .int 1, .int 0, .int 0, .ref p6])), (p6, .inl (cI, 8, .inl (fun _ => 0)))] H := hP
  have hD : va_D A [(h0, .inr (0, [.ref q1, .int 1, .int 0, .int 0, .int 0, .ref q2, .int 0, .ref q3, .int 0])), (q1, .inl (cI, 8, .inl (fun _ => 0))), (q2, .inl (cI, 8, .inl (fun _ => 0))), (q3, .inl (cF, 8, .inr (.inr (.inr (.inr (va_up (va_up (va_up (va_up (va_up (va_up (va_up (fun _ => none) 0 (some f0)) 1 (some f1)) 2 (some f2)) 3 (some f3)) 4 (some f4)) 5 (some f5)) 6 (some f6))))))), (f0, .inr (1, [.int 0, .int 0, .int 1, .int 0, .int 0, .ref p0])), (p0, .inl (cI, 8, .inl (fun _ => 0))), (f1, .inr (1, [.int 0, .int 0, .int 1, .int 0, .int 0, .ref p1])), (p1, .inl (cI, 8, .inl (fun _ => 0))), (f2, .inr (1, [.int 0, .int 0, .int 1, .int 0, .int 0, .ref p2])), (p2, .inl (cI, 8, .inl (fun _ => 0))), (f3, .inr (1, [.int 0, .int 0, .int 1, .int 0, .int 0, .ref p3])), (p3, .inl (cI, 8, .inl (fun _ => 0))), (f4, .inr (1, [.int 0, .int 0, .int 1, .int 0, .int 0, .ref p4])), (p4, .inl (cI, 8, .inl (fun _ => 0))), (f5, .inr (1, [.int 0, .int 0, .int 1, .int 0, .int 0, .ref p5])), (p5, .inl (cI, 8, .inl (fun _ => 0))), (f6, .inr (1, [.int 0, .int 0, .int 1, .int 0, .int 0, .ref p6])), (p6, .inl (cI, 8, .inl (fun _ => 0)))] := hD
  refine lv_iinc (v := nI 7) (lv' := [(1, .int (nI 7)), (0, .ref h0)]) hx hb d_ModeKeeper_init_80 hl (k := 0) rfl (by decide +kernel) (by decide) rfl (fun ls hl => ?_)
  refine lv_goto (tgt := 61) hx hb d_ModeKeeper_init_83 (by decide) ?_
  refine lv_iload_n hx hb d_ModeKeeper_init_61 rfl (lv_at hl 0 rfl) ?_
  refine lv_bipush (v := 8) hx hb d_ModeKeeper_init_62 (by decide) ?_
  refine lv_icmp_ge (tgt := 86) hx hb d_ModeKeeper_init_64 (by decide) (fun c9 => absurd c9 (by decide +kernel)) (fun _ => ?_)
  refine lv_aload_n hx hb d_ModeKeeper_init_67 rfl (lv_at hl 1 rfl) ?_
  refine va_get (D := (dC, dI)) (ci := 0) (v := .ref q3) (C := R_ModeKeeper) (T := F_ModeKeeper) (N := 9) hx hb hq iw_K hown hK hP 0 rfl rfl 7 (by decide) (hq _ qk_0) (fun _ h9 => h9) rfl d_ModeKeeper_init_68 ?_
  refine lv_iload_n hx hb d_ModeKeeper_init_71 rfl (lv_at hl 0 rfl) ?_
  refine va_new (D := (dC, dI)) (ci := 1) (fs := [.int 0, .int 0, .int 0, .int 0, .int 0, .null]) (C := R_Form) (T := F_Form) (N := 6) hx hb hq iw_F t_Form t_Form_ok hown (hq _ qk_42) (hq _ qk_43) (hq _ qk_44) hK hP hD hS hA rfl (fun j hj => by rcases (show j = 0 ∨ j = 1 ∨ j = 2 ∨ j = 3 ∨ j = 4 ∨ j = 5 by omega) with rfl | rfl | rfl | rfl | rfl | rfl <;> rfl) (Nat.le_of_ble_eq_true rfl) (Nat.le_of_ble_eq_true rfl) d_ModeKeeper_init_72 (fun f7 H hP hD hS => ?_)
  refine W.widen (k := 18) (n := 128) (by omega) (by omega) ?_
  have hP : va_P (dC, dI) classes [(h0, .inr (0, [.ref q1, .int 1, .int 0, .int 0, .int 0, .ref q2, .int 0, .ref q3, .int 0])), (q1, .inl (cI, 8, .inl (fun _ => 0))), (q2, .inl (cI, 8, .inl (fun _ => 0))), (q3, .inl (cF, 8, .inr (.inr (.inr (.inr (va_up (va_up (va_up (va_up (va_up (va_up (va_up (fun _ => none) 0 (some f0)) 1 (some f1)) 2 (some f2)) 3 (some f3)) 4 (some f4)) 5 (some f5)) 6 (some f6))))))), (f0, .inr (1, [.int 0, .int 0, .int 1, .int 0, .int 0, .ref p0])), (p0, .inl (cI, 8, .inl (fun _ => 0))), (f1, .inr (1, [.int 0, .int 0, .int 1, .int 0, .int 0, .ref p1])), (p1, .inl (cI, 8, .inl (fun _ => 0))), (f2, .inr (1, [.int 0, .int 0, .int 1, .int 0, .int 0, .ref p2])), (p2, .inl (cI, 8, .inl (fun _ => 0))), (f3, .inr (1, [.int 0, .int 0, .int 1, .int 0, .int 0, .ref p3])), (p3, .inl (cI, 8, .inl (fun _ => 0))), (f4, .inr (1, [.int 0, .int 0, .int 1, .int 0, .int 0, .ref p4])), (p4, .inl (cI, 8, .inl (fun _ => 0))), (f5, .inr (1, [.int 0, .int 0, .int 1, .int 0, .int 0, .ref p5])), (p5, .inl (cI, 8, .inl (fun _ => 0))), (f6, .inr (1, [.int 0, .int 0, .int 1, .int 0, .int 0, .ref p6])), (p6, .inl (cI, 8, .inl (fun _ => 0))), (f7, .inr (1, [.int 0, .int 0, .int 0, .int 0, .int 0, .null]))] H := hP
  have hD : va_D A [(h0, .inr (0, [.ref q1, .int 1, .int 0, .int 0, .int 0, .ref q2, .int 0, .ref q3, .int 0])), (q1, .inl (cI, 8, .inl (fun _ => 0))), (q2, .inl (cI, 8, .inl (fun _ => 0))), (q3, .inl (cF, 8, .inr (.inr (.inr (.inr (va_up (va_up (va_up (va_up (va_up (va_up (va_up (fun _ => none) 0 (some f0)) 1 (some f1)) 2 (some f2)) 3 (some f3)) 4 (some f4)) 5 (some f5)) 6 (some f6))))))), (f0, .inr (1, [.int 0, .int 0, .int 1, .int 0, .int 0, .ref p0])), (p0, .inl (cI, 8, .inl (fun _ => 0))), (f1, .inr (1, [.int 0, .int 0, .int 1, .int 0, .int 0, .ref p1])), (p1, .inl (cI, 8, .inl (fun _ => 0))), (f2, .inr (1, [.int 0, .int 0, .int 1, .int 0, .int 0, .ref p2])), (p2, .inl (cI, 8, .inl (fun _ => 0))), (f3, .inr (1, [.int 0, .int 0, .int 1, .int 0, .int 0, .ref p3])), (p3, .inl (cI, 8, .inl (fun _ => 0))), (f4, .inr (1, [.int 0, .int 0, .int 1, .int 0, .int 0, .ref p4])), (p4, .inl (cI, 8, .inl (fun _ => 0))), (f5, .inr (1, [.int 0, .int 0, .int 1, .int 0, .int 0, .ref p5])), (p5, .inl (cI, 8, .inl (fun _ => 0))), (f6, .inr (1, [.int 0, .int 0, .int 1, .int 0, .int 0, .ref p6])), (p6, .inl (cI, 8, .inl (fun _ => 0))), (f7, .inr (1, [.int 0, .int 0, .int 0, .int 0, .int 0, .null]))] := hD
  refine lv_dup hx hb d_ModeKeeper_init_75 rfl ?_
  have hPc := hP.sub (ws' := [(f7, .inr (1, [.int 0, .int 0, .int 0, .int 0, .int 0, .null]))]) [18] rfl
  have hDc := hD.sub (ws' := [(f7, .inr (1, [.int 0, .int 0, .int 0, .int 0, .int 0, .null]))]) [18] (by decide) rfl
  have hFc := va_free (wc := [(f7, .inr (1, [.int 0, .int 0, .int 0, .int 0, .int 0, .null]))]) hD hS hA [18] rfl
  refine va_callv (va_runIN (As := []) (rest := [.ref f7, .int (nI 7), .ref q3]) ⟨hx, hb, hml, hown, hq⟩ (c_Form_init l dC dI f7 H.size cI) ⟨va_cnB 0 hq (gd m_Form_init) rfl rfl rfl hN.2.2.2.2.2.2.1 (hq _ qk_44) (by decide +kernel) ⟨Nat.le_of_ble_eq_true rfl, Nat.le_of_ble_eq_true rfl⟩, rfl, (hq _ qk_45)⟩ ⟨g_blind, g_pre hPc (hK.sub (tys' := [(cI, .int)]) [0] rfl) hDc hN⟩ rfl rfl hl.1 rfl (lv_room (Nat.le_of_ble_eq_true rfl)) d_ModeKeeper_init_76 ⟨Nat.le_of_ble_eq_true rfl, Nat.le_of_ble_eq_true rfl⟩) hS (fun q _ h => hFc q h) hFc (fun p7 t H1 locs ht hvm hw hB hz1 hk1 hS => ?_)
  obtain ⟨hP1, hD1⟩ := hB
  rw [ht] at hP1
  obtain ⟨hP, hD⟩ := va_join (wr := [(h0, .inr (0, [.ref q1, .int 1, .int 0, .int 0, .int 0, .ref q2, .int 0, .ref q3, .int 0])), (q1, .inl (cI, 8, .inl (fun _ => 0))), (q2, .inl (cI, 8, .inl (fun _ => 0))), (q3, .inl (cF, 8, .inr (.inr (.inr (.inr (va_up (va_up (va_up (va_up (va_up (va_up (va_up (fun _ => none) 0 (some f0)) 1 (some f1)) 2 (some f2)) 3 (some f3)) 4 (some f4)) 5 (some f5)) 6 (some f6))))))), (f0, .inr (1, [.int 0, .int 0, .int 1, .int 0, .int 0, .ref p0])), (p0, .inl (cI, 8, .inl (fun _ => 0))), (f1, .inr (1, [.int 0, .int 0, .int 1, .int 0, .int 0, .ref p1])), (p1, .inl (cI, 8, .inl (fun _ => 0))), (f2, .inr (1, [.int 0, .int 0, .int 1, .int 0, .int 0, .ref p2])), (p2, .inl (cI, 8, .inl (fun _ => 0))), (f3, .inr (1, [.int 0, .int 0, .int 1, .int 0, .int 0, .ref p3])), (p3, .inl (cI, 8, .inl (fun _ => 0))), (f4, .inr (1, [.int 0, .int 0, .int 1, .int 0, .int 0, .ref p4])), (p4, .inl (cI, 8, .inl (fun _ => 0))), (f5, .inr (1, [.int 0, .int 0, .int 1, .int 0, .int 0, .ref p5])), (p5, .inl (cI, 8, .inl (fun _ => 0))), (f6, .inr (1, [.int 0, .int 0, .int 1, .int 0, .int 0, .ref p6])), (p6, .inl (cI, 8, .inl (fun _ => 0)))]) (w1 := [(f7, .inr (1, [.int 0, .int 0, .int 1, .int 0, .int 0, .ref p7])), (p7, .inl (cI, 8, .inl (fun _ => 0)))]) hP hD [18] [0, 1, 2, 3, 4, 5, 6, 7, 8, 9, 10, 11, 12, 13, 14, 15, 16, 17] rfl rfl (by decide) (by decide) hk1 hFc hP1 hD1
  generalize H1 = H at hP hS ⊢
  refine W.widen (k := 19) (n := 136) (by omega) (by omega) ?_
  have hP : va_P (dC, dI) classes [(h0, .inr (0, [.ref q1, .int 1, .int 0, .int 0, .int 0, .ref q2, .int 0, .ref q3, .int 0])), (q1, .inl (cI, 8, .inl (fun _ => 0))), (q2, .inl (cI, 8, .inl (fun _ => 0))), (q3, .inl (cF, 8, .inr (.inr (.inr (.inr (va_up (va_up (va_up (va_up (va_up (va_up (va_up (fun _ => none) 0 (some f0)) 1 (some f1)) 2 (some f2)) 3 (some f3)) 4 (some f4)) 5 (some f5)) 6 (some f6))))))), (f0, .inr (1, [.int 0, .int 0, .int 1, .int 0, .int 0, .ref p0])), (p0, .inl (cI, 8, .inl (fun _ => 0))), (f1, .inr (1, [.int 0, .int 0, .int 1, .int 0, .int 0, .ref p1])), (p1, .inl (cI, 8, .inl (fun _ => 0))), (f2, .inr (1, [.int 0, .int 0, .int 1, .int 0, .int 0, .ref p2])), (p2, .inl (cI, 8, .inl (fun _ => 0))), (f3, .inr (1, [.int 0, .int 0, .int 1, .int 0, .int 0, .ref p3])), (p3, .inl (cI, 8, .inl (fun _ => 0))), (f4, .inr (1, [.int 0, .int 0, .int 1, .int 0, .int 0, .ref p4])), (p4, .inl (cI, 8, .inl (fun _ => 0))), (f5, .inr (1, [.int 0, .int 0, .int 1, .int 0, .int 0, .ref p5])), (p5, .inl (cI, 8, .inl (fun _ => 0))), (f6, .inr (1, [.int 0, .int 0, .int 1, .int 0, .int 0, .ref p6])), (p6, .inl (cI, 8, .inl (fun _ => 0))), (f7, .inr (1, [.int 0, .int 0, .int 1, .int 0, .int 0, .ref p7])), (p7, .inl (cI, 8, .inl (fun _ => 0)))] H := hP
  have hD : va_D A [(h0, .inr (0, [.ref q1, .int 1, .int 0, .int 0, .int 0, .ref q2, .int 0, .ref q3, .int 0])), (q1, .inl (cI, 8, .inl (fun _ => 0))), (q2, .inl (cI, 8, .inl (fun _ => 0))), (q3, .inl (cF, 8, .inr (.inr (.inr (.inr (va_up (va_up (va_up (va_up (va_up (va_up (va_up (fun _ => none) 0 (some f0)) 1 (some f1)) 2 (some f2)) 3 (some f3)) 4 (some f4)) 5 (some f5)) 6 (some f6))))))), (f0, .inr (1, [.int 0, .int 0, .int 1, .int 0, .int 0, .ref p0])), (p0, .inl (cI, 8, .inl (fun _ => 0))), (f1, .inr (1, [.int 0, .int 0, .int 1, .int 0, .int 0, .ref p1])), (p1, .inl (cI, 8, .inl (fun _ => 0))), (f2, .inr (1, [.int 0, .int 0, .int 1, .int 0, .int 0, .ref p2])), (p2, .inl (cI, 8, .inl (fun _ => 0))), (f3, .inr (1, [.int 0, .int 0, .int 1, .int 0, .int 0, .ref p3])), (p3, .inl (cI, 8, .inl (fun _ => 0))), (f4, .inr (1, [.int 0, .int 0, .int 1, .int 0, .int 0, .ref p4])), (p4, .inl (cI, 8, .inl (fun _ => 0))), (f5, .inr (1, [.int 0, .int 0, .int 1, .int 0, .int 0, .ref p5])), (p5, .inl (cI, 8, .inl (fun _ => 0))), (f6, .inr (1, [.int 0, .int 0, .int 1, .int 0, .int 0, .ref p6])), (p6, .inl (cI, 8, .inl (fun _ => 0))), (f7, .inr (1, [.int 0, .int 0, .int 1, .int 0, .int 0, .ref p7])), (p7, .inl (cI, 8, .inl (fun _ => 0)))] := hD
  refine g_ast (D := (dC, dI)) hx hb hK hP hD hS 3 1 18 1 (r := (R_Form, F_Form, 6)) rfl rfl rfl rfl (i := 7) (by decide) (by decide) d_ModeKeeper_init_79 (fun H locs hP hD hS => ?_)
  have hP : va_P (dC, dI) classes [(h0, .inr (0, [.ref q1, .int 1, .int 0, .int 0, .int 0, .ref q2, .int 0, .ref q3, .int 0])), (q1, .inl (cI, 8, .inl (fun _ => 0))), (q2, .inl (cI, 8, .inl (fun _ => 0))), (q3, .inl (cF, 8, .inr (.inr (.inr (.inr (va_up (va_up (va_up (va_up (va_up (va_up (va_up (va_up (fun _ => none) 0 (some f0)) 1 (some f1)) 2 (some f2)) 3 (some f3)) 4 (some f4)) 5 (some f5)) 6 (some f6)) 7 (some f7))))))), (f0, .inr (1, [.int 0, .int 0, .int 1, .int 0, .int 0, .ref p0])), (p0, .inl (cI, 8, .inl (fun _ => 0))), (f1, .inr (1, [.int 0, .int 0, .int 1, .int 0, .int 0, .ref p1])), (p1, .inl (cI, 8, .inl (fun _ => 0))), (f2, .inr (1, [.int 0, .int 0, .int 1, .int 0, .int 0, .ref p2])), (p2, .inl (cI, 8, .inl (fun _ => 0))), (f3, .inr (1, [.int 0, .int 0, .int 1, .int 0, .int 0, .ref p3])), (p3, .inl (cI, 8, .inl (fun _ => 0))), (f4, .inr (1, [.int 0, .int 0, .int 1, .int 0, .int 0, .ref p4])), (p4, .inl (cI, 8, .inl (fun _ => 0))), (f5, .inr (1, [.int 0, .int 0, .int 1, .int 0, .int 0, .ref p5])), (p5, .inl (cI, 8, .inl (fun _ => 0))), (f6, .inr (1, [.int 0, .int 0, .int 1, .int 0, .int 0, .ref p6])), (p6, .inl (cI, 8, .inl (fun _ => 0))), (f7, .inr (1, [.int 0, .int 0, .int 1, .int 0, .int 0, .ref p7])), (p7, .inl (cI, 8, .inl (fun _ => 0)))] H := hP
  have hD : va_D A [(h0, .inr (0, [.ref q1, .int 1, .int 0, .int 0, .int 0, .ref q2, .int 0, .ref q3, .int 0])), (q1, .inl (cI, 8, .inl (fun _ => 0))), (q2, .inl (cI, 8, .inl (fun _ => 0))), (q3, .inl (cF, 8, .inr (.inr (.inr (.inr (va_up (va_up (va_up (va_up (va_up (va_up (va_up (va_up (fun _ => none) 0 (some f0)) 1 (some f1)) 2 (some f2)) 3 (some f3)) 4 (some f4)) 5 (some f5)) 6 (some f6)) 7 (some f7))))))), (f0, .inr (1, [.int 0, .int 0, .int 1, .int 0, .int 0, .ref p0])), (p0, .inl (cI, 8, .inl (fun _ => 0))), (f1, .inr (1, [.int 0, .int 0, .int 1, .int 0, .int 0, .ref p1])), (p1, .inl (cI, 8, .inl (fun _ => 0))), (f2, .inr (1, [.int 0, .int 0, .int 1, .int 0, .int 0, .ref p2])), (p2, .inl (cI, 8, .inl (fun _ => 0))), (f3, .inr (1, [.int 0, .int 0, .int 1, .int 0, .int 0, .ref p3])), (p3, .inl (cI, 8, .inl (fun _ => 0))), (f4, .inr (1, [.int 0, .int 0, .int 1, .int 0, .int 0, .ref p4])), (p4, .inl (cI, 8, .inl (fun _ => 0))), (f5, .inr (1, [.int 0, .int 0, .int 1, .int 0, .int 0, .ref p5])), (p5, .inl (cI, 8, .inl (fun _ => 0))), (f6, .inr (1, [.int 0, .int 0, .int 1, .int 0, .int 0, .ref p6])), (p6, .inl (cI, 8, .inl (fun _ => 0))), (f7, .inr (1, [.int 0, .int 0, .int 1, .int 0, .int 0, .ref p7])), (p7, .inl (cI, 8, .inl (fun _ => 0)))] := hD
  refine lv_iinc (v := nI 8) (lv' := [(1, .int (nI 8)), (0, .ref h0)]) hx hb d_ModeKeeper_init_80 hl (k := 0) rfl (by decide +kernel) (by decide) rfl (fun ls hl => ?_)
  refine lv_goto (tgt := 61) hx hb d_ModeKeeper_init_83 (by decide) ?_
  refine lv_iload_n hx hb d_ModeKeeper_init_61 rfl (lv_at hl 0 rfl) ?_
  refine lv_bipush (v := 8) hx hb d_ModeKeeper_init_62 (by decide) ?_
  refine lv_icmp_ge (tgt := 86) hx hb d_ModeKeeper_init_64 (by decide) (fun _ => ?_) (fun c9 => absurd (by decide +kernel) c9)
  rw [gR_8 h0 q1 q2 q3 f0 f1 f2 f3 f4 f5 f6 f7 p0 p1 p2 p3 p4 p5 p6 p7] at hP hD
  obtain ⟨ad, had⟩ : ∃ ad : Nat → Nat, ad = fun j => ([h0, q1, q2, q3, f0, f1, f2, f3, f4, f5, f6, f7, p0, p1, p2, p3, p4, p5, p6, p7] : List Nat).getD j 0 := ⟨_, rfl⟩
  have hP9 : va_P (dC, dI) classes (wK ad cI cF kK0 (fun _ => 0) (fun _ => 0) kF0 (fun _ _ => 0)) H := by subst had; exact hP.sub [0, 1, 2, 3, 4, 6, 8, 10, 12, 14, 16, 18, 5, 7, 9, 11, 13, 15, 17, 19] rfl
  have hD9 : va_D A (wK ad cI cF kK0 (fun _ => 0) (fun _ => 0) kF0 (fun _ _ => 0)) := by subst had; exact hD.sub [0, 1, 2, 3, 4, 6, 8, 10, 12, 14, 16, 18, 5, 7, 9, 11, 13, 15, 17, 19] (by decide) rfl
  exact W.vret hx hb hrt (fun t ht hW => ⟨⟨(ad, cI, cF), rfl, by rw [had]; rfl, ⟨by rw [ht]; exact hP9, hD9⟩, va_K.moved hW.alike hK⟩, hS.F ht⟩) hS.2.2 d_ModeKeeper_init_86
end
section
/-! What the reference's methods answer and do. j: its own fields by their place (0 thrown, 1 mode, 3 alarmed, 4 alarm tick, 5 changes, 6 size); ac, tx: actuators and text; ev, on, mn: every, on, many by id; pm: parameters. -/
def mMvR (j : Nat → Int32) (a : Int32) : Int32 := if a < 0 then 18 else if a ≤ 7 then (if j 1 = 0 then 19 else 0) else 18
def mMvA (j ac : Nat → Int32) (a v : Int32) : Nat → Int32 := if a < 0 then ac else if a ≤ 7 then (if j 1 = 0 then ac else upd ac a.toNatClampNeg v) else ac
def mSafe (ac : Nat → Int32) : Nat → Int32 := upd (upd (upd (upd (upd (upd (upd (upd ac 0 0) 1 0) 2 0) 3 0) 4 50) 5 50) 6 100) 7 1
def mBeR (j : Nat → Int32) (m : Int32) : Int32 := if m = j 1 then 0 else 1
def mBeJ (j : Nat → Int32) (m : Int32) : Nat → Int32 := if m = j 1 then upd (upd j 1 m) 5 (j 5 + 0) else upd (upd j 1 m) 5 (j 5 + 1)
def mBeA (j ac : Nat → Int32) (m : Int32) : Nat → Int32 := if m = j 1 then ac else if m = 0 then mSafe ac else ac
def mEnR (j : Nat → Int32) (m : Int32) : Int32 := if m < 0 then 18 else if m ≤ 2 then (if j 1 = 0 then (if m = 2 then 19 else 0) else 0) else 18
def mEnJ (j : Nat → Int32) (m : Int32) : Nat → Int32 := if m < 0 then upd j 0 0 else if m ≤ 2 then (if j 1 = 0 then (if m = 2 then upd j 0 0 else mBeJ (upd j 0 0) m) else mBeJ (upd j 0 0) m) else upd j 0 0
def mEnA (j ac : Nat → Int32) (m : Int32) : Nat → Int32 := if m < 0 then ac else if m ≤ 2 then (if j 1 = 0 then (if m = 2 then ac else mBeA (upd j 0 0) ac m) else mBeA (upd j 0 0) ac m) else ac
def mAlR (j : Nat → Int32) : Int32 := if j 3 = 0 then 1 else 0
def mAlJ (j : Nat → Int32) (t : Int32) : Nat → Int32 := if j 3 = 0 then upd (upd (upd j 0 0) 3 1) 4 t else upd j 0 0
def mLkR (j : Nat → Int32) (t : Int32) : Int32 := if j 3 = 0 then 0 else if j 4 ≤ t then mBeR (upd (upd j 0 0) 3 0) 0 else 0
def mLkJ (j : Nat → Int32) (t : Int32) : Nat → Int32 := if j 3 = 0 then upd j 0 0 else if j 4 ≤ t then mBeJ (upd (upd j 0 0) 3 0) 0 else upd j 0 0
def mLkA (j ac : Nat → Int32) (t : Int32) : Nat → Int32 := if j 3 = 0 then ac else if j 4 ≤ t then mBeA (upd (upd j 0 0) 3 0) ac 0 else ac
def mTh (ev : Nat → Int32) (id : Int32) : Int32 := if id < 0 then 0 else if 256 ≤ id then 0 else if ev id.toNatClampNeg ≤ 0 then 0 else 1
def mCnt (ev : Nat → Int32) : Nat → Nat → Int32 → Int32
  | 0, _, x => x
  | n + 1, i, x => if ev i ≤ 0 then mCnt ev n (i + 1) (x + 0) else mCnt ev n (i + 1) (x + 1)
def mPuR (j : Nat → Int32) (x : Int32) : Int32 := if x < 0 then -1 else if 31 < x then -1 else if j 6 = 8 then -1 else j 6 + 1
def mPuJ (j : Nat → Int32) (x : Int32) : Nat → Int32 := if x < 0 then upd j 0 0 else if 31 < x then upd j 0 0 else if j 6 = 8 then upd j 0 0 else upd (upd j 0 0) 6 (j 6 + 1)
def mPuT (j tx : Nat → Int32) (x : Int32) : Nat → Int32 := if x < 0 then tx else if 31 < x then tx else if j 6 = 8 then tx else upd tx (j 6).toNatClampNeg x
def mCpy (tx : Nat → Int32) (b : Nat) : Nat → Nat → (Nat → Int32) → Nat → Int32
  | 0, _, pm => pm
  | n + 1, i, pm => mCpy tx b n (i + 1) (upd pm (b + i) (tx i))
def mFail (j ev : Nat → Int32) (id e : Int32) : Int32 := if j 6 = 0 then 13 else if e < 1 then 13 else if 255 < e then 13 else if id < 0 then 13 else if id ≤ 255 then (if ev id.toNatClampNeg ≤ 0 then (if mCnt ev 256 0 0 = 8 then 12 else 0) else 11) else 13
def mFoE (j ev : Nat → Int32) (id e : Int32) : Nat → Int32 := if mFail j ev id e = 0 then upd ev id.toNatClampNeg e else ev
def mFoO (j ev on : Nat → Int32) (id e : Int32) : Nat → Int32 := if mFail j ev id e = 0 then upd on id.toNatClampNeg 0 else on
def mFoN (j ev mn : Nat → Int32) (id e : Int32) : Nat → Int32 := if mFail j ev id e = 0 then upd mn id.toNatClampNeg (j 6) else mn
def mFoP (j tx ev pm : Nat → Int32) (id e : Int32) : Nat → Int32 := if mFail j ev id e = 0 then mCpy tx (8 * id.toNatClampNeg) (j 6).toNatClampNeg 0 pm else pm
def mReR (ev on : Nat → Int32) (id : Int32) : Int32 := if mTh ev id = 0 then 14 else if on id.toNatClampNeg = 0 then 0 else 15
def mReE (ev on : Nat → Int32) (id : Int32) : Nat → Int32 := if mTh ev id = 0 then ev else if on id.toNatClampNeg = 0 then upd ev id.toNatClampNeg 0 else ev
def mEbR (ev : Nat → Int32) (id : Int32) : Int32 := if mTh ev id = 0 then 14 else 0
def mEbO (ev on : Nat → Int32) (id b : Int32) : Nat → Int32 := if mTh ev id = 0 then on else upd on id.toNatClampNeg b
def mDue (ev on : Nat → Int32) (tick fr : Int32) : Nat → Int32 → Int32
  | 0, x => x
  | n + 1, x => if nI n < fr then x else if ev n ≤ 0 then mDue ev on tick fr n x else if on n = 0 then mDue ev on tick fr n x else if tick - tick / ev n * ev n = 0 then mDue ev on tick fr n (nI n) else mDue ev on tick fr n x
def mPaR (ev mn pm : Nat → Int32) (id k : Int32) : Int32 := if mTh ev id = 0 then -1 else if k < -1 then -1 else if k < mn id.toNatClampNeg then (if 0 ≤ k then pm (8 * id + k).toNatClampNeg else mn id.toNatClampNeg) else -1
def mVaR (j ac ev : Nat → Int32) (w : Int32) : Int32 := if w < 0 then (if w = 8 then j 1 else if w = 9 then (if j 3 = 0 then -1 else j 4) else if w = 10 then j 5 else if w = 11 then mCnt ev 256 0 0 else 0) else if 8 ≤ w then (if w = 8 then j 1 else if w = 9 then (if j 3 = 0 then -1 else j 4) else if w = 10 then j 5 else if w = 11 then mCnt ev 256 0 0 else 0) else ac w.toNatClampNeg
def mAbR (ev on : Nat → Int32) (id w : Int32) : Int32 := if mTh ev id = 0 then -1 else if w = 0 then ev id.toNatClampNeg else if w = 1 then (if on id.toNatClampNeg = 0 then 0 else 1) else -1
theorem m_in {x : Int32} {n : Nat} {N : Int32} (hN : N.toInt = n) (h1 : ¬ x < 0) (h2 : ¬ N ≤ x) : vp_in x n := by
  rw [vp_in_iff]
  have h3 := Int32.not_lt.mp h1
  have h4 := Int32.not_le.mp h2
  rw [Int32.le_iff_toInt_le] at h3
  rw [Int32.lt_iff_toInt_lt] at h4
  exact ⟨h3, by omega⟩
theorem m_in2 {x : Int32} {n : Nat} {N : Int32} (hN : N.toInt + 1 = n) (h1 : ¬ x < 0) (h2 : x ≤ N) : vp_in x n := by
  rw [vp_in_iff]
  have h3 := Int32.not_lt.mp h1
  rw [Int32.le_iff_toInt_le] at h3 h2
  exact ⟨h3, by omega⟩
theorem mTh_in {ev : Nat → Int32} {id : Int32} (h : ¬ mTh ev id = 0) : vp_in id 256 := by
  unfold mTh at h
  by_cases h1 : id < 0
  · rw [if_pos h1] at h; exact absurd rfl h
  · rw [if_neg h1] at h
    by_cases h2 : 256 ≤ id
    · rw [if_pos h2] at h; exact absurd rfl h
    · exact m_in (by decide) h1 h2
theorem mBeR_01 (j : Nat → Int32) (m : Int32) : mBeR j m = 0 ∨ mBeR j m = 1 := by
  unfold mBeR
  split
  · exact Or.inl rfl
  · exact Or.inr rfl
theorem m_nar {x : Int32} (h : x = 0 ∨ x = 1) : vp_nar .boolean x = x := by
  rcases h with rfl | rfl <;> rfl
theorem m_ix {id k : Int32} {n : Int32} (h : n.toInt ≤ 8) (hid : vp_in id 256) (h1 : 0 ≤ k) (h2 : k < n) : vp_in (8 * id + k) 2048 := by
  obtain ⟨d, hd, rfl⟩ := vp_in_of hid (by decide)
  have h1' : ¬ k < 0 := Int32.not_lt.mpr h1
  obtain ⟨e, he, rfl⟩ := vp_in_of (kP_in h h1' h2) (by decide)
  rw [show (8 : Int32) * nI d + nI e = nI (8 * d + e) from by rw [show (8 : Int32) = nI 8 from rfl, pk_mul, nI_add]]
  exact vp_in_nI (by omega) (by decide)
/-! The reference's world: seven cells. -/
def tyM (cI cZ : ClassId) : List (ClassId × FieldType) := [(cI, .int), (cZ, .boolean)]
def wM (bd : Nat → Nat) (cI cZ : ClassId) (j ac tx ev on mn pm : Nat → Int32) : va_W :=
  [(bd 0, .inr (2, [.int (j 0), .int (j 1), .ref (bd 1), .int (j 3), .int (j 4), .int (j 5), .int (j 6), .ref (bd 2), .ref (bd 3), .ref (bd 4), .ref (bd 5), .ref (bd 6)])), (bd 1, .inl (cI, 8, .inl ac)), (bd 2, .inl (cI, 8, .inl tx)), (bd 3, .inl (cI, 256, .inl ev)), (bd 4, .inl (cZ, 256, .inl on)), (bd 5, .inl (cI, 256, .inl mn)), (bd 6, .inl (cI, 2048, .inl pm))]
section MKM
variable {p : Program} {l : Launch} {e : Env} {R : Room} {s : State} {m : MethodId} {args : Array Value} {below : List Frame} {meth : Method} {c : Code} {H : Heap} {locs : List Loc} {cells slots : Nat} {Q : State → Prop}
variable {pc : Nat} {ls : Array Slot} {rest st0 : List Value} {D : va_G} {cl : List vw_C} {tys : List (ClassId × FieldType)} {cc : ByteArray}
theorem g_zld {ad : Nat} {ws : va_W} (hexec : p.tables.exec = Jvm.exec) (hb : c.code = cc) (hK : va_K D cl tys s) (hP : va_P D cl ws H) (q0 t0 : Nat) {cA : ClassId} {n : Nat} {f : Nat → Int32} (ha : ws[q0]? = some (ad, .inl (cA, n, .inl f))) (ht : tys[t0]? = some (cA, .boolean)) {i : Nat} (hi : i < n) (hn : n < 2 ^ 31) (hdg : decode cc pc = .ok (.baload, 1))
    (kk : W p l e R s m args below meth c H locs cells slots Q (F0 m (pc + 1) ls (.int (f i) :: rest))) : W p l e R s m args below meth c H locs cells slots Q (F0 m pc ls (.int (nI i) :: .ref ad :: rest)) := by
  refine va_zald hexec hb hK hP q0 t0 ha ht (vp_in_nI hi hn) hdg ?_
  rw [nI_clamp (Nat.lt_trans hi hn)]
  exact kk
end MKM
theorem vp_lt {x : Int32} {n : Nat} (h : vp_in x n) : x.toNatClampNeg < n := Nat.not_le.mp (fun z => h (Or.inr z))
def mJ0 : Nat → Int32 := fun j => if j = 1 then 1 else 0
end
section
theorem d_Model_init_0 : decode b_Model_init 0 = .ok (.aload_n 0, 1) := by decide +kernel
theorem d_Model_init_1 : decode b_Model_init 1 = .ok (.invokespecial 1, 3) := by decide +kernel
theorem d_Model_init_4 : decode b_Model_init 4 = .ok (.aload_n 0, 1) := by decide +kernel
theorem d_Model_init_5 : decode b_Model_init 5 = .ok (.iconst 1, 1) := by decide +kernel
theorem d_Model_init_6 : decode b_Model_init 6 = .ok (.putfield 7, 3) := by decide +kernel
theorem d_Model_init_9 : decode b_Model_init 9 = .ok (.aload_n 0, 1) := by decide +kernel
theorem d_Model_init_10 : decode b_Model_init 10 = .ok (.bipush 8, 2) := by decide +kernel
theorem d_Model_init_12 : decode b_Model_init 12 = .ok (.newarray .int, 2) := by decide +kernel
theorem d_Model_init_14 : decode b_Model_init 14 = .ok (.putfield 13, 3) := by decide +kernel
theorem d_Model_init_17 : decode b_Model_init 17 = .ok (.aload_n 0, 1) := by decide +kernel
theorem d_Model_init_18 : decode b_Model_init 18 = .ok (.bipush 8, 2) := by decide +kernel
theorem d_Model_init_20 : decode b_Model_init 20 = .ok (.newarray .int, 2) := by decide +kernel
theorem d_Model_init_22 : decode b_Model_init 22 = .ok (.putfield 17, 3) := by decide +kernel
theorem d_Model_init_25 : decode b_Model_init 25 = .ok (.aload_n 0, 1) := by decide +kernel
theorem d_Model_init_26 : decode b_Model_init 26 = .ok (.sipush 256, 3) := by decide +kernel
theorem d_Model_init_29 : decode b_Model_init 29 = .ok (.newarray .int, 2) := by decide +kernel
theorem d_Model_init_31 : decode b_Model_init 31 = .ok (.putfield 20, 3) := by decide +kernel
theorem d_Model_init_34 : decode b_Model_init 34 = .ok (.aload_n 0, 1) := by decide +kernel
theorem d_Model_init_35 : decode b_Model_init 35 = .ok (.sipush 256, 3) := by decide +kernel
theorem d_Model_init_38 : decode b_Model_init 38 = .ok (.newarray .boolean, 2) := by decide +kernel
theorem d_Model_init_40 : decode b_Model_init 40 = .ok (.putfield 23, 3) := by decide +kernel
theorem d_Model_init_43 : decode b_Model_init 43 = .ok (.aload_n 0, 1) := by decide +kernel
theorem d_Model_init_44 : decode b_Model_init 44 = .ok (.sipush 256, 3) := by decide +kernel
theorem d_Model_init_47 : decode b_Model_init 47 = .ok (.newarray .int, 2) := by decide +kernel
theorem d_Model_init_49 : decode b_Model_init 49 = .ok (.putfield 27, 3) := by decide +kernel
theorem d_Model_init_52 : decode b_Model_init 52 = .ok (.aload_n 0, 1) := by decide +kernel
theorem d_Model_init_53 : decode b_Model_init 53 = .ok (.sipush 2048, 3) := by decide +kernel
theorem d_Model_init_56 : decode b_Model_init 56 = .ok (.newarray .int, 2) := by decide +kernel
theorem d_Model_init_58 : decode b_Model_init 58 = .ok (.putfield 30, 3) := by decide +kernel
theorem d_Model_init_61 : decode b_Model_init 61 = .ok (.return_, 1) := by decide +kernel
theorem d_Model_move_0 : decode b_Model_move 0 = .ok (.aload_n 0, 1) := by decide +kernel
theorem d_Model_move_1 : decode b_Model_move 1 = .ok (.iconst 0, 1) := by decide +kernel
theorem d_Model_move_2 : decode b_Model_move 2 = .ok (.putfield 33, 3) := by decide +kernel
theorem d_Model_move_5 : decode b_Model_move 5 = .ok (.iload_n 1, 1) := by decide +kernel
theorem d_Model_move_6 : decode b_Model_move 6 = .ok (.ifCond .lt 9, 3) := by decide +kernel
theorem d_Model_move_9 : decode b_Model_move 9 = .ok (.iload_n 1, 1) := by decide +kernel
theorem d_Model_move_10 : decode b_Model_move 10 = .ok (.bipush 7, 2) := by decide +kernel
theorem d_Model_move_12 : decode b_Model_move 12 = .ok (.if_icmp .le 6, 3) := by decide +kernel
theorem d_Model_move_15 : decode b_Model_move 15 = .ok (.bipush 18, 2) := by decide +kernel
theorem d_Model_move_17 : decode b_Model_move 17 = .ok (.ireturn, 1) := by decide +kernel
theorem d_Model_move_18 : decode b_Model_move 18 = .ok (.aload_n 0, 1) := by decide +kernel
theorem d_Model_move_19 : decode b_Model_move 19 = .ok (.getfield 7, 3) := by decide +kernel
theorem d_Model_move_22 : decode b_Model_move 22 = .ok (.ifCond .ne 6, 3) := by decide +kernel
theorem d_Model_move_25 : decode b_Model_move 25 = .ok (.bipush 19, 2) := by decide +kernel
theorem d_Model_move_27 : decode b_Model_move 27 = .ok (.ireturn, 1) := by decide +kernel
theorem d_Model_move_28 : decode b_Model_move 28 = .ok (.aload_n 0, 1) := by decide +kernel
theorem d_Model_move_29 : decode b_Model_move 29 = .ok (.getfield 13, 3) := by decide +kernel
theorem d_Model_move_32 : decode b_Model_move 32 = .ok (.iload_n 1, 1) := by decide +kernel
theorem d_Model_move_33 : decode b_Model_move 33 = .ok (.iload_n 2, 1) := by decide +kernel
theorem d_Model_move_34 : decode b_Model_move 34 = .ok (.iastore, 1) := by decide +kernel
theorem d_Model_move_35 : decode b_Model_move 35 = .ok (.iconst 0, 1) := by decide +kernel
theorem d_Model_move_36 : decode b_Model_move 36 = .ok (.ireturn, 1) := by decide +kernel
theorem d_Model_becomes_0 : decode b_Model_becomes 0 = .ok (.iload_n 1, 1) := by decide +kernel
theorem d_Model_becomes_1 : decode b_Model_becomes 1 = .ok (.aload_n 0, 1) := by decide +kernel
theorem d_Model_becomes_2 : decode b_Model_becomes 2 = .ok (.getfield 7, 3) := by decide +kernel
theorem d_Model_becomes_5 : decode b_Model_becomes 5 = .ok (.if_icmp .eq 7, 3) := by decide +kernel
theorem d_Model_becomes_8 : decode b_Model_becomes 8 = .ok (.iconst 1, 1) := by decide +kernel
theorem d_Model_becomes_9 : decode b_Model_becomes 9 = .ok (.goto 4, 3) := by decide +kernel
theorem d_Model_becomes_12 : decode b_Model_becomes 12 = .ok (.iconst 0, 1) := by decide +kernel
theorem d_Model_becomes_13 : decode b_Model_becomes 13 = .ok (.istore_n 2, 1) := by decide +kernel
theorem d_Model_becomes_14 : decode b_Model_becomes 14 = .ok (.aload_n 0, 1) := by decide +kernel
theorem d_Model_becomes_15 : decode b_Model_becomes 15 = .ok (.iload_n 1, 1) := by decide +kernel
theorem d_Model_becomes_16 : decode b_Model_becomes 16 = .ok (.putfield 7, 3) := by decide +kernel
theorem d_Model_becomes_19 : decode b_Model_becomes 19 = .ok (.aload_n 0, 1) := by decide +kernel
theorem d_Model_becomes_20 : decode b_Model_becomes 20 = .ok (.dup, 1) := by decide +kernel
theorem d_Model_becomes_21 : decode b_Model_becomes 21 = .ok (.getfield 36, 3) := by decide +kernel
theorem d_Model_becomes_24 : decode b_Model_becomes 24 = .ok (.iload_n 2, 1) := by decide +kernel
theorem d_Model_becomes_25 : decode b_Model_becomes 25 = .ok (.ifCond .eq 7, 3) := by decide +kernel
theorem d_Model_becomes_28 : decode b_Model_becomes 28 = .ok (.iconst 1, 1) := by decide +kernel
theorem d_Model_becomes_29 : decode b_Model_becomes 29 = .ok (.goto 4, 3) := by decide +kernel
theorem d_Model_becomes_32 : decode b_Model_becomes 32 = .ok (.iconst 0, 1) := by decide +kernel
theorem d_Model_becomes_33 : decode b_Model_becomes 33 = .ok (.iadd, 1) := by decide +kernel
theorem d_Model_becomes_34 : decode b_Model_becomes 34 = .ok (.putfield 36, 3) := by decide +kernel
theorem d_Model_becomes_37 : decode b_Model_becomes 37 = .ok (.iconst 0, 1) := by decide +kernel
theorem d_Model_becomes_38 : decode b_Model_becomes 38 = .ok (.istore_n 3, 1) := by decide +kernel
theorem d_Model_becomes_39 : decode b_Model_becomes 39 = .ok (.iload_n 3, 1) := by decide +kernel
theorem d_Model_becomes_40 : decode b_Model_becomes 40 = .ok (.bipush 8, 2) := by decide +kernel
theorem d_Model_becomes_42 : decode b_Model_becomes 42 = .ok (.if_icmp .ge 55, 3) := by decide +kernel
theorem d_Model_becomes_45 : decode b_Model_becomes 45 = .ok (.iload_n 2, 1) := by decide +kernel
theorem d_Model_becomes_46 : decode b_Model_becomes 46 = .ok (.ifCond .eq 51, 3) := by decide +kernel
theorem d_Model_becomes_49 : decode b_Model_becomes 49 = .ok (.iload_n 1, 1) := by decide +kernel
theorem d_Model_becomes_50 : decode b_Model_becomes 50 = .ok (.ifCond .ne 47, 3) := by decide +kernel
theorem d_Model_becomes_53 : decode b_Model_becomes 53 = .ok (.aload_n 0, 1) := by decide +kernel
theorem d_Model_becomes_54 : decode b_Model_becomes 54 = .ok (.getfield 13, 3) := by decide +kernel
theorem d_Model_becomes_57 : decode b_Model_becomes 57 = .ok (.iload_n 3, 1) := by decide +kernel
theorem d_Model_becomes_58 : decode b_Model_becomes 58 = .ok (.iload_n 3, 1) := by decide +kernel
theorem d_Model_becomes_59 : decode b_Model_becomes 59 = .ok (.iconst 4, 1) := by decide +kernel
theorem d_Model_becomes_60 : decode b_Model_becomes 60 = .ok (.if_icmp .ge 7, 3) := by decide +kernel
theorem d_Model_becomes_63 : decode b_Model_becomes 63 = .ok (.iconst 0, 1) := by decide +kernel
theorem d_Model_becomes_64 : decode b_Model_becomes 64 = .ok (.goto 26, 3) := by decide +kernel
theorem d_Model_becomes_67 : decode b_Model_becomes 67 = .ok (.iload_n 3, 1) := by decide +kernel
theorem d_Model_becomes_68 : decode b_Model_becomes 68 = .ok (.bipush 6, 2) := by decide +kernel
theorem d_Model_becomes_70 : decode b_Model_becomes 70 = .ok (.if_icmp .ge 8, 3) := by decide +kernel
theorem d_Model_becomes_73 : decode b_Model_becomes 73 = .ok (.bipush 50, 2) := by decide +kernel
theorem d_Model_becomes_75 : decode b_Model_becomes 75 = .ok (.goto 15, 3) := by decide +kernel
theorem d_Model_becomes_78 : decode b_Model_becomes 78 = .ok (.iload_n 3, 1) := by decide +kernel
theorem d_Model_becomes_79 : decode b_Model_becomes 79 = .ok (.bipush 6, 2) := by decide +kernel
theorem d_Model_becomes_81 : decode b_Model_becomes 81 = .ok (.if_icmp .ne 8, 3) := by decide +kernel
theorem d_Model_becomes_84 : decode b_Model_becomes 84 = .ok (.bipush 100, 2) := by decide +kernel
theorem d_Model_becomes_86 : decode b_Model_becomes 86 = .ok (.goto 4, 3) := by decide +kernel
theorem d_Model_becomes_89 : decode b_Model_becomes 89 = .ok (.iconst 1, 1) := by decide +kernel
theorem d_Model_becomes_90 : decode b_Model_becomes 90 = .ok (.iastore, 1) := by decide +kernel
theorem d_Model_becomes_91 : decode b_Model_becomes 91 = .ok (.iinc 3 1, 3) := by decide +kernel
theorem d_Model_becomes_94 : decode b_Model_becomes 94 = .ok (.goto (-55), 3) := by decide +kernel
theorem d_Model_becomes_97 : decode b_Model_becomes 97 = .ok (.iload_n 2, 1) := by decide +kernel
theorem d_Model_becomes_98 : decode b_Model_becomes 98 = .ok (.ireturn, 1) := by decide +kernel
theorem d_Model_enter_0 : decode b_Model_enter 0 = .ok (.aload_n 0, 1) := by decide +kernel
theorem d_Model_enter_1 : decode b_Model_enter 1 = .ok (.iconst 0, 1) := by decide +kernel
theorem d_Model_enter_2 : decode b_Model_enter 2 = .ok (.putfield 33, 3) := by decide +kernel
theorem d_Model_enter_5 : decode b_Model_enter 5 = .ok (.iload_n 1, 1) := by decide +kernel
theorem d_Model_enter_6 : decode b_Model_enter 6 = .ok (.ifCond .lt 8, 3) := by decide +kernel
theorem d_Model_enter_9 : decode b_Model_enter 9 = .ok (.iload_n 1, 1) := by decide +kernel
theorem d_Model_enter_10 : decode b_Model_enter 10 = .ok (.iconst 2, 1) := by decide +kernel
theorem d_Model_enter_11 : decode b_Model_enter 11 = .ok (.if_icmp .le 6, 3) := by decide +kernel
theorem d_Model_enter_14 : decode b_Model_enter 14 = .ok (.bipush 18, 2) := by decide +kernel
theorem d_Model_enter_16 : decode b_Model_enter 16 = .ok (.ireturn, 1) := by decide +kernel
theorem d_Model_enter_17 : decode b_Model_enter 17 = .ok (.aload_n 0, 1) := by decide +kernel
theorem d_Model_enter_18 : decode b_Model_enter 18 = .ok (.getfield 7, 3) := by decide +kernel
theorem d_Model_enter_21 : decode b_Model_enter 21 = .ok (.ifCond .ne 11, 3) := by decide +kernel
theorem d_Model_enter_24 : decode b_Model_enter 24 = .ok (.iload_n 1, 1) := by decide +kernel
theorem d_Model_enter_25 : decode b_Model_enter 25 = .ok (.iconst 2, 1) := by decide +kernel
theorem d_Model_enter_26 : decode b_Model_enter 26 = .ok (.if_icmp .ne 6, 3) := by decide +kernel
theorem d_Model_enter_29 : decode b_Model_enter 29 = .ok (.bipush 19, 2) := by decide +kernel
theorem d_Model_enter_31 : decode b_Model_enter 31 = .ok (.ireturn, 1) := by decide +kernel
theorem d_Model_enter_32 : decode b_Model_enter 32 = .ok (.aload_n 0, 1) := by decide +kernel
theorem d_Model_enter_33 : decode b_Model_enter 33 = .ok (.iload_n 1, 1) := by decide +kernel
theorem d_Model_enter_34 : decode b_Model_enter 34 = .ok (.invokevirtual 39, 3) := by decide +kernel
theorem d_Model_enter_37 : decode b_Model_enter 37 = .ok (.istore_n 2, 1) := by decide +kernel
theorem d_Model_enter_38 : decode b_Model_enter 38 = .ok (.iconst 0, 1) := by decide +kernel
theorem d_Model_enter_39 : decode b_Model_enter 39 = .ok (.ireturn, 1) := by decide +kernel
theorem d_Model_alarm_0 : decode b_Model_alarm 0 = .ok (.aload_n 0, 1) := by decide +kernel
theorem d_Model_alarm_1 : decode b_Model_alarm 1 = .ok (.iconst 0, 1) := by decide +kernel
theorem d_Model_alarm_2 : decode b_Model_alarm 2 = .ok (.putfield 33, 3) := by decide +kernel
theorem d_Model_alarm_5 : decode b_Model_alarm 5 = .ok (.aload_n 0, 1) := by decide +kernel
theorem d_Model_alarm_6 : decode b_Model_alarm 6 = .ok (.getfield 43, 3) := by decide +kernel
theorem d_Model_alarm_9 : decode b_Model_alarm 9 = .ok (.ifCond .eq 5, 3) := by decide +kernel
theorem d_Model_alarm_12 : decode b_Model_alarm 12 = .ok (.iconst 0, 1) := by decide +kernel
theorem d_Model_alarm_13 : decode b_Model_alarm 13 = .ok (.ireturn, 1) := by decide +kernel
theorem d_Model_alarm_14 : decode b_Model_alarm 14 = .ok (.aload_n 0, 1) := by decide +kernel
theorem d_Model_alarm_15 : decode b_Model_alarm 15 = .ok (.iconst 1, 1) := by decide +kernel
theorem d_Model_alarm_16 : decode b_Model_alarm 16 = .ok (.putfield 43, 3) := by decide +kernel
theorem d_Model_alarm_19 : decode b_Model_alarm 19 = .ok (.aload_n 0, 1) := by decide +kernel
theorem d_Model_alarm_20 : decode b_Model_alarm 20 = .ok (.iload_n 1, 1) := by decide +kernel
theorem d_Model_alarm_21 : decode b_Model_alarm 21 = .ok (.putfield 47, 3) := by decide +kernel
theorem d_Model_alarm_24 : decode b_Model_alarm 24 = .ok (.iconst 1, 1) := by decide +kernel
theorem d_Model_alarm_25 : decode b_Model_alarm 25 = .ok (.ireturn, 1) := by decide +kernel
theorem d_Model_look_0 : decode b_Model_look 0 = .ok (.aload_n 0, 1) := by decide +kernel
theorem d_Model_look_1 : decode b_Model_look 1 = .ok (.iconst 0, 1) := by decide +kernel
theorem d_Model_look_2 : decode b_Model_look 2 = .ok (.putfield 33, 3) := by decide +kernel
theorem d_Model_look_5 : decode b_Model_look 5 = .ok (.aload_n 0, 1) := by decide +kernel
theorem d_Model_look_6 : decode b_Model_look 6 = .ok (.getfield 43, 3) := by decide +kernel
theorem d_Model_look_9 : decode b_Model_look 9 = .ok (.ifCond .eq 11, 3) := by decide +kernel
theorem d_Model_look_12 : decode b_Model_look 12 = .ok (.aload_n 0, 1) := by decide +kernel
theorem d_Model_look_13 : decode b_Model_look 13 = .ok (.getfield 47, 3) := by decide +kernel
theorem d_Model_look_16 : decode b_Model_look 16 = .ok (.iload_n 1, 1) := by decide +kernel
theorem d_Model_look_17 : decode b_Model_look 17 = .ok (.if_icmp .le 5, 3) := by decide +kernel
theorem d_Model_look_20 : decode b_Model_look 20 = .ok (.iconst 0, 1) := by decide +kernel
theorem d_Model_look_21 : decode b_Model_look 21 = .ok (.ireturn, 1) := by decide +kernel
theorem d_Model_look_22 : decode b_Model_look 22 = .ok (.aload_n 0, 1) := by decide +kernel
theorem d_Model_look_23 : decode b_Model_look 23 = .ok (.iconst 0, 1) := by decide +kernel
theorem d_Model_look_24 : decode b_Model_look 24 = .ok (.putfield 43, 3) := by decide +kernel
theorem d_Model_look_27 : decode b_Model_look 27 = .ok (.aload_n 0, 1) := by decide +kernel
theorem d_Model_look_28 : decode b_Model_look 28 = .ok (.iconst 0, 1) := by decide +kernel
theorem d_Model_look_29 : decode b_Model_look 29 = .ok (.invokevirtual 39, 3) := by decide +kernel
theorem d_Model_look_32 : decode b_Model_look 32 = .ok (.ireturn, 1) := by decide +kernel
theorem d_Model_isThere_0 : decode b_Model_isThere 0 = .ok (.iload_n 1, 1) := by decide +kernel
theorem d_Model_isThere_1 : decode b_Model_isThere 1 = .ok (.ifCond .lt 23, 3) := by decide +kernel
theorem d_Model_isThere_4 : decode b_Model_isThere 4 = .ok (.iload_n 1, 1) := by decide +kernel
theorem d_Model_isThere_5 : decode b_Model_isThere 5 = .ok (.sipush 256, 3) := by decide +kernel
theorem d_Model_isThere_8 : decode b_Model_isThere 8 = .ok (.if_icmp .ge 16, 3) := by decide +kernel
theorem d_Model_isThere_11 : decode b_Model_isThere 11 = .ok (.aload_n 0, 1) := by decide +kernel
theorem d_Model_isThere_12 : decode b_Model_isThere 12 = .ok (.getfield 20, 3) := by decide +kernel
theorem d_Model_isThere_15 : decode b_Model_isThere 15 = .ok (.iload_n 1, 1) := by decide +kernel
theorem d_Model_isThere_16 : decode b_Model_isThere 16 = .ok (.iaload, 1) := by decide +kernel
theorem d_Model_isThere_17 : decode b_Model_isThere 17 = .ok (.ifCond .le 7, 3) := by decide +kernel
theorem d_Model_isThere_20 : decode b_Model_isThere 20 = .ok (.iconst 1, 1) := by decide +kernel
theorem d_Model_isThere_21 : decode b_Model_isThere 21 = .ok (.goto 4, 3) := by decide +kernel
theorem d_Model_isThere_24 : decode b_Model_isThere 24 = .ok (.iconst 0, 1) := by decide +kernel
theorem d_Model_isThere_25 : decode b_Model_isThere 25 = .ok (.ireturn, 1) := by decide +kernel
theorem d_Model_forms_0 : decode b_Model_forms 0 = .ok (.iconst 0, 1) := by decide +kernel
theorem d_Model_forms_1 : decode b_Model_forms 1 = .ok (.istore_n 1, 1) := by decide +kernel
theorem d_Model_forms_2 : decode b_Model_forms 2 = .ok (.iconst 0, 1) := by decide +kernel
theorem d_Model_forms_3 : decode b_Model_forms 3 = .ok (.istore_n 2, 1) := by decide +kernel
theorem d_Model_forms_4 : decode b_Model_forms 4 = .ok (.iload_n 2, 1) := by decide +kernel
theorem d_Model_forms_5 : decode b_Model_forms 5 = .ok (.sipush 256, 3) := by decide +kernel
theorem d_Model_forms_8 : decode b_Model_forms 8 = .ok (.if_icmp .ge 26, 3) := by decide +kernel
theorem d_Model_forms_11 : decode b_Model_forms 11 = .ok (.iload_n 1, 1) := by decide +kernel
theorem d_Model_forms_12 : decode b_Model_forms 12 = .ok (.aload_n 0, 1) := by decide +kernel
theorem d_Model_forms_13 : decode b_Model_forms 13 = .ok (.getfield 20, 3) := by decide +kernel
theorem d_Model_forms_16 : decode b_Model_forms 16 = .ok (.iload_n 2, 1) := by decide +kernel
theorem d_Model_forms_17 : decode b_Model_forms 17 = .ok (.iaload, 1) := by decide +kernel
theorem d_Model_forms_18 : decode b_Model_forms 18 = .ok (.ifCond .le 7, 3) := by decide +kernel
theorem d_Model_forms_21 : decode b_Model_forms 21 = .ok (.iconst 1, 1) := by decide +kernel
theorem d_Model_forms_22 : decode b_Model_forms 22 = .ok (.goto 4, 3) := by decide +kernel
theorem d_Model_forms_25 : decode b_Model_forms 25 = .ok (.iconst 0, 1) := by decide +kernel
theorem d_Model_forms_26 : decode b_Model_forms 26 = .ok (.iadd, 1) := by decide +kernel
theorem d_Model_forms_27 : decode b_Model_forms 27 = .ok (.istore_n 1, 1) := by decide +kernel
theorem d_Model_forms_28 : decode b_Model_forms 28 = .ok (.iinc 2 1, 3) := by decide +kernel
theorem d_Model_forms_31 : decode b_Model_forms 31 = .ok (.goto (-27), 3) := by decide +kernel
theorem d_Model_forms_34 : decode b_Model_forms 34 = .ok (.iload_n 1, 1) := by decide +kernel
theorem d_Model_forms_35 : decode b_Model_forms 35 = .ok (.ireturn, 1) := by decide +kernel
theorem d_Model_put_0 : decode b_Model_put 0 = .ok (.aload_n 0, 1) := by decide +kernel
theorem d_Model_put_1 : decode b_Model_put 1 = .ok (.iconst 0, 1) := by decide +kernel
theorem d_Model_put_2 : decode b_Model_put 2 = .ok (.putfield 33, 3) := by decide +kernel
theorem d_Model_put_5 : decode b_Model_put 5 = .ok (.iload_n 1, 1) := by decide +kernel
theorem d_Model_put_6 : decode b_Model_put 6 = .ok (.ifCond .lt 18, 3) := by decide +kernel
theorem d_Model_put_9 : decode b_Model_put 9 = .ok (.iload_n 1, 1) := by decide +kernel
theorem d_Model_put_10 : decode b_Model_put 10 = .ok (.bipush 31, 2) := by decide +kernel
theorem d_Model_put_12 : decode b_Model_put 12 = .ok (.if_icmp .gt 12, 3) := by decide +kernel
theorem d_Model_put_15 : decode b_Model_put 15 = .ok (.aload_n 0, 1) := by decide +kernel
theorem d_Model_put_16 : decode b_Model_put 16 = .ok (.getfield 50, 3) := by decide +kernel
theorem d_Model_put_19 : decode b_Model_put 19 = .ok (.bipush 8, 2) := by decide +kernel
theorem d_Model_put_21 : decode b_Model_put 21 = .ok (.if_icmp .ne 5, 3) := by decide +kernel
theorem d_Model_put_24 : decode b_Model_put 24 = .ok (.iconst (-1), 1) := by decide +kernel
theorem d_Model_put_25 : decode b_Model_put 25 = .ok (.ireturn, 1) := by decide +kernel
theorem d_Model_put_26 : decode b_Model_put 26 = .ok (.aload_n 0, 1) := by decide +kernel
theorem d_Model_put_27 : decode b_Model_put 27 = .ok (.getfield 17, 3) := by decide +kernel
theorem d_Model_put_30 : decode b_Model_put 30 = .ok (.aload_n 0, 1) := by decide +kernel
theorem d_Model_put_31 : decode b_Model_put 31 = .ok (.getfield 50, 3) := by decide +kernel
theorem d_Model_put_34 : decode b_Model_put 34 = .ok (.iload_n 1, 1) := by decide +kernel
theorem d_Model_put_35 : decode b_Model_put 35 = .ok (.iastore, 1) := by decide +kernel
theorem d_Model_put_36 : decode b_Model_put 36 = .ok (.aload_n 0, 1) := by decide +kernel
theorem d_Model_put_37 : decode b_Model_put 37 = .ok (.dup, 1) := by decide +kernel
theorem d_Model_put_38 : decode b_Model_put 38 = .ok (.getfield 50, 3) := by decide +kernel
theorem d_Model_put_41 : decode b_Model_put 41 = .ok (.iconst 1, 1) := by decide +kernel
theorem d_Model_put_42 : decode b_Model_put 42 = .ok (.iadd, 1) := by decide +kernel
theorem d_Model_put_43 : decode b_Model_put 43 = .ok (.putfield 50, 3) := by decide +kernel
theorem d_Model_put_46 : decode b_Model_put 46 = .ok (.aload_n 0, 1) := by decide +kernel
theorem d_Model_put_47 : decode b_Model_put 47 = .ok (.getfield 50, 3) := by decide +kernel
theorem d_Model_put_50 : decode b_Model_put 50 = .ok (.ireturn, 1) := by decide +kernel
theorem d_Model_form_0 : decode b_Model_form 0 = .ok (.aload_n 0, 1) := by decide +kernel
theorem d_Model_form_1 : decode b_Model_form 1 = .ok (.iconst 0, 1) := by decide +kernel
theorem d_Model_form_2 : decode b_Model_form 2 = .ok (.putfield 33, 3) := by decide +kernel
theorem d_Model_form_5 : decode b_Model_form 5 = .ok (.aload_n 0, 1) := by decide +kernel
theorem d_Model_form_6 : decode b_Model_form 6 = .ok (.getfield 50, 3) := by decide +kernel
theorem d_Model_form_9 : decode b_Model_form 9 = .ok (.istore_n 3, 1) := by decide +kernel
theorem d_Model_form_10 : decode b_Model_form 10 = .ok (.aload_n 0, 1) := by decide +kernel
theorem d_Model_form_11 : decode b_Model_form 11 = .ok (.iconst 0, 1) := by decide +kernel
theorem d_Model_form_12 : decode b_Model_form 12 = .ok (.putfield 50, 3) := by decide +kernel
theorem d_Model_form_15 : decode b_Model_form 15 = .ok (.iload_n 3, 1) := by decide +kernel
theorem d_Model_form_16 : decode b_Model_form 16 = .ok (.ifCond .eq 26, 3) := by decide +kernel
theorem d_Model_form_19 : decode b_Model_form 19 = .ok (.iload_n 2, 1) := by decide +kernel
theorem d_Model_form_20 : decode b_Model_form 20 = .ok (.iconst 1, 1) := by decide +kernel
theorem d_Model_form_21 : decode b_Model_form 21 = .ok (.if_icmp .lt 21, 3) := by decide +kernel
theorem d_Model_form_24 : decode b_Model_form 24 = .ok (.iload_n 2, 1) := by decide +kernel
theorem d_Model_form_25 : decode b_Model_form 25 = .ok (.sipush 255, 3) := by decide +kernel
theorem d_Model_form_28 : decode b_Model_form 28 = .ok (.if_icmp .gt 14, 3) := by decide +kernel
theorem d_Model_form_31 : decode b_Model_form 31 = .ok (.iload_n 1, 1) := by decide +kernel
theorem d_Model_form_32 : decode b_Model_form 32 = .ok (.ifCond .lt 10, 3) := by decide +kernel
theorem d_Model_form_35 : decode b_Model_form 35 = .ok (.iload_n 1, 1) := by decide +kernel
theorem d_Model_form_36 : decode b_Model_form 36 = .ok (.sipush 255, 3) := by decide +kernel
theorem d_Model_form_39 : decode b_Model_form 39 = .ok (.if_icmp .le 6, 3) := by decide +kernel
theorem d_Model_form_42 : decode b_Model_form 42 = .ok (.bipush 13, 2) := by decide +kernel
theorem d_Model_form_44 : decode b_Model_form 44 = .ok (.ireturn, 1) := by decide +kernel
theorem d_Model_form_45 : decode b_Model_form 45 = .ok (.aload_n 0, 1) := by decide +kernel
theorem d_Model_form_46 : decode b_Model_form 46 = .ok (.getfield 20, 3) := by decide +kernel
theorem d_Model_form_49 : decode b_Model_form 49 = .ok (.iload_n 1, 1) := by decide +kernel
theorem d_Model_form_50 : decode b_Model_form 50 = .ok (.iaload, 1) := by decide +kernel
theorem d_Model_form_51 : decode b_Model_form 51 = .ok (.ifCond .le 6, 3) := by decide +kernel
theorem d_Model_form_54 : decode b_Model_form 54 = .ok (.bipush 11, 2) := by decide +kernel
theorem d_Model_form_56 : decode b_Model_form 56 = .ok (.ireturn, 1) := by decide +kernel
theorem d_Model_form_57 : decode b_Model_form 57 = .ok (.aload_n 0, 1) := by decide +kernel
theorem d_Model_form_58 : decode b_Model_form 58 = .ok (.invokevirtual 53, 3) := by decide +kernel
theorem d_Model_form_61 : decode b_Model_form 61 = .ok (.bipush 8, 2) := by decide +kernel
theorem d_Model_form_63 : decode b_Model_form 63 = .ok (.if_icmp .ne 6, 3) := by decide +kernel
theorem d_Model_form_66 : decode b_Model_form 66 = .ok (.bipush 12, 2) := by decide +kernel
theorem d_Model_form_68 : decode b_Model_form 68 = .ok (.ireturn, 1) := by decide +kernel
theorem d_Model_form_69 : decode b_Model_form 69 = .ok (.aload_n 0, 1) := by decide +kernel
theorem d_Model_form_70 : decode b_Model_form 70 = .ok (.getfield 20, 3) := by decide +kernel
theorem d_Model_form_73 : decode b_Model_form 73 = .ok (.iload_n 1, 1) := by decide +kernel
theorem d_Model_form_74 : decode b_Model_form 74 = .ok (.iload_n 2, 1) := by decide +kernel
theorem d_Model_form_75 : decode b_Model_form 75 = .ok (.iastore, 1) := by decide +kernel
theorem d_Model_form_76 : decode b_Model_form 76 = .ok (.aload_n 0, 1) := by decide +kernel
theorem d_Model_form_77 : decode b_Model_form 77 = .ok (.getfield 23, 3) := by decide +kernel
theorem d_Model_form_80 : decode b_Model_form 80 = .ok (.iload_n 1, 1) := by decide +kernel
theorem d_Model_form_81 : decode b_Model_form 81 = .ok (.iconst 0, 1) := by decide +kernel
theorem d_Model_form_82 : decode b_Model_form 82 = .ok (.bastore, 1) := by decide +kernel
theorem d_Model_form_83 : decode b_Model_form 83 = .ok (.aload_n 0, 1) := by decide +kernel
theorem d_Model_form_84 : decode b_Model_form 84 = .ok (.getfield 27, 3) := by decide +kernel
theorem d_Model_form_87 : decode b_Model_form 87 = .ok (.iload_n 1, 1) := by decide +kernel
theorem d_Model_form_88 : decode b_Model_form 88 = .ok (.iload_n 3, 1) := by decide +kernel
theorem d_Model_form_89 : decode b_Model_form 89 = .ok (.iastore, 1) := by decide +kernel
theorem d_Model_form_90 : decode b_Model_form 90 = .ok (.iconst 0, 1) := by decide +kernel
theorem d_Model_form_91 : decode b_Model_form 91 = .ok (.istore 4, 2) := by decide +kernel
theorem d_Model_form_93 : decode b_Model_form 93 = .ok (.iload 4, 2) := by decide +kernel
theorem d_Model_form_95 : decode b_Model_form 95 = .ok (.iload_n 3, 1) := by decide +kernel
theorem d_Model_form_96 : decode b_Model_form 96 = .ok (.if_icmp .ge 28, 3) := by decide +kernel
theorem d_Model_form_99 : decode b_Model_form 99 = .ok (.aload_n 0, 1) := by decide +kernel
theorem d_Model_form_100 : decode b_Model_form 100 = .ok (.getfield 30, 3) := by decide +kernel
theorem d_Model_form_103 : decode b_Model_form 103 = .ok (.bipush 8, 2) := by decide +kernel
theorem d_Model_form_105 : decode b_Model_form 105 = .ok (.iload_n 1, 1) := by decide +kernel
theorem d_Model_form_106 : decode b_Model_form 106 = .ok (.imul, 1) := by decide +kernel
theorem d_Model_form_107 : decode b_Model_form 107 = .ok (.iload 4, 2) := by decide +kernel
theorem d_Model_form_109 : decode b_Model_form 109 = .ok (.iadd, 1) := by decide +kernel
theorem d_Model_form_110 : decode b_Model_form 110 = .ok (.aload_n 0, 1) := by decide +kernel
theorem d_Model_form_111 : decode b_Model_form 111 = .ok (.getfield 17, 3) := by decide +kernel
theorem d_Model_form_114 : decode b_Model_form 114 = .ok (.iload 4, 2) := by decide +kernel
theorem d_Model_form_116 : decode b_Model_form 116 = .ok (.iaload, 1) := by decide +kernel
theorem d_Model_form_117 : decode b_Model_form 117 = .ok (.iastore, 1) := by decide +kernel
theorem d_Model_form_118 : decode b_Model_form 118 = .ok (.iinc 4 1, 3) := by decide +kernel
theorem d_Model_form_121 : decode b_Model_form 121 = .ok (.goto (-28), 3) := by decide +kernel
theorem d_Model_form_124 : decode b_Model_form 124 = .ok (.iconst 0, 1) := by decide +kernel
theorem d_Model_form_125 : decode b_Model_form 125 = .ok (.ireturn, 1) := by decide +kernel
theorem d_Model_remove_0 : decode b_Model_remove 0 = .ok (.aload_n 0, 1) := by decide +kernel
theorem d_Model_remove_1 : decode b_Model_remove 1 = .ok (.iconst 0, 1) := by decide +kernel
theorem d_Model_remove_2 : decode b_Model_remove 2 = .ok (.putfield 33, 3) := by decide +kernel
theorem d_Model_remove_5 : decode b_Model_remove 5 = .ok (.aload_n 0, 1) := by decide +kernel
theorem d_Model_remove_6 : decode b_Model_remove 6 = .ok (.iload_n 1, 1) := by decide +kernel
theorem d_Model_remove_7 : decode b_Model_remove 7 = .ok (.invokevirtual 57, 3) := by decide +kernel
theorem d_Model_remove_10 : decode b_Model_remove 10 = .ok (.ifCond .ne 6, 3) := by decide +kernel
theorem d_Model_remove_13 : decode b_Model_remove 13 = .ok (.bipush 14, 2) := by decide +kernel
theorem d_Model_remove_15 : decode b_Model_remove 15 = .ok (.ireturn, 1) := by decide +kernel
theorem d_Model_remove_16 : decode b_Model_remove 16 = .ok (.aload_n 0, 1) := by decide +kernel
theorem d_Model_remove_17 : decode b_Model_remove 17 = .ok (.getfield 23, 3) := by decide +kernel
theorem d_Model_remove_20 : decode b_Model_remove 20 = .ok (.iload_n 1, 1) := by decide +kernel
theorem d_Model_remove_21 : decode b_Model_remove 21 = .ok (.baload, 1) := by decide +kernel
theorem d_Model_remove_22 : decode b_Model_remove 22 = .ok (.ifCond .eq 6, 3) := by decide +kernel
theorem d_Model_remove_25 : decode b_Model_remove 25 = .ok (.bipush 15, 2) := by decide +kernel
theorem d_Model_remove_27 : decode b_Model_remove 27 = .ok (.ireturn, 1) := by decide +kernel
theorem d_Model_remove_28 : decode b_Model_remove 28 = .ok (.aload_n 0, 1) := by decide +kernel
theorem d_Model_remove_29 : decode b_Model_remove 29 = .ok (.getfield 20, 3) := by decide +kernel
theorem d_Model_remove_32 : decode b_Model_remove 32 = .ok (.iload_n 1, 1) := by decide +kernel
theorem d_Model_remove_33 : decode b_Model_remove 33 = .ok (.iconst 0, 1) := by decide +kernel
theorem d_Model_remove_34 : decode b_Model_remove 34 = .ok (.iastore, 1) := by decide +kernel
theorem d_Model_remove_35 : decode b_Model_remove 35 = .ok (.iconst 0, 1) := by decide +kernel
theorem d_Model_remove_36 : decode b_Model_remove 36 = .ok (.ireturn, 1) := by decide +kernel
theorem d_Model_enable_0 : decode b_Model_enable 0 = .ok (.aload_n 0, 1) := by decide +kernel
theorem d_Model_enable_1 : decode b_Model_enable 1 = .ok (.iconst 0, 1) := by decide +kernel
theorem d_Model_enable_2 : decode b_Model_enable 2 = .ok (.putfield 33, 3) := by decide +kernel
theorem d_Model_enable_5 : decode b_Model_enable 5 = .ok (.aload_n 0, 1) := by decide +kernel
theorem d_Model_enable_6 : decode b_Model_enable 6 = .ok (.iload_n 1, 1) := by decide +kernel
theorem d_Model_enable_7 : decode b_Model_enable 7 = .ok (.invokevirtual 57, 3) := by decide +kernel
theorem d_Model_enable_10 : decode b_Model_enable 10 = .ok (.ifCond .ne 6, 3) := by decide +kernel
theorem d_Model_enable_13 : decode b_Model_enable 13 = .ok (.bipush 14, 2) := by decide +kernel
theorem d_Model_enable_15 : decode b_Model_enable 15 = .ok (.ireturn, 1) := by decide +kernel
theorem d_Model_enable_16 : decode b_Model_enable 16 = .ok (.aload_n 0, 1) := by decide +kernel
theorem d_Model_enable_17 : decode b_Model_enable 17 = .ok (.getfield 23, 3) := by decide +kernel
theorem d_Model_enable_20 : decode b_Model_enable 20 = .ok (.iload_n 1, 1) := by decide +kernel
theorem d_Model_enable_21 : decode b_Model_enable 21 = .ok (.iload_n 2, 1) := by decide +kernel
theorem d_Model_enable_22 : decode b_Model_enable 22 = .ok (.bastore, 1) := by decide +kernel
theorem d_Model_enable_23 : decode b_Model_enable 23 = .ok (.iconst 0, 1) := by decide +kernel
theorem d_Model_enable_24 : decode b_Model_enable 24 = .ok (.ireturn, 1) := by decide +kernel
theorem d_Model_due_0 : decode b_Model_due 0 = .ok (.aload_n 0, 1) := by decide +kernel
theorem d_Model_due_1 : decode b_Model_due 1 = .ok (.iconst 0, 1) := by decide +kernel
theorem d_Model_due_2 : decode b_Model_due 2 = .ok (.putfield 33, 3) := by decide +kernel
theorem d_Model_due_5 : decode b_Model_due 5 = .ok (.iconst (-1), 1) := by decide +kernel
theorem d_Model_due_6 : decode b_Model_due 6 = .ok (.istore_n 3, 1) := by decide +kernel
theorem d_Model_due_7 : decode b_Model_due 7 = .ok (.sipush 255, 3) := by decide +kernel
theorem d_Model_due_10 : decode b_Model_due 10 = .ok (.istore 4, 2) := by decide +kernel
theorem d_Model_due_12 : decode b_Model_due 12 = .ok (.iload 4, 2) := by decide +kernel
theorem d_Model_due_14 : decode b_Model_due 14 = .ok (.ifCond .lt 54, 3) := by decide +kernel
theorem d_Model_due_17 : decode b_Model_due 17 = .ok (.iload 4, 2) := by decide +kernel
theorem d_Model_due_19 : decode b_Model_due 19 = .ok (.iload_n 2, 1) := by decide +kernel
theorem d_Model_due_20 : decode b_Model_due 20 = .ok (.if_icmp .lt 48, 3) := by decide +kernel
theorem d_Model_due_23 : decode b_Model_due 23 = .ok (.aload_n 0, 1) := by decide +kernel
theorem d_Model_due_24 : decode b_Model_due 24 = .ok (.getfield 20, 3) := by decide +kernel
theorem d_Model_due_27 : decode b_Model_due 27 = .ok (.iload 4, 2) := by decide +kernel
theorem d_Model_due_29 : decode b_Model_due 29 = .ok (.iaload, 1) := by decide +kernel
theorem d_Model_due_30 : decode b_Model_due 30 = .ok (.ifCond .le 30, 3) := by decide +kernel
theorem d_Model_due_33 : decode b_Model_due 33 = .ok (.aload_n 0, 1) := by decide +kernel
theorem d_Model_due_34 : decode b_Model_due 34 = .ok (.getfield 23, 3) := by decide +kernel
theorem d_Model_due_37 : decode b_Model_due 37 = .ok (.iload 4, 2) := by decide +kernel
theorem d_Model_due_39 : decode b_Model_due 39 = .ok (.baload, 1) := by decide +kernel
theorem d_Model_due_40 : decode b_Model_due 40 = .ok (.ifCond .eq 20, 3) := by decide +kernel
theorem d_Model_due_43 : decode b_Model_due 43 = .ok (.iload_n 1, 1) := by decide +kernel
theorem d_Model_due_44 : decode b_Model_due 44 = .ok (.aload_n 0, 1) := by decide +kernel
theorem d_Model_due_45 : decode b_Model_due 45 = .ok (.getfield 20, 3) := by decide +kernel
theorem d_Model_due_48 : decode b_Model_due 48 = .ok (.iload 4, 2) := by decide +kernel
theorem d_Model_due_50 : decode b_Model_due 50 = .ok (.iaload, 1) := by decide +kernel
theorem d_Model_due_51 : decode b_Model_due 51 = .ok (.irem, 1) := by decide +kernel
theorem d_Model_due_52 : decode b_Model_due 52 = .ok (.ifCond .ne 8, 3) := by decide +kernel
theorem d_Model_due_55 : decode b_Model_due 55 = .ok (.iload 4, 2) := by decide +kernel
theorem d_Model_due_57 : decode b_Model_due 57 = .ok (.goto 4, 3) := by decide +kernel
theorem d_Model_due_60 : decode b_Model_due 60 = .ok (.iload_n 3, 1) := by decide +kernel
theorem d_Model_due_61 : decode b_Model_due 61 = .ok (.istore_n 3, 1) := by decide +kernel
theorem d_Model_due_62 : decode b_Model_due 62 = .ok (.iinc 4 (-1), 3) := by decide +kernel
theorem d_Model_due_65 : decode b_Model_due 65 = .ok (.goto (-53), 3) := by decide +kernel
theorem d_Model_due_68 : decode b_Model_due 68 = .ok (.iload_n 3, 1) := by decide +kernel
theorem d_Model_due_69 : decode b_Model_due 69 = .ok (.ireturn, 1) := by decide +kernel
theorem d_Model_parameter_0 : decode b_Model_parameter 0 = .ok (.aload_n 0, 1) := by decide +kernel
theorem d_Model_parameter_1 : decode b_Model_parameter 1 = .ok (.iconst 0, 1) := by decide +kernel
theorem d_Model_parameter_2 : decode b_Model_parameter 2 = .ok (.putfield 33, 3) := by decide +kernel
theorem d_Model_parameter_5 : decode b_Model_parameter 5 = .ok (.aload_n 0, 1) := by decide +kernel
theorem d_Model_parameter_6 : decode b_Model_parameter 6 = .ok (.iload_n 1, 1) := by decide +kernel
theorem d_Model_parameter_7 : decode b_Model_parameter 7 = .ok (.invokevirtual 57, 3) := by decide +kernel
theorem d_Model_parameter_10 : decode b_Model_parameter 10 = .ok (.ifCond .eq 18, 3) := by decide +kernel
theorem d_Model_parameter_13 : decode b_Model_parameter 13 = .ok (.iload_n 2, 1) := by decide +kernel
theorem d_Model_parameter_14 : decode b_Model_parameter 14 = .ok (.iconst (-1), 1) := by decide +kernel
theorem d_Model_parameter_15 : decode b_Model_parameter 15 = .ok (.if_icmp .lt 13, 3) := by decide +kernel
theorem d_Model_parameter_18 : decode b_Model_parameter 18 = .ok (.iload_n 2, 1) := by decide +kernel
theorem d_Model_parameter_19 : decode b_Model_parameter 19 = .ok (.aload_n 0, 1) := by decide +kernel
theorem d_Model_parameter_20 : decode b_Model_parameter 20 = .ok (.getfield 27, 3) := by decide +kernel
theorem d_Model_parameter_23 : decode b_Model_parameter 23 = .ok (.iload_n 1, 1) := by decide +kernel
theorem d_Model_parameter_24 : decode b_Model_parameter 24 = .ok (.iaload, 1) := by decide +kernel
theorem d_Model_parameter_25 : decode b_Model_parameter 25 = .ok (.if_icmp .lt 5, 3) := by decide +kernel
theorem d_Model_parameter_28 : decode b_Model_parameter 28 = .ok (.iconst (-1), 1) := by decide +kernel
theorem d_Model_parameter_29 : decode b_Model_parameter 29 = .ok (.ireturn, 1) := by decide +kernel
theorem d_Model_parameter_30 : decode b_Model_parameter 30 = .ok (.iload_n 2, 1) := by decide +kernel
theorem d_Model_parameter_31 : decode b_Model_parameter 31 = .ok (.ifCond .ge 12, 3) := by decide +kernel
theorem d_Model_parameter_34 : decode b_Model_parameter 34 = .ok (.aload_n 0, 1) := by decide +kernel
theorem d_Model_parameter_35 : decode b_Model_parameter 35 = .ok (.getfield 27, 3) := by decide +kernel
theorem d_Model_parameter_38 : decode b_Model_parameter 38 = .ok (.iload_n 1, 1) := by decide +kernel
theorem d_Model_parameter_39 : decode b_Model_parameter 39 = .ok (.iaload, 1) := by decide +kernel
theorem d_Model_parameter_40 : decode b_Model_parameter 40 = .ok (.goto 14, 3) := by decide +kernel
theorem d_Model_parameter_43 : decode b_Model_parameter 43 = .ok (.aload_n 0, 1) := by decide +kernel
theorem d_Model_parameter_44 : decode b_Model_parameter 44 = .ok (.getfield 30, 3) := by decide +kernel
theorem d_Model_parameter_47 : decode b_Model_parameter 47 = .ok (.bipush 8, 2) := by decide +kernel
theorem d_Model_parameter_49 : decode b_Model_parameter 49 = .ok (.iload_n 1, 1) := by decide +kernel
theorem d_Model_parameter_50 : decode b_Model_parameter 50 = .ok (.imul, 1) := by decide +kernel
theorem d_Model_parameter_51 : decode b_Model_parameter 51 = .ok (.iload_n 2, 1) := by decide +kernel
theorem d_Model_parameter_52 : decode b_Model_parameter 52 = .ok (.iadd, 1) := by decide +kernel
theorem d_Model_parameter_53 : decode b_Model_parameter 53 = .ok (.iaload, 1) := by decide +kernel
theorem d_Model_parameter_54 : decode b_Model_parameter 54 = .ok (.ireturn, 1) := by decide +kernel
theorem d_Model_value_0 : decode b_Model_value 0 = .ok (.aload_n 0, 1) := by decide +kernel
theorem d_Model_value_1 : decode b_Model_value 1 = .ok (.iconst 0, 1) := by decide +kernel
theorem d_Model_value_2 : decode b_Model_value 2 = .ok (.putfield 33, 3) := by decide +kernel
theorem d_Model_value_5 : decode b_Model_value 5 = .ok (.iload_n 1, 1) := by decide +kernel
theorem d_Model_value_6 : decode b_Model_value 6 = .ok (.ifCond .lt 16, 3) := by decide +kernel
theorem d_Model_value_9 : decode b_Model_value 9 = .ok (.iload_n 1, 1) := by decide +kernel
theorem d_Model_value_10 : decode b_Model_value 10 = .ok (.bipush 8, 2) := by decide +kernel
theorem d_Model_value_12 : decode b_Model_value 12 = .ok (.if_icmp .ge 10, 3) := by decide +kernel
theorem d_Model_value_15 : decode b_Model_value 15 = .ok (.aload_n 0, 1) := by decide +kernel
theorem d_Model_value_16 : decode b_Model_value 16 = .ok (.getfield 13, 3) := by decide +kernel
theorem d_Model_value_19 : decode b_Model_value 19 = .ok (.iload_n 1, 1) := by decide +kernel
theorem d_Model_value_20 : decode b_Model_value 20 = .ok (.iaload, 1) := by decide +kernel
theorem d_Model_value_21 : decode b_Model_value 21 = .ok (.ireturn, 1) := by decide +kernel
theorem d_Model_value_22 : decode b_Model_value 22 = .ok (.iload_n 1, 1) := by decide +kernel
theorem d_Model_value_23 : decode b_Model_value 23 = .ok (.bipush 8, 2) := by decide +kernel
theorem d_Model_value_25 : decode b_Model_value 25 = .ok (.if_icmp .ne 10, 3) := by decide +kernel
theorem d_Model_value_28 : decode b_Model_value 28 = .ok (.aload_n 0, 1) := by decide +kernel
theorem d_Model_value_29 : decode b_Model_value 29 = .ok (.getfield 7, 3) := by decide +kernel
theorem d_Model_value_32 : decode b_Model_value 32 = .ok (.goto 54, 3) := by decide +kernel
theorem d_Model_value_35 : decode b_Model_value 35 = .ok (.iload_n 1, 1) := by decide +kernel
theorem d_Model_value_36 : decode b_Model_value 36 = .ok (.bipush 9, 2) := by decide +kernel
theorem d_Model_value_38 : decode b_Model_value 38 = .ok (.if_icmp .ne 21, 3) := by decide +kernel
theorem d_Model_value_41 : decode b_Model_value 41 = .ok (.aload_n 0, 1) := by decide +kernel
theorem d_Model_value_42 : decode b_Model_value 42 = .ok (.getfield 43, 3) := by decide +kernel
theorem d_Model_value_45 : decode b_Model_value 45 = .ok (.ifCond .eq 10, 3) := by decide +kernel
theorem d_Model_value_48 : decode b_Model_value 48 = .ok (.aload_n 0, 1) := by decide +kernel
theorem d_Model_value_49 : decode b_Model_value 49 = .ok (.getfield 47, 3) := by decide +kernel
theorem d_Model_value_52 : decode b_Model_value 52 = .ok (.goto 34, 3) := by decide +kernel
theorem d_Model_value_55 : decode b_Model_value 55 = .ok (.iconst (-1), 1) := by decide +kernel
theorem d_Model_value_56 : decode b_Model_value 56 = .ok (.goto 30, 3) := by decide +kernel
theorem d_Model_value_59 : decode b_Model_value 59 = .ok (.iload_n 1, 1) := by decide +kernel
theorem d_Model_value_60 : decode b_Model_value 60 = .ok (.bipush 10, 2) := by decide +kernel
theorem d_Model_value_62 : decode b_Model_value 62 = .ok (.if_icmp .ne 10, 3) := by decide +kernel
theorem d_Model_value_65 : decode b_Model_value 65 = .ok (.aload_n 0, 1) := by decide +kernel
theorem d_Model_value_66 : decode b_Model_value 66 = .ok (.getfield 36, 3) := by decide +kernel
theorem d_Model_value_69 : decode b_Model_value 69 = .ok (.goto 17, 3) := by decide +kernel
theorem d_Model_value_72 : decode b_Model_value 72 = .ok (.iload_n 1, 1) := by decide +kernel
theorem d_Model_value_73 : decode b_Model_value 73 = .ok (.bipush 11, 2) := by decide +kernel
theorem d_Model_value_75 : decode b_Model_value 75 = .ok (.if_icmp .ne 10, 3) := by decide +kernel
theorem d_Model_value_78 : decode b_Model_value 78 = .ok (.aload_n 0, 1) := by decide +kernel
theorem d_Model_value_79 : decode b_Model_value 79 = .ok (.invokevirtual 53, 3) := by decide +kernel
theorem d_Model_value_82 : decode b_Model_value 82 = .ok (.goto 4, 3) := by decide +kernel
theorem d_Model_value_85 : decode b_Model_value 85 = .ok (.iconst 0, 1) := by decide +kernel
theorem d_Model_value_86 : decode b_Model_value 86 = .ok (.ireturn, 1) := by decide +kernel
theorem d_Model_about_0 : decode b_Model_about 0 = .ok (.aload_n 0, 1) := by decide +kernel
theorem d_Model_about_1 : decode b_Model_about 1 = .ok (.iconst 0, 1) := by decide +kernel
theorem d_Model_about_2 : decode b_Model_about 2 = .ok (.putfield 33, 3) := by decide +kernel
theorem d_Model_about_5 : decode b_Model_about 5 = .ok (.aload_n 0, 1) := by decide +kernel
theorem d_Model_about_6 : decode b_Model_about 6 = .ok (.iload_n 1, 1) := by decide +kernel
theorem d_Model_about_7 : decode b_Model_about 7 = .ok (.invokevirtual 57, 3) := by decide +kernel
theorem d_Model_about_10 : decode b_Model_about 10 = .ok (.ifCond .ne 7, 3) := by decide +kernel
theorem d_Model_about_13 : decode b_Model_about 13 = .ok (.iconst (-1), 1) := by decide +kernel
theorem d_Model_about_14 : decode b_Model_about 14 = .ok (.goto 39, 3) := by decide +kernel
theorem d_Model_about_17 : decode b_Model_about 17 = .ok (.iload_n 2, 1) := by decide +kernel
theorem d_Model_about_18 : decode b_Model_about 18 = .ok (.ifCond .ne 12, 3) := by decide +kernel
theorem d_Model_about_21 : decode b_Model_about 21 = .ok (.aload_n 0, 1) := by decide +kernel
theorem d_Model_about_22 : decode b_Model_about 22 = .ok (.getfield 20, 3) := by decide +kernel
theorem d_Model_about_25 : decode b_Model_about 25 = .ok (.iload_n 1, 1) := by decide +kernel
theorem d_Model_about_26 : decode b_Model_about 26 = .ok (.iaload, 1) := by decide +kernel
theorem d_Model_about_27 : decode b_Model_about 27 = .ok (.goto 26, 3) := by decide +kernel
theorem d_Model_about_30 : decode b_Model_about 30 = .ok (.iload_n 2, 1) := by decide +kernel
theorem d_Model_about_31 : decode b_Model_about 31 = .ok (.iconst 1, 1) := by decide +kernel
theorem d_Model_about_32 : decode b_Model_about 32 = .ok (.if_icmp .ne 20, 3) := by decide +kernel
theorem d_Model_about_35 : decode b_Model_about 35 = .ok (.aload_n 0, 1) := by decide +kernel
theorem d_Model_about_36 : decode b_Model_about 36 = .ok (.getfield 23, 3) := by decide +kernel
theorem d_Model_about_39 : decode b_Model_about 39 = .ok (.iload_n 1, 1) := by decide +kernel
theorem d_Model_about_40 : decode b_Model_about 40 = .ok (.baload, 1) := by decide +kernel
theorem d_Model_about_41 : decode b_Model_about 41 = .ok (.ifCond .eq 7, 3) := by decide +kernel
theorem d_Model_about_44 : decode b_Model_about 44 = .ok (.iconst 1, 1) := by decide +kernel
theorem d_Model_about_45 : decode b_Model_about 45 = .ok (.goto 8, 3) := by decide +kernel
theorem d_Model_about_48 : decode b_Model_about 48 = .ok (.iconst 0, 1) := by decide +kernel
theorem d_Model_about_49 : decode b_Model_about 49 = .ok (.goto 4, 3) := by decide +kernel
theorem d_Model_about_52 : decode b_Model_about 52 = .ok (.iconst (-1), 1) := by decide +kernel
theorem d_Model_about_53 : decode b_Model_about 53 = .ok (.ireturn, 1) := by decide +kernel
end
section
theorem qm_0 : Cond.fieldLink R_Model 20 "ModeKeeperModel" "every" "[I" ∈ wAll := wAll_of 170 rfl rfl
theorem qm_1 : Cond.fieldLink R_Model 7 "ModeKeeperModel" "mode" "I" ∈ wAll := wAll_of 163 rfl rfl
theorem qm_2 : Cond.fieldLink R_Model 36 "ModeKeeperModel" "changes" "I" ∈ wAll := wAll_of 167 rfl rfl
theorem qm_3 : Cond.fieldLink R_Model 13 "ModeKeeperModel" "actuators" "[I" ∈ wAll := wAll_of 164 rfl rfl
theorem qm_4 : Cond.fieldLink R_Model 33 "ModeKeeperModel" "thrown" "I" ∈ wAll := wAll_of 162 rfl rfl
theorem qm_5 : Cond.initialized R_Model ∈ wAll := wAll_of 10 rfl rfl
theorem qm_6 : Cond.methodLink R_Model 39 y_Model_becomes ∈ wAll := wAll_of 208 rfl rfl
theorem qm_7 : Cond.instanceMethod y_Model_becomes ∈ wAll := wAll_of 210 rfl rfl
theorem qm_8 : Cond.selects R_Model y_Model_becomes y_Model_becomes ∈ wAll := wAll_of 4 rfl rfl
theorem qm_9 : Cond.fieldLink R_Model 43 "ModeKeeperModel" "alarmed" "Z" ∈ wAll := wAll_of 165 rfl rfl
theorem qm_10 : Cond.fieldLink R_Model 47 "ModeKeeperModel" "alarmTick" "I" ∈ wAll := wAll_of 166 rfl rfl
theorem qm_11 : Cond.fieldLink R_Model 50 "ModeKeeperModel" "size" "I" ∈ wAll := wAll_of 168 rfl rfl
theorem qm_12 : Cond.fieldLink R_Model 17 "ModeKeeperModel" "text" "[I" ∈ wAll := wAll_of 169 rfl rfl
theorem qm_13 : Cond.methodLink R_Model 53 y_Model_forms ∈ wAll := wAll_of 228 rfl rfl
theorem qm_14 : Cond.instanceMethod y_Model_forms ∈ wAll := wAll_of 230 rfl rfl
theorem qm_15 : Cond.selects R_Model y_Model_forms y_Model_forms ∈ wAll := wAll_of 5 rfl rfl
theorem qm_16 : Cond.fieldLink R_Model 23 "ModeKeeperModel" "on" "[Z" ∈ wAll := wAll_of 171 rfl rfl
theorem qm_17 : Cond.fieldLink R_Model 27 "ModeKeeperModel" "many" "[I" ∈ wAll := wAll_of 172 rfl rfl
theorem qm_18 : Cond.fieldLink R_Model 30 "ModeKeeperModel" "parameters" "[I" ∈ wAll := wAll_of 173 rfl rfl
theorem qm_19 : Cond.methodLink R_Model 57 y_Model_isThere ∈ wAll := wAll_of 236 rfl rfl
theorem qm_20 : Cond.instanceMethod y_Model_isThere ∈ wAll := wAll_of 238 rfl rfl
theorem qm_21 : Cond.selects R_Model y_Model_isThere y_Model_isThere ∈ wAll := wAll_of 6 rfl rfl
theorem qm_22 : Cond.methodLink R_Model 1 objectInit ∈ wAll := wAll_of 161 rfl rfl
theorem qm_23 : Cond.arrayClass .boolean ∈ wAll := wAll_of 199 rfl rfl
end
section
set_option maxHeartbeats 4000000 in
set_option maxRecDepth 100000 in
theorem c_Model_isThere (l : Launch) (dC : Nat → ClassId) (dI : Nat → Nat → Nat) (bd : Nat → Nat) (sz : Nat) (cI cZ : ClassId) (j ac tx ev on mn pm : Nat → Int32) (id : Int32) : Met l y_Model_isThere w_Model_isThere ({ frames := 0, cells := 0, slots := 0, locals := 0 }) (va_Pc [.ref (bd 0), .int id] (gP (dC, dI) classes (tyM cI cZ) (wM bd cI cZ j ac tx ev on mn pm) sz)) (vp_Si (fun r => r = (mTh ev id))) 0 0 (fun _ => False) := by
  refine Met.ofW (cc := b_Model_isThere) (maxL := 2) (ret := (some .boolean)) (by decide) rfl ?_
  intro p e s m args below meth c s₁ B hml hv
  obtain ⟨rfl, hsz, hP, hK, hD0, hN⟩ := hv
  have hx := B.exec
  have hb := B.bytes
  have hrt := B.returns
  have hq : ∀ w ∈ wAll, w.before ([.ref (bd 0), .int id] : List Value).toArray s = true := fun w h => atoms_spec (ws := w_Model_isThere) B.pre w (List.mem_cons_of_mem _ h)
  have hown : s.vm.findClass R_Model = some m.cls := findClass_of_methodNamed B.named
  have hlocks := B.notSynchronized
  subst hsz
  have hD := hD0
  have hl := lv_entry ([.ref (bd 0), .int id]) (n := 2) (Nat.le_of_ble_eq_true rfl)
  rw [lg_entry_eq]
  generalize (lg_sl ([.ref (bd 0), .int id]) ++ List.replicate (2 - (lg_sl ([.ref (bd 0), .int id])).length) Slot.unset).toArray = ls at hl ⊢
  have hl : lv_has ls 2 [(0, .ref (bd 0)), (1, .int id)] := hl
  refine lv_iload_n hx hb d_Model_isThere_0 rfl (lv_at hl 1 rfl) ?_
  refine lv_if_lt (tgt := 24) hx hb d_Model_isThere_1 (by decide) (fun c_1 => ?_) (fun c_1 => ?_)
  · refine lv_iconst (v := 0) hx hb d_Model_isThere_24 (by decide) ?_
    exact W.zret (v := 0) hx hb hrt rfl (fun t ht hW => ⟨0, rfl, (by simp only [mTh, if_pos c_1] <;> rfl), ht⟩) (fun _ h => by cases h) d_Model_isThere_25
  · refine lv_iload_n hx hb d_Model_isThere_4 rfl (lv_at hl 1 rfl) ?_
    refine lv_sipush (v := 256) hx hb d_Model_isThere_5 (by decide) ?_
    refine lv_icmp_ge (tgt := 24) hx hb d_Model_isThere_8 (by decide) (fun c_2 => ?_) (fun c_2 => ?_)
    · refine lv_iconst (v := 0) hx hb d_Model_isThere_24 (by decide) ?_
      exact W.zret (v := 0) hx hb hrt rfl (fun t ht hW => ⟨0, rfl, (by simp only [mTh, if_neg c_1, if_pos c_2] <;> rfl), ht⟩) (fun _ h => by cases h) d_Model_isThere_25
    · refine lv_aload_n hx hb d_Model_isThere_11 rfl (lv_at hl 0 rfl) ?_
      refine va_get (D := (dC, dI)) (ci := 2) (v := .ref (bd 3)) (C := R_Model) (T := F_Model) (N := 12) hx hb hq iw_M hown hK hP 0 rfl rfl 8 (by decide) (hq _ qm_0) (fun _ h9 => h9) rfl d_Model_isThere_12 ?_
      refine lv_iload_n hx hb d_Model_isThere_15 rfl (lv_at hl 1 rfl) ?_
      refine va_iald (D := (dC, dI)) hx hb hK hP 3 0 rfl rfl (m_in (N := 256) (by decide) c_1 c_2) d_Model_isThere_16 ?_
      refine lv_if_le (tgt := 24) hx hb d_Model_isThere_17 (by decide) (fun c_3 => ?_) (fun c_3 => ?_)
      · refine lv_iconst (v := 0) hx hb d_Model_isThere_24 (by decide) ?_
        exact W.zret (v := 0) hx hb hrt rfl (fun t ht hW => ⟨0, rfl, (by simp only [mTh, if_neg c_1, if_neg c_2, if_pos c_3] <;> rfl), ht⟩) (fun _ h => by cases h) d_Model_isThere_25
      · refine lv_iconst (v := 1) hx hb d_Model_isThere_20 (by decide) ?_
        refine lv_goto (tgt := 25) hx hb d_Model_isThere_21 (by decide) ?_
        exact W.zret (v := 1) hx hb hrt rfl (fun t ht hW => ⟨1, rfl, (by simp only [mTh, if_neg c_1, if_neg c_2, if_neg c_3] <;> rfl), ht⟩) (fun _ h => by cases h) d_Model_isThere_25
set_option maxHeartbeats 4000000 in
set_option maxRecDepth 100000 in
theorem c_Model_forms (l : Launch) (dC : Nat → ClassId) (dI : Nat → Nat → Nat) (bd : Nat → Nat) (sz : Nat) (cI cZ : ClassId) (j ac tx ev on mn pm : Nat → Int32) : Met l y_Model_forms w_Model_forms ({ frames := 0, cells := 0, slots := 0, locals := 0 }) (va_Pc [.ref (bd 0)] (gP (dC, dI) classes (tyM cI cZ) (wM bd cI cZ j ac tx ev on mn pm) sz)) (vp_Si (fun r => r = (mCnt ev 256 0 0))) 0 0 (fun _ => False) := by
  refine Met.ofW (cc := b_Model_forms) (maxL := 3) (ret := (some .int)) (by decide) rfl ?_
  intro p e s m args below meth c s₁ B hml hv
  obtain ⟨rfl, hsz, hP, hK, hD0, hN⟩ := hv
  have hx := B.exec
  have hb := B.bytes
  have hrt := B.returns
  have hq : ∀ w ∈ wAll, w.before ([.ref (bd 0)] : List Value).toArray s = true := fun w h => atoms_spec (ws := w_Model_forms) B.pre w (List.mem_cons_of_mem _ h)
  have hown : s.vm.findClass R_Model = some m.cls := findClass_of_methodNamed B.named
  have hlocks := B.notSynchronized
  subst hsz
  have hD := hD0
  have hl := lv_entry ([.ref (bd 0)]) (n := 3) (Nat.le_of_ble_eq_true rfl)
  rw [lg_entry_eq]
  generalize (lg_sl ([.ref (bd 0)]) ++ List.replicate (3 - (lg_sl ([.ref (bd 0)])).length) Slot.unset).toArray = ls at hl ⊢
  have hl : lv_has ls 3 [(0, .ref (bd 0))] := hl
  have key : ∀ (n i : Nat) (x : Int32), i + n = 256 → mCnt ev 256 0 0 = mCnt ev n i x → ∀ (ls : Array Slot), lv_has ls 3 [(0, .ref (bd 0)), (1, .int x), (2, .int (nI i))] → W p l e (headSpec w_Model_forms ({ frames := 0, cells := 0, slots := 0, locals := 0 })).room s m ([.ref (bd 0)] : List Value).toArray below meth c s.heap [] 0 0 (MQ below (vp_Si (fun r => r = (mCnt ev 256 0 0))) ([.ref (bd 0)] : List Value).toArray s 0 0 (fun _ => False)) (F0 m 4 ls []) := by
    intro n
    induction n with
    | zero =>
      intro i x hin hres ls hl
      obtain rfl : i = 256 := by omega
      refine lv_iload_n hx hb d_Model_forms_4 rfl (lv_at hl 2 rfl) ?_
      refine lv_sipush (v := 256) hx hb d_Model_forms_5 (by decide) ?_
      refine lv_icmp_ge (tgt := 34) hx hb d_Model_forms_8 (by decide) (fun c_1 => ?_) (fun c_1 => ?_)
      · refine lv_iload_n hx hb d_Model_forms_34 rfl (lv_at hl 1 rfl) ?_
        exact W.iret (v := x) hx hb hrt (fun t ht hW => ⟨x, rfl, hres.symm, ht⟩) (fun _ h => by cases h) d_Model_forms_35
      · exact absurd (by decide +kernel) c_1
    | succ n ih =>
      intro i x hin hres ls hl
      have hi : i < 256 := by omega
      refine lv_iload_n hx hb d_Model_forms_4 rfl (lv_at hl 2 rfl) ?_
      refine lv_sipush (v := 256) hx hb d_Model_forms_5 (by decide) ?_
      refine lv_icmp_ge (tgt := 34) hx hb d_Model_forms_8 (by decide) (fun c_2 => ?_) (fun c_2 => ?_)
      · exact absurd c_2 (nI_ge (b := 256) hi (by decide))
      · refine lv_iload_n hx hb d_Model_forms_11 rfl (lv_at hl 1 rfl) ?_
        refine lv_aload_n hx hb d_Model_forms_12 rfl (lv_at hl 0 rfl) ?_
        refine va_get (D := (dC, dI)) (ci := 2) (v := .ref (bd 3)) (C := R_Model) (T := F_Model) (N := 12) hx hb hq iw_M hown hK hP 0 rfl rfl 8 (by decide) (hq _ qm_0) (fun _ h9 => h9) rfl d_Model_forms_13 ?_
        refine lv_iload_n hx hb d_Model_forms_16 rfl (lv_at hl 2 rfl) ?_
        refine g_ild (D := (dC, dI)) hx hb hK hP 3 0 rfl rfl (i := i) hi (by decide) d_Model_forms_17 ?_
        refine lv_if_le (tgt := 25) hx hb d_Model_forms_18 (by decide) (fun c_3 => ?_) (fun c_3 => ?_)
        · refine lv_iconst (v := 0) hx hb d_Model_forms_25 (by decide) ?_
          refine lv_iadd hx hb d_Model_forms_26 ?_
          refine lv_istore_n (lv' := [(1, .int (x + 0)), (0, .ref (bd 0)), (2, .int (nI i))]) hx hb d_Model_forms_27 rfl hl (by decide) rfl (fun ls hl => ?_)
          refine lv_iinc (v := (nI (i + 1))) (lv' := [(2, .int (nI (i + 1))), (1, .int (x + 0)), (0, .ref (bd 0))]) hx hb d_Model_forms_28 hl (k := 2) rfl ((show nI i + Int32.ofInt 1 = nI i + 1 from rfl).trans (nI_1 i)) (by decide) rfl (fun ls hl => ?_)
          refine lv_goto (tgt := 4) hx hb d_Model_forms_31 (by decide) ?_
          exact ih (i + 1) ((x + 0)) (by omega) (by rw [hres]; simp only [mCnt, if_pos c_3]) ls (lv_sub hl [2, 1, 0] rfl)
        · refine lv_iconst (v := 1) hx hb d_Model_forms_21 (by decide) ?_
          refine lv_goto (tgt := 26) hx hb d_Model_forms_22 (by decide) ?_
          refine lv_iadd hx hb d_Model_forms_26 ?_
          refine lv_istore_n (lv' := [(1, .int (x + 1)), (0, .ref (bd 0)), (2, .int (nI i))]) hx hb d_Model_forms_27 rfl hl (by decide) rfl (fun ls hl => ?_)
          refine lv_iinc (v := (nI (i + 1))) (lv' := [(2, .int (nI (i + 1))), (1, .int (x + 1)), (0, .ref (bd 0))]) hx hb d_Model_forms_28 hl (k := 2) rfl ((show nI i + Int32.ofInt 1 = nI i + 1 from rfl).trans (nI_1 i)) (by decide) rfl (fun ls hl => ?_)
          refine lv_goto (tgt := 4) hx hb d_Model_forms_31 (by decide) ?_
          exact ih (i + 1) ((x + 1)) (by omega) (by rw [hres]; simp only [mCnt, if_neg c_3]) ls (lv_sub hl [2, 1, 0] rfl)
  refine lv_iconst (v := 0) hx hb d_Model_forms_0 (by decide) ?_
  refine lv_istore_n (lv' := [(1, .int 0), (0, .ref (bd 0))]) hx hb d_Model_forms_1 rfl hl (by decide) rfl (fun ls hl => ?_)
  refine lv_iconst (v := 0) hx hb d_Model_forms_2 (by decide) ?_
  refine lv_istore_n (lv' := [(2, .int 0), (1, .int 0), (0, .ref (bd 0))]) hx hb d_Model_forms_3 rfl hl (by decide) rfl (fun ls hl => ?_)
  exact key 256 0 0 rfl rfl ls (lv_sub hl [2, 1, 0] rfl)
set_option maxHeartbeats 4000000 in
set_option maxRecDepth 100000 in
theorem c_Model_becomes (l : Launch) (dC : Nat → ClassId) (dI : Nat → Nat → Nat) (bd : Nat → Nat) (sz : Nat) (cI cZ : ClassId) (j ac tx ev on mn pm : Nat → Int32) (m0 : Int32) : Met l y_Model_becomes w_Model_becomes ({ frames := 0, cells := 0, slots := 0, locals := 0 }) (va_Pc [.ref (bd 0), .int m0] (gP (dC, dI) classes (tyM cI cZ) (wM bd cI cZ j ac tx ev on mn pm) sz)) (va_Qi (fun r (_ : Unit) => r = (mBeR j m0)) (fun _ t => gB (dC, dI) classes (va_A (wM bd cI cZ j ac tx ev on mn pm) sz) (wM bd cI cZ ((mBeJ j m0)) ((mBeA j ac m0)) tx ev on mn pm) t) (va_A (wM bd cI cZ j ac tx ev on mn pm) sz)) 0 0 (va_A (wM bd cI cZ j ac tx ev on mn pm) sz) := by
  refine Met.ofW (cc := b_Model_becomes) (maxL := 4) (ret := (some .boolean)) (by decide) rfl ?_
  intro p e s m args below meth c s₁ B hml hv
  obtain ⟨rfl, hsz, hP, hK, hD0, hN⟩ := hv
  have hx := B.exec
  have hb := B.bytes
  have hrt := B.returns
  have hq : ∀ w ∈ wAll, w.before ([.ref (bd 0), .int m0] : List Value).toArray s = true := fun w h => atoms_spec (ws := w_Model_becomes) B.pre w (List.mem_cons_of_mem _ h)
  have hown : s.vm.findClass R_Model = some m.cls := findClass_of_methodNamed B.named
  have hlocks := B.notSynchronized
  subst hsz
  have hD := hD0.self (sz := s.heap.size)
  generalize hAe : va_A (wM bd cI cZ j ac tx ev on mn pm) s.heap.size = A at hD ⊢
  have hA : ∀ q : Nat, s.heap.size ≤ q → A q := fun q h => by rw [← hAe]; exact Or.inr h
  have hS : va_S A s.heap s.heap [] := va_S.rf
  have hl := lv_entry ([.ref (bd 0), .int m0]) (n := 4) (Nat.le_of_ble_eq_true rfl)
  rw [lg_entry_eq]
  generalize (lg_sl ([.ref (bd 0), .int m0]) ++ List.replicate (4 - (lg_sl ([.ref (bd 0), .int m0])).length) Slot.unset).toArray = ls at hl ⊢
  have hl : lv_has ls 4 [(0, .ref (bd 0)), (1, .int m0)] := hl
  refine lv_iload_n hx hb d_Model_becomes_0 rfl (lv_at hl 1 rfl) ?_
  refine lv_aload_n hx hb d_Model_becomes_1 rfl (lv_at hl 0 rfl) ?_
  refine va_get (D := (dC, dI)) (ci := 2) (v := .int (j 1)) (C := R_Model) (T := F_Model) (N := 12) hx hb hq iw_M hown hK hP 0 rfl rfl 1 (by decide) (hq _ qm_1) (fun _ h9 => h9) rfl d_Model_becomes_2 ?_
  refine lv_icmp_eq (tgt := 12) hx hb d_Model_becomes_5 (by decide) (fun c_1 => ?_) (fun c_1 => ?_)
  · refine lv_iconst (v := 0) hx hb d_Model_becomes_12 (by decide) ?_
    refine lv_istore_n (lv' := [(2, .int 0), (0, .ref (bd 0)), (1, .int m0)]) hx hb d_Model_becomes_13 rfl hl (by decide) rfl (fun ls hl => ?_)
    refine lv_aload_n hx hb d_Model_becomes_14 rfl (lv_at hl 1 rfl) ?_
    refine lv_iload_n hx hb d_Model_becomes_15 rfl (lv_at hl 2 rfl) ?_
    refine va_put (D := (dC, dI)) (ci := 2) (v := .int m0) (ty := .int) (C := R_Model) (T := F_Model) (N := 12) hx hb hq iw_M t_Model t_Model_ok n_Model hown hK hP hD hS 0 rfl rfl 1 (by decide) (hq _ qm_1) (fun _ h9 => h9) rfl (by decide +kernel) rfl rfl (Nat.le_of_ble_eq_true rfl) d_Model_becomes_16 (fun H locs hP hD hS => ?_)
    have hP : va_P (dC, dI) classes (wM bd cI cZ ((upd j 1 m0)) ac tx ev on mn pm) H := hP
    have hD : va_D A (wM bd cI cZ ((upd j 1 m0)) ac tx ev on mn pm) := hD
    refine lv_aload_n hx hb d_Model_becomes_19 rfl (lv_at hl 1 rfl) ?_
    refine lv_dup hx hb d_Model_becomes_20 rfl ?_
    refine va_get (D := (dC, dI)) (ci := 2) (v := .int (j 5)) (C := R_Model) (T := F_Model) (N := 12) hx hb hq iw_M hown hK hP 0 rfl rfl 5 (by decide) (hq _ qm_2) (fun _ h9 => h9) rfl d_Model_becomes_21 ?_
    refine lv_iload_n hx hb d_Model_becomes_24 rfl (lv_at hl 0 rfl) ?_
    refine lv_if_eq (tgt := 32) hx hb d_Model_becomes_25 (by decide) (fun c_2 => ?_) (fun c_2 => ?_)
    · refine lv_iconst (v := 0) hx hb d_Model_becomes_32 (by decide) ?_
      refine lv_iadd hx hb d_Model_becomes_33 ?_
      refine va_put (D := (dC, dI)) (ci := 2) (v := .int ((j 5) + 0)) (ty := .int) (C := R_Model) (T := F_Model) (N := 12) hx hb hq iw_M t_Model t_Model_ok n_Model hown hK hP hD hS 0 rfl rfl 5 (by decide) (hq _ qm_2) (fun _ h9 => h9) rfl (by decide +kernel) rfl rfl (Nat.le_of_ble_eq_true rfl) d_Model_becomes_34 (fun H locs hP hD hS => ?_)
      have hP : va_P (dC, dI) classes (wM bd cI cZ ((upd (upd j 1 m0) 5 (((j 5) + 0)))) ac tx ev on mn pm) H := hP
      have hD : va_D A (wM bd cI cZ ((upd (upd j 1 m0) 5 (((j 5) + 0)))) ac tx ev on mn pm) := hD
      refine lv_iconst (v := 0) hx hb d_Model_becomes_37 (by decide) ?_
      refine lv_istore_n (lv' := [(3, .int 0), (2, .int 0), (0, .ref (bd 0)), (1, .int m0)]) hx hb d_Model_becomes_38 rfl hl (by decide) rfl (fun ls hl => ?_)
      refine lv_iload_n hx hb d_Model_becomes_39 rfl (lv_at hl 0 rfl) ?_
      refine lv_bipush (v := 8) hx hb d_Model_becomes_40 (by decide) ?_
      refine lv_icmp_ge (tgt := 97) hx hb d_Model_becomes_42 (by decide) (fun c_3 => ?_) (fun c_3 => ?_)
      · exact absurd c_3 (by decide)
      · refine lv_iload_n hx hb d_Model_becomes_45 rfl (lv_at hl 1 rfl) ?_
        refine lv_if_eq (tgt := 97) hx hb d_Model_becomes_46 (by decide) (fun c_4 => ?_) (fun c_4 => ?_)
        · refine lv_iload_n hx hb d_Model_becomes_97 rfl (lv_at hl 1 rfl) ?_
          have e_j : (mBeJ j m0) = (upd (upd j 1 m0) 5 (((j 5) + 0))) := (by simp only [mBeR, mBeJ, mBeA, if_pos c_1, if_pos c_2, if_neg c_3, if_pos c_4] <;> rfl)
          have e_ac : (mBeA j ac m0) = ac := (by simp only [mBeR, mBeJ, mBeA, if_pos c_1, if_pos c_2, if_neg c_3, if_pos c_4] <;> rfl)
          have hP9 : va_P (dC, dI) classes (wM bd cI cZ ((mBeJ j m0)) ((mBeA j ac m0)) tx ev on mn pm) H := by rw [e_j, e_ac]; exact hP
          have hD9 : va_D A (wM bd cI cZ ((mBeJ j m0)) ((mBeA j ac m0)) tx ev on mn pm) := by rw [e_j, e_ac]; exact hD
          exact W.zret (v := 0) hx hb hrt rfl (fun t ht hW => ⟨⟨0, (), rfl, (by simp only [mBeR, mBeJ, mBeA, if_pos c_1, if_pos c_2, if_neg c_3, if_pos c_4] <;> rfl), by rw [ht]; exact hP9, hD9⟩, hS.F ht⟩) hS.2.2 d_Model_becomes_98
        · exact absurd (by decide) c_4
    · exact absurd (by decide) c_2
  · refine lv_iconst (v := 1) hx hb d_Model_becomes_8 (by decide) ?_
    refine lv_goto (tgt := 13) hx hb d_Model_becomes_9 (by decide) ?_
    refine lv_istore_n (lv' := [(2, .int 1), (0, .ref (bd 0)), (1, .int m0)]) hx hb d_Model_becomes_13 rfl hl (by decide) rfl (fun ls hl => ?_)
    refine lv_aload_n hx hb d_Model_becomes_14 rfl (lv_at hl 1 rfl) ?_
    refine lv_iload_n hx hb d_Model_becomes_15 rfl (lv_at hl 2 rfl) ?_
    refine va_put (D := (dC, dI)) (ci := 2) (v := .int m0) (ty := .int) (C := R_Model) (T := F_Model) (N := 12) hx hb hq iw_M t_Model t_Model_ok n_Model hown hK hP hD hS 0 rfl rfl 1 (by decide) (hq _ qm_1) (fun _ h9 => h9) rfl (by decide +kernel) rfl rfl (Nat.le_of_ble_eq_true rfl) d_Model_becomes_16 (fun H locs hP hD hS => ?_)
    have hP : va_P (dC, dI) classes (wM bd cI cZ ((upd j 1 m0)) ac tx ev on mn pm) H := hP
    have hD : va_D A (wM bd cI cZ ((upd j 1 m0)) ac tx ev on mn pm) := hD
    refine lv_aload_n hx hb d_Model_becomes_19 rfl (lv_at hl 1 rfl) ?_
    refine lv_dup hx hb d_Model_becomes_20 rfl ?_
    refine va_get (D := (dC, dI)) (ci := 2) (v := .int (j 5)) (C := R_Model) (T := F_Model) (N := 12) hx hb hq iw_M hown hK hP 0 rfl rfl 5 (by decide) (hq _ qm_2) (fun _ h9 => h9) rfl d_Model_becomes_21 ?_
    refine lv_iload_n hx hb d_Model_becomes_24 rfl (lv_at hl 0 rfl) ?_
    refine lv_if_eq (tgt := 32) hx hb d_Model_becomes_25 (by decide) (fun c_5 => ?_) (fun c_5 => ?_)
    · exact absurd c_5 (by decide)
    · refine lv_iconst (v := 1) hx hb d_Model_becomes_28 (by decide) ?_
      refine lv_goto (tgt := 33) hx hb d_Model_becomes_29 (by decide) ?_
      refine lv_iadd hx hb d_Model_becomes_33 ?_
      refine va_put (D := (dC, dI)) (ci := 2) (v := .int ((j 5) + 1)) (ty := .int) (C := R_Model) (T := F_Model) (N := 12) hx hb hq iw_M t_Model t_Model_ok n_Model hown hK hP hD hS 0 rfl rfl 5 (by decide) (hq _ qm_2) (fun _ h9 => h9) rfl (by decide +kernel) rfl rfl (Nat.le_of_ble_eq_true rfl) d_Model_becomes_34 (fun H locs hP hD hS => ?_)
      have hP : va_P (dC, dI) classes (wM bd cI cZ ((upd (upd j 1 m0) 5 (((j 5) + 1)))) ac tx ev on mn pm) H := hP
      have hD : va_D A (wM bd cI cZ ((upd (upd j 1 m0) 5 (((j 5) + 1)))) ac tx ev on mn pm) := hD
      refine lv_iconst (v := 0) hx hb d_Model_becomes_37 (by decide) ?_
      refine lv_istore_n (lv' := [(3, .int 0), (2, .int 1), (0, .ref (bd 0)), (1, .int m0)]) hx hb d_Model_becomes_38 rfl hl (by decide) rfl (fun ls hl => ?_)
      refine lv_iload_n hx hb d_Model_becomes_39 rfl (lv_at hl 0 rfl) ?_
      refine lv_bipush (v := 8) hx hb d_Model_becomes_40 (by decide) ?_
      refine lv_icmp_ge (tgt := 97) hx hb d_Model_becomes_42 (by decide) (fun c_6 => ?_) (fun c_6 => ?_)
      · exact absurd c_6 (by decide)
      · refine lv_iload_n hx hb d_Model_becomes_45 rfl (lv_at hl 1 rfl) ?_
        refine lv_if_eq (tgt := 97) hx hb d_Model_becomes_46 (by decide) (fun c_7 => ?_) (fun c_7 => ?_)
        · exact absurd c_7 (by decide)
        · refine lv_iload_n hx hb d_Model_becomes_49 rfl (lv_at hl 3 rfl) ?_
          refine lv_if_ne (tgt := 97) hx hb d_Model_becomes_50 (by decide) (fun c_8 => ?_) (fun c_8 => ?_)
          · refine lv_iload_n hx hb d_Model_becomes_97 rfl (lv_at hl 1 rfl) ?_
            have e_j : (mBeJ j m0) = (upd (upd j 1 m0) 5 (((j 5) + 1))) := (by simp only [mBeR, mBeJ, mBeA, if_neg c_1, if_neg c_5, if_neg c_6, if_neg c_7, if_neg c_8] <;> rfl)
            have e_ac : (mBeA j ac m0) = ac := (by simp only [mBeR, mBeJ, mBeA, if_neg c_1, if_neg c_5, if_neg c_6, if_neg c_7, if_neg c_8] <;> rfl)
            have hP9 : va_P (dC, dI) classes (wM bd cI cZ ((mBeJ j m0)) ((mBeA j ac m0)) tx ev on mn pm) H := by rw [e_j, e_ac]; exact hP
            have hD9 : va_D A (wM bd cI cZ ((mBeJ j m0)) ((mBeA j ac m0)) tx ev on mn pm) := by rw [e_j, e_ac]; exact hD
            exact W.zret (v := 1) hx hb hrt rfl (fun t ht hW => ⟨⟨1, (), rfl, (by simp only [mBeR, mBeJ, mBeA, if_neg c_1, if_neg c_5, if_neg c_6, if_neg c_7, if_neg c_8] <;> rfl), by rw [ht]; exact hP9, hD9⟩, hS.F ht⟩) hS.2.2 d_Model_becomes_98
          · refine lv_aload_n hx hb d_Model_becomes_53 rfl (lv_at hl 2 rfl) ?_
            refine va_get (D := (dC, dI)) (ci := 2) (v := .ref (bd 1)) (C := R_Model) (T := F_Model) (N := 12) hx hb hq iw_M hown hK hP 0 rfl rfl 2 (by decide) (hq _ qm_3) (fun _ h9 => h9) rfl d_Model_becomes_54 ?_
            refine lv_iload_n hx hb d_Model_becomes_57 rfl (lv_at hl 0 rfl) ?_
            refine lv_iload_n hx hb d_Model_becomes_58 rfl (lv_at hl 0 rfl) ?_
            refine lv_iconst (v := 4) hx hb d_Model_becomes_59 (by decide) ?_
            refine lv_icmp_ge (tgt := 67) hx hb d_Model_becomes_60 (by decide) (fun c_9 => ?_) (fun c_9 => ?_)
            · exact absurd c_9 (by decide)
            · refine lv_iconst (v := 0) hx hb d_Model_becomes_63 (by decide) ?_
              refine lv_goto (tgt := 90) hx hb d_Model_becomes_64 (by decide) ?_
              refine g_ist (D := (dC, dI)) hx hb hK hP hD hS 1 0 rfl rfl (i := 0) (by decide) (by decide) d_Model_becomes_90 (fun H locs hP hD hS => ?_)
              have hP : va_P (dC, dI) classes (wM bd cI cZ ((upd (upd j 1 m0) 5 (((j 5) + 1)))) ((upd ac 0 0)) tx ev on mn pm) H := hP
              have hD : va_D A (wM bd cI cZ ((upd (upd j 1 m0) 5 (((j 5) + 1)))) ((upd ac 0 0)) tx ev on mn pm) := hD
              refine lv_iinc (v := 1) (lv' := [(3, .int 1), (2, .int 1), (0, .ref (bd 0)), (1, .int m0)]) hx hb d_Model_becomes_91 hl (k := 0) rfl (by decide) (by decide) rfl (fun ls hl => ?_)
              refine lv_goto (tgt := 39) hx hb d_Model_becomes_94 (by decide) ?_
              refine lv_iload_n hx hb d_Model_becomes_39 rfl (lv_at hl 0 rfl) ?_
              refine lv_bipush (v := 8) hx hb d_Model_becomes_40 (by decide) ?_
              refine lv_icmp_ge (tgt := 97) hx hb d_Model_becomes_42 (by decide) (fun c_10 => ?_) (fun c_10 => ?_)
              · exact absurd c_10 (by decide)
              · refine lv_iload_n hx hb d_Model_becomes_45 rfl (lv_at hl 1 rfl) ?_
                refine lv_if_eq (tgt := 97) hx hb d_Model_becomes_46 (by decide) (fun c_11 => ?_) (fun c_11 => ?_)
                · exact absurd c_11 (by decide)
                · refine lv_iload_n hx hb d_Model_becomes_49 rfl (lv_at hl 3 rfl) ?_
                  refine lv_if_ne (tgt := 97) hx hb d_Model_becomes_50 (by decide) (fun c_12 => ?_) (fun c_12 => ?_)
                  · exact absurd c_8 c_12
                  · refine lv_aload_n hx hb d_Model_becomes_53 rfl (lv_at hl 2 rfl) ?_
                    refine va_get (D := (dC, dI)) (ci := 2) (v := .ref (bd 1)) (C := R_Model) (T := F_Model) (N := 12) hx hb hq iw_M hown hK hP 0 rfl rfl 2 (by decide) (hq _ qm_3) (fun _ h9 => h9) rfl d_Model_becomes_54 ?_
                    refine lv_iload_n hx hb d_Model_becomes_57 rfl (lv_at hl 0 rfl) ?_
                    refine lv_iload_n hx hb d_Model_becomes_58 rfl (lv_at hl 0 rfl) ?_
                    refine lv_iconst (v := 4) hx hb d_Model_becomes_59 (by decide) ?_
                    refine lv_icmp_ge (tgt := 67) hx hb d_Model_becomes_60 (by decide) (fun c_13 => ?_) (fun c_13 => ?_)
                    · exact absurd c_13 (by decide)
                    · refine lv_iconst (v := 0) hx hb d_Model_becomes_63 (by decide) ?_
                      refine lv_goto (tgt := 90) hx hb d_Model_becomes_64 (by decide) ?_
                      refine g_ist (D := (dC, dI)) hx hb hK hP hD hS 1 0 rfl rfl (i := 1) (by decide) (by decide) d_Model_becomes_90 (fun H locs hP hD hS => ?_)
                      have hP : va_P (dC, dI) classes (wM bd cI cZ ((upd (upd j 1 m0) 5 (((j 5) + 1)))) ((upd (upd ac 0 0) 1 0)) tx ev on mn pm) H := hP
                      have hD : va_D A (wM bd cI cZ ((upd (upd j 1 m0) 5 (((j 5) + 1)))) ((upd (upd ac 0 0) 1 0)) tx ev on mn pm) := hD
                      refine lv_iinc (v := 2) (lv' := [(3, .int 2), (2, .int 1), (0, .ref (bd 0)), (1, .int m0)]) hx hb d_Model_becomes_91 hl (k := 0) rfl (by decide) (by decide) rfl (fun ls hl => ?_)
                      refine lv_goto (tgt := 39) hx hb d_Model_becomes_94 (by decide) ?_
                      refine lv_iload_n hx hb d_Model_becomes_39 rfl (lv_at hl 0 rfl) ?_
                      refine lv_bipush (v := 8) hx hb d_Model_becomes_40 (by decide) ?_
                      refine lv_icmp_ge (tgt := 97) hx hb d_Model_becomes_42 (by decide) (fun c_14 => ?_) (fun c_14 => ?_)
                      · exact absurd c_14 (by decide)
                      · refine lv_iload_n hx hb d_Model_becomes_45 rfl (lv_at hl 1 rfl) ?_
                        refine lv_if_eq (tgt := 97) hx hb d_Model_becomes_46 (by decide) (fun c_15 => ?_) (fun c_15 => ?_)
                        · exact absurd c_15 (by decide)
                        · refine lv_iload_n hx hb d_Model_becomes_49 rfl (lv_at hl 3 rfl) ?_
                          refine lv_if_ne (tgt := 97) hx hb d_Model_becomes_50 (by decide) (fun c_16 => ?_) (fun c_16 => ?_)
                          · exact absurd c_8 c_16
                          · refine lv_aload_n hx hb d_Model_becomes_53 rfl (lv_at hl 2 rfl) ?_
                            refine va_get (D := (dC, dI)) (ci := 2) (v := .ref (bd 1)) (C := R_Model) (T := F_Model) (N := 12) hx hb hq iw_M hown hK hP 0 rfl rfl 2 (by decide) (hq _ qm_3) (fun _ h9 => h9) rfl d_Model_becomes_54 ?_
                            refine lv_iload_n hx hb d_Model_becomes_57 rfl (lv_at hl 0 rfl) ?_
                            refine lv_iload_n hx hb d_Model_becomes_58 rfl (lv_at hl 0 rfl) ?_
                            refine lv_iconst (v := 4) hx hb d_Model_becomes_59 (by decide) ?_
                            refine lv_icmp_ge (tgt := 67) hx hb d_Model_becomes_60 (by decide) (fun c_17 => ?_) (fun c_17 => ?_)
                            · exact absurd c_17 (by decide)
                            · refine lv_iconst (v := 0) hx hb d_Model_becomes_63 (by decide) ?_
                              refine lv_goto (tgt := 90) hx hb d_Model_becomes_64 (by decide) ?_
                              refine g_ist (D := (dC, dI)) hx hb hK hP hD hS 1 0 rfl rfl (i := 2) (by decide) (by decide) d_Model_becomes_90 (fun H locs hP hD hS => ?_)
                              have hP : va_P (dC, dI) classes (wM bd cI cZ ((upd (upd j 1 m0) 5 (((j 5) + 1)))) ((upd (upd (upd ac 0 0) 1 0) 2 0)) tx ev on mn pm) H := hP
                              have hD : va_D A (wM bd cI cZ ((upd (upd j 1 m0) 5 (((j 5) + 1)))) ((upd (upd (upd ac 0 0) 1 0) 2 0)) tx ev on mn pm) := hD
                              refine lv_iinc (v := 3) (lv' := [(3, .int 3), (2, .int 1), (0, .ref (bd 0)), (1, .int m0)]) hx hb d_Model_becomes_91 hl (k := 0) rfl (by decide) (by decide) rfl (fun ls hl => ?_)
                              refine lv_goto (tgt := 39) hx hb d_Model_becomes_94 (by decide) ?_
                              refine lv_iload_n hx hb d_Model_becomes_39 rfl (lv_at hl 0 rfl) ?_
                              refine lv_bipush (v := 8) hx hb d_Model_becomes_40 (by decide) ?_
                              refine lv_icmp_ge (tgt := 97) hx hb d_Model_becomes_42 (by decide) (fun c_18 => ?_) (fun c_18 => ?_)
                              · exact absurd c_18 (by decide)
                              · refine lv_iload_n hx hb d_Model_becomes_45 rfl (lv_at hl 1 rfl) ?_
                                refine lv_if_eq (tgt := 97) hx hb d_Model_becomes_46 (by decide) (fun c_19 => ?_) (fun c_19 => ?_)
                                · exact absurd c_19 (by decide)
                                · refine lv_iload_n hx hb d_Model_becomes_49 rfl (lv_at hl 3 rfl) ?_
                                  refine lv_if_ne (tgt := 97) hx hb d_Model_becomes_50 (by decide) (fun c_20 => ?_) (fun c_20 => ?_)
                                  · exact absurd c_8 c_20
                                  · refine lv_aload_n hx hb d_Model_becomes_53 rfl (lv_at hl 2 rfl) ?_
                                    refine va_get (D := (dC, dI)) (ci := 2) (v := .ref (bd 1)) (C := R_Model) (T := F_Model) (N := 12) hx hb hq iw_M hown hK hP 0 rfl rfl 2 (by decide) (hq _ qm_3) (fun _ h9 => h9) rfl d_Model_becomes_54 ?_
                                    refine lv_iload_n hx hb d_Model_becomes_57 rfl (lv_at hl 0 rfl) ?_
                                    refine lv_iload_n hx hb d_Model_becomes_58 rfl (lv_at hl 0 rfl) ?_
                                    refine lv_iconst (v := 4) hx hb d_Model_becomes_59 (by decide) ?_
                                    refine lv_icmp_ge (tgt := 67) hx hb d_Model_becomes_60 (by decide) (fun c_21 => ?_) (fun c_21 => ?_)
                                    · exact absurd c_21 (by decide)
                                    · refine lv_iconst (v := 0) hx hb d_Model_becomes_63 (by decide) ?_
                                      refine lv_goto (tgt := 90) hx hb d_Model_becomes_64 (by decide) ?_
                                      refine g_ist (D := (dC, dI)) hx hb hK hP hD hS 1 0 rfl rfl (i := 3) (by decide) (by decide) d_Model_becomes_90 (fun H locs hP hD hS => ?_)
                                      have hP : va_P (dC, dI) classes (wM bd cI cZ ((upd (upd j 1 m0) 5 (((j 5) + 1)))) ((upd (upd (upd (upd ac 0 0) 1 0) 2 0) 3 0)) tx ev on mn pm) H := hP
                                      have hD : va_D A (wM bd cI cZ ((upd (upd j 1 m0) 5 (((j 5) + 1)))) ((upd (upd (upd (upd ac 0 0) 1 0) 2 0) 3 0)) tx ev on mn pm) := hD
                                      refine lv_iinc (v := 4) (lv' := [(3, .int 4), (2, .int 1), (0, .ref (bd 0)), (1, .int m0)]) hx hb d_Model_becomes_91 hl (k := 0) rfl (by decide) (by decide) rfl (fun ls hl => ?_)
                                      refine lv_goto (tgt := 39) hx hb d_Model_becomes_94 (by decide) ?_
                                      refine lv_iload_n hx hb d_Model_becomes_39 rfl (lv_at hl 0 rfl) ?_
                                      refine lv_bipush (v := 8) hx hb d_Model_becomes_40 (by decide) ?_
                                      refine lv_icmp_ge (tgt := 97) hx hb d_Model_becomes_42 (by decide) (fun c_22 => ?_) (fun c_22 => ?_)
                                      · exact absurd c_22 (by decide)
                                      · refine lv_iload_n hx hb d_Model_becomes_45 rfl (lv_at hl 1 rfl) ?_
                                        refine lv_if_eq (tgt := 97) hx hb d_Model_becomes_46 (by decide) (fun c_23 => ?_) (fun c_23 => ?_)
                                        · exact absurd c_23 (by decide)
                                        · refine lv_iload_n hx hb d_Model_becomes_49 rfl (lv_at hl 3 rfl) ?_
                                          refine lv_if_ne (tgt := 97) hx hb d_Model_becomes_50 (by decide) (fun c_24 => ?_) (fun c_24 => ?_)
                                          · exact absurd c_8 c_24
                                          · refine lv_aload_n hx hb d_Model_becomes_53 rfl (lv_at hl 2 rfl) ?_
                                            refine va_get (D := (dC, dI)) (ci := 2) (v := .ref (bd 1)) (C := R_Model) (T := F_Model) (N := 12) hx hb hq iw_M hown hK hP 0 rfl rfl 2 (by decide) (hq _ qm_3) (fun _ h9 => h9) rfl d_Model_becomes_54 ?_
                                            refine lv_iload_n hx hb d_Model_becomes_57 rfl (lv_at hl 0 rfl) ?_
                                            refine lv_iload_n hx hb d_Model_becomes_58 rfl (lv_at hl 0 rfl) ?_
                                            refine lv_iconst (v := 4) hx hb d_Model_becomes_59 (by decide) ?_
                                            refine lv_icmp_ge (tgt := 67) hx hb d_Model_becomes_60 (by decide) (fun c_25 => ?_) (fun c_25 => ?_)
                                            · refine lv_iload_n hx hb d_Model_becomes_67 rfl (lv_at hl 0 rfl) ?_
                                              refine lv_bipush (v := 6) hx hb d_Model_becomes_68 (by decide) ?_
                                              refine lv_icmp_ge (tgt := 78) hx hb d_Model_becomes_70 (by decide) (fun c_26 => ?_) (fun c_26 => ?_)
                                              · exact absurd c_26 (by decide)
                                              · refine lv_bipush (v := 50) hx hb d_Model_becomes_73 (by decide) ?_
                                                refine lv_goto (tgt := 90) hx hb d_Model_becomes_75 (by decide) ?_
                                                refine g_ist (D := (dC, dI)) hx hb hK hP hD hS 1 0 rfl rfl (i := 4) (by decide) (by decide) d_Model_becomes_90 (fun H locs hP hD hS => ?_)
                                                have hP : va_P (dC, dI) classes (wM bd cI cZ ((upd (upd j 1 m0) 5 (((j 5) + 1)))) ((upd (upd (upd (upd (upd ac 0 0) 1 0) 2 0) 3 0) 4 50)) tx ev on mn pm) H := hP
                                                have hD : va_D A (wM bd cI cZ ((upd (upd j 1 m0) 5 (((j 5) + 1)))) ((upd (upd (upd (upd (upd ac 0 0) 1 0) 2 0) 3 0) 4 50)) tx ev on mn pm) := hD
                                                refine lv_iinc (v := 5) (lv' := [(3, .int 5), (2, .int 1), (0, .ref (bd 0)), (1, .int m0)]) hx hb d_Model_becomes_91 hl (k := 0) rfl (by decide) (by decide) rfl (fun ls hl => ?_)
                                                refine lv_goto (tgt := 39) hx hb d_Model_becomes_94 (by decide) ?_
                                                refine lv_iload_n hx hb d_Model_becomes_39 rfl (lv_at hl 0 rfl) ?_
                                                refine lv_bipush (v := 8) hx hb d_Model_becomes_40 (by decide) ?_
                                                refine lv_icmp_ge (tgt := 97) hx hb d_Model_becomes_42 (by decide) (fun c_27 => ?_) (fun c_27 => ?_)
                                                · exact absurd c_27 (by decide)
                                                · refine lv_iload_n hx hb d_Model_becomes_45 rfl (lv_at hl 1 rfl) ?_
                                                  refine lv_if_eq (tgt := 97) hx hb d_Model_becomes_46 (by decide) (fun c_28 => ?_) (fun c_28 => ?_)
                                                  · exact absurd c_28 (by decide)
                                                  · refine lv_iload_n hx hb d_Model_becomes_49 rfl (lv_at hl 3 rfl) ?_
                                                    refine lv_if_ne (tgt := 97) hx hb d_Model_becomes_50 (by decide) (fun c_29 => ?_) (fun c_29 => ?_)
                                                    · exact absurd c_8 c_29
                                                    · refine lv_aload_n hx hb d_Model_becomes_53 rfl (lv_at hl 2 rfl) ?_
                                                      refine va_get (D := (dC, dI)) (ci := 2) (v := .ref (bd 1)) (C := R_Model) (T := F_Model) (N := 12) hx hb hq iw_M hown hK hP 0 rfl rfl 2 (by decide) (hq _ qm_3) (fun _ h9 => h9) rfl d_Model_becomes_54 ?_
                                                      refine lv_iload_n hx hb d_Model_becomes_57 rfl (lv_at hl 0 rfl) ?_
                                                      refine lv_iload_n hx hb d_Model_becomes_58 rfl (lv_at hl 0 rfl) ?_
                                                      refine lv_iconst (v := 4) hx hb d_Model_becomes_59 (by decide) ?_
                                                      refine lv_icmp_ge (tgt := 67) hx hb d_Model_becomes_60 (by decide) (fun c_30 => ?_) (fun c_30 => ?_)
                                                      · refine lv_iload_n hx hb d_Model_becomes_67 rfl (lv_at hl 0 rfl) ?_
                                                        refine lv_bipush (v := 6) hx hb d_Model_becomes_68 (by decide) ?_
                                                        refine lv_icmp_ge (tgt := 78) hx hb d_Model_becomes_70 (by decide) (fun c_31 => ?_) (fun c_31 => ?_)
                                                        · exact absurd c_31 (by decide)
                                                        · refine lv_bipush (v := 50) hx hb d_Model_becomes_73 (by decide) ?_
                                                          refine lv_goto (tgt := 90) hx hb d_Model_becomes_75 (by decide) ?_
                                                          refine g_ist (D := (dC, dI)) hx hb hK hP hD hS 1 0 rfl rfl (i := 5) (by decide) (by decide) d_Model_becomes_90 (fun H locs hP hD hS => ?_)
                                                          have hP : va_P (dC, dI) classes (wM bd cI cZ ((upd (upd j 1 m0) 5 (((j 5) + 1)))) ((upd (upd (upd (upd (upd (upd ac 0 0) 1 0) 2 0) 3 0) 4 50) 5 50)) tx ev on mn pm) H := hP
                                                          have hD : va_D A (wM bd cI cZ ((upd (upd j 1 m0) 5 (((j 5) + 1)))) ((upd (upd (upd (upd (upd (upd ac 0 0) 1 0) 2 0) 3 0) 4 50) 5 50)) tx ev on mn pm) := hD
                                                          refine lv_iinc (v := 6) (lv' := [(3, .int 6), (2, .int 1), (0, .ref (bd 0)), (1, .int m0)]) hx hb d_Model_becomes_91 hl (k := 0) rfl (by decide) (by decide) rfl (fun ls hl => ?_)
                                                          refine lv_goto (tgt := 39) hx hb d_Model_becomes_94 (by decide) ?_
                                                          refine lv_iload_n hx hb d_Model_becomes_39 rfl (lv_at hl 0 rfl) ?_
                                                          refine lv_bipush (v := 8) hx hb d_Model_becomes_40 (by decide) ?_
                                                          refine lv_icmp_ge (tgt := 97) hx hb d_Model_becomes_42 (by decide) (fun c_32 => ?_) (fun c_32 => ?_)
                                                          · exact absurd c_32 (by decide)
                                                          · refine lv_iload_n hx hb d_Model_becomes_45 rfl (lv_at hl 1 rfl) ?_
                                                            refine lv_if_eq (tgt := 97) hx hb d_Model_becomes_46 (by decide) (fun c_33 => ?_) (fun c_33 => ?_)
                                                            · exact absurd c_33 (by decide)
                                                            · refine lv_iload_n hx hb d_Model_becomes_49 rfl (lv_at hl 3 rfl) ?_
                                                              refine lv_if_ne (tgt := 97) hx hb d_Model_becomes_50 (by decide) (fun c_34 => ?_) (fun c_34 => ?_)
                                                              · exact absurd c_8 c_34
                                                              · refine lv_aload_n hx hb d_Model_becomes_53 rfl (lv_at hl 2 rfl) ?_
                                                                refine va_get (D := (dC, dI)) (ci := 2) (v := .ref (bd 1)) (C := R_Model) (T := F_Model) (N := 12) hx hb hq iw_M hown hK hP 0 rfl rfl 2 (by decide) (hq _ qm_3) (fun _ h9 => h9) rfl d_Model_becomes_54 ?_
                                                                refine lv_iload_n hx hb d_Model_becomes_57 rfl (lv_at hl 0 rfl) ?_
                                                                refine lv_iload_n hx hb d_Model_becomes_58 rfl (lv_at hl 0 rfl) ?_
                                                                refine lv_iconst (v := 4) hx hb d_Model_becomes_59 (by decide) ?_
                                                                refine lv_icmp_ge (tgt := 67) hx hb d_Model_becomes_60 (by decide) (fun c_35 => ?_) (fun c_35 => ?_)
                                                                · refine lv_iload_n hx hb d_Model_becomes_67 rfl (lv_at hl 0 rfl) ?_
                                                                  refine lv_bipush (v := 6) hx hb d_Model_becomes_68 (by decide) ?_
                                                                  refine lv_icmp_ge (tgt := 78) hx hb d_Model_becomes_70 (by decide) (fun c_36 => ?_) (fun c_36 => ?_)
                                                                  · refine lv_iload_n hx hb d_Model_becomes_78 rfl (lv_at hl 0 rfl) ?_
                                                                    refine lv_bipush (v := 6) hx hb d_Model_becomes_79 (by decide) ?_
                                                                    refine lv_icmp_ne (tgt := 89) hx hb d_Model_becomes_81 (by decide) (fun c_37 => ?_) (fun c_37 => ?_)
                                                                    · exact absurd (by decide) c_37
                                                                    · refine lv_bipush (v := 100) hx hb d_Model_becomes_84 (by decide) ?_
                                                                      refine lv_goto (tgt := 90) hx hb d_Model_becomes_86 (by decide) ?_
                                                                      refine g_ist (D := (dC, dI)) hx hb hK hP hD hS 1 0 rfl rfl (i := 6) (by decide) (by decide) d_Model_becomes_90 (fun H locs hP hD hS => ?_)
                                                                      have hP : va_P (dC, dI) classes (wM bd cI cZ ((upd (upd j 1 m0) 5 (((j 5) + 1)))) ((upd (upd (upd (upd (upd (upd (upd ac 0 0) 1 0) 2 0) 3 0) 4 50) 5 50) 6 100)) tx ev on mn pm) H := hP
                                                                      have hD : va_D A (wM bd cI cZ ((upd (upd j 1 m0) 5 (((j 5) + 1)))) ((upd (upd (upd (upd (upd (upd (upd ac 0 0) 1 0) 2 0) 3 0) 4 50) 5 50) 6 100)) tx ev on mn pm) := hD
                                                                      refine lv_iinc (v := 7) (lv' := [(3, .int 7), (2, .int 1), (0, .ref (bd 0)), (1, .int m0)]) hx hb d_Model_becomes_91 hl (k := 0) rfl (by decide) (by decide) rfl (fun ls hl => ?_)
                                                                      refine lv_goto (tgt := 39) hx hb d_Model_becomes_94 (by decide) ?_
                                                                      refine lv_iload_n hx hb d_Model_becomes_39 rfl (lv_at hl 0 rfl) ?_
                                                                      refine lv_bipush (v := 8) hx hb d_Model_becomes_40 (by decide) ?_
                                                                      refine lv_icmp_ge (tgt := 97) hx hb d_Model_becomes_42 (by decide) (fun c_38 => ?_) (fun c_38 => ?_)
                                                                      · exact absurd c_38 (by decide)
                                                                      · refine lv_iload_n hx hb d_Model_becomes_45 rfl (lv_at hl 1 rfl) ?_
                                                                        refine lv_if_eq (tgt := 97) hx hb d_Model_becomes_46 (by decide) (fun c_39 => ?_) (fun c_39 => ?_)
                                                                        · exact absurd c_39 (by decide)
                                                                        · refine lv_iload_n hx hb d_Model_becomes_49 rfl (lv_at hl 3 rfl) ?_
                                                                          refine lv_if_ne (tgt := 97) hx hb d_Model_becomes_50 (by decide) (fun c_40 => ?_) (fun c_40 => ?_)
                                                                          · exact absurd c_8 c_40
                                                                          · refine lv_aload_n hx hb d_Model_becomes_53 rfl (lv_at hl 2 rfl) ?_
                                                                            refine va_get (D := (dC, dI)) (ci := 2) (v := .ref (bd 1)) (C := R_Model) (T := F_Model) (N := 12) hx hb hq iw_M hown hK hP 0 rfl rfl 2 (by decide) (hq _ qm_3) (fun _ h9 => h9) rfl d_Model_becomes_54 ?_
                                                                            refine lv_iload_n hx hb d_Model_becomes_57 rfl (lv_at hl 0 rfl) ?_
                                                                            refine lv_iload_n hx hb d_Model_becomes_58 rfl (lv_at hl 0 rfl) ?_
                                                                            refine lv_iconst (v := 4) hx hb d_Model_becomes_59 (by decide) ?_
                                                                            refine lv_icmp_ge (tgt := 67) hx hb d_Model_becomes_60 (by decide) (fun c_41 => ?_) (fun c_41 => ?_)
                                                                            · refine lv_iload_n hx hb d_Model_becomes_67 rfl (lv_at hl 0 rfl) ?_
                                                                              refine lv_bipush (v := 6) hx hb d_Model_becomes_68 (by decide) ?_
                                                                              refine lv_icmp_ge (tgt := 78) hx hb d_Model_becomes_70 (by decide) (fun c_42 => ?_) (fun c_42 => ?_)
                                                                              · refine lv_iload_n hx hb d_Model_becomes_78 rfl (lv_at hl 0 rfl) ?_
                                                                                refine lv_bipush (v := 6) hx hb d_Model_becomes_79 (by decide) ?_
                                                                                refine lv_icmp_ne (tgt := 89) hx hb d_Model_becomes_81 (by decide) (fun c_43 => ?_) (fun c_43 => ?_)
                                                                                · refine lv_iconst (v := 1) hx hb d_Model_becomes_89 (by decide) ?_
                                                                                  refine g_ist (D := (dC, dI)) hx hb hK hP hD hS 1 0 rfl rfl (i := 7) (by decide) (by decide) d_Model_becomes_90 (fun H locs hP hD hS => ?_)
                                                                                  have hP : va_P (dC, dI) classes (wM bd cI cZ ((upd (upd j 1 m0) 5 (((j 5) + 1)))) ((upd (upd (upd (upd (upd (upd (upd (upd ac 0 0) 1 0) 2 0) 3 0) 4 50) 5 50) 6 100) 7 1)) tx ev on mn pm) H := hP
                                                                                  have hD : va_D A (wM bd cI cZ ((upd (upd j 1 m0) 5 (((j 5) + 1)))) ((upd (upd (upd (upd (upd (upd (upd (upd ac 0 0) 1 0) 2 0) 3 0) 4 50) 5 50) 6 100) 7 1)) tx ev on mn pm) := hD
                                                                                  refine lv_iinc (v := 8) (lv' := [(3, .int 8), (2, .int 1), (0, .ref (bd 0)), (1, .int m0)]) hx hb d_Model_becomes_91 hl (k := 0) rfl (by decide) (by decide) rfl (fun ls hl => ?_)
                                                                                  refine lv_goto (tgt := 39) hx hb d_Model_becomes_94 (by decide) ?_
                                                                                  refine lv_iload_n hx hb d_Model_becomes_39 rfl (lv_at hl 0 rfl) ?_
                                                                                  refine lv_bipush (v := 8) hx hb d_Model_becomes_40 (by decide) ?_
                                                                                  refine lv_icmp_ge (tgt := 97) hx hb d_Model_becomes_42 (by decide) (fun c_44 => ?_) (fun c_44 => ?_)
                                                                                  · refine lv_iload_n hx hb d_Model_becomes_97 rfl (lv_at hl 1 rfl) ?_
                                                                                    have e_j : (mBeJ j m0) = (upd (upd j 1 m0) 5 (((j 5) + 1))) := (by simp only [mBeR, mBeJ, mBeA, if_neg c_1, if_neg c_5, if_neg c_6, if_neg c_7, if_pos c_8, if_neg c_9, if_neg c_10, if_neg c_11, if_pos c_12, if_neg c_13, if_neg c_14, if_neg c_15, if_pos c_16, if_neg c_17, if_neg c_18, if_neg c_19, if_pos c_20, if_neg c_21, if_neg c_22, if_neg c_23, if_pos c_24, if_pos c_25, if_neg c_26, if_neg c_27, if_neg c_28, if_pos c_29, if_pos c_30, if_neg c_31, if_neg c_32, if_neg c_33, if_pos c_34, if_pos c_35, if_pos c_36, if_pos c_37, if_neg c_38, if_neg c_39, if_pos c_40, if_pos c_41, if_pos c_42, if_neg c_43, if_pos c_44] <;> rfl)
                                                                                    have e_ac : (mBeA j ac m0) = (upd (upd (upd (upd (upd (upd (upd (upd ac 0 0) 1 0) 2 0) 3 0) 4 50) 5 50) 6 100) 7 1) := (by simp only [mBeR, mBeJ, mBeA, if_neg c_1, if_neg c_5, if_neg c_6, if_neg c_7, if_pos c_8, if_neg c_9, if_neg c_10, if_neg c_11, if_pos c_12, if_neg c_13, if_neg c_14, if_neg c_15, if_pos c_16, if_neg c_17, if_neg c_18, if_neg c_19, if_pos c_20, if_neg c_21, if_neg c_22, if_neg c_23, if_pos c_24, if_pos c_25, if_neg c_26, if_neg c_27, if_neg c_28, if_pos c_29, if_pos c_30, if_neg c_31, if_neg c_32, if_neg c_33, if_pos c_34, if_pos c_35, if_pos c_36, if_pos c_37, if_neg c_38, if_neg c_39, if_pos c_40, if_pos c_41, if_pos c_42, if_neg c_43, if_pos c_44] <;> rfl)
                                                                                    have hP9 : va_P (dC, dI) classes (wM bd cI cZ ((mBeJ j m0)) ((mBeA j ac m0)) tx ev on mn pm) H := by rw [e_j, e_ac]; exact hP
                                                                                    have hD9 : va_D A (wM bd cI cZ ((mBeJ j m0)) ((mBeA j ac m0)) tx ev on mn pm) := by rw [e_j, e_ac]; exact hD
                                                                                    exact W.zret (v := 1) hx hb hrt rfl (fun t ht hW => ⟨⟨1, (), rfl, (by simp only [mBeR, mBeJ, mBeA, if_neg c_1, if_neg c_5, if_neg c_6, if_neg c_7, if_pos c_8, if_neg c_9, if_neg c_10, if_neg c_11, if_pos c_12, if_neg c_13, if_neg c_14, if_neg c_15, if_pos c_16, if_neg c_17, if_neg c_18, if_neg c_19, if_pos c_20, if_neg c_21, if_neg c_22, if_neg c_23, if_pos c_24, if_pos c_25, if_neg c_26, if_neg c_27, if_neg c_28, if_pos c_29, if_pos c_30, if_neg c_31, if_neg c_32, if_neg c_33, if_pos c_34, if_pos c_35, if_pos c_36, if_pos c_37, if_neg c_38, if_neg c_39, if_pos c_40, if_pos c_41, if_pos c_42, if_neg c_43, if_pos c_44] <;> rfl), by rw [ht]; exact hP9, hD9⟩, hS.F ht⟩) hS.2.2 d_Model_becomes_98
                                                                                  · exact absurd (by decide) c_44
                                                                                · exact absurd c_43 (by decide)
                                                                              · exact absurd (by decide) c_42
                                                                            · exact absurd (by decide) c_41
                                                                  · exact absurd (by decide) c_36
                                                                · exact absurd (by decide) c_35
                                                      · exact absurd (by decide) c_30
                                            · exact absurd (by decide) c_25
end
section
set_option maxHeartbeats 4000000 in
set_option maxRecDepth 100000 in
theorem c_Model_move (l : Launch) (dC : Nat → ClassId) (dI : Nat → Nat → Nat) (bd : Nat → Nat) (sz : Nat) (cI cZ : ClassId) (j ac tx ev on mn pm : Nat → Int32) (a v : Int32) : Met l y_Model_move w_Model_move ({ frames := 0, cells := 0, slots := 0, locals := 0 }) (va_Pc [.ref (bd 0), .int a, .int v] (gP (dC, dI) classes (tyM cI cZ) (wM bd cI cZ j ac tx ev on mn pm) sz)) (va_Qi (fun r (_ : Unit) => r = (mMvR j a)) (fun _ t => gB (dC, dI) classes (va_A (wM bd cI cZ j ac tx ev on mn pm) sz) (wM bd cI cZ ((upd j 0 0)) ((mMvA j ac a v)) tx ev on mn pm) t) (va_A (wM bd cI cZ j ac tx ev on mn pm) sz)) 0 0 (va_A (wM bd cI cZ j ac tx ev on mn pm) sz) := by
  refine Met.ofW (cc := b_Model_move) (maxL := 3) (ret := (some .int)) (by decide) rfl ?_
  intro p e s m args below meth c s₁ B hml hv
  obtain ⟨rfl, hsz, hP, hK, hD0, hN⟩ := hv
  have hx := B.exec
  have hb := B.bytes
  have hrt := B.returns
  have hq : ∀ w ∈ wAll, w.before ([.ref (bd 0), .int a, .int v] : List Value).toArray s = true := fun w h => atoms_spec (ws := w_Model_move) B.pre w (List.mem_cons_of_mem _ h)
  have hown : s.vm.findClass R_Model = some m.cls := findClass_of_methodNamed B.named
  have hlocks := B.notSynchronized
  subst hsz
  have hD := hD0.self (sz := s.heap.size)
  generalize hAe : va_A (wM bd cI cZ j ac tx ev on mn pm) s.heap.size = A at hD ⊢
  have hA : ∀ q : Nat, s.heap.size ≤ q → A q := fun q h => by rw [← hAe]; exact Or.inr h
  have hS : va_S A s.heap s.heap [] := va_S.rf
  have hl := lv_entry ([.ref (bd 0), .int a, .int v]) (n := 3) (Nat.le_of_ble_eq_true rfl)
  rw [lg_entry_eq]
  generalize (lg_sl ([.ref (bd 0), .int a, .int v]) ++ List.replicate (3 - (lg_sl ([.ref (bd 0), .int a, .int v])).length) Slot.unset).toArray = ls at hl ⊢
  have hl : lv_has ls 3 [(0, .ref (bd 0)), (1, .int a), (2, .int v)] := hl
  refine lv_aload_n hx hb d_Model_move_0 rfl (lv_at hl 0 rfl) ?_
  refine lv_iconst (v := 0) hx hb d_Model_move_1 (by decide) ?_
  refine va_put (D := (dC, dI)) (ci := 2) (v := .int 0) (ty := .int) (C := R_Model) (T := F_Model) (N := 12) hx hb hq iw_M t_Model t_Model_ok n_Model hown hK hP hD hS 0 rfl rfl 0 (by decide) (hq _ qm_4) (fun _ h9 => h9) rfl (by decide +kernel) rfl rfl (Nat.le_of_ble_eq_true rfl) d_Model_move_2 (fun H locs hP hD hS => ?_)
  have hP : va_P (dC, dI) classes (wM bd cI cZ ((upd j 0 0)) ac tx ev on mn pm) H := hP
  have hD : va_D A (wM bd cI cZ ((upd j 0 0)) ac tx ev on mn pm) := hD
  refine lv_iload_n hx hb d_Model_move_5 rfl (lv_at hl 1 rfl) ?_
  refine lv_if_lt (tgt := 15) hx hb d_Model_move_6 (by decide) (fun c_1 => ?_) (fun c_1 => ?_)
  · refine lv_bipush (v := 18) hx hb d_Model_move_15 (by decide) ?_
    have e_ac : (mMvA j ac a v) = ac := (by simp only [mMvR, mMvA, if_pos c_1] <;> rfl)
    have hP9 : va_P (dC, dI) classes (wM bd cI cZ ((upd j 0 0)) ((mMvA j ac a v)) tx ev on mn pm) H := by rw [e_ac]; exact hP
    have hD9 : va_D A (wM bd cI cZ ((upd j 0 0)) ((mMvA j ac a v)) tx ev on mn pm) := by rw [e_ac]; exact hD
    exact W.iret (v := 18) hx hb hrt (fun t ht hW => ⟨⟨18, (), rfl, (by simp only [mMvR, mMvA, if_pos c_1] <;> rfl), by rw [ht]; exact hP9, hD9⟩, hS.F ht⟩) hS.2.2 d_Model_move_17
  · refine lv_iload_n hx hb d_Model_move_9 rfl (lv_at hl 1 rfl) ?_
    refine lv_bipush (v := 7) hx hb d_Model_move_10 (by decide) ?_
    refine lv_icmp_le (tgt := 18) hx hb d_Model_move_12 (by decide) (fun c_2 => ?_) (fun c_2 => ?_)
    · refine lv_aload_n hx hb d_Model_move_18 rfl (lv_at hl 0 rfl) ?_
      refine va_get (D := (dC, dI)) (ci := 2) (v := .int (j 1)) (C := R_Model) (T := F_Model) (N := 12) hx hb hq iw_M hown hK hP 0 rfl rfl 1 (by decide) (hq _ qm_1) (fun _ h9 => h9) rfl d_Model_move_19 ?_
      refine lv_if_ne (tgt := 28) hx hb d_Model_move_22 (by decide) (fun c_3 => ?_) (fun c_3 => ?_)
      · refine lv_aload_n hx hb d_Model_move_28 rfl (lv_at hl 0 rfl) ?_
        refine va_get (D := (dC, dI)) (ci := 2) (v := .ref (bd 1)) (C := R_Model) (T := F_Model) (N := 12) hx hb hq iw_M hown hK hP 0 rfl rfl 2 (by decide) (hq _ qm_3) (fun _ h9 => h9) rfl d_Model_move_29 ?_
        refine lv_iload_n hx hb d_Model_move_32 rfl (lv_at hl 1 rfl) ?_
        refine lv_iload_n hx hb d_Model_move_33 rfl (lv_at hl 2 rfl) ?_
        refine va_iast (D := (dC, dI)) hx hb hK hP hD hS 1 0 rfl rfl (m_in2 (N := 7) (by decide) c_1 c_2) d_Model_move_34 (fun H locs hP hD hS => ?_)
        have hP : va_P (dC, dI) classes (wM bd cI cZ ((upd j 0 0)) ((upd ac a.toNatClampNeg v)) tx ev on mn pm) H := hP
        have hD : va_D A (wM bd cI cZ ((upd j 0 0)) ((upd ac a.toNatClampNeg v)) tx ev on mn pm) := hD
        refine lv_iconst (v := 0) hx hb d_Model_move_35 (by decide) ?_
        have e_ac : (mMvA j ac a v) = (upd ac a.toNatClampNeg v) := (by simp only [mMvR, mMvA, if_neg c_1, if_pos c_2, if_neg c_3] <;> rfl)
        have hP9 : va_P (dC, dI) classes (wM bd cI cZ ((upd j 0 0)) ((mMvA j ac a v)) tx ev on mn pm) H := by rw [e_ac]; exact hP
        have hD9 : va_D A (wM bd cI cZ ((upd j 0 0)) ((mMvA j ac a v)) tx ev on mn pm) := by rw [e_ac]; exact hD
        exact W.iret (v := 0) hx hb hrt (fun t ht hW => ⟨⟨0, (), rfl, (by simp only [mMvR, mMvA, if_neg c_1, if_pos c_2, if_neg c_3] <;> rfl), by rw [ht]; exact hP9, hD9⟩, hS.F ht⟩) hS.2.2 d_Model_move_36
      · refine lv_bipush (v := 19) hx hb d_Model_move_25 (by decide) ?_
        have e_ac : (mMvA j ac a v) = ac := (by simp only [mMvR, mMvA, if_neg c_1, if_pos c_2, if_pos c_3] <;> rfl)
        have hP9 : va_P (dC, dI) classes (wM bd cI cZ ((upd j 0 0)) ((mMvA j ac a v)) tx ev on mn pm) H := by rw [e_ac]; exact hP
        have hD9 : va_D A (wM bd cI cZ ((upd j 0 0)) ((mMvA j ac a v)) tx ev on mn pm) := by rw [e_ac]; exact hD
        exact W.iret (v := 19) hx hb hrt (fun t ht hW => ⟨⟨19, (), rfl, (by simp only [mMvR, mMvA, if_neg c_1, if_pos c_2, if_pos c_3] <;> rfl), by rw [ht]; exact hP9, hD9⟩, hS.F ht⟩) hS.2.2 d_Model_move_27
    · refine lv_bipush (v := 18) hx hb d_Model_move_15 (by decide) ?_
      have e_ac : (mMvA j ac a v) = ac := (by simp only [mMvR, mMvA, if_neg c_1, if_neg c_2] <;> rfl)
      have hP9 : va_P (dC, dI) classes (wM bd cI cZ ((upd j 0 0)) ((mMvA j ac a v)) tx ev on mn pm) H := by rw [e_ac]; exact hP
      have hD9 : va_D A (wM bd cI cZ ((upd j 0 0)) ((mMvA j ac a v)) tx ev on mn pm) := by rw [e_ac]; exact hD
      exact W.iret (v := 18) hx hb hrt (fun t ht hW => ⟨⟨18, (), rfl, (by simp only [mMvR, mMvA, if_neg c_1, if_neg c_2] <;> rfl), by rw [ht]; exact hP9, hD9⟩, hS.F ht⟩) hS.2.2 d_Model_move_17
set_option maxHeartbeats 4000000 in
set_option maxRecDepth 100000 in
theorem c_Model_enter (l : Launch) (dC : Nat → ClassId) (dI : Nat → Nat → Nat) (bd : Nat → Nat) (sz : Nat) (cI cZ : ClassId) (j ac tx ev on mn pm : Nat → Int32) (m0 : Int32) : Met l y_Model_enter w_Model_enter ({ frames := 1, cells := 0, slots := 0, locals := 23 }) (va_Pc [.ref (bd 0), .int m0] (gP (dC, dI) classes (tyM cI cZ) (wM bd cI cZ j ac tx ev on mn pm) sz)) (va_Qi (fun r (_ : Unit) => r = (mEnR j m0)) (fun _ t => gB (dC, dI) classes (va_A (wM bd cI cZ j ac tx ev on mn pm) sz) (wM bd cI cZ ((mEnJ j m0)) ((mEnA j ac m0)) tx ev on mn pm) t) (va_A (wM bd cI cZ j ac tx ev on mn pm) sz)) 0 0 (va_A (wM bd cI cZ j ac tx ev on mn pm) sz) := by
  refine Met.ofW (cc := b_Model_enter) (maxL := 3) (ret := (some .int)) (by decide) rfl ?_
  intro p e s m args below meth c s₁ B hml hv
  obtain ⟨rfl, hsz, hP, hK, hD0, hN⟩ := hv
  have hx := B.exec
  have hb := B.bytes
  have hrt := B.returns
  have hq : ∀ w ∈ wAll, w.before ([.ref (bd 0), .int m0] : List Value).toArray s = true := fun w h => atoms_spec (ws := w_Model_enter) B.pre w (List.mem_cons_of_mem _ h)
  have hown : s.vm.findClass R_Model = some m.cls := findClass_of_methodNamed B.named
  have hlocks := B.notSynchronized
  subst hsz
  have hD := hD0.self (sz := s.heap.size)
  generalize hAe : va_A (wM bd cI cZ j ac tx ev on mn pm) s.heap.size = A at hD ⊢
  have hA : ∀ q : Nat, s.heap.size ≤ q → A q := fun q h => by rw [← hAe]; exact Or.inr h
  have hS : va_S A s.heap s.heap [] := va_S.rf
  have hl := lv_entry ([.ref (bd 0), .int m0]) (n := 3) (Nat.le_of_ble_eq_true rfl)
  rw [lg_entry_eq]
  generalize (lg_sl ([.ref (bd 0), .int m0]) ++ List.replicate (3 - (lg_sl ([.ref (bd 0), .int m0])).length) Slot.unset).toArray = ls at hl ⊢
  have hl : lv_has ls 3 [(0, .ref (bd 0)), (1, .int m0)] := hl
  refine lv_aload_n hx hb d_Model_enter_0 rfl (lv_at hl 0 rfl) ?_
  refine lv_iconst (v := 0) hx hb d_Model_enter_1 (by decide) ?_
  refine va_put (D := (dC, dI)) (ci := 2) (v := .int 0) (ty := .int) (C := R_Model) (T := F_Model) (N := 12) hx hb hq iw_M t_Model t_Model_ok n_Model hown hK hP hD hS 0 rfl rfl 0 (by decide) (hq _ qm_4) (fun _ h9 => h9) rfl (by decide +kernel) rfl rfl (Nat.le_of_ble_eq_true rfl) d_Model_enter_2 (fun H locs hP hD hS => ?_)
  have hP : va_P (dC, dI) classes (wM bd cI cZ ((upd j 0 0)) ac tx ev on mn pm) H := hP
  have hD : va_D A (wM bd cI cZ ((upd j 0 0)) ac tx ev on mn pm) := hD
  refine lv_iload_n hx hb d_Model_enter_5 rfl (lv_at hl 1 rfl) ?_
  refine lv_if_lt (tgt := 14) hx hb d_Model_enter_6 (by decide) (fun c_1 => ?_) (fun c_1 => ?_)
  · refine lv_bipush (v := 18) hx hb d_Model_enter_14 (by decide) ?_
    have e_j : (mEnJ j m0) = (upd j 0 0) := (by simp only [mEnR, mEnJ, mEnA, if_pos c_1] <;> rfl)
    have e_ac : (mEnA j ac m0) = ac := (by simp only [mEnR, mEnJ, mEnA, if_pos c_1] <;> rfl)
    have hP9 : va_P (dC, dI) classes (wM bd cI cZ ((mEnJ j m0)) ((mEnA j ac m0)) tx ev on mn pm) H := by rw [e_j, e_ac]; exact hP
    have hD9 : va_D A (wM bd cI cZ ((mEnJ j m0)) ((mEnA j ac m0)) tx ev on mn pm) := by rw [e_j, e_ac]; exact hD
    exact W.iret (v := 18) hx hb hrt (fun t ht hW => ⟨⟨18, (), rfl, (by simp only [mEnR, mEnJ, mEnA, if_pos c_1] <;> rfl), by rw [ht]; exact hP9, hD9⟩, hS.F ht⟩) hS.2.2 d_Model_enter_16
  · refine lv_iload_n hx hb d_Model_enter_9 rfl (lv_at hl 1 rfl) ?_
    refine lv_iconst (v := 2) hx hb d_Model_enter_10 (by decide) ?_
    refine lv_icmp_le (tgt := 17) hx hb d_Model_enter_11 (by decide) (fun c_2 => ?_) (fun c_2 => ?_)
    · refine lv_aload_n hx hb d_Model_enter_17 rfl (lv_at hl 0 rfl) ?_
      refine va_get (D := (dC, dI)) (ci := 2) (v := .int (j 1)) (C := R_Model) (T := F_Model) (N := 12) hx hb hq iw_M hown hK hP 0 rfl rfl 1 (by decide) (hq _ qm_1) (fun _ h9 => h9) rfl d_Model_enter_18 ?_
      refine lv_if_ne (tgt := 32) hx hb d_Model_enter_21 (by decide) (fun c_3 => ?_) (fun c_3 => ?_)
      · refine lv_aload_n hx hb d_Model_enter_32 rfl (lv_at hl 0 rfl) ?_
        refine lv_iload_n hx hb d_Model_enter_33 rfl (lv_at hl 1 rfl) ?_
        refine g_calli (va_runV (As := [.int m0]) (rest := []) ⟨hx, hb, hml, hown, hq⟩ (c_Model_becomes l dC dI bd H.size cI cZ ((upd j 0 0)) ac tx ev on mn pm m0) ⟨callB_of 1 hq (gd m_Model_becomes) rfl rfl rfl (hq _ qm_5) (hq _ qm_6) (by decide +kernel) ⟨Nat.le_of_ble_eq_true rfl, Nat.le_of_ble_eq_true rfl⟩, (hq _ qm_7), (hq _ qm_8)⟩ ⟨g_blind, va_recv hK hP (ci := 2) (q0 := 0) rfl rfl, g_pre hP hK hD hN⟩ rfl rfl hl.1 rfl (lv_room (Nat.le_of_ble_eq_true rfl)) d_Model_enter_34 ⟨Nat.zero_le _, Nat.zero_le _⟩) hD hS hA (fun r H locs hr hP hD hS => ?_)
        subst hr
        refine lv_istore_n (lv' := [(2, .int (mBeR ((upd j 0 0)) m0)), (0, .ref (bd 0)), (1, .int m0)]) hx hb d_Model_enter_37 rfl hl (by decide) rfl (fun ls hl => ?_)
        refine lv_iconst (v := 0) hx hb d_Model_enter_38 (by decide) ?_
        have e_j : (mEnJ j m0) = (mBeJ ((upd j 0 0)) m0) := (by simp only [mEnR, mEnJ, mEnA, if_neg c_1, if_pos c_2, if_neg c_3] <;> rfl)
        have e_ac : (mEnA j ac m0) = (mBeA ((upd j 0 0)) ac m0) := (by simp only [mEnR, mEnJ, mEnA, if_neg c_1, if_pos c_2, if_neg c_3] <;> rfl)
        have hP9 : va_P (dC, dI) classes (wM bd cI cZ ((mEnJ j m0)) ((mEnA j ac m0)) tx ev on mn pm) H := by rw [e_j, e_ac]; exact hP
        have hD9 : va_D A (wM bd cI cZ ((mEnJ j m0)) ((mEnA j ac m0)) tx ev on mn pm) := by rw [e_j, e_ac]; exact hD
        exact W.iret (v := 0) hx hb hrt (fun t ht hW => ⟨⟨0, (), rfl, (by simp only [mEnR, mEnJ, mEnA, if_neg c_1, if_pos c_2, if_neg c_3] <;> rfl), by rw [ht]; exact hP9, hD9⟩, hS.F ht⟩) hS.2.2 d_Model_enter_39
      · refine lv_iload_n hx hb d_Model_enter_24 rfl (lv_at hl 1 rfl) ?_
        refine lv_iconst (v := 2) hx hb d_Model_enter_25 (by decide) ?_
        refine lv_icmp_ne (tgt := 32) hx hb d_Model_enter_26 (by decide) (fun c_4 => ?_) (fun c_4 => ?_)
        · refine lv_aload_n hx hb d_Model_enter_32 rfl (lv_at hl 0 rfl) ?_
          refine lv_iload_n hx hb d_Model_enter_33 rfl (lv_at hl 1 rfl) ?_
          refine g_calli (va_runV (As := [.int m0]) (rest := []) ⟨hx, hb, hml, hown, hq⟩ (c_Model_becomes l dC dI bd H.size cI cZ ((upd j 0 0)) ac tx ev on mn pm m0) ⟨callB_of 1 hq (gd m_Model_becomes) rfl rfl rfl (hq _ qm_5) (hq _ qm_6) (by decide +kernel) ⟨Nat.le_of_ble_eq_true rfl, Nat.le_of_ble_eq_true rfl⟩, (hq _ qm_7), (hq _ qm_8)⟩ ⟨g_blind, va_recv hK hP (ci := 2) (q0 := 0) rfl rfl, g_pre hP hK hD hN⟩ rfl rfl hl.1 rfl (lv_room (Nat.le_of_ble_eq_true rfl)) d_Model_enter_34 ⟨Nat.zero_le _, Nat.zero_le _⟩) hD hS hA (fun r H locs hr hP hD hS => ?_)
          subst hr
          refine lv_istore_n (lv' := [(2, .int (mBeR ((upd j 0 0)) m0)), (0, .ref (bd 0)), (1, .int m0)]) hx hb d_Model_enter_37 rfl hl (by decide) rfl (fun ls hl => ?_)
          refine lv_iconst (v := 0) hx hb d_Model_enter_38 (by decide) ?_
          have e_j : (mEnJ j m0) = (mBeJ ((upd j 0 0)) m0) := (by simp only [mEnR, mEnJ, mEnA, if_neg c_1, if_pos c_2, if_pos c_3, if_neg c_4] <;> rfl)
          have e_ac : (mEnA j ac m0) = (mBeA ((upd j 0 0)) ac m0) := (by simp only [mEnR, mEnJ, mEnA, if_neg c_1, if_pos c_2, if_pos c_3, if_neg c_4] <;> rfl)
          have hP9 : va_P (dC, dI) classes (wM bd cI cZ ((mEnJ j m0)) ((mEnA j ac m0)) tx ev on mn pm) H := by rw [e_j, e_ac]; exact hP
          have hD9 : va_D A (wM bd cI cZ ((mEnJ j m0)) ((mEnA j ac m0)) tx ev on mn pm) := by rw [e_j, e_ac]; exact hD
          exact W.iret (v := 0) hx hb hrt (fun t ht hW => ⟨⟨0, (), rfl, (by simp only [mEnR, mEnJ, mEnA, if_neg c_1, if_pos c_2, if_pos c_3, if_neg c_4] <;> rfl), by rw [ht]; exact hP9, hD9⟩, hS.F ht⟩) hS.2.2 d_Model_enter_39
        · refine lv_bipush (v := 19) hx hb d_Model_enter_29 (by decide) ?_
          have e_j : (mEnJ j m0) = (upd j 0 0) := (by simp only [mEnR, mEnJ, mEnA, if_neg c_1, if_pos c_2, if_pos c_3, if_pos c_4] <;> rfl)
          have e_ac : (mEnA j ac m0) = ac := (by simp only [mEnR, mEnJ, mEnA, if_neg c_1, if_pos c_2, if_pos c_3, if_pos c_4] <;> rfl)
          have hP9 : va_P (dC, dI) classes (wM bd cI cZ ((mEnJ j m0)) ((mEnA j ac m0)) tx ev on mn pm) H := by rw [e_j, e_ac]; exact hP
          have hD9 : va_D A (wM bd cI cZ ((mEnJ j m0)) ((mEnA j ac m0)) tx ev on mn pm) := by rw [e_j, e_ac]; exact hD
          exact W.iret (v := 19) hx hb hrt (fun t ht hW => ⟨⟨19, (), rfl, (by simp only [mEnR, mEnJ, mEnA, if_neg c_1, if_pos c_2, if_pos c_3, if_pos c_4] <;> rfl), by rw [ht]; exact hP9, hD9⟩, hS.F ht⟩) hS.2.2 d_Model_enter_31
    · refine lv_bipush (v := 18) hx hb d_Model_enter_14 (by decide) ?_
      have e_j : (mEnJ j m0) = (upd j 0 0) := (by simp only [mEnR, mEnJ, mEnA, if_neg c_1, if_neg c_2] <;> rfl)
      have e_ac : (mEnA j ac m0) = ac := (by simp only [mEnR, mEnJ, mEnA, if_neg c_1, if_neg c_2] <;> rfl)
      have hP9 : va_P (dC, dI) classes (wM bd cI cZ ((mEnJ j m0)) ((mEnA j ac m0)) tx ev on mn pm) H := by rw [e_j, e_ac]; exact hP
      have hD9 : va_D A (wM bd cI cZ ((mEnJ j m0)) ((mEnA j ac m0)) tx ev on mn pm) := by rw [e_j, e_ac]; exact hD
      exact W.iret (v := 18) hx hb hrt (fun t ht hW => ⟨⟨18, (), rfl, (by simp only [mEnR, mEnJ, mEnA, if_neg c_1, if_neg c_2] <;> rfl), by rw [ht]; exact hP9, hD9⟩, hS.F ht⟩) hS.2.2 d_Model_enter_16
set_option maxHeartbeats 4000000 in
set_option maxRecDepth 100000 in
theorem c_Model_alarm (l : Launch) (dC : Nat → ClassId) (dI : Nat → Nat → Nat) (bd : Nat → Nat) (sz : Nat) (cI cZ : ClassId) (j ac tx ev on mn pm : Nat → Int32) (t0 : Int32) : Met l y_Model_alarm w_Model_alarm ({ frames := 0, cells := 0, slots := 0, locals := 0 }) (va_Pc [.ref (bd 0), .int t0] (gP (dC, dI) classes (tyM cI cZ) (wM bd cI cZ j ac tx ev on mn pm) sz)) (va_Qi (fun r (_ : Unit) => r = (mAlR j)) (fun _ t => gB (dC, dI) classes (va_A (wM bd cI cZ j ac tx ev on mn pm) sz) (wM bd cI cZ ((mAlJ j t0)) ac tx ev on mn pm) t) (va_A (wM bd cI cZ j ac tx ev on mn pm) sz)) 0 0 (va_A (wM bd cI cZ j ac tx ev on mn pm) sz) := by
  refine Met.ofW (cc := b_Model_alarm) (maxL := 2) (ret := (some .boolean)) (by decide) rfl ?_
  intro p e s m args below meth c s₁ B hml hv
  obtain ⟨rfl, hsz, hP, hK, hD0, hN⟩ := hv
  have hx := B.exec
  have hb := B.bytes
  have hrt := B.returns
  have hq : ∀ w ∈ wAll, w.before ([.ref (bd 0), .int t0] : List Value).toArray s = true := fun w h => atoms_spec (ws := w_Model_alarm) B.pre w (List.mem_cons_of_mem _ h)
  have hown : s.vm.findClass R_Model = some m.cls := findClass_of_methodNamed B.named
  have hlocks := B.notSynchronized
  subst hsz
  have hD := hD0.self (sz := s.heap.size)
  generalize hAe : va_A (wM bd cI cZ j ac tx ev on mn pm) s.heap.size = A at hD ⊢
  have hA : ∀ q : Nat, s.heap.size ≤ q → A q := fun q h => by rw [← hAe]; exact Or.inr h
  have hS : va_S A s.heap s.heap [] := va_S.rf
  have hl := lv_entry ([.ref (bd 0), .int t0]) (n := 2) (Nat.le_of_ble_eq_true rfl)
  rw [lg_entry_eq]
  generalize (lg_sl ([.ref (bd 0), .int t0]) ++ List.replicate (2 - (lg_sl ([.ref (bd 0), .int t0])).length) Slot.unset).toArray = ls at hl ⊢
  have hl : lv_has ls 2 [(0, .ref (bd 0)), (1, .int t0)] := hl
  refine lv_aload_n hx hb d_Model_alarm_0 rfl (lv_at hl 0 rfl) ?_
  refine lv_iconst (v := 0) hx hb d_Model_alarm_1 (by decide) ?_
  refine va_put (D := (dC, dI)) (ci := 2) (v := .int 0) (ty := .int) (C := R_Model) (T := F_Model) (N := 12) hx hb hq iw_M t_Model t_Model_ok n_Model hown hK hP hD hS 0 rfl rfl 0 (by decide) (hq _ qm_4) (fun _ h9 => h9) rfl (by decide +kernel) rfl rfl (Nat.le_of_ble_eq_true rfl) d_Model_alarm_2 (fun H locs hP hD hS => ?_)
  have hP : va_P (dC, dI) classes (wM bd cI cZ ((upd j 0 0)) ac tx ev on mn pm) H := hP
  have hD : va_D A (wM bd cI cZ ((upd j 0 0)) ac tx ev on mn pm) := hD
  refine lv_aload_n hx hb d_Model_alarm_5 rfl (lv_at hl 0 rfl) ?_
  refine va_get (D := (dC, dI)) (ci := 2) (v := .int (j 3)) (C := R_Model) (T := F_Model) (N := 12) hx hb hq iw_M hown hK hP 0 rfl rfl 3 (by decide) (hq _ qm_9) (fun _ h9 => h9) rfl d_Model_alarm_6 ?_
  refine lv_if_eq (tgt := 14) hx hb d_Model_alarm_9 (by decide) (fun c_1 => ?_) (fun c_1 => ?_)
  · refine lv_aload_n hx hb d_Model_alarm_14 rfl (lv_at hl 0 rfl) ?_
    refine lv_iconst (v := 1) hx hb d_Model_alarm_15 (by decide) ?_
    refine va_put (D := (dC, dI)) (ci := 2) (v := .int 1) (ty := .boolean) (C := R_Model) (T := F_Model) (N := 12) hx hb hq iw_M t_Model t_Model_ok n_Model hown hK hP hD hS 0 rfl rfl 3 (by decide) (hq _ qm_9) (fun _ h9 => h9) rfl (by decide +kernel) rfl rfl (Nat.le_of_ble_eq_true rfl) d_Model_alarm_16 (fun H locs hP hD hS => ?_)
    have hP : va_P (dC, dI) classes (wM bd cI cZ ((upd (upd j 0 0) 3 1)) ac tx ev on mn pm) H := hP
    have hD : va_D A (wM bd cI cZ ((upd (upd j 0 0) 3 1)) ac tx ev on mn pm) := hD
    refine lv_aload_n hx hb d_Model_alarm_19 rfl (lv_at hl 0 rfl) ?_
    refine lv_iload_n hx hb d_Model_alarm_20 rfl (lv_at hl 1 rfl) ?_
    refine va_put (D := (dC, dI)) (ci := 2) (v := .int t0) (ty := .int) (C := R_Model) (T := F_Model) (N := 12) hx hb hq iw_M t_Model t_Model_ok n_Model hown hK hP hD hS 0 rfl rfl 4 (by decide) (hq _ qm_10) (fun _ h9 => h9) rfl (by decide +kernel) rfl rfl (Nat.le_of_ble_eq_true rfl) d_Model_alarm_21 (fun H locs hP hD hS => ?_)
    have hP : va_P (dC, dI) classes (wM bd cI cZ ((upd (upd (upd j 0 0) 3 1) 4 t0)) ac tx ev on mn pm) H := hP
    have hD : va_D A (wM bd cI cZ ((upd (upd (upd j 0 0) 3 1) 4 t0)) ac tx ev on mn pm) := hD
    refine lv_iconst (v := 1) hx hb d_Model_alarm_24 (by decide) ?_
    have e_j : (mAlJ j t0) = (upd (upd (upd j 0 0) 3 1) 4 t0) := (by simp only [mAlR, mAlJ, if_pos c_1] <;> rfl)
    have hP9 : va_P (dC, dI) classes (wM bd cI cZ ((mAlJ j t0)) ac tx ev on mn pm) H := by rw [e_j]; exact hP
    have hD9 : va_D A (wM bd cI cZ ((mAlJ j t0)) ac tx ev on mn pm) := by rw [e_j]; exact hD
    exact W.zret (v := 1) hx hb hrt rfl (fun t ht hW => ⟨⟨1, (), rfl, (by simp only [mAlR, mAlJ, if_pos c_1] <;> rfl), by rw [ht]; exact hP9, hD9⟩, hS.F ht⟩) hS.2.2 d_Model_alarm_25
  · refine lv_iconst (v := 0) hx hb d_Model_alarm_12 (by decide) ?_
    have e_j : (mAlJ j t0) = (upd j 0 0) := (by simp only [mAlR, mAlJ, if_neg c_1] <;> rfl)
    have hP9 : va_P (dC, dI) classes (wM bd cI cZ ((mAlJ j t0)) ac tx ev on mn pm) H := by rw [e_j]; exact hP
    have hD9 : va_D A (wM bd cI cZ ((mAlJ j t0)) ac tx ev on mn pm) := by rw [e_j]; exact hD
    exact W.zret (v := 0) hx hb hrt rfl (fun t ht hW => ⟨⟨0, (), rfl, (by simp only [mAlR, mAlJ, if_neg c_1] <;> rfl), by rw [ht]; exact hP9, hD9⟩, hS.F ht⟩) hS.2.2 d_Model_alarm_13
set_option maxHeartbeats 4000000 in
set_option maxRecDepth 100000 in
theorem c_Model_look (l : Launch) (dC : Nat → ClassId) (dI : Nat → Nat → Nat) (bd : Nat → Nat) (sz : Nat) (cI cZ : ClassId) (j ac tx ev on mn pm : Nat → Int32) (t0 : Int32) : Met l y_Model_look w_Model_look ({ frames := 1, cells := 0, slots := 0, locals := 23 }) (va_Pc [.ref (bd 0), .int t0] (gP (dC, dI) classes (tyM cI cZ) (wM bd cI cZ j ac tx ev on mn pm) sz)) (va_Qi (fun r (_ : Unit) => r = (mLkR j t0)) (fun _ t => gB (dC, dI) classes (va_A (wM bd cI cZ j ac tx ev on mn pm) sz) (wM bd cI cZ ((mLkJ j t0)) ((mLkA j ac t0)) tx ev on mn pm) t) (va_A (wM bd cI cZ j ac tx ev on mn pm) sz)) 0 0 (va_A (wM bd cI cZ j ac tx ev on mn pm) sz) := by
  refine Met.ofW (cc := b_Model_look) (maxL := 2) (ret := (some .boolean)) (by decide) rfl ?_
  intro p e s m args below meth c s₁ B hml hv
  obtain ⟨rfl, hsz, hP, hK, hD0, hN⟩ := hv
  have hx := B.exec
  have hb := B.bytes
  have hrt := B.returns
  have hq : ∀ w ∈ wAll, w.before ([.ref (bd 0), .int t0] : List Value).toArray s = true := fun w h => atoms_spec (ws := w_Model_look) B.pre w (List.mem_cons_of_mem _ h)
  have hown : s.vm.findClass R_Model = some m.cls := findClass_of_methodNamed B.named
  have hlocks := B.notSynchronized
  subst hsz
  have hD := hD0.self (sz := s.heap.size)
  generalize hAe : va_A (wM bd cI cZ j ac tx ev on mn pm) s.heap.size = A at hD ⊢
  have hA : ∀ q : Nat, s.heap.size ≤ q → A q := fun q h => by rw [← hAe]; exact Or.inr h
  have hS : va_S A s.heap s.heap [] := va_S.rf
  have hl := lv_entry ([.ref (bd 0), .int t0]) (n := 2) (Nat.le_of_ble_eq_true rfl)
  rw [lg_entry_eq]
  generalize (lg_sl ([.ref (bd 0), .int t0]) ++ List.replicate (2 - (lg_sl ([.ref (bd 0), .int t0])).length) Slot.unset).toArray = ls at hl ⊢
  have hl : lv_has ls 2 [(0, .ref (bd 0)), (1, .int t0)] := hl
  refine lv_aload_n hx hb d_Model_look_0 rfl (lv_at hl 0 rfl) ?_
  refine lv_iconst (v := 0) hx hb d_Model_look_1 (by decide) ?_
  refine va_put (D := (dC, dI)) (ci := 2) (v := .int 0) (ty := .int) (C := R_Model) (T := F_Model) (N := 12) hx hb hq iw_M t_Model t_Model_ok n_Model hown hK hP hD hS 0 rfl rfl 0 (by decide) (hq _ qm_4) (fun _ h9 => h9) rfl (by decide +kernel) rfl rfl (Nat.le_of_ble_eq_true rfl) d_Model_look_2 (fun H locs hP hD hS => ?_)
  have hP : va_P (dC, dI) classes (wM bd cI cZ ((upd j 0 0)) ac tx ev on mn pm) H := hP
  have hD : va_D A (wM bd cI cZ ((upd j 0 0)) ac tx ev on mn pm) := hD
  refine lv_aload_n hx hb d_Model_look_5 rfl (lv_at hl 0 rfl) ?_
  refine va_get (D := (dC, dI)) (ci := 2) (v := .int (j 3)) (C := R_Model) (T := F_Model) (N := 12) hx hb hq iw_M hown hK hP 0 rfl rfl 3 (by decide) (hq _ qm_9) (fun _ h9 => h9) rfl d_Model_look_6 ?_
  refine lv_if_eq (tgt := 20) hx hb d_Model_look_9 (by decide) (fun c_1 => ?_) (fun c_1 => ?_)
  · refine lv_iconst (v := 0) hx hb d_Model_look_20 (by decide) ?_
    have e_j : (mLkJ j t0) = (upd j 0 0) := (by simp only [mLkR, mLkJ, mLkA, if_pos c_1] <;> rfl)
    have e_ac : (mLkA j ac t0) = ac := (by simp only [mLkR, mLkJ, mLkA, if_pos c_1] <;> rfl)
    have hP9 : va_P (dC, dI) classes (wM bd cI cZ ((mLkJ j t0)) ((mLkA j ac t0)) tx ev on mn pm) H := by rw [e_j, e_ac]; exact hP
    have hD9 : va_D A (wM bd cI cZ ((mLkJ j t0)) ((mLkA j ac t0)) tx ev on mn pm) := by rw [e_j, e_ac]; exact hD
    exact W.zret (v := 0) hx hb hrt rfl (fun t ht hW => ⟨⟨0, (), rfl, (by simp only [mLkR, mLkJ, mLkA, if_pos c_1] <;> rfl), by rw [ht]; exact hP9, hD9⟩, hS.F ht⟩) hS.2.2 d_Model_look_21
  · refine lv_aload_n hx hb d_Model_look_12 rfl (lv_at hl 0 rfl) ?_
    refine va_get (D := (dC, dI)) (ci := 2) (v := .int (j 4)) (C := R_Model) (T := F_Model) (N := 12) hx hb hq iw_M hown hK hP 0 rfl rfl 4 (by decide) (hq _ qm_10) (fun _ h9 => h9) rfl d_Model_look_13 ?_
    refine lv_iload_n hx hb d_Model_look_16 rfl (lv_at hl 1 rfl) ?_
    refine lv_icmp_le (tgt := 22) hx hb d_Model_look_17 (by decide) (fun c_2 => ?_) (fun c_2 => ?_)
    · refine lv_aload_n hx hb d_Model_look_22 rfl (lv_at hl 0 rfl) ?_
      refine lv_iconst (v := 0) hx hb d_Model_look_23 (by decide) ?_
      refine va_put (D := (dC, dI)) (ci := 2) (v := .int 0) (ty := .boolean) (C := R_Model) (T := F_Model) (N := 12) hx hb hq iw_M t_Model t_Model_ok n_Model hown hK hP hD hS 0 rfl rfl 3 (by decide) (hq _ qm_9) (fun _ h9 => h9) rfl (by decide +kernel) rfl rfl (Nat.le_of_ble_eq_true rfl) d_Model_look_24 (fun H locs hP hD hS => ?_)
      have hP : va_P (dC, dI) classes (wM bd cI cZ ((upd (upd j 0 0) 3 0)) ac tx ev on mn pm) H := hP
      have hD : va_D A (wM bd cI cZ ((upd (upd j 0 0) 3 0)) ac tx ev on mn pm) := hD
      refine lv_aload_n hx hb d_Model_look_27 rfl (lv_at hl 0 rfl) ?_
      refine lv_iconst (v := 0) hx hb d_Model_look_28 (by decide) ?_
      refine g_calli (va_runV (As := [.int 0]) (rest := []) ⟨hx, hb, hml, hown, hq⟩ (c_Model_becomes l dC dI bd H.size cI cZ ((upd (upd j 0 0) 3 0)) ac tx ev on mn pm 0) ⟨callB_of 1 hq (gd m_Model_becomes) rfl rfl rfl (hq _ qm_5) (hq _ qm_6) (by decide +kernel) ⟨Nat.le_of_ble_eq_true rfl, Nat.le_of_ble_eq_true rfl⟩, (hq _ qm_7), (hq _ qm_8)⟩ ⟨g_blind, va_recv hK hP (ci := 2) (q0 := 0) rfl rfl, g_pre hP hK hD hN⟩ rfl rfl hl.1 rfl (lv_room (Nat.le_of_ble_eq_true rfl)) d_Model_look_29 ⟨Nat.zero_le _, Nat.zero_le _⟩) hD hS hA (fun r H locs hr hP hD hS => ?_)
      subst hr
      have e_j : (mLkJ j t0) = (mBeJ ((upd (upd j 0 0) 3 0)) 0) := (by simp only [mLkR, mLkJ, mLkA, if_neg c_1, if_pos c_2] <;> rfl)
      have e_ac : (mLkA j ac t0) = (mBeA ((upd (upd j 0 0) 3 0)) ac 0) := (by simp only [mLkR, mLkJ, mLkA, if_neg c_1, if_pos c_2] <;> rfl)
      have hP9 : va_P (dC, dI) classes (wM bd cI cZ ((mLkJ j t0)) ((mLkA j ac t0)) tx ev on mn pm) H := by rw [e_j, e_ac]; exact hP
      have hD9 : va_D A (wM bd cI cZ ((mLkJ j t0)) ((mLkA j ac t0)) tx ev on mn pm) := by rw [e_j, e_ac]; exact hD
      exact W.zret (v := (mBeR ((upd (upd j 0 0) 3 0)) 0)) hx hb hrt (g_nar (mBeR_01 _ _)) (fun t ht hW => ⟨⟨(mBeR ((upd (upd j 0 0) 3 0)) 0), (), rfl, (by simp only [mLkR, mLkJ, mLkA, if_neg c_1, if_pos c_2] <;> rfl), by rw [ht]; exact hP9, hD9⟩, hS.F ht⟩) hS.2.2 d_Model_look_32
    · refine lv_iconst (v := 0) hx hb d_Model_look_20 (by decide) ?_
      have e_j : (mLkJ j t0) = (upd j 0 0) := (by simp only [mLkR, mLkJ, mLkA, if_neg c_1, if_neg c_2] <;> rfl)
      have e_ac : (mLkA j ac t0) = ac := (by simp only [mLkR, mLkJ, mLkA, if_neg c_1, if_neg c_2] <;> rfl)
      have hP9 : va_P (dC, dI) classes (wM bd cI cZ ((mLkJ j t0)) ((mLkA j ac t0)) tx ev on mn pm) H := by rw [e_j, e_ac]; exact hP
      have hD9 : va_D A (wM bd cI cZ ((mLkJ j t0)) ((mLkA j ac t0)) tx ev on mn pm) := by rw [e_j, e_ac]; exact hD
      exact W.zret (v := 0) hx hb hrt rfl (fun t ht hW => ⟨⟨0, (), rfl, (by simp only [mLkR, mLkJ, mLkA, if_neg c_1, if_neg c_2] <;> rfl), by rw [ht]; exact hP9, hD9⟩, hS.F ht⟩) hS.2.2 d_Model_look_21
set_option maxHeartbeats 4000000 in
set_option maxRecDepth 100000 in
theorem c_Model_put (l : Launch) (dC : Nat → ClassId) (dI : Nat → Nat → Nat) (bd : Nat → Nat) (sz : Nat) (cI cZ : ClassId) (j ac tx ev on mn pm : Nat → Int32) (x : Int32) (t : Nat) (ht8 : t ≤ 8) (hj6 : j 6 = nI t) : Met l y_Model_put w_Model_put ({ frames := 0, cells := 0, slots := 0, locals := 0 }) (va_Pc [.ref (bd 0), .int x] (gP (dC, dI) classes (tyM cI cZ) (wM bd cI cZ j ac tx ev on mn pm) sz)) (va_Qi (fun r (_ : Unit) => r = (mPuR j x)) (fun _ t => gB (dC, dI) classes (va_A (wM bd cI cZ j ac tx ev on mn pm) sz) (wM bd cI cZ ((mPuJ j x)) ac ((mPuT j tx x)) ev on mn pm) t) (va_A (wM bd cI cZ j ac tx ev on mn pm) sz)) 0 0 (va_A (wM bd cI cZ j ac tx ev on mn pm) sz) := by
  refine Met.ofW (cc := b_Model_put) (maxL := 2) (ret := (some .int)) (by decide) rfl ?_
  intro p e s m args below meth c s₁ B hml hv
  obtain ⟨rfl, hsz, hP, hK, hD0, hN⟩ := hv
  have hx := B.exec
  have hb := B.bytes
  have hrt := B.returns
  have hq : ∀ w ∈ wAll, w.before ([.ref (bd 0), .int x] : List Value).toArray s = true := fun w h => atoms_spec (ws := w_Model_put) B.pre w (List.mem_cons_of_mem _ h)
  have hown : s.vm.findClass R_Model = some m.cls := findClass_of_methodNamed B.named
  have hlocks := B.notSynchronized
  subst hsz
  have hD := hD0.self (sz := s.heap.size)
  generalize hAe : va_A (wM bd cI cZ j ac tx ev on mn pm) s.heap.size = A at hD ⊢
  have hA : ∀ q : Nat, s.heap.size ≤ q → A q := fun q h => by rw [← hAe]; exact Or.inr h
  have hS : va_S A s.heap s.heap [] := va_S.rf
  have hl := lv_entry ([.ref (bd 0), .int x]) (n := 2) (Nat.le_of_ble_eq_true rfl)
  rw [lg_entry_eq]
  generalize (lg_sl ([.ref (bd 0), .int x]) ++ List.replicate (2 - (lg_sl ([.ref (bd 0), .int x])).length) Slot.unset).toArray = ls at hl ⊢
  have hl : lv_has ls 2 [(0, .ref (bd 0)), (1, .int x)] := hl
  refine lv_aload_n hx hb d_Model_put_0 rfl (lv_at hl 0 rfl) ?_
  refine lv_iconst (v := 0) hx hb d_Model_put_1 (by decide) ?_
  refine va_put (D := (dC, dI)) (ci := 2) (v := .int 0) (ty := .int) (C := R_Model) (T := F_Model) (N := 12) hx hb hq iw_M t_Model t_Model_ok n_Model hown hK hP hD hS 0 rfl rfl 0 (by decide) (hq _ qm_4) (fun _ h9 => h9) rfl (by decide +kernel) rfl rfl (Nat.le_of_ble_eq_true rfl) d_Model_put_2 (fun H locs hP hD hS => ?_)
  have hP : va_P (dC, dI) classes (wM bd cI cZ ((upd j 0 0)) ac tx ev on mn pm) H := hP
  have hD : va_D A (wM bd cI cZ ((upd j 0 0)) ac tx ev on mn pm) := hD
  refine lv_iload_n hx hb d_Model_put_5 rfl (lv_at hl 1 rfl) ?_
  refine lv_if_lt (tgt := 24) hx hb d_Model_put_6 (by decide) (fun c_1 => ?_) (fun c_1 => ?_)
  · refine lv_iconst (v := (-1)) hx hb d_Model_put_24 (by decide) ?_
    have e_j : (mPuJ j x) = (upd j 0 0) := (by simp only [mPuR, mPuJ, mPuT, if_pos c_1] <;> rfl)
    have e_tx : (mPuT j tx x) = tx := (by simp only [mPuR, mPuJ, mPuT, if_pos c_1] <;> rfl)
    have hP9 : va_P (dC, dI) classes (wM bd cI cZ ((mPuJ j x)) ac ((mPuT j tx x)) ev on mn pm) H := by rw [e_j, e_tx]; exact hP
    have hD9 : va_D A (wM bd cI cZ ((mPuJ j x)) ac ((mPuT j tx x)) ev on mn pm) := by rw [e_j, e_tx]; exact hD
    exact W.iret (v := (-1)) hx hb hrt (fun t ht hW => ⟨⟨(-1), (), rfl, (by simp only [mPuR, mPuJ, mPuT, if_pos c_1] <;> rfl), by rw [ht]; exact hP9, hD9⟩, hS.F ht⟩) hS.2.2 d_Model_put_25
  · refine lv_iload_n hx hb d_Model_put_9 rfl (lv_at hl 1 rfl) ?_
    refine lv_bipush (v := 31) hx hb d_Model_put_10 (by decide) ?_
    refine lv_icmp_gt (tgt := 24) hx hb d_Model_put_12 (by decide) (fun c_2 => ?_) (fun c_2 => ?_)
    · refine lv_iconst (v := (-1)) hx hb d_Model_put_24 (by decide) ?_
      have e_j : (mPuJ j x) = (upd j 0 0) := (by simp only [mPuR, mPuJ, mPuT, if_neg c_1, if_pos c_2] <;> rfl)
      have e_tx : (mPuT j tx x) = tx := (by simp only [mPuR, mPuJ, mPuT, if_neg c_1, if_pos c_2] <;> rfl)
      have hP9 : va_P (dC, dI) classes (wM bd cI cZ ((mPuJ j x)) ac ((mPuT j tx x)) ev on mn pm) H := by rw [e_j, e_tx]; exact hP
      have hD9 : va_D A (wM bd cI cZ ((mPuJ j x)) ac ((mPuT j tx x)) ev on mn pm) := by rw [e_j, e_tx]; exact hD
      exact W.iret (v := (-1)) hx hb hrt (fun t ht hW => ⟨⟨(-1), (), rfl, (by simp only [mPuR, mPuJ, mPuT, if_neg c_1, if_pos c_2] <;> rfl), by rw [ht]; exact hP9, hD9⟩, hS.F ht⟩) hS.2.2 d_Model_put_25
    · refine lv_aload_n hx hb d_Model_put_15 rfl (lv_at hl 0 rfl) ?_
      refine va_get (D := (dC, dI)) (ci := 2) (v := .int (j 6)) (C := R_Model) (T := F_Model) (N := 12) hx hb hq iw_M hown hK hP 0 rfl rfl 6 (by decide) (hq _ qm_11) (fun _ h9 => h9) rfl d_Model_put_16 ?_
      refine lv_bipush (v := 8) hx hb d_Model_put_19 (by decide) ?_
      refine lv_icmp_ne (tgt := 26) hx hb d_Model_put_21 (by decide) (fun c_3 => ?_) (fun c_3 => ?_)
      · refine lv_aload_n hx hb d_Model_put_26 rfl (lv_at hl 0 rfl) ?_
        refine va_get (D := (dC, dI)) (ci := 2) (v := .ref (bd 2)) (C := R_Model) (T := F_Model) (N := 12) hx hb hq iw_M hown hK hP 0 rfl rfl 7 (by decide) (hq _ qm_12) (fun _ h9 => h9) rfl d_Model_put_27 ?_
        refine lv_aload_n hx hb d_Model_put_30 rfl (lv_at hl 0 rfl) ?_
        refine va_get (D := (dC, dI)) (ci := 2) (v := .int (j 6)) (C := R_Model) (T := F_Model) (N := 12) hx hb hq iw_M hown hK hP 0 rfl rfl 6 (by decide) (hq _ qm_11) (fun _ h9 => h9) rfl d_Model_put_31 ?_
        refine lv_iload_n hx hb d_Model_put_34 rfl (lv_at hl 1 rfl) ?_
        refine va_iast (D := (dC, dI)) hx hb hK hP hD hS 2 0 rfl rfl (by show vp_in (j 6) 8; rw [hj6] at c_3 ⊢; exact vp_in_nI (by rcases Nat.lt_or_ge t 8 with h | h; exact h; exact absurd (by rw [show t = 8 by omega]; rfl) c_3) (by decide)) d_Model_put_35 (fun H locs hP hD hS => ?_)
        have hP : va_P (dC, dI) classes (wM bd cI cZ ((upd j 0 0)) ac ((upd tx ((j 6)).toNatClampNeg x)) ev on mn pm) H := hP
        have hD : va_D A (wM bd cI cZ ((upd j 0 0)) ac ((upd tx ((j 6)).toNatClampNeg x)) ev on mn pm) := hD
        refine lv_aload_n hx hb d_Model_put_36 rfl (lv_at hl 0 rfl) ?_
        refine lv_dup hx hb d_Model_put_37 rfl ?_
        refine va_get (D := (dC, dI)) (ci := 2) (v := .int (j 6)) (C := R_Model) (T := F_Model) (N := 12) hx hb hq iw_M hown hK hP 0 rfl rfl 6 (by decide) (hq _ qm_11) (fun _ h9 => h9) rfl d_Model_put_38 ?_
        refine lv_iconst (v := 1) hx hb d_Model_put_41 (by decide) ?_
        refine lv_iadd hx hb d_Model_put_42 ?_
        refine va_put (D := (dC, dI)) (ci := 2) (v := .int ((j 6) + 1)) (ty := .int) (C := R_Model) (T := F_Model) (N := 12) hx hb hq iw_M t_Model t_Model_ok n_Model hown hK hP hD hS 0 rfl rfl 6 (by decide) (hq _ qm_11) (fun _ h9 => h9) rfl (by decide +kernel) rfl rfl (Nat.le_of_ble_eq_true rfl) d_Model_put_43 (fun H locs hP hD hS => ?_)
        have hP : va_P (dC, dI) classes (wM bd cI cZ ((upd (upd j 0 0) 6 (((j 6) + 1)))) ac ((upd tx ((j 6)).toNatClampNeg x)) ev on mn pm) H := hP
        have hD : va_D A (wM bd cI cZ ((upd (upd j 0 0) 6 (((j 6) + 1)))) ac ((upd tx ((j 6)).toNatClampNeg x)) ev on mn pm) := hD
        refine lv_aload_n hx hb d_Model_put_46 rfl (lv_at hl 0 rfl) ?_
        refine va_get (D := (dC, dI)) (ci := 2) (v := .int ((((j 6) + 1)))) (C := R_Model) (T := F_Model) (N := 12) hx hb hq iw_M hown hK hP 0 rfl rfl 6 (by decide) (hq _ qm_11) (fun _ h9 => h9) rfl d_Model_put_47 ?_
        have e_j : (mPuJ j x) = (upd (upd j 0 0) 6 (((j 6) + 1))) := (by simp only [mPuR, mPuJ, mPuT, if_neg c_1, if_neg c_2, if_neg c_3] <;> rfl)
        have e_tx : (mPuT j tx x) = (upd tx ((j 6)).toNatClampNeg x) := (by simp only [mPuR, mPuJ, mPuT, if_neg c_1, if_neg c_2, if_neg c_3] <;> rfl)
        have hP9 : va_P (dC, dI) classes (wM bd cI cZ ((mPuJ j x)) ac ((mPuT j tx x)) ev on mn pm) H := by rw [e_j, e_tx]; exact hP
        have hD9 : va_D A (wM bd cI cZ ((mPuJ j x)) ac ((mPuT j tx x)) ev on mn pm) := by rw [e_j, e_tx]; exact hD
        exact W.iret (v := ((((j 6) + 1)))) hx hb hrt (fun t ht hW => ⟨⟨((((j 6) + 1))), (), rfl, (by simp only [mPuR, mPuJ, mPuT, if_neg c_1, if_neg c_2, if_neg c_3] <;> rfl), by rw [ht]; exact hP9, hD9⟩, hS.F ht⟩) hS.2.2 d_Model_put_50
      · refine lv_iconst (v := (-1)) hx hb d_Model_put_24 (by decide) ?_
        have e_j : (mPuJ j x) = (upd j 0 0) := (by simp only [mPuR, mPuJ, mPuT, if_neg c_1, if_neg c_2, if_pos c_3] <;> rfl)
        have e_tx : (mPuT j tx x) = tx := (by simp only [mPuR, mPuJ, mPuT, if_neg c_1, if_neg c_2, if_pos c_3] <;> rfl)
        have hP9 : va_P (dC, dI) classes (wM bd cI cZ ((mPuJ j x)) ac ((mPuT j tx x)) ev on mn pm) H := by rw [e_j, e_tx]; exact hP
        have hD9 : va_D A (wM bd cI cZ ((mPuJ j x)) ac ((mPuT j tx x)) ev on mn pm) := by rw [e_j, e_tx]; exact hD
        exact W.iret (v := (-1)) hx hb hrt (fun t ht hW => ⟨⟨(-1), (), rfl, (by simp only [mPuR, mPuJ, mPuT, if_neg c_1, if_neg c_2, if_pos c_3] <;> rfl), by rw [ht]; exact hP9, hD9⟩, hS.F ht⟩) hS.2.2 d_Model_put_25
end
section
set_option maxHeartbeats 4000000 in
set_option maxRecDepth 100000 in
theorem c_Model_form (l : Launch) (dC : Nat → ClassId) (dI : Nat → Nat → Nat) (bd : Nat → Nat) (sz : Nat) (cI cZ : ClassId) (j ac tx ev on mn pm : Nat → Int32) (id e0 : Int32) (t : Nat) (ht8 : t ≤ 8) (hj6 : j 6 = nI t) : Met l y_Model_form w_Model_form ({ frames := 1, cells := 0, slots := 0, locals := 22 }) (va_Pc [.ref (bd 0), .int id, .int e0] (gP (dC, dI) classes (tyM cI cZ) (wM bd cI cZ j ac tx ev on mn pm) sz)) (va_Qi (fun r (_ : Unit) => r = (mFail j ev id e0)) (fun _ t => gB (dC, dI) classes (va_A (wM bd cI cZ j ac tx ev on mn pm) sz) (wM bd cI cZ ((upd (upd j 0 0) 6 0)) ac tx ((mFoE j ev id e0)) ((mFoO j ev on id e0)) ((mFoN j ev mn id e0)) ((mFoP j tx ev pm id e0))) t) (va_A (wM bd cI cZ j ac tx ev on mn pm) sz)) 0 0 (va_A (wM bd cI cZ j ac tx ev on mn pm) sz) := by
  refine Met.ofW (cc := b_Model_form) (maxL := 5) (ret := (some .int)) (by decide) rfl ?_
  intro p e s m args below meth c s₁ B hml hv
  obtain ⟨rfl, hsz, hP, hK, hD0, hN⟩ := hv
  have hx := B.exec
  have hb := B.bytes
  have hrt := B.returns
  have hq : ∀ w ∈ wAll, w.before ([.ref (bd 0), .int id, .int e0] : List Value).toArray s = true := fun w h => atoms_spec (ws := w_Model_form) B.pre w (List.mem_cons_of_mem _ h)
  have hown : s.vm.findClass R_Model = some m.cls := findClass_of_methodNamed B.named
  have hlocks := B.notSynchronized
  subst hsz
  have hD := hD0.self (sz := s.heap.size)
  generalize hAe : va_A (wM bd cI cZ j ac tx ev on mn pm) s.heap.size = A at hD ⊢
  have hA : ∀ q : Nat, s.heap.size ≤ q → A q := fun q h => by rw [← hAe]; exact Or.inr h
  have hS : va_S A s.heap s.heap [] := va_S.rf
  have hl := lv_entry ([.ref (bd 0), .int id, .int e0]) (n := 5) (Nat.le_of_ble_eq_true rfl)
  rw [lg_entry_eq]
  generalize (lg_sl ([.ref (bd 0), .int id, .int e0]) ++ List.replicate (5 - (lg_sl ([.ref (bd 0), .int id, .int e0])).length) Slot.unset).toArray = ls at hl ⊢
  have hl : lv_has ls 5 [(0, .ref (bd 0)), (1, .int id), (2, .int e0)] := hl
  refine lv_aload_n hx hb d_Model_form_0 rfl (lv_at hl 0 rfl) ?_
  refine lv_iconst (v := 0) hx hb d_Model_form_1 (by decide) ?_
  refine va_put (D := (dC, dI)) (ci := 2) (v := .int 0) (ty := .int) (C := R_Model) (T := F_Model) (N := 12) hx hb hq iw_M t_Model t_Model_ok n_Model hown hK hP hD hS 0 rfl rfl 0 (by decide) (hq _ qm_4) (fun _ h9 => h9) rfl (by decide +kernel) rfl rfl (Nat.le_of_ble_eq_true rfl) d_Model_form_2 (fun H locs hP hD hS => ?_)
  have hP : va_P (dC, dI) classes (wM bd cI cZ ((upd j 0 0)) ac tx ev on mn pm) H := hP
  have hD : va_D A (wM bd cI cZ ((upd j 0 0)) ac tx ev on mn pm) := hD
  refine lv_aload_n hx hb d_Model_form_5 rfl (lv_at hl 0 rfl) ?_
  refine va_get (D := (dC, dI)) (ci := 2) (v := .int (j 6)) (C := R_Model) (T := F_Model) (N := 12) hx hb hq iw_M hown hK hP 0 rfl rfl 6 (by decide) (hq _ qm_11) (fun _ h9 => h9) rfl d_Model_form_6 ?_
  refine lv_istore_n (lv' := [(3, .int (j 6)), (0, .ref (bd 0)), (1, .int id), (2, .int e0)]) hx hb d_Model_form_9 rfl hl (by decide) rfl (fun ls hl => ?_)
  refine lv_aload_n hx hb d_Model_form_10 rfl (lv_at hl 1 rfl) ?_
  refine lv_iconst (v := 0) hx hb d_Model_form_11 (by decide) ?_
  refine va_put (D := (dC, dI)) (ci := 2) (v := .int 0) (ty := .int) (C := R_Model) (T := F_Model) (N := 12) hx hb hq iw_M t_Model t_Model_ok n_Model hown hK hP hD hS 0 rfl rfl 6 (by decide) (hq _ qm_11) (fun _ h9 => h9) rfl (by decide +kernel) rfl rfl (Nat.le_of_ble_eq_true rfl) d_Model_form_12 (fun H locs hP hD hS => ?_)
  have hP : va_P (dC, dI) classes (wM bd cI cZ ((upd (upd j 0 0) 6 0)) ac tx ev on mn pm) H := hP
  have hD : va_D A (wM bd cI cZ ((upd (upd j 0 0) 6 0)) ac tx ev on mn pm) := hD
  refine lv_iload_n hx hb d_Model_form_15 rfl (lv_at hl 0 rfl) ?_
  refine lv_if_eq (tgt := 42) hx hb d_Model_form_16 (by decide) (fun c_1 => ?_) (fun c_1 => ?_)
  · refine lv_bipush (v := 13) hx hb d_Model_form_42 (by decide) ?_
    have hf : mFail j ev id e0 = 13 := by simp only [mFail, if_pos c_1]
    have e_ev : (mFoE j ev id e0) = ev := (by unfold mFoE; rw [hf, if_neg (by decide)])
    have e_on : (mFoO j ev on id e0) = on := (by unfold mFoO; rw [hf, if_neg (by decide)])
    have e_mn : (mFoN j ev mn id e0) = mn := (by unfold mFoN; rw [hf, if_neg (by decide)])
    have e_pm : (mFoP j tx ev pm id e0) = pm := (by unfold mFoP; rw [hf, if_neg (by decide)])
    have hP9 : va_P (dC, dI) classes (wM bd cI cZ ((upd (upd j 0 0) 6 0)) ac tx ((mFoE j ev id e0)) ((mFoO j ev on id e0)) ((mFoN j ev mn id e0)) ((mFoP j tx ev pm id e0))) H := by rw [e_ev, e_on, e_mn, e_pm]; exact hP
    have hD9 : va_D A (wM bd cI cZ ((upd (upd j 0 0) 6 0)) ac tx ((mFoE j ev id e0)) ((mFoO j ev on id e0)) ((mFoN j ev mn id e0)) ((mFoP j tx ev pm id e0))) := by rw [e_ev, e_on, e_mn, e_pm]; exact hD
    exact W.iret (v := 13) hx hb hrt (fun t ht hW => ⟨⟨13, (), rfl, hf.symm, by rw [ht]; exact hP9, hD9⟩, hS.F ht⟩) hS.2.2 d_Model_form_44
  · refine lv_iload_n hx hb d_Model_form_19 rfl (lv_at hl 3 rfl) ?_
    refine lv_iconst (v := 1) hx hb d_Model_form_20 (by decide) ?_
    refine lv_icmp_lt (tgt := 42) hx hb d_Model_form_21 (by decide) (fun c_2 => ?_) (fun c_2 => ?_)
    · refine lv_bipush (v := 13) hx hb d_Model_form_42 (by decide) ?_
      have hf : mFail j ev id e0 = 13 := by simp only [mFail, if_neg c_1, if_pos c_2]
      have e_ev : (mFoE j ev id e0) = ev := (by unfold mFoE; rw [hf, if_neg (by decide)])
      have e_on : (mFoO j ev on id e0) = on := (by unfold mFoO; rw [hf, if_neg (by decide)])
      have e_mn : (mFoN j ev mn id e0) = mn := (by unfold mFoN; rw [hf, if_neg (by decide)])
      have e_pm : (mFoP j tx ev pm id e0) = pm := (by unfold mFoP; rw [hf, if_neg (by decide)])
      have hP9 : va_P (dC, dI) classes (wM bd cI cZ ((upd (upd j 0 0) 6 0)) ac tx ((mFoE j ev id e0)) ((mFoO j ev on id e0)) ((mFoN j ev mn id e0)) ((mFoP j tx ev pm id e0))) H := by rw [e_ev, e_on, e_mn, e_pm]; exact hP
      have hD9 : va_D A (wM bd cI cZ ((upd (upd j 0 0) 6 0)) ac tx ((mFoE j ev id e0)) ((mFoO j ev on id e0)) ((mFoN j ev mn id e0)) ((mFoP j tx ev pm id e0))) := by rw [e_ev, e_on, e_mn, e_pm]; exact hD
      exact W.iret (v := 13) hx hb hrt (fun t ht hW => ⟨⟨13, (), rfl, hf.symm, by rw [ht]; exact hP9, hD9⟩, hS.F ht⟩) hS.2.2 d_Model_form_44
    · refine lv_iload_n hx hb d_Model_form_24 rfl (lv_at hl 3 rfl) ?_
      refine lv_sipush (v := 255) hx hb d_Model_form_25 (by decide) ?_
      refine lv_icmp_gt (tgt := 42) hx hb d_Model_form_28 (by decide) (fun c_3 => ?_) (fun c_3 => ?_)
      · refine lv_bipush (v := 13) hx hb d_Model_form_42 (by decide) ?_
        have hf : mFail j ev id e0 = 13 := by simp only [mFail, if_neg c_1, if_neg c_2, if_pos c_3]
        have e_ev : (mFoE j ev id e0) = ev := (by unfold mFoE; rw [hf, if_neg (by decide)])
        have e_on : (mFoO j ev on id e0) = on := (by unfold mFoO; rw [hf, if_neg (by decide)])
        have e_mn : (mFoN j ev mn id e0) = mn := (by unfold mFoN; rw [hf, if_neg (by decide)])
        have e_pm : (mFoP j tx ev pm id e0) = pm := (by unfold mFoP; rw [hf, if_neg (by decide)])
        have hP9 : va_P (dC, dI) classes (wM bd cI cZ ((upd (upd j 0 0) 6 0)) ac tx ((mFoE j ev id e0)) ((mFoO j ev on id e0)) ((mFoN j ev mn id e0)) ((mFoP j tx ev pm id e0))) H := by rw [e_ev, e_on, e_mn, e_pm]; exact hP
        have hD9 : va_D A (wM bd cI cZ ((upd (upd j 0 0) 6 0)) ac tx ((mFoE j ev id e0)) ((mFoO j ev on id e0)) ((mFoN j ev mn id e0)) ((mFoP j tx ev pm id e0))) := by rw [e_ev, e_on, e_mn, e_pm]; exact hD
        exact W.iret (v := 13) hx hb hrt (fun t ht hW => ⟨⟨13, (), rfl, hf.symm, by rw [ht]; exact hP9, hD9⟩, hS.F ht⟩) hS.2.2 d_Model_form_44
      · refine lv_iload_n hx hb d_Model_form_31 rfl (lv_at hl 2 rfl) ?_
        refine lv_if_lt (tgt := 42) hx hb d_Model_form_32 (by decide) (fun c_4 => ?_) (fun c_4 => ?_)
        · refine lv_bipush (v := 13) hx hb d_Model_form_42 (by decide) ?_
          have hf : mFail j ev id e0 = 13 := by simp only [mFail, if_neg c_1, if_neg c_2, if_neg c_3, if_pos c_4]
          have e_ev : (mFoE j ev id e0) = ev := (by unfold mFoE; rw [hf, if_neg (by decide)])
          have e_on : (mFoO j ev on id e0) = on := (by unfold mFoO; rw [hf, if_neg (by decide)])
          have e_mn : (mFoN j ev mn id e0) = mn := (by unfold mFoN; rw [hf, if_neg (by decide)])
          have e_pm : (mFoP j tx ev pm id e0) = pm := (by unfold mFoP; rw [hf, if_neg (by decide)])
          have hP9 : va_P (dC, dI) classes (wM bd cI cZ ((upd (upd j 0 0) 6 0)) ac tx ((mFoE j ev id e0)) ((mFoO j ev on id e0)) ((mFoN j ev mn id e0)) ((mFoP j tx ev pm id e0))) H := by rw [e_ev, e_on, e_mn, e_pm]; exact hP
          have hD9 : va_D A (wM bd cI cZ ((upd (upd j 0 0) 6 0)) ac tx ((mFoE j ev id e0)) ((mFoO j ev on id e0)) ((mFoN j ev mn id e0)) ((mFoP j tx ev pm id e0))) := by rw [e_ev, e_on, e_mn, e_pm]; exact hD
          exact W.iret (v := 13) hx hb hrt (fun t ht hW => ⟨⟨13, (), rfl, hf.symm, by rw [ht]; exact hP9, hD9⟩, hS.F ht⟩) hS.2.2 d_Model_form_44
        · refine lv_iload_n hx hb d_Model_form_35 rfl (lv_at hl 2 rfl) ?_
          refine lv_sipush (v := 255) hx hb d_Model_form_36 (by decide) ?_
          refine lv_icmp_le (tgt := 45) hx hb d_Model_form_39 (by decide) (fun c_5 => ?_) (fun c_5 => ?_)
          · refine lv_aload_n hx hb d_Model_form_45 rfl (lv_at hl 1 rfl) ?_
            refine va_get (D := (dC, dI)) (ci := 2) (v := .ref (bd 3)) (C := R_Model) (T := F_Model) (N := 12) hx hb hq iw_M hown hK hP 0 rfl rfl 8 (by decide) (hq _ qm_0) (fun _ h9 => h9) rfl d_Model_form_46 ?_
            refine lv_iload_n hx hb d_Model_form_49 rfl (lv_at hl 2 rfl) ?_
            refine va_iald (D := (dC, dI)) hx hb hK hP 3 0 rfl rfl (m_in2 (N := 255) (by decide) c_4 c_5) d_Model_form_50 ?_
            refine lv_if_le (tgt := 57) hx hb d_Model_form_51 (by decide) (fun c_6 => ?_) (fun c_6 => ?_)
            · refine lv_aload_n hx hb d_Model_form_57 rfl (lv_at hl 1 rfl) ?_
              refine vp_callSi (va_Run.run (va_runV (As := []) (rest := []) ⟨hx, hb, hml, hown, hq⟩ (c_Model_forms l dC dI bd H.size cI cZ ((upd (upd j 0 0) 6 0)) ac tx ev on mn pm ) ⟨callB_of 0 hq (gd m_Model_forms) rfl rfl rfl (hq _ qm_5) (hq _ qm_13) (by decide +kernel) ⟨Nat.le_of_ble_eq_true rfl, Nat.le_of_ble_eq_true rfl⟩, (hq _ qm_14), (hq _ qm_15)⟩ ⟨g_blind, va_recv hK hP (ci := 2) (q0 := 0) rfl rfl, g_pre hP hK hD hN⟩ rfl rfl hl.1 rfl (lv_room (Nat.le_of_ble_eq_true rfl)) d_Model_form_58 ⟨Nat.zero_le _, Nat.zero_le _⟩)) (fun r hr => ?_)
              subst hr
              refine lv_bipush (v := 8) hx hb d_Model_form_61 (by decide) ?_
              refine lv_icmp_ne (tgt := 69) hx hb d_Model_form_63 (by decide) (fun c_7 => ?_) (fun c_7 => ?_)
              · refine lv_aload_n hx hb d_Model_form_69 rfl (lv_at hl 1 rfl) ?_
                refine va_get (D := (dC, dI)) (ci := 2) (v := .ref (bd 3)) (C := R_Model) (T := F_Model) (N := 12) hx hb hq iw_M hown hK hP 0 rfl rfl 8 (by decide) (hq _ qm_0) (fun _ h9 => h9) rfl d_Model_form_70 ?_
                refine lv_iload_n hx hb d_Model_form_73 rfl (lv_at hl 2 rfl) ?_
                refine lv_iload_n hx hb d_Model_form_74 rfl (lv_at hl 3 rfl) ?_
                refine va_iast (D := (dC, dI)) hx hb hK hP hD hS 3 0 rfl rfl (m_in2 (N := 255) (by decide) c_4 c_5) d_Model_form_75 (fun H locs hP hD hS => ?_)
                have hP : va_P (dC, dI) classes (wM bd cI cZ ((upd (upd j 0 0) 6 0)) ac tx ((upd ev id.toNatClampNeg e0)) on mn pm) H := hP
                have hD : va_D A (wM bd cI cZ ((upd (upd j 0 0) 6 0)) ac tx ((upd ev id.toNatClampNeg e0)) on mn pm) := hD
                refine lv_aload_n hx hb d_Model_form_76 rfl (lv_at hl 1 rfl) ?_
                refine va_get (D := (dC, dI)) (ci := 2) (v := .ref (bd 4)) (C := R_Model) (T := F_Model) (N := 12) hx hb hq iw_M hown hK hP 0 rfl rfl 9 (by decide) (hq _ qm_16) (fun _ h9 => h9) rfl d_Model_form_77 ?_
                refine lv_iload_n hx hb d_Model_form_80 rfl (lv_at hl 2 rfl) ?_
                refine lv_iconst (v := 0) hx hb d_Model_form_81 (by decide) ?_
                refine va_zast (D := (dC, dI)) hx hb hK hP hD hS 4 1 rfl rfl (m_in2 (N := 255) (by decide) c_4 c_5) d_Model_form_82 (fun H locs hP hD hS => ?_)
                rw [m_nar (Or.inl rfl)] at hP hD
                have hP : va_P (dC, dI) classes (wM bd cI cZ ((upd (upd j 0 0) 6 0)) ac tx ((upd ev id.toNatClampNeg e0)) ((upd on id.toNatClampNeg 0)) mn pm) H := hP
                have hD : va_D A (wM bd cI cZ ((upd (upd j 0 0) 6 0)) ac tx ((upd ev id.toNatClampNeg e0)) ((upd on id.toNatClampNeg 0)) mn pm) := hD
                refine lv_aload_n hx hb d_Model_form_83 rfl (lv_at hl 1 rfl) ?_
                refine va_get (D := (dC, dI)) (ci := 2) (v := .ref (bd 5)) (C := R_Model) (T := F_Model) (N := 12) hx hb hq iw_M hown hK hP 0 rfl rfl 10 (by decide) (hq _ qm_17) (fun _ h9 => h9) rfl d_Model_form_84 ?_
                refine lv_iload_n hx hb d_Model_form_87 rfl (lv_at hl 2 rfl) ?_
                refine lv_iload_n hx hb d_Model_form_88 rfl (lv_at hl 0 rfl) ?_
                refine va_iast (D := (dC, dI)) hx hb hK hP hD hS 5 0 rfl rfl (m_in2 (N := 255) (by decide) c_4 c_5) d_Model_form_89 (fun H locs hP hD hS => ?_)
                have hP : va_P (dC, dI) classes (wM bd cI cZ ((upd (upd j 0 0) 6 0)) ac tx ((upd ev id.toNatClampNeg e0)) ((upd on id.toNatClampNeg 0)) ((upd mn id.toNatClampNeg ((j 6)))) pm) H := hP
                have hD : va_D A (wM bd cI cZ ((upd (upd j 0 0) 6 0)) ac tx ((upd ev id.toNatClampNeg e0)) ((upd on id.toNatClampNeg 0)) ((upd mn id.toNatClampNeg ((j 6)))) pm) := hD
                refine lv_iconst (v := 0) hx hb d_Model_form_90 (by decide) ?_
                refine lv_istore (lv' := [(4, .int 0), (3, .int (j 6)), (0, .ref (bd 0)), (1, .int id), (2, .int e0)]) hx hb d_Model_form_91 hl (by decide) rfl (fun ls hl => ?_)
                have hf : mFail j ev id e0 = 0 := by simp only [mFail, if_neg c_1, if_neg c_2, if_neg c_3, if_neg c_4, if_pos c_5, if_pos c_6, if_neg c_7]
                obtain ⟨d, hd, hid⟩ : ∃ d : Nat, d < 256 ∧ id = nI d := vp_in_of (m_in2 (N := 255) (by decide) c_4 c_5) (by decide)
                have hdc : id.toNatClampNeg = d := by rw [hid]; exact nI_clamp (by omega)
                have key : ∀ (n i : Nat) (pq : Nat → Int32), i + n = t → mCpy tx (8 * d) t 0 pm = mCpy tx (8 * d) n i pq → ∀ (H : Heap) (locs : List Loc), va_P (dC, dI) classes (wM bd cI cZ ((upd (upd j 0 0) 6 0)) ac tx ((upd ev id.toNatClampNeg e0)) ((upd on id.toNatClampNeg 0)) ((upd mn id.toNatClampNeg ((j 6)))) pq) H → va_D A (wM bd cI cZ ((upd (upd j 0 0) 6 0)) ac tx ((upd ev id.toNatClampNeg e0)) ((upd on id.toNatClampNeg 0)) ((upd mn id.toNatClampNeg ((j 6)))) pq) → va_S A s.heap H locs → ∀ (ls : Array Slot), lv_has ls 5 [(0, .ref (bd 0)), (1, .int id), (2, .int e0), (3, .int (j 6)), (4, .int (nI i))] → W p l e (headSpec w_Model_form ({ frames := 1, cells := 0, slots := 0, locals := 22 })).room s m ([.ref (bd 0), .int id, .int e0] : List Value).toArray below meth c H locs 0 0 (MQ below (va_Qi (fun r (_ : Unit) => r = (mFail j ev id e0)) (fun _ t => gB (dC, dI) classes A (wM bd cI cZ ((upd (upd j 0 0) 6 0)) ac tx ((mFoE j ev id e0)) ((mFoO j ev on id e0)) ((mFoN j ev mn id e0)) ((mFoP j tx ev pm id e0))) t) A) ([.ref (bd 0), .int id, .int e0] : List Value).toArray s 0 0 A) (F0 m 93 ls []) := by
                  intro n
                  induction n with
                  | zero =>
                    intro i pq hin hres H locs hP hD hS ls hl
                    obtain rfl : i = t := by omega
                    refine lv_iload hx hb d_Model_form_93 (lv_at hl 4 rfl) ?_
                    refine lv_iload_n hx hb d_Model_form_95 rfl (lv_at hl 3 rfl) ?_
                    refine lv_icmp_ge (tgt := 124) hx hb d_Model_form_96 (by decide) (fun c_8 => ?_) (fun c_8 => ?_)
                    · refine lv_iconst (v := 0) hx hb d_Model_form_124 (by decide) ?_
                      have e9 : mFoP j tx ev pm id e0 = pq := by unfold mFoP; rw [hf, if_pos rfl, hdc, hj6, nI_clamp (by omega)]; exact hres
                      have e_ev : (mFoE j ev id e0) = (upd ev id.toNatClampNeg e0) := (by unfold mFoE; rw [hf, if_pos rfl])
                      have e_on : (mFoO j ev on id e0) = (upd on id.toNatClampNeg 0) := (by unfold mFoO; rw [hf, if_pos rfl])
                      have e_mn : (mFoN j ev mn id e0) = (upd mn id.toNatClampNeg ((j 6))) := (by unfold mFoN; rw [hf, if_pos rfl])
                      have e_pm : (mFoP j tx ev pm id e0) = pq := e9
                      have hP9 : va_P (dC, dI) classes (wM bd cI cZ ((upd (upd j 0 0) 6 0)) ac tx ((mFoE j ev id e0)) ((mFoO j ev on id e0)) ((mFoN j ev mn id e0)) ((mFoP j tx ev pm id e0))) H := by rw [e_ev, e_on, e_mn, e_pm]; exact hP
                      have hD9 : va_D A (wM bd cI cZ ((upd (upd j 0 0) 6 0)) ac tx ((mFoE j ev id e0)) ((mFoO j ev on id e0)) ((mFoN j ev mn id e0)) ((mFoP j tx ev pm id e0))) := by rw [e_ev, e_on, e_mn, e_pm]; exact hD
                      exact W.iret (v := 0) hx hb hrt (fun t ht hW => ⟨⟨0, (), rfl, hf.symm, by rw [ht]; exact hP9, hD9⟩, hS.F ht⟩) hS.2.2 d_Model_form_125
                    · exact absurd (by rw [hj6]; exact Int32.le_refl _) c_8
                  | succ n ih =>
                    intro i pq hin hres H locs hP hD hS ls hl
                    have hi : i < 8 := by omega
                    refine lv_iload hx hb d_Model_form_93 (lv_at hl 4 rfl) ?_
                    refine lv_iload_n hx hb d_Model_form_95 rfl (lv_at hl 3 rfl) ?_
                    refine lv_icmp_ge (tgt := 124) hx hb d_Model_form_96 (by decide) (fun c_9 => ?_) (fun c_9 => ?_)
                    · exact absurd c_9 (by rw [hj6]; exact nI_ge (by omega) (by omega))
                    · refine lv_aload_n hx hb d_Model_form_99 rfl (lv_at hl 0 rfl) ?_
                      refine va_get (D := (dC, dI)) (ci := 2) (v := .ref (bd 6)) (C := R_Model) (T := F_Model) (N := 12) hx hb hq iw_M hown hK hP 0 rfl rfl 11 (by decide) (hq _ qm_18) (fun _ h9 => h9) rfl d_Model_form_100 ?_
                      refine lv_bipush (v := 8) hx hb d_Model_form_103 (by decide) ?_
                      refine lv_iload_n hx hb d_Model_form_105 rfl (lv_at hl 1 rfl) ?_
                      refine lv_imul hx hb d_Model_form_106 ?_
                      refine lv_iload hx hb d_Model_form_107 (lv_at hl 4 rfl) ?_
                      refine lv_iadd hx hb d_Model_form_109 ?_
                      refine lv_aload_n hx hb d_Model_form_110 rfl (lv_at hl 0 rfl) ?_
                      refine va_get (D := (dC, dI)) (ci := 2) (v := .ref (bd 2)) (C := R_Model) (T := F_Model) (N := 12) hx hb hq iw_M hown hK hP 0 rfl rfl 7 (by decide) (hq _ qm_12) (fun _ h9 => h9) rfl d_Model_form_111 ?_
                      refine lv_iload hx hb d_Model_form_114 (lv_at hl 4 rfl) ?_
                      refine g_ild (D := (dC, dI)) hx hb hK hP 2 0 rfl rfl (i := i) hi (by decide) d_Model_form_116 ?_
                      rw [show ((8 : Int32) * id + nI i) = nI (8 * d + i) from by rw [hid, show (8 : Int32) = nI 8 from rfl, pk_mul, nI_add]]
                      refine g_ist (D := (dC, dI)) hx hb hK hP hD hS 6 0 rfl rfl (i := (8 * d + i)) (by omega) (by decide) d_Model_form_117 (fun H locs hP hD hS => ?_)
                      have hP : va_P (dC, dI) classes (wM bd cI cZ ((upd (upd j 0 0) 6 0)) ac tx ((upd ev id.toNatClampNeg e0)) ((upd on id.toNatClampNeg 0)) ((upd mn id.toNatClampNeg ((j 6)))) ((upd pq ((8 * d + i)) ((tx i))))) H := hP
                      have hD : va_D A (wM bd cI cZ ((upd (upd j 0 0) 6 0)) ac tx ((upd ev id.toNatClampNeg e0)) ((upd on id.toNatClampNeg 0)) ((upd mn id.toNatClampNeg ((j 6)))) ((upd pq ((8 * d + i)) ((tx i))))) := hD
                      refine lv_iinc (v := (nI (i + 1))) (lv' := [(4, .int (nI (i + 1))), (0, .ref (bd 0)), (1, .int id), (2, .int e0), (3, .int (j 6))]) hx hb d_Model_form_118 hl (k := 4) rfl ((show nI i + Int32.ofInt 1 = nI i + 1 from rfl).trans (nI_1 i)) (by decide) rfl (fun ls hl => ?_)
                      refine lv_goto (tgt := 93) hx hb d_Model_form_121 (by decide) ?_
                      exact ih (i + 1) ((upd pq ((8 * d + i)) ((tx i)))) (by omega) (by rw [hres]; rfl) H locs hP hD hS ls (lv_sub hl [1, 2, 3, 4, 0] rfl)
                exact key t 0 pm (by omega) rfl H locs hP hD hS ls (lv_sub hl [2, 3, 4, 1, 0] rfl)
              · refine lv_bipush (v := 12) hx hb d_Model_form_66 (by decide) ?_
                have hf : mFail j ev id e0 = 12 := by simp only [mFail, if_neg c_1, if_neg c_2, if_neg c_3, if_neg c_4, if_pos c_5, if_pos c_6, if_pos c_7]
                have e_ev : (mFoE j ev id e0) = ev := (by unfold mFoE; rw [hf, if_neg (by decide)])
                have e_on : (mFoO j ev on id e0) = on := (by unfold mFoO; rw [hf, if_neg (by decide)])
                have e_mn : (mFoN j ev mn id e0) = mn := (by unfold mFoN; rw [hf, if_neg (by decide)])
                have e_pm : (mFoP j tx ev pm id e0) = pm := (by unfold mFoP; rw [hf, if_neg (by decide)])
                have hP9 : va_P (dC, dI) classes (wM bd cI cZ ((upd (upd j 0 0) 6 0)) ac tx ((mFoE j ev id e0)) ((mFoO j ev on id e0)) ((mFoN j ev mn id e0)) ((mFoP j tx ev pm id e0))) H := by rw [e_ev, e_on, e_mn, e_pm]; exact hP
                have hD9 : va_D A (wM bd cI cZ ((upd (upd j 0 0) 6 0)) ac tx ((mFoE j ev id e0)) ((mFoO j ev on id e0)) ((mFoN j ev mn id e0)) ((mFoP j tx ev pm id e0))) := by rw [e_ev, e_on, e_mn, e_pm]; exact hD
                exact W.iret (v := 12) hx hb hrt (fun t ht hW => ⟨⟨12, (), rfl, hf.symm, by rw [ht]; exact hP9, hD9⟩, hS.F ht⟩) hS.2.2 d_Model_form_68
            · refine lv_bipush (v := 11) hx hb d_Model_form_54 (by decide) ?_
              have hf : mFail j ev id e0 = 11 := by simp only [mFail, if_neg c_1, if_neg c_2, if_neg c_3, if_neg c_4, if_pos c_5, if_neg c_6]
              have e_ev : (mFoE j ev id e0) = ev := (by unfold mFoE; rw [hf, if_neg (by decide)])
              have e_on : (mFoO j ev on id e0) = on := (by unfold mFoO; rw [hf, if_neg (by decide)])
              have e_mn : (mFoN j ev mn id e0) = mn := (by unfold mFoN; rw [hf, if_neg (by decide)])
              have e_pm : (mFoP j tx ev pm id e0) = pm := (by unfold mFoP; rw [hf, if_neg (by decide)])
              have hP9 : va_P (dC, dI) classes (wM bd cI cZ ((upd (upd j 0 0) 6 0)) ac tx ((mFoE j ev id e0)) ((mFoO j ev on id e0)) ((mFoN j ev mn id e0)) ((mFoP j tx ev pm id e0))) H := by rw [e_ev, e_on, e_mn, e_pm]; exact hP
              have hD9 : va_D A (wM bd cI cZ ((upd (upd j 0 0) 6 0)) ac tx ((mFoE j ev id e0)) ((mFoO j ev on id e0)) ((mFoN j ev mn id e0)) ((mFoP j tx ev pm id e0))) := by rw [e_ev, e_on, e_mn, e_pm]; exact hD
              exact W.iret (v := 11) hx hb hrt (fun t ht hW => ⟨⟨11, (), rfl, hf.symm, by rw [ht]; exact hP9, hD9⟩, hS.F ht⟩) hS.2.2 d_Model_form_56
          · refine lv_bipush (v := 13) hx hb d_Model_form_42 (by decide) ?_
            have hf : mFail j ev id e0 = 13 := by simp only [mFail, if_neg c_1, if_neg c_2, if_neg c_3, if_neg c_4, if_neg c_5]
            have e_ev : (mFoE j ev id e0) = ev := (by unfold mFoE; rw [hf, if_neg (by decide)])
            have e_on : (mFoO j ev on id e0) = on := (by unfold mFoO; rw [hf, if_neg (by decide)])
            have e_mn : (mFoN j ev mn id e0) = mn := (by unfold mFoN; rw [hf, if_neg (by decide)])
            have e_pm : (mFoP j tx ev pm id e0) = pm := (by unfold mFoP; rw [hf, if_neg (by decide)])
            have hP9 : va_P (dC, dI) classes (wM bd cI cZ ((upd (upd j 0 0) 6 0)) ac tx ((mFoE j ev id e0)) ((mFoO j ev on id e0)) ((mFoN j ev mn id e0)) ((mFoP j tx ev pm id e0))) H := by rw [e_ev, e_on, e_mn, e_pm]; exact hP
            have hD9 : va_D A (wM bd cI cZ ((upd (upd j 0 0) 6 0)) ac tx ((mFoE j ev id e0)) ((mFoO j ev on id e0)) ((mFoN j ev mn id e0)) ((mFoP j tx ev pm id e0))) := by rw [e_ev, e_on, e_mn, e_pm]; exact hD
            exact W.iret (v := 13) hx hb hrt (fun t ht hW => ⟨⟨13, (), rfl, hf.symm, by rw [ht]; exact hP9, hD9⟩, hS.F ht⟩) hS.2.2 d_Model_form_44
set_option maxHeartbeats 4000000 in
set_option maxRecDepth 100000 in
theorem c_Model_remove (l : Launch) (dC : Nat → ClassId) (dI : Nat → Nat → Nat) (bd : Nat → Nat) (sz : Nat) (cI cZ : ClassId) (j ac tx ev on mn pm : Nat → Int32) (id : Int32) : Met l y_Model_remove w_Model_remove ({ frames := 1, cells := 0, slots := 0, locals := 21 }) (va_Pc [.ref (bd 0), .int id] (gP (dC, dI) classes (tyM cI cZ) (wM bd cI cZ j ac tx ev on mn pm) sz)) (va_Qi (fun r (_ : Unit) => r = (mReR ev on id)) (fun _ t => gB (dC, dI) classes (va_A (wM bd cI cZ j ac tx ev on mn pm) sz) (wM bd cI cZ ((upd j 0 0)) ac tx ((mReE ev on id)) on mn pm) t) (va_A (wM bd cI cZ j ac tx ev on mn pm) sz)) 0 0 (va_A (wM bd cI cZ j ac tx ev on mn pm) sz) := by
  refine Met.ofW (cc := b_Model_remove) (maxL := 2) (ret := (some .int)) (by decide) rfl ?_
  intro p e s m args below meth c s₁ B hml hv
  obtain ⟨rfl, hsz, hP, hK, hD0, hN⟩ := hv
  have hx := B.exec
  have hb := B.bytes
  have hrt := B.returns
  have hq : ∀ w ∈ wAll, w.before ([.ref (bd 0), .int id] : List Value).toArray s = true := fun w h => atoms_spec (ws := w_Model_remove) B.pre w (List.mem_cons_of_mem _ h)
  have hown : s.vm.findClass R_Model = some m.cls := findClass_of_methodNamed B.named
  have hlocks := B.notSynchronized
  subst hsz
  have hD := hD0.self (sz := s.heap.size)
  generalize hAe : va_A (wM bd cI cZ j ac tx ev on mn pm) s.heap.size = A at hD ⊢
  have hA : ∀ q : Nat, s.heap.size ≤ q → A q := fun q h => by rw [← hAe]; exact Or.inr h
  have hS : va_S A s.heap s.heap [] := va_S.rf
  have hl := lv_entry ([.ref (bd 0), .int id]) (n := 2) (Nat.le_of_ble_eq_true rfl)
  rw [lg_entry_eq]
  generalize (lg_sl ([.ref (bd 0), .int id]) ++ List.replicate (2 - (lg_sl ([.ref (bd 0), .int id])).length) Slot.unset).toArray = ls at hl ⊢
  have hl : lv_has ls 2 [(0, .ref (bd 0)), (1, .int id)] := hl
  refine lv_aload_n hx hb d_Model_remove_0 rfl (lv_at hl 0 rfl) ?_
  refine lv_iconst (v := 0) hx hb d_Model_remove_1 (by decide) ?_
  refine va_put (D := (dC, dI)) (ci := 2) (v := .int 0) (ty := .int) (C := R_Model) (T := F_Model) (N := 12) hx hb hq iw_M t_Model t_Model_ok n_Model hown hK hP hD hS 0 rfl rfl 0 (by decide) (hq _ qm_4) (fun _ h9 => h9) rfl (by decide +kernel) rfl rfl (Nat.le_of_ble_eq_true rfl) d_Model_remove_2 (fun H locs hP hD hS => ?_)
  have hP : va_P (dC, dI) classes (wM bd cI cZ ((upd j 0 0)) ac tx ev on mn pm) H := hP
  have hD : va_D A (wM bd cI cZ ((upd j 0 0)) ac tx ev on mn pm) := hD
  refine lv_aload_n hx hb d_Model_remove_5 rfl (lv_at hl 0 rfl) ?_
  refine lv_iload_n hx hb d_Model_remove_6 rfl (lv_at hl 1 rfl) ?_
  refine vp_callSi (va_Run.run (va_runV (As := [.int id]) (rest := []) ⟨hx, hb, hml, hown, hq⟩ (c_Model_isThere l dC dI bd H.size cI cZ ((upd j 0 0)) ac tx ev on mn pm id) ⟨callB_of 1 hq (gd m_Model_isThere) rfl rfl rfl (hq _ qm_5) (hq _ qm_19) (by decide +kernel) ⟨Nat.le_of_ble_eq_true rfl, Nat.le_of_ble_eq_true rfl⟩, (hq _ qm_20), (hq _ qm_21)⟩ ⟨g_blind, va_recv hK hP (ci := 2) (q0 := 0) rfl rfl, g_pre hP hK hD hN⟩ rfl rfl hl.1 rfl (lv_room (Nat.le_of_ble_eq_true rfl)) d_Model_remove_7 ⟨Nat.zero_le _, Nat.zero_le _⟩)) (fun r hr => ?_)
  subst hr
  refine lv_if_ne (tgt := 16) hx hb d_Model_remove_10 (by decide) (fun c_1 => ?_) (fun c_1 => ?_)
  · refine lv_aload_n hx hb d_Model_remove_16 rfl (lv_at hl 0 rfl) ?_
    refine va_get (D := (dC, dI)) (ci := 2) (v := .ref (bd 4)) (C := R_Model) (T := F_Model) (N := 12) hx hb hq iw_M hown hK hP 0 rfl rfl 9 (by decide) (hq _ qm_16) (fun _ h9 => h9) rfl d_Model_remove_17 ?_
    refine lv_iload_n hx hb d_Model_remove_20 rfl (lv_at hl 1 rfl) ?_
    refine va_zald (D := (dC, dI)) hx hb hK hP 4 1 rfl rfl (mTh_in c_1) d_Model_remove_21 ?_
    refine lv_if_eq (tgt := 28) hx hb d_Model_remove_22 (by decide) (fun c_2 => ?_) (fun c_2 => ?_)
    · refine lv_aload_n hx hb d_Model_remove_28 rfl (lv_at hl 0 rfl) ?_
      refine va_get (D := (dC, dI)) (ci := 2) (v := .ref (bd 3)) (C := R_Model) (T := F_Model) (N := 12) hx hb hq iw_M hown hK hP 0 rfl rfl 8 (by decide) (hq _ qm_0) (fun _ h9 => h9) rfl d_Model_remove_29 ?_
      refine lv_iload_n hx hb d_Model_remove_32 rfl (lv_at hl 1 rfl) ?_
      refine lv_iconst (v := 0) hx hb d_Model_remove_33 (by decide) ?_
      refine va_iast (D := (dC, dI)) hx hb hK hP hD hS 3 0 rfl rfl (mTh_in c_1) d_Model_remove_34 (fun H locs hP hD hS => ?_)
      have hP : va_P (dC, dI) classes (wM bd cI cZ ((upd j 0 0)) ac tx ((upd ev id.toNatClampNeg 0)) on mn pm) H := hP
      have hD : va_D A (wM bd cI cZ ((upd j 0 0)) ac tx ((upd ev id.toNatClampNeg 0)) on mn pm) := hD
      refine lv_iconst (v := 0) hx hb d_Model_remove_35 (by decide) ?_
      have e_ev : (mReE ev on id) = (upd ev id.toNatClampNeg 0) := (by simp only [mReR, mReE, if_neg c_1, if_pos c_2] <;> rfl)
      have hP9 : va_P (dC, dI) classes (wM bd cI cZ ((upd j 0 0)) ac tx ((mReE ev on id)) on mn pm) H := by rw [e_ev]; exact hP
      have hD9 : va_D A (wM bd cI cZ ((upd j 0 0)) ac tx ((mReE ev on id)) on mn pm) := by rw [e_ev]; exact hD
      exact W.iret (v := 0) hx hb hrt (fun t ht hW => ⟨⟨0, (), rfl, (by simp only [mReR, mReE, if_neg c_1, if_pos c_2] <;> rfl), by rw [ht]; exact hP9, hD9⟩, hS.F ht⟩) hS.2.2 d_Model_remove_36
    · refine lv_bipush (v := 15) hx hb d_Model_remove_25 (by decide) ?_
      have e_ev : (mReE ev on id) = ev := (by simp only [mReR, mReE, if_neg c_1, if_neg c_2] <;> rfl)
      have hP9 : va_P (dC, dI) classes (wM bd cI cZ ((upd j 0 0)) ac tx ((mReE ev on id)) on mn pm) H := by rw [e_ev]; exact hP
      have hD9 : va_D A (wM bd cI cZ ((upd j 0 0)) ac tx ((mReE ev on id)) on mn pm) := by rw [e_ev]; exact hD
      exact W.iret (v := 15) hx hb hrt (fun t ht hW => ⟨⟨15, (), rfl, (by simp only [mReR, mReE, if_neg c_1, if_neg c_2] <;> rfl), by rw [ht]; exact hP9, hD9⟩, hS.F ht⟩) hS.2.2 d_Model_remove_27
  · refine lv_bipush (v := 14) hx hb d_Model_remove_13 (by decide) ?_
    have e_ev : (mReE ev on id) = ev := (by simp only [mReR, mReE, if_pos c_1] <;> rfl)
    have hP9 : va_P (dC, dI) classes (wM bd cI cZ ((upd j 0 0)) ac tx ((mReE ev on id)) on mn pm) H := by rw [e_ev]; exact hP
    have hD9 : va_D A (wM bd cI cZ ((upd j 0 0)) ac tx ((mReE ev on id)) on mn pm) := by rw [e_ev]; exact hD
    exact W.iret (v := 14) hx hb hrt (fun t ht hW => ⟨⟨14, (), rfl, (by simp only [mReR, mReE, if_pos c_1] <;> rfl), by rw [ht]; exact hP9, hD9⟩, hS.F ht⟩) hS.2.2 d_Model_remove_15
set_option maxHeartbeats 4000000 in
set_option maxRecDepth 100000 in
theorem c_Model_enable (l : Launch) (dC : Nat → ClassId) (dI : Nat → Nat → Nat) (bd : Nat → Nat) (sz : Nat) (cI cZ : ClassId) (j ac tx ev on mn pm : Nat → Int32) (id b0 : Int32) (hb0 : b0 = 0 ∨ b0 = 1) : Met l y_Model_enable w_Model_enable ({ frames := 1, cells := 0, slots := 0, locals := 21 }) (va_Pc [.ref (bd 0), .int id, .int b0] (gP (dC, dI) classes (tyM cI cZ) (wM bd cI cZ j ac tx ev on mn pm) sz)) (va_Qi (fun r (_ : Unit) => r = (mEbR ev id)) (fun _ t => gB (dC, dI) classes (va_A (wM bd cI cZ j ac tx ev on mn pm) sz) (wM bd cI cZ ((upd j 0 0)) ac tx ev ((mEbO ev on id b0)) mn pm) t) (va_A (wM bd cI cZ j ac tx ev on mn pm) sz)) 0 0 (va_A (wM bd cI cZ j ac tx ev on mn pm) sz) := by
  refine Met.ofW (cc := b_Model_enable) (maxL := 3) (ret := (some .int)) (by decide) rfl ?_
  intro p e s m args below meth c s₁ B hml hv
  obtain ⟨rfl, hsz, hP, hK, hD0, hN⟩ := hv
  have hx := B.exec
  have hb := B.bytes
  have hrt := B.returns
  have hq : ∀ w ∈ wAll, w.before ([.ref (bd 0), .int id, .int b0] : List Value).toArray s = true := fun w h => atoms_spec (ws := w_Model_enable) B.pre w (List.mem_cons_of_mem _ h)
  have hown : s.vm.findClass R_Model = some m.cls := findClass_of_methodNamed B.named
  have hlocks := B.notSynchronized
  subst hsz
  have hD := hD0.self (sz := s.heap.size)
  generalize hAe : va_A (wM bd cI cZ j ac tx ev on mn pm) s.heap.size = A at hD ⊢
  have hA : ∀ q : Nat, s.heap.size ≤ q → A q := fun q h => by rw [← hAe]; exact Or.inr h
  have hS : va_S A s.heap s.heap [] := va_S.rf
  have hl := lv_entry ([.ref (bd 0), .int id, .int b0]) (n := 3) (Nat.le_of_ble_eq_true rfl)
  rw [lg_entry_eq]
  generalize (lg_sl ([.ref (bd 0), .int id, .int b0]) ++ List.replicate (3 - (lg_sl ([.ref (bd 0), .int id, .int b0])).length) Slot.unset).toArray = ls at hl ⊢
  have hl : lv_has ls 3 [(0, .ref (bd 0)), (1, .int id), (2, .int b0)] := hl
  refine lv_aload_n hx hb d_Model_enable_0 rfl (lv_at hl 0 rfl) ?_
  refine lv_iconst (v := 0) hx hb d_Model_enable_1 (by decide) ?_
  refine va_put (D := (dC, dI)) (ci := 2) (v := .int 0) (ty := .int) (C := R_Model) (T := F_Model) (N := 12) hx hb hq iw_M t_Model t_Model_ok n_Model hown hK hP hD hS 0 rfl rfl 0 (by decide) (hq _ qm_4) (fun _ h9 => h9) rfl (by decide +kernel) rfl rfl (Nat.le_of_ble_eq_true rfl) d_Model_enable_2 (fun H locs hP hD hS => ?_)
  have hP : va_P (dC, dI) classes (wM bd cI cZ ((upd j 0 0)) ac tx ev on mn pm) H := hP
  have hD : va_D A (wM bd cI cZ ((upd j 0 0)) ac tx ev on mn pm) := hD
  refine lv_aload_n hx hb d_Model_enable_5 rfl (lv_at hl 0 rfl) ?_
  refine lv_iload_n hx hb d_Model_enable_6 rfl (lv_at hl 1 rfl) ?_
  refine vp_callSi (va_Run.run (va_runV (As := [.int id]) (rest := []) ⟨hx, hb, hml, hown, hq⟩ (c_Model_isThere l dC dI bd H.size cI cZ ((upd j 0 0)) ac tx ev on mn pm id) ⟨callB_of 1 hq (gd m_Model_isThere) rfl rfl rfl (hq _ qm_5) (hq _ qm_19) (by decide +kernel) ⟨Nat.le_of_ble_eq_true rfl, Nat.le_of_ble_eq_true rfl⟩, (hq _ qm_20), (hq _ qm_21)⟩ ⟨g_blind, va_recv hK hP (ci := 2) (q0 := 0) rfl rfl, g_pre hP hK hD hN⟩ rfl rfl hl.1 rfl (lv_room (Nat.le_of_ble_eq_true rfl)) d_Model_enable_7 ⟨Nat.zero_le _, Nat.zero_le _⟩)) (fun r hr => ?_)
  subst hr
  refine lv_if_ne (tgt := 16) hx hb d_Model_enable_10 (by decide) (fun c_1 => ?_) (fun c_1 => ?_)
  · refine lv_aload_n hx hb d_Model_enable_16 rfl (lv_at hl 0 rfl) ?_
    refine va_get (D := (dC, dI)) (ci := 2) (v := .ref (bd 4)) (C := R_Model) (T := F_Model) (N := 12) hx hb hq iw_M hown hK hP 0 rfl rfl 9 (by decide) (hq _ qm_16) (fun _ h9 => h9) rfl d_Model_enable_17 ?_
    refine lv_iload_n hx hb d_Model_enable_20 rfl (lv_at hl 1 rfl) ?_
    refine lv_iload_n hx hb d_Model_enable_21 rfl (lv_at hl 2 rfl) ?_
    refine va_zast (D := (dC, dI)) hx hb hK hP hD hS 4 1 rfl rfl (mTh_in c_1) d_Model_enable_22 (fun H locs hP hD hS => ?_)
    rw [m_nar hb0] at hP hD
    have hP : va_P (dC, dI) classes (wM bd cI cZ ((upd j 0 0)) ac tx ev ((upd on id.toNatClampNeg b0)) mn pm) H := hP
    have hD : va_D A (wM bd cI cZ ((upd j 0 0)) ac tx ev ((upd on id.toNatClampNeg b0)) mn pm) := hD
    refine lv_iconst (v := 0) hx hb d_Model_enable_23 (by decide) ?_
    have e_on : (mEbO ev on id b0) = (upd on id.toNatClampNeg b0) := (by simp only [mEbR, mEbO, if_neg c_1] <;> rfl)
    have hP9 : va_P (dC, dI) classes (wM bd cI cZ ((upd j 0 0)) ac tx ev ((mEbO ev on id b0)) mn pm) H := by rw [e_on]; exact hP
    have hD9 : va_D A (wM bd cI cZ ((upd j 0 0)) ac tx ev ((mEbO ev on id b0)) mn pm) := by rw [e_on]; exact hD
    exact W.iret (v := 0) hx hb hrt (fun t ht hW => ⟨⟨0, (), rfl, (by simp only [mEbR, mEbO, if_neg c_1] <;> rfl), by rw [ht]; exact hP9, hD9⟩, hS.F ht⟩) hS.2.2 d_Model_enable_24
  · refine lv_bipush (v := 14) hx hb d_Model_enable_13 (by decide) ?_
    have e_on : (mEbO ev on id b0) = on := (by simp only [mEbR, mEbO, if_pos c_1] <;> rfl)
    have hP9 : va_P (dC, dI) classes (wM bd cI cZ ((upd j 0 0)) ac tx ev ((mEbO ev on id b0)) mn pm) H := by rw [e_on]; exact hP
    have hD9 : va_D A (wM bd cI cZ ((upd j 0 0)) ac tx ev ((mEbO ev on id b0)) mn pm) := by rw [e_on]; exact hD
    exact W.iret (v := 14) hx hb hrt (fun t ht hW => ⟨⟨14, (), rfl, (by simp only [mEbR, mEbO, if_pos c_1] <;> rfl), by rw [ht]; exact hP9, hD9⟩, hS.F ht⟩) hS.2.2 d_Model_enable_15
end
section
set_option maxHeartbeats 4000000 in
set_option maxRecDepth 100000 in
theorem c_Model_due (l : Launch) (dC : Nat → ClassId) (dI : Nat → Nat → Nat) (bd : Nat → Nat) (sz : Nat) (cI cZ : ClassId) (j ac tx ev on mn pm : Nat → Int32) (tick fr : Int32) : Met l y_Model_due w_Model_due ({ frames := 0, cells := 0, slots := 0, locals := 0 }) (va_Pc [.ref (bd 0), .int tick, .int fr] (gP (dC, dI) classes (tyM cI cZ) (wM bd cI cZ j ac tx ev on mn pm) sz)) (va_Qi (fun r (_ : Unit) => r = (mDue ev on tick fr 256 (-1))) (fun _ t => gB (dC, dI) classes (va_A (wM bd cI cZ j ac tx ev on mn pm) sz) (wM bd cI cZ ((upd j 0 0)) ac tx ev on mn pm) t) (va_A (wM bd cI cZ j ac tx ev on mn pm) sz)) 0 0 (va_A (wM bd cI cZ j ac tx ev on mn pm) sz) := by
  refine Met.ofW (cc := b_Model_due) (maxL := 5) (ret := (some .int)) (by decide) rfl ?_
  intro p e s m args below meth c s₁ B hml hv
  obtain ⟨rfl, hsz, hP, hK, hD0, hN⟩ := hv
  have hx := B.exec
  have hb := B.bytes
  have hrt := B.returns
  have hq : ∀ w ∈ wAll, w.before ([.ref (bd 0), .int tick, .int fr] : List Value).toArray s = true := fun w h => atoms_spec (ws := w_Model_due) B.pre w (List.mem_cons_of_mem _ h)
  have hown : s.vm.findClass R_Model = some m.cls := findClass_of_methodNamed B.named
  have hlocks := B.notSynchronized
  subst hsz
  have hD := hD0.self (sz := s.heap.size)
  generalize hAe : va_A (wM bd cI cZ j ac tx ev on mn pm) s.heap.size = A at hD ⊢
  have hA : ∀ q : Nat, s.heap.size ≤ q → A q := fun q h => by rw [← hAe]; exact Or.inr h
  have hS : va_S A s.heap s.heap [] := va_S.rf
  have hl := lv_entry ([.ref (bd 0), .int tick, .int fr]) (n := 5) (Nat.le_of_ble_eq_true rfl)
  rw [lg_entry_eq]
  generalize (lg_sl ([.ref (bd 0), .int tick, .int fr]) ++ List.replicate (5 - (lg_sl ([.ref (bd 0), .int tick, .int fr])).length) Slot.unset).toArray = ls at hl ⊢
  have hl : lv_has ls 5 [(0, .ref (bd 0)), (1, .int tick), (2, .int fr)] := hl
  refine lv_aload_n hx hb d_Model_due_0 rfl (lv_at hl 0 rfl) ?_
  refine lv_iconst (v := 0) hx hb d_Model_due_1 (by decide) ?_
  refine va_put (D := (dC, dI)) (ci := 2) (v := .int 0) (ty := .int) (C := R_Model) (T := F_Model) (N := 12) hx hb hq iw_M t_Model t_Model_ok n_Model hown hK hP hD hS 0 rfl rfl 0 (by decide) (hq _ qm_4) (fun _ h9 => h9) rfl (by decide +kernel) rfl rfl (Nat.le_of_ble_eq_true rfl) d_Model_due_2 (fun H locs hP hD hS => ?_)
  have hP : va_P (dC, dI) classes (wM bd cI cZ ((upd j 0 0)) ac tx ev on mn pm) H := hP
  have hD : va_D A (wM bd cI cZ ((upd j 0 0)) ac tx ev on mn pm) := hD
  refine lv_iconst (v := (-1)) hx hb d_Model_due_5 (by decide) ?_
  refine lv_istore_n (lv' := [(3, .int (-1)), (0, .ref (bd 0)), (1, .int tick), (2, .int fr)]) hx hb d_Model_due_6 rfl hl (by decide) rfl (fun ls hl => ?_)
  refine lv_sipush (v := 255) hx hb d_Model_due_7 (by decide) ?_
  refine lv_istore (lv' := [(4, .int 255), (3, .int (-1)), (0, .ref (bd 0)), (1, .int tick), (2, .int fr)]) hx hb d_Model_due_10 hl (by decide) rfl (fun ls hl => ?_)
  have key : ∀ (n : Nat) (x : Int32), n ≤ 256 → mDue ev on tick fr 256 (-1) = mDue ev on tick fr n x → ∀ (ls : Array Slot), lv_has ls 5 [(0, .ref (bd 0)), (1, .int tick), (2, .int fr), (3, .int x), (4, .int (nI n + (-1)))] → W p l e (headSpec w_Model_due ({ frames := 0, cells := 0, slots := 0, locals := 0 })).room s m ([.ref (bd 0), .int tick, .int fr] : List Value).toArray below meth c H locs 0 0 (MQ below (va_Qi (fun r (_ : Unit) => r = (mDue ev on tick fr 256 (-1))) (fun _ t => gB (dC, dI) classes A (wM bd cI cZ ((upd j 0 0)) ac tx ev on mn pm) t) A) ([.ref (bd 0), .int tick, .int fr] : List Value).toArray s 0 0 A) (F0 m 12 ls []) := by
    intro n
    induction n with
    | zero =>
      intro x hn hres ls hl
      refine lv_iload hx hb d_Model_due_12 (lv_at hl 4 rfl) ?_
      refine lv_if_lt (tgt := 68) hx hb d_Model_due_14 (by decide) (fun c_1 => ?_) (fun c_1 => ?_)
      · refine lv_iload_n hx hb d_Model_due_68 rfl (lv_at hl 3 rfl) ?_
        have hP9 : va_P (dC, dI) classes (wM bd cI cZ ((upd j 0 0)) ac tx ev on mn pm) H := by exact hP
        have hD9 : va_D A (wM bd cI cZ ((upd j 0 0)) ac tx ev on mn pm) := by exact hD
        exact W.iret (v := x) hx hb hrt (fun t ht hW => ⟨⟨x, (), rfl, hres.symm, by rw [ht]; exact hP9, hD9⟩, hS.F ht⟩) hS.2.2 d_Model_due_69
      · exact absurd (by decide +kernel) c_1
    | succ n ih =>
      intro x hn hres ls hl
      rw [pk_m1] at hl
      have hi : n < 256 := by omega
      refine lv_iload hx hb d_Model_due_12 (lv_at hl 4 rfl) ?_
      refine lv_if_lt (tgt := 68) hx hb d_Model_due_14 (by decide) (fun c_2 => ?_) (fun c_2 => ?_)
      · exact absurd c_2 (nI_pos (by omega))
      · refine lv_iload hx hb d_Model_due_17 (lv_at hl 4 rfl) ?_
        refine lv_iload_n hx hb d_Model_due_19 rfl (lv_at hl 2 rfl) ?_
        refine lv_icmp_lt (tgt := 68) hx hb d_Model_due_20 (by decide) (fun c_3 => ?_) (fun c_3 => ?_)
        · refine lv_iload_n hx hb d_Model_due_68 rfl (lv_at hl 3 rfl) ?_
          have hP9 : va_P (dC, dI) classes (wM bd cI cZ ((upd j 0 0)) ac tx ev on mn pm) H := by exact hP
          have hD9 : va_D A (wM bd cI cZ ((upd j 0 0)) ac tx ev on mn pm) := by exact hD
          exact W.iret (v := x) hx hb hrt (fun t ht hW => ⟨⟨x, (), rfl, (by rw [hres]; simp only [mDue, if_pos c_3]), by rw [ht]; exact hP9, hD9⟩, hS.F ht⟩) hS.2.2 d_Model_due_69
        · refine lv_aload_n hx hb d_Model_due_23 rfl (lv_at hl 0 rfl) ?_
          refine va_get (D := (dC, dI)) (ci := 2) (v := .ref (bd 3)) (C := R_Model) (T := F_Model) (N := 12) hx hb hq iw_M hown hK hP 0 rfl rfl 8 (by decide) (hq _ qm_0) (fun _ h9 => h9) rfl d_Model_due_24 ?_
          refine lv_iload hx hb d_Model_due_27 (lv_at hl 4 rfl) ?_
          refine g_ild (D := (dC, dI)) hx hb hK hP 3 0 rfl rfl (i := n) hi (by decide) d_Model_due_29 ?_
          refine lv_if_le (tgt := 60) hx hb d_Model_due_30 (by decide) (fun c_4 => ?_) (fun c_4 => ?_)
          · refine lv_iload_n hx hb d_Model_due_60 rfl (lv_at hl 3 rfl) ?_
            refine lv_istore_n (lv' := [(3, .int x), (0, .ref (bd 0)), (1, .int tick), (2, .int fr), (4, .int (nI n))]) hx hb d_Model_due_61 rfl hl (by decide) rfl (fun ls hl => ?_)
            refine lv_iinc (v := (nI n + (-1))) (lv' := [(4, .int (nI n + (-1))), (3, .int x), (0, .ref (bd 0)), (1, .int tick), (2, .int fr)]) hx hb d_Model_due_62 hl (k := 4) rfl rfl (by decide) rfl (fun ls hl => ?_)
            refine lv_goto (tgt := 12) hx hb d_Model_due_65 (by decide) ?_
            exact ih x (by omega) (by rw [hres]; simp only [mDue, if_neg c_3, if_pos c_4]) ls (lv_sub hl [2, 3, 4, 1, 0] rfl)
          · refine lv_aload_n hx hb d_Model_due_33 rfl (lv_at hl 0 rfl) ?_
            refine va_get (D := (dC, dI)) (ci := 2) (v := .ref (bd 4)) (C := R_Model) (T := F_Model) (N := 12) hx hb hq iw_M hown hK hP 0 rfl rfl 9 (by decide) (hq _ qm_16) (fun _ h9 => h9) rfl d_Model_due_34 ?_
            refine lv_iload hx hb d_Model_due_37 (lv_at hl 4 rfl) ?_
            refine g_zld (D := (dC, dI)) hx hb hK hP 4 1 rfl rfl (i := n) hi (by decide) d_Model_due_39 ?_
            refine lv_if_eq (tgt := 60) hx hb d_Model_due_40 (by decide) (fun c_5 => ?_) (fun c_5 => ?_)
            · refine lv_iload_n hx hb d_Model_due_60 rfl (lv_at hl 3 rfl) ?_
              refine lv_istore_n (lv' := [(3, .int x), (0, .ref (bd 0)), (1, .int tick), (2, .int fr), (4, .int (nI n))]) hx hb d_Model_due_61 rfl hl (by decide) rfl (fun ls hl => ?_)
              refine lv_iinc (v := (nI n + (-1))) (lv' := [(4, .int (nI n + (-1))), (3, .int x), (0, .ref (bd 0)), (1, .int tick), (2, .int fr)]) hx hb d_Model_due_62 hl (k := 4) rfl rfl (by decide) rfl (fun ls hl => ?_)
              refine lv_goto (tgt := 12) hx hb d_Model_due_65 (by decide) ?_
              exact ih x (by omega) (by rw [hres]; simp only [mDue, if_neg c_3, if_neg c_4, if_pos c_5]) ls (lv_sub hl [2, 3, 4, 1, 0] rfl)
            · refine lv_iload_n hx hb d_Model_due_43 rfl (lv_at hl 1 rfl) ?_
              refine lv_aload_n hx hb d_Model_due_44 rfl (lv_at hl 0 rfl) ?_
              refine va_get (D := (dC, dI)) (ci := 2) (v := .ref (bd 3)) (C := R_Model) (T := F_Model) (N := 12) hx hb hq iw_M hown hK hP 0 rfl rfl 8 (by decide) (hq _ qm_0) (fun _ h9 => h9) rfl d_Model_due_45 ?_
              refine lv_iload hx hb d_Model_due_48 (lv_at hl 4 rfl) ?_
              refine g_ild (D := (dC, dI)) hx hb hK hP 3 0 rfl rfl (i := n) hi (by decide) d_Model_due_50 ?_
              refine lv_irem hx hb d_Model_due_51 (fun h0 => c_4 (by rw [h0]; decide)) ?_
              refine lv_if_ne (tgt := 60) hx hb d_Model_due_52 (by decide) (fun c_6 => ?_) (fun c_6 => ?_)
              · refine lv_iload_n hx hb d_Model_due_60 rfl (lv_at hl 3 rfl) ?_
                refine lv_istore_n (lv' := [(3, .int x), (0, .ref (bd 0)), (1, .int tick), (2, .int fr), (4, .int (nI n))]) hx hb d_Model_due_61 rfl hl (by decide) rfl (fun ls hl => ?_)
                refine lv_iinc (v := (nI n + (-1))) (lv' := [(4, .int (nI n + (-1))), (3, .int x), (0, .ref (bd 0)), (1, .int tick), (2, .int fr)]) hx hb d_Model_due_62 hl (k := 4) rfl rfl (by decide) rfl (fun ls hl => ?_)
                refine lv_goto (tgt := 12) hx hb d_Model_due_65 (by decide) ?_
                exact ih x (by omega) (by rw [hres]; simp only [mDue, if_neg c_3, if_neg c_4, if_neg c_5, if_neg c_6]) ls (lv_sub hl [2, 3, 4, 1, 0] rfl)
              · refine lv_iload hx hb d_Model_due_55 (lv_at hl 4 rfl) ?_
                refine lv_goto (tgt := 61) hx hb d_Model_due_57 (by decide) ?_
                refine lv_istore_n (lv' := [(3, .int (nI n)), (0, .ref (bd 0)), (1, .int tick), (2, .int fr), (4, .int (nI n))]) hx hb d_Model_due_61 rfl hl (by decide) rfl (fun ls hl => ?_)
                refine lv_iinc (v := (nI n + (-1))) (lv' := [(4, .int (nI n + (-1))), (3, .int (nI n)), (0, .ref (bd 0)), (1, .int tick), (2, .int fr)]) hx hb d_Model_due_62 hl (k := 4) rfl rfl (by decide) rfl (fun ls hl => ?_)
                refine lv_goto (tgt := 12) hx hb d_Model_due_65 (by decide) ?_
                exact ih ((nI n)) (by omega) (by rw [hres]; simp only [mDue, if_neg c_3, if_neg c_4, if_neg c_5, if_pos c_6]) ls (lv_sub hl [2, 3, 4, 1, 0] rfl)
  exact key 256 (-1) (by omega) rfl ls (lv_sub hl [2, 3, 4, 1, 0] rfl)
set_option maxHeartbeats 4000000 in
set_option maxRecDepth 100000 in
theorem c_Model_parameter (l : Launch) (dC : Nat → ClassId) (dI : Nat → Nat → Nat) (bd : Nat → Nat) (sz : Nat) (cI cZ : ClassId) (j ac tx ev on mn pm : Nat → Int32) (id k0 : Int32) (hmn : ∀ d, d < 256 → (mn d).toInt ≤ 8) : Met l y_Model_parameter w_Model_parameter ({ frames := 1, cells := 0, slots := 0, locals := 21 }) (va_Pc [.ref (bd 0), .int id, .int k0] (gP (dC, dI) classes (tyM cI cZ) (wM bd cI cZ j ac tx ev on mn pm) sz)) (va_Qi (fun r (_ : Unit) => r = (mPaR ev mn pm id k0)) (fun _ t => gB (dC, dI) classes (va_A (wM bd cI cZ j ac tx ev on mn pm) sz) (wM bd cI cZ ((upd j 0 0)) ac tx ev on mn pm) t) (va_A (wM bd cI cZ j ac tx ev on mn pm) sz)) 0 0 (va_A (wM bd cI cZ j ac tx ev on mn pm) sz) := by
  refine Met.ofW (cc := b_Model_parameter) (maxL := 3) (ret := (some .int)) (by decide) rfl ?_
  intro p e s m args below meth c s₁ B hml hv
  obtain ⟨rfl, hsz, hP, hK, hD0, hN⟩ := hv
  have hx := B.exec
  have hb := B.bytes
  have hrt := B.returns
  have hq : ∀ w ∈ wAll, w.before ([.ref (bd 0), .int id, .int k0] : List Value).toArray s = true := fun w h => atoms_spec (ws := w_Model_parameter) B.pre w (List.mem_cons_of_mem _ h)
  have hown : s.vm.findClass R_Model = some m.cls := findClass_of_methodNamed B.named
  have hlocks := B.notSynchronized
  subst hsz
  have hD := hD0.self (sz := s.heap.size)
  generalize hAe : va_A (wM bd cI cZ j ac tx ev on mn pm) s.heap.size = A at hD ⊢
  have hA : ∀ q : Nat, s.heap.size ≤ q → A q := fun q h => by rw [← hAe]; exact Or.inr h
  have hS : va_S A s.heap s.heap [] := va_S.rf
  have hl := lv_entry ([.ref (bd 0), .int id, .int k0]) (n := 3) (Nat.le_of_ble_eq_true rfl)
  rw [lg_entry_eq]
  generalize (lg_sl ([.ref (bd 0), .int id, .int k0]) ++ List.replicate (3 - (lg_sl ([.ref (bd 0), .int id, .int k0])).length) Slot.unset).toArray = ls at hl ⊢
  have hl : lv_has ls 3 [(0, .ref (bd 0)), (1, .int id), (2, .int k0)] := hl
  refine lv_aload_n hx hb d_Model_parameter_0 rfl (lv_at hl 0 rfl) ?_
  refine lv_iconst (v := 0) hx hb d_Model_parameter_1 (by decide) ?_
  refine va_put (D := (dC, dI)) (ci := 2) (v := .int 0) (ty := .int) (C := R_Model) (T := F_Model) (N := 12) hx hb hq iw_M t_Model t_Model_ok n_Model hown hK hP hD hS 0 rfl rfl 0 (by decide) (hq _ qm_4) (fun _ h9 => h9) rfl (by decide +kernel) rfl rfl (Nat.le_of_ble_eq_true rfl) d_Model_parameter_2 (fun H locs hP hD hS => ?_)
  have hP : va_P (dC, dI) classes (wM bd cI cZ ((upd j 0 0)) ac tx ev on mn pm) H := hP
  have hD : va_D A (wM bd cI cZ ((upd j 0 0)) ac tx ev on mn pm) := hD
  refine lv_aload_n hx hb d_Model_parameter_5 rfl (lv_at hl 0 rfl) ?_
  refine lv_iload_n hx hb d_Model_parameter_6 rfl (lv_at hl 1 rfl) ?_
  refine vp_callSi (va_Run.run (va_runV (As := [.int id]) (rest := []) ⟨hx, hb, hml, hown, hq⟩ (c_Model_isThere l dC dI bd H.size cI cZ ((upd j 0 0)) ac tx ev on mn pm id) ⟨callB_of 1 hq (gd m_Model_isThere) rfl rfl rfl (hq _ qm_5) (hq _ qm_19) (by decide +kernel) ⟨Nat.le_of_ble_eq_true rfl, Nat.le_of_ble_eq_true rfl⟩, (hq _ qm_20), (hq _ qm_21)⟩ ⟨g_blind, va_recv hK hP (ci := 2) (q0 := 0) rfl rfl, g_pre hP hK hD hN⟩ rfl rfl hl.1 rfl (lv_room (Nat.le_of_ble_eq_true rfl)) d_Model_parameter_7 ⟨Nat.zero_le _, Nat.zero_le _⟩)) (fun r hr => ?_)
  subst hr
  refine lv_if_eq (tgt := 28) hx hb d_Model_parameter_10 (by decide) (fun c_1 => ?_) (fun c_1 => ?_)
  · refine lv_iconst (v := (-1)) hx hb d_Model_parameter_28 (by decide) ?_
    have hP9 : va_P (dC, dI) classes (wM bd cI cZ ((upd j 0 0)) ac tx ev on mn pm) H := by exact hP
    have hD9 : va_D A (wM bd cI cZ ((upd j 0 0)) ac tx ev on mn pm) := by exact hD
    exact W.iret (v := (-1)) hx hb hrt (fun t ht hW => ⟨⟨(-1), (), rfl, (by simp only [mPaR, if_pos c_1] <;> rfl), by rw [ht]; exact hP9, hD9⟩, hS.F ht⟩) hS.2.2 d_Model_parameter_29
  · refine lv_iload_n hx hb d_Model_parameter_13 rfl (lv_at hl 2 rfl) ?_
    refine lv_iconst (v := (-1)) hx hb d_Model_parameter_14 (by decide) ?_
    refine lv_icmp_lt (tgt := 28) hx hb d_Model_parameter_15 (by decide) (fun c_2 => ?_) (fun c_2 => ?_)
    · refine lv_iconst (v := (-1)) hx hb d_Model_parameter_28 (by decide) ?_
      have hP9 : va_P (dC, dI) classes (wM bd cI cZ ((upd j 0 0)) ac tx ev on mn pm) H := by exact hP
      have hD9 : va_D A (wM bd cI cZ ((upd j 0 0)) ac tx ev on mn pm) := by exact hD
      exact W.iret (v := (-1)) hx hb hrt (fun t ht hW => ⟨⟨(-1), (), rfl, (by simp only [mPaR, if_neg c_1, if_pos c_2] <;> rfl), by rw [ht]; exact hP9, hD9⟩, hS.F ht⟩) hS.2.2 d_Model_parameter_29
    · refine lv_iload_n hx hb d_Model_parameter_18 rfl (lv_at hl 2 rfl) ?_
      refine lv_aload_n hx hb d_Model_parameter_19 rfl (lv_at hl 0 rfl) ?_
      refine va_get (D := (dC, dI)) (ci := 2) (v := .ref (bd 5)) (C := R_Model) (T := F_Model) (N := 12) hx hb hq iw_M hown hK hP 0 rfl rfl 10 (by decide) (hq _ qm_17) (fun _ h9 => h9) rfl d_Model_parameter_20 ?_
      refine lv_iload_n hx hb d_Model_parameter_23 rfl (lv_at hl 1 rfl) ?_
      refine va_iald (D := (dC, dI)) hx hb hK hP 5 0 rfl rfl (mTh_in c_1) d_Model_parameter_24 ?_
      refine lv_icmp_lt (tgt := 30) hx hb d_Model_parameter_25 (by decide) (fun c_3 => ?_) (fun c_3 => ?_)
      · refine lv_iload_n hx hb d_Model_parameter_30 rfl (lv_at hl 2 rfl) ?_
        refine lv_if_ge (tgt := 43) hx hb d_Model_parameter_31 (by decide) (fun c_4 => ?_) (fun c_4 => ?_)
        · refine lv_aload_n hx hb d_Model_parameter_43 rfl (lv_at hl 0 rfl) ?_
          refine va_get (D := (dC, dI)) (ci := 2) (v := .ref (bd 6)) (C := R_Model) (T := F_Model) (N := 12) hx hb hq iw_M hown hK hP 0 rfl rfl 11 (by decide) (hq _ qm_18) (fun _ h9 => h9) rfl d_Model_parameter_44 ?_
          refine lv_bipush (v := 8) hx hb d_Model_parameter_47 (by decide) ?_
          refine lv_iload_n hx hb d_Model_parameter_49 rfl (lv_at hl 1 rfl) ?_
          refine lv_imul hx hb d_Model_parameter_50 ?_
          refine lv_iload_n hx hb d_Model_parameter_51 rfl (lv_at hl 2 rfl) ?_
          refine lv_iadd hx hb d_Model_parameter_52 ?_
          refine va_iald (D := (dC, dI)) hx hb hK hP 6 0 rfl rfl (m_ix (hmn _ (vp_lt (mTh_in c_1))) (mTh_in c_1) c_4 c_3) d_Model_parameter_53 ?_
          have hP9 : va_P (dC, dI) classes (wM bd cI cZ ((upd j 0 0)) ac tx ev on mn pm) H := by exact hP
          have hD9 : va_D A (wM bd cI cZ ((upd j 0 0)) ac tx ev on mn pm) := by exact hD
          exact W.iret (v := (pm (((8 * id) + k0)).toNatClampNeg)) hx hb hrt (fun t ht hW => ⟨⟨(pm (((8 * id) + k0)).toNatClampNeg), (), rfl, (by simp only [mPaR, if_neg c_1, if_neg c_2, if_pos c_3, if_pos c_4] <;> rfl), by rw [ht]; exact hP9, hD9⟩, hS.F ht⟩) hS.2.2 d_Model_parameter_54
        · refine lv_aload_n hx hb d_Model_parameter_34 rfl (lv_at hl 0 rfl) ?_
          refine va_get (D := (dC, dI)) (ci := 2) (v := .ref (bd 5)) (C := R_Model) (T := F_Model) (N := 12) hx hb hq iw_M hown hK hP 0 rfl rfl 10 (by decide) (hq _ qm_17) (fun _ h9 => h9) rfl d_Model_parameter_35 ?_
          refine lv_iload_n hx hb d_Model_parameter_38 rfl (lv_at hl 1 rfl) ?_
          refine va_iald (D := (dC, dI)) hx hb hK hP 5 0 rfl rfl (mTh_in c_1) d_Model_parameter_39 ?_
          refine lv_goto (tgt := 54) hx hb d_Model_parameter_40 (by decide) ?_
          have hP9 : va_P (dC, dI) classes (wM bd cI cZ ((upd j 0 0)) ac tx ev on mn pm) H := by exact hP
          have hD9 : va_D A (wM bd cI cZ ((upd j 0 0)) ac tx ev on mn pm) := by exact hD
          exact W.iret (v := (mn id.toNatClampNeg)) hx hb hrt (fun t ht hW => ⟨⟨(mn id.toNatClampNeg), (), rfl, (by simp only [mPaR, if_neg c_1, if_neg c_2, if_pos c_3, if_neg c_4] <;> rfl), by rw [ht]; exact hP9, hD9⟩, hS.F ht⟩) hS.2.2 d_Model_parameter_54
      · refine lv_iconst (v := (-1)) hx hb d_Model_parameter_28 (by decide) ?_
        have hP9 : va_P (dC, dI) classes (wM bd cI cZ ((upd j 0 0)) ac tx ev on mn pm) H := by exact hP
        have hD9 : va_D A (wM bd cI cZ ((upd j 0 0)) ac tx ev on mn pm) := by exact hD
        exact W.iret (v := (-1)) hx hb hrt (fun t ht hW => ⟨⟨(-1), (), rfl, (by simp only [mPaR, if_neg c_1, if_neg c_2, if_neg c_3] <;> rfl), by rw [ht]; exact hP9, hD9⟩, hS.F ht⟩) hS.2.2 d_Model_parameter_29
set_option maxHeartbeats 4000000 in
set_option maxRecDepth 100000 in
theorem c_Model_value (l : Launch) (dC : Nat → ClassId) (dI : Nat → Nat → Nat) (bd : Nat → Nat) (sz : Nat) (cI cZ : ClassId) (j ac tx ev on mn pm : Nat → Int32) (x : Int32) : Met l y_Model_value w_Model_value ({ frames := 1, cells := 0, slots := 0, locals := 22 }) (va_Pc [.ref (bd 0), .int x] (gP (dC, dI) classes (tyM cI cZ) (wM bd cI cZ j ac tx ev on mn pm) sz)) (va_Qi (fun r (_ : Unit) => r = (mVaR j ac ev x)) (fun _ t => gB (dC, dI) classes (va_A (wM bd cI cZ j ac tx ev on mn pm) sz) (wM bd cI cZ ((upd j 0 0)) ac tx ev on mn pm) t) (va_A (wM bd cI cZ j ac tx ev on mn pm) sz)) 0 0 (va_A (wM bd cI cZ j ac tx ev on mn pm) sz) := by
  refine Met.ofW (cc := b_Model_value) (maxL := 2) (ret := (some .int)) (by decide) rfl ?_
  intro p e s m args below meth c s₁ B hml hv
  obtain ⟨rfl, hsz, hP, hK, hD0, hN⟩ := hv
  have hx := B.exec
  have hb := B.bytes
  have hrt := B.returns
  have hq : ∀ w ∈ wAll, w.before ([.ref (bd 0), .int x] : List Value).toArray s = true := fun w h => atoms_spec (ws := w_Model_value) B.pre w (List.mem_cons_of_mem _ h)
  have hown : s.vm.findClass R_Model = some m.cls := findClass_of_methodNamed B.named
  have hlocks := B.notSynchronized
  subst hsz
  have hD := hD0.self (sz := s.heap.size)
  generalize hAe : va_A (wM bd cI cZ j ac tx ev on mn pm) s.heap.size = A at hD ⊢
  have hA : ∀ q : Nat, s.heap.size ≤ q → A q := fun q h => by rw [← hAe]; exact Or.inr h
  have hS : va_S A s.heap s.heap [] := va_S.rf
  have hl := lv_entry ([.ref (bd 0), .int x]) (n := 2) (Nat.le_of_ble_eq_true rfl)
  rw [lg_entry_eq]
  generalize (lg_sl ([.ref (bd 0), .int x]) ++ List.replicate (2 - (lg_sl ([.ref (bd 0), .int x])).length) Slot.unset).toArray = ls at hl ⊢
  have hl : lv_has ls 2 [(0, .ref (bd 0)), (1, .int x)] := hl
  refine lv_aload_n hx hb d_Model_value_0 rfl (lv_at hl 0 rfl) ?_
  refine lv_iconst (v := 0) hx hb d_Model_value_1 (by decide) ?_
  refine va_put (D := (dC, dI)) (ci := 2) (v := .int 0) (ty := .int) (C := R_Model) (T := F_Model) (N := 12) hx hb hq iw_M t_Model t_Model_ok n_Model hown hK hP hD hS 0 rfl rfl 0 (by decide) (hq _ qm_4) (fun _ h9 => h9) rfl (by decide +kernel) rfl rfl (Nat.le_of_ble_eq_true rfl) d_Model_value_2 (fun H locs hP hD hS => ?_)
  have hP : va_P (dC, dI) classes (wM bd cI cZ ((upd j 0 0)) ac tx ev on mn pm) H := hP
  have hD : va_D A (wM bd cI cZ ((upd j 0 0)) ac tx ev on mn pm) := hD
  refine lv_iload_n hx hb d_Model_value_5 rfl (lv_at hl 1 rfl) ?_
  refine lv_if_lt (tgt := 22) hx hb d_Model_value_6 (by decide) (fun c_1 => ?_) (fun c_1 => ?_)
  · refine lv_iload_n hx hb d_Model_value_22 rfl (lv_at hl 1 rfl) ?_
    refine lv_bipush (v := 8) hx hb d_Model_value_23 (by decide) ?_
    refine lv_icmp_ne (tgt := 35) hx hb d_Model_value_25 (by decide) (fun c_2 => ?_) (fun c_2 => ?_)
    · refine lv_iload_n hx hb d_Model_value_35 rfl (lv_at hl 1 rfl) ?_
      refine lv_bipush (v := 9) hx hb d_Model_value_36 (by decide) ?_
      refine lv_icmp_ne (tgt := 59) hx hb d_Model_value_38 (by decide) (fun c_3 => ?_) (fun c_3 => ?_)
      · refine lv_iload_n hx hb d_Model_value_59 rfl (lv_at hl 1 rfl) ?_
        refine lv_bipush (v := 10) hx hb d_Model_value_60 (by decide) ?_
        refine lv_icmp_ne (tgt := 72) hx hb d_Model_value_62 (by decide) (fun c_4 => ?_) (fun c_4 => ?_)
        · refine lv_iload_n hx hb d_Model_value_72 rfl (lv_at hl 1 rfl) ?_
          refine lv_bipush (v := 11) hx hb d_Model_value_73 (by decide) ?_
          refine lv_icmp_ne (tgt := 85) hx hb d_Model_value_75 (by decide) (fun c_5 => ?_) (fun c_5 => ?_)
          · refine lv_iconst (v := 0) hx hb d_Model_value_85 (by decide) ?_
            have hP9 : va_P (dC, dI) classes (wM bd cI cZ ((upd j 0 0)) ac tx ev on mn pm) H := by exact hP
            have hD9 : va_D A (wM bd cI cZ ((upd j 0 0)) ac tx ev on mn pm) := by exact hD
            exact W.iret (v := 0) hx hb hrt (fun t ht hW => ⟨⟨0, (), rfl, (by simp only [mVaR, if_pos c_1, if_neg c_2, if_neg c_3, if_neg c_4, if_neg c_5] <;> rfl), by rw [ht]; exact hP9, hD9⟩, hS.F ht⟩) hS.2.2 d_Model_value_86
          · refine lv_aload_n hx hb d_Model_value_78 rfl (lv_at hl 0 rfl) ?_
            refine vp_callSi (va_Run.run (va_runV (As := []) (rest := []) ⟨hx, hb, hml, hown, hq⟩ (c_Model_forms l dC dI bd H.size cI cZ ((upd j 0 0)) ac tx ev on mn pm ) ⟨callB_of 0 hq (gd m_Model_forms) rfl rfl rfl (hq _ qm_5) (hq _ qm_13) (by decide +kernel) ⟨Nat.le_of_ble_eq_true rfl, Nat.le_of_ble_eq_true rfl⟩, (hq _ qm_14), (hq _ qm_15)⟩ ⟨g_blind, va_recv hK hP (ci := 2) (q0 := 0) rfl rfl, g_pre hP hK hD hN⟩ rfl rfl hl.1 rfl (lv_room (Nat.le_of_ble_eq_true rfl)) d_Model_value_79 ⟨Nat.zero_le _, Nat.zero_le _⟩)) (fun r hr => ?_)
            subst hr
            refine lv_goto (tgt := 86) hx hb d_Model_value_82 (by decide) ?_
            have hP9 : va_P (dC, dI) classes (wM bd cI cZ ((upd j 0 0)) ac tx ev on mn pm) H := by exact hP
            have hD9 : va_D A (wM bd cI cZ ((upd j 0 0)) ac tx ev on mn pm) := by exact hD
            exact W.iret (v := (mCnt ev 256 0 0)) hx hb hrt (fun t ht hW => ⟨⟨(mCnt ev 256 0 0), (), rfl, (by simp only [mVaR, if_pos c_1, if_neg c_2, if_neg c_3, if_neg c_4, if_pos c_5] <;> rfl), by rw [ht]; exact hP9, hD9⟩, hS.F ht⟩) hS.2.2 d_Model_value_86
        · refine lv_aload_n hx hb d_Model_value_65 rfl (lv_at hl 0 rfl) ?_
          refine va_get (D := (dC, dI)) (ci := 2) (v := .int (j 5)) (C := R_Model) (T := F_Model) (N := 12) hx hb hq iw_M hown hK hP 0 rfl rfl 5 (by decide) (hq _ qm_2) (fun _ h9 => h9) rfl d_Model_value_66 ?_
          refine lv_goto (tgt := 86) hx hb d_Model_value_69 (by decide) ?_
          have hP9 : va_P (dC, dI) classes (wM bd cI cZ ((upd j 0 0)) ac tx ev on mn pm) H := by exact hP
          have hD9 : va_D A (wM bd cI cZ ((upd j 0 0)) ac tx ev on mn pm) := by exact hD
          exact W.iret (v := (j 5)) hx hb hrt (fun t ht hW => ⟨⟨(j 5), (), rfl, (by simp only [mVaR, if_pos c_1, if_neg c_2, if_neg c_3, if_pos c_4] <;> rfl), by rw [ht]; exact hP9, hD9⟩, hS.F ht⟩) hS.2.2 d_Model_value_86
      · refine lv_aload_n hx hb d_Model_value_41 rfl (lv_at hl 0 rfl) ?_
        refine va_get (D := (dC, dI)) (ci := 2) (v := .int (j 3)) (C := R_Model) (T := F_Model) (N := 12) hx hb hq iw_M hown hK hP 0 rfl rfl 3 (by decide) (hq _ qm_9) (fun _ h9 => h9) rfl d_Model_value_42 ?_
        refine lv_if_eq (tgt := 55) hx hb d_Model_value_45 (by decide) (fun c_6 => ?_) (fun c_6 => ?_)
        · refine lv_iconst (v := (-1)) hx hb d_Model_value_55 (by decide) ?_
          refine lv_goto (tgt := 86) hx hb d_Model_value_56 (by decide) ?_
          have hP9 : va_P (dC, dI) classes (wM bd cI cZ ((upd j 0 0)) ac tx ev on mn pm) H := by exact hP
          have hD9 : va_D A (wM bd cI cZ ((upd j 0 0)) ac tx ev on mn pm) := by exact hD
          exact W.iret (v := (-1)) hx hb hrt (fun t ht hW => ⟨⟨(-1), (), rfl, (by simp only [mVaR, if_pos c_1, if_neg c_2, if_pos c_3, if_pos c_6] <;> rfl), by rw [ht]; exact hP9, hD9⟩, hS.F ht⟩) hS.2.2 d_Model_value_86
        · refine lv_aload_n hx hb d_Model_value_48 rfl (lv_at hl 0 rfl) ?_
          refine va_get (D := (dC, dI)) (ci := 2) (v := .int (j 4)) (C := R_Model) (T := F_Model) (N := 12) hx hb hq iw_M hown hK hP 0 rfl rfl 4 (by decide) (hq _ qm_10) (fun _ h9 => h9) rfl d_Model_value_49 ?_
          refine lv_goto (tgt := 86) hx hb d_Model_value_52 (by decide) ?_
          have hP9 : va_P (dC, dI) classes (wM bd cI cZ ((upd j 0 0)) ac tx ev on mn pm) H := by exact hP
          have hD9 : va_D A (wM bd cI cZ ((upd j 0 0)) ac tx ev on mn pm) := by exact hD
          exact W.iret (v := (j 4)) hx hb hrt (fun t ht hW => ⟨⟨(j 4), (), rfl, (by simp only [mVaR, if_pos c_1, if_neg c_2, if_pos c_3, if_neg c_6] <;> rfl), by rw [ht]; exact hP9, hD9⟩, hS.F ht⟩) hS.2.2 d_Model_value_86
    · refine lv_aload_n hx hb d_Model_value_28 rfl (lv_at hl 0 rfl) ?_
      refine va_get (D := (dC, dI)) (ci := 2) (v := .int (j 1)) (C := R_Model) (T := F_Model) (N := 12) hx hb hq iw_M hown hK hP 0 rfl rfl 1 (by decide) (hq _ qm_1) (fun _ h9 => h9) rfl d_Model_value_29 ?_
      refine lv_goto (tgt := 86) hx hb d_Model_value_32 (by decide) ?_
      have hP9 : va_P (dC, dI) classes (wM bd cI cZ ((upd j 0 0)) ac tx ev on mn pm) H := by exact hP
      have hD9 : va_D A (wM bd cI cZ ((upd j 0 0)) ac tx ev on mn pm) := by exact hD
      exact W.iret (v := (j 1)) hx hb hrt (fun t ht hW => ⟨⟨(j 1), (), rfl, (by simp only [mVaR, if_pos c_1, if_pos c_2] <;> rfl), by rw [ht]; exact hP9, hD9⟩, hS.F ht⟩) hS.2.2 d_Model_value_86
  · refine lv_iload_n hx hb d_Model_value_9 rfl (lv_at hl 1 rfl) ?_
    refine lv_bipush (v := 8) hx hb d_Model_value_10 (by decide) ?_
    refine lv_icmp_ge (tgt := 22) hx hb d_Model_value_12 (by decide) (fun c_7 => ?_) (fun c_7 => ?_)
    · refine lv_iload_n hx hb d_Model_value_22 rfl (lv_at hl 1 rfl) ?_
      refine lv_bipush (v := 8) hx hb d_Model_value_23 (by decide) ?_
      refine lv_icmp_ne (tgt := 35) hx hb d_Model_value_25 (by decide) (fun c_8 => ?_) (fun c_8 => ?_)
      · refine lv_iload_n hx hb d_Model_value_35 rfl (lv_at hl 1 rfl) ?_
        refine lv_bipush (v := 9) hx hb d_Model_value_36 (by decide) ?_
        refine lv_icmp_ne (tgt := 59) hx hb d_Model_value_38 (by decide) (fun c_9 => ?_) (fun c_9 => ?_)
        · refine lv_iload_n hx hb d_Model_value_59 rfl (lv_at hl 1 rfl) ?_
          refine lv_bipush (v := 10) hx hb d_Model_value_60 (by decide) ?_
          refine lv_icmp_ne (tgt := 72) hx hb d_Model_value_62 (by decide) (fun c_10 => ?_) (fun c_10 => ?_)
          · refine lv_iload_n hx hb d_Model_value_72 rfl (lv_at hl 1 rfl) ?_
            refine lv_bipush (v := 11) hx hb d_Model_value_73 (by decide) ?_
            refine lv_icmp_ne (tgt := 85) hx hb d_Model_value_75 (by decide) (fun c_11 => ?_) (fun c_11 => ?_)
            · refine lv_iconst (v := 0) hx hb d_Model_value_85 (by decide) ?_
              have hP9 : va_P (dC, dI) classes (wM bd cI cZ ((upd j 0 0)) ac tx ev on mn pm) H := by exact hP
              have hD9 : va_D A (wM bd cI cZ ((upd j 0 0)) ac tx ev on mn pm) := by exact hD
              exact W.iret (v := 0) hx hb hrt (fun t ht hW => ⟨⟨0, (), rfl, (by simp only [mVaR, if_neg c_1, if_pos c_7, if_neg c_8, if_neg c_9, if_neg c_10, if_neg c_11] <;> rfl), by rw [ht]; exact hP9, hD9⟩, hS.F ht⟩) hS.2.2 d_Model_value_86
            · refine lv_aload_n hx hb d_Model_value_78 rfl (lv_at hl 0 rfl) ?_
              refine vp_callSi (va_Run.run (va_runV (As := []) (rest := []) ⟨hx, hb, hml, hown, hq⟩ (c_Model_forms l dC dI bd H.size cI cZ ((upd j 0 0)) ac tx ev on mn pm ) ⟨callB_of 0 hq (gd m_Model_forms) rfl rfl rfl (hq _ qm_5) (hq _ qm_13) (by decide +kernel) ⟨Nat.le_of_ble_eq_true rfl, Nat.le_of_ble_eq_true rfl⟩, (hq _ qm_14), (hq _ qm_15)⟩ ⟨g_blind, va_recv hK hP (ci := 2) (q0 := 0) rfl rfl, g_pre hP hK hD hN⟩ rfl rfl hl.1 rfl (lv_room (Nat.le_of_ble_eq_true rfl)) d_Model_value_79 ⟨Nat.zero_le _, Nat.zero_le _⟩)) (fun r hr => ?_)
              subst hr
              refine lv_goto (tgt := 86) hx hb d_Model_value_82 (by decide) ?_
              have hP9 : va_P (dC, dI) classes (wM bd cI cZ ((upd j 0 0)) ac tx ev on mn pm) H := by exact hP
              have hD9 : va_D A (wM bd cI cZ ((upd j 0 0)) ac tx ev on mn pm) := by exact hD
              exact W.iret (v := (mCnt ev 256 0 0)) hx hb hrt (fun t ht hW => ⟨⟨(mCnt ev 256 0 0), (), rfl, (by simp only [mVaR, if_neg c_1, if_pos c_7, if_neg c_8, if_neg c_9, if_neg c_10, if_pos c_11] <;> rfl), by rw [ht]; exact hP9, hD9⟩, hS.F ht⟩) hS.2.2 d_Model_value_86
          · refine lv_aload_n hx hb d_Model_value_65 rfl (lv_at hl 0 rfl) ?_
            refine va_get (D := (dC, dI)) (ci := 2) (v := .int (j 5)) (C := R_Model) (T := F_Model) (N := 12) hx hb hq iw_M hown hK hP 0 rfl rfl 5 (by decide) (hq _ qm_2) (fun _ h9 => h9) rfl d_Model_value_66 ?_
            refine lv_goto (tgt := 86) hx hb d_Model_value_69 (by decide) ?_
            have hP9 : va_P (dC, dI) classes (wM bd cI cZ ((upd j 0 0)) ac tx ev on mn pm) H := by exact hP
            have hD9 : va_D A (wM bd cI cZ ((upd j 0 0)) ac tx ev on mn pm) := by exact hD
            exact W.iret (v := (j 5)) hx hb hrt (fun t ht hW => ⟨⟨(j 5), (), rfl, (by simp only [mVaR, if_neg c_1, if_pos c_7, if_neg c_8, if_neg c_9, if_pos c_10] <;> rfl), by rw [ht]; exact hP9, hD9⟩, hS.F ht⟩) hS.2.2 d_Model_value_86
        · refine lv_aload_n hx hb d_Model_value_41 rfl (lv_at hl 0 rfl) ?_
          refine va_get (D := (dC, dI)) (ci := 2) (v := .int (j 3)) (C := R_Model) (T := F_Model) (N := 12) hx hb hq iw_M hown hK hP 0 rfl rfl 3 (by decide) (hq _ qm_9) (fun _ h9 => h9) rfl d_Model_value_42 ?_
          refine lv_if_eq (tgt := 55) hx hb d_Model_value_45 (by decide) (fun c_12 => ?_) (fun c_12 => ?_)
          · refine lv_iconst (v := (-1)) hx hb d_Model_value_55 (by decide) ?_
            refine lv_goto (tgt := 86) hx hb d_Model_value_56 (by decide) ?_
            have hP9 : va_P (dC, dI) classes (wM bd cI cZ ((upd j 0 0)) ac tx ev on mn pm) H := by exact hP
            have hD9 : va_D A (wM bd cI cZ ((upd j 0 0)) ac tx ev on mn pm) := by exact hD
            exact W.iret (v := (-1)) hx hb hrt (fun t ht hW => ⟨⟨(-1), (), rfl, (by simp only [mVaR, if_neg c_1, if_pos c_7, if_neg c_8, if_pos c_9, if_pos c_12] <;> rfl), by rw [ht]; exact hP9, hD9⟩, hS.F ht⟩) hS.2.2 d_Model_value_86
          · refine lv_aload_n hx hb d_Model_value_48 rfl (lv_at hl 0 rfl) ?_
            refine va_get (D := (dC, dI)) (ci := 2) (v := .int (j 4)) (C := R_Model) (T := F_Model) (N := 12) hx hb hq iw_M hown hK hP 0 rfl rfl 4 (by decide) (hq _ qm_10) (fun _ h9 => h9) rfl d_Model_value_49 ?_
            refine lv_goto (tgt := 86) hx hb d_Model_value_52 (by decide) ?_
            have hP9 : va_P (dC, dI) classes (wM bd cI cZ ((upd j 0 0)) ac tx ev on mn pm) H := by exact hP
            have hD9 : va_D A (wM bd cI cZ ((upd j 0 0)) ac tx ev on mn pm) := by exact hD
            exact W.iret (v := (j 4)) hx hb hrt (fun t ht hW => ⟨⟨(j 4), (), rfl, (by simp only [mVaR, if_neg c_1, if_pos c_7, if_neg c_8, if_pos c_9, if_neg c_12] <;> rfl), by rw [ht]; exact hP9, hD9⟩, hS.F ht⟩) hS.2.2 d_Model_value_86
      · refine lv_aload_n hx hb d_Model_value_28 rfl (lv_at hl 0 rfl) ?_
        refine va_get (D := (dC, dI)) (ci := 2) (v := .int (j 1)) (C := R_Model) (T := F_Model) (N := 12) hx hb hq iw_M hown hK hP 0 rfl rfl 1 (by decide) (hq _ qm_1) (fun _ h9 => h9) rfl d_Model_value_29 ?_
        refine lv_goto (tgt := 86) hx hb d_Model_value_32 (by decide) ?_
        have hP9 : va_P (dC, dI) classes (wM bd cI cZ ((upd j 0 0)) ac tx ev on mn pm) H := by exact hP
        have hD9 : va_D A (wM bd cI cZ ((upd j 0 0)) ac tx ev on mn pm) := by exact hD
        exact W.iret (v := (j 1)) hx hb hrt (fun t ht hW => ⟨⟨(j 1), (), rfl, (by simp only [mVaR, if_neg c_1, if_pos c_7, if_pos c_8] <;> rfl), by rw [ht]; exact hP9, hD9⟩, hS.F ht⟩) hS.2.2 d_Model_value_86
    · refine lv_aload_n hx hb d_Model_value_15 rfl (lv_at hl 0 rfl) ?_
      refine va_get (D := (dC, dI)) (ci := 2) (v := .ref (bd 1)) (C := R_Model) (T := F_Model) (N := 12) hx hb hq iw_M hown hK hP 0 rfl rfl 2 (by decide) (hq _ qm_3) (fun _ h9 => h9) rfl d_Model_value_16 ?_
      refine lv_iload_n hx hb d_Model_value_19 rfl (lv_at hl 1 rfl) ?_
      refine va_iald (D := (dC, dI)) hx hb hK hP 1 0 rfl rfl (m_in (N := 8) (by decide) c_1 c_7) d_Model_value_20 ?_
      have hP9 : va_P (dC, dI) classes (wM bd cI cZ ((upd j 0 0)) ac tx ev on mn pm) H := by exact hP
      have hD9 : va_D A (wM bd cI cZ ((upd j 0 0)) ac tx ev on mn pm) := by exact hD
      exact W.iret (v := (ac x.toNatClampNeg)) hx hb hrt (fun t ht hW => ⟨⟨(ac x.toNatClampNeg), (), rfl, (by simp only [mVaR, if_neg c_1, if_neg c_7] <;> rfl), by rw [ht]; exact hP9, hD9⟩, hS.F ht⟩) hS.2.2 d_Model_value_21
set_option maxHeartbeats 4000000 in
set_option maxRecDepth 100000 in
theorem c_Model_about (l : Launch) (dC : Nat → ClassId) (dI : Nat → Nat → Nat) (bd : Nat → Nat) (sz : Nat) (cI cZ : ClassId) (j ac tx ev on mn pm : Nat → Int32) (id x : Int32) : Met l y_Model_about w_Model_about ({ frames := 1, cells := 0, slots := 0, locals := 21 }) (va_Pc [.ref (bd 0), .int id, .int x] (gP (dC, dI) classes (tyM cI cZ) (wM bd cI cZ j ac tx ev on mn pm) sz)) (va_Qi (fun r (_ : Unit) => r = (mAbR ev on id x)) (fun _ t => gB (dC, dI) classes (va_A (wM bd cI cZ j ac tx ev on mn pm) sz) (wM bd cI cZ ((upd j 0 0)) ac tx ev on mn pm) t) (va_A (wM bd cI cZ j ac tx ev on mn pm) sz)) 0 0 (va_A (wM bd cI cZ j ac tx ev on mn pm) sz) := by
  refine Met.ofW (cc := b_Model_about) (maxL := 3) (ret := (some .int)) (by decide) rfl ?_
  intro p e s m args below meth c s₁ B hml hv
  obtain ⟨rfl, hsz, hP, hK, hD0, hN⟩ := hv
  have hx := B.exec
  have hb := B.bytes
  have hrt := B.returns
  have hq : ∀ w ∈ wAll, w.before ([.ref (bd 0), .int id, .int x] : List Value).toArray s = true := fun w h => atoms_spec (ws := w_Model_about) B.pre w (List.mem_cons_of_mem _ h)
  have hown : s.vm.findClass R_Model = some m.cls := findClass_of_methodNamed B.named
  have hlocks := B.notSynchronized
  subst hsz
  have hD := hD0.self (sz := s.heap.size)
  generalize hAe : va_A (wM bd cI cZ j ac tx ev on mn pm) s.heap.size = A at hD ⊢
  have hA : ∀ q : Nat, s.heap.size ≤ q → A q := fun q h => by rw [← hAe]; exact Or.inr h
  have hS : va_S A s.heap s.heap [] := va_S.rf
  have hl := lv_entry ([.ref (bd 0), .int id, .int x]) (n := 3) (Nat.le_of_ble_eq_true rfl)
  rw [lg_entry_eq]
  generalize (lg_sl ([.ref (bd 0), .int id, .int x]) ++ List.replicate (3 - (lg_sl ([.ref (bd 0), .int id, .int x])).length) Slot.unset).toArray = ls at hl ⊢
  have hl : lv_has ls 3 [(0, .ref (bd 0)), (1, .int id), (2, .int x)] := hl
  refine lv_aload_n hx hb d_Model_about_0 rfl (lv_at hl 0 rfl) ?_
  refine lv_iconst (v := 0) hx hb d_Model_about_1 (by decide) ?_
  refine va_put (D := (dC, dI)) (ci := 2) (v := .int 0) (ty := .int) (C := R_Model) (T := F_Model) (N := 12) hx hb hq iw_M t_Model t_Model_ok n_Model hown hK hP hD hS 0 rfl rfl 0 (by decide) (hq _ qm_4) (fun _ h9 => h9) rfl (by decide +kernel) rfl rfl (Nat.le_of_ble_eq_true rfl) d_Model_about_2 (fun H locs hP hD hS => ?_)
  have hP : va_P (dC, dI) classes (wM bd cI cZ ((upd j 0 0)) ac tx ev on mn pm) H := hP
  have hD : va_D A (wM bd cI cZ ((upd j 0 0)) ac tx ev on mn pm) := hD
  refine lv_aload_n hx hb d_Model_about_5 rfl (lv_at hl 0 rfl) ?_
  refine lv_iload_n hx hb d_Model_about_6 rfl (lv_at hl 1 rfl) ?_
  refine vp_callSi (va_Run.run (va_runV (As := [.int id]) (rest := []) ⟨hx, hb, hml, hown, hq⟩ (c_Model_isThere l dC dI bd H.size cI cZ ((upd j 0 0)) ac tx ev on mn pm id) ⟨callB_of 1 hq (gd m_Model_isThere) rfl rfl rfl (hq _ qm_5) (hq _ qm_19) (by decide +kernel) ⟨Nat.le_of_ble_eq_true rfl, Nat.le_of_ble_eq_true rfl⟩, (hq _ qm_20), (hq _ qm_21)⟩ ⟨g_blind, va_recv hK hP (ci := 2) (q0 := 0) rfl rfl, g_pre hP hK hD hN⟩ rfl rfl hl.1 rfl (lv_room (Nat.le_of_ble_eq_true rfl)) d_Model_about_7 ⟨Nat.zero_le _, Nat.zero_le _⟩)) (fun r hr => ?_)
  subst hr
  refine lv_if_ne (tgt := 17) hx hb d_Model_about_10 (by decide) (fun c_1 => ?_) (fun c_1 => ?_)
  · refine lv_iload_n hx hb d_Model_about_17 rfl (lv_at hl 2 rfl) ?_
    refine lv_if_ne (tgt := 30) hx hb d_Model_about_18 (by decide) (fun c_2 => ?_) (fun c_2 => ?_)
    · refine lv_iload_n hx hb d_Model_about_30 rfl (lv_at hl 2 rfl) ?_
      refine lv_iconst (v := 1) hx hb d_Model_about_31 (by decide) ?_
      refine lv_icmp_ne (tgt := 52) hx hb d_Model_about_32 (by decide) (fun c_3 => ?_) (fun c_3 => ?_)
      · refine lv_iconst (v := (-1)) hx hb d_Model_about_52 (by decide) ?_
        have hP9 : va_P (dC, dI) classes (wM bd cI cZ ((upd j 0 0)) ac tx ev on mn pm) H := by exact hP
        have hD9 : va_D A (wM bd cI cZ ((upd j 0 0)) ac tx ev on mn pm) := by exact hD
        exact W.iret (v := (-1)) hx hb hrt (fun t ht hW => ⟨⟨(-1), (), rfl, (by simp only [mAbR, if_neg c_1, if_neg c_2, if_neg c_3] <;> rfl), by rw [ht]; exact hP9, hD9⟩, hS.F ht⟩) hS.2.2 d_Model_about_53
      · refine lv_aload_n hx hb d_Model_about_35 rfl (lv_at hl 0 rfl) ?_
        refine va_get (D := (dC, dI)) (ci := 2) (v := .ref (bd 4)) (C := R_Model) (T := F_Model) (N := 12) hx hb hq iw_M hown hK hP 0 rfl rfl 9 (by decide) (hq _ qm_16) (fun _ h9 => h9) rfl d_Model_about_36 ?_
        refine lv_iload_n hx hb d_Model_about_39 rfl (lv_at hl 1 rfl) ?_
        refine va_zald (D := (dC, dI)) hx hb hK hP 4 1 rfl rfl (mTh_in c_1) d_Model_about_40 ?_
        refine lv_if_eq (tgt := 48) hx hb d_Model_about_41 (by decide) (fun c_4 => ?_) (fun c_4 => ?_)
        · refine lv_iconst (v := 0) hx hb d_Model_about_48 (by decide) ?_
          refine lv_goto (tgt := 53) hx hb d_Model_about_49 (by decide) ?_
          have hP9 : va_P (dC, dI) classes (wM bd cI cZ ((upd j 0 0)) ac tx ev on mn pm) H := by exact hP
          have hD9 : va_D A (wM bd cI cZ ((upd j 0 0)) ac tx ev on mn pm) := by exact hD
          exact W.iret (v := 0) hx hb hrt (fun t ht hW => ⟨⟨0, (), rfl, (by simp only [mAbR, if_neg c_1, if_neg c_2, if_pos c_3, if_pos c_4] <;> rfl), by rw [ht]; exact hP9, hD9⟩, hS.F ht⟩) hS.2.2 d_Model_about_53
        · refine lv_iconst (v := 1) hx hb d_Model_about_44 (by decide) ?_
          refine lv_goto (tgt := 53) hx hb d_Model_about_45 (by decide) ?_
          have hP9 : va_P (dC, dI) classes (wM bd cI cZ ((upd j 0 0)) ac tx ev on mn pm) H := by exact hP
          have hD9 : va_D A (wM bd cI cZ ((upd j 0 0)) ac tx ev on mn pm) := by exact hD
          exact W.iret (v := 1) hx hb hrt (fun t ht hW => ⟨⟨1, (), rfl, (by simp only [mAbR, if_neg c_1, if_neg c_2, if_pos c_3, if_neg c_4] <;> rfl), by rw [ht]; exact hP9, hD9⟩, hS.F ht⟩) hS.2.2 d_Model_about_53
    · refine lv_aload_n hx hb d_Model_about_21 rfl (lv_at hl 0 rfl) ?_
      refine va_get (D := (dC, dI)) (ci := 2) (v := .ref (bd 3)) (C := R_Model) (T := F_Model) (N := 12) hx hb hq iw_M hown hK hP 0 rfl rfl 8 (by decide) (hq _ qm_0) (fun _ h9 => h9) rfl d_Model_about_22 ?_
      refine lv_iload_n hx hb d_Model_about_25 rfl (lv_at hl 1 rfl) ?_
      refine va_iald (D := (dC, dI)) hx hb hK hP 3 0 rfl rfl (mTh_in c_1) d_Model_about_26 ?_
      refine lv_goto (tgt := 53) hx hb d_Model_about_27 (by decide) ?_
      have hP9 : va_P (dC, dI) classes (wM bd cI cZ ((upd j 0 0)) ac tx ev on mn pm) H := by exact hP
      have hD9 : va_D A (wM bd cI cZ ((upd j 0 0)) ac tx ev on mn pm) := by exact hD
      exact W.iret (v := (ev id.toNatClampNeg)) hx hb hrt (fun t ht hW => ⟨⟨(ev id.toNatClampNeg), (), rfl, (by simp only [mAbR, if_neg c_1, if_pos c_2] <;> rfl), by rw [ht]; exact hP9, hD9⟩, hS.F ht⟩) hS.2.2 d_Model_about_53
  · refine lv_iconst (v := (-1)) hx hb d_Model_about_13 (by decide) ?_
    refine lv_goto (tgt := 53) hx hb d_Model_about_14 (by decide) ?_
    have hP9 : va_P (dC, dI) classes (wM bd cI cZ ((upd j 0 0)) ac tx ev on mn pm) H := by exact hP
    have hD9 : va_D A (wM bd cI cZ ((upd j 0 0)) ac tx ev on mn pm) := by exact hD
    exact W.iret (v := (-1)) hx hb hrt (fun t ht hW => ⟨⟨(-1), (), rfl, (by simp only [mAbR, if_pos c_1] <;> rfl), by rw [ht]; exact hP9, hD9⟩, hS.F ht⟩) hS.2.2 d_Model_about_53
end
section
set_option maxHeartbeats 4000000 in
set_option maxRecDepth 100000 in
theorem c_Model_init (l : Launch) (dC : Nat → ClassId) (dI : Nat → Nat → Nat) (h0 : Nat) (sz : Nat) (cI : ClassId) : Met l y_Model_init w_Model_init ({ frames := 1, cells := 6, slots := 2832, locals := 12 }) (va_Pc [.ref h0] (gP (dC, dI) classes [(cI, .int)] [(h0, .inr (2, [.int 0, .int 0, .null, .int 0, .int 0, .int 0, .int 0, .null, .null, .null, .null, .null]))] sz)) (va_Qv (fun (u : (Nat → Nat) × ClassId) => u.1 0 = h0) (fun u t => gB (dC, dI) classes (va_A [(h0, .inr (2, [.int 0, .int 0, .null, .int 0, .int 0, .int 0, .int 0, .null, .null, .null, .null, .null]))] sz) (wM u.1 cI u.2 mJ0 (fun _ => 0) (fun _ => 0) (fun _ => 0) (fun _ => 0) (fun _ => 0) (fun _ => 0)) t ∧ va_K (dC, dI) classes (tyM cI u.2) t) (va_A [(h0, .inr (2, [.int 0, .int 0, .null, .int 0, .int 0, .int 0, .int 0, .null, .null, .null, .null, .null]))] sz)) 6 2832 (va_A [(h0, .inr (2, [.int 0, .int 0, .null, .int 0, .int 0, .int 0, .int 0, .null, .null, .null, .null, .null]))] sz) := by
  refine Met.ofW (cc := b_Model_init) (maxL := 1) (ret := none) (by decide) rfl ?_
  intro p e s m args below meth c s₁ B hml hv
  obtain ⟨rfl, hsz, hP, hK, hD0, hN⟩ := hv
  have hx := B.exec
  have hb := B.bytes
  have hrt := B.returns
  have hq : ∀ w ∈ wAll, w.before ([.ref h0] : List Value).toArray s = true := fun w h => atoms_spec (ws := w_Model_init) B.pre w (List.mem_cons_of_mem _ h)
  have hown : s.vm.findClass R_Model = some m.cls := findClass_of_methodNamed B.named
  have hlocks := B.notSynchronized
  have hin : meth.name = "<init>" := (name_of_methodNamed B.named B.method).1
  subst hsz
  have hD := hD0.self (sz := s.heap.size)
  generalize hAe : va_A [(h0, .inr (2, [.int 0, .int 0, .null, .int 0, .int 0, .int 0, .int 0, .null, .null, .null, .null, .null]))] s.heap.size = A at hD ⊢
  have hA : ∀ q : Nat, s.heap.size ≤ q → A q := fun q h => by rw [← hAe]; exact Or.inr h
  have hS : va_S A s.heap s.heap [] := va_S.rf
  have hP : va_P (dC, dI) classes [(h0, .inr (2, [.int 0, .int 0, .null, .int 0, .int 0, .int 0, .int 0, .null, .null, .null, .null, .null]))] s.heap := hP
  have hl := lv_entry ([.ref h0]) (n := 1) (Nat.le_of_ble_eq_true rfl)
  rw [lg_entry_eq]
  generalize (lg_sl ([.ref h0]) ++ List.replicate (1 - (lg_sl ([.ref h0])).length) Slot.unset).toArray = ls at hl ⊢
  have hl : lv_has ls 1 [(0, .ref h0)] := hl
  refine lv_aload_n hx hb d_Model_init_0 rfl (lv_at hl 0 rfl) ?_
  refine W.objInit hx hb hown (hq _ qm_22) (hq _ qk_32) (hq _ qk_33) rfl (by rw [hml]; exact hl.1) rfl d_Model_init_1 (Nat.le_of_ble_eq_true rfl) (Nat.le_of_ble_eq_true rfl) ?_
  refine W.eq (g2 := F0 m 4 ls []) rfl ?_
  refine lv_aload_n hx hb d_Model_init_4 rfl (lv_at hl 0 rfl) ?_
  refine lv_iconst (v := 1) hx hb d_Model_init_5 (by decide) ?_
  refine va_put (D := (dC, dI)) (ci := 2) (v := .int 1) (ty := .int) (C := R_Model) (T := F_Model) (N := 12) hx hb hq iw_M t_Model t_Model_ok n_Model hown hK hP hD hS 0 rfl rfl 1 (by decide) (hq _ qm_1) (fun _ h9 => h9) rfl (by decide +kernel) rfl rfl (Nat.le_of_ble_eq_true rfl) d_Model_init_6 (fun H locs hP hD hS => ?_)
  have hP : va_P (dC, dI) classes [(h0, .inr (2, [.int 0, .int 1, .null, .int 0, .int 0, .int 0, .int 0, .null, .null, .null, .null, .null]))] H := hP
  have hD : va_D A [(h0, .inr (2, [.int 0, .int 1, .null, .int 0, .int 0, .int 0, .int 0, .null, .null, .null, .null, .null]))] := hD
  refine lv_aload_n hx hb d_Model_init_9 rfl (lv_at hl 0 rfl) ?_
  refine lv_bipush (v := 8) hx hb d_Model_init_10 (by decide) ?_
  refine va_newa (D := (dC, dI)) (atype := .int) (ty := .int) (a0 := (8, .inl (fun _ => 0))) hx hb (hq _ qk_39) rfl hK hP hD hS hA (fun _ => rfl) (by decide) (N' := 8) (by decide) (by decide) (Nat.le_of_ble_eq_true rfl) (Nat.le_of_ble_eq_true rfl) d_Model_init_12 (fun q1 cq1 H hK hP hD hS => ?_)
  obtain rfl : cI = cq1 := g_same hK (i := 0) (j := 1) rfl rfl
  have hK := hK.sub (tys' := [(cI, .int)]) [0] rfl
  refine W.widen (k := 1) (n := 8) (by omega) (by omega) ?_
  have hP : va_P (dC, dI) classes [(h0, .inr (2, [.int 0, .int 1, .null, .int 0, .int 0, .int 0, .int 0, .null, .null, .null, .null, .null])), (q1, .inl (cI, 8, .inl (fun _ => 0)))] H := hP
  have hD : va_D A [(h0, .inr (2, [.int 0, .int 1, .null, .int 0, .int 0, .int 0, .int 0, .null, .null, .null, .null, .null])), (q1, .inl (cI, 8, .inl (fun _ => 0)))] := hD
  refine va_putF (D := (dC, dI)) (ci := 2) (v := .ref q1) (ty := (.array .int)) (C := R_Model) (T := F_Model) (N := 12) hx hb hq iw_M t_Model t_Model_ok n_Model hown hK hP hD hS 0 rfl rfl 2 (by decide) (hq _ qm_3) (fun _ h9 => h9) rfl hin rfl (by decide +kernel) rfl rfl (Nat.le_of_ble_eq_true rfl) d_Model_init_14 (fun H locs hP hD hS => ?_)
  have hP : va_P (dC, dI) classes [(h0, .inr (2, [.int 0, .int 1, .ref q1, .int 0, .int 0, .int 0, .int 0, .null, .null, .null, .null, .null])), (q1, .inl (cI, 8, .inl (fun _ => 0)))] H := hP
  have hD : va_D A [(h0, .inr (2, [.int 0, .int 1, .ref q1, .int 0, .int 0, .int 0, .int 0, .null, .null, .null, .null, .null])), (q1, .inl (cI, 8, .inl (fun _ => 0)))] := hD
  refine lv_aload_n hx hb d_Model_init_17 rfl (lv_at hl 0 rfl) ?_
  refine lv_bipush (v := 8) hx hb d_Model_init_18 (by decide) ?_
  refine va_newa (D := (dC, dI)) (atype := .int) (ty := .int) (a0 := (8, .inl (fun _ => 0))) hx hb (hq _ qk_39) rfl hK hP hD hS hA (fun _ => rfl) (by decide) (N' := 8) (by decide) (by decide) (Nat.le_of_ble_eq_true rfl) (Nat.le_of_ble_eq_true rfl) d_Model_init_20 (fun q2 cq2 H hK hP hD hS => ?_)
  obtain rfl : cI = cq2 := g_same hK (i := 0) (j := 1) rfl rfl
  have hK := hK.sub (tys' := [(cI, .int)]) [0] rfl
  refine W.widen (k := 2) (n := 16) (by omega) (by omega) ?_
  have hP : va_P (dC, dI) classes [(h0, .inr (2, [.int 0, .int 1, .ref q1, .int 0, .int 0, .int 0, .int 0, .null, .null, .null, .null, .null])), (q1, .inl (cI, 8, .inl (fun _ => 0))), (q2, .inl (cI, 8, .inl (fun _ => 0)))] H := hP
  have hD : va_D A [(h0, .inr (2, [.int 0, .int 1, .ref q1, .int 0, .int 0, .int 0, .int 0, .null, .null, .null, .null, .null])), (q1, .inl (cI, 8, .inl (fun _ => 0))), (q2, .inl (cI, 8, .inl (fun _ => 0)))] := hD
  refine va_putF (D := (dC, dI)) (ci := 2) (v := .ref q2) (ty := (.array .int)) (C := R_Model) (T := F_Model) (N := 12) hx hb hq iw_M t_Model t_Model_ok n_Model hown hK hP hD hS 0 rfl rfl 7 (by decide) (hq _ qm_12) (fun _ h9 => h9) rfl hin rfl (by decide +kernel) rfl rfl (Nat.le_of_ble_eq_true rfl) d_Model_init_22 (fun H locs hP hD hS => ?_)
  have hP : va_P (dC, dI) classes [(h0, .inr (2, [.int 0, .int 1, .ref q1, .int 0, .int 0, .int 0, .int 0, .ref q2, .null, .null, .null, .null])), (q1, .inl (cI, 8, .inl (fun _ => 0))), (q2, .inl (cI, 8, .inl (fun _ => 0)))] H := hP
  have hD : va_D A [(h0, .inr (2, [.int 0, .int 1, .ref q1, .int 0, .int 0, .int 0, .int 0, .ref q2, .null, .null, .null, .null])), (q1, .inl (cI, 8, .inl (fun _ => 0))), (q2, .inl (cI, 8, .inl (fun _ => 0)))] := hD
  refine lv_aload_n hx hb d_Model_init_25 rfl (lv_at hl 0 rfl) ?_
  refine lv_sipush (v := 256) hx hb d_Model_init_26 (by decide) ?_
  refine va_newa (D := (dC, dI)) (atype := .int) (ty := .int) (a0 := (256, .inl (fun _ => 0))) hx hb (hq _ qk_39) rfl hK hP hD hS hA (fun _ => rfl) (by decide) (N' := 256) (by decide) (by decide) (Nat.le_of_ble_eq_true rfl) (Nat.le_of_ble_eq_true rfl) d_Model_init_29 (fun q3 cq3 H hK hP hD hS => ?_)
  obtain rfl : cI = cq3 := g_same hK (i := 0) (j := 1) rfl rfl
  have hK := hK.sub (tys' := [(cI, .int)]) [0] rfl
  refine W.widen (k := 3) (n := 272) (by omega) (by omega) ?_
  have hP : va_P (dC, dI) classes [(h0, .inr (2, [.int 0, .int 1, .ref q1, .int 0, .int 0, .int 0, .int 0, .ref q2, .null, .null, .null, .null])), (q1, .inl (cI, 8, .inl (fun _ => 0))), (q2, .inl (cI, 8, .inl (fun _ => 0))), (q3, .inl (cI, 256, .inl (fun _ => 0)))] H := hP
  have hD : va_D A [(h0, .inr (2, [.int 0, .int 1, .ref q1, .int 0, .int 0, .int 0, .int 0, .ref q2, .null, .null, .null, .null])), (q1, .inl (cI, 8, .inl (fun _ => 0))), (q2, .inl (cI, 8, .inl (fun _ => 0))), (q3, .inl (cI, 256, .inl (fun _ => 0)))] := hD
  refine va_putF (D := (dC, dI)) (ci := 2) (v := .ref q3) (ty := (.array .int)) (C := R_Model) (T := F_Model) (N := 12) hx hb hq iw_M t_Model t_Model_ok n_Model hown hK hP hD hS 0 rfl rfl 8 (by decide) (hq _ qm_0) (fun _ h9 => h9) rfl hin rfl (by decide +kernel) rfl rfl (Nat.le_of_ble_eq_true rfl) d_Model_init_31 (fun H locs hP hD hS => ?_)
  have hP : va_P (dC, dI) classes [(h0, .inr (2, [.int 0, .int 1, .ref q1, .int 0, .int 0, .int 0, .int 0, .ref q2, .ref q3, .null, .null, .null])), (q1, .inl (cI, 8, .inl (fun _ => 0))), (q2, .inl (cI, 8, .inl (fun _ => 0))), (q3, .inl (cI, 256, .inl (fun _ => 0)))] H := hP
  have hD : va_D A [(h0, .inr (2, [.int 0, .int 1, .ref q1, .int 0, .int 0, .int 0, .int 0, .ref q2, .ref q3, .null, .null, .null])), (q1, .inl (cI, 8, .inl (fun _ => 0))), (q2, .inl (cI, 8, .inl (fun _ => 0))), (q3, .inl (cI, 256, .inl (fun _ => 0)))] := hD
  refine lv_aload_n hx hb d_Model_init_34 rfl (lv_at hl 0 rfl) ?_
  refine lv_sipush (v := 256) hx hb d_Model_init_35 (by decide) ?_
  refine va_newa (D := (dC, dI)) (atype := .boolean) (ty := .boolean) (a0 := (256, .inl (fun _ => 0))) hx hb (hq _ qm_23) rfl hK hP hD hS hA (fun _ => rfl) (by decide) (N' := 256) (by decide) (by decide) (Nat.le_of_ble_eq_true rfl) (Nat.le_of_ble_eq_true rfl) d_Model_init_38 (fun q4 cZ H hK hP hD hS => ?_)
  refine W.widen (k := 4) (n := 528) (by omega) (by omega) ?_
  have hP : va_P (dC, dI) classes [(h0, .inr (2, [.int 0, .int 1, .ref q1, .int 0, .int 0, .int 0, .int 0, .ref q2, .ref q3, .null, .null, .null])), (q1, .inl (cI, 8, .inl (fun _ => 0))), (q2, .inl (cI, 8, .inl (fun _ => 0))), (q3, .inl (cI, 256, .inl (fun _ => 0))), (q4, .inl (cZ, 256, .inl (fun _ => 0)))] H := hP
  have hD : va_D A [(h0, .inr (2, [.int 0, .int 1, .ref q1, .int 0, .int 0, .int 0, .int 0, .ref q2, .ref q3, .null, .null, .null])), (q1, .inl (cI, 8, .inl (fun _ => 0))), (q2, .inl (cI, 8, .inl (fun _ => 0))), (q3, .inl (cI, 256, .inl (fun _ => 0))), (q4, .inl (cZ, 256, .inl (fun _ => 0)))] := hD
  refine va_putF (D := (dC, dI)) (ci := 2) (v := .ref q4) (ty := (.array .boolean)) (C := R_Model) (T := F_Model) (N := 12) hx hb hq iw_M t_Model t_Model_ok n_Model hown hK hP hD hS 0 rfl rfl 9 (by decide) (hq _ qm_16) (fun _ h9 => h9) rfl hin rfl (by decide +kernel) rfl rfl (Nat.le_of_ble_eq_true rfl) d_Model_init_40 (fun H locs hP hD hS => ?_)
  have hP : va_P (dC, dI) classes [(h0, .inr (2, [.int 0, .int 1, .ref q1, .int 0, .int 0, .int 0, .int 0, .ref q2, .ref q3, .ref q4, .null, .null])), (q1, .inl (cI, 8, .inl (fun _ => 0))), (q2, .inl (cI, 8, .inl (fun _ => 0))), (q3, .inl (cI, 256, .inl (fun _ => 0))), (q4, .inl (cZ, 256, .inl (fun _ => 0)))] H := hP
  have hD : va_D A [(h0, .inr (2, [.int 0, .int 1, .ref q1, .int 0, .int 0, .int 0, .int 0, .ref q2, .ref q3, .ref q4, .null, .null])), (q1, .inl (cI, 8, .inl (fun _ => 0))), (q2, .inl (cI, 8, .inl (fun _ => 0))), (q3, .inl (cI, 256, .inl (fun _ => 0))), (q4, .inl (cZ, 256, .inl (fun _ => 0)))] := hD
  refine lv_aload_n hx hb d_Model_init_43 rfl (lv_at hl 0 rfl) ?_
  refine lv_sipush (v := 256) hx hb d_Model_init_44 (by decide) ?_
  refine va_newa (D := (dC, dI)) (atype := .int) (ty := .int) (a0 := (256, .inl (fun _ => 0))) hx hb (hq _ qk_39) rfl hK hP hD hS hA (fun _ => rfl) (by decide) (N' := 256) (by decide) (by decide) (Nat.le_of_ble_eq_true rfl) (Nat.le_of_ble_eq_true rfl) d_Model_init_47 (fun q5 cq5 H hK hP hD hS => ?_)
  obtain rfl : cI = cq5 := g_same hK (i := 0) (j := 2) rfl rfl
  have hK := hK.sub (tys' := [(cI, .int), (cZ, .boolean)]) [0, 1] rfl
  refine W.widen (k := 5) (n := 784) (by omega) (by omega) ?_
  have hP : va_P (dC, dI) classes [(h0, .inr (2, [.int 0, .int 1, .ref q1, .int 0, .int 0, .int 0, .int 0, .ref q2, .ref q3, .ref q4, .null, .null])), (q1, .inl (cI, 8, .inl (fun _ => 0))), (q2, .inl (cI, 8, .inl (fun _ => 0))), (q3, .inl (cI, 256, .inl (fun _ => 0))), (q4, .inl (cZ, 256, .inl (fun _ => 0))), (q5, .inl (cI, 256, .inl (fun _ => 0)))] H := hP
  have hD : va_D A [(h0, .inr (2, [.int 0, .int 1, .ref q1, .int 0, .int 0, .int 0, .int 0, .ref q2, .ref q3, .ref q4, .null, .null])), (q1, .inl (cI, 8, .inl (fun _ => 0))), (q2, .inl (cI, 8, .inl (fun _ => 0))), (q3, .inl (cI, 256, .inl (fun _ => 0))), (q4, .inl (cZ, 256, .inl (fun _ => 0))), (q5, .inl (cI, 256, .inl (fun _ => 0)))] := hD
  refine va_putF (D := (dC, dI)) (ci := 2) (v := .ref q5) (ty := (.array .int)) (C := R_Model) (T := F_Model) (N := 12) hx hb hq iw_M t_Model t_Model_ok n_Model hown hK hP hD hS 0 rfl rfl 10 (by decide) (hq _ qm_17) (fun _ h9 => h9) rfl hin rfl (by decide +kernel) rfl rfl (Nat.le_of_ble_eq_true rfl) d_Model_init_49 (fun H locs hP hD hS => ?_)
  have hP : va_P (dC, dI) classes [(h0, .inr (2, [.int 0, .int 1, .ref q1, .int 0, .int 0, .int 0, .int 0, .ref q2, .ref q3, .ref q4, .ref q5, .null])), (q1, .inl (cI, 8, .inl (fun _ => 0))), (q2, .inl (cI, 8, .inl (fun _ => 0))), (q3, .inl (cI, 256, .inl (fun _ => 0))), (q4, .inl (cZ, 256, .inl (fun _ => 0))), (q5, .inl (cI, 256, .inl (fun _ => 0)))] H := hP
  have hD : va_D A [(h0, .inr (2, [.int 0, .int 1, .ref q1, .int 0, .int 0, .int 0, .int 0, .ref q2, .ref q3, .ref q4, .ref q5, .null])), (q1, .inl (cI, 8, .inl (fun _ => 0))), (q2, .inl (cI, 8, .inl (fun _ => 0))), (q3, .inl (cI, 256, .inl (fun _ => 0))), (q4, .inl (cZ, 256, .inl (fun _ => 0))), (q5, .inl (cI, 256, .inl (fun _ => 0)))] := hD
  refine lv_aload_n hx hb d_Model_init_52 rfl (lv_at hl 0 rfl) ?_
  refine lv_sipush (v := 2048) hx hb d_Model_init_53 (by decide) ?_
  refine va_newa (D := (dC, dI)) (atype := .int) (ty := .int) (a0 := (2048, .inl (fun _ => 0))) hx hb (hq _ qk_39) rfl hK hP hD hS hA (fun _ => rfl) (by decide) (N' := 2048) (by decide) (by decide) (Nat.le_of_ble_eq_true rfl) (Nat.le_of_ble_eq_true rfl) d_Model_init_56 (fun q6 cq6 H hK hP hD hS => ?_)
  obtain rfl : cI = cq6 := g_same hK (i := 0) (j := 2) rfl rfl
  have hK := hK.sub (tys' := [(cI, .int), (cZ, .boolean)]) [0, 1] rfl
  refine W.widen (k := 6) (n := 2832) (by omega) (by omega) ?_
  have hP : va_P (dC, dI) classes [(h0, .inr (2, [.int 0, .int 1, .ref q1, .int 0, .int 0, .int 0, .int 0, .ref q2, .ref q3, .ref q4, .ref q5, .null])), (q1, .inl (cI, 8, .inl (fun _ => 0))), (q2, .inl (cI, 8, .inl (fun _ => 0))), (q3, .inl (cI, 256, .inl (fun _ => 0))), (q4, .inl (cZ, 256, .inl (fun _ => 0))), (q5, .inl (cI, 256, .inl (fun _ => 0))), (q6, .inl (cI, 2048, .inl (fun _ => 0)))] H := hP
  have hD : va_D A [(h0, .inr (2, [.int 0, .int 1, .ref q1, .int 0, .int 0, .int 0, .int 0, .ref q2, .ref q3, .ref q4, .ref q5, .null])), (q1, .inl (cI, 8, .inl (fun _ => 0))), (q2, .inl (cI, 8, .inl (fun _ => 0))), (q3, .inl (cI, 256, .inl (fun _ => 0))), (q4, .inl (cZ, 256, .inl (fun _ => 0))), (q5, .inl (cI, 256, .inl (fun _ => 0))), (q6, .inl (cI, 2048, .inl (fun _ => 0)))] := hD
  refine va_putF (D := (dC, dI)) (ci := 2) (v := .ref q6) (ty := (.array .int)) (C := R_Model) (T := F_Model) (N := 12) hx hb hq iw_M t_Model t_Model_ok n_Model hown hK hP hD hS 0 rfl rfl 11 (by decide) (hq _ qm_18) (fun _ h9 => h9) rfl hin rfl (by decide +kernel) rfl rfl (Nat.le_of_ble_eq_true rfl) d_Model_init_58 (fun H locs hP hD hS => ?_)
  have hP : va_P (dC, dI) classes [(h0, .inr (2, [.int 0, .int 1, .ref q1, .int 0, .int 0, .int 0, .int 0, .ref q2, .ref q3, .ref q4, .ref q5, .ref q6])), (q1, .inl (cI, 8, .inl (fun _ => 0))), (q2, .inl (cI, 8, .inl (fun _ => 0))), (q3, .inl (cI, 256, .inl (fun _ => 0))), (q4, .inl (cZ, 256, .inl (fun _ => 0))), (q5, .inl (cI, 256, .inl (fun _ => 0))), (q6, .inl (cI, 2048, .inl (fun _ => 0)))] H := hP
  have hD : va_D A [(h0, .inr (2, [.int 0, .int 1, .ref q1, .int 0, .int 0, .int 0, .int 0, .ref q2, .ref q3, .ref q4, .ref q5, .ref q6])), (q1, .inl (cI, 8, .inl (fun _ => 0))), (q2, .inl (cI, 8, .inl (fun _ => 0))), (q3, .inl (cI, 256, .inl (fun _ => 0))), (q4, .inl (cZ, 256, .inl (fun _ => 0))), (q5, .inl (cI, 256, .inl (fun _ => 0))), (q6, .inl (cI, 2048, .inl (fun _ => 0)))] := hD
  obtain ⟨bd, hbd⟩ : ∃ bd : Nat → Nat, bd = fun j => ([h0, q1, q2, q3, q4, q5, q6] : List Nat).getD j 0 := ⟨_, rfl⟩
  have hP9 : va_P (dC, dI) classes (wM bd cI cZ mJ0 (fun _ => 0) (fun _ => 0) (fun _ => 0) (fun _ => 0) (fun _ => 0) (fun _ => 0)) H := by subst hbd; exact hP.sub [0, 1, 2, 3, 4, 5, 6] rfl
  have hD9 : va_D A (wM bd cI cZ mJ0 (fun _ => 0) (fun _ => 0) (fun _ => 0) (fun _ => 0) (fun _ => 0) (fun _ => 0)) := by subst hbd; exact hD.sub [0, 1, 2, 3, 4, 5, 6] (by decide) rfl
  exact W.vret hx hb hrt (fun t ht hW => ⟨⟨(bd, cZ), rfl, by rw [hbd]; rfl, ⟨by rw [ht]; exact hP9, hD9⟩, va_K.moved hW.alike hK⟩, hS.F ht⟩) hS.2.2 d_Model_init_61
end
section
/-! The keeper's places and the reference's rows by id: what ties them. -/
def cnt (f : Nat → Nat) : Nat → Nat → Nat
  | 0, _ => 0
  | n + 1, i => f i + cnt f n (i + 1)
theorem cnt_congr {f g : Nat → Nat} : ∀ {n i : Nat}, (∀ x, i ≤ x → x < i + n → f x = g x) → cnt f n i = cnt g n i := by
  intro n
  induction n with
  | zero => intro i _; rfl
  | succ n ih =>
    intro i h
    show f i + cnt f n (i + 1) = g i + cnt g n (i + 1)
    rw [h i (Nat.le_refl _) (by omega), ih (i := i + 1) (fun x h1 h2 => h x (by omega) (by omega))]
theorem cnt_upd {f g : Nat → Nat} {a : Nat} (h : ∀ x, x ≠ a → f x = g x) : ∀ {n i : Nat}, i ≤ a → a < i + n → cnt g n i + f a = cnt f n i + g a := by
  intro n
  induction n with
  | zero => intro i h1 h2; omega
  | succ n ih =>
    intro i h1 h2
    show (g i + cnt g n (i + 1)) + f a = (f i + cnt f n (i + 1)) + g a
    by_cases e : a = i
    · subst e
      have h3 := cnt_congr (f := f) (g := g) (n := n) (i := a + 1) (fun x hx _ => h x (by omega))
      omega
    · have h3 := ih (i := i + 1) (by omega) (by omega)
      have h4 := h i (by omega)
      omega
def tF (F : Nat → Nat → Int32) : Nat → Nat := fun i => if F i 0 = 0 then 0 else 1
def tE (ev : Nat → Int32) : Nat → Nat := fun d => if ev d ≤ 0 then 0 else 1
theorem tF_le (F : Nat → Nat → Int32) (i : Nat) : tF F i ≤ 1 := by
  unfold tF
  split <;> omega
theorem cntF_le {F : Nat → Nat → Int32} : ∀ {n i : Nat}, cnt (tF F) n i ≤ n := by
  intro n
  induction n with
  | zero => intro i; exact Nat.le_refl _
  | succ n ih =>
    intro i
    show tF F i + cnt (tF F) n (i + 1) ≤ n + 1
    have h1 := tF_le F i
    have h2 := ih (i := i + 1)
    omega
theorem kFree_none {F : Nat → Nat → Int32} : ∀ {n i : Nat}, kFree F n i = none → cnt (tF F) n i = n := by
  intro n
  induction n with
  | zero => intro i _; rfl
  | succ n ih =>
    intro i h
    unfold kFree at h
    by_cases h1 : F i 0 = 0
    · rw [if_pos h1] at h; cases h
    · rw [if_neg h1] at h
      show tF F i + cnt (tF F) n (i + 1) = n + 1
      rw [ih h]
      unfold tF
      rw [if_neg h1]
      omega
theorem mCnt_eq {ev : Nat → Int32} : ∀ (n i : Nat) (x : Int32), mCnt ev n i x = x + nI (cnt (tE ev) n i) := by
  intro n
  induction n with
  | zero => intro i x; show x = x + nI 0; rw [nI_0, Int32.add_zero]
  | succ n ih =>
    intro i x
    show (if ev i ≤ 0 then mCnt ev n (i + 1) (x + 0) else mCnt ev n (i + 1) (x + 1)) = x + nI (tE ev i + cnt (tE ev) n (i + 1))
    by_cases h : ev i ≤ 0
    · rw [if_pos h, ih, Int32.add_zero]
      unfold tE
      rw [if_pos h, Nat.zero_add]
    · rw [if_neg h, ih]
      have e : tE ev i = 1 := by unfold tE; rw [if_neg h]
      rw [e, ← nI_add, Int32.add_assoc]
      rfl
theorem kFind_none {F : Nat → Nat → Int32} {id : Int32} : ∀ {n i : Nat}, kFind F id n i = none → ∀ x, i ≤ x → x < i + n → ¬ F x 0 = 0 → ¬ F x 1 = id := by
  intro n
  induction n with
  | zero => intro i _ x h1 h2; omega
  | succ n ih =>
    intro i h x h1 h2 h3 h4
    unfold kFind at h
    by_cases e : x = i
    · subst e
      rw [if_neg h3, if_pos h4] at h
      cases h
    · by_cases h5 : F i 0 = 0
      · rw [if_pos h5] at h
        exact ih h x (by omega) (by omega) h3 h4
      · rw [if_neg h5] at h
        by_cases h6 : F i 1 = id
        · rw [if_pos h6] at h; cases h
        · rw [if_neg h6] at h
          exact ih h x (by omega) (by omega) h3 h4
theorem up2_s {F : Nat → Nat → Int32} {i j : Nat} {v : Int32} : up2 F i j v i j = v := by
  unfold up2
  rw [if_pos rfl, if_pos rfl]
theorem up2_f {F : Nat → Nat → Int32} {i j a b : Nat} {v : Int32} (h : b ≠ j) : up2 F i j v a b = F a b := by
  unfold up2
  rw [if_neg h]
  split <;> rfl
theorem up2_i {F : Nat → Nat → Int32} {i j a b : Nat} {v : Int32} (h : a ≠ i) : up2 F i j v a b = F a b := by
  unfold up2
  rw [if_neg h]
/-- place i holds what the reference holds of the id d -/
def Fm (F pr : Nat → Nat → Int32) (ev on mn pm : Nat → Int32) (i d : Nat) : Prop := F i 1 = nI d ∧ F i 2 = ev d ∧ ¬ ev d ≤ 0 ∧ F i 3 = on d ∧ F i 4 = mn d ∧ ∃ c : Nat, c ≤ 8 ∧ mn d = nI c ∧ ∀ q : Nat, q < c → pr i q = pm (8 * d + q)
def Rf (k8 : Int32) (F pr : Nat → Nat → Int32) (ev on mn pm : Nat → Int32) : Prop :=
  (∀ i, i < 8 → ¬ F i 0 = 0 → ∃ d, d < 256 ∧ Fm F pr ev on mn pm i d) ∧ (∀ d, d < 256 → ¬ ev d ≤ 0 → ∃ i, i < 8 ∧ ¬ F i 0 = 0 ∧ F i 1 = nI d) ∧ (∀ a b, a < 8 → b < 8 → ¬ F a 0 = 0 → ¬ F b 0 = 0 → F a 1 = F b 1 → a = b) ∧ (∀ i, i < 8 → (F i 4).toInt ≤ 8) ∧ (∀ d, d < 256 → (mn d).toInt ≤ 8) ∧ k8 = nI (cnt (tF F) 8 0) ∧ cnt (tF F) 8 0 = cnt (tE ev) 256 0
theorem mTh_1 {ev : Nat → Int32} {d : Nat} (hd : d < 256) (h : ¬ ev d ≤ 0) : mTh ev (nI d) = 1 := by
  unfold mTh
  rw [if_neg (nI_pos (by omega)), if_neg (show ¬ (256 : Int32) ≤ nI d from nI_ge (b := 256) hd (by decide)), nI_clamp (by omega), if_neg h]
theorem mTh_0 {ev : Nat → Int32} {id : Int32} (h : ¬ mTh ev id = 0) : ∃ d, d < 256 ∧ id = nI d ∧ ¬ ev d ≤ 0 := by
  obtain ⟨d, hd, rfl⟩ := vp_in_of (mTh_in h) (by decide)
  refine ⟨d, hd, rfl, fun z => h ?_⟩
  unfold mTh
  rw [if_neg (nI_pos (by omega)), if_neg (show ¬ (256 : Int32) ≤ nI d from nI_ge (b := 256) hd (by decide)), nI_clamp (by omega), if_pos z]
section REL
variable {k8 : Int32} {F pr : Nat → Nat → Int32} {ev on mn pm : Nat → Int32}
theorem r_find (h : Rf k8 F pr ev on mn pm) (id : Int32) : (kFind F id 8 0 = none ∧ mTh ev id = 0) ∨ ∃ i d : Nat, kFind F id 8 0 = some i ∧ i < 8 ∧ d < 256 ∧ id = nI d ∧ ¬ F i 0 = 0 ∧ mTh ev id = 1 ∧ Fm F pr ev on mn pm i d := by
  obtain ⟨ha, hb, -⟩ := h
  cases hf : kFind F id 8 0 with
  | none =>
    refine Or.inl ⟨rfl, ?_⟩
    by_cases hm : mTh ev id = 0
    · exact hm
    · obtain ⟨d, hd, rfl, he⟩ := mTh_0 hm
      obtain ⟨i, hi, h1, h2⟩ := hb d hd he
      exact absurd h2 (kFind_none hf i (Nat.zero_le _) (by omega) h1)
  | some i =>
    obtain ⟨-, h1, h2, h3⟩ := kFind_some hf
    obtain ⟨d, hd, hm⟩ := ha i (by omega) h2
    have e : id = nI d := by rw [← h3]; exact hm.1
    exact Or.inr ⟨i, d, rfl, by omega, hd, e, h2, by rw [e]; exact mTh_1 hd hm.2.2.1, hm⟩
theorem r_removeR (h : Rf k8 F pr ev on mn pm) (id : Int32) : kReR F id = mReR ev on id := by
  unfold kReR mReR
  rcases r_find h id with ⟨h1, h2⟩ | ⟨i, d, h1, hi, hd, rfl, h3, h2, hm⟩
  · rw [h1, if_pos h2]
  · rw [h1, h2, if_neg (by decide), nI_clamp (by omega)]
    show (if F i 3 = 0 then (0 : Int32) else 15) = _
    rw [hm.2.2.2.1]
theorem r_remove (k : Nat → Int32) (h : Rf (k 8) F pr ev on mn pm) (id : Int32) : Rf (kReK k F id 8) (kReF F id) pr (mReE ev on id) on mn pm := by
  unfold kReK kReF mReE
  rcases r_find h id with ⟨h1, h2⟩ | ⟨i, d, h1, hi, hd, rfl, h3, h2, hm⟩
  · rw [h1, if_pos h2]
    exact h
  · rw [h1, h2, if_neg (by decide), nI_clamp (by omega)]
    show Rf ((if F i 3 = 0 then upd k 8 (k 8 - 1) else k) 8) (if F i 3 = 0 then up2 F i 0 0 else F) pr _ on mn pm
    rw [← hm.2.2.2.1]
    by_cases h0 : F i 3 = 0
    · rw [if_pos h0, if_pos h0, if_pos h0]
      show Rf (k 8 - 1) _ pr _ on mn pm
      obtain ⟨ha, hb, hc, he, hf, hk, hcc⟩ := h
      have hne : ∀ a, ¬ up2 F i 0 0 a 0 = 0 → a ≠ i := fun a z w => z (by rw [w]; exact up2_s)
      have hF : ∀ a b, a ≠ i → up2 F i 0 0 a b = F a b := fun a b w => up2_i w
      have hF1 : ∀ a b, b ≠ 0 → up2 F i 0 0 a b = F a b := fun a b w => up2_f w
      have c1 := cnt_upd (f := tF F) (g := tF (up2 F i 0 0)) (a := i) (fun x hx => by unfold tF; rw [hF x 0 hx]) (n := 8) (i := 0) (Nat.zero_le _) (by omega)
      have c2 := cnt_upd (f := tE ev) (g := tE (upd ev d 0)) (a := d) (fun x hx => by unfold tE; rw [pk_un hx]) (n := 256) (i := 0) (Nat.zero_le _) (by omega)
      have t1 : tF F i = 1 := by unfold tF; rw [if_neg h3]
      have t2 : tF (up2 F i 0 0) i = 0 := by unfold tF; rw [if_pos up2_s]
      have t3 : tE ev d = 1 := by unfold tE; rw [if_neg hm.2.2.1]
      have t4 : tE (upd ev d 0) d = 0 := by unfold tE; rw [pk_us, if_pos (by decide)]
      refine ⟨?_, ?_, ?_, ?_, hf, ?_, by omega⟩
      · intro a ha8 h4
        have hai := hne a h4
        rw [hF a 0 hai] at h4
        obtain ⟨d', hd', hm'⟩ := ha a ha8 h4
        have hdd : d' ≠ d := fun z => hai (hc a i ha8 hi h4 h3 (by rw [hm'.1, hm.1, z]))
        refine ⟨d', hd', ?_⟩
        obtain ⟨m1, m2, m3, m4, m5, m6⟩ := hm'
        refine ⟨by rw [hF a 1 hai]; exact m1, by rw [hF a 2 hai, pk_un hdd]; exact m2, by rw [pk_un hdd]; exact m3, by rw [hF a 3 hai]; exact m4, by rw [hF a 4 hai]; exact m5, m6⟩
      · intro d' hd' h4
        by_cases hdd : d' = d
        · subst hdd
          exact absurd (by rw [pk_us]; decide) h4
        · rw [pk_un hdd] at h4
          obtain ⟨a, ha8, h5, h6⟩ := hb d' hd' h4
          have hai : a ≠ i := fun z => hdd ((nI_eq (by omega) (by omega)).mp (by rw [← h6, z]; exact hm.1))
          exact ⟨a, ha8, by rw [hF a 0 hai]; exact h5, by rw [hF a 1 hai]; exact h6⟩
      · intro a b ha8 hb8 h4 h5 h6
        have hai := hne a h4
        have hbi := hne b h5
        rw [hF a 0 hai] at h4
        rw [hF b 0 hbi] at h5
        rw [hF1 a 1 (by decide), hF1 b 1 (by decide)] at h6
        exact hc a b ha8 hb8 h4 h5 h6
      · intro a ha8
        rw [hF1 a 4 (by decide)]
        exact he a ha8
      · rw [hk, show cnt (tF F) 8 0 = cnt (tF (up2 F i 0 0)) 8 0 + 1 by omega]
        exact nI_pred _
    · rw [if_neg h0, if_neg h0, if_neg h0]
      exact h
theorem r_enableR (h : Rf k8 F pr ev on mn pm) (id : Int32) : kEbR F id = mEbR ev id := by
  unfold kEbR mEbR
  rcases r_find h id with ⟨h1, h2⟩ | ⟨i, d, h1, hi, hd, rfl, h3, h2, hm⟩
  · rw [h1, if_pos h2]
  · rw [h1, h2, if_neg (by decide)]
theorem r_enable (h : Rf k8 F pr ev on mn pm) (id b : Int32) : Rf k8 (kEbF F id b) pr ev (mEbO ev on id b) mn pm := by
  unfold kEbF mEbO
  rcases r_find h id with ⟨h1, h2⟩ | ⟨i, d, h1, hi, hd, rfl, h3, h2, hm⟩
  · rw [h1, if_pos h2]
    exact h
  · rw [h1, h2, if_neg (by decide), nI_clamp (by omega)]
    show Rf k8 (up2 F i 3 b) pr ev (upd on d b) mn pm
    obtain ⟨ha, hb, hc, he, hf, hk, hcc⟩ := h
    have hF : ∀ a b', a ≠ i → up2 F i 3 b a b' = F a b' := fun a b' w => up2_i w
    have hF1 : ∀ a b', b' ≠ 3 → up2 F i 3 b a b' = F a b' := fun a b' w => up2_f w
    have c1 : cnt (tF (up2 F i 3 b)) 8 0 = cnt (tF F) 8 0 := cnt_congr (fun x _ _ => by unfold tF; rw [hF1 x 0 (by decide)])
    refine ⟨?_, ?_, ?_, ?_, hf, by rw [c1]; exact hk, by rw [c1]; exact hcc⟩
    · intro a ha8 h4
      rw [hF1 a 0 (by decide)] at h4
      obtain ⟨d', hd', hm'⟩ := ha a ha8 h4
      refine ⟨d', hd', ?_⟩
      obtain ⟨m1, m2, m3, m4, m5, m6⟩ := hm'
      refine ⟨by rw [hF1 a 1 (by decide)]; exact m1, by rw [hF1 a 2 (by decide)]; exact m2, m3, ?_, by rw [hF1 a 4 (by decide)]; exact m5, m6⟩
      by_cases hai : a = i
      · subst hai
        have hdd : d' = d := (nI_eq (by omega) (by omega)).mp (by rw [← m1]; exact hm.1)
        subst hdd
        rw [up2_s, pk_us]
      · have hdd : d' ≠ d := fun z => hai (hc a i ha8 hi h4 h3 (by rw [m1, hm.1, z]))
        rw [hF a 3 hai, pk_un hdd]
        exact m4
    · intro d' hd' h4
      obtain ⟨a, ha8, h5, h6⟩ := hb d' hd' h4
      exact ⟨a, ha8, by rw [hF1 a 0 (by decide)]; exact h5, by rw [hF1 a 1 (by decide)]; exact h6⟩
    · intro a b' ha8 hb8 h4 h5 h6
      rw [hF1 a 0 (by decide)] at h4
      rw [hF1 b' 0 (by decide)] at h5
      rw [hF1 a 1 (by decide), hF1 b' 1 (by decide)] at h6
      exact hc a b' ha8 hb8 h4 h5 h6
    · intro a ha8
      rw [hF1 a 4 (by decide)]
      exact he a ha8
theorem r_aboutR (h : Rf k8 F pr ev on mn pm) (id w : Int32) : kAbR F id w = mAbR ev on id w := by
  unfold kAbR mAbR
  rcases r_find h id with ⟨h1, h2⟩ | ⟨i, d, h1, hi, hd, rfl, h3, h2, hm⟩
  · rw [h1, if_pos h2]
  · rw [h1, h2, if_neg (by decide), nI_clamp (by omega)]
    show (if w = 0 then F i 2 else if w = 1 then (if F i 3 = 0 then (0 : Int32) else 1) else -1) = _
    rw [hm.2.1, hm.2.2.2.1]
theorem r_parameterR (h : Rf k8 F pr ev on mn pm) (id j : Int32) : kPaR F pr id j = mPaR ev mn pm id j := by
  unfold kPaR mPaR
  rcases r_find h id with ⟨h1, h2⟩ | ⟨i, d, h1, hi, hd, rfl, h3, h2, hm⟩
  · rw [h1, if_pos h2]
  · rw [h1, h2, if_neg (by decide), nI_clamp (by omega)]
    show (if j = -1 then F i 4 else if j < 0 then -1 else if j < F i 4 then pr i j.toNatClampNeg else -1) = _
    obtain ⟨m1, m2, m3, m4, m5, c, hc8, m6, m7⟩ := hm
    rw [m5]
    by_cases e : j = -1
    · subst e
      rw [if_pos rfl, if_neg (by decide), if_pos, if_neg (by decide)]
      rw [m6, Int32.lt_iff_toInt_lt, nI_toInt (by omega)]
      show (-1 : Int) < _
      omega
    · rw [if_neg e]
      by_cases e1 : j < 0
      · rw [if_pos e1, if_pos]
        rw [Int32.lt_iff_toInt_lt] at e1 ⊢
        have e2 : j.toInt ≠ (-1 : Int32).toInt := fun z => e (Int32.toInt_inj.mp z)
        have e3 : (-1 : Int32).toInt = -1 := by decide
        have e4 : (0 : Int32).toInt = 0 := by decide
        omega
      · have hlt : ¬ j < -1 := fun z => e1 (by
          rw [Int32.lt_iff_toInt_lt] at z ⊢
          have e3 : (-1 : Int32).toInt = -1 := by decide
          have e4 : (0 : Int32).toInt = 0 := by decide
          omega)
        rw [if_neg e1, if_neg hlt]
        by_cases e2 : j < mn d
        · rw [if_pos e2, if_pos e2, if_pos (Int32.not_lt.mp e1)]
          obtain ⟨q, hq, rfl⟩ := nI_of e1
          have hqc : q < c := by rw [m6] at e2; exact (nI_ltI hq (by omega)).mp e2
          rw [nI_clamp hq, m7 q hqc, show (8 : Int32) * nI d + nI q = nI (8 * d + q) from by rw [show (8 : Int32) = nI 8 from rfl, pk_mul, nI_add], nI_clamp (by omega)]
        · rw [if_neg e2, if_neg e2]
theorem mCpy_at {tx : Nat → Int32} {b : Nat} : ∀ (n i : Nat) (p : Nat → Int32) (x : Nat), mCpy tx b n i p x = if b + i ≤ x ∧ x < b + i + n then tx (x - b) else p x := by
  intro n
  induction n with
  | zero => intro i p x; rw [if_neg (by omega)]; rfl
  | succ n ih =>
    intro i p x
    show mCpy tx b n (i + 1) (upd p (b + i) (tx i)) x = _
    rw [ih]
    by_cases h1 : x = b + i
    · subst h1
      rw [if_neg (by omega), if_pos (by omega), pk_us, Nat.add_sub_cancel_left]
    · rw [pk_un h1]
      by_cases h2 : b + (i + 1) ≤ x ∧ x < b + (i + 1) + n
      · rw [if_pos h2, if_pos (by omega)]
      · rw [if_neg h2, if_neg (by omega)]
theorem r_failR (k j : Nat → Int32) (h : Rf (k 8) F pr ev on mn pm) (h6 : k 6 = j 6) (id e : Int32) : kFail k F id e = mFail j ev id e := by
  unfold kFail mFail
  rw [h6]
  by_cases c1 : j 6 = 0
  · rw [if_pos c1, if_pos c1]
  · rw [if_neg c1, if_neg c1]
    by_cases c2 : e < 1
    · rw [if_pos c2, if_pos c2]
    · rw [if_neg c2, if_neg c2]
      by_cases c3 : 255 < e
      · rw [if_pos c3, if_pos c3]
      · rw [if_neg c3, if_neg c3]
        by_cases c4 : id < 0
        · rw [if_pos c4, if_pos c4]
        · rw [if_neg c4, if_neg c4]
          by_cases c5 : id ≤ 255
          · rw [if_pos c5, if_pos c5]
            obtain ⟨d, hd, hid⟩ := vp_in_of (m_in2 (n := 256) (N := 255) (by decide) c4 c5) (by decide)
            rcases r_find h id with ⟨h1, h2⟩ | ⟨i, d', h1, hi, hd', hid', h3, h2, hm⟩
            · rw [h1]
              have he : ev id.toNatClampNeg ≤ 0 := by
                by_cases z : ev id.toNatClampNeg ≤ 0
                · exact z
                · rw [hid, nI_clamp (by omega)] at z
                  rw [hid, mTh_1 hd z] at h2
                  exact absurd h2 (by decide)
              rw [if_pos he, mCnt_eq]
              obtain ⟨-, -, -, -, -, hk, hcc⟩ := h
              have hle : cnt (tF F) 8 0 ≤ 8 := cntF_le
              show (if k 8 < 8 then (0 : Int32) else 12) = _
              rw [hk, ← hcc, show (0 : Int32) + nI (cnt (tF F) 8 0) = nI (cnt (tF F) 8 0) from by rw [Int32.zero_add]]
              by_cases c6 : cnt (tF F) 8 0 = 8
              · rw [c6, if_neg (show ¬ nI 8 < (8 : Int32) by decide +kernel), if_pos (show nI 8 = (8 : Int32) from rfl)]
              · rw [if_pos (show nI (cnt (tF F) 8 0) < (8 : Int32) from nI_lt (b := 8) (by omega) (by decide)), if_neg (fun z : nI (cnt (tF F) 8 0) = (8 : Int32) => c6 ((nI_eq (by omega) (by decide)).mp (show nI (cnt (tF F) 8 0) = nI 8 from z)))]
            · have hz : ¬ ev id.toNatClampNeg ≤ 0 := by rw [hid', nI_clamp (by omega)]; exact hm.2.2.1
              rw [h1, if_neg hz]
          · rw [if_neg c5, if_neg c5]
end REL
end
section
section REL2
variable {F pr : Nat → Nat → Int32} {ev on mn pm : Nat → Int32}
/-- what kFail = 0 says -/
theorem kFail_0 {k : Nat → Int32} {id e : Int32} (h : kFail k F id e = 0) : ¬ e < 1 ∧ ¬ id < 0 ∧ id ≤ 255 ∧ kFind F id 8 0 = none ∧ k 8 < 8 := by
  unfold kFail at h
  by_cases c1 : k 6 = 0
  · rw [if_pos c1] at h; exact absurd h (by decide)
  · rw [if_neg c1] at h
    by_cases c2 : e < 1
    · rw [if_pos c2] at h; exact absurd h (by decide)
    · rw [if_neg c2] at h
      by_cases c3 : 255 < e
      · rw [if_pos c3] at h; exact absurd h (by decide)
      · rw [if_neg c3] at h
        by_cases c4 : id < 0
        · rw [if_pos c4] at h; exact absurd h (by decide)
        · rw [if_neg c4] at h
          by_cases c5 : id ≤ 255
          · rw [if_pos c5] at h
            cases hf : kFind F id 8 0 with
            | some i => rw [hf] at h; exact absurd (show (11 : Int32) = 0 from h) (by decide)
            | none =>
              rw [hf] at h
              by_cases c6 : k 8 < 8
              · exact ⟨c2, c4, c5, rfl, c6⟩
              · have h9 : (if k 8 < 8 then (0 : Int32) else 12) = 0 := h
                rw [if_neg c6] at h9
                exact absurd h9 (by decide)
          · rw [if_neg c5] at h; exact absurd h (by decide)
theorem r_form (k j txt tx : Nat → Int32) (h : Rf (k 8) F pr ev on mn pm) (h6 : k 6 = j 6) (ht : txt = tx) {t : Nat} (ht8 : t ≤ 8) (hk6 : k 6 = nI t) (id e : Int32) : Rf (kFoK k F id e 8) (kFoF k F id e) (kFoP k txt F pr id e) (mFoE j ev id e) (mFoO j ev on id e) (mFoN j ev mn id e) (mFoP j tx ev pm id e) := by
  unfold kFoK kFoF kFoP mFoE mFoO mFoN mFoP
  rw [← r_failR k j h h6 id e]
  show Rf ((if kFail k F id e = 0 then kFiK k F else k) 8) _ _ _ _ _ _
  by_cases h0 : kFail k F id e = 0
  · rw [if_pos h0, if_pos h0, if_pos h0, if_pos h0, if_pos h0, if_pos h0, if_pos h0]
    obtain ⟨c2, c4, c5, hfn, c8⟩ := kFail_0 h0
    obtain ⟨d, hd, hid⟩ := vp_in_of (m_in2 (n := 256) (N := 255) (by decide) c4 c5) (by decide)
    obtain ⟨ha, hb, hc, he, hf, hk, hcc⟩ := h
    have hle : cnt (tF F) 8 0 ≤ 8 := cntF_le
    have hlt : cnt (tF F) 8 0 < 8 := (nI_ltI (by omega) (by decide)).mp (show nI (cnt (tF F) 8 0) < nI 8 by rw [← hk]; exact c8)
    cases hfr : kFree F 8 0 with
    | none => exact absurd (kFree_none hfr) (by omega)
    | some i =>
      obtain ⟨-, hi, hi0⟩ := kFree_some hfr
      have hi : i < 8 := by omega
      have hnone : ∀ x, x < 8 → ¬ F x 0 = 0 → ¬ F x 1 = nI d := fun x hx h1 h2 => kFind_none hfn x (Nat.zero_le _) (by omega) h1 (by rw [hid]; exact h2)
      have hev : ev d ≤ 0 := by
        by_cases z : ev d ≤ 0
        · exact z
        · obtain ⟨a, ha8, h1, h2⟩ := hb d hd z
          exact absurd h2 (hnone a ha8 h1)
      have hdc : id.toNatClampNeg = d := by rw [hid]; exact nI_clamp (by omega)
      have htc : (k 6).toNatClampNeg = t := by rw [hk6]; exact nI_clamp (by omega)
      have hjc : (j 6).toNatClampNeg = t := by rw [← h6]; exact htc
      unfold kFiK kFiF kFiP
      rw [hfr, hdc, hjc]
      show Rf (k 8 + 1) (up2 (up2 (up2 (up2 (up2 F i 0 1) i 1 id) i 2 e) i 3 0) i 4 (k 6)) (va_up pr i (va_cpy txt (pr i) 0 0 (k 6).toNatClampNeg)) _ _ _ _
      rw [htc, ← h6]
      generalize hG : up2 (up2 (up2 (up2 (up2 F i 0 1) i 1 id) i 2 e) i 3 0) i 4 (k 6) = G
      have g0 : G i 0 = 1 := by rw [← hG, up2_f (by decide), up2_f (by decide), up2_f (by decide), up2_f (by decide), up2_s]
      have g1 : G i 1 = id := by rw [← hG, up2_f (by decide), up2_f (by decide), up2_f (by decide), up2_s]
      have g2 : G i 2 = e := by rw [← hG, up2_f (by decide), up2_f (by decide), up2_s]
      have g3 : G i 3 = 0 := by rw [← hG, up2_f (by decide), up2_s]
      have g4 : G i 4 = k 6 := by rw [← hG, up2_s]
      have gn : ∀ a b, a ≠ i → G a b = F a b := fun a b w => by rw [← hG, up2_i w, up2_i w, up2_i w, up2_i w, up2_i w]
      have hne1 : ¬ e ≤ 0 := fun z => c2 (by
        rw [Int32.lt_iff_toInt_lt]
        rw [Int32.le_iff_toInt_le] at z
        have e1 : (1 : Int32).toInt = 1 := by decide
        have e0 : (0 : Int32).toInt = 0 := by decide
        omega)
      have c1 := cnt_upd (f := tF F) (g := tF G) (a := i) (fun x hx => by unfold tF; rw [gn x 0 hx]) (n := 8) (i := 0) (Nat.zero_le _) (by omega)
      have c3 := cnt_upd (f := tE ev) (g := tE (upd ev d e)) (a := d) (fun x hx => by unfold tE; rw [pk_un hx]) (n := 256) (i := 0) (Nat.zero_le _) (by omega)
      have t1 : tF F i = 0 := by unfold tF; rw [if_pos hi0]
      have t2 : tF G i = 1 := by unfold tF; rw [g0, if_neg (by decide)]
      have t3 : tE ev d = 0 := by unfold tE; rw [if_pos hev]
      have t4 : tE (upd ev d e) d = 1 := by unfold tE; rw [pk_us, if_neg hne1]
      refine ⟨?_, ?_, ?_, ?_, ?_, ?_, by omega⟩
      · intro a ha8 h4
        by_cases hai : a = i
        · subst hai
          refine ⟨d, hd, by rw [g1]; exact hid, by rw [g2, pk_us], by rw [pk_us]; exact hne1, by rw [g3, pk_us], by rw [g4, pk_us], t, ht8, by rw [pk_us]; exact hk6, ?_⟩
          intro q hq
          rw [va_up_self, pk_cpy_in (Nat.zero_le _) (by omega), mCpy_at, if_pos (by omega), ht]
          rw [show 8 * d + q - 8 * d = q by omega, show 0 + (q - 0) = q by omega]
        · rw [gn a 0 hai] at h4
          obtain ⟨d', hd', m1, m2, m3, m4, m5, c, hc8, m6, m7⟩ := ha a ha8 h4
          have hdd : d' ≠ d := fun z => hnone a ha8 h4 (by rw [m1, z])
          refine ⟨d', hd', by rw [gn a 1 hai]; exact m1, by rw [gn a 2 hai, pk_un hdd]; exact m2, by rw [pk_un hdd]; exact m3, by rw [gn a 3 hai, pk_un hdd]; exact m4, by rw [gn a 4 hai, pk_un hdd]; exact m5, c, hc8, by rw [pk_un hdd]; exact m6, ?_⟩
          intro q hq
          rw [va_up_ne _ _ hai, mCpy_at, if_neg (by omega)]
          exact m7 q hq
      · intro d' hd' h4
        by_cases hdd : d' = d
        · subst hdd
          exact ⟨i, hi, by rw [g0]; decide, by rw [g1]; exact hid⟩
        · rw [pk_un hdd] at h4
          obtain ⟨a, ha8, h5, h7⟩ := hb d' hd' h4
          have hai : a ≠ i := fun z => h5 (by rw [z]; exact hi0)
          exact ⟨a, ha8, by rw [gn a 0 hai]; exact h5, by rw [gn a 1 hai]; exact h7⟩
      · intro a b ha8 hb8 h4 h5 h7
        by_cases hai : a = i
        · by_cases hbi : b = i
          · rw [hai, hbi]
          · rw [gn b 0 hbi] at h5
            rw [hai, g1, gn b 1 hbi] at h7
            exact absurd (by rw [← h7]; exact hid) (hnone b hb8 h5)
        · rw [gn a 0 hai] at h4
          by_cases hbi : b = i
          · rw [hbi, g1, gn a 1 hai] at h7
            exact absurd (by rw [h7]; exact hid) (hnone a ha8 h4)
          · rw [gn b 0 hbi] at h5
            rw [gn a 1 hai, gn b 1 hbi] at h7
            exact hc a b ha8 hb8 h4 h5 h7
      · intro a ha8
        by_cases hai : a = i
        · rw [hai, g4, hk6, nI_toInt (by omega)]
          omega
        · rw [gn a 4 hai]
          exact he a ha8
      · intro d' hd'
        by_cases hdd : d' = d
        · rw [hdd, pk_us, hk6, nI_toInt (by omega)]
          omega
        · rw [pk_un hdd]
          exact hf d' hd'
      · rw [hk, nI_1, show cnt (tF G) 8 0 = cnt (tF F) 8 0 + 1 by omega]
  · rw [if_neg h0, if_neg h0, if_neg h0, if_neg h0, if_neg h0, if_neg h0, if_neg h0]
    exact h
/-- the reference's id d is due -/
def cM (ev on : Nat → Int32) (tick fr : Int32) (d : Nat) : Prop := ¬ nI d < fr ∧ ¬ ev d ≤ 0 ∧ ¬ on d = 0 ∧ tick - tick / ev d * ev d = 0
def cK (F : Nat → Nat → Int32) (tick fr : Int32) (i : Nat) : Prop := ¬ F i 0 = 0 ∧ ¬ F i 3 = 0 ∧ ¬ F i 1 < fr ∧ ¬ kD (F i 2) tick = 0
theorem mDue_none {tick fr : Int32} : ∀ {n : Nat} {x : Int32}, (∀ d, d < n → ¬ cM ev on tick fr d) → mDue ev on tick fr n x = x := by
  intro n
  induction n with
  | zero => intro x _; rfl
  | succ n ih =>
    intro x h
    unfold mDue
    by_cases c1 : nI n < fr
    · rw [if_pos c1]
    · rw [if_neg c1]
      by_cases c2 : ev n ≤ 0
      · rw [if_pos c2]; exact ih (fun d hd => h d (by omega))
      · rw [if_neg c2]
        by_cases c3 : on n = 0
        · rw [if_pos c3]; exact ih (fun d hd => h d (by omega))
        · rw [if_neg c3]
          by_cases c4 : tick - tick / ev n * ev n = 0
          · exact absurd ⟨c1, c2, c3, c4⟩ (h n (by omega))
          · rw [if_neg c4]; exact ih (fun d hd => h d (by omega))
theorem mDue_some {tick fr : Int32} {d : Nat} (hd : cM ev on tick fr d) (hl : ∀ d', d' < d → ¬ cM ev on tick fr d') : ∀ {n : Nat} {x : Int32}, n ≤ 256 → d < n → mDue ev on tick fr n x = nI d := by
  intro n
  induction n with
  | zero => intro x _ h; omega
  | succ n ih =>
    intro x hn h
    unfold mDue
    by_cases e : d = n
    · subst e
      rw [if_neg hd.1, if_neg hd.2.1, if_neg hd.2.2.1, if_pos hd.2.2.2]
      exact mDue_none hl
    · have hdn : d < n := by omega
      by_cases c1 : nI n < fr
      · exact absurd (Int32.lt_trans (nI_lt hdn (by omega)) c1) hd.1
      · rw [if_neg c1]
        by_cases c2 : ev n ≤ 0
        · rw [if_pos c2]; exact ih (by omega) hdn
        · rw [if_neg c2]
          by_cases c3 : on n = 0
          · rw [if_pos c3]; exact ih (by omega) hdn
          · rw [if_neg c3]
            by_cases c4 : tick - tick / ev n * ev n = 0
            · rw [if_pos c4]; exact ih (by omega) hdn
            · rw [if_neg c4]; exact ih (by omega) hdn
theorem kDue_none {tick fr : Int32} : ∀ {n i : Nat} {x : Int32}, (∀ a, i ≤ a → a < i + n → ¬ cK F tick fr a) → kDue F tick fr n i x = x := by
  intro n
  induction n with
  | zero => intro i x _; rfl
  | succ n ih =>
    intro i x h
    have hh : ∀ y, kDue F tick fr n (i + 1) y = y := fun y => ih (fun a h1 h2 => h a (by omega) (by omega))
    unfold kDue
    by_cases c1 : F i 0 = 0
    · rw [if_pos c1]; exact hh x
    · rw [if_neg c1]
      by_cases c2 : F i 3 = 0
      · rw [if_pos c2]; exact hh x
      · rw [if_neg c2]
        by_cases c3 : F i 1 < fr
        · rw [if_pos c3]; exact hh x
        · rw [if_neg c3]
          by_cases c4 : kD (F i 2) tick = 0
          · rw [if_pos c4]; exact hh x
          · exact absurd ⟨c1, c2, c3, c4⟩ (h i (Nat.le_refl _) (by omega))
theorem nI_ne_m1 {d : Nat} (hd : d < 256) : ¬ nI d = -1 := fun z => by
  have h1 := nI_toInt (n := d) (by omega)
  rw [z] at h1
  have h2 : (-1 : Int32).toInt = -1 := by decide
  omega
theorem kDue_some {tick fr : Int32} {d : Nat} (hd : d < 256) : ∀ {n i : Nat} {x : Int32}, (∀ a, i ≤ a → a < i + n → cK F tick fr a → ∃ d', d ≤ d' ∧ d' < 256 ∧ F a 1 = nI d') → (x = nI d ∨ ((x = -1 ∨ ∃ d', d ≤ d' ∧ d' < 256 ∧ x = nI d') ∧ ∃ a, i ≤ a ∧ a < i + n ∧ cK F tick fr a ∧ F a 1 = nI d)) → kDue F tick fr n i x = nI d := by
  intro n
  induction n with
  | zero =>
    intro i x _ h
    rcases h with h | ⟨-, a, h1, h2, -⟩
    · exact h
    · omega
  | succ n ih =>
    intro i x hall h
    have hall' : ∀ a, i + 1 ≤ a → a < i + 1 + n → cK F tick fr a → ∃ d', d ≤ d' ∧ d' < 256 ∧ F a 1 = nI d' := fun a h1 h2 => hall a (by omega) (by omega)
    by_cases hc : cK F tick fr i
    · obtain ⟨c1, c2, c3, c4⟩ := id hc
      obtain ⟨d1, hd1, hd2, hd3⟩ := hall i (Nat.le_refl _) (by omega) hc
      unfold kDue
      rw [if_neg c1, if_neg c2, if_neg c3, if_neg c4]
      rcases h with h | ⟨h, a, h1, h2, h3, h4⟩
      · rw [if_neg (by rw [h]; exact nI_ne_m1 hd), if_pos (by rw [h, hd3]; exact nI_le hd1 (by omega))]
        exact ih hall' (Or.inl h)
      · by_cases e : a = i
        · subst e
          by_cases e1 : x = -1
          · rw [if_pos e1]
            exact ih hall' (Or.inl h4)
          · rw [if_neg e1]
            by_cases e2 : x ≤ F a 1
            · rw [if_pos e2]
              refine ih hall' (Or.inl ?_)
              rcases h with h | ⟨d2, h5, h6, h7⟩
              · exact absurd h e1
              · rw [h7, h4] at e2
                have h8 := (nI_leI (by omega) (by omega)).mp e2
                rw [h7, show d2 = d by omega]
            · rw [if_neg e2]
              exact ih hall' (Or.inl h4)
        · have hrest : ∃ a, i + 1 ≤ a ∧ a < i + 1 + n ∧ cK F tick fr a ∧ F a 1 = nI d := ⟨a, by omega, by omega, h3, h4⟩
          by_cases e1 : x = -1
          · rw [if_pos e1]
            exact ih hall' (Or.inr ⟨Or.inr ⟨d1, hd1, hd2, hd3⟩, hrest⟩)
          · rw [if_neg e1]
            by_cases e2 : x ≤ F i 1
            · rw [if_pos e2]
              exact ih hall' (Or.inr ⟨h, hrest⟩)
            · rw [if_neg e2]
              exact ih hall' (Or.inr ⟨Or.inr ⟨d1, hd1, hd2, hd3⟩, hrest⟩)
    · have h' : x = nI d ∨ ((x = -1 ∨ ∃ d', d ≤ d' ∧ d' < 256 ∧ x = nI d') ∧ ∃ a, i + 1 ≤ a ∧ a < i + 1 + n ∧ cK F tick fr a ∧ F a 1 = nI d) := by
        rcases h with h | ⟨h, a, h1, h2, h3, h4⟩
        · exact Or.inl h
        · refine Or.inr ⟨h, a, ?_, by omega, h3, h4⟩
          rcases Nat.lt_or_ge i a with z | z
          · omega
          · exact absurd (by rw [show i = a by omega]; exact h3) hc
      have hh := ih hall' h'
      unfold kDue
      by_cases c1 : F i 0 = 0
      · rw [if_pos c1]; exact hh
      · rw [if_neg c1]
        by_cases c2 : F i 3 = 0
        · rw [if_pos c2]; exact hh
        · rw [if_neg c2]
          by_cases c3 : F i 1 < fr
          · rw [if_pos c3]; exact hh
          · rw [if_neg c3]
            by_cases c4 : kD (F i 2) tick = 0
            · rw [if_pos c4]; exact hh
            · exact absurd ⟨c1, c2, c3, c4⟩ hc
theorem kD_iff {e t : Int32} (h : ¬ e ≤ 0) : ¬ kD e t = 0 ↔ t - t / e * e = 0 := by
  unfold kD
  rw [if_neg h]
  by_cases c : t - t / e * e = 0
  · rw [if_pos c]; exact ⟨fun _ => c, fun _ => by decide⟩
  · rw [if_neg c]; exact ⟨fun z => absurd rfl z, fun z => absurd z c⟩
theorem r_dueR {k8 : Int32} (h : Rf k8 F pr ev on mn pm) (tick fr : Int32) : kDue F tick fr 8 0 (-1) = mDue ev on tick fr 256 (-1) := by
  obtain ⟨ha, hb, hc, -⟩ := h
  have hKM : ∀ i, i < 8 → cK F tick fr i → ∃ d, d < 256 ∧ F i 1 = nI d ∧ cM ev on tick fr d := by
    intro i hi hk
    obtain ⟨d, hd, m1, m2, m3, m4, -⟩ := ha i hi hk.1
    exact ⟨d, hd, m1, by rw [← m1]; exact hk.2.2.1, m3, by rw [← m4]; exact hk.2.1, (kD_iff m3).mp (by rw [← m2]; exact hk.2.2.2)⟩
  by_cases hex : ∃ d, d < 256 ∧ cM ev on tick fr d
  · obtain ⟨d, ⟨hd, hm⟩, hl⟩ := pk_least (fun d => d < 256 ∧ cM ev on tick fr d) hex
    rw [mDue_some hm (fun d' hd' hm' => hl d' hd' ⟨by omega, hm'⟩) (Nat.le_refl _) hd]
    obtain ⟨i, hi, h1, h2⟩ := hb d hd hm.2.1
    obtain ⟨d', hd', m1, m2, m3, m4, -⟩ := ha i hi h1
    obtain rfl : d' = d := (nI_eq (by omega) (by omega)).mp (by rw [← m1]; exact h2)
    have hci : cK F tick fr i := ⟨h1, by rw [m4]; exact hm.2.2.1, by rw [m1]; exact hm.1, by rw [m2]; exact (kD_iff m3).mpr hm.2.2.2⟩
    refine kDue_some hd ?_ (Or.inr ⟨Or.inl rfl, i, Nat.zero_le _, by omega, hci, h2⟩)
    intro a _ ha8 hca
    obtain ⟨d2, hd2, h3, h4⟩ := hKM a (by omega) hca
    exact ⟨d2, Nat.not_lt.mp (fun z => hl d2 z ⟨hd2, h4⟩), hd2, h3⟩
  · rw [mDue_none (fun d hd hm => hex ⟨d, hd, hm⟩)]
    refine kDue_none (fun a _ ha8 hca => ?_)
    obtain ⟨d, hd, -, hm⟩ := hKM a (by omega) hca
    exact hex ⟨d, hd, hm⟩
end REL2
end
section
/-- keeper and reference agree -/
def Rl (k act txt : Nat → Int32) (F pr : Nat → Nat → Int32) (j ac tx ev on mn pm : Nat → Int32) : Prop := k 1 = j 1 ∧ k 2 = j 5 ∧ k 3 = j 3 ∧ k 4 = j 4 ∧ k 6 = j 6 ∧ (∃ t : Nat, t ≤ 8 ∧ k 6 = nI t) ∧ act = ac ∧ txt = tx ∧ Rf (k 8) F pr ev on mn pm
section REL3
variable {k act txt : Nat → Int32} {F pr : Nat → Nat → Int32} {j ac tx ev on mn pm : Nat → Int32}
theorem Rl.j0 (h : Rl k act txt F pr j ac tx ev on mn pm) : Rl k act txt F pr (upd j 0 0) ac tx ev on mn pm := h
theorem s_78 {a : Int32} : a ≤ 7 ↔ ¬ 8 ≤ a := by
  rw [Int32.le_iff_toInt_le, Int32.le_iff_toInt_le]
  have e7 : (7 : Int32).toInt = 7 := by decide
  have e8 : (8 : Int32).toInt = 8 := by decide
  omega
theorem kA_neg {a : Int32} (h : a < 0) : kA a = 0 := by unfold kA; rw [if_pos h]
theorem kA_big {a : Int32} (h : 8 ≤ a) : kA a = 0 := by
  unfold kA
  rw [if_pos h]
  split <;> rfl
theorem kA_mid {a : Int32} (h1 : ¬ a < 0) (h2 : ¬ 8 ≤ a) : kA a = 1 := by unfold kA; rw [if_neg h1, if_neg h2]
theorem l_move (h : Rl k act txt F pr j ac tx ev on mn pm) (a v : Int32) : kMvR k a = mMvR j a ∧ Rl k (kMvA k act a v) txt F pr (upd j 0 0) (mMvA j ac a v) tx ev on mn pm := by
  obtain ⟨h1, h2, h3, h4, h5, h6, h7, h8, h9⟩ := h
  unfold kMvR mMvR kMvA mMvA
  subst h7
  by_cases c1 : a < 0
  · rw [kA_neg c1, if_pos rfl, if_pos c1, if_pos rfl, if_pos c1]
    exact ⟨rfl, h1, h2, h3, h4, h5, h6, rfl, h8, h9⟩
  · by_cases c2 : 8 ≤ a
    · rw [kA_big c2, if_pos rfl, if_neg c1, if_neg (fun z => (s_78.mp z) c2), if_pos rfl, if_neg c1, if_neg (fun z => (s_78.mp z) c2)]
      exact ⟨rfl, h1, h2, h3, h4, h5, h6, rfl, h8, h9⟩
    · rw [kA_mid c1 c2, if_neg (show ¬ (1 : Int32) = 0 by decide), if_neg c1, if_pos (s_78.mpr c2), if_neg (show ¬ (1 : Int32) = 0 by decide), if_neg c1, if_pos (s_78.mpr c2), h1]
      exact ⟨rfl, h1, h2, h3, h4, h5, h6, rfl, h8, h9⟩
theorem s_safe (f : Nat → Int32) : va_cpy kSafe f 0 0 8 = mSafe f := by
  funext x
  match x with
  | 0 => rfl
  | 1 => rfl
  | 2 => rfl
  | 3 => rfl
  | 4 => rfl
  | 5 => rfl
  | 6 => rfl
  | 7 => rfl
  | n + 8 =>
    rw [pk_cpy_out (Or.inr (by omega))]
    unfold mSafe
    rw [pk_un (by omega), pk_un (by omega), pk_un (by omega), pk_un (by omega), pk_un (by omega), pk_un (by omega), pk_un (by omega), pk_un (by omega)]
theorem l_change (h : Rl k act txt F pr j ac tx ev on mn pm) (m : Int32) : kChR k m = mBeR j m ∧ Rl (kChK k m) (kChA k act m) txt F pr (mBeJ j m) (mBeA j ac m) tx ev on mn pm := by
  obtain ⟨h1, h2, h3, h4, h5, h6, h7, h8, h9⟩ := h
  unfold kChR mBeR kChK kChA mBeJ mBeA
  subst h7
  by_cases c1 : k 1 = m
  · have c2 : m = j 1 := by rw [← c1]; exact h1
    rw [if_pos c1, if_pos c2, if_pos c1, if_pos c1, if_pos c2, if_pos c2]
    exact ⟨rfl, c1, by show k 2 = j 5 + 0; rw [Int32.add_zero]; exact h2, h3, h4, h5, h6, rfl, h8, h9⟩
  · have c2 : ¬ m = j 1 := fun z => c1 (by rw [h1]; exact z.symm)
    rw [if_neg c1, if_neg c2, if_neg c1, if_neg c1, if_neg c2, if_neg c2, s_safe]
    exact ⟨rfl, rfl, by show k 2 + 1 = j 5 + 1; rw [h2], h3, h4, h5, h6, rfl, h8, h9⟩
theorem l_enter (h : Rl k act txt F pr j ac tx ev on mn pm) (m : Int32) : kEnR k m = mEnR j m ∧ Rl (kEnK k m) (kEnA k act m) txt F pr (mEnJ j m) (mEnA j ac m) tx ev on mn pm := by
  have h1 : k 1 = j 1 := h.1
  unfold kEnR mEnR kEnK kEnA mEnJ mEnA
  by_cases c1 : m < 0
  · rw [if_pos c1, if_pos c1, if_pos c1, if_pos c1, if_pos c1, if_pos c1]
    exact ⟨rfl, h.j0⟩
  · rw [if_neg c1, if_neg c1, if_neg c1, if_neg c1, if_neg c1, if_neg c1]
    by_cases c2 : m ≤ 2
    · rw [if_pos c2, if_pos c2, if_pos c2, if_pos c2, if_pos c2, if_pos c2, h1]
      by_cases c3 : j 1 = 0
      · rw [if_pos c3, if_pos c3, if_pos c3, if_pos c3, if_pos c3]
        by_cases c4 : m = 2
        · rw [if_pos c4, if_pos c4, if_pos c4, if_pos c4, if_pos c4]
          exact ⟨rfl, h.j0⟩
        · rw [if_neg c4, if_neg c4, if_neg c4, if_neg c4, if_neg c4]
          exact ⟨rfl, (l_change h.j0 m).2⟩
      · rw [if_neg c3, if_neg c3, if_neg c3, if_neg c3, if_neg c3]
        exact ⟨rfl, (l_change h.j0 m).2⟩
    · rw [if_neg c2, if_neg c2, if_neg c2, if_neg c2, if_neg c2, if_neg c2]
      exact ⟨rfl, h.j0⟩
theorem l_alarm (h : Rl k act txt F pr j ac tx ev on mn pm) (t : Int32) : kAlR k = mAlR j ∧ Rl (kAlK k t) act txt F pr (mAlJ j t) ac tx ev on mn pm := by
  have h3 : k 3 = j 3 := h.2.2.1
  unfold kAlR mAlR kAlK mAlJ
  rw [h3]
  by_cases c1 : j 3 = 0
  · rw [if_pos c1, if_pos c1, if_pos c1]
    obtain ⟨h1, h2, -, h4, h5, h6, h7, h8, h9⟩ := h
    exact ⟨rfl, h1, h2, rfl, rfl, h5, h6, h7, h8, h9⟩
  · rw [if_neg c1, if_neg c1, if_neg c1]
    exact ⟨rfl, h.j0⟩
theorem l_look (h : Rl k act txt F pr j ac tx ev on mn pm) (t : Int32) : kLkR k t = mLkR j t ∧ Rl (kLkK k t) (kLkA k act t) txt F pr (mLkJ j t) (mLkA j ac t) tx ev on mn pm := by
  have h3 : k 3 = j 3 := h.2.2.1
  have h4 : k 4 = j 4 := h.2.2.2.1
  unfold kLkR mLkR kLkK kLkA mLkJ mLkA
  rw [h3, h4]
  by_cases c1 : j 3 = 0
  · rw [if_pos c1, if_pos c1, if_pos c1, if_pos c1, if_pos c1, if_pos c1]
    exact ⟨rfl, h.j0⟩
  · rw [if_neg c1, if_neg c1, if_neg c1, if_neg c1, if_neg c1, if_neg c1]
    by_cases c2 : j 4 ≤ t
    · rw [if_pos c2, if_pos c2, if_pos c2, if_pos c2, if_pos c2, if_pos c2]
      have h' : Rl (upd k 3 0) act txt F pr (upd (upd j 0 0) 3 0) ac tx ev on mn pm := by
        obtain ⟨h1, h2, -, h4, h5, h6, h7, h8, h9⟩ := h
        exact ⟨h1, h2, rfl, h4, h5, h6, h7, h8, h9⟩
      exact l_change h' 0
    · rw [if_neg c2, if_neg c2, if_neg c2, if_neg c2, if_neg c2, if_neg c2]
      exact ⟨rfl, h.j0⟩
theorem l_put (h : Rl k act txt F pr j ac tx ev on mn pm) (x : Int32) : kPuR k x = mPuR j x ∧ Rl (kPuK k x) act (kPuT k txt x) F pr (mPuJ j x) ac (mPuT j tx x) ev on mn pm := by
  have h5 : k 6 = j 6 := h.2.2.2.2.1
  obtain ⟨t, ht8, ht⟩ := h.2.2.2.2.2.1
  unfold kPuR mPuR kPuK kPuT mPuJ mPuT
  by_cases c1 : x < 0
  · rw [if_pos c1, if_pos c1, if_pos c1, if_pos c1, if_pos c1, if_pos c1]
    exact ⟨rfl, h.j0⟩
  · rw [if_neg c1, if_neg c1, if_neg c1, if_neg c1, if_neg c1, if_neg c1]
    by_cases c2 : 31 < x
    · rw [if_pos c2, if_pos c2, if_pos c2, if_pos c2, if_pos c2, if_pos c2]
      exact ⟨rfl, h.j0⟩
    · rw [if_neg c2, if_neg c2, if_neg c2, if_neg c2, if_neg c2, if_neg c2, ← h5]
      by_cases c3 : t = 8
      · have d1 : ¬ k 6 < 8 := by rw [ht, c3]; decide +kernel
        have d2 : k 6 = 8 := by rw [ht, c3]; rfl
        rw [if_neg d1, if_neg d1, if_neg d1, if_pos d2, if_pos d2, if_pos d2]
        exact ⟨rfl, h.j0⟩
      · have d1 : k 6 < 8 := by rw [ht]; exact nI_lt (b := 8) (by omega) (by decide)
        have d2 : ¬ k 6 = 8 := fun z => c3 ((nI_eq (by omega) (by decide)).mp (show nI t = nI 8 by rw [← ht]; exact z))
        rw [if_pos d1, if_pos d1, if_pos d1, if_neg d2, if_neg d2, if_neg d2]
        obtain ⟨h1, h2, h3, h4, -, -, h7, h8, h9⟩ := h
        refine ⟨rfl, h1, h2, h3, h4, rfl, ⟨t + 1, by omega, by show k 6 + 1 = nI (t + 1); rw [ht, nI_1]⟩, h7, by rw [h8], h9⟩
theorem l_form (h : Rl k act txt F pr j ac tx ev on mn pm) (id e : Int32) : kFail k F id e = mFail j ev id e ∧ Rl (kFoK k F id e) act txt (kFoF k F id e) (kFoP k txt F pr id e) (upd (upd j 0 0) 6 0) ac tx (mFoE j ev id e) (mFoO j ev on id e) (mFoN j ev mn id e) (mFoP j tx ev pm id e) := by
  obtain ⟨h1, h2, h3, h4, h5, ⟨t, ht8, ht⟩, h7, h8, h9⟩ := h
  refine ⟨r_failR k j h9 h5 id e, ?_⟩
  have hr := r_form k j txt tx h9 h5 h8 ht8 ht id e
  have hx : ∀ x, x ≠ 6 → x ≠ 8 → kFoK k F id e x = k x := by
    intro x hx6 hx8
    unfold kFoK
    rw [pk_un hx6]
    by_cases c : kFail k F id e = 0
    · rw [if_pos c]
      unfold kFiK
      cases kFree F 8 0 with
      | none => rfl
      | some i => exact pk_un hx8
    · rw [if_neg c]
  refine ⟨by rw [hx 1 (by decide) (by decide)]; exact h1, by rw [hx 2 (by decide) (by decide)]; exact h2, by rw [hx 3 (by decide) (by decide)]; exact h3, by rw [hx 4 (by decide) (by decide)]; exact h4, rfl, ⟨0, by omega, rfl⟩, h7, h8, hr⟩
theorem l_remove (h : Rl k act txt F pr j ac tx ev on mn pm) (id : Int32) : kReR F id = mReR ev on id ∧ Rl (kReK k F id) act txt (kReF F id) pr (upd j 0 0) ac tx (mReE ev on id) on mn pm := by
  obtain ⟨h1, h2, h3, h4, h5, h6, h7, h8, h9⟩ := h
  refine ⟨r_removeR h9 id, ?_⟩
  have hr := r_remove k h9 id
  have hx : ∀ x, x ≠ 8 → kReK k F id x = k x := by
    intro x hx8
    unfold kReK
    cases kFind F id 8 0 with
    | none => rfl
    | some i =>
      show (if F i 3 = 0 then upd k 8 (k 8 - 1) else k) x = k x
      by_cases c : F i 3 = 0
      · rw [if_pos c]; exact pk_un hx8
      · rw [if_neg c]
  refine ⟨by rw [hx 1 (by decide)]; exact h1, by rw [hx 2 (by decide)]; exact h2, by rw [hx 3 (by decide)]; exact h3, by rw [hx 4 (by decide)]; exact h4, by rw [hx 6 (by decide)]; exact h5, by rw [hx 6 (by decide)]; exact h6, h7, h8, hr⟩
theorem l_enable (h : Rl k act txt F pr j ac tx ev on mn pm) (id b : Int32) : kEbR F id = mEbR ev id ∧ Rl k act txt (kEbF F id b) pr (upd j 0 0) ac tx ev (mEbO ev on id b) mn pm := by
  obtain ⟨h1, h2, h3, h4, h5, h6, h7, h8, h9⟩ := h
  exact ⟨r_enableR h9 id, h1, h2, h3, h4, h5, h6, h7, h8, r_enable h9 id b⟩
theorem l_due (h : Rl k act txt F pr j ac tx ev on mn pm) (tick fr : Int32) : kDue F tick fr 8 0 (-1) = mDue ev on tick fr 256 (-1) ∧ Rl k act txt F pr (upd j 0 0) ac tx ev on mn pm := ⟨r_dueR h.2.2.2.2.2.2.2.2 tick fr, h.j0⟩
theorem l_parameter (h : Rl k act txt F pr j ac tx ev on mn pm) (id q : Int32) : kPaR F pr id q = mPaR ev mn pm id q ∧ Rl k act txt F pr (upd j 0 0) ac tx ev on mn pm := ⟨r_parameterR h.2.2.2.2.2.2.2.2 id q, h.j0⟩
theorem l_about (h : Rl k act txt F pr j ac tx ev on mn pm) (id w : Int32) : kAbR F id w = mAbR ev on id w ∧ Rl k act txt F pr (upd j 0 0) ac tx ev on mn pm := ⟨r_aboutR h.2.2.2.2.2.2.2.2 id w, h.j0⟩
theorem l_value (h : Rl k act txt F pr j ac tx ev on mn pm) (w : Int32) : kVaR k act w = mVaR j ac ev w ∧ Rl k act txt F pr (upd j 0 0) ac tx ev on mn pm := by
  refine ⟨?_, h.j0⟩
  obtain ⟨h1, h2, h3, h4, h5, h6, h7, h8, h9⟩ := h
  obtain ⟨-, -, -, -, -, hk, hcc⟩ := h9
  have h10 : k 8 = mCnt ev 256 0 0 := by rw [mCnt_eq, hk, hcc, Int32.zero_add]
  unfold kVaR mVaR
  rw [h1, h2, h3, h4, h7, h10]
  by_cases c1 : w < 0
  · rw [kA_neg c1, if_pos rfl, if_pos c1]
  · rw [if_neg c1]
    by_cases c2 : 8 ≤ w
    · rw [kA_big c2, if_pos rfl, if_pos c2]
    · rw [kA_mid c1 c2, if_neg (by decide), if_neg c2]
end REL3
theorem Rl_0 : Rl kK0 (fun _ => 0) (fun _ => 0) kF0 (fun _ _ => 0) mJ0 (fun _ => 0) (fun _ => 0) (fun _ => 0) (fun _ => 0) (fun _ => 0) (fun _ => 0) := by
  refine ⟨rfl, rfl, rfl, rfl, rfl, ⟨0, by omega, rfl⟩, rfl, rfl, ?_, ?_, ?_, ?_, ?_, ?_, ?_⟩
  · intro i _ h; exact absurd rfl h
  · intro d _ h; exact absurd (show (0 : Int32) ≤ 0 by decide) h
  · intro a b _ _ h; exact absurd rfl h
  · intro i _; show (0 : Int32).toInt ≤ 8; decide
  · intro d _; show (0 : Int32).toInt ≤ 8; decide
  · have h : cnt (tF kF0) 8 0 = 0 := by decide +kernel
    rw [h]; rfl
  · decide +kernel
end
section
theorem d_law_0 : decode code 0 = .ok (.new 7, 3) := by decide +kernel
theorem d_law_3 : decode code 3 = .ok (.dup, 1) := by decide +kernel
theorem d_law_4 : decode code 4 = .ok (.invokespecial 9, 3) := by decide +kernel
theorem d_law_7 : decode code 7 = .ok (.astore_n 1, 1) := by decide +kernel
theorem d_law_8 : decode code 8 = .ok (.new 10, 3) := by decide +kernel
theorem d_law_11 : decode code 11 = .ok (.dup, 1) := by decide +kernel
theorem d_law_12 : decode code 12 = .ok (.invokespecial 12, 3) := by decide +kernel
theorem d_law_15 : decode code 15 = .ok (.astore_n 2, 1) := by decide +kernel
theorem d_law_16 : decode code 16 = .ok (.iconst 0, 1) := by decide +kernel
theorem d_law_17 : decode code 17 = .ok (.istore_n 3, 1) := by decide +kernel
theorem d_law_18 : decode code 18 = .ok (.iload_n 3, 1) := by decide +kernel
theorem d_law_19 : decode code 19 = .ok (.aload_n 0, 1) := by decide +kernel
theorem d_law_20 : decode code 20 = .ok (.arraylength, 1) := by decide +kernel
theorem d_law_21 : decode code 21 = .ok (.iconst 3, 1) := by decide +kernel
theorem d_law_22 : decode code 22 = .ok (.isub, 1) := by decide +kernel
theorem d_law_23 : decode code 23 = .ok (.if_icmp .gt 431, 3) := by decide +kernel
theorem d_law_26 : decode code 26 = .ok (.aload_n 0, 1) := by decide +kernel
theorem d_law_27 : decode code 27 = .ok (.iload_n 3, 1) := by decide +kernel
theorem d_law_28 : decode code 28 = .ok (.iaload, 1) := by decide +kernel
theorem d_law_29 : decode code 29 = .ok (.bipush 15, 2) := by decide +kernel
theorem d_law_31 : decode code 31 = .ok (.iand, 1) := by decide +kernel
theorem d_law_32 : decode code 32 = .ok (.tableswitch 416 0 11 #[64, 97, 120, 143, 166, 189, 222, 245, 294, 327, 360, 383], 64) := by decide +kernel
theorem d_law_96 : decode code 96 = .ok (.aload_n 1, 1) := by decide +kernel
theorem d_law_97 : decode code 97 = .ok (.aload_n 0, 1) := by decide +kernel
theorem d_law_98 : decode code 98 = .ok (.iload_n 3, 1) := by decide +kernel
theorem d_law_99 : decode code 99 = .ok (.iconst 1, 1) := by decide +kernel
theorem d_law_100 : decode code 100 = .ok (.iadd, 1) := by decide +kernel
theorem d_law_101 : decode code 101 = .ok (.iaload, 1) := by decide +kernel
theorem d_law_102 : decode code 102 = .ok (.aload_n 0, 1) := by decide +kernel
theorem d_law_103 : decode code 103 = .ok (.iload_n 3, 1) := by decide +kernel
theorem d_law_104 : decode code 104 = .ok (.iconst 2, 1) := by decide +kernel
theorem d_law_105 : decode code 105 = .ok (.iadd, 1) := by decide +kernel
theorem d_law_106 : decode code 106 = .ok (.iaload, 1) := by decide +kernel
theorem d_law_107 : decode code 107 = .ok (.invokevirtual 13, 3) := by decide +kernel
theorem d_law_110 : decode code 110 = .ok (.aload_n 2, 1) := by decide +kernel
theorem d_law_111 : decode code 111 = .ok (.aload_n 0, 1) := by decide +kernel
theorem d_law_112 : decode code 112 = .ok (.iload_n 3, 1) := by decide +kernel
theorem d_law_113 : decode code 113 = .ok (.iconst 1, 1) := by decide +kernel
theorem d_law_114 : decode code 114 = .ok (.iadd, 1) := by decide +kernel
theorem d_law_115 : decode code 115 = .ok (.iaload, 1) := by decide +kernel
theorem d_law_116 : decode code 116 = .ok (.aload_n 0, 1) := by decide +kernel
theorem d_law_117 : decode code 117 = .ok (.iload_n 3, 1) := by decide +kernel
theorem d_law_118 : decode code 118 = .ok (.iconst 2, 1) := by decide +kernel
theorem d_law_119 : decode code 119 = .ok (.iadd, 1) := by decide +kernel
theorem d_law_120 : decode code 120 = .ok (.iaload, 1) := by decide +kernel
theorem d_law_121 : decode code 121 = .ok (.invokevirtual 17, 3) := by decide +kernel
theorem d_law_124 : decode code 124 = .ok (.if_icmp .eq 324, 3) := by decide +kernel
theorem d_law_127 : decode code 127 = .ok (.iconst 0, 1) := by decide +kernel
theorem d_law_128 : decode code 128 = .ok (.ireturn, 1) := by decide +kernel
theorem d_law_129 : decode code 129 = .ok (.aload_n 1, 1) := by decide +kernel
theorem d_law_130 : decode code 130 = .ok (.aload_n 0, 1) := by decide +kernel
theorem d_law_131 : decode code 131 = .ok (.iload_n 3, 1) := by decide +kernel
theorem d_law_132 : decode code 132 = .ok (.iconst 1, 1) := by decide +kernel
theorem d_law_133 : decode code 133 = .ok (.iadd, 1) := by decide +kernel
theorem d_law_134 : decode code 134 = .ok (.iaload, 1) := by decide +kernel
theorem d_law_135 : decode code 135 = .ok (.invokevirtual 18, 3) := by decide +kernel
theorem d_law_138 : decode code 138 = .ok (.aload_n 2, 1) := by decide +kernel
theorem d_law_139 : decode code 139 = .ok (.aload_n 0, 1) := by decide +kernel
theorem d_law_140 : decode code 140 = .ok (.iload_n 3, 1) := by decide +kernel
theorem d_law_141 : decode code 141 = .ok (.iconst 1, 1) := by decide +kernel
theorem d_law_142 : decode code 142 = .ok (.iadd, 1) := by decide +kernel
theorem d_law_143 : decode code 143 = .ok (.iaload, 1) := by decide +kernel
theorem d_law_144 : decode code 144 = .ok (.invokevirtual 22, 3) := by decide +kernel
theorem d_law_147 : decode code 147 = .ok (.if_icmp .eq 301, 3) := by decide +kernel
theorem d_law_150 : decode code 150 = .ok (.iconst 0, 1) := by decide +kernel
theorem d_law_151 : decode code 151 = .ok (.ireturn, 1) := by decide +kernel
theorem d_law_152 : decode code 152 = .ok (.aload_n 1, 1) := by decide +kernel
theorem d_law_153 : decode code 153 = .ok (.aload_n 0, 1) := by decide +kernel
theorem d_law_154 : decode code 154 = .ok (.iload_n 3, 1) := by decide +kernel
theorem d_law_155 : decode code 155 = .ok (.iconst 1, 1) := by decide +kernel
theorem d_law_156 : decode code 156 = .ok (.iadd, 1) := by decide +kernel
theorem d_law_157 : decode code 157 = .ok (.iaload, 1) := by decide +kernel
theorem d_law_158 : decode code 158 = .ok (.invokevirtual 23, 3) := by decide +kernel
theorem d_law_161 : decode code 161 = .ok (.aload_n 2, 1) := by decide +kernel
theorem d_law_162 : decode code 162 = .ok (.aload_n 0, 1) := by decide +kernel
theorem d_law_163 : decode code 163 = .ok (.iload_n 3, 1) := by decide +kernel
theorem d_law_164 : decode code 164 = .ok (.iconst 1, 1) := by decide +kernel
theorem d_law_165 : decode code 165 = .ok (.iadd, 1) := by decide +kernel
theorem d_law_166 : decode code 166 = .ok (.iaload, 1) := by decide +kernel
theorem d_law_167 : decode code 167 = .ok (.invokevirtual 27, 3) := by decide +kernel
theorem d_law_170 : decode code 170 = .ok (.if_icmp .eq 278, 3) := by decide +kernel
theorem d_law_173 : decode code 173 = .ok (.iconst 0, 1) := by decide +kernel
theorem d_law_174 : decode code 174 = .ok (.ireturn, 1) := by decide +kernel
theorem d_law_175 : decode code 175 = .ok (.aload_n 1, 1) := by decide +kernel
theorem d_law_176 : decode code 176 = .ok (.aload_n 0, 1) := by decide +kernel
theorem d_law_177 : decode code 177 = .ok (.iload_n 3, 1) := by decide +kernel
theorem d_law_178 : decode code 178 = .ok (.iconst 1, 1) := by decide +kernel
theorem d_law_179 : decode code 179 = .ok (.iadd, 1) := by decide +kernel
theorem d_law_180 : decode code 180 = .ok (.iaload, 1) := by decide +kernel
theorem d_law_181 : decode code 181 = .ok (.invokevirtual 28, 3) := by decide +kernel
theorem d_law_184 : decode code 184 = .ok (.aload_n 2, 1) := by decide +kernel
theorem d_law_185 : decode code 185 = .ok (.aload_n 0, 1) := by decide +kernel
theorem d_law_186 : decode code 186 = .ok (.iload_n 3, 1) := by decide +kernel
theorem d_law_187 : decode code 187 = .ok (.iconst 1, 1) := by decide +kernel
theorem d_law_188 : decode code 188 = .ok (.iadd, 1) := by decide +kernel
theorem d_law_189 : decode code 189 = .ok (.iaload, 1) := by decide +kernel
theorem d_law_190 : decode code 190 = .ok (.invokevirtual 31, 3) := by decide +kernel
theorem d_law_193 : decode code 193 = .ok (.if_icmp .eq 255, 3) := by decide +kernel
theorem d_law_196 : decode code 196 = .ok (.iconst 0, 1) := by decide +kernel
theorem d_law_197 : decode code 197 = .ok (.ireturn, 1) := by decide +kernel
theorem d_law_198 : decode code 198 = .ok (.aload_n 1, 1) := by decide +kernel
theorem d_law_199 : decode code 199 = .ok (.aload_n 0, 1) := by decide +kernel
theorem d_law_200 : decode code 200 = .ok (.iload_n 3, 1) := by decide +kernel
theorem d_law_201 : decode code 201 = .ok (.iconst 1, 1) := by decide +kernel
theorem d_law_202 : decode code 202 = .ok (.iadd, 1) := by decide +kernel
theorem d_law_203 : decode code 203 = .ok (.iaload, 1) := by decide +kernel
theorem d_law_204 : decode code 204 = .ok (.invokevirtual 32, 3) := by decide +kernel
theorem d_law_207 : decode code 207 = .ok (.aload_n 2, 1) := by decide +kernel
theorem d_law_208 : decode code 208 = .ok (.aload_n 0, 1) := by decide +kernel
theorem d_law_209 : decode code 209 = .ok (.iload_n 3, 1) := by decide +kernel
theorem d_law_210 : decode code 210 = .ok (.iconst 1, 1) := by decide +kernel
theorem d_law_211 : decode code 211 = .ok (.iadd, 1) := by decide +kernel
theorem d_law_212 : decode code 212 = .ok (.iaload, 1) := by decide +kernel
theorem d_law_213 : decode code 213 = .ok (.invokevirtual 35, 3) := by decide +kernel
theorem d_law_216 : decode code 216 = .ok (.if_icmp .eq 232, 3) := by decide +kernel
theorem d_law_219 : decode code 219 = .ok (.iconst 0, 1) := by decide +kernel
theorem d_law_220 : decode code 220 = .ok (.ireturn, 1) := by decide +kernel
theorem d_law_221 : decode code 221 = .ok (.aload_n 1, 1) := by decide +kernel
theorem d_law_222 : decode code 222 = .ok (.aload_n 0, 1) := by decide +kernel
theorem d_law_223 : decode code 223 = .ok (.iload_n 3, 1) := by decide +kernel
theorem d_law_224 : decode code 224 = .ok (.iconst 1, 1) := by decide +kernel
theorem d_law_225 : decode code 225 = .ok (.iadd, 1) := by decide +kernel
theorem d_law_226 : decode code 226 = .ok (.iaload, 1) := by decide +kernel
theorem d_law_227 : decode code 227 = .ok (.aload_n 0, 1) := by decide +kernel
theorem d_law_228 : decode code 228 = .ok (.iload_n 3, 1) := by decide +kernel
theorem d_law_229 : decode code 229 = .ok (.iconst 2, 1) := by decide +kernel
theorem d_law_230 : decode code 230 = .ok (.iadd, 1) := by decide +kernel
theorem d_law_231 : decode code 231 = .ok (.iaload, 1) := by decide +kernel
theorem d_law_232 : decode code 232 = .ok (.invokevirtual 36, 3) := by decide +kernel
theorem d_law_235 : decode code 235 = .ok (.aload_n 2, 1) := by decide +kernel
theorem d_law_236 : decode code 236 = .ok (.aload_n 0, 1) := by decide +kernel
theorem d_law_237 : decode code 237 = .ok (.iload_n 3, 1) := by decide +kernel
theorem d_law_238 : decode code 238 = .ok (.iconst 1, 1) := by decide +kernel
theorem d_law_239 : decode code 239 = .ok (.iadd, 1) := by decide +kernel
theorem d_law_240 : decode code 240 = .ok (.iaload, 1) := by decide +kernel
theorem d_law_241 : decode code 241 = .ok (.aload_n 0, 1) := by decide +kernel
theorem d_law_242 : decode code 242 = .ok (.iload_n 3, 1) := by decide +kernel
theorem d_law_243 : decode code 243 = .ok (.iconst 2, 1) := by decide +kernel
theorem d_law_244 : decode code 244 = .ok (.iadd, 1) := by decide +kernel
theorem d_law_245 : decode code 245 = .ok (.iaload, 1) := by decide +kernel
theorem d_law_246 : decode code 246 = .ok (.invokevirtual 39, 3) := by decide +kernel
theorem d_law_249 : decode code 249 = .ok (.if_icmp .eq 199, 3) := by decide +kernel
theorem d_law_252 : decode code 252 = .ok (.iconst 0, 1) := by decide +kernel
theorem d_law_253 : decode code 253 = .ok (.ireturn, 1) := by decide +kernel
theorem d_law_254 : decode code 254 = .ok (.aload_n 1, 1) := by decide +kernel
theorem d_law_255 : decode code 255 = .ok (.aload_n 0, 1) := by decide +kernel
theorem d_law_256 : decode code 256 = .ok (.iload_n 3, 1) := by decide +kernel
theorem d_law_257 : decode code 257 = .ok (.iconst 1, 1) := by decide +kernel
theorem d_law_258 : decode code 258 = .ok (.iadd, 1) := by decide +kernel
theorem d_law_259 : decode code 259 = .ok (.iaload, 1) := by decide +kernel
theorem d_law_260 : decode code 260 = .ok (.invokevirtual 40, 3) := by decide +kernel
theorem d_law_263 : decode code 263 = .ok (.aload_n 2, 1) := by decide +kernel
theorem d_law_264 : decode code 264 = .ok (.aload_n 0, 1) := by decide +kernel
theorem d_law_265 : decode code 265 = .ok (.iload_n 3, 1) := by decide +kernel
theorem d_law_266 : decode code 266 = .ok (.iconst 1, 1) := by decide +kernel
theorem d_law_267 : decode code 267 = .ok (.iadd, 1) := by decide +kernel
theorem d_law_268 : decode code 268 = .ok (.iaload, 1) := by decide +kernel
theorem d_law_269 : decode code 269 = .ok (.invokevirtual 43, 3) := by decide +kernel
theorem d_law_272 : decode code 272 = .ok (.if_icmp .eq 176, 3) := by decide +kernel
theorem d_law_275 : decode code 275 = .ok (.iconst 0, 1) := by decide +kernel
theorem d_law_276 : decode code 276 = .ok (.ireturn, 1) := by decide +kernel
theorem d_law_277 : decode code 277 = .ok (.aload_n 1, 1) := by decide +kernel
theorem d_law_278 : decode code 278 = .ok (.aload_n 0, 1) := by decide +kernel
theorem d_law_279 : decode code 279 = .ok (.iload_n 3, 1) := by decide +kernel
theorem d_law_280 : decode code 280 = .ok (.iconst 1, 1) := by decide +kernel
theorem d_law_281 : decode code 281 = .ok (.iadd, 1) := by decide +kernel
theorem d_law_282 : decode code 282 = .ok (.iaload, 1) := by decide +kernel
theorem d_law_283 : decode code 283 = .ok (.aload_n 0, 1) := by decide +kernel
theorem d_law_284 : decode code 284 = .ok (.iload_n 3, 1) := by decide +kernel
theorem d_law_285 : decode code 285 = .ok (.iconst 2, 1) := by decide +kernel
theorem d_law_286 : decode code 286 = .ok (.iadd, 1) := by decide +kernel
theorem d_law_287 : decode code 287 = .ok (.iaload, 1) := by decide +kernel
theorem d_law_288 : decode code 288 = .ok (.ifCond .eq 7, 3) := by decide +kernel
theorem d_law_291 : decode code 291 = .ok (.iconst 1, 1) := by decide +kernel
theorem d_law_292 : decode code 292 = .ok (.goto 4, 3) := by decide +kernel
theorem d_law_295 : decode code 295 = .ok (.iconst 0, 1) := by decide +kernel
theorem d_law_296 : decode code 296 = .ok (.invokevirtual 44, 3) := by decide +kernel
theorem d_law_299 : decode code 299 = .ok (.aload_n 2, 1) := by decide +kernel
theorem d_law_300 : decode code 300 = .ok (.aload_n 0, 1) := by decide +kernel
theorem d_law_301 : decode code 301 = .ok (.iload_n 3, 1) := by decide +kernel
theorem d_law_302 : decode code 302 = .ok (.iconst 1, 1) := by decide +kernel
theorem d_law_303 : decode code 303 = .ok (.iadd, 1) := by decide +kernel
theorem d_law_304 : decode code 304 = .ok (.iaload, 1) := by decide +kernel
theorem d_law_305 : decode code 305 = .ok (.aload_n 0, 1) := by decide +kernel
theorem d_law_306 : decode code 306 = .ok (.iload_n 3, 1) := by decide +kernel
theorem d_law_307 : decode code 307 = .ok (.iconst 2, 1) := by decide +kernel
theorem d_law_308 : decode code 308 = .ok (.iadd, 1) := by decide +kernel
theorem d_law_309 : decode code 309 = .ok (.iaload, 1) := by decide +kernel
theorem d_law_310 : decode code 310 = .ok (.ifCond .eq 7, 3) := by decide +kernel
theorem d_law_313 : decode code 313 = .ok (.iconst 1, 1) := by decide +kernel
theorem d_law_314 : decode code 314 = .ok (.goto 4, 3) := by decide +kernel
theorem d_law_317 : decode code 317 = .ok (.iconst 0, 1) := by decide +kernel
theorem d_law_318 : decode code 318 = .ok (.invokevirtual 48, 3) := by decide +kernel
theorem d_law_321 : decode code 321 = .ok (.if_icmp .eq 127, 3) := by decide +kernel
theorem d_law_324 : decode code 324 = .ok (.iconst 0, 1) := by decide +kernel
theorem d_law_325 : decode code 325 = .ok (.ireturn, 1) := by decide +kernel
theorem d_law_326 : decode code 326 = .ok (.aload_n 1, 1) := by decide +kernel
theorem d_law_327 : decode code 327 = .ok (.aload_n 0, 1) := by decide +kernel
theorem d_law_328 : decode code 328 = .ok (.iload_n 3, 1) := by decide +kernel
theorem d_law_329 : decode code 329 = .ok (.iconst 1, 1) := by decide +kernel
theorem d_law_330 : decode code 330 = .ok (.iadd, 1) := by decide +kernel
theorem d_law_331 : decode code 331 = .ok (.iaload, 1) := by decide +kernel
theorem d_law_332 : decode code 332 = .ok (.aload_n 0, 1) := by decide +kernel
theorem d_law_333 : decode code 333 = .ok (.iload_n 3, 1) := by decide +kernel
theorem d_law_334 : decode code 334 = .ok (.iconst 2, 1) := by decide +kernel
theorem d_law_335 : decode code 335 = .ok (.iadd, 1) := by decide +kernel
theorem d_law_336 : decode code 336 = .ok (.iaload, 1) := by decide +kernel
theorem d_law_337 : decode code 337 = .ok (.invokevirtual 49, 3) := by decide +kernel
theorem d_law_340 : decode code 340 = .ok (.aload_n 2, 1) := by decide +kernel
theorem d_law_341 : decode code 341 = .ok (.aload_n 0, 1) := by decide +kernel
theorem d_law_342 : decode code 342 = .ok (.iload_n 3, 1) := by decide +kernel
theorem d_law_343 : decode code 343 = .ok (.iconst 1, 1) := by decide +kernel
theorem d_law_344 : decode code 344 = .ok (.iadd, 1) := by decide +kernel
theorem d_law_345 : decode code 345 = .ok (.iaload, 1) := by decide +kernel
theorem d_law_346 : decode code 346 = .ok (.aload_n 0, 1) := by decide +kernel
theorem d_law_347 : decode code 347 = .ok (.iload_n 3, 1) := by decide +kernel
theorem d_law_348 : decode code 348 = .ok (.iconst 2, 1) := by decide +kernel
theorem d_law_349 : decode code 349 = .ok (.iadd, 1) := by decide +kernel
theorem d_law_350 : decode code 350 = .ok (.iaload, 1) := by decide +kernel
theorem d_law_351 : decode code 351 = .ok (.invokevirtual 52, 3) := by decide +kernel
theorem d_law_354 : decode code 354 = .ok (.if_icmp .eq 94, 3) := by decide +kernel
theorem d_law_357 : decode code 357 = .ok (.iconst 0, 1) := by decide +kernel
theorem d_law_358 : decode code 358 = .ok (.ireturn, 1) := by decide +kernel
theorem d_law_359 : decode code 359 = .ok (.aload_n 1, 1) := by decide +kernel
theorem d_law_360 : decode code 360 = .ok (.aload_n 0, 1) := by decide +kernel
theorem d_law_361 : decode code 361 = .ok (.iload_n 3, 1) := by decide +kernel
theorem d_law_362 : decode code 362 = .ok (.iconst 1, 1) := by decide +kernel
theorem d_law_363 : decode code 363 = .ok (.iadd, 1) := by decide +kernel
theorem d_law_364 : decode code 364 = .ok (.iaload, 1) := by decide +kernel
theorem d_law_365 : decode code 365 = .ok (.aload_n 0, 1) := by decide +kernel
theorem d_law_366 : decode code 366 = .ok (.iload_n 3, 1) := by decide +kernel
theorem d_law_367 : decode code 367 = .ok (.iconst 2, 1) := by decide +kernel
theorem d_law_368 : decode code 368 = .ok (.iadd, 1) := by decide +kernel
theorem d_law_369 : decode code 369 = .ok (.iaload, 1) := by decide +kernel
theorem d_law_370 : decode code 370 = .ok (.invokevirtual 53, 3) := by decide +kernel
theorem d_law_373 : decode code 373 = .ok (.aload_n 2, 1) := by decide +kernel
theorem d_law_374 : decode code 374 = .ok (.aload_n 0, 1) := by decide +kernel
theorem d_law_375 : decode code 375 = .ok (.iload_n 3, 1) := by decide +kernel
theorem d_law_376 : decode code 376 = .ok (.iconst 1, 1) := by decide +kernel
theorem d_law_377 : decode code 377 = .ok (.iadd, 1) := by decide +kernel
theorem d_law_378 : decode code 378 = .ok (.iaload, 1) := by decide +kernel
theorem d_law_379 : decode code 379 = .ok (.aload_n 0, 1) := by decide +kernel
theorem d_law_380 : decode code 380 = .ok (.iload_n 3, 1) := by decide +kernel
theorem d_law_381 : decode code 381 = .ok (.iconst 2, 1) := by decide +kernel
theorem d_law_382 : decode code 382 = .ok (.iadd, 1) := by decide +kernel
theorem d_law_383 : decode code 383 = .ok (.iaload, 1) := by decide +kernel
theorem d_law_384 : decode code 384 = .ok (.invokevirtual 56, 3) := by decide +kernel
theorem d_law_387 : decode code 387 = .ok (.if_icmp .eq 61, 3) := by decide +kernel
theorem d_law_390 : decode code 390 = .ok (.iconst 0, 1) := by decide +kernel
theorem d_law_391 : decode code 391 = .ok (.ireturn, 1) := by decide +kernel
theorem d_law_392 : decode code 392 = .ok (.aload_n 1, 1) := by decide +kernel
theorem d_law_393 : decode code 393 = .ok (.aload_n 0, 1) := by decide +kernel
theorem d_law_394 : decode code 394 = .ok (.iload_n 3, 1) := by decide +kernel
theorem d_law_395 : decode code 395 = .ok (.iconst 1, 1) := by decide +kernel
theorem d_law_396 : decode code 396 = .ok (.iadd, 1) := by decide +kernel
theorem d_law_397 : decode code 397 = .ok (.iaload, 1) := by decide +kernel
theorem d_law_398 : decode code 398 = .ok (.invokevirtual 57, 3) := by decide +kernel
theorem d_law_401 : decode code 401 = .ok (.aload_n 2, 1) := by decide +kernel
theorem d_law_402 : decode code 402 = .ok (.aload_n 0, 1) := by decide +kernel
theorem d_law_403 : decode code 403 = .ok (.iload_n 3, 1) := by decide +kernel
theorem d_law_404 : decode code 404 = .ok (.iconst 1, 1) := by decide +kernel
theorem d_law_405 : decode code 405 = .ok (.iadd, 1) := by decide +kernel
theorem d_law_406 : decode code 406 = .ok (.iaload, 1) := by decide +kernel
theorem d_law_407 : decode code 407 = .ok (.invokevirtual 60, 3) := by decide +kernel
theorem d_law_410 : decode code 410 = .ok (.if_icmp .eq 38, 3) := by decide +kernel
theorem d_law_413 : decode code 413 = .ok (.iconst 0, 1) := by decide +kernel
theorem d_law_414 : decode code 414 = .ok (.ireturn, 1) := by decide +kernel
theorem d_law_415 : decode code 415 = .ok (.aload_n 1, 1) := by decide +kernel
theorem d_law_416 : decode code 416 = .ok (.aload_n 0, 1) := by decide +kernel
theorem d_law_417 : decode code 417 = .ok (.iload_n 3, 1) := by decide +kernel
theorem d_law_418 : decode code 418 = .ok (.iconst 1, 1) := by decide +kernel
theorem d_law_419 : decode code 419 = .ok (.iadd, 1) := by decide +kernel
theorem d_law_420 : decode code 420 = .ok (.iaload, 1) := by decide +kernel
theorem d_law_421 : decode code 421 = .ok (.aload_n 0, 1) := by decide +kernel
theorem d_law_422 : decode code 422 = .ok (.iload_n 3, 1) := by decide +kernel
theorem d_law_423 : decode code 423 = .ok (.iconst 2, 1) := by decide +kernel
theorem d_law_424 : decode code 424 = .ok (.iadd, 1) := by decide +kernel
theorem d_law_425 : decode code 425 = .ok (.iaload, 1) := by decide +kernel
theorem d_law_426 : decode code 426 = .ok (.invokevirtual 61, 3) := by decide +kernel
theorem d_law_429 : decode code 429 = .ok (.aload_n 2, 1) := by decide +kernel
theorem d_law_430 : decode code 430 = .ok (.aload_n 0, 1) := by decide +kernel
theorem d_law_431 : decode code 431 = .ok (.iload_n 3, 1) := by decide +kernel
theorem d_law_432 : decode code 432 = .ok (.iconst 1, 1) := by decide +kernel
theorem d_law_433 : decode code 433 = .ok (.iadd, 1) := by decide +kernel
theorem d_law_434 : decode code 434 = .ok (.iaload, 1) := by decide +kernel
theorem d_law_435 : decode code 435 = .ok (.aload_n 0, 1) := by decide +kernel
theorem d_law_436 : decode code 436 = .ok (.iload_n 3, 1) := by decide +kernel
theorem d_law_437 : decode code 437 = .ok (.iconst 2, 1) := by decide +kernel
theorem d_law_438 : decode code 438 = .ok (.iadd, 1) := by decide +kernel
theorem d_law_439 : decode code 439 = .ok (.iaload, 1) := by decide +kernel
theorem d_law_440 : decode code 440 = .ok (.invokevirtual 64, 3) := by decide +kernel
theorem d_law_443 : decode code 443 = .ok (.if_icmp .eq 5, 3) := by decide +kernel
theorem d_law_446 : decode code 446 = .ok (.iconst 0, 1) := by decide +kernel
theorem d_law_447 : decode code 447 = .ok (.ireturn, 1) := by decide +kernel
theorem d_law_448 : decode code 448 = .ok (.iinc 3 3, 3) := by decide +kernel
theorem d_law_451 : decode code 451 = .ok (.goto (-433), 3) := by decide +kernel
theorem d_law_454 : decode code 454 = .ok (.iconst 1, 1) := by decide +kernel
theorem d_law_455 : decode code 455 = .ok (.ireturn, 1) := by decide +kernel
end
section
/-! THE CLAIM OUT OF ONE WALK OF THE LAW'S BODY. Your part is whole_start (and what it stands on); all else here is the same for every law, but numbers. -/
def R_law : String := "ModeKeeperLaw"
def lw_P (b : Addr) (xs : List Int32) (args : Array Value) (s : State) : Prop := args = #[.ref b] ∧ s.IntsAt b xs ∧ xs.length ≤ 1536 ∧ (Jvm.Cond.and given_1 narrow_1).before args s = true
def lw_Q (_ : Array Value) (s : State) (o : Outcome) (t : State) : Prop := o = .returned (some (.int 1)) ∧ Framed s o t [] 600000 7302250
def lw_Z (below : List Frame) (a : Array Value) (s : State) : State → Prop := fun t => ∃ o, t.status = .running ∧ Ended t below o ∧ lw_Q a s o t
/-- the law's own end, with 1 on the stack, nothing written that was there before, its room as the claim has it -/
theorem lw_ret {p : Program} {l : Launch} {e : Env} {s : State} {m : MethodId} {below : List Frame} {meth : Method} {c : Code} {b : Nat} (hx : p.tables.exec = Jvm.exec) (hb : c.code = code) (hr : meth.sig.returnType = ret) (hlocks : meth.locks = false) {pc : Nat} {H : Heap} {ls : Array Slot} (hdg : decode code pc = .ok (.ireturn, 1)) : W p l e room_1 s m #[Value.ref b] below meth c H [] 600000 7302250 (lw_Z below #[Value.ref b] s) (F0 m pc ls [.int 1]) := by
  intro T hT X
  obtain ⟨fs, hret, hrun, hended, hW, hframe⟩ := X.leave (v := some (.int 1)) (hlocks := hlocks) (fun h => by rw [hr] at h; cases h)
  have hmeth' : T.vm.method? m = some meth := X.method'
  refine ⟨T.setFrames fs, ?_, .returned (some (.int 1)), hrun, hended, rfl, ⟨_, rfl⟩, hW, hframe⟩
  jvm_step X.here [X.here.top, hx, hb, hdg, hmeth', hr, ret, narrow_b1]
  (try refine ⟨rfl, ?_⟩); (try refine ⟨rfl, ?_⟩)
  first | (intro acts; rw [hret _ acts rfl rfl rfl]) | rw [hret _ _ rfl rfl rfl]
  exact Steps.refl _
/-- what holds at the law's entry: the machine, the code, the tables' words (any of lw_tbl by 'hts w (by decide +kernel)'), the script of L ints xs at the cell b, what the Statement gives of the start (any of its parts by flat_of_before) -/
def lw_At (p : Program) (s : State) (m : MethodId) (meth : Method) (c : Code) (b L : Nat) (xs : Nat → Int32) : Prop :=
  p.tables.exec = Jvm.exec ∧ c.code = code ∧ meth.sig.returnType = ret ∧ c.maxLocals = 4 ∧ s.vm.findClass R_law = some m.cls ∧ (∀ w ∈ lw_tbl, w.before #[Value.ref b] s = true) ∧ va_X b L xs s s.heap ∧ b < s.heap.size ∧ meth.locks = false ∧ (Jvm.Cond.and given_1 narrow_1).before #[Value.ref b] s = true

theorem ql_0 : Cond.methodLink R_law 13 y_ModeKeeper_move ∈ wAll := wAll_of 81 rfl rfl
theorem ql_1 : Cond.instanceMethod y_ModeKeeper_move ∈ wAll := wAll_of 82 rfl rfl
theorem ql_2 : Cond.selects R_ModeKeeper y_ModeKeeper_move y_ModeKeeper_move ∈ wAll := wAll_of 83 rfl rfl
theorem ql_3 : Cond.methodLink R_law 17 y_Model_move ∈ wAll := wAll_of 200 rfl rfl
theorem ql_4 : Cond.instanceMethod y_Model_move ∈ wAll := wAll_of 201 rfl rfl
theorem ql_5 : Cond.selects R_Model y_Model_move y_Model_move ∈ wAll := wAll_of 202 rfl rfl
theorem ql_6 : Cond.methodLink R_law 18 y_ModeKeeper_enter ∈ wAll := wAll_of 88 rfl rfl
theorem ql_7 : Cond.instanceMethod y_ModeKeeper_enter ∈ wAll := wAll_of 89 rfl rfl
theorem ql_8 : Cond.selects R_ModeKeeper y_ModeKeeper_enter y_ModeKeeper_enter ∈ wAll := wAll_of 90 rfl rfl
theorem ql_9 : Cond.methodLink R_law 22 y_Model_enter ∈ wAll := wAll_of 204 rfl rfl
theorem ql_10 : Cond.instanceMethod y_Model_enter ∈ wAll := wAll_of 205 rfl rfl
theorem ql_11 : Cond.selects R_Model y_Model_enter y_Model_enter ∈ wAll := wAll_of 206 rfl rfl
theorem ql_12 : Cond.methodLink R_law 23 y_ModeKeeper_alarm ∈ wAll := wAll_of 101 rfl rfl
theorem ql_13 : Cond.instanceMethod y_ModeKeeper_alarm ∈ wAll := wAll_of 102 rfl rfl
theorem ql_14 : Cond.selects R_ModeKeeper y_ModeKeeper_alarm y_ModeKeeper_alarm ∈ wAll := wAll_of 103 rfl rfl
theorem ql_15 : Cond.methodLink R_law 27 y_Model_alarm ∈ wAll := wAll_of 212 rfl rfl
theorem ql_16 : Cond.instanceMethod y_Model_alarm ∈ wAll := wAll_of 213 rfl rfl
theorem ql_17 : Cond.selects R_Model y_Model_alarm y_Model_alarm ∈ wAll := wAll_of 214 rfl rfl
theorem ql_18 : Cond.methodLink R_law 28 y_ModeKeeper_look ∈ wAll := wAll_of 105 rfl rfl
theorem ql_19 : Cond.instanceMethod y_ModeKeeper_look ∈ wAll := wAll_of 106 rfl rfl
theorem ql_20 : Cond.selects R_ModeKeeper y_ModeKeeper_look y_ModeKeeper_look ∈ wAll := wAll_of 107 rfl rfl
theorem ql_21 : Cond.methodLink R_law 31 y_Model_look ∈ wAll := wAll_of 216 rfl rfl
theorem ql_22 : Cond.instanceMethod y_Model_look ∈ wAll := wAll_of 217 rfl rfl
theorem ql_23 : Cond.selects R_Model y_Model_look y_Model_look ∈ wAll := wAll_of 218 rfl rfl
theorem ql_24 : Cond.methodLink R_law 32 y_ModeKeeper_put ∈ wAll := wAll_of 109 rfl rfl
theorem ql_25 : Cond.instanceMethod y_ModeKeeper_put ∈ wAll := wAll_of 110 rfl rfl
theorem ql_26 : Cond.selects R_ModeKeeper y_ModeKeeper_put y_ModeKeeper_put ∈ wAll := wAll_of 111 rfl rfl
theorem ql_27 : Cond.methodLink R_law 35 y_Model_put ∈ wAll := wAll_of 220 rfl rfl
theorem ql_28 : Cond.instanceMethod y_Model_put ∈ wAll := wAll_of 221 rfl rfl
theorem ql_29 : Cond.selects R_Model y_Model_put y_Model_put ∈ wAll := wAll_of 222 rfl rfl
theorem ql_30 : Cond.methodLink R_law 36 y_ModeKeeper_form ∈ wAll := wAll_of 113 rfl rfl
theorem ql_31 : Cond.instanceMethod y_ModeKeeper_form ∈ wAll := wAll_of 114 rfl rfl
theorem ql_32 : Cond.selects R_ModeKeeper y_ModeKeeper_form y_ModeKeeper_form ∈ wAll := wAll_of 115 rfl rfl
theorem ql_33 : Cond.methodLink R_law 39 y_Model_form ∈ wAll := wAll_of 224 rfl rfl
theorem ql_34 : Cond.instanceMethod y_Model_form ∈ wAll := wAll_of 225 rfl rfl
theorem ql_35 : Cond.selects R_Model y_Model_form y_Model_form ∈ wAll := wAll_of 226 rfl rfl
theorem ql_36 : Cond.methodLink R_law 40 y_ModeKeeper_remove ∈ wAll := wAll_of 129 rfl rfl
theorem ql_37 : Cond.instanceMethod y_ModeKeeper_remove ∈ wAll := wAll_of 130 rfl rfl
theorem ql_38 : Cond.selects R_ModeKeeper y_ModeKeeper_remove y_ModeKeeper_remove ∈ wAll := wAll_of 131 rfl rfl
theorem ql_39 : Cond.methodLink R_law 43 y_Model_remove ∈ wAll := wAll_of 232 rfl rfl
theorem ql_40 : Cond.instanceMethod y_Model_remove ∈ wAll := wAll_of 233 rfl rfl
theorem ql_41 : Cond.selects R_Model y_Model_remove y_Model_remove ∈ wAll := wAll_of 234 rfl rfl
theorem ql_42 : Cond.methodLink R_law 44 y_ModeKeeper_enable ∈ wAll := wAll_of 133 rfl rfl
theorem ql_43 : Cond.instanceMethod y_ModeKeeper_enable ∈ wAll := wAll_of 134 rfl rfl
theorem ql_44 : Cond.selects R_ModeKeeper y_ModeKeeper_enable y_ModeKeeper_enable ∈ wAll := wAll_of 135 rfl rfl
theorem ql_45 : Cond.methodLink R_law 48 y_Model_enable ∈ wAll := wAll_of 240 rfl rfl
theorem ql_46 : Cond.instanceMethod y_Model_enable ∈ wAll := wAll_of 241 rfl rfl
theorem ql_47 : Cond.selects R_Model y_Model_enable y_Model_enable ∈ wAll := wAll_of 242 rfl rfl
theorem ql_48 : Cond.methodLink R_law 49 y_ModeKeeper_due ∈ wAll := wAll_of 137 rfl rfl
theorem ql_49 : Cond.instanceMethod y_ModeKeeper_due ∈ wAll := wAll_of 138 rfl rfl
theorem ql_50 : Cond.selects R_ModeKeeper y_ModeKeeper_due y_ModeKeeper_due ∈ wAll := wAll_of 139 rfl rfl
theorem ql_51 : Cond.methodLink R_law 52 y_Model_due ∈ wAll := wAll_of 244 rfl rfl
theorem ql_52 : Cond.instanceMethod y_Model_due ∈ wAll := wAll_of 245 rfl rfl
theorem ql_53 : Cond.selects R_Model y_Model_due y_Model_due ∈ wAll := wAll_of 246 rfl rfl
theorem ql_54 : Cond.methodLink R_law 53 y_ModeKeeper_parameter ∈ wAll := wAll_of 144 rfl rfl
theorem ql_55 : Cond.instanceMethod y_ModeKeeper_parameter ∈ wAll := wAll_of 145 rfl rfl
theorem ql_56 : Cond.selects R_ModeKeeper y_ModeKeeper_parameter y_ModeKeeper_parameter ∈ wAll := wAll_of 146 rfl rfl
theorem ql_57 : Cond.methodLink R_law 56 y_Model_parameter ∈ wAll := wAll_of 248 rfl rfl
theorem ql_58 : Cond.instanceMethod y_Model_parameter ∈ wAll := wAll_of 249 rfl rfl
theorem ql_59 : Cond.selects R_Model y_Model_parameter y_Model_parameter ∈ wAll := wAll_of 250 rfl rfl
theorem ql_60 : Cond.methodLink R_law 57 y_ModeKeeper_value ∈ wAll := wAll_of 148 rfl rfl
theorem ql_61 : Cond.instanceMethod y_ModeKeeper_value ∈ wAll := wAll_of 149 rfl rfl
theorem ql_62 : Cond.selects R_ModeKeeper y_ModeKeeper_value y_ModeKeeper_value ∈ wAll := wAll_of 150 rfl rfl
theorem ql_63 : Cond.methodLink R_law 60 y_Model_value ∈ wAll := wAll_of 252 rfl rfl
theorem ql_64 : Cond.instanceMethod y_Model_value ∈ wAll := wAll_of 253 rfl rfl
theorem ql_65 : Cond.selects R_Model y_Model_value y_Model_value ∈ wAll := wAll_of 254 rfl rfl
theorem ql_66 : Cond.methodLink R_law 61 y_ModeKeeper_about ∈ wAll := wAll_of 152 rfl rfl
theorem ql_67 : Cond.instanceMethod y_ModeKeeper_about ∈ wAll := wAll_of 153 rfl rfl
theorem ql_68 : Cond.selects R_ModeKeeper y_ModeKeeper_about y_ModeKeeper_about ∈ wAll := wAll_of 154 rfl rfl
theorem ql_69 : Cond.methodLink R_law 64 y_Model_about ∈ wAll := wAll_of 256 rfl rfl
theorem ql_70 : Cond.instanceMethod y_Model_about ∈ wAll := wAll_of 257 rfl rfl
theorem ql_71 : Cond.selects R_Model y_Model_about y_Model_about ∈ wAll := wAll_of 258 rfl rfl
theorem ql_72 : Cond.instantiable R_ModeKeeper 9 ∈ wAll := wAll_of 13 rfl rfl
theorem ql_73 : Cond.instantiable R_Model 12 ∈ wAll := wAll_of 157 rfl rfl
theorem ql_74 : Cond.classLink R_law 7 R_ModeKeeper ∈ wAll := wAll_of 12 rfl rfl
theorem ql_75 : Cond.methodLink R_law 9 y_ModeKeeper_init ∈ wAll := wAll_of 14 rfl rfl
theorem ql_76 : Cond.instanceMethod y_ModeKeeper_init ∈ wAll := wAll_of 15 rfl rfl
theorem ql_77 : Cond.classLink R_law 10 R_Model ∈ wAll := wAll_of 156 rfl rfl
theorem ql_78 : Cond.methodLink R_law 12 y_Model_init ∈ wAll := wAll_of 158 rfl rfl
theorem ql_79 : Cond.instanceMethod y_Model_init ∈ wAll := wAll_of 159 rfl rfl
end
section
set_option maxHeartbeats 16000000 in
set_option maxRecDepth 100000 in
theorem law_loop {p : Program} {l : Launch} {e : Env} {s : State} {m : MethodId} {below : List Frame} {meth : Method} {c : Code} {dC : Nat → ClassId} {dI : Nat → Nat → Nat} {b L : Nat} {xs : Nat → Int32} (hL : L ≤ 1536) (C0 : lw_At p s m meth c b L xs) (hN : gN s) {tS : Nat} (hZ : gZ tS (fun q : Nat => s.heap.size ≤ q) s s.heap) {ad bd : Nat → Nat} {cI cF cZ : ClassId} (hKK : va_K (dC, dI) classes (tyK cI cF) s) (hKM : va_K (dC, dI) classes (tyM cI cZ) s) :
    ∀ (n i : Nat), i ≤ L → L + 1 ≤ i + n → ∀ (k act txt : Nat → Int32) (F pr : Nat → Nat → Int32) (j ac tx ev on mn pm : Nat → Int32), Rl k act txt F pr j ac tx ev on mn pm → ∀ (H : Heap) (locs : List Loc), va_P (dC, dI) classes (wK ad cI cF k act txt F pr) H → va_P (dC, dI) classes (wM bd cI cZ j ac tx ev on mn pm) H → va_D (fun q : Nat => s.heap.size ≤ q) ((wK ad cI cF k act txt F pr) ++ (wM bd cI cZ j ac tx ev on mn pm)) → va_S (fun q : Nat => s.heap.size ≤ q) s.heap H locs → ∀ (ls : Array Slot), lv_has ls 4 [(0, .ref b), (1, .ref (ad 0)), (2, .ref (bd 0)), (3, .int (nI i))] → W p l e room_1 s m #[Value.ref b] below meth c H locs 600000 7302250 (lw_Z below #[Value.ref b] s) (F0 m 18 ls []) := by
  obtain ⟨hx, hb, hrr, hml, hown, hts, hX, hbl, hlocks, hgv⟩ := C0
  have hq : ∀ w ∈ wAll, w.before #[Value.ref b] s = true := fun w h => hts w (List.mem_filter.mp h).1
  have hA : ∀ q : Nat, s.heap.size ≤ q → (fun q : Nat => s.heap.size ≤ q) q := fun _ h => h
  have hbA : ¬ (fun q : Nat => s.heap.size ≤ q) b := Nat.not_le.mpr hbl
  intro n
  induction n with
  | zero =>
    intro i h1 h2
    exact absurd h2 (by omega)
  | succ n ih =>
    intro i hi hin k act txt F pr j ac tx ev on mn pm hR H locs hPK hPM hD hS ls hl
    refine lv_iload_n hx hb d_law_18 rfl (lv_at hl 3 rfl) ?_
    refine lv_aload_n hx hb d_law_19 rfl (lv_at hl 0 rfl) ?_
    refine va_slen (A := (fun q : Nat => s.heap.size ≤ q)) hx hb hX hbl hbA hS d_law_20 ?_
    refine lv_iconst (v := 3) hx hb d_law_21 (by decide) ?_
    refine lv_isub hx hb d_law_22 ?_
    refine lv_icmp_gt (tgt := 454) hx hb d_law_23 (by decide) (fun c_1 => ?_) (fun c_1 => ?_)
    · refine lv_iconst (v := 1) hx hb d_law_454 (by decide) ?_
      refine va_forget (fun q hq => hS.2.2 q hq) ?_
      exact lw_ret hx hb hrr hlocks d_law_455
    · have hiL : i + 3 ≤ L := by
        rw [Int32.lt_iff_toInt_lt, show (Int32.ofNat L - 3).toInt = (L : Int) - 3 from pk_sub_toInt (a := L) (b := 3) (by omega) (by decide), nI_toInt (by omega)] at c_1
        omega
      have hi0 : vp_in (nI i) L := vp_in_nI (by omega) (by omega)
      have hi1 : vp_in (nI i + 1) L := by rw [nI_1]; exact vp_in_nI (by omega) (by omega)
      have hi2 : vp_in (nI i + 2) L := by rw [show nI i + 2 = nI i + nI 2 from rfl, nI_add]; exact vp_in_nI (by omega) (by omega)
      obtain ⟨v0, ev0⟩ : ∃ y : Int32, xs (nI i).toNatClampNeg = y := ⟨_, rfl⟩
      obtain ⟨v1, ev1⟩ : ∃ y : Int32, xs (nI i + 1).toNatClampNeg = y := ⟨_, rfl⟩
      obtain ⟨v2, ev2⟩ : ∃ y : Int32, xs (nI i + 2).toNatClampNeg = y := ⟨_, rfl⟩
      obtain ⟨t, ht8, hk6⟩ := hR.2.2.2.2.2.1
      have hj6 : j 6 = nI t := by rw [← hR.2.2.2.2.1]; exact hk6
      have hct := hR.2.2.2.2.2.2.2.2.2.2.2.1
      have hmn := hR.2.2.2.2.2.2.2.2.2.2.2.2.1
      refine lv_aload_n hx hb d_law_26 rfl (lv_at hl 0 rfl) ?_
      refine lv_iload_n hx hb d_law_27 rfl (lv_at hl 3 rfl) ?_
      refine va_sld (A := (fun q : Nat => s.heap.size ≤ q)) hx hb hX hbl hbA hS hi0 d_law_28 ?_
      rw [ev0]
      refine lv_bipush (v := 15) hx hb d_law_29 (by decide) ?_
      refine lv_iand hx hb d_law_31 ?_
      by_cases h_2 : (v0 &&& 15) = 0
      · refine lv_tableIn (tgt := 96) hx hb d_law_32 (by rw [h_2]; decide) (by rw [h_2]; decide) (by rw [h_2]; rfl) (by decide) ?_
        refine lv_aload_n hx hb d_law_96 rfl (lv_at hl 1 rfl) ?_
        refine lv_aload_n hx hb d_law_97 rfl (lv_at hl 0 rfl) ?_
        refine lv_iload_n hx hb d_law_98 rfl (lv_at hl 3 rfl) ?_
        refine lv_iconst (v := 1) hx hb d_law_99 (by decide) ?_
        refine lv_iadd hx hb d_law_100 ?_
        refine va_sld (A := (fun q : Nat => s.heap.size ≤ q)) hx hb hX hbl hbA hS hi1 d_law_101 ?_
        rw [ev1]
        refine lv_aload_n hx hb d_law_102 rfl (lv_at hl 0 rfl) ?_
        refine lv_iload_n hx hb d_law_103 rfl (lv_at hl 3 rfl) ?_
        refine lv_iconst (v := 2) hx hb d_law_104 (by decide) ?_
        refine lv_iadd hx hb d_law_105 ?_
        refine va_sld (A := (fun q : Nat => s.heap.size ≤ q)) hx hb hX hbl hbA hS hi2 d_law_106 ?_
        rw [ev2]
        refine g_calliL (va_runV (As := [.int v1, .int v2]) (rest := []) ⟨hx, hb, hml, hown, hq⟩ (c_ModeKeeper_move l dC dI ad H.size cI cF k act txt F pr v1 v2) ⟨callB_of 2 hq (gd m_ModeKeeper_move) rfl rfl rfl (hq _ qk_10) (hq _ ql_0) (by decide +kernel) ⟨Nat.le_of_ble_eq_true rfl, Nat.le_of_ble_eq_true rfl⟩, (hq _ ql_1), (hq _ ql_2)⟩ ⟨g_blind, va_recv hKK hPK (ci := 0) (q0 := 0) rfl rfl, g_pre hPK hKK (g_DL hD) hN⟩ rfl rfl hl.1 rfl (lv_room (Nat.le_of_ble_eq_true rfl)) d_law_107 ⟨Nat.le_of_ble_eq_true rfl, Nat.le_of_ble_eq_true rfl⟩) hPM hD hS hA (fun r H locs hr hPK hPM hD hS => ?_)
        subst hr
        refine lv_aload_n hx hb d_law_110 rfl (lv_at hl 2 rfl) ?_
        refine lv_aload_n hx hb d_law_111 rfl (lv_at hl 0 rfl) ?_
        refine lv_iload_n hx hb d_law_112 rfl (lv_at hl 3 rfl) ?_
        refine lv_iconst (v := 1) hx hb d_law_113 (by decide) ?_
        refine lv_iadd hx hb d_law_114 ?_
        refine va_sld (A := (fun q : Nat => s.heap.size ≤ q)) hx hb hX hbl hbA hS hi1 d_law_115 ?_
        rw [ev1]
        refine lv_aload_n hx hb d_law_116 rfl (lv_at hl 0 rfl) ?_
        refine lv_iload_n hx hb d_law_117 rfl (lv_at hl 3 rfl) ?_
        refine lv_iconst (v := 2) hx hb d_law_118 (by decide) ?_
        refine lv_iadd hx hb d_law_119 ?_
        refine va_sld (A := (fun q : Nat => s.heap.size ≤ q)) hx hb hX hbl hbA hS hi2 d_law_120 ?_
        rw [ev2]
        refine g_calliR (va_runV (As := [.int v1, .int v2]) (rest := [.int (kMvR k v1)]) ⟨hx, hb, hml, hown, hq⟩ (c_Model_move l dC dI bd H.size cI cZ j ac tx ev on mn pm v1 v2) ⟨callB_of 2 hq (gd m_Model_move) rfl rfl rfl (hq _ qm_5) (hq _ ql_3) (by decide +kernel) ⟨Nat.le_of_ble_eq_true rfl, Nat.le_of_ble_eq_true rfl⟩, (hq _ ql_4), (hq _ ql_5)⟩ ⟨g_blind, va_recv hKM hPM (ci := 2) (q0 := 0) rfl rfl, g_pre hPM hKM (g_DR hD) hN⟩ rfl rfl hl.1 rfl (lv_room (Nat.le_of_ble_eq_true rfl)) d_law_121 ⟨Nat.le_of_ble_eq_true rfl, Nat.le_of_ble_eq_true rfl⟩) hPK hD hS hA (fun r H locs hr hPK hPM hD hS => ?_)
        subst hr
        refine lv_icmp_eq (tgt := 448) hx hb d_law_124 (by decide) (fun c_3 => ?_) (fun c_3 => ?_)
        · refine lv_iinc (v := (nI (i + 3))) (lv' := [(3, .int (nI (i + 3))), (0, .ref b), (1, .ref (ad 0)), (2, .ref (bd 0))]) hx hb d_law_448 hl (k := 3) rfl ((show nI i + Int32.ofInt 3 = nI i + nI 3 from rfl).trans (nI_add i 3)) (by decide) rfl (fun ls hl => ?_)
          refine lv_goto (tgt := 18) hx hb d_law_451 (by decide) ?_
          exact ih (i + 3) (by omega) (by omega) k ((kMvA k act v1 v2)) txt F pr ((upd j 0 0)) ((mMvA j ac v1 v2)) tx ev on mn pm (l_move hR v1 v2).2 H locs hPK hPM hD hS ls (lv_sub hl [1, 2, 3, 0] rfl)
        · exact absurd (l_move hR v1 v2).1 c_3
      · by_cases h_4 : (v0 &&& 15) = 1
        · refine lv_tableIn (tgt := 129) hx hb d_law_32 (by rw [h_4]; decide) (by rw [h_4]; decide) (by rw [h_4]; rfl) (by decide) ?_
          refine lv_aload_n hx hb d_law_129 rfl (lv_at hl 1 rfl) ?_
          refine lv_aload_n hx hb d_law_130 rfl (lv_at hl 0 rfl) ?_
          refine lv_iload_n hx hb d_law_131 rfl (lv_at hl 3 rfl) ?_
          refine lv_iconst (v := 1) hx hb d_law_132 (by decide) ?_
          refine lv_iadd hx hb d_law_133 ?_
          refine va_sld (A := (fun q : Nat => s.heap.size ≤ q)) hx hb hX hbl hbA hS hi1 d_law_134 ?_
          rw [ev1]
          refine g_calliL (va_runV (As := [.int v1]) (rest := []) ⟨hx, hb, hml, hown, hq⟩ (c_ModeKeeper_enter l dC dI ad H.size cI cF k act txt F pr v1 tS) ⟨callB_of 1 hq (gd m_ModeKeeper_enter) rfl rfl rfl (hq _ qk_10) (hq _ ql_6) (by decide +kernel) ⟨Nat.le_of_ble_eq_true rfl, Nat.le_of_ble_eq_true rfl⟩, (hq _ ql_7), (hq _ ql_8)⟩ ⟨g_blindZ, va_recv hKK hPK (ci := 0) (q0 := 0) rfl rfl, g_preZ hPK hKK (g_DL hD) hN (hZ.pass (g_DL hD) hS hA)⟩ rfl rfl hl.1 rfl (lv_room (Nat.le_of_ble_eq_true rfl)) d_law_135 ⟨Nat.le_of_ble_eq_true rfl, Nat.le_of_ble_eq_true rfl⟩) hPM hD hS hA (fun r H locs hr hPK hPM hD hS => ?_)
          subst hr
          refine lv_aload_n hx hb d_law_138 rfl (lv_at hl 2 rfl) ?_
          refine lv_aload_n hx hb d_law_139 rfl (lv_at hl 0 rfl) ?_
          refine lv_iload_n hx hb d_law_140 rfl (lv_at hl 3 rfl) ?_
          refine lv_iconst (v := 1) hx hb d_law_141 (by decide) ?_
          refine lv_iadd hx hb d_law_142 ?_
          refine va_sld (A := (fun q : Nat => s.heap.size ≤ q)) hx hb hX hbl hbA hS hi1 d_law_143 ?_
          rw [ev1]
          refine g_calliR (va_runV (As := [.int v1]) (rest := [.int (kEnR k v1)]) ⟨hx, hb, hml, hown, hq⟩ (c_Model_enter l dC dI bd H.size cI cZ j ac tx ev on mn pm v1) ⟨callB_of 1 hq (gd m_Model_enter) rfl rfl rfl (hq _ qm_5) (hq _ ql_9) (by decide +kernel) ⟨Nat.le_of_ble_eq_true rfl, Nat.le_of_ble_eq_true rfl⟩, (hq _ ql_10), (hq _ ql_11)⟩ ⟨g_blind, va_recv hKM hPM (ci := 2) (q0 := 0) rfl rfl, g_pre hPM hKM (g_DR hD) hN⟩ rfl rfl hl.1 rfl (lv_room (Nat.le_of_ble_eq_true rfl)) d_law_144 ⟨Nat.le_of_ble_eq_true rfl, Nat.le_of_ble_eq_true rfl⟩) hPK hD hS hA (fun r H locs hr hPK hPM hD hS => ?_)
          subst hr
          refine lv_icmp_eq (tgt := 448) hx hb d_law_147 (by decide) (fun c_5 => ?_) (fun c_5 => ?_)
          · refine lv_iinc (v := (nI (i + 3))) (lv' := [(3, .int (nI (i + 3))), (0, .ref b), (1, .ref (ad 0)), (2, .ref (bd 0))]) hx hb d_law_448 hl (k := 3) rfl ((show nI i + Int32.ofInt 3 = nI i + nI 3 from rfl).trans (nI_add i 3)) (by decide) rfl (fun ls hl => ?_)
            refine lv_goto (tgt := 18) hx hb d_law_451 (by decide) ?_
            exact ih (i + 3) (by omega) (by omega) ((kEnK k v1)) ((kEnA k act v1)) txt F pr ((mEnJ j v1)) ((mEnA j ac v1)) tx ev on mn pm (l_enter hR v1).2 H locs hPK hPM hD hS ls (lv_sub hl [1, 2, 3, 0] rfl)
          · exact absurd (l_enter hR v1).1 c_5
        · by_cases h_6 : (v0 &&& 15) = 2
          · refine lv_tableIn (tgt := 152) hx hb d_law_32 (by rw [h_6]; decide) (by rw [h_6]; decide) (by rw [h_6]; rfl) (by decide) ?_
            refine lv_aload_n hx hb d_law_152 rfl (lv_at hl 1 rfl) ?_
            refine lv_aload_n hx hb d_law_153 rfl (lv_at hl 0 rfl) ?_
            refine lv_iload_n hx hb d_law_154 rfl (lv_at hl 3 rfl) ?_
            refine lv_iconst (v := 1) hx hb d_law_155 (by decide) ?_
            refine lv_iadd hx hb d_law_156 ?_
            refine va_sld (A := (fun q : Nat => s.heap.size ≤ q)) hx hb hX hbl hbA hS hi1 d_law_157 ?_
            rw [ev1]
            refine g_calliL (va_runV (As := [.int v1]) (rest := []) ⟨hx, hb, hml, hown, hq⟩ (c_ModeKeeper_alarm l dC dI ad H.size cI cF k act txt F pr v1) ⟨callB_of 1 hq (gd m_ModeKeeper_alarm) rfl rfl rfl (hq _ qk_10) (hq _ ql_12) (by decide +kernel) ⟨Nat.le_of_ble_eq_true rfl, Nat.le_of_ble_eq_true rfl⟩, (hq _ ql_13), (hq _ ql_14)⟩ ⟨g_blind, va_recv hKK hPK (ci := 0) (q0 := 0) rfl rfl, g_pre hPK hKK (g_DL hD) hN⟩ rfl rfl hl.1 rfl (lv_room (Nat.le_of_ble_eq_true rfl)) d_law_158 ⟨Nat.le_of_ble_eq_true rfl, Nat.le_of_ble_eq_true rfl⟩) hPM hD hS hA (fun r H locs hr hPK hPM hD hS => ?_)
            subst hr
            refine lv_aload_n hx hb d_law_161 rfl (lv_at hl 2 rfl) ?_
            refine lv_aload_n hx hb d_law_162 rfl (lv_at hl 0 rfl) ?_
            refine lv_iload_n hx hb d_law_163 rfl (lv_at hl 3 rfl) ?_
            refine lv_iconst (v := 1) hx hb d_law_164 (by decide) ?_
            refine lv_iadd hx hb d_law_165 ?_
            refine va_sld (A := (fun q : Nat => s.heap.size ≤ q)) hx hb hX hbl hbA hS hi1 d_law_166 ?_
            rw [ev1]
            refine g_calliR (va_runV (As := [.int v1]) (rest := [.int (kAlR k)]) ⟨hx, hb, hml, hown, hq⟩ (c_Model_alarm l dC dI bd H.size cI cZ j ac tx ev on mn pm v1) ⟨callB_of 1 hq (gd m_Model_alarm) rfl rfl rfl (hq _ qm_5) (hq _ ql_15) (by decide +kernel) ⟨Nat.le_of_ble_eq_true rfl, Nat.le_of_ble_eq_true rfl⟩, (hq _ ql_16), (hq _ ql_17)⟩ ⟨g_blind, va_recv hKM hPM (ci := 2) (q0 := 0) rfl rfl, g_pre hPM hKM (g_DR hD) hN⟩ rfl rfl hl.1 rfl (lv_room (Nat.le_of_ble_eq_true rfl)) d_law_167 ⟨Nat.le_of_ble_eq_true rfl, Nat.le_of_ble_eq_true rfl⟩) hPK hD hS hA (fun r H locs hr hPK hPM hD hS => ?_)
            subst hr
            refine lv_icmp_eq (tgt := 448) hx hb d_law_170 (by decide) (fun c_7 => ?_) (fun c_7 => ?_)
            · refine lv_iinc (v := (nI (i + 3))) (lv' := [(3, .int (nI (i + 3))), (0, .ref b), (1, .ref (ad 0)), (2, .ref (bd 0))]) hx hb d_law_448 hl (k := 3) rfl ((show nI i + Int32.ofInt 3 = nI i + nI 3 from rfl).trans (nI_add i 3)) (by decide) rfl (fun ls hl => ?_)
              refine lv_goto (tgt := 18) hx hb d_law_451 (by decide) ?_
              exact ih (i + 3) (by omega) (by omega) ((kAlK k v1)) act txt F pr ((mAlJ j v1)) ac tx ev on mn pm (l_alarm hR v1).2 H locs hPK hPM hD hS ls (lv_sub hl [1, 2, 3, 0] rfl)
            · exact absurd (l_alarm hR v1).1 c_7
          · by_cases h_8 : (v0 &&& 15) = 3
            · refine lv_tableIn (tgt := 175) hx hb d_law_32 (by rw [h_8]; decide) (by rw [h_8]; decide) (by rw [h_8]; rfl) (by decide) ?_
              refine lv_aload_n hx hb d_law_175 rfl (lv_at hl 1 rfl) ?_
              refine lv_aload_n hx hb d_law_176 rfl (lv_at hl 0 rfl) ?_
              refine lv_iload_n hx hb d_law_177 rfl (lv_at hl 3 rfl) ?_
              refine lv_iconst (v := 1) hx hb d_law_178 (by decide) ?_
              refine lv_iadd hx hb d_law_179 ?_
              refine va_sld (A := (fun q : Nat => s.heap.size ≤ q)) hx hb hX hbl hbA hS hi1 d_law_180 ?_
              rw [ev1]
              refine g_calliL (va_runV (As := [.int v1]) (rest := []) ⟨hx, hb, hml, hown, hq⟩ (c_ModeKeeper_look l dC dI ad H.size cI cF k act txt F pr v1 tS) ⟨callB_of 1 hq (gd m_ModeKeeper_look) rfl rfl rfl (hq _ qk_10) (hq _ ql_18) (by decide +kernel) ⟨Nat.le_of_ble_eq_true rfl, Nat.le_of_ble_eq_true rfl⟩, (hq _ ql_19), (hq _ ql_20)⟩ ⟨g_blindZ, va_recv hKK hPK (ci := 0) (q0 := 0) rfl rfl, g_preZ hPK hKK (g_DL hD) hN (hZ.pass (g_DL hD) hS hA)⟩ rfl rfl hl.1 rfl (lv_room (Nat.le_of_ble_eq_true rfl)) d_law_181 ⟨Nat.le_of_ble_eq_true rfl, Nat.le_of_ble_eq_true rfl⟩) hPM hD hS hA (fun r H locs hr hPK hPM hD hS => ?_)
              subst hr
              refine lv_aload_n hx hb d_law_184 rfl (lv_at hl 2 rfl) ?_
              refine lv_aload_n hx hb d_law_185 rfl (lv_at hl 0 rfl) ?_
              refine lv_iload_n hx hb d_law_186 rfl (lv_at hl 3 rfl) ?_
              refine lv_iconst (v := 1) hx hb d_law_187 (by decide) ?_
              refine lv_iadd hx hb d_law_188 ?_
              refine va_sld (A := (fun q : Nat => s.heap.size ≤ q)) hx hb hX hbl hbA hS hi1 d_law_189 ?_
              rw [ev1]
              refine g_calliR (va_runV (As := [.int v1]) (rest := [.int (kLkR k v1)]) ⟨hx, hb, hml, hown, hq⟩ (c_Model_look l dC dI bd H.size cI cZ j ac tx ev on mn pm v1) ⟨callB_of 1 hq (gd m_Model_look) rfl rfl rfl (hq _ qm_5) (hq _ ql_21) (by decide +kernel) ⟨Nat.le_of_ble_eq_true rfl, Nat.le_of_ble_eq_true rfl⟩, (hq _ ql_22), (hq _ ql_23)⟩ ⟨g_blind, va_recv hKM hPM (ci := 2) (q0 := 0) rfl rfl, g_pre hPM hKM (g_DR hD) hN⟩ rfl rfl hl.1 rfl (lv_room (Nat.le_of_ble_eq_true rfl)) d_law_190 ⟨Nat.le_of_ble_eq_true rfl, Nat.le_of_ble_eq_true rfl⟩) hPK hD hS hA (fun r H locs hr hPK hPM hD hS => ?_)
              subst hr
              refine lv_icmp_eq (tgt := 448) hx hb d_law_193 (by decide) (fun c_9 => ?_) (fun c_9 => ?_)
              · refine lv_iinc (v := (nI (i + 3))) (lv' := [(3, .int (nI (i + 3))), (0, .ref b), (1, .ref (ad 0)), (2, .ref (bd 0))]) hx hb d_law_448 hl (k := 3) rfl ((show nI i + Int32.ofInt 3 = nI i + nI 3 from rfl).trans (nI_add i 3)) (by decide) rfl (fun ls hl => ?_)
                refine lv_goto (tgt := 18) hx hb d_law_451 (by decide) ?_
                exact ih (i + 3) (by omega) (by omega) ((kLkK k v1)) ((kLkA k act v1)) txt F pr ((mLkJ j v1)) ((mLkA j ac v1)) tx ev on mn pm (l_look hR v1).2 H locs hPK hPM hD hS ls (lv_sub hl [1, 2, 3, 0] rfl)
              · exact absurd (l_look hR v1).1 c_9
            · by_cases h_10 : (v0 &&& 15) = 4
              · refine lv_tableIn (tgt := 198) hx hb d_law_32 (by rw [h_10]; decide) (by rw [h_10]; decide) (by rw [h_10]; rfl) (by decide) ?_
                refine lv_aload_n hx hb d_law_198 rfl (lv_at hl 1 rfl) ?_
                refine lv_aload_n hx hb d_law_199 rfl (lv_at hl 0 rfl) ?_
                refine lv_iload_n hx hb d_law_200 rfl (lv_at hl 3 rfl) ?_
                refine lv_iconst (v := 1) hx hb d_law_201 (by decide) ?_
                refine lv_iadd hx hb d_law_202 ?_
                refine va_sld (A := (fun q : Nat => s.heap.size ≤ q)) hx hb hX hbl hbA hS hi1 d_law_203 ?_
                rw [ev1]
                refine g_calliL (va_runV (As := [.int v1]) (rest := []) ⟨hx, hb, hml, hown, hq⟩ (c_ModeKeeper_put l dC dI ad H.size cI cF k act txt F pr v1 t ht8 hk6) ⟨callB_of 1 hq (gd m_ModeKeeper_put) rfl rfl rfl (hq _ qk_10) (hq _ ql_24) (by decide +kernel) ⟨Nat.le_of_ble_eq_true rfl, Nat.le_of_ble_eq_true rfl⟩, (hq _ ql_25), (hq _ ql_26)⟩ ⟨g_blind, va_recv hKK hPK (ci := 0) (q0 := 0) rfl rfl, g_pre hPK hKK (g_DL hD) hN⟩ rfl rfl hl.1 rfl (lv_room (Nat.le_of_ble_eq_true rfl)) d_law_204 ⟨Nat.le_of_ble_eq_true rfl, Nat.le_of_ble_eq_true rfl⟩) hPM hD hS hA (fun r H locs hr hPK hPM hD hS => ?_)
                subst hr
                refine lv_aload_n hx hb d_law_207 rfl (lv_at hl 2 rfl) ?_
                refine lv_aload_n hx hb d_law_208 rfl (lv_at hl 0 rfl) ?_
                refine lv_iload_n hx hb d_law_209 rfl (lv_at hl 3 rfl) ?_
                refine lv_iconst (v := 1) hx hb d_law_210 (by decide) ?_
                refine lv_iadd hx hb d_law_211 ?_
                refine va_sld (A := (fun q : Nat => s.heap.size ≤ q)) hx hb hX hbl hbA hS hi1 d_law_212 ?_
                rw [ev1]
                refine g_calliR (va_runV (As := [.int v1]) (rest := [.int (kPuR k v1)]) ⟨hx, hb, hml, hown, hq⟩ (c_Model_put l dC dI bd H.size cI cZ j ac tx ev on mn pm v1 t ht8 hj6) ⟨callB_of 1 hq (gd m_Model_put) rfl rfl rfl (hq _ qm_5) (hq _ ql_27) (by decide +kernel) ⟨Nat.le_of_ble_eq_true rfl, Nat.le_of_ble_eq_true rfl⟩, (hq _ ql_28), (hq _ ql_29)⟩ ⟨g_blind, va_recv hKM hPM (ci := 2) (q0 := 0) rfl rfl, g_pre hPM hKM (g_DR hD) hN⟩ rfl rfl hl.1 rfl (lv_room (Nat.le_of_ble_eq_true rfl)) d_law_213 ⟨Nat.le_of_ble_eq_true rfl, Nat.le_of_ble_eq_true rfl⟩) hPK hD hS hA (fun r H locs hr hPK hPM hD hS => ?_)
                subst hr
                refine lv_icmp_eq (tgt := 448) hx hb d_law_216 (by decide) (fun c_11 => ?_) (fun c_11 => ?_)
                · refine lv_iinc (v := (nI (i + 3))) (lv' := [(3, .int (nI (i + 3))), (0, .ref b), (1, .ref (ad 0)), (2, .ref (bd 0))]) hx hb d_law_448 hl (k := 3) rfl ((show nI i + Int32.ofInt 3 = nI i + nI 3 from rfl).trans (nI_add i 3)) (by decide) rfl (fun ls hl => ?_)
                  refine lv_goto (tgt := 18) hx hb d_law_451 (by decide) ?_
                  exact ih (i + 3) (by omega) (by omega) ((kPuK k v1)) act ((kPuT k txt v1)) F pr ((mPuJ j v1)) ac ((mPuT j tx v1)) ev on mn pm (l_put hR v1).2 H locs hPK hPM hD hS ls (lv_sub hl [1, 2, 3, 0] rfl)
                · exact absurd (l_put hR v1).1 c_11
              · by_cases h_12 : (v0 &&& 15) = 5
                · refine lv_tableIn (tgt := 221) hx hb d_law_32 (by rw [h_12]; decide) (by rw [h_12]; decide) (by rw [h_12]; rfl) (by decide) ?_
                  refine lv_aload_n hx hb d_law_221 rfl (lv_at hl 1 rfl) ?_
                  refine lv_aload_n hx hb d_law_222 rfl (lv_at hl 0 rfl) ?_
                  refine lv_iload_n hx hb d_law_223 rfl (lv_at hl 3 rfl) ?_
                  refine lv_iconst (v := 1) hx hb d_law_224 (by decide) ?_
                  refine lv_iadd hx hb d_law_225 ?_
                  refine va_sld (A := (fun q : Nat => s.heap.size ≤ q)) hx hb hX hbl hbA hS hi1 d_law_226 ?_
                  rw [ev1]
                  refine lv_aload_n hx hb d_law_227 rfl (lv_at hl 0 rfl) ?_
                  refine lv_iload_n hx hb d_law_228 rfl (lv_at hl 3 rfl) ?_
                  refine lv_iconst (v := 2) hx hb d_law_229 (by decide) ?_
                  refine lv_iadd hx hb d_law_230 ?_
                  refine va_sld (A := (fun q : Nat => s.heap.size ≤ q)) hx hb hX hbl hbA hS hi2 d_law_231 ?_
                  rw [ev2]
                  refine g_calliL (va_runV (As := [.int v1, .int v2]) (rest := []) ⟨hx, hb, hml, hown, hq⟩ (c_ModeKeeper_form l dC dI ad H.size cI cF k act txt F pr v1 v2 t ht8 hk6) ⟨callB_of 2 hq (gd m_ModeKeeper_form) rfl rfl rfl (hq _ qk_10) (hq _ ql_30) (by decide +kernel) ⟨Nat.le_of_ble_eq_true rfl, Nat.le_of_ble_eq_true rfl⟩, (hq _ ql_31), (hq _ ql_32)⟩ ⟨g_blind, va_recv hKK hPK (ci := 0) (q0 := 0) rfl rfl, g_pre hPK hKK (g_DL hD) hN⟩ rfl rfl hl.1 rfl (lv_room (Nat.le_of_ble_eq_true rfl)) d_law_232 ⟨Nat.le_of_ble_eq_true rfl, Nat.le_of_ble_eq_true rfl⟩) hPM hD hS hA (fun r H locs hr hPK hPM hD hS => ?_)
                  subst hr
                  refine lv_aload_n hx hb d_law_235 rfl (lv_at hl 2 rfl) ?_
                  refine lv_aload_n hx hb d_law_236 rfl (lv_at hl 0 rfl) ?_
                  refine lv_iload_n hx hb d_law_237 rfl (lv_at hl 3 rfl) ?_
                  refine lv_iconst (v := 1) hx hb d_law_238 (by decide) ?_
                  refine lv_iadd hx hb d_law_239 ?_
                  refine va_sld (A := (fun q : Nat => s.heap.size ≤ q)) hx hb hX hbl hbA hS hi1 d_law_240 ?_
                  rw [ev1]
                  refine lv_aload_n hx hb d_law_241 rfl (lv_at hl 0 rfl) ?_
                  refine lv_iload_n hx hb d_law_242 rfl (lv_at hl 3 rfl) ?_
                  refine lv_iconst (v := 2) hx hb d_law_243 (by decide) ?_
                  refine lv_iadd hx hb d_law_244 ?_
                  refine va_sld (A := (fun q : Nat => s.heap.size ≤ q)) hx hb hX hbl hbA hS hi2 d_law_245 ?_
                  rw [ev2]
                  refine g_calliR (va_runV (As := [.int v1, .int v2]) (rest := [.int (kFail k F v1 v2)]) ⟨hx, hb, hml, hown, hq⟩ (c_Model_form l dC dI bd H.size cI cZ j ac tx ev on mn pm v1 v2 t ht8 hj6) ⟨callB_of 2 hq (gd m_Model_form) rfl rfl rfl (hq _ qm_5) (hq _ ql_33) (by decide +kernel) ⟨Nat.le_of_ble_eq_true rfl, Nat.le_of_ble_eq_true rfl⟩, (hq _ ql_34), (hq _ ql_35)⟩ ⟨g_blind, va_recv hKM hPM (ci := 2) (q0 := 0) rfl rfl, g_pre hPM hKM (g_DR hD) hN⟩ rfl rfl hl.1 rfl (lv_room (Nat.le_of_ble_eq_true rfl)) d_law_246 ⟨Nat.le_of_ble_eq_true rfl, Nat.le_of_ble_eq_true rfl⟩) hPK hD hS hA (fun r H locs hr hPK hPM hD hS => ?_)
                  subst hr
                  refine lv_icmp_eq (tgt := 448) hx hb d_law_249 (by decide) (fun c_13 => ?_) (fun c_13 => ?_)
                  · refine lv_iinc (v := (nI (i + 3))) (lv' := [(3, .int (nI (i + 3))), (0, .ref b), (1, .ref (ad 0)), (2, .ref (bd 0))]) hx hb d_law_448 hl (k := 3) rfl ((show nI i + Int32.ofInt 3 = nI i + nI 3 from rfl).trans (nI_add i 3)) (by decide) rfl (fun ls hl => ?_)
                    refine lv_goto (tgt := 18) hx hb d_law_451 (by decide) ?_
                    exact ih (i + 3) (by omega) (by omega) ((kFoK k F v1 v2)) act txt ((kFoF k F v1 v2)) ((kFoP k txt F pr v1 v2)) ((upd (upd j 0 0) 6 0)) ac tx ((mFoE j ev v1 v2)) ((mFoO j ev on v1 v2)) ((mFoN j ev mn v1 v2)) ((mFoP j tx ev pm v1 v2)) (l_form hR v1 v2).2 H locs hPK hPM hD hS ls (lv_sub hl [1, 2, 3, 0] rfl)
                  · exact absurd (l_form hR v1 v2).1 c_13
                · by_cases h_14 : (v0 &&& 15) = 6
                  · refine lv_tableIn (tgt := 254) hx hb d_law_32 (by rw [h_14]; decide) (by rw [h_14]; decide) (by rw [h_14]; rfl) (by decide) ?_
                    refine lv_aload_n hx hb d_law_254 rfl (lv_at hl 1 rfl) ?_
                    refine lv_aload_n hx hb d_law_255 rfl (lv_at hl 0 rfl) ?_
                    refine lv_iload_n hx hb d_law_256 rfl (lv_at hl 3 rfl) ?_
                    refine lv_iconst (v := 1) hx hb d_law_257 (by decide) ?_
                    refine lv_iadd hx hb d_law_258 ?_
                    refine va_sld (A := (fun q : Nat => s.heap.size ≤ q)) hx hb hX hbl hbA hS hi1 d_law_259 ?_
                    rw [ev1]
                    refine g_calliL (va_runV (As := [.int v1]) (rest := []) ⟨hx, hb, hml, hown, hq⟩ (c_ModeKeeper_remove l dC dI ad H.size cI cF k act txt F pr v1) ⟨callB_of 1 hq (gd m_ModeKeeper_remove) rfl rfl rfl (hq _ qk_10) (hq _ ql_36) (by decide +kernel) ⟨Nat.le_of_ble_eq_true rfl, Nat.le_of_ble_eq_true rfl⟩, (hq _ ql_37), (hq _ ql_38)⟩ ⟨g_blind, va_recv hKK hPK (ci := 0) (q0 := 0) rfl rfl, g_pre hPK hKK (g_DL hD) hN⟩ rfl rfl hl.1 rfl (lv_room (Nat.le_of_ble_eq_true rfl)) d_law_260 ⟨Nat.le_of_ble_eq_true rfl, Nat.le_of_ble_eq_true rfl⟩) hPM hD hS hA (fun r H locs hr hPK hPM hD hS => ?_)
                    subst hr
                    refine lv_aload_n hx hb d_law_263 rfl (lv_at hl 2 rfl) ?_
                    refine lv_aload_n hx hb d_law_264 rfl (lv_at hl 0 rfl) ?_
                    refine lv_iload_n hx hb d_law_265 rfl (lv_at hl 3 rfl) ?_
                    refine lv_iconst (v := 1) hx hb d_law_266 (by decide) ?_
                    refine lv_iadd hx hb d_law_267 ?_
                    refine va_sld (A := (fun q : Nat => s.heap.size ≤ q)) hx hb hX hbl hbA hS hi1 d_law_268 ?_
                    rw [ev1]
                    refine g_calliR (va_runV (As := [.int v1]) (rest := [.int (kReR F v1)]) ⟨hx, hb, hml, hown, hq⟩ (c_Model_remove l dC dI bd H.size cI cZ j ac tx ev on mn pm v1) ⟨callB_of 1 hq (gd m_Model_remove) rfl rfl rfl (hq _ qm_5) (hq _ ql_39) (by decide +kernel) ⟨Nat.le_of_ble_eq_true rfl, Nat.le_of_ble_eq_true rfl⟩, (hq _ ql_40), (hq _ ql_41)⟩ ⟨g_blind, va_recv hKM hPM (ci := 2) (q0 := 0) rfl rfl, g_pre hPM hKM (g_DR hD) hN⟩ rfl rfl hl.1 rfl (lv_room (Nat.le_of_ble_eq_true rfl)) d_law_269 ⟨Nat.le_of_ble_eq_true rfl, Nat.le_of_ble_eq_true rfl⟩) hPK hD hS hA (fun r H locs hr hPK hPM hD hS => ?_)
                    subst hr
                    refine lv_icmp_eq (tgt := 448) hx hb d_law_272 (by decide) (fun c_15 => ?_) (fun c_15 => ?_)
                    · refine lv_iinc (v := (nI (i + 3))) (lv' := [(3, .int (nI (i + 3))), (0, .ref b), (1, .ref (ad 0)), (2, .ref (bd 0))]) hx hb d_law_448 hl (k := 3) rfl ((show nI i + Int32.ofInt 3 = nI i + nI 3 from rfl).trans (nI_add i 3)) (by decide) rfl (fun ls hl => ?_)
                      refine lv_goto (tgt := 18) hx hb d_law_451 (by decide) ?_
                      exact ih (i + 3) (by omega) (by omega) ((kReK k F v1)) act txt ((kReF F v1)) pr ((upd j 0 0)) ac tx ((mReE ev on v1)) on mn pm (l_remove hR v1).2 H locs hPK hPM hD hS ls (lv_sub hl [1, 2, 3, 0] rfl)
                    · exact absurd (l_remove hR v1).1 c_15
                  · by_cases h_16 : (v0 &&& 15) = 7
                    · refine lv_tableIn (tgt := 277) hx hb d_law_32 (by rw [h_16]; decide) (by rw [h_16]; decide) (by rw [h_16]; rfl) (by decide) ?_
                      refine lv_aload_n hx hb d_law_277 rfl (lv_at hl 1 rfl) ?_
                      refine lv_aload_n hx hb d_law_278 rfl (lv_at hl 0 rfl) ?_
                      refine lv_iload_n hx hb d_law_279 rfl (lv_at hl 3 rfl) ?_
                      refine lv_iconst (v := 1) hx hb d_law_280 (by decide) ?_
                      refine lv_iadd hx hb d_law_281 ?_
                      refine va_sld (A := (fun q : Nat => s.heap.size ≤ q)) hx hb hX hbl hbA hS hi1 d_law_282 ?_
                      rw [ev1]
                      refine lv_aload_n hx hb d_law_283 rfl (lv_at hl 0 rfl) ?_
                      refine lv_iload_n hx hb d_law_284 rfl (lv_at hl 3 rfl) ?_
                      refine lv_iconst (v := 2) hx hb d_law_285 (by decide) ?_
                      refine lv_iadd hx hb d_law_286 ?_
                      refine va_sld (A := (fun q : Nat => s.heap.size ≤ q)) hx hb hX hbl hbA hS hi2 d_law_287 ?_
                      rw [ev2]
                      refine lv_if_eq (tgt := 295) hx hb d_law_288 (by decide) (fun c_17 => ?_) (fun c_17 => ?_)
                      · refine lv_iconst (v := 0) hx hb d_law_295 (by decide) ?_
                        refine g_calliL (va_runV (As := [.int v1, .int 0]) (rest := []) ⟨hx, hb, hml, hown, hq⟩ (c_ModeKeeper_enable l dC dI ad H.size cI cF k act txt F pr v1 0 (Or.inl rfl)) ⟨callB_of 2 hq (gd m_ModeKeeper_enable) rfl rfl rfl (hq _ qk_10) (hq _ ql_42) (by decide +kernel) ⟨Nat.le_of_ble_eq_true rfl, Nat.le_of_ble_eq_true rfl⟩, (hq _ ql_43), (hq _ ql_44)⟩ ⟨g_blind, va_recv hKK hPK (ci := 0) (q0 := 0) rfl rfl, g_pre hPK hKK (g_DL hD) hN⟩ rfl rfl hl.1 rfl (lv_room (Nat.le_of_ble_eq_true rfl)) d_law_296 ⟨Nat.le_of_ble_eq_true rfl, Nat.le_of_ble_eq_true rfl⟩) hPM hD hS hA (fun r H locs hr hPK hPM hD hS => ?_)
                        subst hr
                        refine lv_aload_n hx hb d_law_299 rfl (lv_at hl 2 rfl) ?_
                        refine lv_aload_n hx hb d_law_300 rfl (lv_at hl 0 rfl) ?_
                        refine lv_iload_n hx hb d_law_301 rfl (lv_at hl 3 rfl) ?_
                        refine lv_iconst (v := 1) hx hb d_law_302 (by decide) ?_
                        refine lv_iadd hx hb d_law_303 ?_
                        refine va_sld (A := (fun q : Nat => s.heap.size ≤ q)) hx hb hX hbl hbA hS hi1 d_law_304 ?_
                        rw [ev1]
                        refine lv_aload_n hx hb d_law_305 rfl (lv_at hl 0 rfl) ?_
                        refine lv_iload_n hx hb d_law_306 rfl (lv_at hl 3 rfl) ?_
                        refine lv_iconst (v := 2) hx hb d_law_307 (by decide) ?_
                        refine lv_iadd hx hb d_law_308 ?_
                        refine va_sld (A := (fun q : Nat => s.heap.size ≤ q)) hx hb hX hbl hbA hS hi2 d_law_309 ?_
                        rw [ev2]
                        refine lv_if_eq (tgt := 317) hx hb d_law_310 (by decide) (fun c_18 => ?_) (fun c_18 => ?_)
                        · refine lv_iconst (v := 0) hx hb d_law_317 (by decide) ?_
                          refine g_calliR (va_runV (As := [.int v1, .int 0]) (rest := [.int (kEbR F v1)]) ⟨hx, hb, hml, hown, hq⟩ (c_Model_enable l dC dI bd H.size cI cZ j ac tx ev on mn pm v1 0 (Or.inl rfl)) ⟨callB_of 2 hq (gd m_Model_enable) rfl rfl rfl (hq _ qm_5) (hq _ ql_45) (by decide +kernel) ⟨Nat.le_of_ble_eq_true rfl, Nat.le_of_ble_eq_true rfl⟩, (hq _ ql_46), (hq _ ql_47)⟩ ⟨g_blind, va_recv hKM hPM (ci := 2) (q0 := 0) rfl rfl, g_pre hPM hKM (g_DR hD) hN⟩ rfl rfl hl.1 rfl (lv_room (Nat.le_of_ble_eq_true rfl)) d_law_318 ⟨Nat.le_of_ble_eq_true rfl, Nat.le_of_ble_eq_true rfl⟩) hPK hD hS hA (fun r H locs hr hPK hPM hD hS => ?_)
                          subst hr
                          refine lv_icmp_eq (tgt := 448) hx hb d_law_321 (by decide) (fun c_19 => ?_) (fun c_19 => ?_)
                          · refine lv_iinc (v := (nI (i + 3))) (lv' := [(3, .int (nI (i + 3))), (0, .ref b), (1, .ref (ad 0)), (2, .ref (bd 0))]) hx hb d_law_448 hl (k := 3) rfl ((show nI i + Int32.ofInt 3 = nI i + nI 3 from rfl).trans (nI_add i 3)) (by decide) rfl (fun ls hl => ?_)
                            refine lv_goto (tgt := 18) hx hb d_law_451 (by decide) ?_
                            exact ih (i + 3) (by omega) (by omega) k act txt ((kEbF F v1 0)) pr ((upd j 0 0)) ac tx ev ((mEbO ev on v1 0)) mn pm (l_enable hR v1 0).2 H locs hPK hPM hD hS ls (lv_sub hl [1, 2, 3, 0] rfl)
                          · exact absurd (l_enable hR v1 0).1 c_19
                        · exact absurd c_17 c_18
                      · refine lv_iconst (v := 1) hx hb d_law_291 (by decide) ?_
                        refine lv_goto (tgt := 296) hx hb d_law_292 (by decide) ?_
                        refine g_calliL (va_runV (As := [.int v1, .int 1]) (rest := []) ⟨hx, hb, hml, hown, hq⟩ (c_ModeKeeper_enable l dC dI ad H.size cI cF k act txt F pr v1 1 (Or.inr rfl)) ⟨callB_of 2 hq (gd m_ModeKeeper_enable) rfl rfl rfl (hq _ qk_10) (hq _ ql_42) (by decide +kernel) ⟨Nat.le_of_ble_eq_true rfl, Nat.le_of_ble_eq_true rfl⟩, (hq _ ql_43), (hq _ ql_44)⟩ ⟨g_blind, va_recv hKK hPK (ci := 0) (q0 := 0) rfl rfl, g_pre hPK hKK (g_DL hD) hN⟩ rfl rfl hl.1 rfl (lv_room (Nat.le_of_ble_eq_true rfl)) d_law_296 ⟨Nat.le_of_ble_eq_true rfl, Nat.le_of_ble_eq_true rfl⟩) hPM hD hS hA (fun r H locs hr hPK hPM hD hS => ?_)
                        subst hr
                        refine lv_aload_n hx hb d_law_299 rfl (lv_at hl 2 rfl) ?_
                        refine lv_aload_n hx hb d_law_300 rfl (lv_at hl 0 rfl) ?_
                        refine lv_iload_n hx hb d_law_301 rfl (lv_at hl 3 rfl) ?_
                        refine lv_iconst (v := 1) hx hb d_law_302 (by decide) ?_
                        refine lv_iadd hx hb d_law_303 ?_
                        refine va_sld (A := (fun q : Nat => s.heap.size ≤ q)) hx hb hX hbl hbA hS hi1 d_law_304 ?_
                        rw [ev1]
                        refine lv_aload_n hx hb d_law_305 rfl (lv_at hl 0 rfl) ?_
                        refine lv_iload_n hx hb d_law_306 rfl (lv_at hl 3 rfl) ?_
                        refine lv_iconst (v := 2) hx hb d_law_307 (by decide) ?_
                        refine lv_iadd hx hb d_law_308 ?_
                        refine va_sld (A := (fun q : Nat => s.heap.size ≤ q)) hx hb hX hbl hbA hS hi2 d_law_309 ?_
                        rw [ev2]
                        refine lv_if_eq (tgt := 317) hx hb d_law_310 (by decide) (fun c_20 => ?_) (fun c_20 => ?_)
                        · exact absurd c_20 c_17
                        · refine lv_iconst (v := 1) hx hb d_law_313 (by decide) ?_
                          refine lv_goto (tgt := 318) hx hb d_law_314 (by decide) ?_
                          refine g_calliR (va_runV (As := [.int v1, .int 1]) (rest := [.int (kEbR F v1)]) ⟨hx, hb, hml, hown, hq⟩ (c_Model_enable l dC dI bd H.size cI cZ j ac tx ev on mn pm v1 1 (Or.inr rfl)) ⟨callB_of 2 hq (gd m_Model_enable) rfl rfl rfl (hq _ qm_5) (hq _ ql_45) (by decide +kernel) ⟨Nat.le_of_ble_eq_true rfl, Nat.le_of_ble_eq_true rfl⟩, (hq _ ql_46), (hq _ ql_47)⟩ ⟨g_blind, va_recv hKM hPM (ci := 2) (q0 := 0) rfl rfl, g_pre hPM hKM (g_DR hD) hN⟩ rfl rfl hl.1 rfl (lv_room (Nat.le_of_ble_eq_true rfl)) d_law_318 ⟨Nat.le_of_ble_eq_true rfl, Nat.le_of_ble_eq_true rfl⟩) hPK hD hS hA (fun r H locs hr hPK hPM hD hS => ?_)
                          subst hr
                          refine lv_icmp_eq (tgt := 448) hx hb d_law_321 (by decide) (fun c_21 => ?_) (fun c_21 => ?_)
                          · refine lv_iinc (v := (nI (i + 3))) (lv' := [(3, .int (nI (i + 3))), (0, .ref b), (1, .ref (ad 0)), (2, .ref (bd 0))]) hx hb d_law_448 hl (k := 3) rfl ((show nI i + Int32.ofInt 3 = nI i + nI 3 from rfl).trans (nI_add i 3)) (by decide) rfl (fun ls hl => ?_)
                            refine lv_goto (tgt := 18) hx hb d_law_451 (by decide) ?_
                            exact ih (i + 3) (by omega) (by omega) k act txt ((kEbF F v1 1)) pr ((upd j 0 0)) ac tx ev ((mEbO ev on v1 1)) mn pm (l_enable hR v1 1).2 H locs hPK hPM hD hS ls (lv_sub hl [1, 2, 3, 0] rfl)
                          · exact absurd (l_enable hR v1 1).1 c_21
                    · by_cases h_22 : (v0 &&& 15) = 8
                      · refine lv_tableIn (tgt := 326) hx hb d_law_32 (by rw [h_22]; decide) (by rw [h_22]; decide) (by rw [h_22]; rfl) (by decide) ?_
                        refine lv_aload_n hx hb d_law_326 rfl (lv_at hl 1 rfl) ?_
                        refine lv_aload_n hx hb d_law_327 rfl (lv_at hl 0 rfl) ?_
                        refine lv_iload_n hx hb d_law_328 rfl (lv_at hl 3 rfl) ?_
                        refine lv_iconst (v := 1) hx hb d_law_329 (by decide) ?_
                        refine lv_iadd hx hb d_law_330 ?_
                        refine va_sld (A := (fun q : Nat => s.heap.size ≤ q)) hx hb hX hbl hbA hS hi1 d_law_331 ?_
                        rw [ev1]
                        refine lv_aload_n hx hb d_law_332 rfl (lv_at hl 0 rfl) ?_
                        refine lv_iload_n hx hb d_law_333 rfl (lv_at hl 3 rfl) ?_
                        refine lv_iconst (v := 2) hx hb d_law_334 (by decide) ?_
                        refine lv_iadd hx hb d_law_335 ?_
                        refine va_sld (A := (fun q : Nat => s.heap.size ≤ q)) hx hb hX hbl hbA hS hi2 d_law_336 ?_
                        rw [ev2]
                        refine vp_callSi (va_Run.run (va_runV (As := [.int v1, .int v2]) (rest := []) ⟨hx, hb, hml, hown, hq⟩ (c_ModeKeeper_due l dC dI ad H.size cI cF k act txt F pr v1 v2) ⟨callB_of 2 hq (gd m_ModeKeeper_due) rfl rfl rfl (hq _ qk_10) (hq _ ql_48) (by decide +kernel) ⟨Nat.le_of_ble_eq_true rfl, Nat.le_of_ble_eq_true rfl⟩, (hq _ ql_49), (hq _ ql_50)⟩ ⟨g_blind, va_recv hKK hPK (ci := 0) (q0 := 0) rfl rfl, g_pre hPK hKK (g_DL hD) hN⟩ rfl rfl hl.1 rfl (lv_room (Nat.le_of_ble_eq_true rfl)) d_law_337 ⟨Nat.le_of_ble_eq_true rfl, Nat.le_of_ble_eq_true rfl⟩)) (fun r hr => ?_)
                        subst hr
                        refine lv_aload_n hx hb d_law_340 rfl (lv_at hl 2 rfl) ?_
                        refine lv_aload_n hx hb d_law_341 rfl (lv_at hl 0 rfl) ?_
                        refine lv_iload_n hx hb d_law_342 rfl (lv_at hl 3 rfl) ?_
                        refine lv_iconst (v := 1) hx hb d_law_343 (by decide) ?_
                        refine lv_iadd hx hb d_law_344 ?_
                        refine va_sld (A := (fun q : Nat => s.heap.size ≤ q)) hx hb hX hbl hbA hS hi1 d_law_345 ?_
                        rw [ev1]
                        refine lv_aload_n hx hb d_law_346 rfl (lv_at hl 0 rfl) ?_
                        refine lv_iload_n hx hb d_law_347 rfl (lv_at hl 3 rfl) ?_
                        refine lv_iconst (v := 2) hx hb d_law_348 (by decide) ?_
                        refine lv_iadd hx hb d_law_349 ?_
                        refine va_sld (A := (fun q : Nat => s.heap.size ≤ q)) hx hb hX hbl hbA hS hi2 d_law_350 ?_
                        rw [ev2]
                        refine g_calliR (va_runV (As := [.int v1, .int v2]) (rest := [.int (kDue F v1 v2 8 0 (-1))]) ⟨hx, hb, hml, hown, hq⟩ (c_Model_due l dC dI bd H.size cI cZ j ac tx ev on mn pm v1 v2) ⟨callB_of 2 hq (gd m_Model_due) rfl rfl rfl (hq _ qm_5) (hq _ ql_51) (by decide +kernel) ⟨Nat.le_of_ble_eq_true rfl, Nat.le_of_ble_eq_true rfl⟩, (hq _ ql_52), (hq _ ql_53)⟩ ⟨g_blind, va_recv hKM hPM (ci := 2) (q0 := 0) rfl rfl, g_pre hPM hKM (g_DR hD) hN⟩ rfl rfl hl.1 rfl (lv_room (Nat.le_of_ble_eq_true rfl)) d_law_351 ⟨Nat.le_of_ble_eq_true rfl, Nat.le_of_ble_eq_true rfl⟩) hPK hD hS hA (fun r H locs hr hPK hPM hD hS => ?_)
                        subst hr
                        refine lv_icmp_eq (tgt := 448) hx hb d_law_354 (by decide) (fun c_23 => ?_) (fun c_23 => ?_)
                        · refine lv_iinc (v := (nI (i + 3))) (lv' := [(3, .int (nI (i + 3))), (0, .ref b), (1, .ref (ad 0)), (2, .ref (bd 0))]) hx hb d_law_448 hl (k := 3) rfl ((show nI i + Int32.ofInt 3 = nI i + nI 3 from rfl).trans (nI_add i 3)) (by decide) rfl (fun ls hl => ?_)
                          refine lv_goto (tgt := 18) hx hb d_law_451 (by decide) ?_
                          exact ih (i + 3) (by omega) (by omega) k act txt F pr ((upd j 0 0)) ac tx ev on mn pm (l_due hR v1 v2).2 H locs hPK hPM hD hS ls (lv_sub hl [1, 2, 3, 0] rfl)
                        · exact absurd (l_due hR v1 v2).1 c_23
                      · by_cases h_24 : (v0 &&& 15) = 9
                        · refine lv_tableIn (tgt := 359) hx hb d_law_32 (by rw [h_24]; decide) (by rw [h_24]; decide) (by rw [h_24]; rfl) (by decide) ?_
                          refine lv_aload_n hx hb d_law_359 rfl (lv_at hl 1 rfl) ?_
                          refine lv_aload_n hx hb d_law_360 rfl (lv_at hl 0 rfl) ?_
                          refine lv_iload_n hx hb d_law_361 rfl (lv_at hl 3 rfl) ?_
                          refine lv_iconst (v := 1) hx hb d_law_362 (by decide) ?_
                          refine lv_iadd hx hb d_law_363 ?_
                          refine va_sld (A := (fun q : Nat => s.heap.size ≤ q)) hx hb hX hbl hbA hS hi1 d_law_364 ?_
                          rw [ev1]
                          refine lv_aload_n hx hb d_law_365 rfl (lv_at hl 0 rfl) ?_
                          refine lv_iload_n hx hb d_law_366 rfl (lv_at hl 3 rfl) ?_
                          refine lv_iconst (v := 2) hx hb d_law_367 (by decide) ?_
                          refine lv_iadd hx hb d_law_368 ?_
                          refine va_sld (A := (fun q : Nat => s.heap.size ≤ q)) hx hb hX hbl hbA hS hi2 d_law_369 ?_
                          rw [ev2]
                          refine vp_callSi (va_Run.run (va_runV (As := [.int v1, .int v2]) (rest := []) ⟨hx, hb, hml, hown, hq⟩ (c_ModeKeeper_parameter l dC dI ad H.size cI cF k act txt F pr v1 v2 hct) ⟨callB_of 2 hq (gd m_ModeKeeper_parameter) rfl rfl rfl (hq _ qk_10) (hq _ ql_54) (by decide +kernel) ⟨Nat.le_of_ble_eq_true rfl, Nat.le_of_ble_eq_true rfl⟩, (hq _ ql_55), (hq _ ql_56)⟩ ⟨g_blind, va_recv hKK hPK (ci := 0) (q0 := 0) rfl rfl, g_pre hPK hKK (g_DL hD) hN⟩ rfl rfl hl.1 rfl (lv_room (Nat.le_of_ble_eq_true rfl)) d_law_370 ⟨Nat.le_of_ble_eq_true rfl, Nat.le_of_ble_eq_true rfl⟩)) (fun r hr => ?_)
                          subst hr
                          refine lv_aload_n hx hb d_law_373 rfl (lv_at hl 2 rfl) ?_
                          refine lv_aload_n hx hb d_law_374 rfl (lv_at hl 0 rfl) ?_
                          refine lv_iload_n hx hb d_law_375 rfl (lv_at hl 3 rfl) ?_
                          refine lv_iconst (v := 1) hx hb d_law_376 (by decide) ?_
                          refine lv_iadd hx hb d_law_377 ?_
                          refine va_sld (A := (fun q : Nat => s.heap.size ≤ q)) hx hb hX hbl hbA hS hi1 d_law_378 ?_
                          rw [ev1]
                          refine lv_aload_n hx hb d_law_379 rfl (lv_at hl 0 rfl) ?_
                          refine lv_iload_n hx hb d_law_380 rfl (lv_at hl 3 rfl) ?_
                          refine lv_iconst (v := 2) hx hb d_law_381 (by decide) ?_
                          refine lv_iadd hx hb d_law_382 ?_
                          refine va_sld (A := (fun q : Nat => s.heap.size ≤ q)) hx hb hX hbl hbA hS hi2 d_law_383 ?_
                          rw [ev2]
                          refine g_calliR (va_runV (As := [.int v1, .int v2]) (rest := [.int (kPaR F pr v1 v2)]) ⟨hx, hb, hml, hown, hq⟩ (c_Model_parameter l dC dI bd H.size cI cZ j ac tx ev on mn pm v1 v2 hmn) ⟨callB_of 2 hq (gd m_Model_parameter) rfl rfl rfl (hq _ qm_5) (hq _ ql_57) (by decide +kernel) ⟨Nat.le_of_ble_eq_true rfl, Nat.le_of_ble_eq_true rfl⟩, (hq _ ql_58), (hq _ ql_59)⟩ ⟨g_blind, va_recv hKM hPM (ci := 2) (q0 := 0) rfl rfl, g_pre hPM hKM (g_DR hD) hN⟩ rfl rfl hl.1 rfl (lv_room (Nat.le_of_ble_eq_true rfl)) d_law_384 ⟨Nat.le_of_ble_eq_true rfl, Nat.le_of_ble_eq_true rfl⟩) hPK hD hS hA (fun r H locs hr hPK hPM hD hS => ?_)
                          subst hr
                          refine lv_icmp_eq (tgt := 448) hx hb d_law_387 (by decide) (fun c_25 => ?_) (fun c_25 => ?_)
                          · refine lv_iinc (v := (nI (i + 3))) (lv' := [(3, .int (nI (i + 3))), (0, .ref b), (1, .ref (ad 0)), (2, .ref (bd 0))]) hx hb d_law_448 hl (k := 3) rfl ((show nI i + Int32.ofInt 3 = nI i + nI 3 from rfl).trans (nI_add i 3)) (by decide) rfl (fun ls hl => ?_)
                            refine lv_goto (tgt := 18) hx hb d_law_451 (by decide) ?_
                            exact ih (i + 3) (by omega) (by omega) k act txt F pr ((upd j 0 0)) ac tx ev on mn pm (l_parameter hR v1 v2).2 H locs hPK hPM hD hS ls (lv_sub hl [1, 2, 3, 0] rfl)
                          · exact absurd (l_parameter hR v1 v2).1 c_25
                        · by_cases h_26 : (v0 &&& 15) = 10
                          · refine lv_tableIn (tgt := 392) hx hb d_law_32 (by rw [h_26]; decide) (by rw [h_26]; decide) (by rw [h_26]; rfl) (by decide) ?_
                            refine lv_aload_n hx hb d_law_392 rfl (lv_at hl 1 rfl) ?_
                            refine lv_aload_n hx hb d_law_393 rfl (lv_at hl 0 rfl) ?_
                            refine lv_iload_n hx hb d_law_394 rfl (lv_at hl 3 rfl) ?_
                            refine lv_iconst (v := 1) hx hb d_law_395 (by decide) ?_
                            refine lv_iadd hx hb d_law_396 ?_
                            refine va_sld (A := (fun q : Nat => s.heap.size ≤ q)) hx hb hX hbl hbA hS hi1 d_law_397 ?_
                            rw [ev1]
                            refine vp_callSi (va_Run.run (va_runV (As := [.int v1]) (rest := []) ⟨hx, hb, hml, hown, hq⟩ (c_ModeKeeper_value l dC dI ad H.size cI cF k act txt F pr v1) ⟨callB_of 1 hq (gd m_ModeKeeper_value) rfl rfl rfl (hq _ qk_10) (hq _ ql_60) (by decide +kernel) ⟨Nat.le_of_ble_eq_true rfl, Nat.le_of_ble_eq_true rfl⟩, (hq _ ql_61), (hq _ ql_62)⟩ ⟨g_blind, va_recv hKK hPK (ci := 0) (q0 := 0) rfl rfl, g_pre hPK hKK (g_DL hD) hN⟩ rfl rfl hl.1 rfl (lv_room (Nat.le_of_ble_eq_true rfl)) d_law_398 ⟨Nat.le_of_ble_eq_true rfl, Nat.le_of_ble_eq_true rfl⟩)) (fun r hr => ?_)
                            subst hr
                            refine lv_aload_n hx hb d_law_401 rfl (lv_at hl 2 rfl) ?_
                            refine lv_aload_n hx hb d_law_402 rfl (lv_at hl 0 rfl) ?_
                            refine lv_iload_n hx hb d_law_403 rfl (lv_at hl 3 rfl) ?_
                            refine lv_iconst (v := 1) hx hb d_law_404 (by decide) ?_
                            refine lv_iadd hx hb d_law_405 ?_
                            refine va_sld (A := (fun q : Nat => s.heap.size ≤ q)) hx hb hX hbl hbA hS hi1 d_law_406 ?_
                            rw [ev1]
                            refine g_calliR (va_runV (As := [.int v1]) (rest := [.int (kVaR k act v1)]) ⟨hx, hb, hml, hown, hq⟩ (c_Model_value l dC dI bd H.size cI cZ j ac tx ev on mn pm v1) ⟨callB_of 1 hq (gd m_Model_value) rfl rfl rfl (hq _ qm_5) (hq _ ql_63) (by decide +kernel) ⟨Nat.le_of_ble_eq_true rfl, Nat.le_of_ble_eq_true rfl⟩, (hq _ ql_64), (hq _ ql_65)⟩ ⟨g_blind, va_recv hKM hPM (ci := 2) (q0 := 0) rfl rfl, g_pre hPM hKM (g_DR hD) hN⟩ rfl rfl hl.1 rfl (lv_room (Nat.le_of_ble_eq_true rfl)) d_law_407 ⟨Nat.le_of_ble_eq_true rfl, Nat.le_of_ble_eq_true rfl⟩) hPK hD hS hA (fun r H locs hr hPK hPM hD hS => ?_)
                            subst hr
                            refine lv_icmp_eq (tgt := 448) hx hb d_law_410 (by decide) (fun c_27 => ?_) (fun c_27 => ?_)
                            · refine lv_iinc (v := (nI (i + 3))) (lv' := [(3, .int (nI (i + 3))), (0, .ref b), (1, .ref (ad 0)), (2, .ref (bd 0))]) hx hb d_law_448 hl (k := 3) rfl ((show nI i + Int32.ofInt 3 = nI i + nI 3 from rfl).trans (nI_add i 3)) (by decide) rfl (fun ls hl => ?_)
                              refine lv_goto (tgt := 18) hx hb d_law_451 (by decide) ?_
                              exact ih (i + 3) (by omega) (by omega) k act txt F pr ((upd j 0 0)) ac tx ev on mn pm (l_value hR v1).2 H locs hPK hPM hD hS ls (lv_sub hl [1, 2, 3, 0] rfl)
                            · exact absurd (l_value hR v1).1 c_27
                          · by_cases h_28 : (v0 &&& 15) = 11
                            · refine lv_tableIn (tgt := 415) hx hb d_law_32 (by rw [h_28]; decide) (by rw [h_28]; decide) (by rw [h_28]; rfl) (by decide) ?_
                              refine lv_aload_n hx hb d_law_415 rfl (lv_at hl 1 rfl) ?_
                              refine lv_aload_n hx hb d_law_416 rfl (lv_at hl 0 rfl) ?_
                              refine lv_iload_n hx hb d_law_417 rfl (lv_at hl 3 rfl) ?_
                              refine lv_iconst (v := 1) hx hb d_law_418 (by decide) ?_
                              refine lv_iadd hx hb d_law_419 ?_
                              refine va_sld (A := (fun q : Nat => s.heap.size ≤ q)) hx hb hX hbl hbA hS hi1 d_law_420 ?_
                              rw [ev1]
                              refine lv_aload_n hx hb d_law_421 rfl (lv_at hl 0 rfl) ?_
                              refine lv_iload_n hx hb d_law_422 rfl (lv_at hl 3 rfl) ?_
                              refine lv_iconst (v := 2) hx hb d_law_423 (by decide) ?_
                              refine lv_iadd hx hb d_law_424 ?_
                              refine va_sld (A := (fun q : Nat => s.heap.size ≤ q)) hx hb hX hbl hbA hS hi2 d_law_425 ?_
                              rw [ev2]
                              refine vp_callSi (va_Run.run (va_runV (As := [.int v1, .int v2]) (rest := []) ⟨hx, hb, hml, hown, hq⟩ (c_ModeKeeper_about l dC dI ad H.size cI cF k act txt F pr v1 v2) ⟨callB_of 2 hq (gd m_ModeKeeper_about) rfl rfl rfl (hq _ qk_10) (hq _ ql_66) (by decide +kernel) ⟨Nat.le_of_ble_eq_true rfl, Nat.le_of_ble_eq_true rfl⟩, (hq _ ql_67), (hq _ ql_68)⟩ ⟨g_blind, va_recv hKK hPK (ci := 0) (q0 := 0) rfl rfl, g_pre hPK hKK (g_DL hD) hN⟩ rfl rfl hl.1 rfl (lv_room (Nat.le_of_ble_eq_true rfl)) d_law_426 ⟨Nat.le_of_ble_eq_true rfl, Nat.le_of_ble_eq_true rfl⟩)) (fun r hr => ?_)
                              subst hr
                              refine lv_aload_n hx hb d_law_429 rfl (lv_at hl 2 rfl) ?_
                              refine lv_aload_n hx hb d_law_430 rfl (lv_at hl 0 rfl) ?_
                              refine lv_iload_n hx hb d_law_431 rfl (lv_at hl 3 rfl) ?_
                              refine lv_iconst (v := 1) hx hb d_law_432 (by decide) ?_
                              refine lv_iadd hx hb d_law_433 ?_
                              refine va_sld (A := (fun q : Nat => s.heap.size ≤ q)) hx hb hX hbl hbA hS hi1 d_law_434 ?_
                              rw [ev1]
                              refine lv_aload_n hx hb d_law_435 rfl (lv_at hl 0 rfl) ?_
                              refine lv_iload_n hx hb d_law_436 rfl (lv_at hl 3 rfl) ?_
                              refine lv_iconst (v := 2) hx hb d_law_437 (by decide) ?_
                              refine lv_iadd hx hb d_law_438 ?_
                              refine va_sld (A := (fun q : Nat => s.heap.size ≤ q)) hx hb hX hbl hbA hS hi2 d_law_439 ?_
                              rw [ev2]
                              refine g_calliR (va_runV (As := [.int v1, .int v2]) (rest := [.int (kAbR F v1 v2)]) ⟨hx, hb, hml, hown, hq⟩ (c_Model_about l dC dI bd H.size cI cZ j ac tx ev on mn pm v1 v2) ⟨callB_of 2 hq (gd m_Model_about) rfl rfl rfl (hq _ qm_5) (hq _ ql_69) (by decide +kernel) ⟨Nat.le_of_ble_eq_true rfl, Nat.le_of_ble_eq_true rfl⟩, (hq _ ql_70), (hq _ ql_71)⟩ ⟨g_blind, va_recv hKM hPM (ci := 2) (q0 := 0) rfl rfl, g_pre hPM hKM (g_DR hD) hN⟩ rfl rfl hl.1 rfl (lv_room (Nat.le_of_ble_eq_true rfl)) d_law_440 ⟨Nat.le_of_ble_eq_true rfl, Nat.le_of_ble_eq_true rfl⟩) hPK hD hS hA (fun r H locs hr hPK hPM hD hS => ?_)
                              subst hr
                              refine lv_icmp_eq (tgt := 448) hx hb d_law_443 (by decide) (fun c_29 => ?_) (fun c_29 => ?_)
                              · refine lv_iinc (v := (nI (i + 3))) (lv' := [(3, .int (nI (i + 3))), (0, .ref b), (1, .ref (ad 0)), (2, .ref (bd 0))]) hx hb d_law_448 hl (k := 3) rfl ((show nI i + Int32.ofInt 3 = nI i + nI 3 from rfl).trans (nI_add i 3)) (by decide) rfl (fun ls hl => ?_)
                                refine lv_goto (tgt := 18) hx hb d_law_451 (by decide) ?_
                                exact ih (i + 3) (by omega) (by omega) k act txt F pr ((upd j 0 0)) ac tx ev on mn pm (l_about hR v1 v2).2 H locs hPK hPM hD hS ls (lv_sub hl [1, 2, 3, 0] rfl)
                              · exact absurd (l_about hR v1 v2).1 c_29
                            · refine lv_tableOut (tgt := 448) hx hb d_law_32 (by have zh_2 := lv_neT h_2 (a := 0) (by decide); have zh_4 := lv_neT h_4 (a := 1) (by decide); have zh_6 := lv_neT h_6 (a := 2) (by decide); have zh_8 := lv_neT h_8 (a := 3) (by decide); have zh_10 := lv_neT h_10 (a := 4) (by decide); have zh_12 := lv_neT h_12 (a := 5) (by decide); have zh_14 := lv_neT h_14 (a := 6) (by decide); have zh_16 := lv_neT h_16 (a := 7) (by decide); have zh_22 := lv_neT h_22 (a := 8) (by decide); have zh_24 := lv_neT h_24 (a := 9) (by decide); have zh_26 := lv_neT h_26 (a := 10) (by decide); have zh_28 := lv_neT h_28 (a := 11) (by decide); omega) (by decide) ?_
                              refine lv_iinc (v := (nI (i + 3))) (lv' := [(3, .int (nI (i + 3))), (0, .ref b), (1, .ref (ad 0)), (2, .ref (bd 0))]) hx hb d_law_448 hl (k := 3) rfl ((show nI i + Int32.ofInt 3 = nI i + nI 3 from rfl).trans (nI_add i 3)) (by decide) rfl (fun ls hl => ?_)
                              refine lv_goto (tgt := 18) hx hb d_law_451 (by decide) ?_
                              exact ih (i + 3) (by omega) (by omega) k act txt F pr j ac tx ev on mn pm hR H locs hPK hPM hD hS ls (lv_sub hl [1, 2, 3, 0] rfl)
end
section
theorem g_Xof {args : Array Value} {s : State} {tm : Term} (harr : (Cond.arrayOf tm .int).before args s = true) (hlen : (Term.length tm).eval args s none [] s = some (.int (Int32.ofNat 8))) (hel : ∀ j : Nat, j < 8 → (Term.elem tm (.int (Int32.ofNat j))).eval args s none [] s = some (.int (kSafe j))) : ∃ t : Nat, tm.eval args s none [] s = some (.ref t) ∧ va_X t 8 kSafe s s.heap ∧ t < s.heap.size := by
  obtain ⟨t, cell, ht, hat, hv⟩ := Term.length_spec hlen
  have hsz : cell.slots.size < 2 ^ 31 := by
    have h1 := hlen
    simp only [Term.eval, ht, hat, Option.bind_eq_bind, Option.bind_some] at h1
    by_cases hlt : cell.slots.size < 2147483648
    · exact hlt
    · simp [hlt] at h1
  obtain ⟨t2, ht2, cell2, h1, h2, h3, h4, h5, h6, -⟩ := va_Tof (A := fun _ => False) (f := fun j => .int (kSafe j)) (N := 8) (by decide) harr hlen hel (fun _ _ h => h)
  cases ht.symm.trans ht2
  obtain ⟨hcell, -, -, -⟩ := State.arrayAt?_spec hat
  cases hcell.symm.trans h1
  have h8 : cell.slots.size = 8 := (nI_eq hsz (by decide)).mp h5
  exact ⟨t, ht, ⟨cell, h1, h2, h3, h8, h6⟩, (Array.getElem?_eq_some_iff.mp h1).1⟩
set_option maxHeartbeats 4000000 in
set_option maxRecDepth 100000 in
theorem whole_start {p : Program} {e : Env} {s : State} {m : MethodId} {below : List Frame} {meth : Method} {c : Code} (l : Launch) {b L : Nat} {xs : Nat → Int32} (hL : L ≤ 1536) (C0 : lw_At p s m meth c b L xs) : W p l e room_1 s m #[Value.ref b] below meth c s.heap [] 0 0 (lw_Z below #[Value.ref b] s) (entryFrame m ([Value.ref b] : List Value).toArray 4) := by
  obtain ⟨hx, hb, hrr, hml, hown, hts, hX, hbl, hlocks, hgv⟩ := id C0
  have hq : ∀ w ∈ wAll, w.before #[Value.ref b] s = true := fun w h => hts w (List.mem_filter.mp h).1
  have hA : ∀ q : Nat, s.heap.size ≤ q → (fun q : Nat => s.heap.size ≤ q) q := fun _ h => h
  have hbA : ¬ (fun q : Nat => s.heap.size ≤ q) b := Nat.not_le.mpr hbl
  have hN : gN s := ⟨va_Nw.of rfl (hts (Cond.fieldLinkNest R_ModeKeeper 65 "ModeKeeper$Form" "there" "Z" "ModeKeeper") (List.mem_of_getElem? (i := 28) rfl)), va_Nw.of rfl (hts (Cond.fieldLinkNest R_ModeKeeper 68 "ModeKeeper$Form" "id" "I" "ModeKeeper") (List.mem_of_getElem? (i := 30) rfl)), va_Nw.of rfl (hts (Cond.fieldLinkNest R_ModeKeeper 71 "ModeKeeper$Form" "every" "I" "ModeKeeper") (List.mem_of_getElem? (i := 32) rfl)), va_Nw.of rfl (hts (Cond.fieldLinkNest R_ModeKeeper 62 "ModeKeeper$Form" "on" "Z" "ModeKeeper") (List.mem_of_getElem? (i := 34) rfl)), va_Nw.of rfl (hts (Cond.fieldLinkNest R_ModeKeeper 78 "ModeKeeper$Form" "count" "I" "ModeKeeper") (List.mem_of_getElem? (i := 36) rfl)), va_Nw.of rfl (hts (Cond.fieldLinkNest R_ModeKeeper 81 "ModeKeeper$Form" "parameters" "[I" "ModeKeeper") (List.mem_of_getElem? (i := 38) rfl)), va_Nw.of rfl (hts (Cond.methodLinkNest R_ModeKeeper 42 y_Form_init "ModeKeeper") (List.mem_of_getElem? (i := 23) rfl)), va_AO.of (hts (Cond.arrayOver (.object "ModeKeeper$Form")) (List.mem_of_getElem? (i := 21) rfl))⟩
  have hs := flat_of_before _ hgv
  obtain ⟨tS, hv, hXS, htS⟩ := g_Xof (tm := (.static "ModeKeeper" "SAFE_ACTUATORS" "[I")) (hs (Cond.arrayOf (.static "ModeKeeper" "SAFE_ACTUATORS" "[I") .int) (by decide +kernel)) (va_eqt (hs (Cond.eq (.length (.static "ModeKeeper" "SAFE_ACTUATORS" "[I")) (.int 8)) (by decide +kernel))) (fun j hj => by
    match j, hj with
    | 0, _ => exact va_eqt (hs (Cond.eq (.elem (.static "ModeKeeper" "SAFE_ACTUATORS" "[I") (.int 0)) (.int 0)) (by decide +kernel))
    | 1, _ => exact va_eqt (hs (Cond.eq (.elem (.static "ModeKeeper" "SAFE_ACTUATORS" "[I") (.int 1)) (.int 0)) (by decide +kernel))
    | 2, _ => exact va_eqt (hs (Cond.eq (.elem (.static "ModeKeeper" "SAFE_ACTUATORS" "[I") (.int 2)) (.int 0)) (by decide +kernel))
    | 3, _ => exact va_eqt (hs (Cond.eq (.elem (.static "ModeKeeper" "SAFE_ACTUATORS" "[I") (.int 3)) (.int 0)) (by decide +kernel))
    | 4, _ => exact va_eqt (hs (Cond.eq (.elem (.static "ModeKeeper" "SAFE_ACTUATORS" "[I") (.int 4)) (.int 50)) (by decide +kernel))
    | 5, _ => exact va_eqt (hs (Cond.eq (.elem (.static "ModeKeeper" "SAFE_ACTUATORS" "[I") (.int 5)) (.int 50)) (by decide +kernel))
    | 6, _ => exact va_eqt (hs (Cond.eq (.elem (.static "ModeKeeper" "SAFE_ACTUATORS" "[I") (.int 6)) (.int 100)) (by decide +kernel))
    | 7, _ => exact va_eqt (hs (Cond.eq (.elem (.static "ModeKeeper" "SAFE_ACTUATORS" "[I") (.int 7)) (.int 1)) (by decide +kernel))
    | n + 8, h => exact absurd h (by omega))
  have hZ : gZ tS (fun q : Nat => s.heap.size ≤ q) s s.heap := ⟨va_Zref (hts (Cond.laysStatic "ModeKeeper" "SAFE_ACTUATORS" "[I") (List.mem_of_getElem? (i := 97) rfl)) (hq _ qk_10) hv (fun a h => Nat.not_le.mpr h), hXS, htS, Nat.not_le.mpr htS⟩
  obtain ⟨c0, iS0, hKn0⟩ := u_known (C := R_ModeKeeper) (T := F_ModeKeeper) (N := 9) (n := 9) hq iw_K (hq _ ql_72)
  obtain ⟨c1, iS1, hKn1⟩ := u_known (C := R_Form) (T := F_Form) (N := 6) (n := 6) hq iw_F (hq _ qk_43)
  obtain ⟨c2, iS2, hKn2⟩ := u_known (C := R_Model) (T := F_Model) (N := 12) (n := 12) hq iw_M (hq _ ql_73)
  obtain ⟨dC, dI, hKc⟩ : ∃ (dC : Nat → ClassId) (dI : Nat → Nat → Nat), ∀ (k : Nat) (q : vw_C), classes[k]? = some q → u_Kn s q.1 q.2.1 q.2.2 (dC k) (dI k) := by
    refine ⟨fun k => if k = 0 then c0 else if k = 1 then c1 else c2, fun k => if k = 0 then iS0 else if k = 1 then iS1 else iS2, ?_⟩
    intro k q hq
    match k, hq with
    | 0, hq => cases hq; exact hKn0
    | 1, hq => cases hq; exact hKn1
    | 2, hq => cases hq; exact hKn2
    | k + 3, hq => simp [classes] at hq
  have hS : va_S (fun q : Nat => s.heap.size ≤ q) s.heap s.heap [] := va_S.rf
  have hK : va_K (dC, dI) classes [] s := ⟨hKc, fun k q h => by simp at h⟩
  have hP : va_P (dC, dI) classes [] s.heap := fun k q h => by simp at h
  have hD : va_D (fun q : Nat => s.heap.size ≤ q) [] := ⟨fun i j p q h => by simp at h, fun k q h => by simp at h⟩
  have hl := lv_entry ([.ref b]) (n := 4) (Nat.le_of_ble_eq_true rfl)
  rw [lg_entry_eq]
  generalize (lg_sl ([.ref b]) ++ List.replicate (4 - (lg_sl ([.ref b])).length) Slot.unset).toArray = ls at hl ⊢
  have hl : lv_has ls 4 [(0, .ref b)] := hl
  refine va_new (D := (dC, dI)) (ci := 0) (fs := [.null, .int 0, .int 0, .int 0, .int 0, .null, .int 0, .null, .int 0]) (C := R_ModeKeeper) (T := F_ModeKeeper) (N := 9) hx hb hq iw_K t_ModeKeeper t_ModeKeeper_ok hown (hq _ ql_74) (hq _ ql_72) (hq _ qk_10) hK hP hD hS hA rfl (fun j hj => by rcases (show j = 0 ∨ j = 1 ∨ j = 2 ∨ j = 3 ∨ j = 4 ∨ j = 5 ∨ j = 6 ∨ j = 7 ∨ j = 8 by omega) with rfl | rfl | rfl | rfl | rfl | rfl | rfl | rfl | rfl <;> rfl) (Nat.le_of_ble_eq_true rfl) (Nat.le_of_ble_eq_true rfl) d_law_0 (fun q0 H hP hD hS => ?_)
  have hP : va_P (dC, dI) classes [(q0, .inr (0, [.null, .int 0, .int 0, .int 0, .int 0, .null, .int 0, .null, .int 0]))] H := hP
  have hD : va_D (fun q : Nat => s.heap.size ≤ q) [(q0, .inr (0, [.null, .int 0, .int 0, .int 0, .int 0, .null, .int 0, .null, .int 0]))] := hD
  refine W.widen (k := 1) (n := 9) (by omega) (by omega) ?_
  refine lv_dup hx hb d_law_3 rfl ?_
  have hFc := g_free hD hS hA
  refine va_callv (va_runI (As := []) (rest := [.ref q0]) ⟨hx, hb, hml, hown, hq⟩ (c_ModeKeeper_init l dC dI q0 H.size) ⟨callB_of 0 hq (gd m_ModeKeeper_init) rfl rfl rfl (hq _ qk_10) (hq _ ql_75) (by decide +kernel) ⟨Nat.le_of_ble_eq_true rfl, Nat.le_of_ble_eq_true rfl⟩, rfl, (hq _ ql_76)⟩ ⟨g_blind, g_pre hP hK hD hN⟩ rfl rfl hl.1 rfl (lv_room (Nat.le_of_ble_eq_true rfl)) d_law_4 ⟨Nat.le_of_ble_eq_true rfl, Nat.le_of_ble_eq_true rfl⟩) hS (fun q _ h => hFc q h) hFc (fun u t H1 locs ht hvm hw hB hz1 hk1 hS => ?_)
  obtain ⟨ad, cI, cF⟩ := u
  obtain ⟨⟨hP1, hD1⟩, hK1⟩ := hB
  rw [ht] at hP1
  have hKK : va_K (dC, dI) classes (tyK cI cF) s := va_K.moved hvm.symm hK1
  have hw : ad 0 = q0 := hw
  have hD2 : va_D (fun q : Nat => s.heap.size ≤ q) (wK ad cI cF kK0 (fun _ => 0) (fun _ => 0) kF0 (fun _ _ => 0)) := hD1.weaken (fun _ _ _ h => hFc _ h)
  have hP2 : va_P (dC, dI) classes (wK ad cI cF kK0 (fun _ => 0) (fun _ => 0) kF0 (fun _ _ => 0)) H1 := hP1
  subst hw
  clear hP hD hFc hP1 hD1
  generalize H1 = H at hP2 hS ⊢
  have hP := hP2
  have hD := hD2
  refine W.widen (k := 20) (n := 145) (by omega) (by omega) ?_
  refine lv_astore_n (lv' := [(1, .ref (ad 0)), (0, .ref b)]) hx hb d_law_7 rfl hl (by decide) rfl (fun ls hl => ?_)
  refine va_new (D := (dC, dI)) (ci := 2) (fs := [.int 0, .int 0, .null, .int 0, .int 0, .int 0, .int 0, .null, .null, .null, .null, .null]) (C := R_Model) (T := F_Model) (N := 12) hx hb hq iw_M t_Model t_Model_ok hown (hq _ ql_77) (hq _ ql_73) (hq _ qm_5) hKK hP hD hS hA rfl (fun j hj => by rcases (show j = 0 ∨ j = 1 ∨ j = 2 ∨ j = 3 ∨ j = 4 ∨ j = 5 ∨ j = 6 ∨ j = 7 ∨ j = 8 ∨ j = 9 ∨ j = 10 ∨ j = 11 by omega) with rfl | rfl | rfl | rfl | rfl | rfl | rfl | rfl | rfl | rfl | rfl | rfl <;> rfl) (Nat.le_of_ble_eq_true rfl) (Nat.le_of_ble_eq_true rfl) d_law_8 (fun q1 H hP hD hS => ?_)
  refine W.widen (k := 21) (n := 157) (by omega) (by omega) ?_
  refine lv_dup hx hb d_law_11 rfl ?_
  have hPc := g_PR hP
  have hDc := g_DR hD
  have hFc := g_free hDc hS hA
  refine va_callv (va_runI (As := []) (rest := [.ref q1]) ⟨hx, hb, hml, hown, hq⟩ (c_Model_init l dC dI q1 H.size cI) ⟨callB_of 0 hq (gd m_Model_init) rfl rfl rfl (hq _ qm_5) (hq _ ql_78) (by decide +kernel) ⟨Nat.le_of_ble_eq_true rfl, Nat.le_of_ble_eq_true rfl⟩, rfl, (hq _ ql_79)⟩ ⟨g_blind, g_pre hPc (hKK.sub (tys' := [(cI, .int)]) [0] rfl) hDc hN⟩ rfl rfl hl.1 rfl (lv_room (Nat.le_of_ble_eq_true rfl)) d_law_12 ⟨Nat.le_of_ble_eq_true rfl, Nat.le_of_ble_eq_true rfl⟩) hS (fun q _ h => hFc q h) hFc (fun u t H1 locs ht hvm hw hB hz1 hk1 hS => ?_)
  obtain ⟨bd, cZ⟩ := u
  obtain ⟨⟨hP1, hD1⟩, hK1⟩ := hB
  rw [ht] at hP1
  have hKM : va_K (dC, dI) classes (tyM cI cZ) s := va_K.moved hvm.symm hK1
  have hw : bd 0 = q1 := hw
  obtain ⟨hPK, hDs⟩ := g_keep (g_PL hP) (g_swap hD) hFc hk1 hD1
  have hD3 := g_swap hDs
  have hPM : va_P (dC, dI) classes (wM bd cI cZ mJ0 (fun _ => 0) (fun _ => 0) (fun _ => 0) (fun _ => 0) (fun _ => 0) (fun _ => 0)) H1 := hP1
  subst hw
  refine W.widen (k := 600000) (n := 7302250) (by omega) (by omega) ?_
  refine lv_astore_n (lv' := [(2, .ref (bd 0)), (1, .ref (ad 0)), (0, .ref b)]) hx hb d_law_15 rfl hl (by decide) rfl (fun ls hl => ?_)
  refine lv_iconst (v := 0) hx hb d_law_16 (by decide) ?_
  refine lv_istore_n (lv' := [(3, .int 0), (2, .ref (bd 0)), (1, .ref (ad 0)), (0, .ref b)]) hx hb d_law_17 rfl hl (by decide) rfl (fun ls hl => ?_)
  exact law_loop hL C0 hN hZ hKK hKM (L + 1) 0 (Nat.zero_le L) (by omega) _ _ _ _ _ _ _ _ _ _ _ _ Rl_0 H1 locs hPK hPM hD3 hS ls (lv_sub hl [3, 2, 1, 0] rfl)
end
section
set_option maxHeartbeats 4000000 in
theorem lw_walk (l : Launch) (b : Addr) (xs : List Int32) : MetFree l x (headSpec (Jvm.Cond.code x code maxLocals ret :: tables_1) room_1) (lw_P b xs) (fun _ _ _ _ _ => True) lw_Q := by
  refine MetFree.of_bodyS (code := code) (maxLocals := maxLocals) (ret := ret) (by decide) ?_ ?_
  · intro args s m h hn
    obtain ⟨meth, c, h1, h2, h3, h4, h5, h6, -, -⟩ := Cond.code_spec hn (atoms_spec (ws := Jvm.Cond.code x code maxLocals ret :: tables_1) h _ List.mem_cons_self)
    exact ⟨meth, c, h1, h2, h3, h4, h5, h6⟩
  · intro p e s m args below meth c s₁ B hml0 hP _
    obtain ⟨rfl, hx, hbd, hgv⟩ := hP
    obtain ⟨scr, harrAt, hlist, hof, hsmall⟩ := hx
    obtain ⟨hcb, hkn, -, -⟩ := State.arrayAt?_spec harrAt
    have hown : s.vm.findClass R_law = some m.cls := findClass_of_methodNamed B.named
    have hts0 : ∀ c ∈ (Jvm.Cond.code x code maxLocals ret :: tables_1), c.before #[Value.ref b] s = true := atoms_spec (ws := Jvm.Cond.code x code maxLocals ret :: tables_1) B.pre
    have hts : ∀ w ∈ lw_tbl, w.before #[Value.ref b] s = true := k2_hts_sels lw_privs (fun w hw => hts0 w (List.mem_cons_of_mem _ hw)) lw_privs_ok
    have hml : c.maxLocals = 4 := B.maxLocals_eq (hts0 _ List.mem_cons_self)
    have X₀ : Stand p l e room_1 s m #[Value.ref b] below meth c s₁ [] 0 0 := Stand.of_body B
    have hh0 : s₁.heap = s.heap := by rw [B.state]; rfl
    have hsz : scr.slots.size = xs.length := by rw [← Array.length_toList, hlist, List.length_map]
    have hval : ∀ j : Nat, j < xs.length → scr.slots[j]? = some (.int (xs.getD j 0)) := fun j hj => by
      rw [← Array.getElem?_toList, hlist]
      simp [hj]
    have hbl : b < s.heap.size := (Array.getElem?_eq_some_iff.mp hcb).1
    have hX : va_X b xs.length (fun j => xs.getD j 0) s s.heap := ⟨scr, hcb, hof, hkn, hsz, hval⟩
    have K : W p l e room_1 s m #[Value.ref b] below meth c s₁.heap [] 0 0 (lw_Z below #[Value.ref b] s) (entryFrame m ([Value.ref b] : List Value).toArray 4) := by
      rw [hh0]
      exact whole_start l hbd ⟨B.exec, B.bytes, B.returns, hml, hown, hts, hX, hbl, B.notSynchronized, hgv⟩
    obtain ⟨t, a1, o, b1, b2, b3⟩ := K s₁ rfl X₀
    exact ⟨t, o, a1, b1, b2, b3⟩
theorem lw_pre_spec {args : Array Value} {s : State} (h : (Jvm.Cond.and given_1 narrow_1).before args s = true) (hr : rest_1_c.before args s = true) : ∃ (b : Addr) (xs : List Int32), lw_P b xs args s := by
  have hs := flat_of_before _ h
  have hq := flat_of_before _ hr
  have hc : (Cond.count 1).before args s = true := hs _ (by decide +kernel)
  have harr : (Cond.arrayOf (.arg 0) .int).before args s = true := hs _ (by decide +kernel)
  have hle : (Cond.le (.length (.arg 0)) (.int 1536)).before args s = true := hs _ (by decide +kernel)
  have hlen : (Cond.isInt (.length (.arg 0))).before args s = true := hq _ (by decide +kernel)
  have hall : (Cond.all (.arg 0) (.isInt (.elem (.arg 0) (.index 0)))).before args s = true := hq _ (by decide +kernel)
  obtain ⟨b, xs, hb, hx⟩ := State.ints_of_pre rfl harr hlen hall
  have hsm : xs.length < 2 ^ 31 := hx.choose_spec.2.2.2
  have hev : (Term.length (.arg 0)).eval args s none [] s = some (.int xs.length.toInt32) := hx.length_eval hb
  have hv := Cond.le_ints hev (show (Term.int 1536).eval args s none [] s = some (.int 1536) from rfl)
  have hd : xs.length.toInt32 ≤ 1536 := by
    simpa [Cond.before, Cond.holds, hv] using hle
  have hN : xs.length ≤ 1536 := (Int32.ofNat_le_ofNat hsm (by decide)).mp (show Int32.ofNat xs.length ≤ Int32.ofNat 1536 from hd)
  exact ⟨b, xs, Cond.one_arg hc (show args[0]? = some (.ref b) from hb), hx, hN, h⟩
theorem lw_comes (l : Launch) : Comes l x (Jvm.Cond.code x code maxLocals ret :: tables_1) room_1 (fun tb e args s => Calls_1 tb e args s ∧ rest_1 tb e args s ∧ Pre_1 tb e args s)
    (fun _ _ args s o t => lw_Q args s o t) := by
  intro p e ha hc hk s m args below hf hfit hheap happ hpre
  obtain ⟨b, xs, hP⟩ := lw_pre_spec hpre.2.2 hpre.2.1
  obtain ⟨k, o, h1, h2, h3, hQ⟩ := lw_walk l b xs p e ha hc hk s m args below hf ((Spec.applies_iff_loose hf).mp happ).1 hP trivial
  exact ⟨k, o, h1, h2, h3, hQ⟩
theorem lw_frame {s t : State} {o : Outcome} {args : Array Value} (h : Framed s o t [] 600000 7302250) :
    Framed s o t (fieldLocs frame_1_writes args s ++ arrayLocs frame_1_arrays args s ++ staticLocs frame_1_statics s) 600000 7302250 := h
theorem lw_limb (L : Cond) (hL : ∀ (args : Array Value) (s t : State), L.after args s (.returned (some (.int 1))) t = true) :
    ArmFor flags0 classFile x code maxLocals ret World_1 tables_1 room_1 Calls_1 rest_1 Pre_1
      (fun tb e a s o t => postC L tb e a s o t ∧ Framed s o t (fieldLocs frame_1_writes a s ++ arrayLocs frame_1_arrays a s ++ staticLocs frame_1_statics s) 600000 7302250) := by
  intro l _ _ _ p e ha hc hk s m args below hf hfit hheap happ hpre
  obtain ⟨k, o, h1, h2, h3, rfl, hF⟩ := lw_comes l p e ha hc hk s m args below hf hfit hheap happ hpre
  exact ⟨k, _, h1, h2, h3, hL args s _, lw_frame hF⟩
theorem i_vc : Claimed_1_1 ∧ Claimed_1_2 := ⟨lw_limb limb_1_1 (fun args s t => by simp [limb_1_1, Cond.after, Cond.holds, Cond.value]), lw_limb limb_1_2 (fun args s t => Cond.after_iff.mpr (by
  first | (rw [show limb_1_2 = Cond.eq .result (.int 1) from rfl, Cond.eq_ints (x := 1) (y := 1) rfl rfl]; simp; done) | (simp [limb_1_2, Cond.value, Term.eval]; done)))⟩
end

set_option maxHeartbeats 4000000 in
set_option maxRecDepth 100000 in
theorem c_ModeKeeper_form (l : Launch) (dC : Nat → ClassId) (dI : Nat → Nat → Nat) (ad : Nat → Nat) (sz : Nat) (cI cF : ClassId) (k act txt : Nat → Int32) (F pr : Nat → Nat → Int32) (id ev : Int32) (t : Nat) (ht8 : t ≤ 8) (hk6 : k 6 = nI t) : Met l y_ModeKeeper_form w_ModeKeeper_form ({ frames := 2, cells := 0, slots := 0, locals := 45 }) (va_Pc [.ref (ad 0), .int id, .int ev] (gP (dC, dI) classes (tyK cI cF) (wK ad cI cF k act txt F pr) sz)) (va_Qi (fun r (_ : Unit) => r = (kFail k F id ev)) (fun _ t => gB (dC, dI) classes (va_A (wK ad cI cF k act txt F pr) sz) (wK ad cI cF ((kFoK k F id ev)) act txt ((kFoF k F id ev)) ((kFoP k txt F pr id ev))) t) (va_A (wK ad cI cF k act txt F pr) sz)) 0 0 (va_A (wK ad cI cF k act txt F pr) sz) := by
  refine Met.ofW (cc := b_ModeKeeper_form) (maxL := 4) (ret := (some .int)) (by decide) rfl ?_
  intro p e s m args below meth c s₁ B hml hv
  obtain ⟨rfl, hsz, hP, hK, hD0, hN⟩ := hv
  have hx := B.exec
  have hb := B.bytes
  have hrt := B.returns
  have hq : ∀ w ∈ wAll, w.before ([.ref (ad 0), .int id, .int ev] : List Value).toArray s = true := fun w h => atoms_spec (ws := w_ModeKeeper_form) B.pre w (List.mem_cons_of_mem _ h)
  have hown : s.vm.findClass R_ModeKeeper = some m.cls := findClass_of_methodNamed B.named
  have hlocks := B.notSynchronized
  subst hsz
  have hD := hD0.self (sz := s.heap.size)
  generalize hAe : va_A (wK ad cI cF k act txt F pr) s.heap.size = A at hD ⊢
  have hA : ∀ q : Nat, s.heap.size ≤ q → A q := fun q h => by rw [← hAe]; exact Or.inr h
  have hS : va_S A s.heap s.heap [] := va_S.rf
  have hl := lv_entry ([.ref (ad 0), .int id, .int ev]) (n := 4) (Nat.le_of_ble_eq_true rfl)
  rw [lg_entry_eq]
  generalize (lg_sl ([.ref (ad 0), .int id, .int ev]) ++ List.replicate (4 - (lg_sl ([.ref (ad 0), .int id, .int ev])).length) Slot.unset).toArray = ls at hl ⊢
  have hl : lv_has ls 4 [(0, .ref (ad 0)), (1, .int id), (2, .int ev)] := hl
  refine lv_aload_n hx hb d_ModeKeeper_form_0 rfl (lv_at hl 0 rfl) ?_
  refine lv_iload_n hx hb d_ModeKeeper_form_1 rfl (lv_at hl 1 rfl) ?_
  refine lv_iload_n hx hb d_ModeKeeper_form_2 rfl (lv_at hl 2 rfl) ?_
  refine vp_callSi (va_Run.run (va_runV (As := [.int id, .int ev]) (rest := []) ⟨hx, hb, hml, hown, hq⟩ (c_ModeKeeper_failureOfNewForm l dC dI ad s.heap.size cI cF k act txt F pr id ev) ⟨callB_of 2 hq (gd m_ModeKeeper_failureOfNewForm) rfl rfl rfl (hq _ qk_10) (hq _ qk_23) (by decide +kernel) ⟨Nat.le_of_ble_eq_true rfl, Nat.le_of_ble_eq_true rfl⟩, (hq _ qk_24), (hq _ qk_25)⟩ ⟨g_blind, va_recv hK hP (ci := 0) (q0 := 0) rfl rfl, g_pre hP hK hD hN⟩ rfl rfl hl.1 rfl (lv_room (Nat.le_of_ble_eq_true rfl)) d_ModeKeeper_form_3 ⟨Nat.zero_le _, Nat.zero_le _⟩)) (fun r hr => ?_)
  subst hr
  refine lv_istore_n (lv' := [(3, .int (kFail k F id ev)), (0, .ref (ad 0)), (1, .int id), (2, .int ev)]) hx hb d_ModeKeeper_form_6 rfl hl (by decide) rfl (fun ls hl => ?_)
  refine lv_iload_n hx hb d_ModeKeeper_form_7 rfl (lv_at hl 0 rfl) ?_
  refine lv_if_ne (tgt := 17) hx hb d_ModeKeeper_form_8 (by decide) (fun c_1 => ?_) (fun c_1 => ?_)
  · refine lv_aload_n hx hb d_ModeKeeper_form_17 rfl (lv_at hl 1 rfl) ?_
    refine lv_iconst (v := 0) hx hb d_ModeKeeper_form_18 (by decide) ?_
    refine va_put (D := (dC, dI)) (ci := 0) (v := .int 0) (ty := .int) (C := R_ModeKeeper) (T := F_ModeKeeper) (N := 9) hx hb hq iw_K t_ModeKeeper t_ModeKeeper_ok n_ModeKeeper hown hK hP hD hS 0 rfl rfl 6 (by decide) (hq _ qk_9) (fun _ h9 => h9) rfl (by decide +kernel) rfl rfl (Nat.le_of_ble_eq_true rfl) d_ModeKeeper_form_19 (fun H locs hP hD hS => ?_)
    have hP : va_P (dC, dI) classes (wK ad cI cF ((upd k 6 0)) act txt F pr) H := hP
    have hD : va_D A (wK ad cI cF ((upd k 6 0)) act txt F pr) := hD
    refine lv_iload_n hx hb d_ModeKeeper_form_22 rfl (lv_at hl 0 rfl) ?_
    have e_k : (kFoK k F id ev) = (upd k 6 0) := (by simp only [kFoK, kFoF, kFoP, if_neg c_1] <;> rfl)
    have e_F : (kFoF k F id ev) = F := (by simp only [kFoK, kFoF, kFoP, if_neg c_1] <;> rfl)
    have e_pr : (kFoP k txt F pr id ev) = pr := (by simp only [kFoK, kFoF, kFoP, if_neg c_1] <;> rfl)
    have hP9 : va_P (dC, dI) classes (wK ad cI cF ((kFoK k F id ev)) act txt ((kFoF k F id ev)) ((kFoP k txt F pr id ev))) H := by rw [e_k, e_F, e_pr]; exact hP
    have hD9 : va_D A (wK ad cI cF ((kFoK k F id ev)) act txt ((kFoF k F id ev)) ((kFoP k txt F pr id ev))) := by rw [e_k, e_F, e_pr]; exact hD
    exact W.iret (v := (kFail k F id ev)) hx hb hrt (fun t ht hW => ⟨⟨(kFail k F id ev), (), rfl, rfl, by rw [ht]; exact hP9, hD9⟩, hS.F ht⟩) hS.2.2 d_ModeKeeper_form_23
  · refine lv_aload_n hx hb d_ModeKeeper_form_11 rfl (lv_at hl 1 rfl) ?_
    refine lv_iload_n hx hb d_ModeKeeper_form_12 rfl (lv_at hl 2 rfl) ?_
    refine lv_iload_n hx hb d_ModeKeeper_form_13 rfl (lv_at hl 3 rfl) ?_
    refine g_callv (va_runV (As := [.int id, .int ev]) (rest := []) ⟨hx, hb, hml, hown, hq⟩ (c_ModeKeeper_fillEmptyPlace l dC dI ad s.heap.size cI cF k act txt F pr id ev t ht8 hk6) ⟨callB_of 2 hq (gd m_ModeKeeper_fillEmptyPlace) rfl rfl rfl (hq _ qk_10) (hq _ qk_26) (by decide +kernel) ⟨Nat.le_of_ble_eq_true rfl, Nat.le_of_ble_eq_true rfl⟩, (hq _ qk_27), (hq _ qk_28)⟩ ⟨g_blind, va_recv hK hP (ci := 0) (q0 := 0) rfl rfl, g_pre hP hK hD hN⟩ rfl rfl hl.1 rfl (lv_room (Nat.le_of_ble_eq_true rfl)) d_ModeKeeper_form_14 ⟨Nat.zero_le _, Nat.zero_le _⟩) hD hS hA (fun H locs hP hD hS => ?_)
    refine lv_aload_n hx hb d_ModeKeeper_form_17 rfl (lv_at hl 1 rfl) ?_
    refine lv_iconst (v := 0) hx hb d_ModeKeeper_form_18 (by decide) ?_
    refine va_put (D := (dC, dI)) (ci := 0) (v := .int 0) (ty := .int) (C := R_ModeKeeper) (T := F_ModeKeeper) (N := 9) hx hb hq iw_K t_ModeKeeper t_ModeKeeper_ok n_ModeKeeper hown hK hP hD hS 0 rfl rfl 6 (by decide) (hq _ qk_9) (fun _ h9 => h9) rfl (by decide +kernel) rfl rfl (Nat.le_of_ble_eq_true rfl) d_ModeKeeper_form_19 (fun H locs hP hD hS => ?_)
    have hP : va_P (dC, dI) classes (wK ad cI cF ((upd (kFiK k F) 6 0)) act txt ((kFiF k F id ev)) ((kFiP k txt F pr))) H := hP
    have hD : va_D A (wK ad cI cF ((upd (kFiK k F) 6 0)) act txt ((kFiF k F id ev)) ((kFiP k txt F pr))) := hD
    refine lv_iload_n hx hb d_ModeKeeper_form_22 rfl (lv_at hl 0 rfl) ?_
    have e_k : (kFoK k F id ev) = (upd (kFiK k F) 6 0) := (by simp only [kFoK, kFoF, kFoP, if_pos c_1] <;> rfl)
    have e_F : (kFoF k F id ev) = (kFiF k F id ev) := (by simp only [kFoK, kFoF, kFoP, if_pos c_1] <;> rfl)
    have e_pr : (kFoP k txt F pr id ev) = (kFiP k txt F pr) := (by simp only [kFoK, kFoF, kFoP, if_pos c_1] <;> rfl)
    have hP9 : va_P (dC, dI) classes (wK ad cI cF ((kFoK k F id ev)) act txt ((kFoF k F id ev)) ((kFoP k txt F pr id ev))) H := by rw [e_k, e_F, e_pr]; exact hP
    have hD9 : va_D A (wK ad cI cF ((kFoK k F id ev)) act txt ((kFoF k F id ev)) ((kFoP k txt F pr id ev))) := by rw [e_k, e_F, e_pr]; exact hD
    exact W.iret (v := (kFail k F id ev)) hx hb hrt (fun t ht hW => ⟨⟨(kFail k F id ev), (), rfl, rfl, by rw [ht]; exact hP9, hD9⟩, hS.F ht⟩) hS.2.2 d_ModeKeeper_form_23
set_option maxHeartbeats 4000000 in
set_option maxRecDepth 100000 in
theorem c_ModeKeeper_remove (l : Launch) (dC : Nat → ClassId) (dI : Nat → Nat → Nat) (ad : Nat → Nat) (sz : Nat) (cI cF : ClassId) (k act txt : Nat → Int32) (F pr : Nat → Nat → Int32) (id : Int32) : Met l y_ModeKeeper_remove w_ModeKeeper_remove ({ frames := 1, cells := 0, slots := 0, locals := 23 }) (va_Pc [.ref (ad 0), .int id] (gP (dC, dI) classes (tyK cI cF) (wK ad cI cF k act txt F pr) sz)) (va_Qi (fun r (_ : Unit) => r = (kReR F id)) (fun _ t => gB (dC, dI) classes (va_A (wK ad cI cF k act txt F pr) sz) (wK ad cI cF ((kReK k F id)) act txt ((kReF F id)) pr) t) (va_A (wK ad cI cF k act txt F pr) sz)) 0 0 (va_A (wK ad cI cF k act txt F pr) sz) := by
  refine Met.ofW (cc := b_ModeKeeper_remove) (maxL := 3) (ret := (some .int)) (by decide) rfl ?_
  intro p e s m args below meth c s₁ B hml hv
  obtain ⟨rfl, hsz, hP, hK, hD0, hN⟩ := hv
  have hx := B.exec
  have hb := B.bytes
  have hrt := B.returns
  have hq : ∀ w ∈ wAll, w.before ([.ref (ad 0), .int id] : List Value).toArray s = true := fun w h => atoms_spec (ws := w_ModeKeeper_remove) B.pre w (List.mem_cons_of_mem _ h)
  have hown : s.vm.findClass R_ModeKeeper = some m.cls := findClass_of_methodNamed B.named
  have hlocks := B.notSynchronized
  subst hsz
  have hD := hD0.self (sz := s.heap.size)
  generalize hAe : va_A (wK ad cI cF k act txt F pr) s.heap.size = A at hD ⊢
  have hA : ∀ q : Nat, s.heap.size ≤ q → A q := fun q h => by rw [← hAe]; exact Or.inr h
  have hS : va_S A s.heap s.heap [] := va_S.rf
  have hl := lv_entry ([.ref (ad 0), .int id]) (n := 3) (Nat.le_of_ble_eq_true rfl)
  rw [lg_entry_eq]
  generalize (lg_sl ([.ref (ad 0), .int id]) ++ List.replicate (3 - (lg_sl ([.ref (ad 0), .int id])).length) Slot.unset).toArray = ls at hl ⊢
  have hl : lv_has ls 3 [(0, .ref (ad 0)), (1, .int id)] := hl
  refine lv_aload_n hx hb d_ModeKeeper_remove_0 rfl (lv_at hl 0 rfl) ?_
  refine lv_iload_n hx hb d_ModeKeeper_remove_1 rfl (lv_at hl 1 rfl) ?_
  refine va_csq (va_Run.run (va_runV (As := [.int id]) (rest := []) ⟨hx, hb, hml, hown, hq⟩ (c_ModeKeeper_find l dC dI ad s.heap.size cI cF k act txt F pr id) ⟨callB_of 1 hq (gd m_ModeKeeper_find) rfl rfl rfl (hq _ qk_10) (hq _ qk_11) (by decide +kernel) ⟨Nat.le_of_ble_eq_true rfl, Nat.le_of_ble_eq_true rfl⟩, (hq _ qk_12), (hq _ qk_13)⟩ ⟨g_blind, va_recv hK hP (ci := 0) (q0 := 0) rfl rfl, g_pre hP hK hD hN⟩ rfl rfl hl.1 rfl (lv_room (Nat.le_of_ble_eq_true rfl)) d_ModeKeeper_remove_2 ⟨Nat.zero_le _, Nat.zero_le _⟩)) (fun r hr => ?_)
  cases hf_1 : kFind F id 8 0 with
  | none =>
    obtain rfl : r = none := by rw [hr, hf_1]; rfl
    refine lv_astore_nN (lv' := [(2, .null), (0, .ref (ad 0)), (1, .int id)]) hx hb d_ModeKeeper_remove_5 rfl hl (by decide) rfl (fun ls hl => ?_)
    refine lv_aload_nN hx hb d_ModeKeeper_remove_6 rfl (lv_at hl 0 rfl) ?_
    refine lv_ifnonnullN hx hb d_ModeKeeper_remove_7 ?_
    refine lv_bipush (v := 14) hx hb d_ModeKeeper_remove_10 (by decide) ?_
    have e_k : (kReK k F id) = k := (by simp only [kReR, kReK, kReF, hf_1] <;> rfl)
    have e_F : (kReF F id) = F := (by simp only [kReR, kReK, kReF, hf_1] <;> rfl)
    have hP9 : va_P (dC, dI) classes (wK ad cI cF ((kReK k F id)) act txt ((kReF F id)) pr) s.heap := by rw [e_k, e_F]; exact hP
    have hD9 : va_D A (wK ad cI cF ((kReK k F id)) act txt ((kReF F id)) pr) := by rw [e_k, e_F]; exact hD
    exact W.iret (v := 14) hx hb hrt (fun t ht hW => ⟨⟨14, (), rfl, (by simp only [kReR, kReK, kReF, hf_1] <;> rfl), by rw [ht]; exact hP9, hD9⟩, hS.F ht⟩) hS.2.2 d_ModeKeeper_remove_12
  | some i_2 =>
    obtain rfl : r = some (ad (4 + i_2)) := by rw [hr, hf_1]; rfl
    have hi : i_2 < 8 := by have h8 := (kFind_some hf_1).2.1; omega
    refine lv_astore_n (lv' := [(2, .ref (ad (4 + i_2))), (0, .ref (ad 0)), (1, .int id)]) hx hb d_ModeKeeper_remove_5 rfl hl (by decide) rfl (fun ls hl => ?_)
    refine lv_aload_n hx hb d_ModeKeeper_remove_6 rfl (lv_at hl 0 rfl) ?_
    refine lv_ifnonnull (tgt := 13) hx hb d_ModeKeeper_remove_7 (by decide) ?_
    refine lv_aload_n hx hb d_ModeKeeper_remove_13 rfl (lv_at hl 0 rfl) ?_
    refine va_getN (D := (dC, dI)) (ci := 1) (v := .int (F i_2 3)) (C := R_Form) (T := F_Form) (N := 6) hx hb hq iw_F hown hK hP (4 + i_2) (wK_at hi) rfl 3 (by decide) (gN_on hN) (fun _ h9 => h9) rfl d_ModeKeeper_remove_14 ?_
    refine lv_if_eq (tgt := 23) hx hb d_ModeKeeper_remove_17 (by decide) (fun c_3 => ?_) (fun c_3 => ?_)
    · refine lv_aload_n hx hb d_ModeKeeper_remove_23 rfl (lv_at hl 0 rfl) ?_
      refine lv_iconst (v := 0) hx hb d_ModeKeeper_remove_24 (by decide) ?_
      refine va_putN (D := (dC, dI)) (ci := 1) (v := .int 0) (ty := .boolean) (C := R_Form) (T := F_Form) (N := 6) hx hb hq iw_F t_Form t_Form_ok n_Form hown hK hP hD hS (4 + i_2) (wK_at hi) rfl 0 (by decide) (gN_there hN) (fun _ h9 => h9) rfl (by decide +kernel) rfl rfl (Nat.le_of_ble_eq_true rfl) d_ModeKeeper_remove_25 (fun H locs hP hD hS => ?_)
      rw [wK_set0 hi] at hP hD
      have hP : va_P (dC, dI) classes (wK ad cI cF k act txt ((up2 F i_2 0 0)) pr) H := hP
      have hD : va_D A (wK ad cI cF k act txt ((up2 F i_2 0 0)) pr) := hD
      refine lv_aload_n hx hb d_ModeKeeper_remove_28 rfl (lv_at hl 1 rfl) ?_
      refine lv_dup hx hb d_ModeKeeper_remove_29 rfl ?_
      refine va_get (D := (dC, dI)) (ci := 0) (v := .int (k 8)) (C := R_ModeKeeper) (T := F_ModeKeeper) (N := 9) hx hb hq iw_K hown hK hP 0 rfl rfl 8 (by decide) (hq _ qk_14) (fun _ h9 => h9) rfl d_ModeKeeper_remove_30 ?_
      refine lv_iconst (v := 1) hx hb d_ModeKeeper_remove_33 (by decide) ?_
      refine lv_isub hx hb d_ModeKeeper_remove_34 ?_
      refine va_put (D := (dC, dI)) (ci := 0) (v := .int ((k 8) - 1)) (ty := .int) (C := R_ModeKeeper) (T := F_ModeKeeper) (N := 9) hx hb hq iw_K t_ModeKeeper t_ModeKeeper_ok n_ModeKeeper hown hK hP hD hS 0 rfl rfl 8 (by decide) (hq _ qk_14) (fun _ h9 => h9) rfl (by decide +kernel) rfl rfl (Nat.le_of_ble_eq_true rfl) d_ModeKeeper_remove_35 (fun H locs hP hD hS => ?_)
      have hP : va_P (dC, dI) classes (wK ad cI cF ((upd k 8 (((k 8) - 1)))) act txt ((up2 F i_2 0 0)) pr) H := hP
      have hD : va_D A (wK ad cI cF ((upd k 8 (((k 8) - 1)))) act txt ((up2 F i_2 0 0)) pr) := hD
      refine lv_iconst (v := 0) hx hb d_ModeKeeper_remove_38 (by decide) ?_
      have e_k : (kReK k F id) = (upd k 8 (((k 8) - 1))) := (by simp only [kReR, kReK, kReF, hf_1, if_pos c_3] <;> rfl)
      have e_F : (kReF F id) = (up2 F i_2 0 0) := (by simp only [kReR, kReK, kReF, hf_1, if_pos c_3] <;> rfl)
      have hP9 : va_P (dC, dI) classes (wK ad cI cF ((kReK k F id)) act txt ((kReF F id)) pr) H := by rw [e_k, e_F]; exact hP
      have hD9 : va_D A (wK ad cI cF ((kReK k F id)) act txt ((kReF F id)) pr) := by rw [e_k, e_F]; exact hD
      exact W.iret (v := 0) hx hb hrt (fun t ht hW => ⟨⟨0, (), rfl, (by simp only [kReR, kReK, kReF, hf_1, if_pos c_3] <;> rfl), by rw [ht]; exact hP9, hD9⟩, hS.F ht⟩) hS.2.2 d_ModeKeeper_remove_39
    · refine lv_bipush (v := 15) hx hb d_ModeKeeper_remove_20 (by decide) ?_
      have e_k : (kReK k F id) = k := (by simp only [kReR, kReK, kReF, hf_1, if_neg c_3] <;> rfl)
      have e_F : (kReF F id) = F := (by simp only [kReR, kReK, kReF, hf_1, if_neg c_3] <;> rfl)
      have hP9 : va_P (dC, dI) classes (wK ad cI cF ((kReK k F id)) act txt ((kReF F id)) pr) s.heap := by rw [e_k, e_F]; exact hP
      have hD9 : va_D A (wK ad cI cF ((kReK k F id)) act txt ((kReF F id)) pr) := by rw [e_k, e_F]; exact hD
      exact W.iret (v := 15) hx hb hrt (fun t ht hW => ⟨⟨15, (), rfl, (by simp only [kReR, kReK, kReF, hf_1, if_neg c_3] <;> rfl), by rw [ht]; exact hP9, hD9⟩, hS.F ht⟩) hS.2.2 d_ModeKeeper_remove_22
set_option maxHeartbeats 4000000 in
set_option maxRecDepth 100000 in
theorem c_ModeKeeper_enable (l : Launch) (dC : Nat → ClassId) (dI : Nat → Nat → Nat) (ad : Nat → Nat) (sz : Nat) (cI cF : ClassId) (k act txt : Nat → Int32) (F pr : Nat → Nat → Int32) (id on : Int32) (hon : on = 0 ∨ on = 1) : Met l y_ModeKeeper_enable w_ModeKeeper_enable ({ frames := 1, cells := 0, slots := 0, locals := 23 }) (va_Pc [.ref (ad 0), .int id, .int on] (gP (dC, dI) classes (tyK cI cF) (wK ad cI cF k act txt F pr) sz)) (va_Qi (fun r (_ : Unit) => r = (kEbR F id)) (fun _ t => gB (dC, dI) classes (va_A (wK ad cI cF k act txt F pr) sz) (wK ad cI cF k act txt ((kEbF F id on)) pr) t) (va_A (wK ad cI cF k act txt F pr) sz)) 0 0 (va_A (wK ad cI cF k act txt F pr) sz) := by
  refine Met.ofW (cc := b_ModeKeeper_enable) (maxL := 4) (ret := (some .int)) (by decide) rfl ?_
  intro p e s m args below meth c s₁ B hml hv
  obtain ⟨rfl, hsz, hP, hK, hD0, hN⟩ := hv
  have hx := B.exec
  have hb := B.bytes
  have hrt := B.returns
  have hq : ∀ w ∈ wAll, w.before ([.ref (ad 0), .int id, .int on] : List Value).toArray s = true := fun w h => atoms_spec (ws := w_ModeKeeper_enable) B.pre w (List.mem_cons_of_mem _ h)
  have hown : s.vm.findClass R_ModeKeeper = some m.cls := findClass_of_methodNamed B.named
  have hlocks := B.notSynchronized
  subst hsz
  have hD := hD0.self (sz := s.heap.size)
  generalize hAe : va_A (wK ad cI cF k act txt F pr) s.heap.size = A at hD ⊢
  have hA : ∀ q : Nat, s.heap.size ≤ q → A q := fun q h => by rw [← hAe]; exact Or.inr h
  have hS : va_S A s.heap s.heap [] := va_S.rf
  have hl := lv_entry ([.ref (ad 0), .int id, .int on]) (n := 4) (Nat.le_of_ble_eq_true rfl)
  rw [lg_entry_eq]
  generalize (lg_sl ([.ref (ad 0), .int id, .int on]) ++ List.replicate (4 - (lg_sl ([.ref (ad 0), .int id, .int on])).length) Slot.unset).toArray = ls at hl ⊢
  have hl : lv_has ls 4 [(0, .ref (ad 0)), (1, .int id), (2, .int on)] := hl
  refine lv_aload_n hx hb d_ModeKeeper_enable_0 rfl (lv_at hl 0 rfl) ?_
  refine lv_iload_n hx hb d_ModeKeeper_enable_1 rfl (lv_at hl 1 rfl) ?_
  refine va_csq (va_Run.run (va_runV (As := [.int id]) (rest := []) ⟨hx, hb, hml, hown, hq⟩ (c_ModeKeeper_find l dC dI ad s.heap.size cI cF k act txt F pr id) ⟨callB_of 1 hq (gd m_ModeKeeper_find) rfl rfl rfl (hq _ qk_10) (hq _ qk_11) (by decide +kernel) ⟨Nat.le_of_ble_eq_true rfl, Nat.le_of_ble_eq_true rfl⟩, (hq _ qk_12), (hq _ qk_13)⟩ ⟨g_blind, va_recv hK hP (ci := 0) (q0 := 0) rfl rfl, g_pre hP hK hD hN⟩ rfl rfl hl.1 rfl (lv_room (Nat.le_of_ble_eq_true rfl)) d_ModeKeeper_enable_2 ⟨Nat.zero_le _, Nat.zero_le _⟩)) (fun r hr => ?_)
  cases hf_1 : kFind F id 8 0 with
  | none =>
    obtain rfl : r = none := by rw [hr, hf_1]; rfl
    refine lv_astore_nN (lv' := [(3, .null), (0, .ref (ad 0)), (1, .int id), (2, .int on)]) hx hb d_ModeKeeper_enable_5 rfl hl (by decide) rfl (fun ls hl => ?_)
    refine lv_aload_nN hx hb d_ModeKeeper_enable_6 rfl (lv_at hl 0 rfl) ?_
    refine lv_ifnonnullN hx hb d_ModeKeeper_enable_7 ?_
    refine lv_bipush (v := 14) hx hb d_ModeKeeper_enable_10 (by decide) ?_
    have e_F : (kEbF F id on) = F := (by simp only [kEbR, kEbF, hf_1] <;> rfl)
    have hP9 : va_P (dC, dI) classes (wK ad cI cF k act txt ((kEbF F id on)) pr) s.heap := by rw [e_F]; exact hP
    have hD9 : va_D A (wK ad cI cF k act txt ((kEbF F id on)) pr) := by rw [e_F]; exact hD
    exact W.iret (v := 14) hx hb hrt (fun t ht hW => ⟨⟨14, (), rfl, (by simp only [kEbR, kEbF, hf_1] <;> rfl), by rw [ht]; exact hP9, hD9⟩, hS.F ht⟩) hS.2.2 d_ModeKeeper_enable_12
  | some i_2 =>
    obtain rfl : r = some (ad (4 + i_2)) := by rw [hr, hf_1]; rfl
    have hi : i_2 < 8 := by have h8 := (kFind_some hf_1).2.1; omega
    refine lv_astore_n (lv' := [(3, .ref (ad (4 + i_2))), (0, .ref (ad 0)), (1, .int id), (2, .int on)]) hx hb d_ModeKeeper_enable_5 rfl hl (by decide) rfl (fun ls hl => ?_)
    refine lv_aload_n hx hb d_ModeKeeper_enable_6 rfl (lv_at hl 0 rfl) ?_
    refine lv_ifnonnull (tgt := 13) hx hb d_ModeKeeper_enable_7 (by decide) ?_
    refine lv_aload_n hx hb d_ModeKeeper_enable_13 rfl (lv_at hl 0 rfl) ?_
    refine lv_iload_n hx hb d_ModeKeeper_enable_14 rfl (lv_at hl 3 rfl) ?_
    refine va_putN (D := (dC, dI)) (ci := 1) (v := .int on) (ty := .boolean) (C := R_Form) (T := F_Form) (N := 6) hx hb hq iw_F t_Form t_Form_ok n_Form hown hK hP hD hS (4 + i_2) (wK_at hi) rfl 3 (by decide) (gN_on hN) (fun _ h9 => h9) rfl (by decide +kernel) (g_nar hon) (g_fit hon) (Nat.le_of_ble_eq_true rfl) d_ModeKeeper_enable_15 (fun H locs hP hD hS => ?_)
    rw [wK_set3 hi] at hP hD
    have hP : va_P (dC, dI) classes (wK ad cI cF k act txt ((up2 F i_2 3 on)) pr) H := hP
    have hD : va_D A (wK ad cI cF k act txt ((up2 F i_2 3 on)) pr) := hD
    refine lv_iconst (v := 0) hx hb d_ModeKeeper_enable_18 (by decide) ?_
    have e_F : (kEbF F id on) = (up2 F i_2 3 on) := (by simp only [kEbR, kEbF, hf_1] <;> rfl)
    have hP9 : va_P (dC, dI) classes (wK ad cI cF k act txt ((kEbF F id on)) pr) H := by rw [e_F]; exact hP
    have hD9 : va_D A (wK ad cI cF k act txt ((kEbF F id on)) pr) := by rw [e_F]; exact hD
    exact W.iret (v := 0) hx hb hrt (fun t ht hW => ⟨⟨0, (), rfl, (by simp only [kEbR, kEbF, hf_1] <;> rfl), by rw [ht]; exact hP9, hD9⟩, hS.F ht⟩) hS.2.2 d_ModeKeeper_enable_19

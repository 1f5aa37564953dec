set_option maxHeartbeats 4000000 in
set_option maxRecDepth 100000 in
theorem c_ModeKeeper_changeMode (l : Launch) (dC : Nat → ClassId) (dI : Nat → Nat → Nat) (ad : Nat → Nat) (sz : Nat) (cI cF : ClassId) (k act txt : Nat → Int32) (F pr : Nat → Nat → Int32) (m0 : Int32) (tS : Nat) : Met l y_ModeKeeper_changeMode w_ModeKeeper_changeMode ({ frames := 1, cells := 0, slots := 0, locals := 18 }) (va_Pc [.ref (ad 0), .int m0] (gPz (dC, dI) classes (tyK cI cF) (wK ad cI cF k act txt F pr) sz tS)) (va_Qi (fun r (_ : Unit) => r = (kChR k m0)) (fun _ t => gB (dC, dI) classes (va_A (wK ad cI cF k act txt F pr) sz) (wK ad cI cF ((kChK k m0)) ((kChA k act m0)) txt F pr) t) (va_A (wK ad cI cF k act txt F pr) sz)) 0 0 (va_A (wK ad cI cF k act txt F pr) sz) := by
  refine Met.ofW (cc := b_ModeKeeper_changeMode) (maxL := 2) (ret := (some .boolean)) (by decide) rfl ?_
  intro p e s m args below meth c s₁ B hml hv
  obtain ⟨rfl, ⟨hsz, hP, hK, hD0, hN⟩, hZ⟩ := hv
  have hx := B.exec
  have hb := B.bytes
  have hrt := B.returns
  have hq : ∀ w ∈ wAll, w.before ([.ref (ad 0), .int m0] : List Value).toArray s = true := fun w h => atoms_spec (ws := w_ModeKeeper_changeMode) B.pre w (List.mem_cons_of_mem _ h)
  have hown : s.vm.findClass R_ModeKeeper = some m.cls := findClass_of_methodNamed B.named
  have hlocks := B.notSynchronized
  subst hsz
  have hD := hD0.self (sz := s.heap.size)
  generalize hAe : va_A (wK ad cI cF k act txt F pr) s.heap.size = A at hD hZ ⊢
  have hA : ∀ q : Nat, s.heap.size ≤ q → A q := fun q h => by rw [← hAe]; exact Or.inr h
  have hS : va_S A s.heap s.heap [] := va_S.rf
  have hl := lv_entry ([.ref (ad 0), .int m0]) (n := 2) (Nat.le_of_ble_eq_true rfl)
  rw [lg_entry_eq]
  generalize (lg_sl ([.ref (ad 0), .int m0]) ++ List.replicate (2 - (lg_sl ([.ref (ad 0), .int m0])).length) Slot.unset).toArray = ls at hl ⊢
  have hl : lv_has ls 2 [(0, .ref (ad 0)), (1, .int m0)] := hl
  refine lv_aload_n hx hb d_ModeKeeper_changeMode_0 rfl (lv_at hl 0 rfl) ?_
  refine va_get (D := (dC, dI)) (ci := 0) (v := .int (k 1)) (C := R_ModeKeeper) (T := F_ModeKeeper) (N := 9) hx hb hq iw_K hown hK hP 0 rfl rfl 1 (by decide) (hq _ qk_1) (fun _ h9 => h9) rfl d_ModeKeeper_changeMode_1 ?_
  refine lv_iload_n hx hb d_ModeKeeper_changeMode_4 rfl (lv_at hl 1 rfl) ?_
  refine lv_icmp_ne (tgt := 10) hx hb d_ModeKeeper_changeMode_5 (by decide) (fun c_1 => ?_) (fun c_1 => ?_)
  · refine lv_aload_n hx hb d_ModeKeeper_changeMode_10 rfl (lv_at hl 0 rfl) ?_
    refine lv_iload_n hx hb d_ModeKeeper_changeMode_11 rfl (lv_at hl 1 rfl) ?_
    refine va_put (D := (dC, dI)) (ci := 0) (v := .int m0) (ty := .int) (C := R_ModeKeeper) (T := F_ModeKeeper) (N := 9) hx hb hq iw_K t_ModeKeeper t_ModeKeeper_ok n_ModeKeeper hown hK hP hD hS 0 rfl rfl 1 (by decide) (hq _ qk_1) (fun _ h9 => h9) rfl (by decide +kernel) rfl rfl (Nat.le_of_ble_eq_true rfl) d_ModeKeeper_changeMode_12 (fun H locs hP hD hS => ?_)
    have hP : va_P (dC, dI) classes (wK ad cI cF ((upd k 1 m0)) act txt F pr) H := hP
    have hD : va_D A (wK ad cI cF ((upd k 1 m0)) act txt F pr) := hD
    refine lv_aload_n hx hb d_ModeKeeper_changeMode_15 rfl (lv_at hl 0 rfl) ?_
    refine lv_dup hx hb d_ModeKeeper_changeMode_16 rfl ?_
    refine va_get (D := (dC, dI)) (ci := 0) (v := .int ((upd k 1 m0) 2)) (C := R_ModeKeeper) (T := F_ModeKeeper) (N := 9) hx hb hq iw_K hown hK hP 0 rfl rfl 2 (by decide) (hq _ qk_2) (fun _ h9 => h9) rfl d_ModeKeeper_changeMode_17 ?_
    refine lv_iconst (v := 1) hx hb d_ModeKeeper_changeMode_20 (by decide) ?_
    refine lv_iadd hx hb d_ModeKeeper_changeMode_21 ?_
    refine va_put (D := (dC, dI)) (ci := 0) (v := .int (((upd k 1 m0) 2) + 1)) (ty := .int) (C := R_ModeKeeper) (T := F_ModeKeeper) (N := 9) hx hb hq iw_K t_ModeKeeper t_ModeKeeper_ok n_ModeKeeper hown hK hP hD hS 0 rfl rfl 2 (by decide) (hq _ qk_2) (fun _ h9 => h9) rfl (by decide +kernel) rfl rfl (Nat.le_of_ble_eq_true rfl) d_ModeKeeper_changeMode_22 (fun H locs hP hD hS => ?_)
    have hP : va_P (dC, dI) classes (wK ad cI cF ((upd (upd k 1 m0) 2 ((((upd k 1 m0) 2) + 1)))) act txt F pr) H := hP
    have hD : va_D A (wK ad cI cF ((upd (upd k 1 m0) 2 ((((upd k 1 m0) 2) + 1)))) act txt F pr) := hD
    refine lv_iload_n hx hb d_ModeKeeper_changeMode_25 rfl (lv_at hl 1 rfl) ?_
    refine lv_if_ne (tgt := 43) hx hb d_ModeKeeper_changeMode_26 (by decide) (fun c_2 => ?_) (fun c_2 => ?_)
    · refine lv_iconst (v := 1) hx hb d_ModeKeeper_changeMode_43 (by decide) ?_
      have e_k : (kChK k m0) = (upd (upd k 1 m0) 2 ((((upd k 1 m0) 2) + 1))) := (by simp only [kChR, kChK, kChA, if_neg c_1, if_neg c_2] <;> rfl)
      have e_act : (kChA k act m0) = act := (by simp only [kChR, kChK, kChA, if_neg c_1, if_neg c_2] <;> rfl)
      have hP9 : va_P (dC, dI) classes (wK ad cI cF ((kChK k m0)) ((kChA k act m0)) txt F pr) H := by rw [e_k, e_act]; exact hP
      have hD9 : va_D A (wK ad cI cF ((kChK k m0)) ((kChA k act m0)) txt F pr) := by rw [e_k, e_act]; exact hD
      exact W.zret (v := 1) hx hb hrt rfl (fun t ht hW => ⟨⟨1, (), rfl, (by simp only [kChR, kChK, kChA, if_neg c_1, if_neg c_2] <;> rfl), by rw [ht]; exact hP9, hD9⟩, hS.F ht⟩) hS.2.2 d_ModeKeeper_changeMode_44
    · refine va_gets hx hb hZ.1 hS hown (hq _ qk_3) (fun _ h9 => h9) d_ModeKeeper_changeMode_29 ?_
      refine lv_iconst (v := 0) hx hb d_ModeKeeper_changeMode_32 (by decide) ?_
      refine lv_aload_n hx hb d_ModeKeeper_changeMode_33 rfl (lv_at hl 0 rfl) ?_
      refine va_get (D := (dC, dI)) (ci := 0) (v := .ref (ad 1)) (C := R_ModeKeeper) (T := F_ModeKeeper) (N := 9) hx hb hq iw_K hown hK hP 0 rfl rfl 0 (by decide) (hq _ qk_4) (fun _ h9 => h9) rfl d_ModeKeeper_changeMode_34 ?_
      refine lv_iconst (v := 0) hx hb d_ModeKeeper_changeMode_37 (by decide) ?_
      refine lv_bipush (v := 8) hx hb d_ModeKeeper_changeMode_38 (by decide) ?_
      refine va_copyx (D := (dC, dI)) hx hb (by rw [hml]; exact hl.1.symm) hown (hq _ qk_5) (hq _ qk_6) (hq _ qk_7) (hq _ qk_8) hK hP hD hS hZ.2.1 hZ.2.2.1 hZ.2.2.2 1 0 rfl rfl (by decide) (by decide) (by decide) (by decide) (by decide) (Nat.le_of_ble_eq_true rfl) (by decide +kernel) d_ModeKeeper_changeMode_40 (fun H locs hP hD hS => ?_)
      have hP : va_P (dC, dI) classes (wK ad cI cF ((upd (upd k 1 m0) 2 ((((upd k 1 m0) 2) + 1)))) ((va_cpy kSafe act 0 0 8)) txt F pr) H := hP
      have hD : va_D A (wK ad cI cF ((upd (upd k 1 m0) 2 ((((upd k 1 m0) 2) + 1)))) ((va_cpy kSafe act 0 0 8)) txt F pr) := hD
      refine lv_iconst (v := 1) hx hb d_ModeKeeper_changeMode_43 (by decide) ?_
      have e_k : (kChK k m0) = (upd (upd k 1 m0) 2 ((((upd k 1 m0) 2) + 1))) := (by simp only [kChR, kChK, kChA, if_neg c_1, if_pos c_2] <;> rfl)
      have e_act : (kChA k act m0) = (va_cpy kSafe act 0 0 8) := (by simp only [kChR, kChK, kChA, if_neg c_1, if_pos c_2] <;> rfl)
      have hP9 : va_P (dC, dI) classes (wK ad cI cF ((kChK k m0)) ((kChA k act m0)) txt F pr) H := by rw [e_k, e_act]; exact hP
      have hD9 : va_D A (wK ad cI cF ((kChK k m0)) ((kChA k act m0)) txt F pr) := by rw [e_k, e_act]; exact hD
      exact W.zret (v := 1) hx hb hrt rfl (fun t ht hW => ⟨⟨1, (), rfl, (by simp only [kChR, kChK, kChA, if_neg c_1, if_pos c_2] <;> rfl), by rw [ht]; exact hP9, hD9⟩, hS.F ht⟩) hS.2.2 d_ModeKeeper_changeMode_44
  · refine lv_iconst (v := 0) hx hb d_ModeKeeper_changeMode_8 (by decide) ?_
    have e_k : (kChK k m0) = k := (by simp only [kChR, kChK, kChA, if_pos c_1] <;> rfl)
    have e_act : (kChA k act m0) = act := (by simp only [kChR, kChK, kChA, if_pos c_1] <;> rfl)
    have hP9 : va_P (dC, dI) classes (wK ad cI cF ((kChK k m0)) ((kChA k act m0)) txt F pr) s.heap := by rw [e_k, e_act]; exact hP
    have hD9 : va_D A (wK ad cI cF ((kChK k m0)) ((kChA k act m0)) txt F pr) := by rw [e_k, e_act]; exact hD
    exact W.zret (v := 0) hx hb hrt rfl (fun t ht hW => ⟨⟨0, (), rfl, (by simp only [kChR, kChK, kChA, if_pos c_1] <;> rfl), by rw [ht]; exact hP9, hD9⟩, hS.F ht⟩) hS.2.2 d_ModeKeeper_changeMode_9
set_option maxHeartbeats 4000000 in
set_option maxRecDepth 100000 in
theorem c_ModeKeeper_failureOfNewForm (l : Launch) (dC : Nat → ClassId) (dI : Nat → Nat → Nat) (ad : Nat → Nat) (sz : Nat) (cI cF : ClassId) (k act txt : Nat → Int32) (F pr : Nat → Nat → Int32) (id ev : Int32) : Met l y_ModeKeeper_failureOfNewForm w_ModeKeeper_failureOfNewForm ({ frames := 1, cells := 0, slots := 0, locals := 23 }) (va_Pc [.ref (ad 0), .int id, .int ev] (gP (dC, dI) classes (tyK cI cF) (wK ad cI cF k act txt F pr) sz)) (vp_Si (fun r => r = (kFail k F id ev))) 0 0 (fun _ => False) := by
  refine Met.ofW (cc := b_ModeKeeper_failureOfNewForm) (maxL := 3) (ret := (some .int)) (by decide) rfl ?_
  intro p e s m args below meth c s₁ B hml hv
  obtain ⟨rfl, hsz, hP, hK, hD0, hN⟩ := hv
  have hx := B.exec
  have hb := B.bytes
  have hrt := B.returns
  have hq : ∀ w ∈ wAll, w.before ([.ref (ad 0), .int id, .int ev] : List Value).toArray s = true := fun w h => atoms_spec (ws := w_ModeKeeper_failureOfNewForm) B.pre w (List.mem_cons_of_mem _ h)
  have hown : s.vm.findClass R_ModeKeeper = some m.cls := findClass_of_methodNamed B.named
  have hlocks := B.notSynchronized
  subst hsz
  have hD := hD0
  have hl := lv_entry ([.ref (ad 0), .int id, .int ev]) (n := 3) (Nat.le_of_ble_eq_true rfl)
  rw [lg_entry_eq]
  generalize (lg_sl ([.ref (ad 0), .int id, .int ev]) ++ List.replicate (3 - (lg_sl ([.ref (ad 0), .int id, .int ev])).length) Slot.unset).toArray = ls at hl ⊢
  have hl : lv_has ls 3 [(0, .ref (ad 0)), (1, .int id), (2, .int ev)] := hl
  refine lv_aload_n hx hb d_ModeKeeper_failureOfNewForm_0 rfl (lv_at hl 0 rfl) ?_
  refine va_get (D := (dC, dI)) (ci := 0) (v := .int (k 6)) (C := R_ModeKeeper) (T := F_ModeKeeper) (N := 9) hx hb hq iw_K hown hK hP 0 rfl rfl 6 (by decide) (hq _ qk_9) (fun _ h9 => h9) rfl d_ModeKeeper_failureOfNewForm_1 ?_
  refine lv_if_eq (tgt := 30) hx hb d_ModeKeeper_failureOfNewForm_4 (by decide) (fun c_1 => ?_) (fun c_1 => ?_)
  · refine lv_bipush (v := 13) hx hb d_ModeKeeper_failureOfNewForm_30 (by decide) ?_
    exact W.iret (v := 13) hx hb hrt (fun t ht hW => ⟨13, rfl, (by simp only [kFail, if_pos c_1] <;> rfl), ht⟩) (fun _ h => by cases h) d_ModeKeeper_failureOfNewForm_32
  · refine lv_iload_n hx hb d_ModeKeeper_failureOfNewForm_7 rfl (lv_at hl 2 rfl) ?_
    refine lv_iconst (v := 1) hx hb d_ModeKeeper_failureOfNewForm_8 (by decide) ?_
    refine lv_icmp_lt (tgt := 30) hx hb d_ModeKeeper_failureOfNewForm_9 (by decide) (fun c_2 => ?_) (fun c_2 => ?_)
    · refine lv_bipush (v := 13) hx hb d_ModeKeeper_failureOfNewForm_30 (by decide) ?_
      exact W.iret (v := 13) hx hb hrt (fun t ht hW => ⟨13, rfl, (by simp only [kFail, if_neg c_1, if_pos c_2] <;> rfl), ht⟩) (fun _ h => by cases h) d_ModeKeeper_failureOfNewForm_32
    · refine lv_iload_n hx hb d_ModeKeeper_failureOfNewForm_12 rfl (lv_at hl 2 rfl) ?_
      refine lv_sipush (v := 255) hx hb d_ModeKeeper_failureOfNewForm_13 (by decide) ?_
      refine lv_icmp_gt (tgt := 30) hx hb d_ModeKeeper_failureOfNewForm_16 (by decide) (fun c_3 => ?_) (fun c_3 => ?_)
      · refine lv_bipush (v := 13) hx hb d_ModeKeeper_failureOfNewForm_30 (by decide) ?_
        exact W.iret (v := 13) hx hb hrt (fun t ht hW => ⟨13, rfl, (by simp only [kFail, if_neg c_1, if_neg c_2, if_pos c_3] <;> rfl), ht⟩) (fun _ h => by cases h) d_ModeKeeper_failureOfNewForm_32
      · refine lv_iload_n hx hb d_ModeKeeper_failureOfNewForm_19 rfl (lv_at hl 1 rfl) ?_
        refine lv_if_lt (tgt := 30) hx hb d_ModeKeeper_failureOfNewForm_20 (by decide) (fun c_4 => ?_) (fun c_4 => ?_)
        · refine lv_bipush (v := 13) hx hb d_ModeKeeper_failureOfNewForm_30 (by decide) ?_
          exact W.iret (v := 13) hx hb hrt (fun t ht hW => ⟨13, rfl, (by simp only [kFail, if_neg c_1, if_neg c_2, if_neg c_3, if_pos c_4] <;> rfl), ht⟩) (fun _ h => by cases h) d_ModeKeeper_failureOfNewForm_32
        · refine lv_iload_n hx hb d_ModeKeeper_failureOfNewForm_23 rfl (lv_at hl 1 rfl) ?_
          refine lv_sipush (v := 255) hx hb d_ModeKeeper_failureOfNewForm_24 (by decide) ?_
          refine lv_icmp_le (tgt := 33) hx hb d_ModeKeeper_failureOfNewForm_27 (by decide) (fun c_5 => ?_) (fun c_5 => ?_)
          · refine lv_aload_n hx hb d_ModeKeeper_failureOfNewForm_33 rfl (lv_at hl 0 rfl) ?_
            refine lv_iload_n hx hb d_ModeKeeper_failureOfNewForm_34 rfl (lv_at hl 1 rfl) ?_
            refine va_csq (va_Run.run (va_runV (As := [.int id]) (rest := []) ⟨hx, hb, hml, hown, hq⟩ (c_ModeKeeper_find l dC dI ad s.heap.size cI cF k act txt F pr id) ⟨callB_of 1 hq (gd m_ModeKeeper_find) rfl rfl rfl (hq _ qk_10) (hq _ qk_11) (by decide +kernel) ⟨Nat.le_of_ble_eq_true rfl, Nat.le_of_ble_eq_true rfl⟩, (hq _ qk_12), (hq _ qk_13)⟩ ⟨g_blind, va_recv hK hP (ci := 0) (q0 := 0) rfl rfl, g_pre hP hK hD hN⟩ rfl rfl hl.1 rfl (lv_room (Nat.le_of_ble_eq_true rfl)) d_ModeKeeper_failureOfNewForm_35 ⟨Nat.zero_le _, Nat.zero_le _⟩)) (fun r hr => ?_)
            cases hf_6 : kFind F id 8 0 with
            | none =>
              obtain rfl : r = none := by rw [hr, hf_6]; rfl
              refine lv_ifnullN (tgt := 44) hx hb d_ModeKeeper_failureOfNewForm_38 (by decide) ?_
              refine lv_aload_n hx hb d_ModeKeeper_failureOfNewForm_44 rfl (lv_at hl 0 rfl) ?_
              refine va_get (D := (dC, dI)) (ci := 0) (v := .int (k 8)) (C := R_ModeKeeper) (T := F_ModeKeeper) (N := 9) hx hb hq iw_K hown hK hP 0 rfl rfl 8 (by decide) (hq _ qk_14) (fun _ h9 => h9) rfl d_ModeKeeper_failureOfNewForm_45 ?_
              refine lv_bipush (v := 8) hx hb d_ModeKeeper_failureOfNewForm_48 (by decide) ?_
              refine lv_icmp_lt (tgt := 56) hx hb d_ModeKeeper_failureOfNewForm_50 (by decide) (fun c_7 => ?_) (fun c_7 => ?_)
              · refine lv_iconst (v := 0) hx hb d_ModeKeeper_failureOfNewForm_56 (by decide) ?_
                exact W.iret (v := 0) hx hb hrt (fun t ht hW => ⟨0, rfl, (by simp only [kFail, if_neg c_1, if_neg c_2, if_neg c_3, if_neg c_4, if_pos c_5, hf_6, if_pos c_7] <;> rfl), ht⟩) (fun _ h => by cases h) d_ModeKeeper_failureOfNewForm_57
              · refine lv_bipush (v := 12) hx hb d_ModeKeeper_failureOfNewForm_53 (by decide) ?_
                exact W.iret (v := 12) hx hb hrt (fun t ht hW => ⟨12, rfl, (by simp only [kFail, if_neg c_1, if_neg c_2, if_neg c_3, if_neg c_4, if_pos c_5, hf_6, if_neg c_7] <;> rfl), ht⟩) (fun _ h => by cases h) d_ModeKeeper_failureOfNewForm_55
            | some i_8 =>
              obtain rfl : r = some (ad (4 + i_8)) := by rw [hr, hf_6]; rfl
              have hi : i_8 < 8 := by have h8 := (kFind_some hf_6).2.1; omega
              refine lv_ifnull hx hb d_ModeKeeper_failureOfNewForm_38 ?_
              refine lv_bipush (v := 11) hx hb d_ModeKeeper_failureOfNewForm_41 (by decide) ?_
              exact W.iret (v := 11) hx hb hrt (fun t ht hW => ⟨11, rfl, (by simp only [kFail, if_neg c_1, if_neg c_2, if_neg c_3, if_neg c_4, if_pos c_5, hf_6] <;> rfl), ht⟩) (fun _ h => by cases h) d_ModeKeeper_failureOfNewForm_43
          · refine lv_bipush (v := 13) hx hb d_ModeKeeper_failureOfNewForm_30 (by decide) ?_
            exact W.iret (v := 13) hx hb hrt (fun t ht hW => ⟨13, rfl, (by simp only [kFail, if_neg c_1, if_neg c_2, if_neg c_3, if_neg c_4, if_neg c_5] <;> rfl), ht⟩) (fun _ h => by cases h) d_ModeKeeper_failureOfNewForm_32
set_option maxHeartbeats 4000000 in
set_option maxRecDepth 100000 in
theorem c_ModeKeeper_fillEmptyPlace (l : Launch) (dC : Nat → ClassId) (dI : Nat → Nat → Nat) (ad : Nat → Nat) (sz : Nat) (cI cF : ClassId) (k act txt : Nat → Int32) (F pr : Nat → Nat → Int32) (id ev : Int32) (t : Nat) (ht8 : t ≤ 8) (hk6 : k 6 = nI t) : Met l y_ModeKeeper_fillEmptyPlace w_ModeKeeper_fillEmptyPlace ({ frames := 1, cells := 0, slots := 0, locals := 18 }) (va_Pc [.ref (ad 0), .int id, .int ev] (gP (dC, dI) classes (tyK cI cF) (wK ad cI cF k act txt F pr) sz)) (va_Qv (fun (_ : Unit) => True) (fun _ t => gB (dC, dI) classes (va_A (wK ad cI cF k act txt F pr) sz) (wK ad cI cF ((kFiK k F)) act txt ((kFiF k F id ev)) ((kFiP k txt F pr))) t) (va_A (wK ad cI cF k act txt F pr) sz)) 0 0 (va_A (wK ad cI cF k act txt F pr) sz) := by
  refine Met.ofW (cc := b_ModeKeeper_fillEmptyPlace) (maxL := 5) (ret := none) (by decide) rfl ?_
  intro p e s m args below meth c s₁ B hml hv
  obtain ⟨rfl, hsz, hP, hK, hD0, hN⟩ := hv
  have hx := B.exec
  have hb := B.bytes
  have hrt := B.returns
  have hq : ∀ w ∈ wAll, w.before ([.ref (ad 0), .int id, .int ev] : List Value).toArray s = true := fun w h => atoms_spec (ws := w_ModeKeeper_fillEmptyPlace) B.pre w (List.mem_cons_of_mem _ h)
  have hown : s.vm.findClass R_ModeKeeper = some m.cls := findClass_of_methodNamed B.named
  have hlocks := B.notSynchronized
  subst hsz
  have hD := hD0.self (sz := s.heap.size)
  generalize hAe : va_A (wK ad cI cF k act txt F pr) s.heap.size = A at hD ⊢
  have hA : ∀ q : Nat, s.heap.size ≤ q → A q := fun q h => by rw [← hAe]; exact Or.inr h
  have hS : va_S A s.heap s.heap [] := va_S.rf
  have hl := lv_entry ([.ref (ad 0), .int id, .int ev]) (n := 5) (Nat.le_of_ble_eq_true rfl)
  rw [lg_entry_eq]
  generalize (lg_sl ([.ref (ad 0), .int id, .int ev]) ++ List.replicate (5 - (lg_sl ([.ref (ad 0), .int id, .int ev])).length) Slot.unset).toArray = ls at hl ⊢
  have hl : lv_has ls 5 [(0, .ref (ad 0)), (1, .int id), (2, .int ev)] := hl
  have key : ∀ (n i : Nat), i + n = 8 → kFree F 8 0 = kFree F n i → ∀ (ls : Array Slot), lv_has ls 5 [(0, .ref (ad 0)), (1, .int id), (2, .int ev), (3, .int (nI i))] → W p l e (headSpec w_ModeKeeper_fillEmptyPlace ({ frames := 1, cells := 0, slots := 0, locals := 18 })).room s m ([.ref (ad 0), .int id, .int ev] : List Value).toArray below meth c s.heap [] 0 0 (MQ below (va_Qv (fun (_ : Unit) => True) (fun _ t => gB (dC, dI) classes A (wK ad cI cF ((kFiK k F)) act txt ((kFiF k F id ev)) ((kFiP k txt F pr))) t) A) ([.ref (ad 0), .int id, .int ev] : List Value).toArray s 0 0 A) (F0 m 2 ls []) := by
    intro n
    induction n with
    | zero =>
      intro i hin hres ls hl
      obtain rfl : i = 8 := by omega
      have hn : kFree F 8 0 = none := hres
      refine lv_iload_n hx hb d_ModeKeeper_fillEmptyPlace_2 rfl (lv_at hl 3 rfl) ?_
      refine lv_bipush (v := 8) hx hb d_ModeKeeper_fillEmptyPlace_3 (by decide) ?_
      refine lv_icmp_ge (tgt := 92) hx hb d_ModeKeeper_fillEmptyPlace_5 (by decide) (fun c_1 => ?_) (fun c_1 => ?_)
      · have e_k : (kFiK k F) = k := (by simp only [kFiK, hn])
        have e_F : (kFiF k F id ev) = F := (by simp only [kFiF, hn])
        have e_pr : (kFiP k txt F pr) = pr := (by simp only [kFiP, hn])
        have hP9 : va_P (dC, dI) classes (wK ad cI cF ((kFiK k F)) act txt ((kFiF k F id ev)) ((kFiP k txt F pr))) s.heap := by rw [e_k, e_F, e_pr]; exact hP
        have hD9 : va_D A (wK ad cI cF ((kFiK k F)) act txt ((kFiF k F id ev)) ((kFiP k txt F pr))) := by rw [e_k, e_F, e_pr]; exact hD
        exact W.vret hx hb hrt (fun t ht hW => ⟨⟨(), rfl, trivial, by rw [ht]; exact hP9, hD9⟩, hS.F ht⟩) hS.2.2 d_ModeKeeper_fillEmptyPlace_92
      · exact absurd (by decide +kernel) c_1
    | succ n ih =>
      intro i hin hres ls hl
      have hi : i < 8 := by omega
      refine lv_iload_n hx hb d_ModeKeeper_fillEmptyPlace_2 rfl (lv_at hl 3 rfl) ?_
      refine lv_bipush (v := 8) hx hb d_ModeKeeper_fillEmptyPlace_3 (by decide) ?_
      refine lv_icmp_ge (tgt := 92) hx hb d_ModeKeeper_fillEmptyPlace_5 (by decide) (fun c_2 => ?_) (fun c_2 => ?_)
      · exact absurd c_2 (nI_ge (b := 8) hi (by decide))
      · refine lv_aload_n hx hb d_ModeKeeper_fillEmptyPlace_8 rfl (lv_at hl 0 rfl) ?_
        refine va_get (D := (dC, dI)) (ci := 0) (v := .ref (ad 3)) (C := R_ModeKeeper) (T := F_ModeKeeper) (N := 9) hx hb hq iw_K hown hK hP 0 rfl rfl 7 (by decide) (hq _ qk_0) (fun _ h9 => h9) rfl d_ModeKeeper_fillEmptyPlace_9 ?_
        refine lv_iload_n hx hb d_ModeKeeper_fillEmptyPlace_12 rfl (lv_at hl 3 rfl) ?_
        refine g_ald (D := (dC, dI)) hx hb hK hP 3 1 rfl rfl (i := i) (y := ad (4 + i)) hi (by decide) (if_pos hi) d_ModeKeeper_fillEmptyPlace_13 ?_
        refine lv_astore (lv' := [(4, .ref (ad (4 + i))), (0, .ref (ad 0)), (1, .int id), (2, .int ev), (3, .int (nI i))]) hx hb d_ModeKeeper_fillEmptyPlace_14 hl (by decide) rfl (fun ls hl => ?_)
        refine lv_aload hx hb d_ModeKeeper_fillEmptyPlace_16 (lv_at hl 0 rfl) ?_
        refine va_getN (D := (dC, dI)) (ci := 1) (v := .int (F i 0)) (C := R_Form) (T := F_Form) (N := 6) hx hb hq iw_F hown hK hP (4 + i) (wK_at hi) rfl 0 (by decide) (gN_there hN) (fun _ h9 => h9) rfl d_ModeKeeper_fillEmptyPlace_18 ?_
        refine lv_if_ne (tgt := 86) hx hb d_ModeKeeper_fillEmptyPlace_21 (by decide) (fun c_3 => ?_) (fun c_3 => ?_)
        · refine lv_iinc (v := (nI (i + 1))) (lv' := [(3, .int (nI (i + 1))), (4, .ref (ad (4 + i))), (0, .ref (ad 0)), (1, .int id), (2, .int ev)]) hx hb d_ModeKeeper_fillEmptyPlace_86 hl (k := 4) rfl ((show nI i + Int32.ofInt 1 = nI i + 1 from rfl).trans (nI_1 i)) (by decide) rfl (fun ls hl => ?_)
          refine lv_goto (tgt := 2) hx hb d_ModeKeeper_fillEmptyPlace_89 (by decide) ?_
          exact ih (i + 1) (by omega) (by rw [hres]; simp only [kFree, if_neg c_3]) ls (lv_sub hl [2, 3, 4, 0] rfl)
        · refine lv_aload hx hb d_ModeKeeper_fillEmptyPlace_24 (lv_at hl 0 rfl) ?_
          refine lv_iconst (v := 1) hx hb d_ModeKeeper_fillEmptyPlace_26 (by decide) ?_
          refine va_putN (D := (dC, dI)) (ci := 1) (v := .int 1) (ty := .boolean) (C := R_Form) (T := F_Form) (N := 6) hx hb hq iw_F t_Form t_Form_ok n_Form hown hK hP hD hS (4 + i) (wK_at hi) rfl 0 (by decide) (gN_there hN) (fun _ h9 => h9) rfl (by decide +kernel) rfl rfl (Nat.le_of_ble_eq_true rfl) d_ModeKeeper_fillEmptyPlace_27 (fun H locs hP hD hS => ?_)
          rw [wK_set0 hi] at hP hD
          have hP : va_P (dC, dI) classes (wK ad cI cF k act txt ((up2 F i 0 1)) pr) H := hP
          have hD : va_D A (wK ad cI cF k act txt ((up2 F i 0 1)) pr) := hD
          refine lv_aload hx hb d_ModeKeeper_fillEmptyPlace_30 (lv_at hl 0 rfl) ?_
          refine lv_iload_n hx hb d_ModeKeeper_fillEmptyPlace_32 rfl (lv_at hl 2 rfl) ?_
          refine va_putN (D := (dC, dI)) (ci := 1) (v := .int id) (ty := .int) (C := R_Form) (T := F_Form) (N := 6) hx hb hq iw_F t_Form t_Form_ok n_Form hown hK hP hD hS (4 + i) (wK_at hi) rfl 1 (by decide) (gN_id hN) (fun _ h9 => h9) rfl (by decide +kernel) rfl rfl (Nat.le_of_ble_eq_true rfl) d_ModeKeeper_fillEmptyPlace_33 (fun H locs hP hD hS => ?_)
          rw [wK_set1 hi] at hP hD
          have hP : va_P (dC, dI) classes (wK ad cI cF k act txt ((up2 (up2 F i 0 1) i 1 id)) pr) H := hP
          have hD : va_D A (wK ad cI cF k act txt ((up2 (up2 F i 0 1) i 1 id)) pr) := hD
          refine lv_aload hx hb d_ModeKeeper_fillEmptyPlace_36 (lv_at hl 0 rfl) ?_
          refine lv_iload_n hx hb d_ModeKeeper_fillEmptyPlace_38 rfl (lv_at hl 3 rfl) ?_
          refine va_putN (D := (dC, dI)) (ci := 1) (v := .int ev) (ty := .int) (C := R_Form) (T := F_Form) (N := 6) hx hb hq iw_F t_Form t_Form_ok n_Form hown hK hP hD hS (4 + i) (wK_at hi) rfl 2 (by decide) (gN_every hN) (fun _ h9 => h9) rfl (by decide +kernel) rfl rfl (Nat.le_of_ble_eq_true rfl) d_ModeKeeper_fillEmptyPlace_39 (fun H locs hP hD hS => ?_)
          rw [wK_set2 hi] at hP hD
          have hP : va_P (dC, dI) classes (wK ad cI cF k act txt ((up2 (up2 (up2 F i 0 1) i 1 id) i 2 ev)) pr) H := hP
          have hD : va_D A (wK ad cI cF k act txt ((up2 (up2 (up2 F i 0 1) i 1 id) i 2 ev)) pr) := hD
          refine lv_aload hx hb d_ModeKeeper_fillEmptyPlace_42 (lv_at hl 0 rfl) ?_
          refine lv_iconst (v := 0) hx hb d_ModeKeeper_fillEmptyPlace_44 (by decide) ?_
          refine va_putN (D := (dC, dI)) (ci := 1) (v := .int 0) (ty := .boolean) (C := R_Form) (T := F_Form) (N := 6) hx hb hq iw_F t_Form t_Form_ok n_Form hown hK hP hD hS (4 + i) (wK_at hi) rfl 3 (by decide) (gN_on hN) (fun _ h9 => h9) rfl (by decide +kernel) rfl rfl (Nat.le_of_ble_eq_true rfl) d_ModeKeeper_fillEmptyPlace_45 (fun H locs hP hD hS => ?_)
          rw [wK_set3 hi] at hP hD
          have hP : va_P (dC, dI) classes (wK ad cI cF k act txt ((up2 (up2 (up2 (up2 F i 0 1) i 1 id) i 2 ev) i 3 0)) pr) H := hP
          have hD : va_D A (wK ad cI cF k act txt ((up2 (up2 (up2 (up2 F i 0 1) i 1 id) i 2 ev) i 3 0)) pr) := hD
          refine lv_aload hx hb d_ModeKeeper_fillEmptyPlace_48 (lv_at hl 0 rfl) ?_
          refine lv_aload_n hx hb d_ModeKeeper_fillEmptyPlace_50 rfl (lv_at hl 1 rfl) ?_
          refine va_get (D := (dC, dI)) (ci := 0) (v := .int (k 6)) (C := R_ModeKeeper) (T := F_ModeKeeper) (N := 9) hx hb hq iw_K hown hK hP 0 rfl rfl 6 (by decide) (hq _ qk_9) (fun _ h9 => h9) rfl d_ModeKeeper_fillEmptyPlace_51 ?_
          refine va_putN (D := (dC, dI)) (ci := 1) (v := .int (k 6)) (ty := .int) (C := R_Form) (T := F_Form) (N := 6) hx hb hq iw_F t_Form t_Form_ok n_Form hown hK hP hD hS (4 + i) (wK_at hi) rfl 4 (by decide) (gN_count hN) (fun _ h9 => h9) rfl (by decide +kernel) rfl rfl (Nat.le_of_ble_eq_true rfl) d_ModeKeeper_fillEmptyPlace_54 (fun H locs hP hD hS => ?_)
          rw [wK_set4 hi] at hP hD
          have hP : va_P (dC, dI) classes (wK ad cI cF k act txt ((up2 (up2 (up2 (up2 (up2 F i 0 1) i 1 id) i 2 ev) i 3 0) i 4 ((k 6)))) pr) H := hP
          have hD : va_D A (wK ad cI cF k act txt ((up2 (up2 (up2 (up2 (up2 F i 0 1) i 1 id) i 2 ev) i 3 0) i 4 ((k 6)))) pr) := hD
          refine lv_aload_n hx hb d_ModeKeeper_fillEmptyPlace_57 rfl (lv_at hl 1 rfl) ?_
          refine va_get (D := (dC, dI)) (ci := 0) (v := .ref (ad 2)) (C := R_ModeKeeper) (T := F_ModeKeeper) (N := 9) hx hb hq iw_K hown hK hP 0 rfl rfl 5 (by decide) (hq _ qk_15) (fun _ h9 => h9) rfl d_ModeKeeper_fillEmptyPlace_58 ?_
          refine lv_iconst (v := 0) hx hb d_ModeKeeper_fillEmptyPlace_61 (by decide) ?_
          refine lv_aload hx hb d_ModeKeeper_fillEmptyPlace_62 (lv_at hl 0 rfl) ?_
          refine va_getN (D := (dC, dI)) (ci := 1) (v := .ref (ad (12 + i))) (C := R_Form) (T := F_Form) (N := 6) hx hb hq iw_F hown hK hP (4 + i) (wK_at hi) rfl 5 (by decide) (gN_parameters hN) (fun _ h9 => h9) rfl d_ModeKeeper_fillEmptyPlace_64 ?_
          refine lv_iconst (v := 0) hx hb d_ModeKeeper_fillEmptyPlace_67 (by decide) ?_
          refine lv_aload_n hx hb d_ModeKeeper_fillEmptyPlace_68 rfl (lv_at hl 1 rfl) ?_
          refine va_get (D := (dC, dI)) (ci := 0) (v := .int (k 6)) (C := R_ModeKeeper) (T := F_ModeKeeper) (N := 9) hx hb hq iw_K hown hK hP 0 rfl rfl 6 (by decide) (hq _ qk_9) (fun _ h9 => h9) rfl d_ModeKeeper_fillEmptyPlace_69 ?_
          refine va_copyi (D := (dC, dI)) hx hb (by rw [hml]; exact hl.1.symm) hown (hq _ qk_5) (hq _ qk_6) (hq _ qk_7) (hq _ qk_8) hK hP hD hS 2 (12 + i) 0 0 rfl (wK_pat hi) rfl rfl rfl (by decide) (by decide) (by show ¬ k 6 < 0; rw [hk6]; exact nI_pos (by omega)) (by show 0 + (k 6).toNatClampNeg ≤ 8; rw [hk6, nI_clamp (by omega)]; omega) (by show 0 + (k 6).toNatClampNeg ≤ 8; rw [hk6, nI_clamp (by omega)]; omega) (fun _ _ => rfl) (Nat.le_of_ble_eq_true rfl) (by decide +kernel) d_ModeKeeper_fillEmptyPlace_72 (fun H locs hP hD hS => ?_)
          rw [wK_pset hi] at hP hD
          have hP : va_P (dC, dI) classes (wK ad cI cF k act txt ((up2 (up2 (up2 (up2 (up2 F i 0 1) i 1 id) i 2 ev) i 3 0) i 4 ((k 6)))) ((va_up pr i (va_cpy txt (pr i) 0 0 ((k 6)).toNatClampNeg)))) H := hP
          have hD : va_D A (wK ad cI cF k act txt ((up2 (up2 (up2 (up2 (up2 F i 0 1) i 1 id) i 2 ev) i 3 0) i 4 ((k 6)))) ((va_up pr i (va_cpy txt (pr i) 0 0 ((k 6)).toNatClampNeg)))) := hD
          refine lv_aload_n hx hb d_ModeKeeper_fillEmptyPlace_75 rfl (lv_at hl 1 rfl) ?_
          refine lv_dup hx hb d_ModeKeeper_fillEmptyPlace_76 rfl ?_
          refine va_get (D := (dC, dI)) (ci := 0) (v := .int (k 8)) (C := R_ModeKeeper) (T := F_ModeKeeper) (N := 9) hx hb hq iw_K hown hK hP 0 rfl rfl 8 (by decide) (hq _ qk_14) (fun _ h9 => h9) rfl d_ModeKeeper_fillEmptyPlace_77 ?_
          refine lv_iconst (v := 1) hx hb d_ModeKeeper_fillEmptyPlace_80 (by decide) ?_
          refine lv_iadd hx hb d_ModeKeeper_fillEmptyPlace_81 ?_
          refine va_put (D := (dC, dI)) (ci := 0) (v := .int ((k 8) + 1)) (ty := .int) (C := R_ModeKeeper) (T := F_ModeKeeper) (N := 9) hx hb hq iw_K t_ModeKeeper t_ModeKeeper_ok n_ModeKeeper hown hK hP hD hS 0 rfl rfl 8 (by decide) (hq _ qk_14) (fun _ h9 => h9) rfl (by decide +kernel) rfl rfl (Nat.le_of_ble_eq_true rfl) d_ModeKeeper_fillEmptyPlace_82 (fun H locs hP hD hS => ?_)
          have hP : va_P (dC, dI) classes (wK ad cI cF ((upd k 8 (((k 8) + 1)))) act txt ((up2 (up2 (up2 (up2 (up2 F i 0 1) i 1 id) i 2 ev) i 3 0) i 4 ((k 6)))) ((va_up pr i (va_cpy txt (pr i) 0 0 ((k 6)).toNatClampNeg)))) H := hP
          have hD : va_D A (wK ad cI cF ((upd k 8 (((k 8) + 1)))) act txt ((up2 (up2 (up2 (up2 (up2 F i 0 1) i 1 id) i 2 ev) i 3 0) i 4 ((k 6)))) ((va_up pr i (va_cpy txt (pr i) 0 0 ((k 6)).toNatClampNeg)))) := hD
          have hs : kFree F 8 0 = some i := by rw [hres]; simp only [kFree, if_pos c_3]
          have e_k : (kFiK k F) = (upd k 8 (((k 8) + 1))) := (by simp only [kFiK, hs] <;> rfl)
          have e_F : (kFiF k F id ev) = (up2 (up2 (up2 (up2 (up2 F i 0 1) i 1 id) i 2 ev) i 3 0) i 4 ((k 6))) := (by simp only [kFiF, hs] <;> rfl)
          have e_pr : (kFiP k txt F pr) = (va_up pr i (va_cpy txt (pr i) 0 0 ((k 6)).toNatClampNeg)) := (by simp only [kFiP, hs] <;> rfl)
          have hP9 : va_P (dC, dI) classes (wK ad cI cF ((kFiK k F)) act txt ((kFiF k F id ev)) ((kFiP k txt F pr))) H := by rw [e_k, e_F, e_pr]; exact hP
          have hD9 : va_D A (wK ad cI cF ((kFiK k F)) act txt ((kFiF k F id ev)) ((kFiP k txt F pr))) := by rw [e_k, e_F, e_pr]; exact hD
          exact W.vret hx hb hrt (fun t ht hW => ⟨⟨(), rfl, trivial, by rw [ht]; exact hP9, hD9⟩, hS.F ht⟩) hS.2.2 d_ModeKeeper_fillEmptyPlace_85
  refine lv_iconst (v := 0) hx hb d_ModeKeeper_fillEmptyPlace_0 (by decide) ?_
  refine lv_istore_n (lv' := [(3, .int 0), (0, .ref (ad 0)), (1, .int id), (2, .int ev)]) hx hb d_ModeKeeper_fillEmptyPlace_1 rfl hl (by decide) rfl (fun ls hl => ?_)
  exact key 8 0 rfl rfl ls (lv_sub hl [1, 2, 3, 0] rfl)

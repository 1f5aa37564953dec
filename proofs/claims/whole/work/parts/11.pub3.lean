set_option maxHeartbeats 4000000 in
set_option maxRecDepth 100000 in
theorem c_ModeKeeper_due (l : Launch) (dC : Nat → ClassId) (dI : Nat → Nat → Nat) (ad : Nat → Nat) (sz : Nat) (cI cF : ClassId) (k act txt : Nat → Int32) (F pr : Nat → Nat → Int32) (tick fr : Int32) : Met l y_ModeKeeper_due w_ModeKeeper_due ({ frames := 1, cells := 0, slots := 0, locals := 21 }) (va_Pc [.ref (ad 0), .int tick, .int fr] (gP (dC, dI) classes (tyK cI cF) (wK ad cI cF k act txt F pr) sz)) (vp_Si (fun r => r = (kDue F tick fr 8 0 (-1)))) 0 0 (fun _ => False) := by
  refine Met.ofW (cc := b_ModeKeeper_due) (maxL := 6) (ret := (some .int)) (by decide) rfl ?_
  intro p e s m args below meth c s₁ B hml hv
  obtain ⟨rfl, hsz, hP, hK, hD0, hN⟩ := hv
  have hx := B.exec
  have hb := B.bytes
  have hrt := B.returns
  have hq : ∀ w ∈ wAll, w.before ([.ref (ad 0), .int tick, .int fr] : List Value).toArray s = true := fun w h => atoms_spec (ws := w_ModeKeeper_due) B.pre w (List.mem_cons_of_mem _ h)
  have hown : s.vm.findClass R_ModeKeeper = some m.cls := findClass_of_methodNamed B.named
  have hlocks := B.notSynchronized
  subst hsz
  have hD := hD0
  have hl := lv_entry ([.ref (ad 0), .int tick, .int fr]) (n := 6) (Nat.le_of_ble_eq_true rfl)
  rw [lg_entry_eq]
  generalize (lg_sl ([.ref (ad 0), .int tick, .int fr]) ++ List.replicate (6 - (lg_sl ([.ref (ad 0), .int tick, .int fr])).length) Slot.unset).toArray = ls at hl ⊢
  have hl : lv_has ls 6 [(0, .ref (ad 0)), (1, .int tick), (2, .int fr)] := hl
  have key : ∀ (n i : Nat) (x : Int32), i + n = 8 → kDue F tick fr 8 0 (-1) = kDue F tick fr n i x → ∀ (ls : Array Slot), lv_has ls 6 [(0, .ref (ad 0)), (1, .int tick), (2, .int fr), (3, .int x), (4, .int (nI i))] → W p l e (headSpec w_ModeKeeper_due ({ frames := 1, cells := 0, slots := 0, locals := 21 })).room s m ([.ref (ad 0), .int tick, .int fr] : List Value).toArray below meth c s.heap [] 0 0 (MQ below (vp_Si (fun r => r = (kDue F tick fr 8 0 (-1)))) ([.ref (ad 0), .int tick, .int fr] : List Value).toArray s 0 0 (fun _ => False)) (F0 m 5 ls []) := by
    intro n
    induction n with
    | zero =>
      intro i x hin hres ls hl
      obtain rfl : i = 8 := by omega
      refine lv_iload hx hb d_ModeKeeper_due_5 (lv_at hl 4 rfl) ?_
      refine lv_bipush (v := 8) hx hb d_ModeKeeper_due_7 (by decide) ?_
      refine lv_icmp_ge (tgt := 84) hx hb d_ModeKeeper_due_9 (by decide) (fun c_1 => ?_) (fun c_1 => ?_)
      · refine lv_iload_n hx hb d_ModeKeeper_due_84 rfl (lv_at hl 3 rfl) ?_
        exact W.iret (v := x) hx hb hrt (fun t ht hW => ⟨x, rfl, hres.symm, ht⟩) (fun _ h => by cases h) d_ModeKeeper_due_85
      · exact absurd (by decide +kernel) c_1
    | succ n ih =>
      intro i x hin hres ls hl
      have hi : i < 8 := by omega
      refine lv_iload hx hb d_ModeKeeper_due_5 (lv_at hl 4 rfl) ?_
      refine lv_bipush (v := 8) hx hb d_ModeKeeper_due_7 (by decide) ?_
      refine lv_icmp_ge (tgt := 84) hx hb d_ModeKeeper_due_9 (by decide) (fun c_2 => ?_) (fun c_2 => ?_)
      · exact absurd c_2 (nI_ge (b := 8) hi (by decide))
      · refine lv_aload_n hx hb d_ModeKeeper_due_12 rfl (lv_at hl 0 rfl) ?_
        refine va_get (D := (dC, dI)) (ci := 0) (v := .ref (ad 3)) (C := R_ModeKeeper) (T := F_ModeKeeper) (N := 9) hx hb hq iw_K hown hK hP 0 rfl rfl 7 (by decide) (hq _ qk_0) (fun _ h9 => h9) rfl d_ModeKeeper_due_13 ?_
        refine lv_iload hx hb d_ModeKeeper_due_16 (lv_at hl 4 rfl) ?_
        refine g_ald (D := (dC, dI)) hx hb hK hP 3 1 rfl rfl (i := i) (y := ad (4 + i)) hi (by decide) (if_pos hi) d_ModeKeeper_due_18 ?_
        refine lv_astore (lv' := [(5, .ref (ad (4 + i))), (0, .ref (ad 0)), (1, .int tick), (2, .int fr), (3, .int x), (4, .int (nI i))]) hx hb d_ModeKeeper_due_19 hl (by decide) rfl (fun ls hl => ?_)
        refine lv_aload hx hb d_ModeKeeper_due_21 (lv_at hl 0 rfl) ?_
        refine va_getN (D := (dC, dI)) (ci := 1) (v := .int (F i 0)) (C := R_Form) (T := F_Form) (N := 6) hx hb hq iw_F hown hK hP (4 + i) (wK_at hi) rfl 0 (by decide) (gN_there hN) (fun _ h9 => h9) rfl d_ModeKeeper_due_23 ?_
        refine lv_if_eq (tgt := 78) hx hb d_ModeKeeper_due_26 (by decide) (fun c_3 => ?_) (fun c_3 => ?_)
        · refine lv_iinc (v := (nI (i + 1))) (lv' := [(4, .int (nI (i + 1))), (5, .ref (ad (4 + i))), (0, .ref (ad 0)), (1, .int tick), (2, .int fr), (3, .int x)]) hx hb d_ModeKeeper_due_78 hl (k := 5) rfl ((show nI i + Int32.ofInt 1 = nI i + 1 from rfl).trans (nI_1 i)) (by decide) rfl (fun ls hl => ?_)
          refine lv_goto (tgt := 5) hx hb d_ModeKeeper_due_81 (by decide) ?_
          exact ih (i + 1) x (by omega) (by rw [hres]; simp only [kDue, if_pos c_3]) ls (lv_sub hl [2, 3, 4, 5, 0] rfl)
        · refine lv_aload hx hb d_ModeKeeper_due_29 (lv_at hl 0 rfl) ?_
          refine va_getN (D := (dC, dI)) (ci := 1) (v := .int (F i 3)) (C := R_Form) (T := F_Form) (N := 6) hx hb hq iw_F hown hK hP (4 + i) (wK_at hi) rfl 3 (by decide) (gN_on hN) (fun _ h9 => h9) rfl d_ModeKeeper_due_31 ?_
          refine lv_if_eq (tgt := 78) hx hb d_ModeKeeper_due_34 (by decide) (fun c_4 => ?_) (fun c_4 => ?_)
          · refine lv_iinc (v := (nI (i + 1))) (lv' := [(4, .int (nI (i + 1))), (5, .ref (ad (4 + i))), (0, .ref (ad 0)), (1, .int tick), (2, .int fr), (3, .int x)]) hx hb d_ModeKeeper_due_78 hl (k := 5) rfl ((show nI i + Int32.ofInt 1 = nI i + 1 from rfl).trans (nI_1 i)) (by decide) rfl (fun ls hl => ?_)
            refine lv_goto (tgt := 5) hx hb d_ModeKeeper_due_81 (by decide) ?_
            exact ih (i + 1) x (by omega) (by rw [hres]; simp only [kDue, if_neg c_3, if_pos c_4]) ls (lv_sub hl [2, 3, 4, 5, 0] rfl)
          · refine lv_aload hx hb d_ModeKeeper_due_37 (lv_at hl 0 rfl) ?_
            refine va_getN (D := (dC, dI)) (ci := 1) (v := .int (F i 1)) (C := R_Form) (T := F_Form) (N := 6) hx hb hq iw_F hown hK hP (4 + i) (wK_at hi) rfl 1 (by decide) (gN_id hN) (fun _ h9 => h9) rfl d_ModeKeeper_due_39 ?_
            refine lv_iload_n hx hb d_ModeKeeper_due_42 rfl (lv_at hl 3 rfl) ?_
            refine lv_icmp_lt (tgt := 78) hx hb d_ModeKeeper_due_43 (by decide) (fun c_5 => ?_) (fun c_5 => ?_)
            · refine lv_iinc (v := (nI (i + 1))) (lv' := [(4, .int (nI (i + 1))), (5, .ref (ad (4 + i))), (0, .ref (ad 0)), (1, .int tick), (2, .int fr), (3, .int x)]) hx hb d_ModeKeeper_due_78 hl (k := 5) rfl ((show nI i + Int32.ofInt 1 = nI i + 1 from rfl).trans (nI_1 i)) (by decide) rfl (fun ls hl => ?_)
              refine lv_goto (tgt := 5) hx hb d_ModeKeeper_due_81 (by decide) ?_
              exact ih (i + 1) x (by omega) (by rw [hres]; simp only [kDue, if_neg c_3, if_neg c_4, if_pos c_5]) ls (lv_sub hl [2, 3, 4, 5, 0] rfl)
            · refine lv_aload hx hb d_ModeKeeper_due_46 (lv_at hl 0 rfl) ?_
              refine va_getN (D := (dC, dI)) (ci := 1) (v := .int (F i 2)) (C := R_Form) (T := F_Form) (N := 6) hx hb hq iw_F hown hK hP (4 + i) (wK_at hi) rfl 2 (by decide) (gN_every hN) (fun _ h9 => h9) rfl d_ModeKeeper_due_48 ?_
              refine lv_iload_n hx hb d_ModeKeeper_due_51 rfl (lv_at hl 2 rfl) ?_
              refine vp_callSi (va_Run.run (va_runS (As := [.int (F i 2), .int tick]) (rest := []) ⟨hx, hb, hml, hown, hq⟩ (c_ModeKeeper_divides l ((F i 2)) tick) ⟨callB_of 2 hq (gd m_ModeKeeper_divides) rfl rfl rfl (hq _ qk_10) (hq _ qk_29) (by decide +kernel) ⟨Nat.le_of_ble_eq_true rfl, Nat.le_of_ble_eq_true rfl⟩, (hq _ qk_30)⟩ ⟨g_blind0, fun _ _ _ => ⟨rfl, trivial⟩⟩ rfl rfl hl.1 rfl (lv_room (Nat.le_of_ble_eq_true rfl)) d_ModeKeeper_due_52 ⟨Nat.zero_le _, Nat.zero_le _⟩)) (fun r hr => ?_)
              subst hr
              refine lv_if_eq (tgt := 78) hx hb d_ModeKeeper_due_55 (by decide) (fun c_6 => ?_) (fun c_6 => ?_)
              · refine lv_iinc (v := (nI (i + 1))) (lv' := [(4, .int (nI (i + 1))), (5, .ref (ad (4 + i))), (0, .ref (ad 0)), (1, .int tick), (2, .int fr), (3, .int x)]) hx hb d_ModeKeeper_due_78 hl (k := 5) rfl ((show nI i + Int32.ofInt 1 = nI i + 1 from rfl).trans (nI_1 i)) (by decide) rfl (fun ls hl => ?_)
                refine lv_goto (tgt := 5) hx hb d_ModeKeeper_due_81 (by decide) ?_
                exact ih (i + 1) x (by omega) (by rw [hres]; simp only [kDue, if_neg c_3, if_neg c_4, if_neg c_5, if_pos c_6]) ls (lv_sub hl [2, 3, 4, 5, 0] rfl)
              · refine lv_iload_n hx hb d_ModeKeeper_due_58 rfl (lv_at hl 4 rfl) ?_
                refine lv_iconst (v := (-1)) hx hb d_ModeKeeper_due_59 (by decide) ?_
                refine lv_icmp_eq (tgt := 72) hx hb d_ModeKeeper_due_60 (by decide) (fun c_7 => ?_) (fun c_7 => ?_)
                · refine lv_aload hx hb d_ModeKeeper_due_72 (lv_at hl 0 rfl) ?_
                  refine va_getN (D := (dC, dI)) (ci := 1) (v := .int (F i 1)) (C := R_Form) (T := F_Form) (N := 6) hx hb hq iw_F hown hK hP (4 + i) (wK_at hi) rfl 1 (by decide) (gN_id hN) (fun _ h9 => h9) rfl d_ModeKeeper_due_74 ?_
                  refine lv_istore_n (lv' := [(3, .int (F i 1)), (5, .ref (ad (4 + i))), (0, .ref (ad 0)), (1, .int tick), (2, .int fr), (4, .int (nI i))]) hx hb d_ModeKeeper_due_77 rfl hl (by decide) rfl (fun ls hl => ?_)
                  refine lv_iinc (v := (nI (i + 1))) (lv' := [(4, .int (nI (i + 1))), (3, .int (F i 1)), (5, .ref (ad (4 + i))), (0, .ref (ad 0)), (1, .int tick), (2, .int fr)]) hx hb d_ModeKeeper_due_78 hl (k := 5) rfl ((show nI i + Int32.ofInt 1 = nI i + 1 from rfl).trans (nI_1 i)) (by decide) rfl (fun ls hl => ?_)
                  refine lv_goto (tgt := 5) hx hb d_ModeKeeper_due_81 (by decide) ?_
                  exact ih (i + 1) ((F i 1)) (by omega) (by rw [hres]; simp only [kDue, if_neg c_3, if_neg c_4, if_neg c_5, if_neg c_6, if_pos c_7]) ls (lv_sub hl [3, 4, 5, 1, 0] rfl)
                · refine lv_aload hx hb d_ModeKeeper_due_63 (lv_at hl 0 rfl) ?_
                  refine va_getN (D := (dC, dI)) (ci := 1) (v := .int (F i 1)) (C := R_Form) (T := F_Form) (N := 6) hx hb hq iw_F hown hK hP (4 + i) (wK_at hi) rfl 1 (by decide) (gN_id hN) (fun _ h9 => h9) rfl d_ModeKeeper_due_65 ?_
                  refine lv_iload_n hx hb d_ModeKeeper_due_68 rfl (lv_at hl 4 rfl) ?_
                  refine lv_icmp_ge (tgt := 78) hx hb d_ModeKeeper_due_69 (by decide) (fun c_8 => ?_) (fun c_8 => ?_)
                  · refine lv_iinc (v := (nI (i + 1))) (lv' := [(4, .int (nI (i + 1))), (5, .ref (ad (4 + i))), (0, .ref (ad 0)), (1, .int tick), (2, .int fr), (3, .int x)]) hx hb d_ModeKeeper_due_78 hl (k := 5) rfl ((show nI i + Int32.ofInt 1 = nI i + 1 from rfl).trans (nI_1 i)) (by decide) rfl (fun ls hl => ?_)
                    refine lv_goto (tgt := 5) hx hb d_ModeKeeper_due_81 (by decide) ?_
                    exact ih (i + 1) x (by omega) (by rw [hres]; simp only [kDue, if_neg c_3, if_neg c_4, if_neg c_5, if_neg c_6, if_neg c_7, if_pos c_8]) ls (lv_sub hl [2, 3, 4, 5, 0] rfl)
                  · refine lv_aload hx hb d_ModeKeeper_due_72 (lv_at hl 0 rfl) ?_
                    refine va_getN (D := (dC, dI)) (ci := 1) (v := .int (F i 1)) (C := R_Form) (T := F_Form) (N := 6) hx hb hq iw_F hown hK hP (4 + i) (wK_at hi) rfl 1 (by decide) (gN_id hN) (fun _ h9 => h9) rfl d_ModeKeeper_due_74 ?_
                    refine lv_istore_n (lv' := [(3, .int (F i 1)), (5, .ref (ad (4 + i))), (0, .ref (ad 0)), (1, .int tick), (2, .int fr), (4, .int (nI i))]) hx hb d_ModeKeeper_due_77 rfl hl (by decide) rfl (fun ls hl => ?_)
                    refine lv_iinc (v := (nI (i + 1))) (lv' := [(4, .int (nI (i + 1))), (3, .int (F i 1)), (5, .ref (ad (4 + i))), (0, .ref (ad 0)), (1, .int tick), (2, .int fr)]) hx hb d_ModeKeeper_due_78 hl (k := 5) rfl ((show nI i + Int32.ofInt 1 = nI i + 1 from rfl).trans (nI_1 i)) (by decide) rfl (fun ls hl => ?_)
                    refine lv_goto (tgt := 5) hx hb d_ModeKeeper_due_81 (by decide) ?_
                    exact ih (i + 1) ((F i 1)) (by omega) (by rw [hres]; simp only [kDue, if_neg c_3, if_neg c_4, if_neg c_5, if_neg c_6, if_neg c_7, if_neg c_8]) ls (lv_sub hl [3, 4, 5, 1, 0] rfl)
  refine lv_iconst (v := (-1)) hx hb d_ModeKeeper_due_0 (by decide) ?_
  refine lv_istore_n (lv' := [(3, .int (-1)), (0, .ref (ad 0)), (1, .int tick), (2, .int fr)]) hx hb d_ModeKeeper_due_1 rfl hl (by decide) rfl (fun ls hl => ?_)
  refine lv_iconst (v := 0) hx hb d_ModeKeeper_due_2 (by decide) ?_
  refine lv_istore (lv' := [(4, .int 0), (3, .int (-1)), (0, .ref (ad 0)), (1, .int tick), (2, .int fr)]) hx hb d_ModeKeeper_due_3 hl (by decide) rfl (fun ls hl => ?_)
  exact key 8 0 (-1) rfl rfl ls (lv_sub hl [2, 3, 4, 1, 0] rfl)
set_option maxHeartbeats 4000000 in
set_option maxRecDepth 100000 in
theorem c_ModeKeeper_parameter (l : Launch) (dC : Nat → ClassId) (dI : Nat → Nat → Nat) (ad : Nat → Nat) (sz : Nat) (cI cF : ClassId) (k act txt : Nat → Int32) (F pr : Nat → Nat → Int32) (id j : Int32) (hct : ∀ i, i < 8 → (F i 4).toInt ≤ 8) : Met l y_ModeKeeper_parameter w_ModeKeeper_parameter ({ frames := 1, cells := 0, slots := 0, locals := 23 }) (va_Pc [.ref (ad 0), .int id, .int j] (gP (dC, dI) classes (tyK cI cF) (wK ad cI cF k act txt F pr) sz)) (vp_Si (fun r => r = (kPaR F pr id j))) 0 0 (fun _ => False) := by
  refine Met.ofW (cc := b_ModeKeeper_parameter) (maxL := 4) (ret := (some .int)) (by decide) rfl ?_
  intro p e s m args below meth c s₁ B hml hv
  obtain ⟨rfl, hsz, hP, hK, hD0, hN⟩ := hv
  have hx := B.exec
  have hb := B.bytes
  have hrt := B.returns
  have hq : ∀ w ∈ wAll, w.before ([.ref (ad 0), .int id, .int j] : List Value).toArray s = true := fun w h => atoms_spec (ws := w_ModeKeeper_parameter) B.pre w (List.mem_cons_of_mem _ h)
  have hown : s.vm.findClass R_ModeKeeper = some m.cls := findClass_of_methodNamed B.named
  have hlocks := B.notSynchronized
  subst hsz
  have hD := hD0
  have hl := lv_entry ([.ref (ad 0), .int id, .int j]) (n := 4) (Nat.le_of_ble_eq_true rfl)
  rw [lg_entry_eq]
  generalize (lg_sl ([.ref (ad 0), .int id, .int j]) ++ List.replicate (4 - (lg_sl ([.ref (ad 0), .int id, .int j])).length) Slot.unset).toArray = ls at hl ⊢
  have hl : lv_has ls 4 [(0, .ref (ad 0)), (1, .int id), (2, .int j)] := hl
  refine lv_aload_n hx hb d_ModeKeeper_parameter_0 rfl (lv_at hl 0 rfl) ?_
  refine lv_iload_n hx hb d_ModeKeeper_parameter_1 rfl (lv_at hl 1 rfl) ?_
  refine va_csq (va_Run.run (va_runV (As := [.int id]) (rest := []) ⟨hx, hb, hml, hown, hq⟩ (c_ModeKeeper_find l dC dI ad s.heap.size cI cF k act txt F pr id) ⟨callB_of 1 hq (gd m_ModeKeeper_find) rfl rfl rfl (hq _ qk_10) (hq _ qk_11) (by decide +kernel) ⟨Nat.le_of_ble_eq_true rfl, Nat.le_of_ble_eq_true rfl⟩, (hq _ qk_12), (hq _ qk_13)⟩ ⟨g_blind, va_recv hK hP (ci := 0) (q0 := 0) rfl rfl, g_pre hP hK hD hN⟩ rfl rfl hl.1 rfl (lv_room (Nat.le_of_ble_eq_true rfl)) d_ModeKeeper_parameter_2 ⟨Nat.zero_le _, Nat.zero_le _⟩)) (fun r hr => ?_)
  cases hf_1 : kFind F id 8 0 with
  | none =>
    obtain rfl : r = none := by rw [hr, hf_1]; rfl
    refine lv_astore_nN (lv' := [(3, .null), (0, .ref (ad 0)), (1, .int id), (2, .int j)]) hx hb d_ModeKeeper_parameter_5 rfl hl (by decide) rfl (fun ls hl => ?_)
    refine lv_aload_nN hx hb d_ModeKeeper_parameter_6 rfl (lv_at hl 0 rfl) ?_
    refine lv_ifnonnullN hx hb d_ModeKeeper_parameter_7 ?_
    refine lv_iconst (v := (-1)) hx hb d_ModeKeeper_parameter_10 (by decide) ?_
    exact W.iret (v := (-1)) hx hb hrt (fun t ht hW => ⟨(-1), rfl, (by simp only [kPaR, hf_1] <;> rfl), ht⟩) (fun _ h => by cases h) d_ModeKeeper_parameter_11
  | some i_2 =>
    obtain rfl : r = some (ad (4 + i_2)) := by rw [hr, hf_1]; rfl
    have hi : i_2 < 8 := by have h8 := (kFind_some hf_1).2.1; omega
    refine lv_astore_n (lv' := [(3, .ref (ad (4 + i_2))), (0, .ref (ad 0)), (1, .int id), (2, .int j)]) hx hb d_ModeKeeper_parameter_5 rfl hl (by decide) rfl (fun ls hl => ?_)
    refine lv_aload_n hx hb d_ModeKeeper_parameter_6 rfl (lv_at hl 0 rfl) ?_
    refine lv_ifnonnull (tgt := 12) hx hb d_ModeKeeper_parameter_7 (by decide) ?_
    refine lv_iload_n hx hb d_ModeKeeper_parameter_12 rfl (lv_at hl 3 rfl) ?_
    refine lv_iconst (v := (-1)) hx hb d_ModeKeeper_parameter_13 (by decide) ?_
    refine lv_icmp_ne (tgt := 22) hx hb d_ModeKeeper_parameter_14 (by decide) (fun c_3 => ?_) (fun c_3 => ?_)
    · refine lv_iload_n hx hb d_ModeKeeper_parameter_22 rfl (lv_at hl 3 rfl) ?_
      refine lv_if_lt (tgt := 34) hx hb d_ModeKeeper_parameter_23 (by decide) (fun c_4 => ?_) (fun c_4 => ?_)
      · refine lv_iconst (v := (-1)) hx hb d_ModeKeeper_parameter_34 (by decide) ?_
        exact W.iret (v := (-1)) hx hb hrt (fun t ht hW => ⟨(-1), rfl, (by simp only [kPaR, hf_1, if_neg c_3, if_pos c_4] <;> rfl), ht⟩) (fun _ h => by cases h) d_ModeKeeper_parameter_35
      · refine lv_iload_n hx hb d_ModeKeeper_parameter_26 rfl (lv_at hl 3 rfl) ?_
        refine lv_aload_n hx hb d_ModeKeeper_parameter_27 rfl (lv_at hl 0 rfl) ?_
        refine va_getN (D := (dC, dI)) (ci := 1) (v := .int (F i_2 4)) (C := R_Form) (T := F_Form) (N := 6) hx hb hq iw_F hown hK hP (4 + i_2) (wK_at hi) rfl 4 (by decide) (gN_count hN) (fun _ h9 => h9) rfl d_ModeKeeper_parameter_28 ?_
        refine lv_icmp_lt (tgt := 36) hx hb d_ModeKeeper_parameter_31 (by decide) (fun c_5 => ?_) (fun c_5 => ?_)
        · refine lv_aload_n hx hb d_ModeKeeper_parameter_36 rfl (lv_at hl 0 rfl) ?_
          refine va_getN (D := (dC, dI)) (ci := 1) (v := .ref (ad (12 + i_2))) (C := R_Form) (T := F_Form) (N := 6) hx hb hq iw_F hown hK hP (4 + i_2) (wK_at hi) rfl 5 (by decide) (gN_parameters hN) (fun _ h9 => h9) rfl d_ModeKeeper_parameter_37 ?_
          refine lv_iload_n hx hb d_ModeKeeper_parameter_40 rfl (lv_at hl 3 rfl) ?_
          refine va_iald (D := (dC, dI)) hx hb hK hP (12 + i_2) 0 (wK_pat hi) rfl (kP_in (hct _ hi) c_4 c_5) d_ModeKeeper_parameter_41 ?_
          exact W.iret (v := ((pr i_2) j.toNatClampNeg)) hx hb hrt (fun t ht hW => ⟨((pr i_2) j.toNatClampNeg), rfl, (by simp only [kPaR, hf_1, if_neg c_3, if_neg c_4, if_pos c_5] <;> rfl), ht⟩) (fun _ h => by cases h) d_ModeKeeper_parameter_42
        · refine lv_iconst (v := (-1)) hx hb d_ModeKeeper_parameter_34 (by decide) ?_
          exact W.iret (v := (-1)) hx hb hrt (fun t ht hW => ⟨(-1), rfl, (by simp only [kPaR, hf_1, if_neg c_3, if_neg c_4, if_neg c_5] <;> rfl), ht⟩) (fun _ h => by cases h) d_ModeKeeper_parameter_35
    · refine lv_aload_n hx hb d_ModeKeeper_parameter_17 rfl (lv_at hl 0 rfl) ?_
      refine va_getN (D := (dC, dI)) (ci := 1) (v := .int (F i_2 4)) (C := R_Form) (T := F_Form) (N := 6) hx hb hq iw_F hown hK hP (4 + i_2) (wK_at hi) rfl 4 (by decide) (gN_count hN) (fun _ h9 => h9) rfl d_ModeKeeper_parameter_18 ?_
      exact W.iret (v := (F i_2 4)) hx hb hrt (fun t ht hW => ⟨(F i_2 4), rfl, (by simp only [kPaR, hf_1, if_pos c_3] <;> rfl), ht⟩) (fun _ h => by cases h) d_ModeKeeper_parameter_21
set_option maxHeartbeats 4000000 in
set_option maxRecDepth 100000 in
theorem c_ModeKeeper_value (l : Launch) (dC : Nat → ClassId) (dI : Nat → Nat → Nat) (ad : Nat → Nat) (sz : Nat) (cI cF : ClassId) (k act txt : Nat → Int32) (F pr : Nat → Nat → Int32) (x : Int32) : Met l y_ModeKeeper_value w_ModeKeeper_value ({ frames := 1, cells := 0, slots := 0, locals := 20 }) (va_Pc [.ref (ad 0), .int x] (gP (dC, dI) classes (tyK cI cF) (wK ad cI cF k act txt F pr) sz)) (vp_Si (fun r => r = (kVaR k act x))) 0 0 (fun _ => False) := by
  refine Met.ofW (cc := b_ModeKeeper_value) (maxL := 2) (ret := (some .int)) (by decide) rfl ?_
  intro p e s m args below meth c s₁ B hml hv
  obtain ⟨rfl, hsz, hP, hK, hD0, hN⟩ := hv
  have hx := B.exec
  have hb := B.bytes
  have hrt := B.returns
  have hq : ∀ w ∈ wAll, w.before ([.ref (ad 0), .int x] : List Value).toArray s = true := fun w h => atoms_spec (ws := w_ModeKeeper_value) B.pre w (List.mem_cons_of_mem _ h)
  have hown : s.vm.findClass R_ModeKeeper = some m.cls := findClass_of_methodNamed B.named
  have hlocks := B.notSynchronized
  subst hsz
  have hD := hD0
  have hl := lv_entry ([.ref (ad 0), .int x]) (n := 2) (Nat.le_of_ble_eq_true rfl)
  rw [lg_entry_eq]
  generalize (lg_sl ([.ref (ad 0), .int x]) ++ List.replicate (2 - (lg_sl ([.ref (ad 0), .int x])).length) Slot.unset).toArray = ls at hl ⊢
  have hl : lv_has ls 2 [(0, .ref (ad 0)), (1, .int x)] := hl
  refine lv_iload_n hx hb d_ModeKeeper_value_0 rfl (lv_at hl 1 rfl) ?_
  refine vp_callSi (va_Run.run (va_runS (As := [.int x]) (rest := []) ⟨hx, hb, hml, hown, hq⟩ (c_ModeKeeper_isActuator l x) ⟨callB_of 1 hq (gd m_ModeKeeper_isActuator) rfl rfl rfl (hq _ qk_10) (hq _ qk_16) (by decide +kernel) ⟨Nat.le_of_ble_eq_true rfl, Nat.le_of_ble_eq_true rfl⟩, (hq _ qk_17)⟩ ⟨g_blind0, fun _ _ _ => ⟨rfl, trivial⟩⟩ rfl rfl hl.1 rfl (lv_room (Nat.le_of_ble_eq_true rfl)) d_ModeKeeper_value_1 ⟨Nat.zero_le _, Nat.zero_le _⟩)) (fun r hr => ?_)
  subst hr
  refine lv_if_eq (tgt := 14) hx hb d_ModeKeeper_value_4 (by decide) (fun c_1 => ?_) (fun c_1 => ?_)
  · refine lv_iload_n hx hb d_ModeKeeper_value_14 rfl (lv_at hl 1 rfl) ?_
    by_cases h_2 : x = 8
    · refine lv_tableIn (tgt := 44) hx hb d_ModeKeeper_value_15 (by rw [h_2]; decide) (by rw [h_2]; decide) (by rw [h_2]; rfl) (by decide) ?_
      refine lv_aload_n hx hb d_ModeKeeper_value_44 rfl (lv_at hl 0 rfl) ?_
      refine va_get (D := (dC, dI)) (ci := 0) (v := .int (k 1)) (C := R_ModeKeeper) (T := F_ModeKeeper) (N := 9) hx hb hq iw_K hown hK hP 0 rfl rfl 1 (by decide) (hq _ qk_1) (fun _ h9 => h9) rfl d_ModeKeeper_value_45 ?_
      exact W.iret (v := (k 1)) hx hb hrt (fun t ht hW => ⟨(k 1), rfl, (by simp only [kVaR, if_pos c_1, if_pos h_2] <;> rfl), ht⟩) (fun _ h => by cases h) d_ModeKeeper_value_48
    · by_cases h_3 : x = 9
      · refine lv_tableIn (tgt := 49) hx hb d_ModeKeeper_value_15 (by rw [h_3]; decide) (by rw [h_3]; decide) (by rw [h_3]; rfl) (by decide) ?_
        refine lv_aload_n hx hb d_ModeKeeper_value_49 rfl (lv_at hl 0 rfl) ?_
        refine va_get (D := (dC, dI)) (ci := 0) (v := .int (k 3)) (C := R_ModeKeeper) (T := F_ModeKeeper) (N := 9) hx hb hq iw_K hown hK hP 0 rfl rfl 3 (by decide) (hq _ qk_21) (fun _ h9 => h9) rfl d_ModeKeeper_value_50 ?_
        refine lv_if_eq (tgt := 63) hx hb d_ModeKeeper_value_53 (by decide) (fun c_4 => ?_) (fun c_4 => ?_)
        · refine lv_iconst (v := (-1)) hx hb d_ModeKeeper_value_63 (by decide) ?_
          exact W.iret (v := (-1)) hx hb hrt (fun t ht hW => ⟨(-1), rfl, (by simp only [kVaR, if_pos c_1, if_neg h_2, if_pos h_3, if_pos c_4] <;> rfl), ht⟩) (fun _ h => by cases h) d_ModeKeeper_value_64
        · refine lv_aload_n hx hb d_ModeKeeper_value_56 rfl (lv_at hl 0 rfl) ?_
          refine va_get (D := (dC, dI)) (ci := 0) (v := .int (k 4)) (C := R_ModeKeeper) (T := F_ModeKeeper) (N := 9) hx hb hq iw_K hown hK hP 0 rfl rfl 4 (by decide) (hq _ qk_22) (fun _ h9 => h9) rfl d_ModeKeeper_value_57 ?_
          refine lv_goto (tgt := 64) hx hb d_ModeKeeper_value_60 (by decide) ?_
          exact W.iret (v := (k 4)) hx hb hrt (fun t ht hW => ⟨(k 4), rfl, (by simp only [kVaR, if_pos c_1, if_neg h_2, if_pos h_3, if_neg c_4] <;> rfl), ht⟩) (fun _ h => by cases h) d_ModeKeeper_value_64
      · by_cases h_5 : x = 10
        · refine lv_tableIn (tgt := 65) hx hb d_ModeKeeper_value_15 (by rw [h_5]; decide) (by rw [h_5]; decide) (by rw [h_5]; rfl) (by decide) ?_
          refine lv_aload_n hx hb d_ModeKeeper_value_65 rfl (lv_at hl 0 rfl) ?_
          refine va_get (D := (dC, dI)) (ci := 0) (v := .int (k 2)) (C := R_ModeKeeper) (T := F_ModeKeeper) (N := 9) hx hb hq iw_K hown hK hP 0 rfl rfl 2 (by decide) (hq _ qk_2) (fun _ h9 => h9) rfl d_ModeKeeper_value_66 ?_
          exact W.iret (v := (k 2)) hx hb hrt (fun t ht hW => ⟨(k 2), rfl, (by simp only [kVaR, if_pos c_1, if_neg h_2, if_neg h_3, if_pos h_5] <;> rfl), ht⟩) (fun _ h => by cases h) d_ModeKeeper_value_69
        · by_cases h_6 : x = 11
          · refine lv_tableIn (tgt := 70) hx hb d_ModeKeeper_value_15 (by rw [h_6]; decide) (by rw [h_6]; decide) (by rw [h_6]; rfl) (by decide) ?_
            refine lv_aload_n hx hb d_ModeKeeper_value_70 rfl (lv_at hl 0 rfl) ?_
            refine va_get (D := (dC, dI)) (ci := 0) (v := .int (k 8)) (C := R_ModeKeeper) (T := F_ModeKeeper) (N := 9) hx hb hq iw_K hown hK hP 0 rfl rfl 8 (by decide) (hq _ qk_14) (fun _ h9 => h9) rfl d_ModeKeeper_value_71 ?_
            exact W.iret (v := (k 8)) hx hb hrt (fun t ht hW => ⟨(k 8), rfl, (by simp only [kVaR, if_pos c_1, if_neg h_2, if_neg h_3, if_neg h_5, if_pos h_6] <;> rfl), ht⟩) (fun _ h => by cases h) d_ModeKeeper_value_74
          · refine lv_tableOut (tgt := 75) hx hb d_ModeKeeper_value_15 (by have zh_2 := lv_neT h_2 (a := 8) (by decide); have zh_3 := lv_neT h_3 (a := 9) (by decide); have zh_5 := lv_neT h_5 (a := 10) (by decide); have zh_6 := lv_neT h_6 (a := 11) (by decide); omega) (by decide) ?_
            refine lv_iconst (v := 0) hx hb d_ModeKeeper_value_75 (by decide) ?_
            exact W.iret (v := 0) hx hb hrt (fun t ht hW => ⟨0, rfl, (by simp only [kVaR, if_pos c_1, if_neg h_2, if_neg h_3, if_neg h_5, if_neg h_6] <;> rfl), ht⟩) (fun _ h => by cases h) d_ModeKeeper_value_76
  · refine lv_aload_n hx hb d_ModeKeeper_value_7 rfl (lv_at hl 0 rfl) ?_
    refine va_get (D := (dC, dI)) (ci := 0) (v := .ref (ad 1)) (C := R_ModeKeeper) (T := F_ModeKeeper) (N := 9) hx hb hq iw_K hown hK hP 0 rfl rfl 0 (by decide) (hq _ qk_4) (fun _ h9 => h9) rfl d_ModeKeeper_value_8 ?_
    refine lv_iload_n hx hb d_ModeKeeper_value_11 rfl (lv_at hl 1 rfl) ?_
    refine va_iald (D := (dC, dI)) hx hb hK hP 1 0 rfl rfl (kA_in c_1) d_ModeKeeper_value_12 ?_
    exact W.iret (v := (act x.toNatClampNeg)) hx hb hrt (fun t ht hW => ⟨(act x.toNatClampNeg), rfl, (by simp only [kVaR, if_neg c_1] <;> rfl), ht⟩) (fun _ h => by cases h) d_ModeKeeper_value_13
set_option maxHeartbeats 4000000 in
set_option maxRecDepth 100000 in
theorem c_ModeKeeper_about (l : Launch) (dC : Nat → ClassId) (dI : Nat → Nat → Nat) (ad : Nat → Nat) (sz : Nat) (cI cF : ClassId) (k act txt : Nat → Int32) (F pr : Nat → Nat → Int32) (id x : Int32) : Met l y_ModeKeeper_about w_ModeKeeper_about ({ frames := 1, cells := 0, slots := 0, locals := 23 }) (va_Pc [.ref (ad 0), .int id, .int x] (gP (dC, dI) classes (tyK cI cF) (wK ad cI cF k act txt F pr) sz)) (vp_Si (fun r => r = (kAbR F id x))) 0 0 (fun _ => False) := by
  refine Met.ofW (cc := b_ModeKeeper_about) (maxL := 4) (ret := (some .int)) (by decide) rfl ?_
  intro p e s m args below meth c s₁ B hml hv
  obtain ⟨rfl, hsz, hP, hK, hD0, hN⟩ := hv
  have hx := B.exec
  have hb := B.bytes
  have hrt := B.returns
  have hq : ∀ w ∈ wAll, w.before ([.ref (ad 0), .int id, .int x] : List Value).toArray s = true := fun w h => atoms_spec (ws := w_ModeKeeper_about) B.pre w (List.mem_cons_of_mem _ h)
  have hown : s.vm.findClass R_ModeKeeper = some m.cls := findClass_of_methodNamed B.named
  have hlocks := B.notSynchronized
  subst hsz
  have hD := hD0
  have hl := lv_entry ([.ref (ad 0), .int id, .int x]) (n := 4) (Nat.le_of_ble_eq_true rfl)
  rw [lg_entry_eq]
  generalize (lg_sl ([.ref (ad 0), .int id, .int x]) ++ List.replicate (4 - (lg_sl ([.ref (ad 0), .int id, .int x])).length) Slot.unset).toArray = ls at hl ⊢
  have hl : lv_has ls 4 [(0, .ref (ad 0)), (1, .int id), (2, .int x)] := hl
  refine lv_aload_n hx hb d_ModeKeeper_about_0 rfl (lv_at hl 0 rfl) ?_
  refine lv_iload_n hx hb d_ModeKeeper_about_1 rfl (lv_at hl 1 rfl) ?_
  refine va_csq (va_Run.run (va_runV (As := [.int id]) (rest := []) ⟨hx, hb, hml, hown, hq⟩ (c_ModeKeeper_find l dC dI ad s.heap.size cI cF k act txt F pr id) ⟨callB_of 1 hq (gd m_ModeKeeper_find) rfl rfl rfl (hq _ qk_10) (hq _ qk_11) (by decide +kernel) ⟨Nat.le_of_ble_eq_true rfl, Nat.le_of_ble_eq_true rfl⟩, (hq _ qk_12), (hq _ qk_13)⟩ ⟨g_blind, va_recv hK hP (ci := 0) (q0 := 0) rfl rfl, g_pre hP hK hD hN⟩ rfl rfl hl.1 rfl (lv_room (Nat.le_of_ble_eq_true rfl)) d_ModeKeeper_about_2 ⟨Nat.zero_le _, Nat.zero_le _⟩)) (fun r hr => ?_)
  cases hf_1 : kFind F id 8 0 with
  | none =>
    obtain rfl : r = none := by rw [hr, hf_1]; rfl
    refine lv_astore_nN (lv' := [(3, .null), (0, .ref (ad 0)), (1, .int id), (2, .int x)]) hx hb d_ModeKeeper_about_5 rfl hl (by decide) rfl (fun ls hl => ?_)
    refine lv_aload_nN hx hb d_ModeKeeper_about_6 rfl (lv_at hl 0 rfl) ?_
    refine lv_ifnonnullN hx hb d_ModeKeeper_about_7 ?_
    refine lv_iconst (v := (-1)) hx hb d_ModeKeeper_about_10 (by decide) ?_
    exact W.iret (v := (-1)) hx hb hrt (fun t ht hW => ⟨(-1), rfl, (by simp only [kAbR, hf_1] <;> rfl), ht⟩) (fun _ h => by cases h) d_ModeKeeper_about_11
  | some i_2 =>
    obtain rfl : r = some (ad (4 + i_2)) := by rw [hr, hf_1]; rfl
    have hi : i_2 < 8 := by have h8 := (kFind_some hf_1).2.1; omega
    refine lv_astore_n (lv' := [(3, .ref (ad (4 + i_2))), (0, .ref (ad 0)), (1, .int id), (2, .int x)]) hx hb d_ModeKeeper_about_5 rfl hl (by decide) rfl (fun ls hl => ?_)
    refine lv_aload_n hx hb d_ModeKeeper_about_6 rfl (lv_at hl 0 rfl) ?_
    refine lv_ifnonnull (tgt := 12) hx hb d_ModeKeeper_about_7 (by decide) ?_
    refine lv_iload_n hx hb d_ModeKeeper_about_12 rfl (lv_at hl 3 rfl) ?_
    by_cases h_3 : x = 0
    · refine lv_lookup (tgt := 40) (off := 27) hx hb d_ModeKeeper_about_13 (by decide) (by rw [h_3]; rfl) (by decide) ?_
      refine lv_aload_n hx hb d_ModeKeeper_about_40 rfl (lv_at hl 0 rfl) ?_
      refine va_getN (D := (dC, dI)) (ci := 1) (v := .int (F i_2 2)) (C := R_Form) (T := F_Form) (N := 6) hx hb hq iw_F hown hK hP (4 + i_2) (wK_at hi) rfl 2 (by decide) (gN_every hN) (fun _ h9 => h9) rfl d_ModeKeeper_about_41 ?_
      exact W.iret (v := (F i_2 2)) hx hb hrt (fun t ht hW => ⟨(F i_2 2), rfl, (by simp only [kAbR, hf_1, if_pos h_3] <;> rfl), ht⟩) (fun _ h => by cases h) d_ModeKeeper_about_44
    · by_cases h_4 : x = 1
      · refine lv_lookup (tgt := 45) (off := 32) hx hb d_ModeKeeper_about_13 (by decide) (by rw [h_4]; rfl) (by decide) ?_
        refine lv_aload_n hx hb d_ModeKeeper_about_45 rfl (lv_at hl 0 rfl) ?_
        refine va_getN (D := (dC, dI)) (ci := 1) (v := .int (F i_2 3)) (C := R_Form) (T := F_Form) (N := 6) hx hb hq iw_F hown hK hP (4 + i_2) (wK_at hi) rfl 3 (by decide) (gN_on hN) (fun _ h9 => h9) rfl d_ModeKeeper_about_46 ?_
        refine lv_if_eq (tgt := 56) hx hb d_ModeKeeper_about_49 (by decide) (fun c_5 => ?_) (fun c_5 => ?_)
        · refine lv_iconst (v := 0) hx hb d_ModeKeeper_about_56 (by decide) ?_
          exact W.iret (v := 0) hx hb hrt (fun t ht hW => ⟨0, rfl, (by simp only [kAbR, hf_1, if_neg h_3, if_pos h_4, if_pos c_5] <;> rfl), ht⟩) (fun _ h => by cases h) d_ModeKeeper_about_57
        · refine lv_iconst (v := 1) hx hb d_ModeKeeper_about_52 (by decide) ?_
          refine lv_goto (tgt := 57) hx hb d_ModeKeeper_about_53 (by decide) ?_
          exact W.iret (v := 1) hx hb hrt (fun t ht hW => ⟨1, rfl, (by simp only [kAbR, hf_1, if_neg h_3, if_pos h_4, if_neg c_5] <;> rfl), ht⟩) (fun _ h => by cases h) d_ModeKeeper_about_57
      · refine lv_lookup (tgt := 58) (off := 45) hx hb d_ModeKeeper_about_13 (by decide) (by show Op.lookupswitch.offset _ _ _ = _; rw [lv_osw h_3 (by decide)]; show Op.lookupswitch.offset _ _ _ = _; rw [lv_osw h_4 (by decide)]; rfl) (by decide) ?_
        refine lv_iconst (v := (-1)) hx hb d_ModeKeeper_about_58 (by decide) ?_
        exact W.iret (v := (-1)) hx hb hrt (fun t ht hW => ⟨(-1), rfl, (by simp only [kAbR, hf_1, if_neg h_3, if_neg h_4] <;> rfl), ht⟩) (fun _ h => by cases h) d_ModeKeeper_about_59

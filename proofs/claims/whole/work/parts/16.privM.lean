set_option maxHeartbeats 4000000 in
set_option maxRecDepth 100000 in
theorem c_Model_isThere (l : Launch) (dC : Nat → ClassId) (dI : Nat → Nat → Nat) (bd : Nat → Nat) (sz : Nat) (cI cZ : ClassId) (j ac tx ev on mn pm : Nat → Int32) (id : Int32) : Met l y_Model_isThere w_Model_isThere ({ frames := 0, cells := 0, slots := 0, locals := 0 }) (va_Pc [.ref (bd 0), .int id] (gP (dC, dI) classes (tyM cI cZ) (wM bd cI cZ j ac tx ev on mn pm) sz)) (vp_Si (fun r => r = (mTh ev id))) 0 0 (fun _ => False) := by
  refine Met.ofW (cc := b_Model_isThere) (maxL := 2) (ret := (some .boolean)) (by decide) rfl ?_
  intro p e s m args below meth c s₁ B hml hv
  obtain ⟨rfl, hsz, hP, hK, hD0, hN⟩ := hv
  have hx := B.exec
  have hb := B.bytes
  have hrt := B.returns
  have hq : ∀ w ∈ wAll, w.before ([.ref (bd 0), .int id] : List Value).toArray s = true := fun w h => atoms_spec (ws := w_Model_isThere) B.pre w (List.mem_cons_of_mem _ h)
  have hown : s.vm.findClass R_Model = some m.cls := findClass_of_methodNamed B.named
  have hlocks := B.notSynchronized
  subst hsz
  have hD := hD0
  have hl := lv_entry ([.ref (bd 0), .int id]) (n := 2) (Nat.le_of_ble_eq_true rfl)
  rw [lg_entry_eq]
  generalize (lg_sl ([.ref (bd 0), .int id]) ++ List.replicate (2 - (lg_sl ([.ref (bd 0), .int id])).length) Slot.unset).toArray = ls at hl ⊢
  have hl : lv_has ls 2 [(0, .ref (bd 0)), (1, .int id)] := hl
  refine lv_iload_n hx hb d_Model_isThere_0 rfl (lv_at hl 1 rfl) ?_
  refine lv_if_lt (tgt := 24) hx hb d_Model_isThere_1 (by decide) (fun c_1 => ?_) (fun c_1 => ?_)
  · refine lv_iconst (v := 0) hx hb d_Model_isThere_24 (by decide) ?_
    exact W.zret (v := 0) hx hb hrt rfl (fun t ht hW => ⟨0, rfl, (by simp only [mTh, if_pos c_1] <;> rfl), ht⟩) (fun _ h => by cases h) d_Model_isThere_25
  · refine lv_iload_n hx hb d_Model_isThere_4 rfl (lv_at hl 1 rfl) ?_
    refine lv_sipush (v := 256) hx hb d_Model_isThere_5 (by decide) ?_
    refine lv_icmp_ge (tgt := 24) hx hb d_Model_isThere_8 (by decide) (fun c_2 => ?_) (fun c_2 => ?_)
    · refine lv_iconst (v := 0) hx hb d_Model_isThere_24 (by decide) ?_
      exact W.zret (v := 0) hx hb hrt rfl (fun t ht hW => ⟨0, rfl, (by simp only [mTh, if_neg c_1, if_pos c_2] <;> rfl), ht⟩) (fun _ h => by cases h) d_Model_isThere_25
    · refine lv_aload_n hx hb d_Model_isThere_11 rfl (lv_at hl 0 rfl) ?_
      refine va_get (D := (dC, dI)) (ci := 2) (v := .ref (bd 3)) (C := R_Model) (T := F_Model) (N := 12) hx hb hq iw_M hown hK hP 0 rfl rfl 8 (by decide) (hq _ qm_0) (fun _ h9 => h9) rfl d_Model_isThere_12 ?_
      refine lv_iload_n hx hb d_Model_isThere_15 rfl (lv_at hl 1 rfl) ?_
      refine va_iald (D := (dC, dI)) hx hb hK hP 3 0 rfl rfl (m_in (N := 256) (by decide) c_1 c_2) d_Model_isThere_16 ?_
      refine lv_if_le (tgt := 24) hx hb d_Model_isThere_17 (by decide) (fun c_3 => ?_) (fun c_3 => ?_)
      · refine lv_iconst (v := 0) hx hb d_Model_isThere_24 (by decide) ?_
        exact W.zret (v := 0) hx hb hrt rfl (fun t ht hW => ⟨0, rfl, (by simp only [mTh, if_neg c_1, if_neg c_2, if_pos c_3] <;> rfl), ht⟩) (fun _ h => by cases h) d_Model_isThere_25
      · refine lv_iconst (v := 1) hx hb d_Model_isThere_20 (by decide) ?_
        refine lv_goto (tgt := 25) hx hb d_Model_isThere_21 (by decide) ?_
        exact W.zret (v := 1) hx hb hrt rfl (fun t ht hW => ⟨1, rfl, (by simp only [mTh, if_neg c_1, if_neg c_2, if_neg c_3] <;> rfl), ht⟩) (fun _ h => by cases h) d_Model_isThere_25
set_option maxHeartbeats 4000000 in
set_option maxRecDepth 100000 in
theorem c_Model_forms (l : Launch) (dC : Nat → ClassId) (dI : Nat → Nat → Nat) (bd : Nat → Nat) (sz : Nat) (cI cZ : ClassId) (j ac tx ev on mn pm : Nat → Int32) : Met l y_Model_forms w_Model_forms ({ frames := 0, cells := 0, slots := 0, locals := 0 }) (va_Pc [.ref (bd 0)] (gP (dC, dI) classes (tyM cI cZ) (wM bd cI cZ j ac tx ev on mn pm) sz)) (vp_Si (fun r => r = (mCnt ev 256 0 0))) 0 0 (fun _ => False) := by
  refine Met.ofW (cc := b_Model_forms) (maxL := 3) (ret := (some .int)) (by decide) rfl ?_
  intro p e s m args below meth c s₁ B hml hv
  obtain ⟨rfl, hsz, hP, hK, hD0, hN⟩ := hv
  have hx := B.exec
  have hb := B.bytes
  have hrt := B.returns
  have hq : ∀ w ∈ wAll, w.before ([.ref (bd 0)] : List Value).toArray s = true := fun w h => atoms_spec (ws := w_Model_forms) B.pre w (List.mem_cons_of_mem _ h)
  have hown : s.vm.findClass R_Model = some m.cls := findClass_of_methodNamed B.named
  have hlocks := B.notSynchronized
  subst hsz
  have hD := hD0
  have hl := lv_entry ([.ref (bd 0)]) (n := 3) (Nat.le_of_ble_eq_true rfl)
  rw [lg_entry_eq]
  generalize (lg_sl ([.ref (bd 0)]) ++ List.replicate (3 - (lg_sl ([.ref (bd 0)])).length) Slot.unset).toArray = ls at hl ⊢
  have hl : lv_has ls 3 [(0, .ref (bd 0))] := hl
  have key : ∀ (n i : Nat) (x : Int32), i + n = 256 → mCnt ev 256 0 0 = mCnt ev n i x → ∀ (ls : Array Slot), lv_has ls 3 [(0, .ref (bd 0)), (1, .int x), (2, .int (nI i))] → W p l e (headSpec w_Model_forms ({ frames := 0, cells := 0, slots := 0, locals := 0 })).room s m ([.ref (bd 0)] : List Value).toArray below meth c s.heap [] 0 0 (MQ below (vp_Si (fun r => r = (mCnt ev 256 0 0))) ([.ref (bd 0)] : List Value).toArray s 0 0 (fun _ => False)) (F0 m 4 ls []) := by
    intro n
    induction n with
    | zero =>
      intro i x hin hres ls hl
      obtain rfl : i = 256 := by omega
      refine lv_iload_n hx hb d_Model_forms_4 rfl (lv_at hl 2 rfl) ?_
      refine lv_sipush (v := 256) hx hb d_Model_forms_5 (by decide) ?_
      refine lv_icmp_ge (tgt := 34) hx hb d_Model_forms_8 (by decide) (fun c_1 => ?_) (fun c_1 => ?_)
      · refine lv_iload_n hx hb d_Model_forms_34 rfl (lv_at hl 1 rfl) ?_
        exact W.iret (v := x) hx hb hrt (fun t ht hW => ⟨x, rfl, hres.symm, ht⟩) (fun _ h => by cases h) d_Model_forms_35
      · exact absurd (by decide +kernel) c_1
    | succ n ih =>
      intro i x hin hres ls hl
      have hi : i < 256 := by omega
      refine lv_iload_n hx hb d_Model_forms_4 rfl (lv_at hl 2 rfl) ?_
      refine lv_sipush (v := 256) hx hb d_Model_forms_5 (by decide) ?_
      refine lv_icmp_ge (tgt := 34) hx hb d_Model_forms_8 (by decide) (fun c_2 => ?_) (fun c_2 => ?_)
      · exact absurd c_2 (nI_ge (b := 256) hi (by decide))
      · refine lv_iload_n hx hb d_Model_forms_11 rfl (lv_at hl 1 rfl) ?_
        refine lv_aload_n hx hb d_Model_forms_12 rfl (lv_at hl 0 rfl) ?_
        refine va_get (D := (dC, dI)) (ci := 2) (v := .ref (bd 3)) (C := R_Model) (T := F_Model) (N := 12) hx hb hq iw_M hown hK hP 0 rfl rfl 8 (by decide) (hq _ qm_0) (fun _ h9 => h9) rfl d_Model_forms_13 ?_
        refine lv_iload_n hx hb d_Model_forms_16 rfl (lv_at hl 2 rfl) ?_
        refine g_ild (D := (dC, dI)) hx hb hK hP 3 0 rfl rfl (i := i) hi (by decide) d_Model_forms_17 ?_
        refine lv_if_le (tgt := 25) hx hb d_Model_forms_18 (by decide) (fun c_3 => ?_) (fun c_3 => ?_)
        · refine lv_iconst (v := 0) hx hb d_Model_forms_25 (by decide) ?_
          refine lv_iadd hx hb d_Model_forms_26 ?_
          refine lv_istore_n (lv' := [(1, .int (x + 0)), (0, .ref (bd 0)), (2, .int (nI i))]) hx hb d_Model_forms_27 rfl hl (by decide) rfl (fun ls hl => ?_)
          refine lv_iinc (v := (nI (i + 1))) (lv' := [(2, .int (nI (i + 1))), (1, .int (x + 0)), (0, .ref (bd 0))]) hx hb d_Model_forms_28 hl (k := 2) rfl ((show nI i + Int32.ofInt 1 = nI i + 1 from rfl).trans (nI_1 i)) (by decide) rfl (fun ls hl => ?_)
          refine lv_goto (tgt := 4) hx hb d_Model_forms_31 (by decide) ?_
          exact ih (i + 1) ((x + 0)) (by omega) (by rw [hres]; simp only [mCnt, if_pos c_3]) ls (lv_sub hl [2, 1, 0] rfl)
        · refine lv_iconst (v := 1) hx hb d_Model_forms_21 (by decide) ?_
          refine lv_goto (tgt := 26) hx hb d_Model_forms_22 (by decide) ?_
          refine lv_iadd hx hb d_Model_forms_26 ?_
          refine lv_istore_n (lv' := [(1, .int (x + 1)), (0, .ref (bd 0)), (2, .int (nI i))]) hx hb d_Model_forms_27 rfl hl (by decide) rfl (fun ls hl => ?_)
          refine lv_iinc (v := (nI (i + 1))) (lv' := [(2, .int (nI (i + 1))), (1, .int (x + 1)), (0, .ref (bd 0))]) hx hb d_Model_forms_28 hl (k := 2) rfl ((show nI i + Int32.ofInt 1 = nI i + 1 from rfl).trans (nI_1 i)) (by decide) rfl (fun ls hl => ?_)
          refine lv_goto (tgt := 4) hx hb d_Model_forms_31 (by decide) ?_
          exact ih (i + 1) ((x + 1)) (by omega) (by rw [hres]; simp only [mCnt, if_neg c_3]) ls (lv_sub hl [2, 1, 0] rfl)
  refine lv_iconst (v := 0) hx hb d_Model_forms_0 (by decide) ?_
  refine lv_istore_n (lv' := [(1, .int 0), (0, .ref (bd 0))]) hx hb d_Model_forms_1 rfl hl (by decide) rfl (fun ls hl => ?_)
  refine lv_iconst (v := 0) hx hb d_Model_forms_2 (by decide) ?_
  refine lv_istore_n (lv' := [(2, .int 0), (1, .int 0), (0, .ref (bd 0))]) hx hb d_Model_forms_3 rfl hl (by decide) rfl (fun ls hl => ?_)
  exact key 256 0 0 rfl rfl ls (lv_sub hl [2, 1, 0] rfl)
set_option maxHeartbeats 4000000 in
set_option maxRecDepth 100000 in
theorem c_Model_becomes (l : Launch) (dC : Nat → ClassId) (dI : Nat → Nat → Nat) (bd : Nat → Nat) (sz : Nat) (cI cZ : ClassId) (j ac tx ev on mn pm : Nat → Int32) (m0 : Int32) : Met l y_Model_becomes w_Model_becomes ({ frames := 0, cells := 0, slots := 0, locals := 0 }) (va_Pc [.ref (bd 0), .int m0] (gP (dC, dI) classes (tyM cI cZ) (wM bd cI cZ j ac tx ev on mn pm) sz)) (va_Qi (fun r (_ : Unit) => r = (mBeR j m0)) (fun _ t => gB (dC, dI) classes (va_A (wM bd cI cZ j ac tx ev on mn pm) sz) (wM bd cI cZ ((mBeJ j m0)) ((mBeA j ac m0)) tx ev on mn pm) t) (va_A (wM bd cI cZ j ac tx ev on mn pm) sz)) 0 0 (va_A (wM bd cI cZ j ac tx ev on mn pm) sz) := by
  refine Met.ofW (cc := b_Model_becomes) (maxL := 4) (ret := (some .boolean)) (by decide) rfl ?_
  intro p e s m args below meth c s₁ B hml hv
  obtain ⟨rfl, hsz, hP, hK, hD0, hN⟩ := hv
  have hx := B.exec
  have hb := B.bytes
  have hrt := B.returns
  have hq : ∀ w ∈ wAll, w.before ([.ref (bd 0), .int m0] : List Value).toArray s = true := fun w h => atoms_spec (ws := w_Model_becomes) B.pre w (List.mem_cons_of_mem _ h)
  have hown : s.vm.findClass R_Model = some m.cls := findClass_of_methodNamed B.named
  have hlocks := B.notSynchronized
  subst hsz
  have hD := hD0.self (sz := s.heap.size)
  generalize hAe : va_A (wM bd cI cZ j ac tx ev on mn pm) s.heap.size = A at hD ⊢
  have hA : ∀ q : Nat, s.heap.size ≤ q → A q := fun q h => by rw [← hAe]; exact Or.inr h
  have hS : va_S A s.heap s.heap [] := va_S.rf
  have hl := lv_entry ([.ref (bd 0), .int m0]) (n := 4) (Nat.le_of_ble_eq_true rfl)
  rw [lg_entry_eq]
  generalize (lg_sl ([.ref (bd 0), .int m0]) ++ List.replicate (4 - (lg_sl ([.ref (bd 0), .int m0])).length) Slot.unset).toArray = ls at hl ⊢
  have hl : lv_has ls 4 [(0, .ref (bd 0)), (1, .int m0)] := hl
  refine lv_iload_n hx hb d_Model_becomes_0 rfl (lv_at hl 1 rfl) ?_
  refine lv_aload_n hx hb d_Model_becomes_1 rfl (lv_at hl 0 rfl) ?_
  refine va_get (D := (dC, dI)) (ci := 2) (v := .int (j 1)) (C := R_Model) (T := F_Model) (N := 12) hx hb hq iw_M hown hK hP 0 rfl rfl 1 (by decide) (hq _ qm_1) (fun _ h9 => h9) rfl d_Model_becomes_2 ?_
  refine lv_icmp_eq (tgt := 12) hx hb d_Model_becomes_5 (by decide) (fun c_1 => ?_) (fun c_1 => ?_)
  · refine lv_iconst (v := 0) hx hb d_Model_becomes_12 (by decide) ?_
    refine lv_istore_n (lv' := [(2, .int 0), (0, .ref (bd 0)), (1, .int m0)]) hx hb d_Model_becomes_13 rfl hl (by decide) rfl (fun ls hl => ?_)
    refine lv_aload_n hx hb d_Model_becomes_14 rfl (lv_at hl 1 rfl) ?_
    refine lv_iload_n hx hb d_Model_becomes_15 rfl (lv_at hl 2 rfl) ?_
    refine va_put (D := (dC, dI)) (ci := 2) (v := .int m0) (ty := .int) (C := R_Model) (T := F_Model) (N := 12) hx hb hq iw_M t_Model t_Model_ok n_Model hown hK hP hD hS 0 rfl rfl 1 (by decide) (hq _ qm_1) (fun _ h9 => h9) rfl (by decide +kernel) rfl rfl (Nat.le_of_ble_eq_true rfl) d_Model_becomes_16 (fun H locs hP hD hS => ?_)
    have hP : va_P (dC, dI) classes (wM bd cI cZ ((upd j 1 m0)) ac tx ev on mn pm) H := hP
    have hD : va_D A (wM bd cI cZ ((upd j 1 m0)) ac tx ev on mn pm) := hD
    refine lv_aload_n hx hb d_Model_becomes_19 rfl (lv_at hl 1 rfl) ?_
    refine lv_dup hx hb d_Model_becomes_20 rfl ?_
    refine va_get (D := (dC, dI)) (ci := 2) (v := .int (j 5)) (C := R_Model) (T := F_Model) (N := 12) hx hb hq iw_M hown hK hP 0 rfl rfl 5 (by decide) (hq _ qm_2) (fun _ h9 => h9) rfl d_Model_becomes_21 ?_
    refine lv_iload_n hx hb d_Model_becomes_24 rfl (lv_at hl 0 rfl) ?_
    refine lv_if_eq (tgt := 32) hx hb d_Model_becomes_25 (by decide) (fun c_2 => ?_) (fun c_2 => ?_)
    · refine lv_iconst (v := 0) hx hb d_Model_becomes_32 (by decide) ?_
      refine lv_iadd hx hb d_Model_becomes_33 ?_
      refine va_put (D := (dC, dI)) (ci := 2) (v := .int ((j 5) + 0)) (ty := .int) (C := R_Model) (T := F_Model) (N := 12) hx hb hq iw_M t_Model t_Model_ok n_Model hown hK hP hD hS 0 rfl rfl 5 (by decide) (hq _ qm_2) (fun _ h9 => h9) rfl (by decide +kernel) rfl rfl (Nat.le_of_ble_eq_true rfl) d_Model_becomes_34 (fun H locs hP hD hS => ?_)
      have hP : va_P (dC, dI) classes (wM bd cI cZ ((upd (upd j 1 m0) 5 (((j 5) + 0)))) ac tx ev on mn pm) H := hP
      have hD : va_D A (wM bd cI cZ ((upd (upd j 1 m0) 5 (((j 5) + 0)))) ac tx ev on mn pm) := hD
      refine lv_iconst (v := 0) hx hb d_Model_becomes_37 (by decide) ?_
      refine lv_istore_n (lv' := [(3, .int 0), (2, .int 0), (0, .ref (bd 0)), (1, .int m0)]) hx hb d_Model_becomes_38 rfl hl (by decide) rfl (fun ls hl => ?_)
      refine lv_iload_n hx hb d_Model_becomes_39 rfl (lv_at hl 0 rfl) ?_
      refine lv_bipush (v := 8) hx hb d_Model_becomes_40 (by decide) ?_
      refine lv_icmp_ge (tgt := 97) hx hb d_Model_becomes_42 (by decide) (fun c_3 => ?_) (fun c_3 => ?_)
      · exact absurd c_3 (by decide)
      · refine lv_iload_n hx hb d_Model_becomes_45 rfl (lv_at hl 1 rfl) ?_
        refine lv_if_eq (tgt := 97) hx hb d_Model_becomes_46 (by decide) (fun c_4 => ?_) (fun c_4 => ?_)
        · refine lv_iload_n hx hb d_Model_becomes_97 rfl (lv_at hl 1 rfl) ?_
          have e_j : (mBeJ j m0) = (upd (upd j 1 m0) 5 (((j 5) + 0))) := (by simp only [mBeR, mBeJ, mBeA, if_pos c_1, if_pos c_2, if_neg c_3, if_pos c_4] <;> rfl)
          have e_ac : (mBeA j ac m0) = ac := (by simp only [mBeR, mBeJ, mBeA, if_pos c_1, if_pos c_2, if_neg c_3, if_pos c_4] <;> rfl)
          have hP9 : va_P (dC, dI) classes (wM bd cI cZ ((mBeJ j m0)) ((mBeA j ac m0)) tx ev on mn pm) H := by rw [e_j, e_ac]; exact hP
          have hD9 : va_D A (wM bd cI cZ ((mBeJ j m0)) ((mBeA j ac m0)) tx ev on mn pm) := by rw [e_j, e_ac]; exact hD
          exact W.zret (v := 0) hx hb hrt rfl (fun t ht hW => ⟨⟨0, (), rfl, (by simp only [mBeR, mBeJ, mBeA, if_pos c_1, if_pos c_2, if_neg c_3, if_pos c_4] <;> rfl), by rw [ht]; exact hP9, hD9⟩, hS.F ht⟩) hS.2.2 d_Model_becomes_98
        · exact absurd (by decide) c_4
    · exact absurd (by decide) c_2
  · refine lv_iconst (v := 1) hx hb d_Model_becomes_8 (by decide) ?_
    refine lv_goto (tgt := 13) hx hb d_Model_becomes_9 (by decide) ?_
    refine lv_istore_n (lv' := [(2, .int 1), (0, .ref (bd 0)), (1, .int m0)]) hx hb d_Model_becomes_13 rfl hl (by decide) rfl (fun ls hl => ?_)
    refine lv_aload_n hx hb d_Model_becomes_14 rfl (lv_at hl 1 rfl) ?_
    refine lv_iload_n hx hb d_Model_becomes_15 rfl (lv_at hl 2 rfl) ?_
    refine va_put (D := (dC, dI)) (ci := 2) (v := .int m0) (ty := .int) (C := R_Model) (T := F_Model) (N := 12) hx hb hq iw_M t_Model t_Model_ok n_Model hown hK hP hD hS 0 rfl rfl 1 (by decide) (hq _ qm_1) (fun _ h9 => h9) rfl (by decide +kernel) rfl rfl (Nat.le_of_ble_eq_true rfl) d_Model_becomes_16 (fun H locs hP hD hS => ?_)
    have hP : va_P (dC, dI) classes (wM bd cI cZ ((upd j 1 m0)) ac tx ev on mn pm) H := hP
    have hD : va_D A (wM bd cI cZ ((upd j 1 m0)) ac tx ev on mn pm) := hD
    refine lv_aload_n hx hb d_Model_becomes_19 rfl (lv_at hl 1 rfl) ?_
    refine lv_dup hx hb d_Model_becomes_20 rfl ?_
    refine va_get (D := (dC, dI)) (ci := 2) (v := .int (j 5)) (C := R_Model) (T := F_Model) (N := 12) hx hb hq iw_M hown hK hP 0 rfl rfl 5 (by decide) (hq _ qm_2) (fun _ h9 => h9) rfl d_Model_becomes_21 ?_
    refine lv_iload_n hx hb d_Model_becomes_24 rfl (lv_at hl 0 rfl) ?_
    refine lv_if_eq (tgt := 32) hx hb d_Model_becomes_25 (by decide) (fun c_5 => ?_) (fun c_5 => ?_)
    · exact absurd c_5 (by decide)
    · refine lv_iconst (v := 1) hx hb d_Model_becomes_28 (by decide) ?_
      refine lv_goto (tgt := 33) hx hb d_Model_becomes_29 (by decide) ?_
      refine lv_iadd hx hb d_Model_becomes_33 ?_
      refine va_put (D := (dC, dI)) (ci := 2) (v := .int ((j 5) + 1)) (ty := .int) (C := R_Model) (T := F_Model) (N := 12) hx hb hq iw_M t_Model t_Model_ok n_Model hown hK hP hD hS 0 rfl rfl 5 (by decide) (hq _ qm_2) (fun _ h9 => h9) rfl (by decide +kernel) rfl rfl (Nat.le_of_ble_eq_true rfl) d_Model_becomes_34 (fun H locs hP hD hS => ?_)
      have hP : va_P (dC, dI) classes (wM bd cI cZ ((upd (upd j 1 m0) 5 (((j 5) + 1)))) ac tx ev on mn pm) H := hP
      have hD : va_D A (wM bd cI cZ ((upd (upd j 1 m0) 5 (((j 5) + 1)))) ac tx ev on mn pm) := hD
      refine lv_iconst (v := 0) hx hb d_Model_becomes_37 (by decide) ?_
      refine lv_istore_n (lv' := [(3, .int 0), (2, .int 1), (0, .ref (bd 0)), (1, .int m0)]) hx hb d_Model_becomes_38 rfl hl (by decide) rfl (fun ls hl => ?_)
      refine lv_iload_n hx hb d_Model_becomes_39 rfl (lv_at hl 0 rfl) ?_
      refine lv_bipush (v := 8) hx hb d_Model_becomes_40 (by decide) ?_
      refine lv_icmp_ge (tgt := 97) hx hb d_Model_becomes_42 (by decide) (fun c_6 => ?_) (fun c_6 => ?_)
      · exact absurd c_6 (by decide)
      · refine lv_iload_n hx hb d_Model_becomes_45 rfl (lv_at hl 1 rfl) ?_
        refine lv_if_eq (tgt := 97) hx hb d_Model_becomes_46 (by decide) (fun c_7 => ?_) (fun c_7 => ?_)
        · exact absurd c_7 (by decide)
        · refine lv_iload_n hx hb d_Model_becomes_49 rfl (lv_at hl 3 rfl) ?_
          refine lv_if_ne (tgt := 97) hx hb d_Model_becomes_50 (by decide) (fun c_8 => ?_) (fun c_8 => ?_)
          · refine lv_iload_n hx hb d_Model_becomes_97 rfl (lv_at hl 1 rfl) ?_
            have e_j : (mBeJ j m0) = (upd (upd j 1 m0) 5 (((j 5) + 1))) := (by simp only [mBeR, mBeJ, mBeA, if_neg c_1, if_neg c_5, if_neg c_6, if_neg c_7, if_neg c_8] <;> rfl)
            have e_ac : (mBeA j ac m0) = ac := (by simp only [mBeR, mBeJ, mBeA, if_neg c_1, if_neg c_5, if_neg c_6, if_neg c_7, if_neg c_8] <;> rfl)
            have hP9 : va_P (dC, dI) classes (wM bd cI cZ ((mBeJ j m0)) ((mBeA j ac m0)) tx ev on mn pm) H := by rw [e_j, e_ac]; exact hP
            have hD9 : va_D A (wM bd cI cZ ((mBeJ j m0)) ((mBeA j ac m0)) tx ev on mn pm) := by rw [e_j, e_ac]; exact hD
            exact W.zret (v := 1) hx hb hrt rfl (fun t ht hW => ⟨⟨1, (), rfl, (by simp only [mBeR, mBeJ, mBeA, if_neg c_1, if_neg c_5, if_neg c_6, if_neg c_7, if_neg c_8] <;> rfl), by rw [ht]; exact hP9, hD9⟩, hS.F ht⟩) hS.2.2 d_Model_becomes_98
          · refine lv_aload_n hx hb d_Model_becomes_53 rfl (lv_at hl 2 rfl) ?_
            refine va_get (D := (dC, dI)) (ci := 2) (v := .ref (bd 1)) (C := R_Model) (T := F_Model) (N := 12) hx hb hq iw_M hown hK hP 0 rfl rfl 2 (by decide) (hq _ qm_3) (fun _ h9 => h9) rfl d_Model_becomes_54 ?_
            refine lv_iload_n hx hb d_Model_becomes_57 rfl (lv_at hl 0 rfl) ?_
            refine lv_iload_n hx hb d_Model_becomes_58 rfl (lv_at hl 0 rfl) ?_
            refine lv_iconst (v := 4) hx hb d_Model_becomes_59 (by decide) ?_
            refine lv_icmp_ge (tgt := 67) hx hb d_Model_becomes_60 (by decide) (fun c_9 => ?_) (fun c_9 => ?_)
            · exact absurd c_9 (by decide)
            · refine lv_iconst (v := 0) hx hb d_Model_becomes_63 (by decide) ?_
              refine lv_goto (tgt := 90) hx hb d_Model_becomes_64 (by decide) ?_
              refine g_ist (D := (dC, dI)) hx hb hK hP hD hS 1 0 rfl rfl (i := 0) (by decide) (by decide) d_Model_becomes_90 (fun H locs hP hD hS => ?_)
              have hP : va_P (dC, dI) classes (wM bd cI cZ ((upd (upd j 1 m0) 5 (((j 5) + 1)))) ((upd ac 0 0)) tx ev on mn pm) H := hP
              have hD : va_D A (wM bd cI cZ ((upd (upd j 1 m0) 5 (((j 5) + 1)))) ((upd ac 0 0)) tx ev on mn pm) := hD
              refine lv_iinc (v := 1) (lv' := [(3, .int 1), (2, .int 1), (0, .ref (bd 0)), (1, .int m0)]) hx hb d_Model_becomes_91 hl (k := 0) rfl (by decide) (by decide) rfl (fun ls hl => ?_)
              refine lv_goto (tgt := 39) hx hb d_Model_becomes_94 (by decide) ?_
              refine lv_iload_n hx hb d_Model_becomes_39 rfl (lv_at hl 0 rfl) ?_
              refine lv_bipush (v := 8) hx hb d_Model_becomes_40 (by decide) ?_
              refine lv_icmp_ge (tgt := 97) hx hb d_Model_becomes_42 (by decide) (fun c_10 => ?_) (fun c_10 => ?_)
              · exact absurd c_10 (by decide)
              · refine lv_iload_n hx hb d_Model_becomes_45 rfl (lv_at hl 1 rfl) ?_
                refine lv_if_eq (tgt := 97) hx hb d_Model_becomes_46 (by decide) (fun c_11 => ?_) (fun c_11 => ?_)
                · exact absurd c_11 (by decide)
                · refine lv_iload_n hx hb d_Model_becomes_49 rfl (lv_at hl 3 rfl) ?_
                  refine lv_if_ne (tgt := 97) hx hb d_Model_becomes_50 (by decide) (fun c_12 => ?_) (fun c_12 => ?_)
                  · exact absurd c_8 c_12
                  · refine lv_aload_n hx hb d_Model_becomes_53 rfl (lv_at hl 2 rfl) ?_
                    refine va_get (D := (dC, dI)) (ci := 2) (v := .ref (bd 1)) (C := R_Model) (T := F_Model) (N := 12) hx hb hq iw_M hown hK hP 0 rfl rfl 2 (by decide) (hq _ qm_3) (fun _ h9 => h9) rfl d_Model_becomes_54 ?_
                    refine lv_iload_n hx hb d_Model_becomes_57 rfl (lv_at hl 0 rfl) ?_
                    refine lv_iload_n hx hb d_Model_becomes_58 rfl (lv_at hl 0 rfl) ?_
                    refine lv_iconst (v := 4) hx hb d_Model_becomes_59 (by decide) ?_
                    refine lv_icmp_ge (tgt := 67) hx hb d_Model_becomes_60 (by decide) (fun c_13 => ?_) (fun c_13 => ?_)
                    · exact absurd c_13 (by decide)
                    · refine lv_iconst (v := 0) hx hb d_Model_becomes_63 (by decide) ?_
                      refine lv_goto (tgt := 90) hx hb d_Model_becomes_64 (by decide) ?_
                      refine g_ist (D := (dC, dI)) hx hb hK hP hD hS 1 0 rfl rfl (i := 1) (by decide) (by decide) d_Model_becomes_90 (fun H locs hP hD hS => ?_)
                      have hP : va_P (dC, dI) classes (wM bd cI cZ ((upd (upd j 1 m0) 5 (((j 5) + 1)))) ((upd (upd ac 0 0) 1 0)) tx ev on mn pm) H := hP
                      have hD : va_D A (wM bd cI cZ ((upd (upd j 1 m0) 5 (((j 5) + 1)))) ((upd (upd ac 0 0) 1 0)) tx ev on mn pm) := hD
                      refine lv_iinc (v := 2) (lv' := [(3, .int 2), (2, .int 1), (0, .ref (bd 0)), (1, .int m0)]) hx hb d_Model_becomes_91 hl (k := 0) rfl (by decide) (by decide) rfl (fun ls hl => ?_)
                      refine lv_goto (tgt := 39) hx hb d_Model_becomes_94 (by decide) ?_
                      refine lv_iload_n hx hb d_Model_becomes_39 rfl (lv_at hl 0 rfl) ?_
                      refine lv_bipush (v := 8) hx hb d_Model_becomes_40 (by decide) ?_
                      refine lv_icmp_ge (tgt := 97) hx hb d_Model_becomes_42 (by decide) (fun c_14 => ?_) (fun c_14 => ?_)
                      · exact absurd c_14 (by decide)
                      · refine lv_iload_n hx hb d_Model_becomes_45 rfl (lv_at hl 1 rfl) ?_
                        refine lv_if_eq (tgt := 97) hx hb d_Model_becomes_46 (by decide) (fun c_15 => ?_) (fun c_15 => ?_)
                        · exact absurd c_15 (by decide)
                        · refine lv_iload_n hx hb d_Model_becomes_49 rfl (lv_at hl 3 rfl) ?_
                          refine lv_if_ne (tgt := 97) hx hb d_Model_becomes_50 (by decide) (fun c_16 => ?_) (fun c_16 => ?_)
                          · exact absurd c_8 c_16
                          · refine lv_aload_n hx hb d_Model_becomes_53 rfl (lv_at hl 2 rfl) ?_
                            refine va_get (D := (dC, dI)) (ci := 2) (v := .ref (bd 1)) (C := R_Model) (T := F_Model) (N := 12) hx hb hq iw_M hown hK hP 0 rfl rfl 2 (by decide) (hq _ qm_3) (fun _ h9 => h9) rfl d_Model_becomes_54 ?_
                            refine lv_iload_n hx hb d_Model_becomes_57 rfl (lv_at hl 0 rfl) ?_
                            refine lv_iload_n hx hb d_Model_becomes_58 rfl (lv_at hl 0 rfl) ?_
                            refine lv_iconst (v := 4) hx hb d_Model_becomes_59 (by decide) ?_
                            refine lv_icmp_ge (tgt := 67) hx hb d_Model_becomes_60 (by decide) (fun c_17 => ?_) (fun c_17 => ?_)
                            · exact absurd c_17 (by decide)
                            · refine lv_iconst (v := 0) hx hb d_Model_becomes_63 (by decide) ?_
                              refine lv_goto (tgt := 90) hx hb d_Model_becomes_64 (by decide) ?_
                              refine g_ist (D := (dC, dI)) hx hb hK hP hD hS 1 0 rfl rfl (i := 2) (by decide) (by decide) d_Model_becomes_90 (fun H locs hP hD hS => ?_)
                              have hP : va_P (dC, dI) classes (wM bd cI cZ ((upd (upd j 1 m0) 5 (((j 5) + 1)))) ((upd (upd (upd ac 0 0) 1 0) 2 0)) tx ev on mn pm) H := hP
                              have hD : va_D A (wM bd cI cZ ((upd (upd j 1 m0) 5 (((j 5) + 1)))) ((upd (upd (upd ac 0 0) 1 0) 2 0)) tx ev on mn pm) := hD
                              refine lv_iinc (v := 3) (lv' := [(3, .int 3), (2, .int 1), (0, .ref (bd 0)), (1, .int m0)]) hx hb d_Model_becomes_91 hl (k := 0) rfl (by decide) (by decide) rfl (fun ls hl => ?_)
                              refine lv_goto (tgt := 39) hx hb d_Model_becomes_94 (by decide) ?_
                              refine lv_iload_n hx hb d_Model_becomes_39 rfl (lv_at hl 0 rfl) ?_
                              refine lv_bipush (v := 8) hx hb d_Model_becomes_40 (by decide) ?_
                              refine lv_icmp_ge (tgt := 97) hx hb d_Model_becomes_42 (by decide) (fun c_18 => ?_) (fun c_18 => ?_)
                              · exact absurd c_18 (by decide)
                              · refine lv_iload_n hx hb d_Model_becomes_45 rfl (lv_at hl 1 rfl) ?_
                                refine lv_if_eq (tgt := 97) hx hb d_Model_becomes_46 (by decide) (fun c_19 => ?_) (fun c_19 => ?_)
                                · exact absurd c_19 (by decide)
                                · refine lv_iload_n hx hb d_Model_becomes_49 rfl (lv_at hl 3 rfl) ?_
                                  refine lv_if_ne (tgt := 97) hx hb d_Model_becomes_50 (by decide) (fun c_20 => ?_) (fun c_20 => ?_)
                                  · exact absurd c_8 c_20
                                  · refine lv_aload_n hx hb d_Model_becomes_53 rfl (lv_at hl 2 rfl) ?_
                                    refine va_get (D := (dC, dI)) (ci := 2) (v := .ref (bd 1)) (C := R_Model) (T := F_Model) (N := 12) hx hb hq iw_M hown hK hP 0 rfl rfl 2 (by decide) (hq _ qm_3) (fun _ h9 => h9) rfl d_Model_becomes_54 ?_
                                    refine lv_iload_n hx hb d_Model_becomes_57 rfl (lv_at hl 0 rfl) ?_
                                    refine lv_iload_n hx hb d_Model_becomes_58 rfl (lv_at hl 0 rfl) ?_
                                    refine lv_iconst (v := 4) hx hb d_Model_becomes_59 (by decide) ?_
                                    refine lv_icmp_ge (tgt := 67) hx hb d_Model_becomes_60 (by decide) (fun c_21 => ?_) (fun c_21 => ?_)
                                    · exact absurd c_21 (by decide)
                                    · refine lv_iconst (v := 0) hx hb d_Model_becomes_63 (by decide) ?_
                                      refine lv_goto (tgt := 90) hx hb d_Model_becomes_64 (by decide) ?_
                                      refine g_ist (D := (dC, dI)) hx hb hK hP hD hS 1 0 rfl rfl (i := 3) (by decide) (by decide) d_Model_becomes_90 (fun H locs hP hD hS => ?_)
                                      have hP : va_P (dC, dI) classes (wM bd cI cZ ((upd (upd j 1 m0) 5 (((j 5) + 1)))) ((upd (upd (upd (upd ac 0 0) 1 0) 2 0) 3 0)) tx ev on mn pm) H := hP
                                      have hD : va_D A (wM bd cI cZ ((upd (upd j 1 m0) 5 (((j 5) + 1)))) ((upd (upd (upd (upd ac 0 0) 1 0) 2 0) 3 0)) tx ev on mn pm) := hD
                                      refine lv_iinc (v := 4) (lv' := [(3, .int 4), (2, .int 1), (0, .ref (bd 0)), (1, .int m0)]) hx hb d_Model_becomes_91 hl (k := 0) rfl (by decide) (by decide) rfl (fun ls hl => ?_)
                                      refine lv_goto (tgt := 39) hx hb d_Model_becomes_94 (by decide) ?_
                                      refine lv_iload_n hx hb d_Model_becomes_39 rfl (lv_at hl 0 rfl) ?_
                                      refine lv_bipush (v := 8) hx hb d_Model_becomes_40 (by decide) ?_
                                      refine lv_icmp_ge (tgt := 97) hx hb d_Model_becomes_42 (by decide) (fun c_22 => ?_) (fun c_22 => ?_)
                                      · exact absurd c_22 (by decide)
                                      · refine lv_iload_n hx hb d_Model_becomes_45 rfl (lv_at hl 1 rfl) ?_
                                        refine lv_if_eq (tgt := 97) hx hb d_Model_becomes_46 (by decide) (fun c_23 => ?_) (fun c_23 => ?_)
                                        · exact absurd c_23 (by decide)
                                        · refine lv_iload_n hx hb d_Model_becomes_49 rfl (lv_at hl 3 rfl) ?_
                                          refine lv_if_ne (tgt := 97) hx hb d_Model_becomes_50 (by decide) (fun c_24 => ?_) (fun c_24 => ?_)
                                          · exact absurd c_8 c_24
                                          · refine lv_aload_n hx hb d_Model_becomes_53 rfl (lv_at hl 2 rfl) ?_
                                            refine va_get (D := (dC, dI)) (ci := 2) (v := .ref (bd 1)) (C := R_Model) (T := F_Model) (N := 12) hx hb hq iw_M hown hK hP 0 rfl rfl 2 (by decide) (hq _ qm_3) (fun _ h9 => h9) rfl d_Model_becomes_54 ?_
                                            refine lv_iload_n hx hb d_Model_becomes_57 rfl (lv_at hl 0 rfl) ?_
                                            refine lv_iload_n hx hb d_Model_becomes_58 rfl (lv_at hl 0 rfl) ?_
                                            refine lv_iconst (v := 4) hx hb d_Model_becomes_59 (by decide) ?_
                                            refine lv_icmp_ge (tgt := 67) hx hb d_Model_becomes_60 (by decide) (fun c_25 => ?_) (fun c_25 => ?_)
                                            · refine lv_iload_n hx hb d_Model_becomes_67 rfl (lv_at hl 0 rfl) ?_
                                              refine lv_bipush (v := 6) hx hb d_Model_becomes_68 (by decide) ?_
                                              refine lv_icmp_ge (tgt := 78) hx hb d_Model_becomes_70 (by decide) (fun c_26 => ?_) (fun c_26 => ?_)
                                              · exact absurd c_26 (by decide)
                                              · refine lv_bipush (v := 50) hx hb d_Model_becomes_73 (by decide) ?_
                                                refine lv_goto (tgt := 90) hx hb d_Model_becomes_75 (by decide) ?_
                                                refine g_ist (D := (dC, dI)) hx hb hK hP hD hS 1 0 rfl rfl (i := 4) (by decide) (by decide) d_Model_becomes_90 (fun H locs hP hD hS => ?_)
                                                have hP : va_P (dC, dI) classes (wM bd cI cZ ((upd (upd j 1 m0) 5 (((j 5) + 1)))) ((upd (upd (upd (upd (upd ac 0 0) 1 0) 2 0) 3 0) 4 50)) tx ev on mn pm) H := hP
                                                have hD : va_D A (wM bd cI cZ ((upd (upd j 1 m0) 5 (((j 5) + 1)))) ((upd (upd (upd (upd (upd ac 0 0) 1 0) 2 0) 3 0) 4 50)) tx ev on mn pm) := hD
                                                refine lv_iinc (v := 5) (lv' := [(3, .int 5), (2, .int 1), (0, .ref (bd 0)), (1, .int m0)]) hx hb d_Model_becomes_91 hl (k := 0) rfl (by decide) (by decide) rfl (fun ls hl => ?_)
                                                refine lv_goto (tgt := 39) hx hb d_Model_becomes_94 (by decide) ?_
                                                refine lv_iload_n hx hb d_Model_becomes_39 rfl (lv_at hl 0 rfl) ?_
                                                refine lv_bipush (v := 8) hx hb d_Model_becomes_40 (by decide) ?_
                                                refine lv_icmp_ge (tgt := 97) hx hb d_Model_becomes_42 (by decide) (fun c_27 => ?_) (fun c_27 => ?_)
                                                · exact absurd c_27 (by decide)
                                                · refine lv_iload_n hx hb d_Model_becomes_45 rfl (lv_at hl 1 rfl) ?_
                                                  refine lv_if_eq (tgt := 97) hx hb d_Model_becomes_46 (by decide) (fun c_28 => ?_) (fun c_28 => ?_)
                                                  · exact absurd c_28 (by decide)
                                                  · refine lv_iload_n hx hb d_Model_becomes_49 rfl (lv_at hl 3 rfl) ?_
                                                    refine lv_if_ne (tgt := 97) hx hb d_Model_becomes_50 (by decide) (fun c_29 => ?_) (fun c_29 => ?_)
                                                    · exact absurd c_8 c_29
                                                    · refine lv_aload_n hx hb d_Model_becomes_53 rfl (lv_at hl 2 rfl) ?_
                                                      refine va_get (D := (dC, dI)) (ci := 2) (v := .ref (bd 1)) (C := R_Model) (T := F_Model) (N := 12) hx hb hq iw_M hown hK hP 0 rfl rfl 2 (by decide) (hq _ qm_3) (fun _ h9 => h9) rfl d_Model_becomes_54 ?_
                                                      refine lv_iload_n hx hb d_Model_becomes_57 rfl (lv_at hl 0 rfl) ?_
                                                      refine lv_iload_n hx hb d_Model_becomes_58 rfl (lv_at hl 0 rfl) ?_
                                                      refine lv_iconst (v := 4) hx hb d_Model_becomes_59 (by decide) ?_
                                                      refine lv_icmp_ge (tgt := 67) hx hb d_Model_becomes_60 (by decide) (fun c_30 => ?_) (fun c_30 => ?_)
                                                      · refine lv_iload_n hx hb d_Model_becomes_67 rfl (lv_at hl 0 rfl) ?_
                                                        refine lv_bipush (v := 6) hx hb d_Model_becomes_68 (by decide) ?_
                                                        refine lv_icmp_ge (tgt := 78) hx hb d_Model_becomes_70 (by decide) (fun c_31 => ?_) (fun c_31 => ?_)
                                                        · exact absurd c_31 (by decide)
                                                        · refine lv_bipush (v := 50) hx hb d_Model_becomes_73 (by decide) ?_
                                                          refine lv_goto (tgt := 90) hx hb d_Model_becomes_75 (by decide) ?_
                                                          refine g_ist (D := (dC, dI)) hx hb hK hP hD hS 1 0 rfl rfl (i := 5) (by decide) (by decide) d_Model_becomes_90 (fun H locs hP hD hS => ?_)
                                                          have hP : va_P (dC, dI) classes (wM bd cI cZ ((upd (upd j 1 m0) 5 (((j 5) + 1)))) ((upd (upd (upd (upd (upd (upd ac 0 0) 1 0) 2 0) 3 0) 4 50) 5 50)) tx ev on mn pm) H := hP
                                                          have hD : va_D A (wM bd cI cZ ((upd (upd j 1 m0) 5 (((j 5) + 1)))) ((upd (upd (upd (upd (upd (upd ac 0 0) 1 0) 2 0) 3 0) 4 50) 5 50)) tx ev on mn pm) := hD
                                                          refine lv_iinc (v := 6) (lv' := [(3, .int 6), (2, .int 1), (0, .ref (bd 0)), (1, .int m0)]) hx hb d_Model_becomes_91 hl (k := 0) rfl (by decide) (by decide) rfl (fun ls hl => ?_)
                                                          refine lv_goto (tgt := 39) hx hb d_Model_becomes_94 (by decide) ?_
                                                          refine lv_iload_n hx hb d_Model_becomes_39 rfl (lv_at hl 0 rfl) ?_
                                                          refine lv_bipush (v := 8) hx hb d_Model_becomes_40 (by decide) ?_
                                                          refine lv_icmp_ge (tgt := 97) hx hb d_Model_becomes_42 (by decide) (fun c_32 => ?_) (fun c_32 => ?_)
                                                          · exact absurd c_32 (by decide)
                                                          · refine lv_iload_n hx hb d_Model_becomes_45 rfl (lv_at hl 1 rfl) ?_
                                                            refine lv_if_eq (tgt := 97) hx hb d_Model_becomes_46 (by decide) (fun c_33 => ?_) (fun c_33 => ?_)
                                                            · exact absurd c_33 (by decide)
                                                            · refine lv_iload_n hx hb d_Model_becomes_49 rfl (lv_at hl 3 rfl) ?_
                                                              refine lv_if_ne (tgt := 97) hx hb d_Model_becomes_50 (by decide) (fun c_34 => ?_) (fun c_34 => ?_)
                                                              · exact absurd c_8 c_34
                                                              · refine lv_aload_n hx hb d_Model_becomes_53 rfl (lv_at hl 2 rfl) ?_
                                                                refine va_get (D := (dC, dI)) (ci := 2) (v := .ref (bd 1)) (C := R_Model) (T := F_Model) (N := 12) hx hb hq iw_M hown hK hP 0 rfl rfl 2 (by decide) (hq _ qm_3) (fun _ h9 => h9) rfl d_Model_becomes_54 ?_
                                                                refine lv_iload_n hx hb d_Model_becomes_57 rfl (lv_at hl 0 rfl) ?_
                                                                refine lv_iload_n hx hb d_Model_becomes_58 rfl (lv_at hl 0 rfl) ?_
                                                                refine lv_iconst (v := 4) hx hb d_Model_becomes_59 (by decide) ?_
                                                                refine lv_icmp_ge (tgt := 67) hx hb d_Model_becomes_60 (by decide) (fun c_35 => ?_) (fun c_35 => ?_)
                                                                · refine lv_iload_n hx hb d_Model_becomes_67 rfl (lv_at hl 0 rfl) ?_
                                                                  refine lv_bipush (v := 6) hx hb d_Model_becomes_68 (by decide) ?_
                                                                  refine lv_icmp_ge (tgt := 78) hx hb d_Model_becomes_70 (by decide) (fun c_36 => ?_) (fun c_36 => ?_)
                                                                  · refine lv_iload_n hx hb d_Model_becomes_78 rfl (lv_at hl 0 rfl) ?_
                                                                    refine lv_bipush (v := 6) hx hb d_Model_becomes_79 (by decide) ?_
                                                                    refine lv_icmp_ne (tgt := 89) hx hb d_Model_becomes_81 (by decide) (fun c_37 => ?_) (fun c_37 => ?_)
                                                                    · exact absurd (by decide) c_37
                                                                    · refine lv_bipush (v := 100) hx hb d_Model_becomes_84 (by decide) ?_
                                                                      refine lv_goto (tgt := 90) hx hb d_Model_becomes_86 (by decide) ?_
                                                                      refine g_ist (D := (dC, dI)) hx hb hK hP hD hS 1 0 rfl rfl (i := 6) (by decide) (by decide) d_Model_becomes_90 (fun H locs hP hD hS => ?_)
                                                                      have hP : va_P (dC, dI) classes (wM bd cI cZ ((upd (upd j 1 m0) 5 (((j 5) + 1)))) ((upd (upd (upd (upd (upd (upd (upd ac 0 0) 1 0) 2 0) 3 0) 4 50) 5 50) 6 100)) tx ev on mn pm) H := hP
                                                                      have hD : va_D A (wM bd cI cZ ((upd (upd j 1 m0) 5 (((j 5) + 1)))) ((upd (upd (upd (upd (upd (upd (upd ac 0 0) 1 0) 2 0) 3 0) 4 50) 5 50) 6 100)) tx ev on mn pm) := hD
                                                                      refine lv_iinc (v := 7) (lv' := [(3, .int 7), (2, .int 1), (0, .ref (bd 0)), (1, .int m0)]) hx hb d_Model_becomes_91 hl (k := 0) rfl (by decide) (by decide) rfl (fun ls hl => ?_)
                                                                      refine lv_goto (tgt := 39) hx hb d_Model_becomes_94 (by decide) ?_
                                                                      refine lv_iload_n hx hb d_Model_becomes_39 rfl (lv_at hl 0 rfl) ?_
                                                                      refine lv_bipush (v := 8) hx hb d_Model_becomes_40 (by decide) ?_
                                                                      refine lv_icmp_ge (tgt := 97) hx hb d_Model_becomes_42 (by decide) (fun c_38 => ?_) (fun c_38 => ?_)
                                                                      · exact absurd c_38 (by decide)
                                                                      · refine lv_iload_n hx hb d_Model_becomes_45 rfl (lv_at hl 1 rfl) ?_
                                                                        refine lv_if_eq (tgt := 97) hx hb d_Model_becomes_46 (by decide) (fun c_39 => ?_) (fun c_39 => ?_)
                                                                        · exact absurd c_39 (by decide)
                                                                        · refine lv_iload_n hx hb d_Model_becomes_49 rfl (lv_at hl 3 rfl) ?_
                                                                          refine lv_if_ne (tgt := 97) hx hb d_Model_becomes_50 (by decide) (fun c_40 => ?_) (fun c_40 => ?_)
                                                                          · exact absurd c_8 c_40
                                                                          · refine lv_aload_n hx hb d_Model_becomes_53 rfl (lv_at hl 2 rfl) ?_
                                                                            refine va_get (D := (dC, dI)) (ci := 2) (v := .ref (bd 1)) (C := R_Model) (T := F_Model) (N := 12) hx hb hq iw_M hown hK hP 0 rfl rfl 2 (by decide) (hq _ qm_3) (fun _ h9 => h9) rfl d_Model_becomes_54 ?_
                                                                            refine lv_iload_n hx hb d_Model_becomes_57 rfl (lv_at hl 0 rfl) ?_
                                                                            refine lv_iload_n hx hb d_Model_becomes_58 rfl (lv_at hl 0 rfl) ?_
                                                                            refine lv_iconst (v := 4) hx hb d_Model_becomes_59 (by decide) ?_
                                                                            refine lv_icmp_ge (tgt := 67) hx hb d_Model_becomes_60 (by decide) (fun c_41 => ?_) (fun c_41 => ?_)
                                                                            · refine lv_iload_n hx hb d_Model_becomes_67 rfl (lv_at hl 0 rfl) ?_
                                                                              refine lv_bipush (v := 6) hx hb d_Model_becomes_68 (by decide) ?_
                                                                              refine lv_icmp_ge (tgt := 78) hx hb d_Model_becomes_70 (by decide) (fun c_42 => ?_) (fun c_42 => ?_)
                                                                              · refine lv_iload_n hx hb d_Model_becomes_78 rfl (lv_at hl 0 rfl) ?_
                                                                                refine lv_bipush (v := 6) hx hb d_Model_becomes_79 (by decide) ?_
                                                                                refine lv_icmp_ne (tgt := 89) hx hb d_Model_becomes_81 (by decide) (fun c_43 => ?_) (fun c_43 => ?_)
                                                                                · refine lv_iconst (v := 1) hx hb d_Model_becomes_89 (by decide) ?_
                                                                                  refine g_ist (D := (dC, dI)) hx hb hK hP hD hS 1 0 rfl rfl (i := 7) (by decide) (by decide) d_Model_becomes_90 (fun H locs hP hD hS => ?_)
                                                                                  have hP : va_P (dC, dI) classes (wM bd cI cZ ((upd (upd j 1 m0) 5 (((j 5) + 1)))) ((upd (upd (upd (upd (upd (upd (upd (upd ac 0 0) 1 0) 2 0) 3 0) 4 50) 5 50) 6 100) 7 1)) tx ev on mn pm) H := hP
                                                                                  have hD : va_D A (wM bd cI cZ ((upd (upd j 1 m0) 5 (((j 5) + 1)))) ((upd (upd (upd (upd (upd (upd (upd (upd ac 0 0) 1 0) 2 0) 3 0) 4 50) 5 50) 6 100) 7 1)) tx ev on mn pm) := hD
                                                                                  refine lv_iinc (v := 8) (lv' := [(3, .int 8), (2, .int 1), (0, .ref (bd 0)), (1, .int m0)]) hx hb d_Model_becomes_91 hl (k := 0) rfl (by decide) (by decide) rfl (fun ls hl => ?_)
                                                                                  refine lv_goto (tgt := 39) hx hb d_Model_becomes_94 (by decide) ?_
                                                                                  refine lv_iload_n hx hb d_Model_becomes_39 rfl (lv_at hl 0 rfl) ?_
                                                                                  refine lv_bipush (v := 8) hx hb d_Model_becomes_40 (by decide) ?_
                                                                                  refine lv_icmp_ge (tgt := 97) hx hb d_Model_becomes_42 (by decide) (fun c_44 => ?_) (fun c_44 => ?_)
                                                                                  · refine lv_iload_n hx hb d_Model_becomes_97 rfl (lv_at hl 1 rfl) ?_
                                                                                    have e_j : (mBeJ j m0) = (upd (upd j 1 m0) 5 (((j 5) + 1))) := (by simp only [mBeR, mBeJ, mBeA, if_neg c_1, if_neg c_5, if_neg c_6, if_neg c_7, if_pos c_8, if_neg c_9, if_neg c_10, if_neg c_11, if_pos c_12, if_neg c_13, if_neg c_14, if_neg c_15, if_pos c_16, if_neg c_17, if_neg c_18, if_neg c_19, if_pos c_20, if_neg c_21, if_neg c_22, if_neg c_23, if_pos c_24, if_pos c_25, if_neg c_26, if_neg c_27, if_neg c_28, if_pos c_29, if_pos c_30, if_neg c_31, if_neg c_32, if_neg c_33, if_pos c_34, if_pos c_35, if_pos c_36, if_pos c_37, if_neg c_38, if_neg c_39, if_pos c_40, if_pos c_41, if_pos c_42, if_neg c_43, if_pos c_44] <;> rfl)
                                                                                    have e_ac : (mBeA j ac m0) = (upd (upd (upd (upd (upd (upd (upd (upd ac 0 0) 1 0) 2 0) 3 0) 4 50) 5 50) 6 100) 7 1) := (by simp only [mBeR, mBeJ, mBeA, if_neg c_1, if_neg c_5, if_neg c_6, if_neg c_7, if_pos c_8, if_neg c_9, if_neg c_10, if_neg c_11, if_pos c_12, if_neg c_13, if_neg c_14, if_neg c_15, if_pos c_16, if_neg c_17, if_neg c_18, if_neg c_19, if_pos c_20, if_neg c_21, if_neg c_22, if_neg c_23, if_pos c_24, if_pos c_25, if_neg c_26, if_neg c_27, if_neg c_28, if_pos c_29, if_pos c_30, if_neg c_31, if_neg c_32, if_neg c_33, if_pos c_34, if_pos c_35, if_pos c_36, if_pos c_37, if_neg c_38, if_neg c_39, if_pos c_40, if_pos c_41, if_pos c_42, if_neg c_43, if_pos c_44] <;> rfl)
                                                                                    have hP9 : va_P (dC, dI) classes (wM bd cI cZ ((mBeJ j m0)) ((mBeA j ac m0)) tx ev on mn pm) H := by rw [e_j, e_ac]; exact hP
                                                                                    have hD9 : va_D A (wM bd cI cZ ((mBeJ j m0)) ((mBeA j ac m0)) tx ev on mn pm) := by rw [e_j, e_ac]; exact hD
                                                                                    exact W.zret (v := 1) hx hb hrt rfl (fun t ht hW => ⟨⟨1, (), rfl, (by simp only [mBeR, mBeJ, mBeA, if_neg c_1, if_neg c_5, if_neg c_6, if_neg c_7, if_pos c_8, if_neg c_9, if_neg c_10, if_neg c_11, if_pos c_12, if_neg c_13, if_neg c_14, if_neg c_15, if_pos c_16, if_neg c_17, if_neg c_18, if_neg c_19, if_pos c_20, if_neg c_21, if_neg c_22, if_neg c_23, if_pos c_24, if_pos c_25, if_neg c_26, if_neg c_27, if_neg c_28, if_pos c_29, if_pos c_30, if_neg c_31, if_neg c_32, if_neg c_33, if_pos c_34, if_pos c_35, if_pos c_36, if_pos c_37, if_neg c_38, if_neg c_39, if_pos c_40, if_pos c_41, if_pos c_42, if_neg c_43, if_pos c_44] <;> rfl), by rw [ht]; exact hP9, hD9⟩, hS.F ht⟩) hS.2.2 d_Model_becomes_98
                                                                                  · exact absurd (by decide) c_44
                                                                                · exact absurd c_43 (by decide)
                                                                              · exact absurd (by decide) c_42
                                                                            · exact absurd (by decide) c_41
                                                                  · exact absurd (by decide) c_36
                                                                · exact absurd (by decide) c_35
                                                      · exact absurd (by decide) c_30
                                            · exact absurd (by decide) c_25

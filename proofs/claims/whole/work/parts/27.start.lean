theorem g_Xof {args : Array Value} {s : State} {tm : Term} (harr : (Cond.arrayOf tm .int).before args s = true) (hlen : (Term.length tm).eval args s none [] s = some (.int (Int32.ofNat 8))) (hel : ∀ j : Nat, j < 8 → (Term.elem tm (.int (Int32.ofNat j))).eval args s none [] s = some (.int (kSafe j))) : ∃ t : Nat, tm.eval args s none [] s = some (.ref t) ∧ va_X t 8 kSafe s s.heap ∧ t < s.heap.size := by
  obtain ⟨t, cell, ht, hat, hv⟩ := Term.length_spec hlen
  have hsz : cell.slots.size < 2 ^ 31 := by
    have h1 := hlen
    simp only [Term.eval, ht, hat, Option.bind_eq_bind, Option.bind_some] at h1
    by_cases hlt : cell.slots.size < 2147483648
    · exact hlt
    · simp [hlt] at h1
  obtain ⟨t2, ht2, cell2, h1, h2, h3, h4, h5, h6, -⟩ := va_Tof (A := fun _ => False) (f := fun j => .int (kSafe j)) (N := 8) (by decide) harr hlen hel (fun _ _ h => h)
  cases ht.symm.trans ht2
  obtain ⟨hcell, -, -, -⟩ := State.arrayAt?_spec hat
  cases hcell.symm.trans h1
  have h8 : cell.slots.size = 8 := (nI_eq hsz (by decide)).mp h5
  exact ⟨t, ht, ⟨cell, h1, h2, h3, h8, h6⟩, (Array.getElem?_eq_some_iff.mp h1).1⟩
set_option maxHeartbeats 4000000 in
set_option maxRecDepth 100000 in
theorem whole_start {p : Program} {e : Env} {s : State} {m : MethodId} {below : List Frame} {meth : Method} {c : Code} (l : Launch) {b L : Nat} {xs : Nat → Int32} (hL : L ≤ 1536) (C0 : lw_At p s m meth c b L xs) : W p l e room_1 s m #[Value.ref b] below meth c s.heap [] 0 0 (lw_Z below #[Value.ref b] s) (entryFrame m ([Value.ref b] : List Value).toArray 4) := by
  obtain ⟨hx, hb, hrr, hml, hown, hts, hX, hbl, hlocks, hgv⟩ := id C0
  have hq : ∀ w ∈ wAll, w.before #[Value.ref b] s = true := fun w h => hts w (List.mem_filter.mp h).1
  have hA : ∀ q : Nat, s.heap.size ≤ q → (fun q : Nat => s.heap.size ≤ q) q := fun _ h => h
  have hbA : ¬ (fun q : Nat => s.heap.size ≤ q) b := Nat.not_le.mpr hbl
  have hN : gN s := ⟨va_Nw.of rfl (hts (Cond.fieldLinkNest R_ModeKeeper 65 "ModeKeeper$Form" "there" "Z" "ModeKeeper") (List.mem_of_getElem? (i := 28) rfl)), va_Nw.of rfl (hts (Cond.fieldLinkNest R_ModeKeeper 68 "ModeKeeper$Form" "id" "I" "ModeKeeper") (List.mem_of_getElem? (i := 30) rfl)), va_Nw.of rfl (hts (Cond.fieldLinkNest R_ModeKeeper 71 "ModeKeeper$Form" "every" "I" "ModeKeeper") (List.mem_of_getElem? (i := 32) rfl)), va_Nw.of rfl (hts (Cond.fieldLinkNest R_ModeKeeper 62 "ModeKeeper$Form" "on" "Z" "ModeKeeper") (List.mem_of_getElem? (i := 34) rfl)), va_Nw.of rfl (hts (Cond.fieldLinkNest R_ModeKeeper 78 "ModeKeeper$Form" "count" "I" "ModeKeeper") (List.mem_of_getElem? (i := 36) rfl)), va_Nw.of rfl (hts (Cond.fieldLinkNest R_ModeKeeper 81 "ModeKeeper$Form" "parameters" "[I" "ModeKeeper") (List.mem_of_getElem? (i := 38) rfl)), va_Nw.of rfl (hts (Cond.methodLinkNest R_ModeKeeper 42 y_Form_init "ModeKeeper") (List.mem_of_getElem? (i := 23) rfl)), va_AO.of (hts (Cond.arrayOver (.object "ModeKeeper$Form")) (List.mem_of_getElem? (i := 21) rfl))⟩
  have hs := flat_of_before _ hgv
  obtain ⟨tS, hv, hXS, htS⟩ := g_Xof (tm := (.static "ModeKeeper" "SAFE_ACTUATORS" "[I")) (hs (Cond.arrayOf (.static "ModeKeeper" "SAFE_ACTUATORS" "[I") .int) (by decide +kernel)) (va_eqt (hs (Cond.eq (.length (.static "ModeKeeper" "SAFE_ACTUATORS" "[I")) (.int 8)) (by decide +kernel))) (fun j hj => by
    match j, hj with
    | 0, _ => exact va_eqt (hs (Cond.eq (.elem (.static "ModeKeeper" "SAFE_ACTUATORS" "[I") (.int 0)) (.int 0)) (by decide +kernel))
    | 1, _ => exact va_eqt (hs (Cond.eq (.elem (.static "ModeKeeper" "SAFE_ACTUATORS" "[I") (.int 1)) (.int 0)) (by decide +kernel))
    | 2, _ => exact va_eqt (hs (Cond.eq (.elem (.static "ModeKeeper" "SAFE_ACTUATORS" "[I") (.int 2)) (.int 0)) (by decide +kernel))
    | 3, _ => exact va_eqt (hs (Cond.eq (.elem (.static "ModeKeeper" "SAFE_ACTUATORS" "[I") (.int 3)) (.int 0)) (by decide +kernel))
    | 4, _ => exact va_eqt (hs (Cond.eq (.elem (.static "ModeKeeper" "SAFE_ACTUATORS" "[I") (.int 4)) (.int 50)) (by decide +kernel))
    | 5, _ => exact va_eqt (hs (Cond.eq (.elem (.static "ModeKeeper" "SAFE_ACTUATORS" "[I") (.int 5)) (.int 50)) (by decide +kernel))
    | 6, _ => exact va_eqt (hs (Cond.eq (.elem (.static "ModeKeeper" "SAFE_ACTUATORS" "[I") (.int 6)) (.int 100)) (by decide +kernel))
    | 7, _ => exact va_eqt (hs (Cond.eq (.elem (.static "ModeKeeper" "SAFE_ACTUATORS" "[I") (.int 7)) (.int 1)) (by decide +kernel))
    | n + 8, h => exact absurd h (by omega))
  have hZ : gZ tS (fun q : Nat => s.heap.size ≤ q) s s.heap := ⟨va_Zref (hts (Cond.laysStatic "ModeKeeper" "SAFE_ACTUATORS" "[I") (List.mem_of_getElem? (i := 97) rfl)) (hq _ qk_10) hv (fun a h => Nat.not_le.mpr h), hXS, htS, Nat.not_le.mpr htS⟩
  obtain ⟨c0, iS0, hKn0⟩ := u_known (C := R_ModeKeeper) (T := F_ModeKeeper) (N := 9) (n := 9) hq iw_K (hq _ ql_72)
  obtain ⟨c1, iS1, hKn1⟩ := u_known (C := R_Form) (T := F_Form) (N := 6) (n := 6) hq iw_F (hq _ qk_43)
  obtain ⟨c2, iS2, hKn2⟩ := u_known (C := R_Model) (T := F_Model) (N := 12) (n := 12) hq iw_M (hq _ ql_73)
  obtain ⟨dC, dI, hKc⟩ : ∃ (dC : Nat → ClassId) (dI : Nat → Nat → Nat), ∀ (k : Nat) (q : vw_C), classes[k]? = some q → u_Kn s q.1 q.2.1 q.2.2 (dC k) (dI k) := by
    refine ⟨fun k => if k = 0 then c0 else if k = 1 then c1 else c2, fun k => if k = 0 then iS0 else if k = 1 then iS1 else iS2, ?_⟩
    intro k q hq
    match k, hq with
    | 0, hq => cases hq; exact hKn0
    | 1, hq => cases hq; exact hKn1
    | 2, hq => cases hq; exact hKn2
    | k + 3, hq => simp [classes] at hq
  have hS : va_S (fun q : Nat => s.heap.size ≤ q) s.heap s.heap [] := va_S.rf
  have hK : va_K (dC, dI) classes [] s := ⟨hKc, fun k q h => by simp at h⟩
  have hP : va_P (dC, dI) classes [] s.heap := fun k q h => by simp at h
  have hD : va_D (fun q : Nat => s.heap.size ≤ q) [] := ⟨fun i j p q h => by simp at h, fun k q h => by simp at h⟩
  have hl := lv_entry ([.ref b]) (n := 4) (Nat.le_of_ble_eq_true rfl)
  rw [lg_entry_eq]
  generalize (lg_sl ([.ref b]) ++ List.replicate (4 - (lg_sl ([.ref b])).length) Slot.unset).toArray = ls at hl ⊢
  have hl : lv_has ls 4 [(0, .ref b)] := hl
  refine va_new (D := (dC, dI)) (ci := 0) (fs := [.null, .int 0, .int 0, .int 0, .int 0, .null, .int 0, .null, .int 0]) (C := R_ModeKeeper) (T := F_ModeKeeper) (N := 9) hx hb hq iw_K t_ModeKeeper t_ModeKeeper_ok hown (hq _ ql_74) (hq _ ql_72) (hq _ qk_10) hK hP hD hS hA rfl (fun j hj => by rcases (show j = 0 ∨ j = 1 ∨ j = 2 ∨ j = 3 ∨ j = 4 ∨ j = 5 ∨ j = 6 ∨ j = 7 ∨ j = 8 by omega) with rfl | rfl | rfl | rfl | rfl | rfl | rfl | rfl | rfl <;> rfl) (Nat.le_of_ble_eq_true rfl) (Nat.le_of_ble_eq_true rfl) d_law_0 (fun q0 H hP hD hS => ?_)
  have hP : va_P (dC, dI) classes [(q0, .inr (0, [.null, .int 0, .int 0, .int 0, .int 0, .null, .int 0, .null, .int 0]))] H := hP
  have hD : va_D (fun q : Nat => s.heap.size ≤ q) [(q0, .inr (0, [.null, .int 0, .int 0, .int 0, .int 0, .null, .int 0, .null, .int 0]))] := hD
  refine W.widen (k := 1) (n := 9) (by omega) (by omega) ?_
  refine lv_dup hx hb d_law_3 rfl ?_
  have hFc := g_free hD hS hA
  refine va_callv (va_runI (As := []) (rest := [.ref q0]) ⟨hx, hb, hml, hown, hq⟩ (c_ModeKeeper_init l dC dI q0 H.size) ⟨callB_of 0 hq (gd m_ModeKeeper_init) rfl rfl rfl (hq _ qk_10) (hq _ ql_75) (by decide +kernel) ⟨Nat.le_of_ble_eq_true rfl, Nat.le_of_ble_eq_true rfl⟩, rfl, (hq _ ql_76)⟩ ⟨g_blind, g_pre hP hK hD hN⟩ rfl rfl hl.1 rfl (lv_room (Nat.le_of_ble_eq_true rfl)) d_law_4 ⟨Nat.le_of_ble_eq_true rfl, Nat.le_of_ble_eq_true rfl⟩) hS (fun q _ h => hFc q h) hFc (fun u t H1 locs ht hvm hw hB hz1 hk1 hS => ?_)
  obtain ⟨ad, cI, cF⟩ := u
  obtain ⟨⟨hP1, hD1⟩, hK1⟩ := hB
  rw [ht] at hP1
  have hKK : va_K (dC, dI) classes (tyK cI cF) s := va_K.moved hvm.symm hK1
  have hw : ad 0 = q0 := hw
  have hD2 : va_D (fun q : Nat => s.heap.size ≤ q) (wK ad cI cF kK0 (fun _ => 0) (fun _ => 0) kF0 (fun _ _ => 0)) := hD1.weaken (fun _ _ _ h => hFc _ h)
  have hP2 : va_P (dC, dI) classes (wK ad cI cF kK0 (fun _ => 0) (fun _ => 0) kF0 (fun _ _ => 0)) H1 := hP1
  subst hw
  clear hP hD hFc hP1 hD1
  generalize H1 = H at hP2 hS ⊢
  have hP := hP2
  have hD := hD2
  refine W.widen (k := 20) (n := 145) (by omega) (by omega) ?_
  refine lv_astore_n (lv' := [(1, .ref (ad 0)), (0, .ref b)]) hx hb d_law_7 rfl hl (by decide) rfl (fun ls hl => ?_)
  refine va_new (D := (dC, dI)) (ci := 2) (fs := [.int 0, .int 0, .null, .int 0, .int 0, .int 0, .int 0, .null, .null, .null, .null, .null]) (C := R_Model) (T := F_Model) (N := 12) hx hb hq iw_M t_Model t_Model_ok hown (hq _ ql_77) (hq _ ql_73) (hq _ qm_5) hKK hP hD hS hA rfl (fun j hj => by rcases (show j = 0 ∨ j = 1 ∨ j = 2 ∨ j = 3 ∨ j = 4 ∨ j = 5 ∨ j = 6 ∨ j = 7 ∨ j = 8 ∨ j = 9 ∨ j = 10 ∨ j = 11 by omega) with rfl | rfl | rfl | rfl | rfl | rfl | rfl | rfl | rfl | rfl | rfl | rfl <;> rfl) (Nat.le_of_ble_eq_true rfl) (Nat.le_of_ble_eq_true rfl) d_law_8 (fun q1 H hP hD hS => ?_)
  refine W.widen (k := 21) (n := 157) (by omega) (by omega) ?_
  refine lv_dup hx hb d_law_11 rfl ?_
  have hPc := g_PR hP
  have hDc := g_DR hD
  have hFc := g_free hDc hS hA
  refine va_callv (va_runI (As := []) (rest := [.ref q1]) ⟨hx, hb, hml, hown, hq⟩ (c_Model_init l dC dI q1 H.size cI) ⟨callB_of 0 hq (gd m_Model_init) rfl rfl rfl (hq _ qm_5) (hq _ ql_78) (by decide +kernel) ⟨Nat.le_of_ble_eq_true rfl, Nat.le_of_ble_eq_true rfl⟩, rfl, (hq _ ql_79)⟩ ⟨g_blind, g_pre hPc (hKK.sub (tys' := [(cI, .int)]) [0] rfl) hDc hN⟩ rfl rfl hl.1 rfl (lv_room (Nat.le_of_ble_eq_true rfl)) d_law_12 ⟨Nat.le_of_ble_eq_true rfl, Nat.le_of_ble_eq_true rfl⟩) hS (fun q _ h => hFc q h) hFc (fun u t H1 locs ht hvm hw hB hz1 hk1 hS => ?_)
  obtain ⟨bd, cZ⟩ := u
  obtain ⟨⟨hP1, hD1⟩, hK1⟩ := hB
  rw [ht] at hP1
  have hKM : va_K (dC, dI) classes (tyM cI cZ) s := va_K.moved hvm.symm hK1
  have hw : bd 0 = q1 := hw
  obtain ⟨hPK, hDs⟩ := g_keep (g_PL hP) (g_swap hD) hFc hk1 hD1
  have hD3 := g_swap hDs
  have hPM : va_P (dC, dI) classes (wM bd cI cZ mJ0 (fun _ => 0) (fun _ => 0) (fun _ => 0) (fun _ => 0) (fun _ => 0) (fun _ => 0)) H1 := hP1
  subst hw
  refine W.widen (k := 600000) (n := 7302250) (by omega) (by omega) ?_
  refine lv_astore_n (lv' := [(2, .ref (bd 0)), (1, .ref (ad 0)), (0, .ref b)]) hx hb d_law_15 rfl hl (by decide) rfl (fun ls hl => ?_)
  refine lv_iconst (v := 0) hx hb d_law_16 (by decide) ?_
  refine lv_istore_n (lv' := [(3, .int 0), (2, .ref (bd 0)), (1, .ref (ad 0)), (0, .ref b)]) hx hb d_law_17 rfl hl (by decide) rfl (fun ls hl => ?_)
  exact law_loop hL C0 hN hZ hKK hKM (L + 1) 0 (Nat.zero_le L) (by omega) _ _ _ _ _ _ _ _ _ _ _ _ Rl_0 H1 locs hPK hPM hD3 hS ls (lv_sub hl [3, 2, 1, 0] rfl)

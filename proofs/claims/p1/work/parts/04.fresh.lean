set_option maxHeartbeats 4000000 in
set_option maxRecDepth 100000 in
theorem kJ_floorMod0 (l : Launch) (dC : Nat → ClassId) (dI : Nat → Nat → Nat) : Met l yJ9_floorMod_7cf53 wsJ9_floorMod_7cf53 ({ frames := 0, cells := 0, slots := 0, locals := 0 }) (va_Pc [.int 0, .int 12] (fun _ => True)) (vp_Si (fun r : Int32 => r = 0)) 0 0 (fun _ => False) := by
  refine va_MetF (cc := cJ9_floorMod_7cf53) (maxL := 3) (ret := (some .int)) (by decide +kernel) rfl ?_
  intro p e s m args below meth c s₁ B hml hv
  obtain ⟨rfl, -⟩ := hv
  have hx := B.exec
  have hb := B.bytes
  have hr := B.returns
  have hts := atoms_spec (ws := wsJ9_floorMod_7cf53) B.pre
  have hown : s.vm.findClass RJ9 = some m.cls := findClass_of_methodNamed B.named
  have hlocks := B.notSynchronized
  have hl := lv_entry ([.int 0, .int 12]) (n := 3) (Nat.le_of_ble_eq_true rfl)
  rw [lg_entry_eq]
  generalize (lg_sl ([.int 0, .int 12]) ++ List.replicate (3 - (lg_sl ([.int 0, .int 12])).length) Slot.unset).toArray = ls at hl ⊢
  have hl : lv_has ls 3 [(0, .int 0), (1, .int 12)] := hl
  refine lv_iload_n hx hb dJ9_floorMod_7cf53_0 rfl (lv_at hl 0 rfl) ?_
  refine lv_iload_n hx hb dJ9_floorMod_7cf53_1 rfl (lv_at hl 1 rfl) ?_
  refine lv_irem hx hb dJ9_floorMod_7cf53_2 (by decide) ?_
  refine W.eq (g2 := F0 m 3 ls [.int 0]) rfl ?_
  refine lv_istore_n (lv' := [(2, .int 0), (0, .int 0), (1, .int 12)]) hx hb dJ9_floorMod_7cf53_3 rfl hl (by decide) rfl (fun ls hl => ?_)
  refine lv_iload_n hx hb dJ9_floorMod_7cf53_4 rfl (lv_at hl 1 rfl) ?_
  refine lv_iload_n hx hb dJ9_floorMod_7cf53_5 rfl (lv_at hl 2 rfl) ?_
  refine lv_ixor hx hb dJ9_floorMod_7cf53_6 ?_
  refine W.eq (g2 := F0 m 7 ls [.int 12]) rfl ?_
  refine lv_if_ge (tgt := 18) hx hb dJ9_floorMod_7cf53_7 (by decide) (fun c1 => ?_) (fun c1 => absurd c1 (by decide))
  refine lv_iload_n hx hb dJ9_floorMod_7cf53_18 rfl (lv_at hl 0 rfl) ?_
  exact W.iret (v := 0) hx hb hr (fun t ht hW => ⟨0, rfl, by (first | rfl | assumption | decide | (simp_all; done) | grind), ht⟩) (fun _ h => nomatch h) dJ9_floorMod_7cf53_19

set_option maxHeartbeats 4000000 in
set_option maxRecDepth 100000 in
theorem k1_roofAt0 (l : Launch) (dC : Nat → ClassId) (dI : Nat → Nat → Nat) (h : Nat) (ro : Nat) (ba : Nat) (ra : Nat) (su : Nat) (tr : Nat) (cR : ClassId) (x : Int32) : Met l yX1_roofAt wsX1_roofAt ({ frames := 1, cells := 0, slots := 0, locals := 22 }) (va_Pc [.ref h, .int x] (fun U => va_P (dC, dI) vwCl [(h, .inr (1, [.ref ro, .int 0, .ref ba, .ref ra, .ref su, .int 0, .ref tr])), (ro, .inl (cR, 6, .inr (.inr (.inr (.inr (fun _ => none))))))] U.heap ∧ va_K (dC, dI) vwCl [(cR, .object RX0)] U)) (va_Sq (fun r : Option Nat => r = none)) 0 0 (fun _ => False) := by
  refine Met.ofW (cc := cX1_roofAt) (maxL := 2) (ret := (some (.object "ThatchRoof$Roof"))) (by decide) rfl ?_
  intro p e s m args below meth c s₁ B hml hv
  obtain ⟨rfl, hP, hK⟩ := hv
  have hx := B.exec
  have hb := B.bytes
  have hr := B.returns
  have hts := atoms_spec (ws := wsX1_roofAt) B.pre
  have hown : s.vm.findClass RX1 = some m.cls := findClass_of_methodNamed B.named
  have hlocks := B.notSynchronized
  have hP : va_P (dC, dI) vwCl [(h, .inr (1, [.ref ro, .int 0, .ref ba, .ref ra, .ref su, .int 0, .ref tr])), (ro, .inl (cR, 6, .inr (.inr (.inr (.inr (fun _ => none))))))] s.heap := hP
  have hl := lv_entry ([.ref h, .int x]) (n := 2) (Nat.le_of_ble_eq_true rfl)
  rw [lg_entry_eq]
  generalize (lg_sl ([.ref h, .int x]) ++ List.replicate (2 - (lg_sl ([.ref h, .int x])).length) Slot.unset).toArray = ls at hl ⊢
  have hl : lv_has ls 2 [(0, .ref h), (1, .int x)] := hl
  refine lv_iload_n hx hb dX1_roofAt_0 rfl (lv_at hl 1 rfl) ?_
  refine lv_iconst (v := 0) hx hb dX1_roofAt_1 (by decide) ?_
  refine lv_iconst (v := 5) hx hb dX1_roofAt_2 (by decide) ?_
  refine vp_callSi (va_runS (As := [.int x, .int 0, .int 5]) (rest := []) ⟨hx, hb, hml, hown, hts⟩ (k1_isWithin l dC dI x 0 5 ) (va_cwS 3 hts gX1_roofAt_X1_isWithin rfl rfl rfl (by decide +kernel) ⟨Nat.le_of_ble_eq_true rfl, Nat.le_of_ble_eq_true rfl⟩) ⟨fun a U g mk q => q, fun U hU hW => ⟨rfl, trivial⟩⟩ rfl rfl hl.1 rfl (lv_room (Nat.le_of_ble_eq_true rfl)) dX1_roofAt_3 ⟨Nat.le_of_ble_eq_true rfl, Nat.le_of_ble_eq_true rfl⟩).run (fun r1 hr1 => ?_)
  rcases hr1 with ⟨rfl, fr1_0_0⟩ | ⟨rfl, fr1_1_0⟩
  · refine lv_if_eq (tgt := 18) hx hb dX1_roofAt_6 (by decide) (fun c2 => absurd c2 (by decide)) (fun c2 => ?_)
    refine lv_aload_n hx hb dX1_roofAt_9 rfl (lv_at hl 0 rfl) ?_
    refine va_get (D := (dC, dI)) (ci := 1) (v := .ref ro) (C := RX1) (T := TX1) (N := 7) hx hb hts (by decide +kernel) hown hK hP 0 rfl rfl 0 (by decide) (hts (.fieldLink RX1 11 "ThatchRoof" "roofs" "[LThatchRoof$Roof;") (by decide +kernel)) (fun _ h9 => h9) rfl dX1_roofAt_10 ?_
    refine lv_iload_n hx hb dX1_roofAt_13 rfl (lv_at hl 1 rfl) ?_
    refine va_aldq hx hb hK hP 1 0 rfl rfl (zIn_in (hi := 5) (by assumption) (by decide)) dX1_roofAt_14 ?_
    refine W.eq (g2 := F0 m 15 ls [.null]) rfl ?_
    refine lv_goto (tgt := 19) hx hb dX1_roofAt_15 (by decide) ?_
    exact W.aret (v := .null) hx hb hr (Or.inl ⟨_, rfl⟩) (Or.inl rfl) (fun t ht hW => ⟨none, rfl, by (first | rfl | assumption | decide | (simp_all; done) | grind), ht⟩) (fun _ h => nomatch h) dX1_roofAt_19
  · refine lv_if_eq (tgt := 18) hx hb dX1_roofAt_6 (by decide) (fun c3 => ?_) (fun c3 => absurd c3 (by decide))
    refine lv_null hx hb dX1_roofAt_18 ?_
    exact W.aret (v := .null) hx hb hr (Or.inl ⟨_, rfl⟩) (Or.inl rfl) (fun t ht hW => ⟨none, rfl, by (first | rfl | assumption | decide | (simp_all; done) | grind), ht⟩) (fun _ h => nomatch h) dX1_roofAt_19

set_option maxHeartbeats 4000000 in
set_option maxRecDepth 100000 in
theorem k1_monthOfYear0 (l : Launch) (dC : Nat → ClassId) (dI : Nat → Nat → Nat) (h : Nat) (ro : Nat) (ba : Nat) (ra : Nat) (su : Nat) (tr : Nat) : Met l yX1_monthOfYear wsX1_monthOfYear ({ frames := 1, cells := 0, slots := 0, locals := 22 }) (va_Pc [.ref h, .int 0] (fun U => va_P (dC, dI) vwCl [(h, .inr (1, [.ref ro, .int 0, .ref ba, .ref ra, .ref su, .int 0, .ref tr]))] U.heap ∧ va_K (dC, dI) vwCl [] U)) (vp_Si (fun r : Int32 => r = 0)) 0 0 (fun _ => False) := by
  refine Met.ofW (cc := cX1_monthOfYear) (maxL := 2) (ret := (some .int)) (by decide) rfl ?_
  intro p e s m args below meth c s₁ B hml hv
  obtain ⟨rfl, hP, hK⟩ := hv
  have hx := B.exec
  have hb := B.bytes
  have hr := B.returns
  have hts := atoms_spec (ws := wsX1_monthOfYear) B.pre
  have hown : s.vm.findClass RX1 = some m.cls := findClass_of_methodNamed B.named
  have hlocks := B.notSynchronized
  have hP : va_P (dC, dI) vwCl [(h, .inr (1, [.ref ro, .int 0, .ref ba, .ref ra, .ref su, .int 0, .ref tr]))] s.heap := hP
  have hl := lv_entry ([.ref h, .int 0]) (n := 2) (Nat.le_of_ble_eq_true rfl)
  rw [lg_entry_eq]
  generalize (lg_sl ([.ref h, .int 0]) ++ List.replicate (2 - (lg_sl ([.ref h, .int 0])).length) Slot.unset).toArray = ls at hl ⊢
  have hl : lv_has ls 2 [(0, .ref h), (1, .int 0)] := hl
  refine lv_aload_n hx hb dX1_monthOfYear_0 rfl (lv_at hl 0 rfl) ?_
  refine va_get (D := (dC, dI)) (ci := 1) (v := .int 0) (C := RX1) (T := TX1) (N := 7) hx hb hts (by decide +kernel) hown hK hP 0 rfl rfl 5 (by decide) (hts (.fieldLink RX1 155 "ThatchRoof" "month" "I") (by decide +kernel)) (fun _ h9 => h9) rfl dX1_monthOfYear_1 ?_
  refine lv_iload_n hx hb dX1_monthOfYear_4 rfl (lv_at hl 1 rfl) ?_
  refine lv_iadd hx hb dX1_monthOfYear_5 ?_
  refine W.eq (g2 := F0 m 6 ls [.int 0]) rfl ?_
  refine lv_bipush (v := 12) hx hb dX1_monthOfYear_6 (by decide) ?_
  refine vp_callSi (va_runS (As := [.int 0, .int 12]) (rest := []) ⟨hx, hb, hml, hown, hts⟩ (kJ_floorMod0 l dC dI  ) (va_cwS 2 hts gX1_monthOfYear_J9_floorMod_7cf53 rfl rfl rfl (by decide +kernel) ⟨Nat.le_of_ble_eq_true rfl, Nat.le_of_ble_eq_true rfl⟩) ⟨fun a U g mk q => q, fun U hU hW => ⟨rfl, trivial⟩⟩ rfl rfl hl.1 rfl (lv_room (Nat.le_of_ble_eq_true rfl)) dX1_monthOfYear_8 ⟨Nat.le_of_ble_eq_true rfl, Nat.le_of_ble_eq_true rfl⟩).run (fun r1 hr1 => ?_)
  obtain rfl := hr1
  exact W.iret (v := 0) hx hb hr (fun t ht hW => ⟨0, rfl, by (first | rfl | assumption | decide | (simp_all; done) | grind), ht⟩) (fun _ h => nomatch h) dX1_monthOfYear_11

set_option maxHeartbeats 4000000 in
set_option maxRecDepth 100000 in
theorem k1_rainAhead0 (l : Launch) (dC : Nat → ClassId) (dI : Nat → Nat → Nat) (h : Nat) (ro : Nat) (ba : Nat) (ra : Nat) (su : Nat) (tr : Nat) (cA : ClassId) (fr : Nat → Int32) (hra : ∀ j : Nat, j < 12 → fr j = 4) : Met l yX1_rainAhead wsX1_rainAhead ({ frames := 2, cells := 0, slots := 0, locals := 43 }) (va_Pc [.ref h, .int 0] (fun U => va_P (dC, dI) vwCl [(h, .inr (1, [.ref ro, .int 0, .ref ba, .ref ra, .ref su, .int 0, .ref tr])), (ra, .inl (cA, 12, .inl fr))] U.heap ∧ va_K (dC, dI) vwCl [(cA, .int)] U)) (vp_Si (fun r : Int32 => r = 4)) 0 0 (fun _ => False) := by
  refine Met.ofW (cc := cX1_rainAhead) (maxL := 2) (ret := (some .int)) (by decide) rfl ?_
  intro p e s m args below meth c s₁ B hml hv
  obtain ⟨rfl, hP, hK⟩ := hv
  have hx := B.exec
  have hb := B.bytes
  have hr := B.returns
  have hts := atoms_spec (ws := wsX1_rainAhead) B.pre
  have hown : s.vm.findClass RX1 = some m.cls := findClass_of_methodNamed B.named
  have hlocks := B.notSynchronized
  have hP : va_P (dC, dI) vwCl [(h, .inr (1, [.ref ro, .int 0, .ref ba, .ref ra, .ref su, .int 0, .ref tr])), (ra, .inl (cA, 12, .inl fr))] s.heap := hP
  have hl := lv_entry ([.ref h, .int 0]) (n := 2) (Nat.le_of_ble_eq_true rfl)
  rw [lg_entry_eq]
  generalize (lg_sl ([.ref h, .int 0]) ++ List.replicate (2 - (lg_sl ([.ref h, .int 0])).length) Slot.unset).toArray = ls at hl ⊢
  have hl : lv_has ls 2 [(0, .ref h), (1, .int 0)] := hl
  refine lv_aload_n hx hb dX1_rainAhead_0 rfl (lv_at hl 0 rfl) ?_
  refine va_get (D := (dC, dI)) (ci := 1) (v := .ref ra) (C := RX1) (T := TX1) (N := 7) hx hb hts (by decide +kernel) hown hK hP 0 rfl rfl 3 (by decide) (hts (.fieldLink RX1 19 "ThatchRoof" "rains" "[I") (by decide +kernel)) (fun _ h9 => h9) rfl dX1_rainAhead_1 ?_
  refine lv_aload_n hx hb dX1_rainAhead_4 rfl (lv_at hl 0 rfl) ?_
  refine lv_iload_n hx hb dX1_rainAhead_5 rfl (lv_at hl 1 rfl) ?_
  have hPc := hP.sub (ws' := [(h, .inr (1, [.ref ro, .int 0, .ref ba, .ref ra, .ref su, .int 0, .ref tr]))]) [0] rfl
  have hKc := hK.sub (tys' := []) [] rfl
  refine vp_callSi (va_runV (As := [.int 0]) (rest := [.ref ra]) ⟨hx, hb, hml, hown, hts⟩ (k1_monthOfYear0 l dC dI h ro ba ra su tr ) (cwV 1 hts gX1_rainAhead_X1_monthOfYear rfl rfl rfl (by decide +kernel) ⟨Nat.le_of_ble_eq_true rfl, Nat.le_of_ble_eq_true rfl⟩) ⟨fun a U g mk q => by obtain ⟨q0, qP, qK⟩ := q; exact ⟨q0, qP, va_K.moved (u := U) (U := U.calling g mk a) (Vm.Alike.refl U.vm) qK⟩, va_recv hKc hPc (ci := 1) (q0 := 0) rfl rfl, fun U hU hW => ⟨rfl, by rw [hU]; exact hPc, va_K.moved hW.alike hKc⟩⟩ rfl rfl hl.1 rfl (lv_room (Nat.le_of_ble_eq_true rfl)) dX1_rainAhead_6 ⟨Nat.le_of_ble_eq_true rfl, Nat.le_of_ble_eq_true rfl⟩).run (fun r1 hr1 => ?_)
  obtain rfl := hr1
  refine va_iald hx hb hK hP 1 0 rfl rfl (vp_in_nI (n := 0) (by decide) (by decide)) dX1_rainAhead_9 ?_
  refine lv_topi (fun x2 ex2 => ?_)
  obtain rfl : x2 = 4 := ex2.trans (hra 0 (by decide))
  exact W.iret (v := 4) hx hb hr (fun t ht hW => ⟨4, rfl, by (first | rfl | assumption | decide | (simp_all; done) | grind), ht⟩) (fun _ h => nomatch h) dX1_rainAhead_10

set_option maxHeartbeats 4000000 in
set_option maxRecDepth 100000 in
theorem k1_stormAhead0 (l : Launch) (dC : Nat → ClassId) (dI : Nat → Nat → Nat) (h : Nat) (ro : Nat) (ba : Nat) (ra : Nat) (su : Nat) (tr : Nat) (cS : ClassId) : Met l yX1_stormAhead wsX1_stormAhead ({ frames := 2, cells := 0, slots := 0, locals := 43 }) (va_Pc [.ref h, .int 0] (fun U => va_P (dC, dI) vwCl [(h, .inr (1, [.ref ro, .int 0, .ref ba, .ref ra, .ref su, .int 0, .ref tr])), (su, .inl (cS, 12, .inl (fun _ => 0)))] U.heap ∧ va_K (dC, dI) vwCl [(cS, .int)] U)) (vp_Si (fun r : Int32 => r = 0)) 0 0 (fun _ => False) := by
  refine Met.ofW (cc := cX1_stormAhead) (maxL := 2) (ret := (some .int)) (by decide) rfl ?_
  intro p e s m args below meth c s₁ B hml hv
  obtain ⟨rfl, hP, hK⟩ := hv
  have hx := B.exec
  have hb := B.bytes
  have hr := B.returns
  have hts := atoms_spec (ws := wsX1_stormAhead) B.pre
  have hown : s.vm.findClass RX1 = some m.cls := findClass_of_methodNamed B.named
  have hlocks := B.notSynchronized
  have hP : va_P (dC, dI) vwCl [(h, .inr (1, [.ref ro, .int 0, .ref ba, .ref ra, .ref su, .int 0, .ref tr])), (su, .inl (cS, 12, .inl (fun _ => 0)))] s.heap := hP
  have hl := lv_entry ([.ref h, .int 0]) (n := 2) (Nat.le_of_ble_eq_true rfl)
  rw [lg_entry_eq]
  generalize (lg_sl ([.ref h, .int 0]) ++ List.replicate (2 - (lg_sl ([.ref h, .int 0])).length) Slot.unset).toArray = ls at hl ⊢
  have hl : lv_has ls 2 [(0, .ref h), (1, .int 0)] := hl
  refine lv_aload_n hx hb dX1_stormAhead_0 rfl (lv_at hl 0 rfl) ?_
  refine va_get (D := (dC, dI)) (ci := 1) (v := .ref su) (C := RX1) (T := TX1) (N := 7) hx hb hts (by decide +kernel) hown hK hP 0 rfl rfl 4 (by decide) (hts (.fieldLink RX1 22 "ThatchRoof" "storms" "[I") (by decide +kernel)) (fun _ h9 => h9) rfl dX1_stormAhead_1 ?_
  refine lv_aload_n hx hb dX1_stormAhead_4 rfl (lv_at hl 0 rfl) ?_
  refine lv_iload_n hx hb dX1_stormAhead_5 rfl (lv_at hl 1 rfl) ?_
  have hPc := hP.sub (ws' := [(h, .inr (1, [.ref ro, .int 0, .ref ba, .ref ra, .ref su, .int 0, .ref tr]))]) [0] rfl
  have hKc := hK.sub (tys' := []) [] rfl
  refine vp_callSi (va_runV (As := [.int 0]) (rest := [.ref su]) ⟨hx, hb, hml, hown, hts⟩ (k1_monthOfYear0 l dC dI h ro ba ra su tr ) (cwV 1 hts gX1_stormAhead_X1_monthOfYear rfl rfl rfl (by decide +kernel) ⟨Nat.le_of_ble_eq_true rfl, Nat.le_of_ble_eq_true rfl⟩) ⟨fun a U g mk q => by obtain ⟨q0, qP, qK⟩ := q; exact ⟨q0, qP, va_K.moved (u := U) (U := U.calling g mk a) (Vm.Alike.refl U.vm) qK⟩, va_recv hKc hPc (ci := 1) (q0 := 0) rfl rfl, fun U hU hW => ⟨rfl, by rw [hU]; exact hPc, va_K.moved hW.alike hKc⟩⟩ rfl rfl hl.1 rfl (lv_room (Nat.le_of_ble_eq_true rfl)) dX1_stormAhead_6 ⟨Nat.le_of_ble_eq_true rfl, Nat.le_of_ble_eq_true rfl⟩).run (fun r1 hr1 => ?_)
  obtain rfl := hr1
  refine va_iald hx hb hK hP 1 0 rfl rfl (vp_in_nI (n := 0) (by decide) (by decide)) dX1_stormAhead_9 ?_
  refine lv_topi (fun x2 ex2 => ?_)
  obtain rfl : x2 = 0 := ex2
  exact W.iret (v := 0) hx hb hr (fun t ht hW => ⟨0, rfl, by (first | rfl | assumption | decide | (simp_all; done) | grind), ht⟩) (fun _ h => nomatch h) dX1_stormAhead_10

set_option maxHeartbeats 4000000 in
set_option maxRecDepth 100000 in
theorem k1_tallyOfRoofs0 (l : Launch) (dC : Nat → ClassId) (dI : Nat → Nat → Nat) (h : Nat) (ro : Nat) (ba : Nat) (ra : Nat) (su : Nat) (tr : Nat) (cR : ClassId) (x : Int32) : Met l yX1_tallyOfRoofs wsX1_tallyOfRoofs ({ frames := 0, cells := 0, slots := 0, locals := 0 }) (va_Pc [.ref h, .int x] (fun U => va_P (dC, dI) vwCl [(h, .inr (1, [.ref ro, .int 0, .ref ba, .ref ra, .ref su, .int 0, .ref tr])), (ro, .inl (cR, 6, .inr (.inr (.inr (.inr (fun _ => none))))))] U.heap ∧ va_K (dC, dI) vwCl [(cR, .object RX0)] U)) (vp_Si (fun r : Int32 => r = 0)) 0 0 (fun _ => False) := by
  refine Met.ofW (cc := cX1_tallyOfRoofs) (maxL := 5) (ret := (some .int)) (by decide) rfl ?_
  intro p e s m args below meth c s₁ B hml hv
  obtain ⟨rfl, hP, hK⟩ := hv
  have hx := B.exec
  have hb := B.bytes
  have hr := B.returns
  have hts := atoms_spec (ws := wsX1_tallyOfRoofs) B.pre
  have hown : s.vm.findClass RX1 = some m.cls := findClass_of_methodNamed B.named
  have hlocks := B.notSynchronized
  have hP : va_P (dC, dI) vwCl [(h, .inr (1, [.ref ro, .int 0, .ref ba, .ref ra, .ref su, .int 0, .ref tr])), (ro, .inl (cR, 6, .inr (.inr (.inr (.inr (fun _ => none))))))] s.heap := hP
  have hl := lv_entry ([.ref h, .int x]) (n := 5) (Nat.le_of_ble_eq_true rfl)
  rw [lg_entry_eq]
  generalize (lg_sl ([.ref h, .int x]) ++ List.replicate (5 - (lg_sl ([.ref h, .int x])).length) Slot.unset).toArray = ls at hl ⊢
  have hl : lv_has ls 5 [(0, .ref h), (1, .int x)] := hl
  refine lv_iconst (v := 0) hx hb dX1_tallyOfRoofs_0 (by decide) ?_
  refine lv_istore_n (lv' := [(2, .int 0), (0, .ref h), (1, .int x)]) hx hb dX1_tallyOfRoofs_1 rfl hl (by decide) rfl (fun ls hl => ?_)
  refine lv_iconst (v := 0) hx hb dX1_tallyOfRoofs_2 (by decide) ?_
  refine lv_istore_n (lv' := [(3, .int 0), (2, .int 0), (0, .ref h), (1, .int x)]) hx hb dX1_tallyOfRoofs_3 rfl hl (by decide) rfl (fun ls hl => ?_)
  refine lv_iload_n hx hb dX1_tallyOfRoofs_4 rfl (lv_at hl 0 rfl) ?_
  refine lv_bipush (v := 6) hx hb dX1_tallyOfRoofs_5 (by decide) ?_
  refine lv_icmp_ge (tgt := 38) hx hb dX1_tallyOfRoofs_7 (by decide) (fun c1 => absurd c1 (by decide)) (fun c1 => ?_)
  refine lv_aload_n hx hb dX1_tallyOfRoofs_10 rfl (lv_at hl 2 rfl) ?_
  refine va_get (D := (dC, dI)) (ci := 1) (v := .ref ro) (C := RX1) (T := TX1) (N := 7) hx hb hts (by decide +kernel) hown hK hP 0 rfl rfl 0 (by decide) (hts (.fieldLink RX1 11 "ThatchRoof" "roofs" "[LThatchRoof$Roof;") (by decide +kernel)) (fun _ h9 => h9) rfl dX1_tallyOfRoofs_11 ?_
  refine lv_iload_n hx hb dX1_tallyOfRoofs_14 rfl (lv_at hl 0 rfl) ?_
  refine va_aldq hx hb hK hP 1 0 rfl rfl (vp_in_nI (n := 0) (by decide) (by decide)) dX1_tallyOfRoofs_15 ?_
  refine W.eq (g2 := F0 m 16 ls [.null]) rfl ?_
  refine lv_astoreN (lv' := [(4, .null), (3, .int 0), (2, .int 0), (0, .ref h), (1, .int x)]) hx hb dX1_tallyOfRoofs_16 hl (by decide) rfl (fun ls hl => ?_)
  refine lv_aloadN hx hb dX1_tallyOfRoofs_18 (lv_at hl 0 rfl) ?_
  refine lv_ifnullN (tgt := 32) hx hb dX1_tallyOfRoofs_20 (by decide) ?_
  refine lv_iinc (v := 1) (lv' := [(3, .int 1), (4, .null), (2, .int 0), (0, .ref h), (1, .int x)]) hx hb dX1_tallyOfRoofs_32 hl (k := 1) rfl (by decide) (by decide) rfl (fun ls hl => ?_)
  refine lv_goto (tgt := 4) hx hb dX1_tallyOfRoofs_35 (by decide) ?_
  refine lv_iload_n hx hb dX1_tallyOfRoofs_4 rfl (lv_at hl 0 rfl) ?_
  refine lv_bipush (v := 6) hx hb dX1_tallyOfRoofs_5 (by decide) ?_
  refine lv_icmp_ge (tgt := 38) hx hb dX1_tallyOfRoofs_7 (by decide) (fun c2 => absurd c2 (by decide)) (fun c2 => ?_)
  refine lv_aload_n hx hb dX1_tallyOfRoofs_10 rfl (lv_at hl 3 rfl) ?_
  refine va_get (D := (dC, dI)) (ci := 1) (v := .ref ro) (C := RX1) (T := TX1) (N := 7) hx hb hts (by decide +kernel) hown hK hP 0 rfl rfl 0 (by decide) (hts (.fieldLink RX1 11 "ThatchRoof" "roofs" "[LThatchRoof$Roof;") (by decide +kernel)) (fun _ h9 => h9) rfl dX1_tallyOfRoofs_11 ?_
  refine lv_iload_n hx hb dX1_tallyOfRoofs_14 rfl (lv_at hl 0 rfl) ?_
  refine va_aldq hx hb hK hP 1 0 rfl rfl (vp_in_nI (n := 1) (by decide) (by decide)) dX1_tallyOfRoofs_15 ?_
  refine W.eq (g2 := F0 m 16 ls [.null]) rfl ?_
  refine lv_astoreN (lv' := [(4, .null), (3, .int 1), (2, .int 0), (0, .ref h), (1, .int x)]) hx hb dX1_tallyOfRoofs_16 hl (by decide) rfl (fun ls hl => ?_)
  refine lv_aloadN hx hb dX1_tallyOfRoofs_18 (lv_at hl 0 rfl) ?_
  refine lv_ifnullN (tgt := 32) hx hb dX1_tallyOfRoofs_20 (by decide) ?_
  refine lv_iinc (v := 2) (lv' := [(3, .int 2), (4, .null), (2, .int 0), (0, .ref h), (1, .int x)]) hx hb dX1_tallyOfRoofs_32 hl (k := 1) rfl (by decide) (by decide) rfl (fun ls hl => ?_)
  refine lv_goto (tgt := 4) hx hb dX1_tallyOfRoofs_35 (by decide) ?_
  refine lv_iload_n hx hb dX1_tallyOfRoofs_4 rfl (lv_at hl 0 rfl) ?_
  refine lv_bipush (v := 6) hx hb dX1_tallyOfRoofs_5 (by decide) ?_
  refine lv_icmp_ge (tgt := 38) hx hb dX1_tallyOfRoofs_7 (by decide) (fun c3 => absurd c3 (by decide)) (fun c3 => ?_)
  refine lv_aload_n hx hb dX1_tallyOfRoofs_10 rfl (lv_at hl 3 rfl) ?_
  refine va_get (D := (dC, dI)) (ci := 1) (v := .ref ro) (C := RX1) (T := TX1) (N := 7) hx hb hts (by decide +kernel) hown hK hP 0 rfl rfl 0 (by decide) (hts (.fieldLink RX1 11 "ThatchRoof" "roofs" "[LThatchRoof$Roof;") (by decide +kernel)) (fun _ h9 => h9) rfl dX1_tallyOfRoofs_11 ?_
  refine lv_iload_n hx hb dX1_tallyOfRoofs_14 rfl (lv_at hl 0 rfl) ?_
  refine va_aldq hx hb hK hP 1 0 rfl rfl (vp_in_nI (n := 2) (by decide) (by decide)) dX1_tallyOfRoofs_15 ?_
  refine W.eq (g2 := F0 m 16 ls [.null]) rfl ?_
  refine lv_astoreN (lv' := [(4, .null), (3, .int 2), (2, .int 0), (0, .ref h), (1, .int x)]) hx hb dX1_tallyOfRoofs_16 hl (by decide) rfl (fun ls hl => ?_)
  refine lv_aloadN hx hb dX1_tallyOfRoofs_18 (lv_at hl 0 rfl) ?_
  refine lv_ifnullN (tgt := 32) hx hb dX1_tallyOfRoofs_20 (by decide) ?_
  refine lv_iinc (v := 3) (lv' := [(3, .int 3), (4, .null), (2, .int 0), (0, .ref h), (1, .int x)]) hx hb dX1_tallyOfRoofs_32 hl (k := 1) rfl (by decide) (by decide) rfl (fun ls hl => ?_)
  refine lv_goto (tgt := 4) hx hb dX1_tallyOfRoofs_35 (by decide) ?_
  refine lv_iload_n hx hb dX1_tallyOfRoofs_4 rfl (lv_at hl 0 rfl) ?_
  refine lv_bipush (v := 6) hx hb dX1_tallyOfRoofs_5 (by decide) ?_
  refine lv_icmp_ge (tgt := 38) hx hb dX1_tallyOfRoofs_7 (by decide) (fun c4 => absurd c4 (by decide)) (fun c4 => ?_)
  refine lv_aload_n hx hb dX1_tallyOfRoofs_10 rfl (lv_at hl 3 rfl) ?_
  refine va_get (D := (dC, dI)) (ci := 1) (v := .ref ro) (C := RX1) (T := TX1) (N := 7) hx hb hts (by decide +kernel) hown hK hP 0 rfl rfl 0 (by decide) (hts (.fieldLink RX1 11 "ThatchRoof" "roofs" "[LThatchRoof$Roof;") (by decide +kernel)) (fun _ h9 => h9) rfl dX1_tallyOfRoofs_11 ?_
  refine lv_iload_n hx hb dX1_tallyOfRoofs_14 rfl (lv_at hl 0 rfl) ?_
  refine va_aldq hx hb hK hP 1 0 rfl rfl (vp_in_nI (n := 3) (by decide) (by decide)) dX1_tallyOfRoofs_15 ?_
  refine W.eq (g2 := F0 m 16 ls [.null]) rfl ?_
  refine lv_astoreN (lv' := [(4, .null), (3, .int 3), (2, .int 0), (0, .ref h), (1, .int x)]) hx hb dX1_tallyOfRoofs_16 hl (by decide) rfl (fun ls hl => ?_)
  refine lv_aloadN hx hb dX1_tallyOfRoofs_18 (lv_at hl 0 rfl) ?_
  refine lv_ifnullN (tgt := 32) hx hb dX1_tallyOfRoofs_20 (by decide) ?_
  refine lv_iinc (v := 4) (lv' := [(3, .int 4), (4, .null), (2, .int 0), (0, .ref h), (1, .int x)]) hx hb dX1_tallyOfRoofs_32 hl (k := 1) rfl (by decide) (by decide) rfl (fun ls hl => ?_)
  refine lv_goto (tgt := 4) hx hb dX1_tallyOfRoofs_35 (by decide) ?_
  refine lv_iload_n hx hb dX1_tallyOfRoofs_4 rfl (lv_at hl 0 rfl) ?_
  refine lv_bipush (v := 6) hx hb dX1_tallyOfRoofs_5 (by decide) ?_
  refine lv_icmp_ge (tgt := 38) hx hb dX1_tallyOfRoofs_7 (by decide) (fun c5 => absurd c5 (by decide)) (fun c5 => ?_)
  refine lv_aload_n hx hb dX1_tallyOfRoofs_10 rfl (lv_at hl 3 rfl) ?_
  refine va_get (D := (dC, dI)) (ci := 1) (v := .ref ro) (C := RX1) (T := TX1) (N := 7) hx hb hts (by decide +kernel) hown hK hP 0 rfl rfl 0 (by decide) (hts (.fieldLink RX1 11 "ThatchRoof" "roofs" "[LThatchRoof$Roof;") (by decide +kernel)) (fun _ h9 => h9) rfl dX1_tallyOfRoofs_11 ?_
  refine lv_iload_n hx hb dX1_tallyOfRoofs_14 rfl (lv_at hl 0 rfl) ?_
  refine va_aldq hx hb hK hP 1 0 rfl rfl (vp_in_nI (n := 4) (by decide) (by decide)) dX1_tallyOfRoofs_15 ?_
  refine W.eq (g2 := F0 m 16 ls [.null]) rfl ?_
  refine lv_astoreN (lv' := [(4, .null), (3, .int 4), (2, .int 0), (0, .ref h), (1, .int x)]) hx hb dX1_tallyOfRoofs_16 hl (by decide) rfl (fun ls hl => ?_)
  refine lv_aloadN hx hb dX1_tallyOfRoofs_18 (lv_at hl 0 rfl) ?_
  refine lv_ifnullN (tgt := 32) hx hb dX1_tallyOfRoofs_20 (by decide) ?_
  refine lv_iinc (v := 5) (lv' := [(3, .int 5), (4, .null), (2, .int 0), (0, .ref h), (1, .int x)]) hx hb dX1_tallyOfRoofs_32 hl (k := 1) rfl (by decide) (by decide) rfl (fun ls hl => ?_)
  refine lv_goto (tgt := 4) hx hb dX1_tallyOfRoofs_35 (by decide) ?_
  refine lv_iload_n hx hb dX1_tallyOfRoofs_4 rfl (lv_at hl 0 rfl) ?_
  refine lv_bipush (v := 6) hx hb dX1_tallyOfRoofs_5 (by decide) ?_
  refine lv_icmp_ge (tgt := 38) hx hb dX1_tallyOfRoofs_7 (by decide) (fun c6 => absurd c6 (by decide)) (fun c6 => ?_)
  refine lv_aload_n hx hb dX1_tallyOfRoofs_10 rfl (lv_at hl 3 rfl) ?_
  refine va_get (D := (dC, dI)) (ci := 1) (v := .ref ro) (C := RX1) (T := TX1) (N := 7) hx hb hts (by decide +kernel) hown hK hP 0 rfl rfl 0 (by decide) (hts (.fieldLink RX1 11 "ThatchRoof" "roofs" "[LThatchRoof$Roof;") (by decide +kernel)) (fun _ h9 => h9) rfl dX1_tallyOfRoofs_11 ?_
  refine lv_iload_n hx hb dX1_tallyOfRoofs_14 rfl (lv_at hl 0 rfl) ?_
  refine va_aldq hx hb hK hP 1 0 rfl rfl (vp_in_nI (n := 5) (by decide) (by decide)) dX1_tallyOfRoofs_15 ?_
  refine W.eq (g2 := F0 m 16 ls [.null]) rfl ?_
  refine lv_astoreN (lv' := [(4, .null), (3, .int 5), (2, .int 0), (0, .ref h), (1, .int x)]) hx hb dX1_tallyOfRoofs_16 hl (by decide) rfl (fun ls hl => ?_)
  refine lv_aloadN hx hb dX1_tallyOfRoofs_18 (lv_at hl 0 rfl) ?_
  refine lv_ifnullN (tgt := 32) hx hb dX1_tallyOfRoofs_20 (by decide) ?_
  refine lv_iinc (v := 6) (lv' := [(3, .int 6), (4, .null), (2, .int 0), (0, .ref h), (1, .int x)]) hx hb dX1_tallyOfRoofs_32 hl (k := 1) rfl (by decide) (by decide) rfl (fun ls hl => ?_)
  refine lv_goto (tgt := 4) hx hb dX1_tallyOfRoofs_35 (by decide) ?_
  refine lv_iload_n hx hb dX1_tallyOfRoofs_4 rfl (lv_at hl 0 rfl) ?_
  refine lv_bipush (v := 6) hx hb dX1_tallyOfRoofs_5 (by decide) ?_
  refine lv_icmp_ge (tgt := 38) hx hb dX1_tallyOfRoofs_7 (by decide) (fun c7 => ?_) (fun c7 => absurd c7 (by decide))
  refine lv_iload_n hx hb dX1_tallyOfRoofs_38 rfl (lv_at hl 2 rfl) ?_
  exact W.iret (v := 0) hx hb hr (fun t ht hW => ⟨0, rfl, by (first | rfl | assumption | decide | (simp_all; done) | grind), ht⟩) (fun _ h => nomatch h) dX1_tallyOfRoofs_39

set_option maxHeartbeats 4000000 in
set_option maxRecDepth 100000 in
theorem k1_tally0 (l : Launch) (dC : Nat → ClassId) (dI : Nat → Nat → Nat) (h : Nat) (ro : Nat) (ba : Nat) (ra : Nat) (su : Nat) (tr : Nat) (cR : ClassId) (cB : ClassId) (cA : ClassId) (fr : Nat → Int32) (cS : ClassId) (hra : ∀ j : Nat, j < 12 → fr j = 4) : Met l yX1_tally wsX1_tally ({ frames := 0, cells := 0, slots := 0, locals := 0 }) (va_Pc [.ref h, .int 0] (fun U => va_P (dC, dI) vwCl [(h, .inr (1, [.ref ro, .int 0, .ref ba, .ref ra, .ref su, .int 0, .ref tr])), (ro, .inl (cR, 6, .inr (.inr (.inr (.inr (fun _ => none)))))), (ba, .inl (cB, 3, .inl (fun _ => 0))), (ra, .inl (cA, 12, .inl fr)), (su, .inl (cS, 12, .inl (fun _ => 0)))] U.heap ∧ va_K (dC, dI) vwCl [(cR, .object RX0), (cB, .int), (cA, .int), (cS, .int)] U)) (vp_Si (fun r : Int32 => r = 0)) 0 0 (fun _ => False) := by
  refine Met.ofW (cc := cX1_tally) (maxL := 2) (ret := (some .int)) (by decide) rfl ?_
  intro p e s m args below meth c s₁ B hml hv
  obtain ⟨rfl, hP, hK⟩ := hv
  have hx := B.exec
  have hb := B.bytes
  have hr := B.returns
  have hts := atoms_spec (ws := wsX1_tally) B.pre
  have hown : s.vm.findClass RX1 = some m.cls := findClass_of_methodNamed B.named
  have hlocks := B.notSynchronized
  have hP : va_P (dC, dI) vwCl [(h, .inr (1, [.ref ro, .int 0, .ref ba, .ref ra, .ref su, .int 0, .ref tr])), (ro, .inl (cR, 6, .inr (.inr (.inr (.inr (fun _ => none)))))), (ba, .inl (cB, 3, .inl (fun _ => 0))), (ra, .inl (cA, 12, .inl fr)), (su, .inl (cS, 12, .inl (fun _ => 0)))] s.heap := hP
  have hl := lv_entry ([.ref h, .int 0]) (n := 2) (Nat.le_of_ble_eq_true rfl)
  rw [lg_entry_eq]
  generalize (lg_sl ([.ref h, .int 0]) ++ List.replicate (2 - (lg_sl ([.ref h, .int 0])).length) Slot.unset).toArray = ls at hl ⊢
  have hl : lv_has ls 2 [(0, .ref h), (1, .int 0)] := hl
  refine lv_iload_n hx hb dX1_tally_0 rfl (lv_at hl 1 rfl) ?_
  refine lv_tableIn (off := 47) (tgt := 48) hx hb dX1_tally_1 (by decide) (by decide) (by rfl) (by decide) ?_
  refine lv_aload_n hx hb dX1_tally_48 rfl (lv_at hl 0 rfl) ?_
  refine va_get (D := (dC, dI)) (ci := 1) (v := .int 0) (C := RX1) (T := TX1) (N := 7) hx hb hts (by decide +kernel) hown hK hP 0 rfl rfl 5 (by decide) (hts (.fieldLink RX1 155 "ThatchRoof" "month" "I") (by decide +kernel)) (fun _ h9 => h9) rfl dX1_tally_49 ?_
  exact W.iret (v := 0) hx hb hr (fun t ht hW => ⟨0, rfl, by (first | rfl | assumption | decide | (simp_all; done) | grind), ht⟩) (fun _ h => nomatch h) dX1_tally_52

set_option maxHeartbeats 4000000 in
set_option maxRecDepth 100000 in
theorem k1_tally1 (l : Launch) (dC : Nat → ClassId) (dI : Nat → Nat → Nat) (h : Nat) (ro : Nat) (ba : Nat) (ra : Nat) (su : Nat) (tr : Nat) (cR : ClassId) (cB : ClassId) (cA : ClassId) (fr : Nat → Int32) (cS : ClassId) (hra : ∀ j : Nat, j < 12 → fr j = 4) : Met l yX1_tally wsX1_tally ({ frames := 0, cells := 0, slots := 0, locals := 0 }) (va_Pc [.ref h, .int 1] (fun U => va_P (dC, dI) vwCl [(h, .inr (1, [.ref ro, .int 0, .ref ba, .ref ra, .ref su, .int 0, .ref tr])), (ro, .inl (cR, 6, .inr (.inr (.inr (.inr (fun _ => none)))))), (ba, .inl (cB, 3, .inl (fun _ => 0))), (ra, .inl (cA, 12, .inl fr)), (su, .inl (cS, 12, .inl (fun _ => 0)))] U.heap ∧ va_K (dC, dI) vwCl [(cR, .object RX0), (cB, .int), (cA, .int), (cS, .int)] U)) (vp_Si (fun r : Int32 => r = 0)) 0 0 (fun _ => False) := by
  refine Met.ofW (cc := cX1_tally) (maxL := 2) (ret := (some .int)) (by decide) rfl ?_
  intro p e s m args below meth c s₁ B hml hv
  obtain ⟨rfl, hP, hK⟩ := hv
  have hx := B.exec
  have hb := B.bytes
  have hr := B.returns
  have hts := atoms_spec (ws := wsX1_tally) B.pre
  have hown : s.vm.findClass RX1 = some m.cls := findClass_of_methodNamed B.named
  have hlocks := B.notSynchronized
  have hP : va_P (dC, dI) vwCl [(h, .inr (1, [.ref ro, .int 0, .ref ba, .ref ra, .ref su, .int 0, .ref tr])), (ro, .inl (cR, 6, .inr (.inr (.inr (.inr (fun _ => none)))))), (ba, .inl (cB, 3, .inl (fun _ => 0))), (ra, .inl (cA, 12, .inl fr)), (su, .inl (cS, 12, .inl (fun _ => 0)))] s.heap := hP
  have hl := lv_entry ([.ref h, .int 1]) (n := 2) (Nat.le_of_ble_eq_true rfl)
  rw [lg_entry_eq]
  generalize (lg_sl ([.ref h, .int 1]) ++ List.replicate (2 - (lg_sl ([.ref h, .int 1])).length) Slot.unset).toArray = ls at hl ⊢
  have hl : lv_has ls 2 [(0, .ref h), (1, .int 1)] := hl
  refine lv_iload_n hx hb dX1_tally_0 rfl (lv_at hl 1 rfl) ?_
  refine lv_tableIn (off := 52) (tgt := 53) hx hb dX1_tally_1 (by decide) (by decide) (by rfl) (by decide) ?_
  refine lv_aload_n hx hb dX1_tally_53 rfl (lv_at hl 0 rfl) ?_
  refine va_get (D := (dC, dI)) (ci := 1) (v := .int 0) (C := RX1) (T := TX1) (N := 7) hx hb hts (by decide +kernel) hown hK hP 0 rfl rfl 1 (by decide) (hts (.fieldLink RX1 43 "ThatchRoof" "built" "I") (by decide +kernel)) (fun _ h9 => h9) rfl dX1_tally_54 ?_
  exact W.iret (v := 0) hx hb hr (fun t ht hW => ⟨0, rfl, by (first | rfl | assumption | decide | (simp_all; done) | grind), ht⟩) (fun _ h => nomatch h) dX1_tally_57

set_option maxHeartbeats 4000000 in
set_option maxRecDepth 100000 in
theorem k1_tally2 (l : Launch) (dC : Nat → ClassId) (dI : Nat → Nat → Nat) (h : Nat) (ro : Nat) (ba : Nat) (ra : Nat) (su : Nat) (tr : Nat) (cR : ClassId) (cB : ClassId) (cA : ClassId) (fr : Nat → Int32) (cS : ClassId) (hra : ∀ j : Nat, j < 12 → fr j = 4) : Met l yX1_tally wsX1_tally ({ frames := 0, cells := 0, slots := 0, locals := 0 }) (va_Pc [.ref h, .int 2] (fun U => va_P (dC, dI) vwCl [(h, .inr (1, [.ref ro, .int 0, .ref ba, .ref ra, .ref su, .int 0, .ref tr])), (ro, .inl (cR, 6, .inr (.inr (.inr (.inr (fun _ => none)))))), (ba, .inl (cB, 3, .inl (fun _ => 0))), (ra, .inl (cA, 12, .inl fr)), (su, .inl (cS, 12, .inl (fun _ => 0)))] U.heap ∧ va_K (dC, dI) vwCl [(cR, .object RX0), (cB, .int), (cA, .int), (cS, .int)] U)) (vp_Si (fun r : Int32 => r = 0)) 0 0 (fun _ => False) := by
  refine Met.ofW (cc := cX1_tally) (maxL := 2) (ret := (some .int)) (by decide) rfl ?_
  intro p e s m args below meth c s₁ B hml hv
  obtain ⟨rfl, hP, hK⟩ := hv
  have hx := B.exec
  have hb := B.bytes
  have hr := B.returns
  have hts := atoms_spec (ws := wsX1_tally) B.pre
  have hown : s.vm.findClass RX1 = some m.cls := findClass_of_methodNamed B.named
  have hlocks := B.notSynchronized
  have hP : va_P (dC, dI) vwCl [(h, .inr (1, [.ref ro, .int 0, .ref ba, .ref ra, .ref su, .int 0, .ref tr])), (ro, .inl (cR, 6, .inr (.inr (.inr (.inr (fun _ => none)))))), (ba, .inl (cB, 3, .inl (fun _ => 0))), (ra, .inl (cA, 12, .inl fr)), (su, .inl (cS, 12, .inl (fun _ => 0)))] s.heap := hP
  have hl := lv_entry ([.ref h, .int 2]) (n := 2) (Nat.le_of_ble_eq_true rfl)
  rw [lg_entry_eq]
  generalize (lg_sl ([.ref h, .int 2]) ++ List.replicate (2 - (lg_sl ([.ref h, .int 2])).length) Slot.unset).toArray = ls at hl ⊢
  have hl : lv_has ls 2 [(0, .ref h), (1, .int 2)] := hl
  refine lv_iload_n hx hb dX1_tally_0 rfl (lv_at hl 1 rfl) ?_
  refine lv_tableIn (off := 57) (tgt := 58) hx hb dX1_tally_1 (by decide) (by decide) (by rfl) (by decide) ?_
  refine lv_aload_n hx hb dX1_tally_58 rfl (lv_at hl 0 rfl) ?_
  refine va_get (D := (dC, dI)) (ci := 1) (v := .ref ba) (C := RX1) (T := TX1) (N := 7) hx hb hts (by decide +kernel) hown hK hP 0 rfl rfl 2 (by decide) (hts (.fieldLink RX1 15 "ThatchRoof" "barn" "[I") (by decide +kernel)) (fun _ h9 => h9) rfl dX1_tally_59 ?_
  refine lv_iload_n hx hb dX1_tally_62 rfl (lv_at hl 1 rfl) ?_
  refine lv_iconst (v := 2) hx hb dX1_tally_63 (by decide) ?_
  refine lv_isub hx hb dX1_tally_64 ?_
  refine W.eq (g2 := F0 m 65 ls [.int 0, .ref ba]) rfl ?_
  refine va_iald hx hb hK hP 2 1 rfl rfl (vp_in_nI (n := 0) (by decide) (by decide)) dX1_tally_65 ?_
  refine lv_topi (fun x1 ex1 => ?_)
  exact W.iret (v := x1) hx hb hr (fun t ht hW => ⟨x1, rfl, by (first | rfl | assumption | decide | (simp_all; done) | grind), ht⟩) (fun _ h => nomatch h) dX1_tally_66

set_option maxHeartbeats 4000000 in
set_option maxRecDepth 100000 in
theorem k1_tally3 (l : Launch) (dC : Nat → ClassId) (dI : Nat → Nat → Nat) (h : Nat) (ro : Nat) (ba : Nat) (ra : Nat) (su : Nat) (tr : Nat) (cR : ClassId) (cB : ClassId) (cA : ClassId) (fr : Nat → Int32) (cS : ClassId) (hra : ∀ j : Nat, j < 12 → fr j = 4) : Met l yX1_tally wsX1_tally ({ frames := 0, cells := 0, slots := 0, locals := 0 }) (va_Pc [.ref h, .int 3] (fun U => va_P (dC, dI) vwCl [(h, .inr (1, [.ref ro, .int 0, .ref ba, .ref ra, .ref su, .int 0, .ref tr])), (ro, .inl (cR, 6, .inr (.inr (.inr (.inr (fun _ => none)))))), (ba, .inl (cB, 3, .inl (fun _ => 0))), (ra, .inl (cA, 12, .inl fr)), (su, .inl (cS, 12, .inl (fun _ => 0)))] U.heap ∧ va_K (dC, dI) vwCl [(cR, .object RX0), (cB, .int), (cA, .int), (cS, .int)] U)) (vp_Si (fun r : Int32 => r = 0)) 0 0 (fun _ => False) := by
  refine Met.ofW (cc := cX1_tally) (maxL := 2) (ret := (some .int)) (by decide) rfl ?_
  intro p e s m args below meth c s₁ B hml hv
  obtain ⟨rfl, hP, hK⟩ := hv
  have hx := B.exec
  have hb := B.bytes
  have hr := B.returns
  have hts := atoms_spec (ws := wsX1_tally) B.pre
  have hown : s.vm.findClass RX1 = some m.cls := findClass_of_methodNamed B.named
  have hlocks := B.notSynchronized
  have hP : va_P (dC, dI) vwCl [(h, .inr (1, [.ref ro, .int 0, .ref ba, .ref ra, .ref su, .int 0, .ref tr])), (ro, .inl (cR, 6, .inr (.inr (.inr (.inr (fun _ => none)))))), (ba, .inl (cB, 3, .inl (fun _ => 0))), (ra, .inl (cA, 12, .inl fr)), (su, .inl (cS, 12, .inl (fun _ => 0)))] s.heap := hP
  have hl := lv_entry ([.ref h, .int 3]) (n := 2) (Nat.le_of_ble_eq_true rfl)
  rw [lg_entry_eq]
  generalize (lg_sl ([.ref h, .int 3]) ++ List.replicate (2 - (lg_sl ([.ref h, .int 3])).length) Slot.unset).toArray = ls at hl ⊢
  have hl : lv_has ls 2 [(0, .ref h), (1, .int 3)] := hl
  refine lv_iload_n hx hb dX1_tally_0 rfl (lv_at hl 1 rfl) ?_
  refine lv_tableIn (off := 57) (tgt := 58) hx hb dX1_tally_1 (by decide) (by decide) (by rfl) (by decide) ?_
  refine lv_aload_n hx hb dX1_tally_58 rfl (lv_at hl 0 rfl) ?_
  refine va_get (D := (dC, dI)) (ci := 1) (v := .ref ba) (C := RX1) (T := TX1) (N := 7) hx hb hts (by decide +kernel) hown hK hP 0 rfl rfl 2 (by decide) (hts (.fieldLink RX1 15 "ThatchRoof" "barn" "[I") (by decide +kernel)) (fun _ h9 => h9) rfl dX1_tally_59 ?_
  refine lv_iload_n hx hb dX1_tally_62 rfl (lv_at hl 1 rfl) ?_
  refine lv_iconst (v := 2) hx hb dX1_tally_63 (by decide) ?_
  refine lv_isub hx hb dX1_tally_64 ?_
  refine W.eq (g2 := F0 m 65 ls [.int 1, .ref ba]) rfl ?_
  refine va_iald hx hb hK hP 2 1 rfl rfl (vp_in_nI (n := 1) (by decide) (by decide)) dX1_tally_65 ?_
  refine lv_topi (fun x1 ex1 => ?_)
  exact W.iret (v := x1) hx hb hr (fun t ht hW => ⟨x1, rfl, by (first | rfl | assumption | decide | (simp_all; done) | grind), ht⟩) (fun _ h => nomatch h) dX1_tally_66

set_option maxHeartbeats 4000000 in
set_option maxRecDepth 100000 in
theorem k1_tally4 (l : Launch) (dC : Nat → ClassId) (dI : Nat → Nat → Nat) (h : Nat) (ro : Nat) (ba : Nat) (ra : Nat) (su : Nat) (tr : Nat) (cR : ClassId) (cB : ClassId) (cA : ClassId) (fr : Nat → Int32) (cS : ClassId) (hra : ∀ j : Nat, j < 12 → fr j = 4) : Met l yX1_tally wsX1_tally ({ frames := 0, cells := 0, slots := 0, locals := 0 }) (va_Pc [.ref h, .int 4] (fun U => va_P (dC, dI) vwCl [(h, .inr (1, [.ref ro, .int 0, .ref ba, .ref ra, .ref su, .int 0, .ref tr])), (ro, .inl (cR, 6, .inr (.inr (.inr (.inr (fun _ => none)))))), (ba, .inl (cB, 3, .inl (fun _ => 0))), (ra, .inl (cA, 12, .inl fr)), (su, .inl (cS, 12, .inl (fun _ => 0)))] U.heap ∧ va_K (dC, dI) vwCl [(cR, .object RX0), (cB, .int), (cA, .int), (cS, .int)] U)) (vp_Si (fun r : Int32 => r = 0)) 0 0 (fun _ => False) := by
  refine Met.ofW (cc := cX1_tally) (maxL := 2) (ret := (some .int)) (by decide) rfl ?_
  intro p e s m args below meth c s₁ B hml hv
  obtain ⟨rfl, hP, hK⟩ := hv
  have hx := B.exec
  have hb := B.bytes
  have hr := B.returns
  have hts := atoms_spec (ws := wsX1_tally) B.pre
  have hown : s.vm.findClass RX1 = some m.cls := findClass_of_methodNamed B.named
  have hlocks := B.notSynchronized
  have hP : va_P (dC, dI) vwCl [(h, .inr (1, [.ref ro, .int 0, .ref ba, .ref ra, .ref su, .int 0, .ref tr])), (ro, .inl (cR, 6, .inr (.inr (.inr (.inr (fun _ => none)))))), (ba, .inl (cB, 3, .inl (fun _ => 0))), (ra, .inl (cA, 12, .inl fr)), (su, .inl (cS, 12, .inl (fun _ => 0)))] s.heap := hP
  have hl := lv_entry ([.ref h, .int 4]) (n := 2) (Nat.le_of_ble_eq_true rfl)
  rw [lg_entry_eq]
  generalize (lg_sl ([.ref h, .int 4]) ++ List.replicate (2 - (lg_sl ([.ref h, .int 4])).length) Slot.unset).toArray = ls at hl ⊢
  have hl : lv_has ls 2 [(0, .ref h), (1, .int 4)] := hl
  refine lv_iload_n hx hb dX1_tally_0 rfl (lv_at hl 1 rfl) ?_
  refine lv_tableIn (off := 57) (tgt := 58) hx hb dX1_tally_1 (by decide) (by decide) (by rfl) (by decide) ?_
  refine lv_aload_n hx hb dX1_tally_58 rfl (lv_at hl 0 rfl) ?_
  refine va_get (D := (dC, dI)) (ci := 1) (v := .ref ba) (C := RX1) (T := TX1) (N := 7) hx hb hts (by decide +kernel) hown hK hP 0 rfl rfl 2 (by decide) (hts (.fieldLink RX1 15 "ThatchRoof" "barn" "[I") (by decide +kernel)) (fun _ h9 => h9) rfl dX1_tally_59 ?_
  refine lv_iload_n hx hb dX1_tally_62 rfl (lv_at hl 1 rfl) ?_
  refine lv_iconst (v := 2) hx hb dX1_tally_63 (by decide) ?_
  refine lv_isub hx hb dX1_tally_64 ?_
  refine W.eq (g2 := F0 m 65 ls [.int 2, .ref ba]) rfl ?_
  refine va_iald hx hb hK hP 2 1 rfl rfl (vp_in_nI (n := 2) (by decide) (by decide)) dX1_tally_65 ?_
  refine lv_topi (fun x1 ex1 => ?_)
  exact W.iret (v := x1) hx hb hr (fun t ht hW => ⟨x1, rfl, by (first | rfl | assumption | decide | (simp_all; done) | grind), ht⟩) (fun _ h => nomatch h) dX1_tally_66

set_option maxHeartbeats 4000000 in
set_option maxRecDepth 100000 in
theorem k1_tally5 (l : Launch) (dC : Nat → ClassId) (dI : Nat → Nat → Nat) (h : Nat) (ro : Nat) (ba : Nat) (ra : Nat) (su : Nat) (tr : Nat) (cR : ClassId) (cB : ClassId) (cA : ClassId) (fr : Nat → Int32) (cS : ClassId) (hra : ∀ j : Nat, j < 12 → fr j = 4) : Met l yX1_tally wsX1_tally ({ frames := 1, cells := 0, slots := 0, locals := 24 }) (va_Pc [.ref h, .int 5] (fun U => va_P (dC, dI) vwCl [(h, .inr (1, [.ref ro, .int 0, .ref ba, .ref ra, .ref su, .int 0, .ref tr])), (ro, .inl (cR, 6, .inr (.inr (.inr (.inr (fun _ => none)))))), (ba, .inl (cB, 3, .inl (fun _ => 0))), (ra, .inl (cA, 12, .inl fr)), (su, .inl (cS, 12, .inl (fun _ => 0)))] U.heap ∧ va_K (dC, dI) vwCl [(cR, .object RX0), (cB, .int), (cA, .int), (cS, .int)] U)) (vp_Si (fun r : Int32 => r = 0)) 0 0 (fun _ => False) := by
  refine Met.ofW (cc := cX1_tally) (maxL := 2) (ret := (some .int)) (by decide) rfl ?_
  intro p e s m args below meth c s₁ B hml hv
  obtain ⟨rfl, hP, hK⟩ := hv
  have hx := B.exec
  have hb := B.bytes
  have hr := B.returns
  have hts := atoms_spec (ws := wsX1_tally) B.pre
  have hown : s.vm.findClass RX1 = some m.cls := findClass_of_methodNamed B.named
  have hlocks := B.notSynchronized
  have hP : va_P (dC, dI) vwCl [(h, .inr (1, [.ref ro, .int 0, .ref ba, .ref ra, .ref su, .int 0, .ref tr])), (ro, .inl (cR, 6, .inr (.inr (.inr (.inr (fun _ => none)))))), (ba, .inl (cB, 3, .inl (fun _ => 0))), (ra, .inl (cA, 12, .inl fr)), (su, .inl (cS, 12, .inl (fun _ => 0)))] s.heap := hP
  have hl := lv_entry ([.ref h, .int 5]) (n := 2) (Nat.le_of_ble_eq_true rfl)
  rw [lg_entry_eq]
  generalize (lg_sl ([.ref h, .int 5]) ++ List.replicate (2 - (lg_sl ([.ref h, .int 5])).length) Slot.unset).toArray = ls at hl ⊢
  have hl : lv_has ls 2 [(0, .ref h), (1, .int 5)] := hl
  refine lv_iload_n hx hb dX1_tally_0 rfl (lv_at hl 1 rfl) ?_
  refine lv_tableIn (off := 66) (tgt := 67) hx hb dX1_tally_1 (by decide) (by decide) (by rfl) (by decide) ?_
  refine lv_aload_n hx hb dX1_tally_67 rfl (lv_at hl 0 rfl) ?_
  refine lv_iconst (v := 4) hx hb dX1_tally_68 (by decide) ?_
  have hPc := hP.sub (ws' := [(h, .inr (1, [.ref ro, .int 0, .ref ba, .ref ra, .ref su, .int 0, .ref tr])), (ro, .inl (cR, 6, .inr (.inr (.inr (.inr (fun _ => none))))))]) [0, 1] rfl
  have hKc := hK.sub (tys' := [(cR, .object RX0)]) [0] rfl
  refine vp_callSi (va_runV (As := [.int 4]) (rest := []) ⟨hx, hb, hml, hown, hts⟩ (k1_tallyOfRoofs0 l dC dI h ro ba ra su tr cR 4 ) (cwV 1 hts gX1_tally_X1_tallyOfRoofs rfl rfl rfl (by decide +kernel) ⟨Nat.le_of_ble_eq_true rfl, Nat.le_of_ble_eq_true rfl⟩) ⟨fun a U g mk q => by obtain ⟨q0, qP, qK⟩ := q; exact ⟨q0, qP, va_K.moved (u := U) (U := U.calling g mk a) (Vm.Alike.refl U.vm) qK⟩, va_recv hKc hPc (ci := 1) (q0 := 0) rfl rfl, fun U hU hW => ⟨rfl, by rw [hU]; exact hPc, va_K.moved hW.alike hKc⟩⟩ rfl rfl hl.1 rfl (lv_room (Nat.le_of_ble_eq_true rfl)) dX1_tally_69 ⟨Nat.le_of_ble_eq_true rfl, Nat.le_of_ble_eq_true rfl⟩).run (fun r1 hr1 => ?_)
  obtain rfl := hr1
  exact W.iret (v := 0) hx hb hr (fun t ht hW => ⟨0, rfl, by (first | rfl | assumption | decide | (simp_all; done) | grind), ht⟩) (fun _ h => nomatch h) dX1_tally_72

set_option maxHeartbeats 4000000 in
set_option maxRecDepth 100000 in
theorem k1_tally6 (l : Launch) (dC : Nat → ClassId) (dI : Nat → Nat → Nat) (h : Nat) (ro : Nat) (ba : Nat) (ra : Nat) (su : Nat) (tr : Nat) (cR : ClassId) (cB : ClassId) (cA : ClassId) (fr : Nat → Int32) (cS : ClassId) (hra : ∀ j : Nat, j < 12 → fr j = 4) : Met l yX1_tally wsX1_tally ({ frames := 1, cells := 0, slots := 0, locals := 24 }) (va_Pc [.ref h, .int 6] (fun U => va_P (dC, dI) vwCl [(h, .inr (1, [.ref ro, .int 0, .ref ba, .ref ra, .ref su, .int 0, .ref tr])), (ro, .inl (cR, 6, .inr (.inr (.inr (.inr (fun _ => none)))))), (ba, .inl (cB, 3, .inl (fun _ => 0))), (ra, .inl (cA, 12, .inl fr)), (su, .inl (cS, 12, .inl (fun _ => 0)))] U.heap ∧ va_K (dC, dI) vwCl [(cR, .object RX0), (cB, .int), (cA, .int), (cS, .int)] U)) (vp_Si (fun r : Int32 => r = 0)) 0 0 (fun _ => False) := by
  refine Met.ofW (cc := cX1_tally) (maxL := 2) (ret := (some .int)) (by decide) rfl ?_
  intro p e s m args below meth c s₁ B hml hv
  obtain ⟨rfl, hP, hK⟩ := hv
  have hx := B.exec
  have hb := B.bytes
  have hr := B.returns
  have hts := atoms_spec (ws := wsX1_tally) B.pre
  have hown : s.vm.findClass RX1 = some m.cls := findClass_of_methodNamed B.named
  have hlocks := B.notSynchronized
  have hP : va_P (dC, dI) vwCl [(h, .inr (1, [.ref ro, .int 0, .ref ba, .ref ra, .ref su, .int 0, .ref tr])), (ro, .inl (cR, 6, .inr (.inr (.inr (.inr (fun _ => none)))))), (ba, .inl (cB, 3, .inl (fun _ => 0))), (ra, .inl (cA, 12, .inl fr)), (su, .inl (cS, 12, .inl (fun _ => 0)))] s.heap := hP
  have hl := lv_entry ([.ref h, .int 6]) (n := 2) (Nat.le_of_ble_eq_true rfl)
  rw [lg_entry_eq]
  generalize (lg_sl ([.ref h, .int 6]) ++ List.replicate (2 - (lg_sl ([.ref h, .int 6])).length) Slot.unset).toArray = ls at hl ⊢
  have hl : lv_has ls 2 [(0, .ref h), (1, .int 6)] := hl
  refine lv_iload_n hx hb dX1_tally_0 rfl (lv_at hl 1 rfl) ?_
  refine lv_tableIn (off := 72) (tgt := 73) hx hb dX1_tally_1 (by decide) (by decide) (by rfl) (by decide) ?_
  refine lv_aload_n hx hb dX1_tally_73 rfl (lv_at hl 0 rfl) ?_
  refine lv_bipush (v := 6) hx hb dX1_tally_74 (by decide) ?_
  have hPc := hP.sub (ws' := [(h, .inr (1, [.ref ro, .int 0, .ref ba, .ref ra, .ref su, .int 0, .ref tr])), (ro, .inl (cR, 6, .inr (.inr (.inr (.inr (fun _ => none))))))]) [0, 1] rfl
  have hKc := hK.sub (tys' := [(cR, .object RX0)]) [0] rfl
  refine vp_callSi (va_runV (As := [.int 6]) (rest := []) ⟨hx, hb, hml, hown, hts⟩ (k1_tallyOfRoofs0 l dC dI h ro ba ra su tr cR 6 ) (cwV 1 hts gX1_tally_X1_tallyOfRoofs rfl rfl rfl (by decide +kernel) ⟨Nat.le_of_ble_eq_true rfl, Nat.le_of_ble_eq_true rfl⟩) ⟨fun a U g mk q => by obtain ⟨q0, qP, qK⟩ := q; exact ⟨q0, qP, va_K.moved (u := U) (U := U.calling g mk a) (Vm.Alike.refl U.vm) qK⟩, va_recv hKc hPc (ci := 1) (q0 := 0) rfl rfl, fun U hU hW => ⟨rfl, by rw [hU]; exact hPc, va_K.moved hW.alike hKc⟩⟩ rfl rfl hl.1 rfl (lv_room (Nat.le_of_ble_eq_true rfl)) dX1_tally_76 ⟨Nat.le_of_ble_eq_true rfl, Nat.le_of_ble_eq_true rfl⟩).run (fun r1 hr1 => ?_)
  obtain rfl := hr1
  exact W.iret (v := 0) hx hb hr (fun t ht hW => ⟨0, rfl, by (first | rfl | assumption | decide | (simp_all; done) | grind), ht⟩) (fun _ h => nomatch h) dX1_tally_79

set_option maxHeartbeats 4000000 in
set_option maxRecDepth 100000 in
theorem k1_tally7 (l : Launch) (dC : Nat → ClassId) (dI : Nat → Nat → Nat) (h : Nat) (ro : Nat) (ba : Nat) (ra : Nat) (su : Nat) (tr : Nat) (cR : ClassId) (cB : ClassId) (cA : ClassId) (fr : Nat → Int32) (cS : ClassId) (hra : ∀ j : Nat, j < 12 → fr j = 4) : Met l yX1_tally wsX1_tally ({ frames := 3, cells := 0, slots := 0, locals := 64 }) (va_Pc [.ref h, .int 7] (fun U => va_P (dC, dI) vwCl [(h, .inr (1, [.ref ro, .int 0, .ref ba, .ref ra, .ref su, .int 0, .ref tr])), (ro, .inl (cR, 6, .inr (.inr (.inr (.inr (fun _ => none)))))), (ba, .inl (cB, 3, .inl (fun _ => 0))), (ra, .inl (cA, 12, .inl fr)), (su, .inl (cS, 12, .inl (fun _ => 0)))] U.heap ∧ va_K (dC, dI) vwCl [(cR, .object RX0), (cB, .int), (cA, .int), (cS, .int)] U)) (vp_Si (fun r : Int32 => r = 4)) 0 0 (fun _ => False) := by
  refine Met.ofW (cc := cX1_tally) (maxL := 2) (ret := (some .int)) (by decide) rfl ?_
  intro p e s m args below meth c s₁ B hml hv
  obtain ⟨rfl, hP, hK⟩ := hv
  have hx := B.exec
  have hb := B.bytes
  have hr := B.returns
  have hts := atoms_spec (ws := wsX1_tally) B.pre
  have hown : s.vm.findClass RX1 = some m.cls := findClass_of_methodNamed B.named
  have hlocks := B.notSynchronized
  have hP : va_P (dC, dI) vwCl [(h, .inr (1, [.ref ro, .int 0, .ref ba, .ref ra, .ref su, .int 0, .ref tr])), (ro, .inl (cR, 6, .inr (.inr (.inr (.inr (fun _ => none)))))), (ba, .inl (cB, 3, .inl (fun _ => 0))), (ra, .inl (cA, 12, .inl fr)), (su, .inl (cS, 12, .inl (fun _ => 0)))] s.heap := hP
  have hl := lv_entry ([.ref h, .int 7]) (n := 2) (Nat.le_of_ble_eq_true rfl)
  rw [lg_entry_eq]
  generalize (lg_sl ([.ref h, .int 7]) ++ List.replicate (2 - (lg_sl ([.ref h, .int 7])).length) Slot.unset).toArray = ls at hl ⊢
  have hl : lv_has ls 2 [(0, .ref h), (1, .int 7)] := hl
  refine lv_iload_n hx hb dX1_tally_0 rfl (lv_at hl 1 rfl) ?_
  refine lv_tableIn (off := 79) (tgt := 80) hx hb dX1_tally_1 (by decide) (by decide) (by rfl) (by decide) ?_
  refine lv_aload_n hx hb dX1_tally_80 rfl (lv_at hl 0 rfl) ?_
  refine lv_iconst (v := 0) hx hb dX1_tally_81 (by decide) ?_
  have hPc := hP.sub (ws' := [(h, .inr (1, [.ref ro, .int 0, .ref ba, .ref ra, .ref su, .int 0, .ref tr])), (ra, .inl (cA, 12, .inl fr))]) [0, 3] rfl
  have hKc := hK.sub (tys' := [(cA, .int)]) [2] rfl
  refine vp_callSi (va_runV (As := [.int 0]) (rest := []) ⟨hx, hb, hml, hown, hts⟩ (k1_rainAhead0 l dC dI h ro ba ra su tr cA fr (hra)) (cwV 1 hts gX1_tally_X1_rainAhead rfl rfl rfl (by decide +kernel) ⟨Nat.le_of_ble_eq_true rfl, Nat.le_of_ble_eq_true rfl⟩) ⟨fun a U g mk q => by obtain ⟨q0, qP, qK⟩ := q; exact ⟨q0, qP, va_K.moved (u := U) (U := U.calling g mk a) (Vm.Alike.refl U.vm) qK⟩, va_recv hKc hPc (ci := 1) (q0 := 0) rfl rfl, fun U hU hW => ⟨rfl, by rw [hU]; exact hPc, va_K.moved hW.alike hKc⟩⟩ rfl rfl hl.1 rfl (lv_room (Nat.le_of_ble_eq_true rfl)) dX1_tally_82 ⟨Nat.le_of_ble_eq_true rfl, Nat.le_of_ble_eq_true rfl⟩).run (fun r1 hr1 => ?_)
  obtain rfl := hr1
  exact W.iret (v := 4) hx hb hr (fun t ht hW => ⟨4, rfl, by (first | rfl | assumption | decide | (simp_all; done) | grind), ht⟩) (fun _ h => nomatch h) dX1_tally_85

set_option maxHeartbeats 4000000 in
set_option maxRecDepth 100000 in
theorem k1_tally8 (l : Launch) (dC : Nat → ClassId) (dI : Nat → Nat → Nat) (h : Nat) (ro : Nat) (ba : Nat) (ra : Nat) (su : Nat) (tr : Nat) (cR : ClassId) (cB : ClassId) (cA : ClassId) (fr : Nat → Int32) (cS : ClassId) (hra : ∀ j : Nat, j < 12 → fr j = 4) : Met l yX1_tally wsX1_tally ({ frames := 3, cells := 0, slots := 0, locals := 64 }) (va_Pc [.ref h, .int 8] (fun U => va_P (dC, dI) vwCl [(h, .inr (1, [.ref ro, .int 0, .ref ba, .ref ra, .ref su, .int 0, .ref tr])), (ro, .inl (cR, 6, .inr (.inr (.inr (.inr (fun _ => none)))))), (ba, .inl (cB, 3, .inl (fun _ => 0))), (ra, .inl (cA, 12, .inl fr)), (su, .inl (cS, 12, .inl (fun _ => 0)))] U.heap ∧ va_K (dC, dI) vwCl [(cR, .object RX0), (cB, .int), (cA, .int), (cS, .int)] U)) (vp_Si (fun r : Int32 => r = 0)) 0 0 (fun _ => False) := by
  refine Met.ofW (cc := cX1_tally) (maxL := 2) (ret := (some .int)) (by decide) rfl ?_
  intro p e s m args below meth c s₁ B hml hv
  obtain ⟨rfl, hP, hK⟩ := hv
  have hx := B.exec
  have hb := B.bytes
  have hr := B.returns
  have hts := atoms_spec (ws := wsX1_tally) B.pre
  have hown : s.vm.findClass RX1 = some m.cls := findClass_of_methodNamed B.named
  have hlocks := B.notSynchronized
  have hP : va_P (dC, dI) vwCl [(h, .inr (1, [.ref ro, .int 0, .ref ba, .ref ra, .ref su, .int 0, .ref tr])), (ro, .inl (cR, 6, .inr (.inr (.inr (.inr (fun _ => none)))))), (ba, .inl (cB, 3, .inl (fun _ => 0))), (ra, .inl (cA, 12, .inl fr)), (su, .inl (cS, 12, .inl (fun _ => 0)))] s.heap := hP
  have hl := lv_entry ([.ref h, .int 8]) (n := 2) (Nat.le_of_ble_eq_true rfl)
  rw [lg_entry_eq]
  generalize (lg_sl ([.ref h, .int 8]) ++ List.replicate (2 - (lg_sl ([.ref h, .int 8])).length) Slot.unset).toArray = ls at hl ⊢
  have hl : lv_has ls 2 [(0, .ref h), (1, .int 8)] := hl
  refine lv_iload_n hx hb dX1_tally_0 rfl (lv_at hl 1 rfl) ?_
  refine lv_tableOut (tgt := 86) hx hb dX1_tally_1 (by decide) (by decide) ?_
  refine lv_aload_n hx hb dX1_tally_86 rfl (lv_at hl 0 rfl) ?_
  refine lv_iconst (v := 0) hx hb dX1_tally_87 (by decide) ?_
  have hPc := hP.sub (ws' := [(h, .inr (1, [.ref ro, .int 0, .ref ba, .ref ra, .ref su, .int 0, .ref tr])), (su, .inl (cS, 12, .inl (fun _ => 0)))]) [0, 4] rfl
  have hKc := hK.sub (tys' := [(cS, .int)]) [3] rfl
  refine vp_callSi (va_runV (As := [.int 0]) (rest := []) ⟨hx, hb, hml, hown, hts⟩ (k1_stormAhead0 l dC dI h ro ba ra su tr cS ) (cwV 1 hts gX1_tally_X1_stormAhead rfl rfl rfl (by decide +kernel) ⟨Nat.le_of_ble_eq_true rfl, Nat.le_of_ble_eq_true rfl⟩) ⟨fun a U g mk q => by obtain ⟨q0, qP, qK⟩ := q; exact ⟨q0, qP, va_K.moved (u := U) (U := U.calling g mk a) (Vm.Alike.refl U.vm) qK⟩, va_recv hKc hPc (ci := 1) (q0 := 0) rfl rfl, fun U hU hW => ⟨rfl, by rw [hU]; exact hPc, va_K.moved hW.alike hKc⟩⟩ rfl rfl hl.1 rfl (lv_room (Nat.le_of_ble_eq_true rfl)) dX1_tally_88 ⟨Nat.le_of_ble_eq_true rfl, Nat.le_of_ble_eq_true rfl⟩).run (fun r1 hr1 => ?_)
  obtain rfl := hr1
  exact W.iret (v := 0) hx hb hr (fun t ht hW => ⟨0, rfl, by (first | rfl | assumption | decide | (simp_all; done) | grind), ht⟩) (fun _ h => nomatch h) dX1_tally_91

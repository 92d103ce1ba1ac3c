section
set_option maxHeartbeats 4000000 in
set_option maxRecDepth 100000 in
theorem r1_isWithin10 (l : Launch) (dC : Nat → ClassId) (dI : Nat → Nat → Nat) : Met l yX1_isWithin wsX1_isWithin ({ frames := 0, cells := 0, slots := 0, locals := 0 }) (va_Pc [.int 10, .int 2, .int 10] (fun _ => True)) (vp_Si (fun r : Int32 => r = 1)) 0 0 (fun _ => False) := by
  refine Met.ofW (cc := cX1_isWithin) (maxL := 3) (ret := (some .boolean)) (by decide) rfl ?_
  intro p e s m args below meth c s₁ B hml hv
  obtain ⟨rfl, -⟩ := hv
  have hx := B.exec
  have hb := B.bytes
  have hr := B.returns
  have hts := atoms_spec (ws := wsX1_isWithin) B.pre
  have hown : s.vm.findClass RX1 = some m.cls := findClass_of_methodNamed B.named
  have hlocks := B.notSynchronized
  have hl := lv_entry ([.int 10, .int 2, .int 10]) (n := 3) (Nat.le_of_ble_eq_true rfl)
  rw [lg_entry_eq]
  generalize (lg_sl ([.int 10, .int 2, .int 10]) ++ List.replicate (3 - (lg_sl ([.int 10, .int 2, .int 10])).length) Slot.unset).toArray = ls at hl ⊢
  have hl : lv_has ls 3 [(0, .int 10), (1, .int 2), (2, .int 10)] := hl
  refine lv_iload_n hx hb dX1_isWithin_0 rfl (lv_at hl 0 rfl) ?_
  refine lv_iload_n hx hb dX1_isWithin_1 rfl (lv_at hl 1 rfl) ?_
  refine lv_icmp_lt (tgt := 14) hx hb dX1_isWithin_2 (by decide) (fun c1 => absurd c1 (by decide)) (fun c1 => ?_)
  refine lv_iload_n hx hb dX1_isWithin_5 rfl (lv_at hl 0 rfl) ?_
  refine lv_iload_n hx hb dX1_isWithin_6 rfl (lv_at hl 2 rfl) ?_
  refine lv_icmp_gt (tgt := 14) hx hb dX1_isWithin_7 (by decide) (fun c2 => absurd c2 (by decide)) (fun c2 => ?_)
  refine lv_iconst (v := 1) hx hb dX1_isWithin_10 (by decide) ?_
  refine lv_goto (tgt := 15) hx hb dX1_isWithin_11 (by decide) ?_
  exact W.zret (v := 1) hx hb hr (by decide) (fun t ht hW => ⟨1, rfl, by (first | rfl | assumption | decide | (simp_all; done) | grind), ht⟩) (fun _ h => nomatch h) dX1_isWithin_15

set_option maxHeartbeats 4000000 in
set_option maxRecDepth 100000 in
theorem r3_isIn10 (l : Launch) (dC : Nat → ClassId) (dI : Nat → Nat → Nat) : Met l yX3_isIn wsX3_isIn ({ frames := 0, cells := 0, slots := 0, locals := 0 }) (va_Pc [.int 10, .int 2, .int 10] (fun _ => True)) (vp_Si (fun r : Int32 => r = 1)) 0 0 (fun _ => False) := by
  refine Met.ofW (cc := cX3_isIn) (maxL := 3) (ret := (some .boolean)) (by decide) rfl ?_
  intro p e s m args below meth c s₁ B hml hv
  obtain ⟨rfl, -⟩ := hv
  have hx := B.exec
  have hb := B.bytes
  have hr := B.returns
  have hts := atoms_spec (ws := wsX3_isIn) B.pre
  have hown : s.vm.findClass RX3 = some m.cls := findClass_of_methodNamed B.named
  have hlocks := B.notSynchronized
  have hl := lv_entry ([.int 10, .int 2, .int 10]) (n := 3) (Nat.le_of_ble_eq_true rfl)
  rw [lg_entry_eq]
  generalize (lg_sl ([.int 10, .int 2, .int 10]) ++ List.replicate (3 - (lg_sl ([.int 10, .int 2, .int 10])).length) Slot.unset).toArray = ls at hl ⊢
  have hl : lv_has ls 3 [(0, .int 10), (1, .int 2), (2, .int 10)] := hl
  refine lv_iload_n hx hb dX3_isIn_0 rfl (lv_at hl 0 rfl) ?_
  refine lv_iload_n hx hb dX3_isIn_1 rfl (lv_at hl 1 rfl) ?_
  refine lv_icmp_lt (tgt := 14) hx hb dX3_isIn_2 (by decide) (fun c1 => absurd c1 (by decide)) (fun c1 => ?_)
  refine lv_iload_n hx hb dX3_isIn_5 rfl (lv_at hl 0 rfl) ?_
  refine lv_iload_n hx hb dX3_isIn_6 rfl (lv_at hl 2 rfl) ?_
  refine lv_icmp_gt (tgt := 14) hx hb dX3_isIn_7 (by decide) (fun c2 => absurd c2 (by decide)) (fun c2 => ?_)
  refine lv_iconst (v := 1) hx hb dX3_isIn_10 (by decide) ?_
  refine lv_goto (tgt := 15) hx hb dX3_isIn_11 (by decide) ?_
  exact W.zret (v := 1) hx hb hr (by decide) (fun t ht hW => ⟨1, rfl, by (first | rfl | assumption | decide | (simp_all; done) | grind), ht⟩) (fun _ h => nomatch h) dX3_isIn_15

set_option maxHeartbeats 4000000 in
set_option maxRecDepth 100000 in
theorem r1_isWithin6 (l : Launch) (dC : Nat → ClassId) (dI : Nat → Nat → Nat) : Met l yX1_isWithin wsX1_isWithin ({ frames := 0, cells := 0, slots := 0, locals := 0 }) (va_Pc [.int 6, .int 2, .int 6] (fun _ => True)) (vp_Si (fun r : Int32 => r = 1)) 0 0 (fun _ => False) := by
  refine Met.ofW (cc := cX1_isWithin) (maxL := 3) (ret := (some .boolean)) (by decide) rfl ?_
  intro p e s m args below meth c s₁ B hml hv
  obtain ⟨rfl, -⟩ := hv
  have hx := B.exec
  have hb := B.bytes
  have hr := B.returns
  have hts := atoms_spec (ws := wsX1_isWithin) B.pre
  have hown : s.vm.findClass RX1 = some m.cls := findClass_of_methodNamed B.named
  have hlocks := B.notSynchronized
  have hl := lv_entry ([.int 6, .int 2, .int 6]) (n := 3) (Nat.le_of_ble_eq_true rfl)
  rw [lg_entry_eq]
  generalize (lg_sl ([.int 6, .int 2, .int 6]) ++ List.replicate (3 - (lg_sl ([.int 6, .int 2, .int 6])).length) Slot.unset).toArray = ls at hl ⊢
  have hl : lv_has ls 3 [(0, .int 6), (1, .int 2), (2, .int 6)] := hl
  refine lv_iload_n hx hb dX1_isWithin_0 rfl (lv_at hl 0 rfl) ?_
  refine lv_iload_n hx hb dX1_isWithin_1 rfl (lv_at hl 1 rfl) ?_
  refine lv_icmp_lt (tgt := 14) hx hb dX1_isWithin_2 (by decide) (fun c1 => absurd c1 (by decide)) (fun c1 => ?_)
  refine lv_iload_n hx hb dX1_isWithin_5 rfl (lv_at hl 0 rfl) ?_
  refine lv_iload_n hx hb dX1_isWithin_6 rfl (lv_at hl 2 rfl) ?_
  refine lv_icmp_gt (tgt := 14) hx hb dX1_isWithin_7 (by decide) (fun c2 => absurd c2 (by decide)) (fun c2 => ?_)
  refine lv_iconst (v := 1) hx hb dX1_isWithin_10 (by decide) ?_
  refine lv_goto (tgt := 15) hx hb dX1_isWithin_11 (by decide) ?_
  exact W.zret (v := 1) hx hb hr (by decide) (fun t ht hW => ⟨1, rfl, by (first | rfl | assumption | decide | (simp_all; done) | grind), ht⟩) (fun _ h => nomatch h) dX1_isWithin_15

set_option maxHeartbeats 4000000 in
set_option maxRecDepth 100000 in
theorem r3_isIn6 (l : Launch) (dC : Nat → ClassId) (dI : Nat → Nat → Nat) : Met l yX3_isIn wsX3_isIn ({ frames := 0, cells := 0, slots := 0, locals := 0 }) (va_Pc [.int 6, .int 2, .int 6] (fun _ => True)) (vp_Si (fun r : Int32 => r = 1)) 0 0 (fun _ => False) := by
  refine Met.ofW (cc := cX3_isIn) (maxL := 3) (ret := (some .boolean)) (by decide) rfl ?_
  intro p e s m args below meth c s₁ B hml hv
  obtain ⟨rfl, -⟩ := hv
  have hx := B.exec
  have hb := B.bytes
  have hr := B.returns
  have hts := atoms_spec (ws := wsX3_isIn) B.pre
  have hown : s.vm.findClass RX3 = some m.cls := findClass_of_methodNamed B.named
  have hlocks := B.notSynchronized
  have hl := lv_entry ([.int 6, .int 2, .int 6]) (n := 3) (Nat.le_of_ble_eq_true rfl)
  rw [lg_entry_eq]
  generalize (lg_sl ([.int 6, .int 2, .int 6]) ++ List.replicate (3 - (lg_sl ([.int 6, .int 2, .int 6])).length) Slot.unset).toArray = ls at hl ⊢
  have hl : lv_has ls 3 [(0, .int 6), (1, .int 2), (2, .int 6)] := hl
  refine lv_iload_n hx hb dX3_isIn_0 rfl (lv_at hl 0 rfl) ?_
  refine lv_iload_n hx hb dX3_isIn_1 rfl (lv_at hl 1 rfl) ?_
  refine lv_icmp_lt (tgt := 14) hx hb dX3_isIn_2 (by decide) (fun c1 => absurd c1 (by decide)) (fun c1 => ?_)
  refine lv_iload_n hx hb dX3_isIn_5 rfl (lv_at hl 0 rfl) ?_
  refine lv_iload_n hx hb dX3_isIn_6 rfl (lv_at hl 2 rfl) ?_
  refine lv_icmp_gt (tgt := 14) hx hb dX3_isIn_7 (by decide) (fun c2 => absurd c2 (by decide)) (fun c2 => ?_)
  refine lv_iconst (v := 1) hx hb dX3_isIn_10 (by decide) ?_
  refine lv_goto (tgt := 15) hx hb dX3_isIn_11 (by decide) ?_
  exact W.zret (v := 1) hx hb hr (by decide) (fun t ht hW => ⟨1, rfl, by (first | rfl | assumption | decide | (simp_all; done) | grind), ht⟩) (fun _ h => nomatch h) dX3_isIn_15

set_option maxHeartbeats 4000000 in
set_option maxRecDepth 100000 in
theorem r1_isWithin30 (l : Launch) (dC : Nat → ClassId) (dI : Nat → Nat → Nat) : Met l yX1_isWithin wsX1_isWithin ({ frames := 0, cells := 0, slots := 0, locals := 0 }) (va_Pc [.int 30, .int 30, .int 60] (fun _ => True)) (vp_Si (fun r : Int32 => r = 1)) 0 0 (fun _ => False) := by
  refine Met.ofW (cc := cX1_isWithin) (maxL := 3) (ret := (some .boolean)) (by decide) rfl ?_
  intro p e s m args below meth c s₁ B hml hv
  obtain ⟨rfl, -⟩ := hv
  have hx := B.exec
  have hb := B.bytes
  have hr := B.returns
  have hts := atoms_spec (ws := wsX1_isWithin) B.pre
  have hown : s.vm.findClass RX1 = some m.cls := findClass_of_methodNamed B.named
  have hlocks := B.notSynchronized
  have hl := lv_entry ([.int 30, .int 30, .int 60]) (n := 3) (Nat.le_of_ble_eq_true rfl)
  rw [lg_entry_eq]
  generalize (lg_sl ([.int 30, .int 30, .int 60]) ++ List.replicate (3 - (lg_sl ([.int 30, .int 30, .int 60])).length) Slot.unset).toArray = ls at hl ⊢
  have hl : lv_has ls 3 [(0, .int 30), (1, .int 30), (2, .int 60)] := hl
  refine lv_iload_n hx hb dX1_isWithin_0 rfl (lv_at hl 0 rfl) ?_
  refine lv_iload_n hx hb dX1_isWithin_1 rfl (lv_at hl 1 rfl) ?_
  refine lv_icmp_lt (tgt := 14) hx hb dX1_isWithin_2 (by decide) (fun c1 => absurd c1 (by decide)) (fun c1 => ?_)
  refine lv_iload_n hx hb dX1_isWithin_5 rfl (lv_at hl 0 rfl) ?_
  refine lv_iload_n hx hb dX1_isWithin_6 rfl (lv_at hl 2 rfl) ?_
  refine lv_icmp_gt (tgt := 14) hx hb dX1_isWithin_7 (by decide) (fun c2 => absurd c2 (by decide)) (fun c2 => ?_)
  refine lv_iconst (v := 1) hx hb dX1_isWithin_10 (by decide) ?_
  refine lv_goto (tgt := 15) hx hb dX1_isWithin_11 (by decide) ?_
  exact W.zret (v := 1) hx hb hr (by decide) (fun t ht hW => ⟨1, rfl, by (first | rfl | assumption | decide | (simp_all; done) | grind), ht⟩) (fun _ h => nomatch h) dX1_isWithin_15

set_option maxHeartbeats 4000000 in
set_option maxRecDepth 100000 in
theorem r3_isIn30 (l : Launch) (dC : Nat → ClassId) (dI : Nat → Nat → Nat) : Met l yX3_isIn wsX3_isIn ({ frames := 0, cells := 0, slots := 0, locals := 0 }) (va_Pc [.int 30, .int 30, .int 60] (fun _ => True)) (vp_Si (fun r : Int32 => r = 1)) 0 0 (fun _ => False) := by
  refine Met.ofW (cc := cX3_isIn) (maxL := 3) (ret := (some .boolean)) (by decide) rfl ?_
  intro p e s m args below meth c s₁ B hml hv
  obtain ⟨rfl, -⟩ := hv
  have hx := B.exec
  have hb := B.bytes
  have hr := B.returns
  have hts := atoms_spec (ws := wsX3_isIn) B.pre
  have hown : s.vm.findClass RX3 = some m.cls := findClass_of_methodNamed B.named
  have hlocks := B.notSynchronized
  have hl := lv_entry ([.int 30, .int 30, .int 60]) (n := 3) (Nat.le_of_ble_eq_true rfl)
  rw [lg_entry_eq]
  generalize (lg_sl ([.int 30, .int 30, .int 60]) ++ List.replicate (3 - (lg_sl ([.int 30, .int 30, .int 60])).length) Slot.unset).toArray = ls at hl ⊢
  have hl : lv_has ls 3 [(0, .int 30), (1, .int 30), (2, .int 60)] := hl
  refine lv_iload_n hx hb dX3_isIn_0 rfl (lv_at hl 0 rfl) ?_
  refine lv_iload_n hx hb dX3_isIn_1 rfl (lv_at hl 1 rfl) ?_
  refine lv_icmp_lt (tgt := 14) hx hb dX3_isIn_2 (by decide) (fun c1 => absurd c1 (by decide)) (fun c1 => ?_)
  refine lv_iload_n hx hb dX3_isIn_5 rfl (lv_at hl 0 rfl) ?_
  refine lv_iload_n hx hb dX3_isIn_6 rfl (lv_at hl 2 rfl) ?_
  refine lv_icmp_gt (tgt := 14) hx hb dX3_isIn_7 (by decide) (fun c2 => absurd c2 (by decide)) (fun c2 => ?_)
  refine lv_iconst (v := 1) hx hb dX3_isIn_10 (by decide) ?_
  refine lv_goto (tgt := 15) hx hb dX3_isIn_11 (by decide) ?_
  exact W.zret (v := 1) hx hb hr (by decide) (fun t ht hW => ⟨1, rfl, by (first | rfl | assumption | decide | (simp_all; done) | grind), ht⟩) (fun _ h => nomatch h) dX3_isIn_15

set_option maxHeartbeats 4000000 in
set_option maxRecDepth 100000 in
theorem r1_build0 (l : Launch) (dC : Nat → ClassId) (dI : Nat → Nat → Nat) (sz : Nat) (h : Nat) (ro : Nat) (ba : Nat) (ra : Nat) (su : Nat) (tr : Nat) (cR : ClassId) (fr : Nat → Option Nat) : Met l yX1_build wsX1_build ({ frames := 2, cells := 5, slots := 250, locals := 35 }) (va_Pc [.ref h, .int 10, .int 6, .int 30] (fun U => U.heap.size = sz ∧ va_P (dC, dI) vwCl [(h, .inr (1, [.ref ro, .int 0, .ref ba, .ref ra, .ref su, .int 0, .ref tr])), (ro, .inl (cR, 6, .inr (.inr (.inr (.inr fr)))))] U.heap ∧ va_K (dC, dI) vwCl [(cR, .object RX0)] U ∧ va_D (fun _ => True) [(h, .inr (1, [.ref ro, .int 0, .ref ba, .ref ra, .ref su, .int 0, .ref tr])), (ro, .inl (cR, 6, .inr (.inr (.inr (.inr fr)))))])) (va_Qi (fun (r : Int32) (u : Nat × Nat × Nat × Nat × Nat × ClassId) => r = 0) (fun (u : Nat × Nat × Nat × Nat × Nat × ClassId) (t : State) => va_P (dC, dI) vwCl [(h, .inr (1, [.ref ro, .int 1, .ref ba, .ref ra, .ref su, .int 0, .ref tr])), (ro, .inl (cR, 6, .inr (.inr (.inr (.inr (va_up fr 0 (some u.1))))))), (u.1, .inr (0, [.int 10, .int 6, .int 30, .int 100, .int 0, .int 0, .ref u.2.1, .ref u.2.2.1, .ref u.2.2.2.1, .ref u.2.2.2.2.1])), (u.2.2.1, .inl (u.2.2.2.2.2, 60, .inl (fun _ => 0)))] t.heap ∧ va_K (dC, dI) vwCl [(u.2.2.2.2.2, .int)] t ∧ va_D (va_A [(h, .inr (1, [.ref ro, .int 0, .ref ba, .ref ra, .ref su, .int 0, .ref tr])), (ro, .inl (cR, 6, .inr (.inr (.inr (.inr fr)))))] sz) [(h, .inr (1, [.ref ro, .int 1, .ref ba, .ref ra, .ref su, .int 0, .ref tr])), (ro, .inl (cR, 6, .inr (.inr (.inr (.inr (va_up fr 0 (some u.1))))))), (u.1, .inr (0, [.int 10, .int 6, .int 30, .int 100, .int 0, .int 0, .ref u.2.1, .ref u.2.2.1, .ref u.2.2.2.1, .ref u.2.2.2.2.1])), (u.2.2.1, .inl (u.2.2.2.2.2, 60, .inl (fun _ => 0)))]) (va_A [(h, .inr (1, [.ref ro, .int 0, .ref ba, .ref ra, .ref su, .int 0, .ref tr])), (ro, .inl (cR, 6, .inr (.inr (.inr (.inr fr)))))] sz)) 5 250 (va_A [(h, .inr (1, [.ref ro, .int 0, .ref ba, .ref ra, .ref su, .int 0, .ref tr])), (ro, .inl (cR, 6, .inr (.inr (.inr (.inr fr)))))] sz) := by
  refine Met.ofW (cc := cX1_build) (maxL := 5) (ret := (some .int)) (by decide) rfl ?_
  intro p e s m args below meth c s₁ B hml hv
  obtain ⟨rfl, hsz, hP, hK, hD0⟩ := hv
  have hx := B.exec
  have hb := B.bytes
  have hr := B.returns
  have hts := atoms_spec (ws := wsX1_build) B.pre
  have hown : s.vm.findClass RX1 = some m.cls := findClass_of_methodNamed B.named
  have hlocks := B.notSynchronized
  subst hsz
  have hD := hD0.self (sz := s.heap.size)
  generalize hAe : va_A [(h, .inr (1, [.ref ro, .int 0, .ref ba, .ref ra, .ref su, .int 0, .ref tr])), (ro, .inl (cR, 6, .inr (.inr (.inr (.inr fr)))))] s.heap.size = A at hD ⊢
  have hA : ∀ q : Nat, s.heap.size ≤ q → A q := fun q h => by rw [← hAe]; exact Or.inr h
  have hS : va_S A s.heap s.heap [] := va_S.rf
  have hP : va_P (dC, dI) vwCl [(h, .inr (1, [.ref ro, .int 0, .ref ba, .ref ra, .ref su, .int 0, .ref tr])), (ro, .inl (cR, 6, .inr (.inr (.inr (.inr fr)))))] s.heap := hP
  have hl := lv_entry ([.ref h, .int 10, .int 6, .int 30]) (n := 5) (Nat.le_of_ble_eq_true rfl)
  rw [lg_entry_eq]
  generalize (lg_sl ([.ref h, .int 10, .int 6, .int 30]) ++ List.replicate (5 - (lg_sl ([.ref h, .int 10, .int 6, .int 30])).length) Slot.unset).toArray = ls at hl ⊢
  have hl : lv_has ls 5 [(0, .ref h), (1, .int 10), (2, .int 6), (3, .int 30)] := hl
  refine lv_iload_n hx hb dX1_build_0 rfl (lv_at hl 1 rfl) ?_
  refine lv_iconst (v := 2) hx hb dX1_build_1 (by decide) ?_
  refine lv_bipush (v := 10) hx hb dX1_build_2 (by decide) ?_
  refine vp_callSi (va_runS (As := [.int 10, .int 2, .int 10]) (rest := []) ⟨hx, hb, hml, hown, hts⟩ (r1_isWithin10 l dC dI  ) (va_cwS 3 hts gX1_build_X1_isWithin rfl rfl rfl (by decide +kernel) ⟨Nat.le_of_ble_eq_true rfl, Nat.le_of_ble_eq_true rfl⟩) ⟨fun a U g mk q => q, fun U hU hW => ⟨rfl, trivial⟩⟩ rfl rfl hl.1 rfl (lv_room (Nat.le_of_ble_eq_true rfl)) dX1_build_4 ⟨Nat.le_of_ble_eq_true rfl, Nat.le_of_ble_eq_true rfl⟩).run (fun r1 hr1 => ?_)
  obtain rfl := hr1
  refine lv_if_eq (tgt := 31) hx hb dX1_build_7 (by decide) (fun c2 => absurd c2 (by decide)) (fun c2 => ?_)
  refine lv_iload_n hx hb dX1_build_10 rfl (lv_at hl 2 rfl) ?_
  refine lv_iconst (v := 2) hx hb dX1_build_11 (by decide) ?_
  refine lv_bipush (v := 6) hx hb dX1_build_12 (by decide) ?_
  refine vp_callSi (va_runS (As := [.int 6, .int 2, .int 6]) (rest := []) ⟨hx, hb, hml, hown, hts⟩ (r1_isWithin6 l dC dI  ) (va_cwS 3 hts gX1_build_X1_isWithin rfl rfl rfl (by decide +kernel) ⟨Nat.le_of_ble_eq_true rfl, Nat.le_of_ble_eq_true rfl⟩) ⟨fun a U g mk q => q, fun U hU hW => ⟨rfl, trivial⟩⟩ rfl rfl hl.1 rfl (lv_room (Nat.le_of_ble_eq_true rfl)) dX1_build_14 ⟨Nat.le_of_ble_eq_true rfl, Nat.le_of_ble_eq_true rfl⟩).run (fun r3 hr3 => ?_)
  obtain rfl := hr3
  refine lv_if_eq (tgt := 31) hx hb dX1_build_17 (by decide) (fun c4 => absurd c4 (by decide)) (fun c4 => ?_)
  refine lv_iload_n hx hb dX1_build_20 rfl (lv_at hl 3 rfl) ?_
  refine lv_bipush (v := 30) hx hb dX1_build_21 (by decide) ?_
  refine lv_bipush (v := 60) hx hb dX1_build_23 (by decide) ?_
  refine vp_callSi (va_runS (As := [.int 30, .int 30, .int 60]) (rest := []) ⟨hx, hb, hml, hown, hts⟩ (r1_isWithin30 l dC dI  ) (va_cwS 3 hts gX1_build_X1_isWithin rfl rfl rfl (by decide +kernel) ⟨Nat.le_of_ble_eq_true rfl, Nat.le_of_ble_eq_true rfl⟩) ⟨fun a U g mk q => q, fun U hU hW => ⟨rfl, trivial⟩⟩ rfl rfl hl.1 rfl (lv_room (Nat.le_of_ble_eq_true rfl)) dX1_build_25 ⟨Nat.le_of_ble_eq_true rfl, Nat.le_of_ble_eq_true rfl⟩).run (fun r5 hr5 => ?_)
  obtain rfl := hr5
  refine lv_if_ne (tgt := 41) hx hb dX1_build_28 (by decide) (fun c6 => ?_) (fun c6 => absurd c6 (by decide))
  refine lv_aload_n hx hb dX1_build_41 rfl (lv_at hl 0 rfl) ?_
  refine va_get (D := (dC, dI)) (ci := 1) (v := .int 0) (C := RX1) (T := TX1) (N := 7) hx hb hts (by decide +kernel) hown hK hP 0 rfl rfl 1 (by decide) (hts (.fieldLink RX1 43 "ThatchRoof" "built" "I") (by decide +kernel)) (fun _ h9 => h9) rfl dX1_build_42 ?_
  refine lv_bipush (v := 6) hx hb dX1_build_45 (by decide) ?_
  refine lv_icmp_lt (tgt := 60) hx hb dX1_build_47 (by decide) (fun c7 => ?_) (fun c7 => absurd c7 (by decide))
  refine lv_aload_n hx hb dX1_build_60 rfl (lv_at hl 0 rfl) ?_
  refine va_get (D := (dC, dI)) (ci := 1) (v := .int 0) (C := RX1) (T := TX1) (N := 7) hx hb hts (by decide +kernel) hown hK hP 0 rfl rfl 1 (by decide) (hts (.fieldLink RX1 43 "ThatchRoof" "built" "I") (by decide +kernel)) (fun _ h9 => h9) rfl dX1_build_61 ?_
  refine lv_istore (lv' := [(4, .int 0), (0, .ref h), (1, .int 10), (2, .int 6), (3, .int 30)]) hx hb dX1_build_64 hl (by decide) rfl (fun ls hl => ?_)
  refine lv_aload_n hx hb dX1_build_66 rfl (lv_at hl 1 rfl) ?_
  refine va_get (D := (dC, dI)) (ci := 1) (v := .ref ro) (C := RX1) (T := TX1) (N := 7) hx hb hts (by decide +kernel) hown hK hP 0 rfl rfl 0 (by decide) (hts (.fieldLink RX1 11 "ThatchRoof" "roofs" "[LThatchRoof$Roof;") (by decide +kernel)) (fun _ h9 => h9) rfl dX1_build_67 ?_
  refine lv_iload hx hb dX1_build_70 (lv_at hl 0 rfl) ?_
  refine va_new (ci := 0) (fs := [.int 0, .int 0, .int 0, .int 0, .int 0, .int 0, .null, .null, .null, .null]) (C := RX0) (T := TX0) (N := 10) hx hb hts (by decide +kernel) tyX0 tyX0_ok hown (hts (.classLink RX1 9 RX0) (by decide +kernel)) (hts (.instantiable RX0 10) (by decide +kernel)) (hts (.initialized RX0) (by decide +kernel)) hK hP hD hS hA rfl (fun j hj => by rcases (show j = 0 ∨ j = 1 ∨ j = 2 ∨ j = 3 ∨ j = 4 ∨ j = 5 ∨ j = 6 ∨ j = 7 ∨ j = 8 ∨ j = 9 by omega) with rfl | rfl | rfl | rfl | rfl | rfl | rfl | rfl | rfl | rfl <;> rfl) (Nat.le_of_ble_eq_true rfl) (Nat.le_of_ble_eq_true rfl) dX1_build_72 (fun q8 H hP hD hS => ?_)
  refine W.widen (k := 1) (n := 10) (Nat.le_of_ble_eq_true rfl) (Nat.le_of_ble_eq_true rfl) ?_
  have hP : va_P (dC, dI) vwCl [(h, .inr (1, [.ref ro, .int 0, .ref ba, .ref ra, .ref su, .int 0, .ref tr])), (ro, .inl (cR, 6, .inr (.inr (.inr (.inr fr))))), (q8, .inr (0, [.int 0, .int 0, .int 0, .int 0, .int 0, .int 0, .null, .null, .null, .null]))] H := hP
  have hD : va_D A [(h, .inr (1, [.ref ro, .int 0, .ref ba, .ref ra, .ref su, .int 0, .ref tr])), (ro, .inl (cR, 6, .inr (.inr (.inr (.inr fr))))), (q8, .inr (0, [.int 0, .int 0, .int 0, .int 0, .int 0, .int 0, .null, .null, .null, .null]))] := hD
  refine lv_dup hx hb dX1_build_75 rfl ?_
  refine lv_iload_n hx hb dX1_build_76 rfl (lv_at hl 2 rfl) ?_
  refine lv_iload_n hx hb dX1_build_77 rfl (lv_at hl 3 rfl) ?_
  refine lv_iload_n hx hb dX1_build_78 rfl (lv_at hl 4 rfl) ?_
  have hPc := hP.sub (ws' := [(q8, .inr (0, [.int 0, .int 0, .int 0, .int 0, .int 0, .int 0, .null, .null, .null, .null]))]) [2] rfl
  have hKc := hK.sub (tys' := []) [] rfl
  have hDc := hD.sub (ws' := [(q8, .inr (0, [.int 0, .int 0, .int 0, .int 0, .int 0, .int 0, .null, .null, .null, .null]))]) [2] (by decide) rfl
  have hFc := va_free (wc := [(q8, .inr (0, [.int 0, .int 0, .int 0, .int 0, .int 0, .int 0, .null, .null, .null, .null]))]) hD hS hA [2] rfl
  refine va_callv (va_runI (As := [.int 10, .int 6, .int 30]) (rest := [.ref q8, .int 0, .ref ro]) ⟨hx, hb, hml, hown, hts⟩ (k0_init l dC dI H.size q8 10 6 30 ) (cwI 3 hts gX1_build_X0_init rfl rfl rfl (hts (.initialized RX0) (by decide +kernel)) (hts (.methodLink RX1 25 yX0_init) (by decide +kernel)) (hts (.instanceMethod yX0_init) (by decide +kernel)) rfl (by decide +kernel) ⟨Nat.le_of_ble_eq_true rfl, Nat.le_of_ble_eq_true rfl⟩) ⟨fun a U g mk q => by obtain ⟨q0, q1, qP, qK, qD⟩ := q; exact ⟨q0, q1, qP, va_K.moved (u := U) (U := U.calling g mk a) (Vm.Alike.refl U.vm) qK, qD⟩, fun U hU hW => ⟨rfl, by rw [hU], by rw [hU]; exact hPc, va_K.moved hW.alike hKc, hDc.weaken (fun _ _ _ _ => trivial)⟩⟩ rfl rfl hl.1 rfl (lv_room (Nat.le_of_ble_eq_true rfl)) dX1_build_79 ⟨Nat.le_of_ble_eq_true rfl, Nat.le_of_ble_eq_true rfl⟩) hS (fun q _ h => hFc q h) hFc (fun u t H1 locs ht hvm hr9 hB hz1 hk1 hS => ?_)
  obtain ⟨k__10, t__11, p__12, m__13, c1__14, c2__15, c3__16, c4__17⟩ := u
  obtain ⟨hP1, hK1, hD1⟩ := hB
  rw [ht] at hP1
  have hK1 := va_K.moved hvm.symm hK1
  try dsimp only at hr9
  obtain ⟨hP, hD⟩ := va_join (wr := [(h, .inr (1, [.ref ro, .int 0, .ref ba, .ref ra, .ref su, .int 0, .ref tr])), (ro, .inl (cR, 6, .inr (.inr (.inr (.inr fr)))))]) (w1 := [(q8, .inr (0, [.int 10, .int 6, .int 30, .int 100, .int 0, .int 0, .ref k__10, .ref t__11, .ref p__12, .ref m__13])), (k__10, .inl (c1__14, 60, .inl (fun _ => 0))), (t__11, .inl (c2__15, 60, .inl (fun _ => 0))), (p__12, .inl (c3__16, 60, .inl (fun _ => 0))), (m__13, .inl (c4__17, 60, .inl (fun _ => 0)))]) hP hD [2] [0, 1] rfl rfl (by decide) (by decide) hk1 hFc hP1 hD1
  have hK := hK.app hK1
  have hK : va_K (dC, dI) vwCl [(cR, .object RX0), (c1__14, .int), (c2__15, .int), (c3__16, .int), (c4__17, .int)] s := hK
  generalize H1 = H at hP hS ⊢
  have hP : va_P (dC, dI) vwCl [(h, .inr (1, [.ref ro, .int 0, .ref ba, .ref ra, .ref su, .int 0, .ref tr])), (ro, .inl (cR, 6, .inr (.inr (.inr (.inr fr))))), (q8, .inr (0, [.int 10, .int 6, .int 30, .int 100, .int 0, .int 0, .ref k__10, .ref t__11, .ref p__12, .ref m__13])), (k__10, .inl (c1__14, 60, .inl (fun _ => 0))), (t__11, .inl (c2__15, 60, .inl (fun _ => 0))), (p__12, .inl (c3__16, 60, .inl (fun _ => 0))), (m__13, .inl (c4__17, 60, .inl (fun _ => 0)))] H := hP
  have hD : va_D A [(h, .inr (1, [.ref ro, .int 0, .ref ba, .ref ra, .ref su, .int 0, .ref tr])), (ro, .inl (cR, 6, .inr (.inr (.inr (.inr fr))))), (q8, .inr (0, [.int 10, .int 6, .int 30, .int 100, .int 0, .int 0, .ref k__10, .ref t__11, .ref p__12, .ref m__13])), (k__10, .inl (c1__14, 60, .inl (fun _ => 0))), (t__11, .inl (c2__15, 60, .inl (fun _ => 0))), (p__12, .inl (c3__16, 60, .inl (fun _ => 0))), (m__13, .inl (c4__17, 60, .inl (fun _ => 0)))] := hD
  refine W.widen (k := 5) (n := 250) (Nat.le_of_ble_eq_true rfl) (Nat.le_of_ble_eq_true rfl) ?_
  obtain - := hr9
  refine va_astq hx hb hK hP hD hS 1 0 2 0 rfl rfl rfl rfl (vp_in_nI (n := 0) (by decide) (by decide)) dX1_build_82 (fun H locs hP hD hS => ?_)
  have hP : va_P (dC, dI) vwCl [(h, .inr (1, [.ref ro, .int 0, .ref ba, .ref ra, .ref su, .int 0, .ref tr])), (ro, .inl (cR, 6, .inr (.inr (.inr (.inr (va_up fr 0 (some q8))))))), (q8, .inr (0, [.int 10, .int 6, .int 30, .int 100, .int 0, .int 0, .ref k__10, .ref t__11, .ref p__12, .ref m__13])), (k__10, .inl (c1__14, 60, .inl (fun _ => 0))), (t__11, .inl (c2__15, 60, .inl (fun _ => 0))), (p__12, .inl (c3__16, 60, .inl (fun _ => 0))), (m__13, .inl (c4__17, 60, .inl (fun _ => 0)))] H := hP
  have hD : va_D A [(h, .inr (1, [.ref ro, .int 0, .ref ba, .ref ra, .ref su, .int 0, .ref tr])), (ro, .inl (cR, 6, .inr (.inr (.inr (.inr (va_up fr 0 (some q8))))))), (q8, .inr (0, [.int 10, .int 6, .int 30, .int 100, .int 0, .int 0, .ref k__10, .ref t__11, .ref p__12, .ref m__13])), (k__10, .inl (c1__14, 60, .inl (fun _ => 0))), (t__11, .inl (c2__15, 60, .inl (fun _ => 0))), (p__12, .inl (c3__16, 60, .inl (fun _ => 0))), (m__13, .inl (c4__17, 60, .inl (fun _ => 0)))] := hD
  refine lv_aload_n hx hb dX1_build_83 rfl (lv_at hl 1 rfl) ?_
  refine lv_dup hx hb dX1_build_84 rfl ?_
  refine va_get (D := (dC, dI)) (ci := 1) (v := .int 0) (C := RX1) (T := TX1) (N := 7) hx hb hts (by decide +kernel) hown hK hP 0 rfl rfl 1 (by decide) (hts (.fieldLink RX1 43 "ThatchRoof" "built" "I") (by decide +kernel)) (fun _ h9 => h9) rfl dX1_build_85 ?_
  refine lv_iconst (v := 1) hx hb dX1_build_88 (by decide) ?_
  refine lv_iadd hx hb dX1_build_89 ?_
  refine W.eq (g2 := F0 m 90 ls [.int 1, .ref h]) rfl ?_
  refine va_put (D := (dC, dI)) (ci := 1) (v := .int 1) (ty := .int) (C := RX1) (T := TX1) (N := 7) hx hb hts (by decide +kernel) tyX1 tyX1_ok nmX1 hown hK hP hD hS 0 rfl rfl 1 (by decide) (hts (.fieldLink RX1 43 "ThatchRoof" "built" "I") (by decide +kernel)) (fun _ h9 => h9) rfl (by decide +kernel) rfl rfl (Nat.le_of_ble_eq_true rfl) dX1_build_90 (fun H locs hP hD hS => ?_)
  have hP : va_P (dC, dI) vwCl [(h, .inr (1, [.ref ro, .int 1, .ref ba, .ref ra, .ref su, .int 0, .ref tr])), (ro, .inl (cR, 6, .inr (.inr (.inr (.inr (va_up fr 0 (some q8))))))), (q8, .inr (0, [.int 10, .int 6, .int 30, .int 100, .int 0, .int 0, .ref k__10, .ref t__11, .ref p__12, .ref m__13])), (k__10, .inl (c1__14, 60, .inl (fun _ => 0))), (t__11, .inl (c2__15, 60, .inl (fun _ => 0))), (p__12, .inl (c3__16, 60, .inl (fun _ => 0))), (m__13, .inl (c4__17, 60, .inl (fun _ => 0)))] H := hP
  have hD : va_D A [(h, .inr (1, [.ref ro, .int 1, .ref ba, .ref ra, .ref su, .int 0, .ref tr])), (ro, .inl (cR, 6, .inr (.inr (.inr (.inr (va_up fr 0 (some q8))))))), (q8, .inr (0, [.int 10, .int 6, .int 30, .int 100, .int 0, .int 0, .ref k__10, .ref t__11, .ref p__12, .ref m__13])), (k__10, .inl (c1__14, 60, .inl (fun _ => 0))), (t__11, .inl (c2__15, 60, .inl (fun _ => 0))), (p__12, .inl (c3__16, 60, .inl (fun _ => 0))), (m__13, .inl (c4__17, 60, .inl (fun _ => 0)))] := hD
  refine lv_iload hx hb dX1_build_93 (lv_at hl 0 rfl) ?_
  have hP9 := hP.sub (ws' := [(h, .inr (1, [.ref ro, .int 1, .ref ba, .ref ra, .ref su, .int 0, .ref tr])), (ro, .inl (cR, 6, .inr (.inr (.inr (.inr (va_up fr 0 (some q8))))))), (q8, .inr (0, [.int 10, .int 6, .int 30, .int 100, .int 0, .int 0, .ref k__10, .ref t__11, .ref p__12, .ref m__13])), (t__11, .inl (c2__15, 60, .inl (fun _ => 0)))]) [0, 1, 2, 4] rfl
  have hD9 := hD.sub (ws' := [(h, .inr (1, [.ref ro, .int 1, .ref ba, .ref ra, .ref su, .int 0, .ref tr])), (ro, .inl (cR, 6, .inr (.inr (.inr (.inr (va_up fr 0 (some q8))))))), (q8, .inr (0, [.int 10, .int 6, .int 30, .int 100, .int 0, .int 0, .ref k__10, .ref t__11, .ref p__12, .ref m__13])), (t__11, .inl (c2__15, 60, .inl (fun _ => 0)))]) [0, 1, 2, 4] (by decide) rfl
  have hK9 := hK.sub (tys' := [(c2__15, .int)]) [2] rfl
  refine W.widen (k := 5) (n := 250) (Nat.le_of_ble_eq_true rfl) (Nat.le_of_ble_eq_true rfl) ?_
  exact W.iret (v := 0) hx hb hr (fun t ht hW => ⟨⟨0, (q8, k__10, t__11, p__12, m__13, c2__15), rfl, by (first | rfl | assumption | decide | (simp_all; done) | grind), ⟨by rw [ht]; exact hP9, va_K.moved hW.alike hK9, hD9⟩⟩, hS.F ht⟩) hS.2.2 dX1_build_95

set_option maxHeartbeats 4000000 in
set_option maxRecDepth 100000 in
theorem rL_build0 (l : Launch) (dC : Nat → ClassId) (dI : Nat → Nat → Nat) (sz : Nat) (h : Nat) (ro : Nat) (ba : Nat) (ra : Nat) (su : Nat) (tr : Nat) (cR : ClassId) (fr : Nat → Option Nat) (ou : Nat) (cO : ClassId) (fp : Nat → Int64) : Met l yL_build wsL_build ({ frames := 3, cells := 5, slots := 250, locals := 59 }) (va_Pc [.ref h, .int 10, .int 6, .int 30, .ref ou] (fun U => U.heap.size = sz ∧ va_P (dC, dI) vwCl [(h, .inr (1, [.ref ro, .int 0, .ref ba, .ref ra, .ref su, .int 0, .ref tr])), (ro, .inl (cR, 6, .inr (.inr (.inr (.inr fr))))), (ou, .inl (cO, 1, .inr (.inl fp)))] U.heap ∧ va_K (dC, dI) vwCl [(cR, .object RX0), (cO, .long)] U ∧ va_D (fun _ => True) [(h, .inr (1, [.ref ro, .int 0, .ref ba, .ref ra, .ref su, .int 0, .ref tr])), (ro, .inl (cR, 6, .inr (.inr (.inr (.inr fr))))), (ou, .inl (cO, 1, .inr (.inl fp)))])) (va_Qi (fun (r : Int32) (u : Nat × Nat × Nat × Nat × Nat × ClassId) => r = 0) (fun (u : Nat × Nat × Nat × Nat × Nat × ClassId) (t : State) => va_P (dC, dI) vwCl [(h, .inr (1, [.ref ro, .int 1, .ref ba, .ref ra, .ref su, .int 0, .ref tr])), (ro, .inl (cR, 6, .inr (.inr (.inr (.inr (va_up fr 0 (some u.1))))))), (u.1, .inr (0, [.int 10, .int 6, .int 30, .int 100, .int 0, .int 0, .ref u.2.1, .ref u.2.2.1, .ref u.2.2.2.1, .ref u.2.2.2.2.1])), (u.2.2.1, .inl (u.2.2.2.2.2, 60, .inl (fun _ => 0))), (ou, .inl (cO, 1, .inr (.inl (vp_updL fp 0 0))))] t.heap ∧ va_K (dC, dI) vwCl [(u.2.2.2.2.2, .int)] t ∧ va_D (va_A [(h, .inr (1, [.ref ro, .int 0, .ref ba, .ref ra, .ref su, .int 0, .ref tr])), (ro, .inl (cR, 6, .inr (.inr (.inr (.inr fr))))), (ou, .inl (cO, 1, .inr (.inl fp)))] sz) [(h, .inr (1, [.ref ro, .int 1, .ref ba, .ref ra, .ref su, .int 0, .ref tr])), (ro, .inl (cR, 6, .inr (.inr (.inr (.inr (va_up fr 0 (some u.1))))))), (u.1, .inr (0, [.int 10, .int 6, .int 30, .int 100, .int 0, .int 0, .ref u.2.1, .ref u.2.2.1, .ref u.2.2.2.1, .ref u.2.2.2.2.1])), (u.2.2.1, .inl (u.2.2.2.2.2, 60, .inl (fun _ => 0))), (ou, .inl (cO, 1, .inr (.inl (vp_updL fp 0 0))))]) (va_A [(h, .inr (1, [.ref ro, .int 0, .ref ba, .ref ra, .ref su, .int 0, .ref tr])), (ro, .inl (cR, 6, .inr (.inr (.inr (.inr fr))))), (ou, .inl (cO, 1, .inr (.inl fp)))] sz)) 5 250 (va_A [(h, .inr (1, [.ref ro, .int 0, .ref ba, .ref ra, .ref su, .int 0, .ref tr])), (ro, .inl (cR, 6, .inr (.inr (.inr (.inr fr))))), (ou, .inl (cO, 1, .inr (.inl fp)))] sz) := by
  refine va_MetW (cc := cL_build) (maxL := 6) (ret := (some .int)) (by decide) rfl ?_
  intro p e s m args below meth c s₁ B hml hv
  obtain ⟨rfl, hsz, hP, hK, hD0⟩ := hv
  have hx := B.exec
  have hb := B.bytes
  have hr := B.returns
  have hts := atoms_spec (ws := wsL_build) B.pre
  have hown : s.vm.findClass RL = some m.cls := findClass_of_methodNamed B.named
  have hlocks := B.notSynchronized
  have htab := vx_table (x := yL_build) B (hts (.codeWith yL_build cL_build 6 (some .int) [(0, 12, 15, 13), (0, 12, 19, 15)]) List.mem_cons_self)
  subst hsz
  have hD := hD0.self (sz := s.heap.size)
  generalize hAe : va_A [(h, .inr (1, [.ref ro, .int 0, .ref ba, .ref ra, .ref su, .int 0, .ref tr])), (ro, .inl (cR, 6, .inr (.inr (.inr (.inr fr))))), (ou, .inl (cO, 1, .inr (.inl fp)))] s.heap.size = A at hD ⊢
  have hA : ∀ q : Nat, s.heap.size ≤ q → A q := fun q h => by rw [← hAe]; exact Or.inr h
  have hS : va_S A s.heap s.heap [] := va_S.rf
  have hP : va_P (dC, dI) vwCl [(h, .inr (1, [.ref ro, .int 0, .ref ba, .ref ra, .ref su, .int 0, .ref tr])), (ro, .inl (cR, 6, .inr (.inr (.inr (.inr fr))))), (ou, .inl (cO, 1, .inr (.inl fp)))] s.heap := hP
  have hl := lv_entry ([.ref h, .int 10, .int 6, .int 30, .ref ou]) (n := 6) (Nat.le_of_ble_eq_true rfl)
  rw [lg_entry_eq]
  generalize (lg_sl ([.ref h, .int 10, .int 6, .int 30, .ref ou]) ++ List.replicate (6 - (lg_sl ([.ref h, .int 10, .int 6, .int 30, .ref ou])).length) Slot.unset).toArray = ls at hl ⊢
  have hl : lv_has ls 6 [(0, .ref h), (1, .int 10), (2, .int 6), (3, .int 30), (4, .ref ou)] := hl
  refine lv_aload hx hb dL_build_0 (lv_at hl 4 rfl) ?_
  refine lv_iconst (v := 0) hx hb dL_build_2 (by decide) ?_
  refine lv_aload_n hx hb dL_build_3 rfl (lv_at hl 0 rfl) ?_
  refine lv_iload_n hx hb dL_build_4 rfl (lv_at hl 1 rfl) ?_
  refine lv_iload_n hx hb dL_build_5 rfl (lv_at hl 2 rfl) ?_
  refine lv_iload_n hx hb dL_build_6 rfl (lv_at hl 3 rfl) ?_
  have hPc := hP.sub (ws' := [(h, .inr (1, [.ref ro, .int 0, .ref ba, .ref ra, .ref su, .int 0, .ref tr])), (ro, .inl (cR, 6, .inr (.inr (.inr (.inr fr)))))]) [0, 1] rfl
  have hKc := hK.sub (tys' := [(cR, .object RX0)]) [0] rfl
  have hDc := hD.sub (ws' := [(h, .inr (1, [.ref ro, .int 0, .ref ba, .ref ra, .ref su, .int 0, .ref tr])), (ro, .inl (cR, 6, .inr (.inr (.inr (.inr fr)))))]) [0, 1] (by decide) rfl
  have hFc := va_free (wc := [(h, .inr (1, [.ref ro, .int 0, .ref ba, .ref ra, .ref su, .int 0, .ref tr])), (ro, .inl (cR, 6, .inr (.inr (.inr (.inr fr)))))]) hD hS hA [0, 1] rfl
  refine va_calli (va_runV (As := [.int 10, .int 6, .int 30]) (rest := [.int 0, .ref ou]) ⟨hx, hb, hml, hown, hts⟩ (r1_build0 l dC dI s.heap.size h ro ba ra su tr cR fr ) (cwV 3 hts gL_build_X1_build rfl rfl rfl (by decide +kernel) ⟨Nat.le_of_ble_eq_true rfl, Nat.le_of_ble_eq_true rfl⟩) ⟨fun a U g mk q => by obtain ⟨q0, q1, qP, qK, qD⟩ := q; exact ⟨q0, q1, qP, va_K.moved (u := U) (U := U.calling g mk a) (Vm.Alike.refl U.vm) qK, qD⟩, va_recv hKc hPc (ci := 1) (q0 := 0) rfl rfl, fun U hU hW => ⟨rfl, by rw [hU], by rw [hU]; exact hPc, va_K.moved hW.alike hKc, hDc.weaken (fun _ _ _ _ => trivial)⟩⟩ rfl rfl hl.1 rfl (lv_room (Nat.le_of_ble_eq_true rfl)) dL_build_7 ⟨Nat.le_of_ble_eq_true rfl, Nat.le_of_ble_eq_true rfl⟩) hS (fun q _ h => hFc q h) hFc (fun r1 u t H1 locs ht hvm hr1 hB hz1 hk1 hS => ?_)
  obtain ⟨qh_2, qk_3, qt_4, qp_5, qm_6, qc_7⟩ := u
  obtain ⟨hP1, hK1, hD1⟩ := hB
  rw [ht] at hP1
  have hK1 := va_K.moved hvm.symm hK1
  try dsimp only at hr1
  obtain ⟨hP, hD⟩ := va_join (wr := [(ou, .inl (cO, 1, .inr (.inl fp)))]) (w1 := [(h, .inr (1, [.ref ro, .int 1, .ref ba, .ref ra, .ref su, .int 0, .ref tr])), (ro, .inl (cR, 6, .inr (.inr (.inr (.inr (va_up fr 0 (some qh_2))))))), (qh_2, .inr (0, [.int 10, .int 6, .int 30, .int 100, .int 0, .int 0, .ref qk_3, .ref qt_4, .ref qp_5, .ref qm_6])), (qt_4, .inl (qc_7, 60, .inl (fun _ => 0)))]) hP hD [0, 1] [2] rfl rfl (by decide) (by decide) hk1 hFc hP1 hD1
  have hK := hK.app hK1
  have hK : va_K (dC, dI) vwCl [(cR, .object RX0), (cO, .long), (qc_7, .int)] s := hK
  generalize H1 = H at hP hS ⊢
  have hP : va_P (dC, dI) vwCl [(ou, .inl (cO, 1, .inr (.inl fp))), (h, .inr (1, [.ref ro, .int 1, .ref ba, .ref ra, .ref su, .int 0, .ref tr])), (ro, .inl (cR, 6, .inr (.inr (.inr (.inr (va_up fr 0 (some qh_2))))))), (qh_2, .inr (0, [.int 10, .int 6, .int 30, .int 100, .int 0, .int 0, .ref qk_3, .ref qt_4, .ref qp_5, .ref qm_6])), (qt_4, .inl (qc_7, 60, .inl (fun _ => 0)))] H := hP
  have hD : va_D A [(ou, .inl (cO, 1, .inr (.inl fp))), (h, .inr (1, [.ref ro, .int 1, .ref ba, .ref ra, .ref su, .int 0, .ref tr])), (ro, .inl (cR, 6, .inr (.inr (.inr (.inr (va_up fr 0 (some qh_2))))))), (qh_2, .inr (0, [.int 10, .int 6, .int 30, .int 100, .int 0, .int 0, .ref qk_3, .ref qt_4, .ref qp_5, .ref qm_6])), (qt_4, .inl (qc_7, 60, .inl (fun _ => 0)))] := hD
  refine W.widen (k := 5) (n := 250) (Nat.le_of_ble_eq_true rfl) (Nat.le_of_ble_eq_true rfl) ?_
  obtain rfl := hr1
  refine lv_i2l (v := 0) hx hb dL_build_10 (by first | rfl | decide) ?_
  refine va_last hx hb hK hP hD hS 0 1 rfl rfl (vp_in_nI (n := 0) (by decide) (by decide)) dL_build_11 (fun H locs hP hD hS => ?_)
  have hP : va_P (dC, dI) vwCl [(ou, .inl (cO, 1, .inr (.inl (vp_updL fp 0 0)))), (h, .inr (1, [.ref ro, .int 1, .ref ba, .ref ra, .ref su, .int 0, .ref tr])), (ro, .inl (cR, 6, .inr (.inr (.inr (.inr (va_up fr 0 (some qh_2))))))), (qh_2, .inr (0, [.int 10, .int 6, .int 30, .int 100, .int 0, .int 0, .ref qk_3, .ref qt_4, .ref qp_5, .ref qm_6])), (qt_4, .inl (qc_7, 60, .inl (fun _ => 0)))] H := hP
  have hD : va_D A [(ou, .inl (cO, 1, .inr (.inl (vp_updL fp 0 0)))), (h, .inr (1, [.ref ro, .int 1, .ref ba, .ref ra, .ref su, .int 0, .ref tr])), (ro, .inl (cR, 6, .inr (.inr (.inr (.inr (va_up fr 0 (some qh_2))))))), (qh_2, .inr (0, [.int 10, .int 6, .int 30, .int 100, .int 0, .int 0, .ref qk_3, .ref qt_4, .ref qp_5, .ref qm_6])), (qt_4, .inl (qc_7, 60, .inl (fun _ => 0)))] := hD
  refine lv_goto (tgt := 23) hx hb dL_build_12 (by decide) ?_
  refine lv_iconst (v := 0) hx hb dL_build_23 (by decide) ?_
  have hP9 := hP.sub (ws' := [(h, .inr (1, [.ref ro, .int 1, .ref ba, .ref ra, .ref su, .int 0, .ref tr])), (ro, .inl (cR, 6, .inr (.inr (.inr (.inr (va_up fr 0 (some qh_2))))))), (qh_2, .inr (0, [.int 10, .int 6, .int 30, .int 100, .int 0, .int 0, .ref qk_3, .ref qt_4, .ref qp_5, .ref qm_6])), (qt_4, .inl (qc_7, 60, .inl (fun _ => 0))), (ou, .inl (cO, 1, .inr (.inl (vp_updL fp 0 0))))]) [1, 2, 3, 4, 0] rfl
  have hD9 := hD.sub (ws' := [(h, .inr (1, [.ref ro, .int 1, .ref ba, .ref ra, .ref su, .int 0, .ref tr])), (ro, .inl (cR, 6, .inr (.inr (.inr (.inr (va_up fr 0 (some qh_2))))))), (qh_2, .inr (0, [.int 10, .int 6, .int 30, .int 100, .int 0, .int 0, .ref qk_3, .ref qt_4, .ref qp_5, .ref qm_6])), (qt_4, .inl (qc_7, 60, .inl (fun _ => 0))), (ou, .inl (cO, 1, .inr (.inl (vp_updL fp 0 0))))]) [1, 2, 3, 4, 0] (by decide) rfl
  have hK9 := hK.sub (tys' := [(qc_7, .int)]) [2] rfl
  refine W.widen (k := 5) (n := 250) (Nat.le_of_ble_eq_true rfl) (Nat.le_of_ble_eq_true rfl) ?_
  exact W.iret (v := 0) hx hb hr (fun t ht hW => ⟨⟨0, (qh_2, qk_3, qt_4, qp_5, qm_6, qc_7), rfl, by (first | rfl | assumption | decide | (simp_all; done) | grind), ⟨by rw [ht]; exact hP9, va_K.moved hW.alike hK9, hD9⟩⟩, hS.F ht⟩) hS.2.2 dL_build_24

set_option maxHeartbeats 4000000 in
set_option maxRecDepth 100000 in
theorem r3_build0 (l : Launch) (dC : Nat → ClassId) (dI : Nat → Nat → Nat) (sz : Nat) (hm : Nat) (wi : Nat) (co : Nat) (sl : Nat) (rn : Nat) (so : Nat) (bn : Nat) (sm : Nat) (ah : Nat) (th : Int32) (gr : Nat) (gt : Nat) (gw : Nat) (gk : Nat) (gi : Nat) (gp : Nat) (go : Nat) (gg : Nat) (d1 : ClassId) (d2 : ClassId) (d3 : ClassId) (d4 : ClassId) (fw : Nat → Int32) (fc : Nat → Int32) (fs : Nat → Int32) (fg : Nat → Int32) : Met l yX3_build wsX3_build ({ frames := 1, cells := 0, slots := 0, locals := 22 }) (va_Pc [.ref hm, .int 10, .int 6, .int 30] (fun U => U.heap.size = sz ∧ va_P (dC, dI) vwCl [(hm, .inr (3, [.int th, .int 0, .ref wi, .ref co, .ref sl, .ref rn, .ref so, .ref bn, .ref sm, .ref ah])), (sm, .inr (2, [.int 0, .ref gr, .ref gt, .ref gw, .ref gk, .ref gi, .ref gp, .ref go, .ref gg, .ref hm])), (wi, .inl (d1, 6, .inl fw)), (co, .inl (d2, 6, .inl fc)), (sl, .inl (d3, 6, .inl fs)), (gr, .inl (d4, 6, .inl fg))] U.heap ∧ va_K (dC, dI) vwCl [(d1, .int), (d2, .int), (d3, .int), (d4, .int)] U ∧ va_D (fun _ => True) [(hm, .inr (3, [.int th, .int 0, .ref wi, .ref co, .ref sl, .ref rn, .ref so, .ref bn, .ref sm, .ref ah])), (sm, .inr (2, [.int 0, .ref gr, .ref gt, .ref gw, .ref gk, .ref gi, .ref gp, .ref go, .ref gg, .ref hm])), (wi, .inl (d1, 6, .inl fw)), (co, .inl (d2, 6, .inl fc)), (sl, .inl (d3, 6, .inl fs)), (gr, .inl (d4, 6, .inl fg))] ∧ zNs U)) (va_Qi (fun (r : Int32) (u : Unit) => r = 0) (fun (u : Unit) (t : State) => va_P (dC, dI) vwCl [(hm, .inr (3, [.int 0, .int 1, .ref wi, .ref co, .ref sl, .ref rn, .ref so, .ref bn, .ref sm, .ref ah])), (sm, .inr (2, [.int 0, .ref gr, .ref gt, .ref gw, .ref gk, .ref gi, .ref gp, .ref go, .ref gg, .ref hm])), (wi, .inl (d1, 6, .inl (upd fw 0 10))), (co, .inl (d2, 6, .inl (upd fc 0 6))), (sl, .inl (d3, 6, .inl (upd fs 0 30))), (gr, .inl (d4, 6, .inl (upd fg 0 100)))] t.heap ∧ va_K (dC, dI) vwCl [] t ∧ va_D (va_A [(hm, .inr (3, [.int th, .int 0, .ref wi, .ref co, .ref sl, .ref rn, .ref so, .ref bn, .ref sm, .ref ah])), (sm, .inr (2, [.int 0, .ref gr, .ref gt, .ref gw, .ref gk, .ref gi, .ref gp, .ref go, .ref gg, .ref hm])), (wi, .inl (d1, 6, .inl fw)), (co, .inl (d2, 6, .inl fc)), (sl, .inl (d3, 6, .inl fs)), (gr, .inl (d4, 6, .inl fg))] sz) [(hm, .inr (3, [.int 0, .int 1, .ref wi, .ref co, .ref sl, .ref rn, .ref so, .ref bn, .ref sm, .ref ah])), (sm, .inr (2, [.int 0, .ref gr, .ref gt, .ref gw, .ref gk, .ref gi, .ref gp, .ref go, .ref gg, .ref hm])), (wi, .inl (d1, 6, .inl (upd fw 0 10))), (co, .inl (d2, 6, .inl (upd fc 0 6))), (sl, .inl (d3, 6, .inl (upd fs 0 30))), (gr, .inl (d4, 6, .inl (upd fg 0 100)))]) (va_A [(hm, .inr (3, [.int th, .int 0, .ref wi, .ref co, .ref sl, .ref rn, .ref so, .ref bn, .ref sm, .ref ah])), (sm, .inr (2, [.int 0, .ref gr, .ref gt, .ref gw, .ref gk, .ref gi, .ref gp, .ref go, .ref gg, .ref hm])), (wi, .inl (d1, 6, .inl fw)), (co, .inl (d2, 6, .inl fc)), (sl, .inl (d3, 6, .inl fs)), (gr, .inl (d4, 6, .inl fg))] sz)) 0 0 (va_A [(hm, .inr (3, [.int th, .int 0, .ref wi, .ref co, .ref sl, .ref rn, .ref so, .ref bn, .ref sm, .ref ah])), (sm, .inr (2, [.int 0, .ref gr, .ref gt, .ref gw, .ref gk, .ref gi, .ref gp, .ref go, .ref gg, .ref hm])), (wi, .inl (d1, 6, .inl fw)), (co, .inl (d2, 6, .inl fc)), (sl, .inl (d3, 6, .inl fs)), (gr, .inl (d4, 6, .inl fg))] sz) := by
  refine Met.ofW (cc := cX3_build) (maxL := 4) (ret := (some .int)) (by decide) rfl ?_
  intro p e s m args below meth c s₁ B hml hv
  obtain ⟨rfl, hsz, hP, hK, hD0, hZN⟩ := hv
  have hx := B.exec
  have hb := B.bytes
  have hr := B.returns
  have hts := atoms_spec (ws := wsX3_build) B.pre
  have hown : s.vm.findClass RX3 = some m.cls := findClass_of_methodNamed B.named
  have hlocks := B.notSynchronized
  subst hsz
  have hD := hD0.self (sz := s.heap.size)
  generalize hAe : va_A [(hm, .inr (3, [.int th, .int 0, .ref wi, .ref co, .ref sl, .ref rn, .ref so, .ref bn, .ref sm, .ref ah])), (sm, .inr (2, [.int 0, .ref gr, .ref gt, .ref gw, .ref gk, .ref gi, .ref gp, .ref go, .ref gg, .ref hm])), (wi, .inl (d1, 6, .inl fw)), (co, .inl (d2, 6, .inl fc)), (sl, .inl (d3, 6, .inl fs)), (gr, .inl (d4, 6, .inl fg))] s.heap.size = A at hD ⊢
  have hA : ∀ q : Nat, s.heap.size ≤ q → A q := fun q h => by rw [← hAe]; exact Or.inr h
  have hS : va_S A s.heap s.heap [] := va_S.rf
  have hP : va_P (dC, dI) vwCl [(hm, .inr (3, [.int th, .int 0, .ref wi, .ref co, .ref sl, .ref rn, .ref so, .ref bn, .ref sm, .ref ah])), (sm, .inr (2, [.int 0, .ref gr, .ref gt, .ref gw, .ref gk, .ref gi, .ref gp, .ref go, .ref gg, .ref hm])), (wi, .inl (d1, 6, .inl fw)), (co, .inl (d2, 6, .inl fc)), (sl, .inl (d3, 6, .inl fs)), (gr, .inl (d4, 6, .inl fg))] s.heap := hP
  have hl := lv_entry ([.ref hm, .int 10, .int 6, .int 30]) (n := 4) (Nat.le_of_ble_eq_true rfl)
  rw [lg_entry_eq]
  generalize (lg_sl ([.ref hm, .int 10, .int 6, .int 30]) ++ List.replicate (4 - (lg_sl ([.ref hm, .int 10, .int 6, .int 30])).length) Slot.unset).toArray = ls at hl ⊢
  have hl : lv_has ls 4 [(0, .ref hm), (1, .int 10), (2, .int 6), (3, .int 30)] := hl
  refine lv_aload_n hx hb dX3_build_0 rfl (lv_at hl 0 rfl) ?_
  refine lv_iconst (v := 0) hx hb dX3_build_1 (by decide) ?_
  refine va_put (D := (dC, dI)) (ci := 3) (v := .int 0) (ty := .int) (C := RX3) (T := TX3) (N := 10) hx hb hts (by decide +kernel) tyX3 tyX3_ok nmX3 hown hK hP hD hS 0 rfl rfl 0 (by decide) (hts (.fieldLink RX3 40 "ThatchRoofModel" "thrown" "I") (by decide +kernel)) (fun _ h9 => h9) rfl (by decide +kernel) rfl rfl (Nat.le_of_ble_eq_true rfl) dX3_build_2 (fun H locs hP hD hS => ?_)
  have hP : va_P (dC, dI) vwCl [(hm, .inr (3, [.int 0, .int 0, .ref wi, .ref co, .ref sl, .ref rn, .ref so, .ref bn, .ref sm, .ref ah])), (sm, .inr (2, [.int 0, .ref gr, .ref gt, .ref gw, .ref gk, .ref gi, .ref gp, .ref go, .ref gg, .ref hm])), (wi, .inl (d1, 6, .inl fw)), (co, .inl (d2, 6, .inl fc)), (sl, .inl (d3, 6, .inl fs)), (gr, .inl (d4, 6, .inl fg))] H := hP
  have hD : va_D A [(hm, .inr (3, [.int 0, .int 0, .ref wi, .ref co, .ref sl, .ref rn, .ref so, .ref bn, .ref sm, .ref ah])), (sm, .inr (2, [.int 0, .ref gr, .ref gt, .ref gw, .ref gk, .ref gi, .ref gp, .ref go, .ref gg, .ref hm])), (wi, .inl (d1, 6, .inl fw)), (co, .inl (d2, 6, .inl fc)), (sl, .inl (d3, 6, .inl fs)), (gr, .inl (d4, 6, .inl fg))] := hD
  refine lv_iload_n hx hb dX3_build_5 rfl (lv_at hl 1 rfl) ?_
  refine lv_iconst (v := 2) hx hb dX3_build_6 (by decide) ?_
  refine lv_bipush (v := 10) hx hb dX3_build_7 (by decide) ?_
  refine vp_callSi (va_runS (As := [.int 10, .int 2, .int 10]) (rest := []) ⟨hx, hb, hml, hown, hts⟩ (r3_isIn10 l dC dI  ) (va_cwS 3 hts gX3_build_X3_isIn rfl rfl rfl (by decide +kernel) ⟨Nat.le_of_ble_eq_true rfl, Nat.le_of_ble_eq_true rfl⟩) ⟨fun a U g mk q => q, fun U hU hW => ⟨rfl, trivial⟩⟩ rfl rfl hl.1 rfl (lv_room (Nat.le_of_ble_eq_true rfl)) dX3_build_9 ⟨Nat.le_of_ble_eq_true rfl, Nat.le_of_ble_eq_true rfl⟩).run (fun r1 hr1 => ?_)
  obtain rfl := hr1
  refine lv_if_eq (tgt := 36) hx hb dX3_build_12 (by decide) (fun c2 => absurd c2 (by decide)) (fun c2 => ?_)
  refine lv_iload_n hx hb dX3_build_15 rfl (lv_at hl 2 rfl) ?_
  refine lv_iconst (v := 2) hx hb dX3_build_16 (by decide) ?_
  refine lv_bipush (v := 6) hx hb dX3_build_17 (by decide) ?_
  refine vp_callSi (va_runS (As := [.int 6, .int 2, .int 6]) (rest := []) ⟨hx, hb, hml, hown, hts⟩ (r3_isIn6 l dC dI  ) (va_cwS 3 hts gX3_build_X3_isIn rfl rfl rfl (by decide +kernel) ⟨Nat.le_of_ble_eq_true rfl, Nat.le_of_ble_eq_true rfl⟩) ⟨fun a U g mk q => q, fun U hU hW => ⟨rfl, trivial⟩⟩ rfl rfl hl.1 rfl (lv_room (Nat.le_of_ble_eq_true rfl)) dX3_build_19 ⟨Nat.le_of_ble_eq_true rfl, Nat.le_of_ble_eq_true rfl⟩).run (fun r3 hr3 => ?_)
  obtain rfl := hr3
  refine lv_if_eq (tgt := 36) hx hb dX3_build_22 (by decide) (fun c4 => absurd c4 (by decide)) (fun c4 => ?_)
  refine lv_iload_n hx hb dX3_build_25 rfl (lv_at hl 3 rfl) ?_
  refine lv_bipush (v := 30) hx hb dX3_build_26 (by decide) ?_
  refine lv_bipush (v := 60) hx hb dX3_build_28 (by decide) ?_
  refine vp_callSi (va_runS (As := [.int 30, .int 30, .int 60]) (rest := []) ⟨hx, hb, hml, hown, hts⟩ (r3_isIn30 l dC dI  ) (va_cwS 3 hts gX3_build_X3_isIn rfl rfl rfl (by decide +kernel) ⟨Nat.le_of_ble_eq_true rfl, Nat.le_of_ble_eq_true rfl⟩) ⟨fun a U g mk q => q, fun U hU hW => ⟨rfl, trivial⟩⟩ rfl rfl hl.1 rfl (lv_room (Nat.le_of_ble_eq_true rfl)) dX3_build_30 ⟨Nat.le_of_ble_eq_true rfl, Nat.le_of_ble_eq_true rfl⟩).run (fun r5 hr5 => ?_)
  obtain rfl := hr5
  refine lv_if_ne (tgt := 42) hx hb dX3_build_33 (by decide) (fun c6 => ?_) (fun c6 => absurd c6 (by decide))
  refine lv_aload_n hx hb dX3_build_42 rfl (lv_at hl 0 rfl) ?_
  refine va_get (D := (dC, dI)) (ci := 3) (v := .int 0) (C := RX3) (T := TX3) (N := 10) hx hb hts (by decide +kernel) hown hK hP 0 rfl rfl 1 (by decide) (hts (.fieldLink RX3 44 "ThatchRoofModel" "roofs" "I") (by decide +kernel)) (fun _ h9 => h9) rfl dX3_build_43 ?_
  refine lv_bipush (v := 6) hx hb dX3_build_46 (by decide) ?_
  refine lv_icmp_ne (tgt := 57) hx hb dX3_build_48 (by decide) (fun c7 => ?_) (fun c7 => absurd c7 (by decide))
  refine lv_aload_n hx hb dX3_build_57 rfl (lv_at hl 0 rfl) ?_
  refine va_get (D := (dC, dI)) (ci := 3) (v := .ref wi) (C := RX3) (T := TX3) (N := 10) hx hb hts (by decide +kernel) hown hK hP 0 rfl rfl 2 (by decide) (hts (.fieldLink RX3 9 "ThatchRoofModel" "width" "[I") (by decide +kernel)) (fun _ h9 => h9) rfl dX3_build_58 ?_
  refine lv_aload_n hx hb dX3_build_61 rfl (lv_at hl 0 rfl) ?_
  refine va_get (D := (dC, dI)) (ci := 3) (v := .int 0) (C := RX3) (T := TX3) (N := 10) hx hb hts (by decide +kernel) hown hK hP 0 rfl rfl 1 (by decide) (hts (.fieldLink RX3 44 "ThatchRoofModel" "roofs" "I") (by decide +kernel)) (fun _ h9 => h9) rfl dX3_build_62 ?_
  refine lv_iload_n hx hb dX3_build_65 rfl (lv_at hl 1 rfl) ?_
  refine va_iast hx hb hK hP hD hS 2 0 rfl rfl (vp_in_nI (n := 0) (by decide) (by decide)) dX3_build_66 (fun H locs hP hD hS => ?_)
  have hP : va_P (dC, dI) vwCl [(hm, .inr (3, [.int 0, .int 0, .ref wi, .ref co, .ref sl, .ref rn, .ref so, .ref bn, .ref sm, .ref ah])), (sm, .inr (2, [.int 0, .ref gr, .ref gt, .ref gw, .ref gk, .ref gi, .ref gp, .ref go, .ref gg, .ref hm])), (wi, .inl (d1, 6, .inl (upd fw 0 10))), (co, .inl (d2, 6, .inl fc)), (sl, .inl (d3, 6, .inl fs)), (gr, .inl (d4, 6, .inl fg))] H := hP
  have hD : va_D A [(hm, .inr (3, [.int 0, .int 0, .ref wi, .ref co, .ref sl, .ref rn, .ref so, .ref bn, .ref sm, .ref ah])), (sm, .inr (2, [.int 0, .ref gr, .ref gt, .ref gw, .ref gk, .ref gi, .ref gp, .ref go, .ref gg, .ref hm])), (wi, .inl (d1, 6, .inl (upd fw 0 10))), (co, .inl (d2, 6, .inl fc)), (sl, .inl (d3, 6, .inl fs)), (gr, .inl (d4, 6, .inl fg))] := hD
  refine lv_aload_n hx hb dX3_build_67 rfl (lv_at hl 0 rfl) ?_
  refine va_get (D := (dC, dI)) (ci := 3) (v := .ref co) (C := RX3) (T := TX3) (N := 10) hx hb hts (by decide +kernel) hown hK hP 0 rfl rfl 3 (by decide) (hts (.fieldLink RX3 13 "ThatchRoofModel" "courses" "[I") (by decide +kernel)) (fun _ h9 => h9) rfl dX3_build_68 ?_
  refine lv_aload_n hx hb dX3_build_71 rfl (lv_at hl 0 rfl) ?_
  refine va_get (D := (dC, dI)) (ci := 3) (v := .int 0) (C := RX3) (T := TX3) (N := 10) hx hb hts (by decide +kernel) hown hK hP 0 rfl rfl 1 (by decide) (hts (.fieldLink RX3 44 "ThatchRoofModel" "roofs" "I") (by decide +kernel)) (fun _ h9 => h9) rfl dX3_build_72 ?_
  refine lv_iload_n hx hb dX3_build_75 rfl (lv_at hl 2 rfl) ?_
  refine va_iast hx hb hK hP hD hS 3 1 rfl rfl (vp_in_nI (n := 0) (by decide) (by decide)) dX3_build_76 (fun H locs hP hD hS => ?_)
  have hP : va_P (dC, dI) vwCl [(hm, .inr (3, [.int 0, .int 0, .ref wi, .ref co, .ref sl, .ref rn, .ref so, .ref bn, .ref sm, .ref ah])), (sm, .inr (2, [.int 0, .ref gr, .ref gt, .ref gw, .ref gk, .ref gi, .ref gp, .ref go, .ref gg, .ref hm])), (wi, .inl (d1, 6, .inl (upd fw 0 10))), (co, .inl (d2, 6, .inl (upd fc 0 6))), (sl, .inl (d3, 6, .inl fs)), (gr, .inl (d4, 6, .inl fg))] H := hP
  have hD : va_D A [(hm, .inr (3, [.int 0, .int 0, .ref wi, .ref co, .ref sl, .ref rn, .ref so, .ref bn, .ref sm, .ref ah])), (sm, .inr (2, [.int 0, .ref gr, .ref gt, .ref gw, .ref gk, .ref gi, .ref gp, .ref go, .ref gg, .ref hm])), (wi, .inl (d1, 6, .inl (upd fw 0 10))), (co, .inl (d2, 6, .inl (upd fc 0 6))), (sl, .inl (d3, 6, .inl fs)), (gr, .inl (d4, 6, .inl fg))] := hD
  refine lv_aload_n hx hb dX3_build_77 rfl (lv_at hl 0 rfl) ?_
  refine va_get (D := (dC, dI)) (ci := 3) (v := .ref sl) (C := RX3) (T := TX3) (N := 10) hx hb hts (by decide +kernel) hown hK hP 0 rfl rfl 4 (by decide) (hts (.fieldLink RX3 16 "ThatchRoofModel" "slope" "[I") (by decide +kernel)) (fun _ h9 => h9) rfl dX3_build_78 ?_
  refine lv_aload_n hx hb dX3_build_81 rfl (lv_at hl 0 rfl) ?_
  refine va_get (D := (dC, dI)) (ci := 3) (v := .int 0) (C := RX3) (T := TX3) (N := 10) hx hb hts (by decide +kernel) hown hK hP 0 rfl rfl 1 (by decide) (hts (.fieldLink RX3 44 "ThatchRoofModel" "roofs" "I") (by decide +kernel)) (fun _ h9 => h9) rfl dX3_build_82 ?_
  refine lv_iload_n hx hb dX3_build_85 rfl (lv_at hl 3 rfl) ?_
  refine va_iast hx hb hK hP hD hS 4 2 rfl rfl (vp_in_nI (n := 0) (by decide) (by decide)) dX3_build_86 (fun H locs hP hD hS => ?_)
  have hP : va_P (dC, dI) vwCl [(hm, .inr (3, [.int 0, .int 0, .ref wi, .ref co, .ref sl, .ref rn, .ref so, .ref bn, .ref sm, .ref ah])), (sm, .inr (2, [.int 0, .ref gr, .ref gt, .ref gw, .ref gk, .ref gi, .ref gp, .ref go, .ref gg, .ref hm])), (wi, .inl (d1, 6, .inl (upd fw 0 10))), (co, .inl (d2, 6, .inl (upd fc 0 6))), (sl, .inl (d3, 6, .inl (upd fs 0 30))), (gr, .inl (d4, 6, .inl fg))] H := hP
  have hD : va_D A [(hm, .inr (3, [.int 0, .int 0, .ref wi, .ref co, .ref sl, .ref rn, .ref so, .ref bn, .ref sm, .ref ah])), (sm, .inr (2, [.int 0, .ref gr, .ref gt, .ref gw, .ref gk, .ref gi, .ref gp, .ref go, .ref gg, .ref hm])), (wi, .inl (d1, 6, .inl (upd fw 0 10))), (co, .inl (d2, 6, .inl (upd fc 0 6))), (sl, .inl (d3, 6, .inl (upd fs 0 30))), (gr, .inl (d4, 6, .inl fg))] := hD
  refine lv_aload_n hx hb dX3_build_87 rfl (lv_at hl 0 rfl) ?_
  refine va_get (D := (dC, dI)) (ci := 3) (v := .ref sm) (C := RX3) (T := TX3) (N := 10) hx hb hts (by decide +kernel) hown hK hP 0 rfl rfl 8 (by decide) (hts (.fieldLink RX3 33 "ThatchRoofModel" "s" "LThatchRoofModel$State;") (by decide +kernel)) (fun _ h9 => h9) rfl dX3_build_88 ?_
  refine va_getN (D := (dC, dI)) (ci := 2) (v := .ref gr) (C := RX2) (T := TX2) (N := 10) hx hb hts (by decide +kernel) hown hK hP 1 rfl rfl 1 (by decide) (va_Nw.use rfl (zN_RX3_63 hZN)) (fun _ h9 => h9) rfl dX3_build_91 ?_
  refine lv_aload_n hx hb dX3_build_94 rfl (lv_at hl 0 rfl) ?_
  refine va_get (D := (dC, dI)) (ci := 3) (v := .int 0) (C := RX3) (T := TX3) (N := 10) hx hb hts (by decide +kernel) hown hK hP 0 rfl rfl 1 (by decide) (hts (.fieldLink RX3 44 "ThatchRoofModel" "roofs" "I") (by decide +kernel)) (fun _ h9 => h9) rfl dX3_build_95 ?_
  refine lv_bipush (v := 100) hx hb dX3_build_98 (by decide) ?_
  refine va_iast hx hb hK hP hD hS 5 3 rfl rfl (vp_in_nI (n := 0) (by decide) (by decide)) dX3_build_100 (fun H locs hP hD hS => ?_)
  have hP : va_P (dC, dI) vwCl [(hm, .inr (3, [.int 0, .int 0, .ref wi, .ref co, .ref sl, .ref rn, .ref so, .ref bn, .ref sm, .ref ah])), (sm, .inr (2, [.int 0, .ref gr, .ref gt, .ref gw, .ref gk, .ref gi, .ref gp, .ref go, .ref gg, .ref hm])), (wi, .inl (d1, 6, .inl (upd fw 0 10))), (co, .inl (d2, 6, .inl (upd fc 0 6))), (sl, .inl (d3, 6, .inl (upd fs 0 30))), (gr, .inl (d4, 6, .inl (upd fg 0 100)))] H := hP
  have hD : va_D A [(hm, .inr (3, [.int 0, .int 0, .ref wi, .ref co, .ref sl, .ref rn, .ref so, .ref bn, .ref sm, .ref ah])), (sm, .inr (2, [.int 0, .ref gr, .ref gt, .ref gw, .ref gk, .ref gi, .ref gp, .ref go, .ref gg, .ref hm])), (wi, .inl (d1, 6, .inl (upd fw 0 10))), (co, .inl (d2, 6, .inl (upd fc 0 6))), (sl, .inl (d3, 6, .inl (upd fs 0 30))), (gr, .inl (d4, 6, .inl (upd fg 0 100)))] := hD
  refine lv_aload_n hx hb dX3_build_101 rfl (lv_at hl 0 rfl) ?_
  refine lv_dup hx hb dX3_build_102 rfl ?_
  refine va_get (D := (dC, dI)) (ci := 3) (v := .int 0) (C := RX3) (T := TX3) (N := 10) hx hb hts (by decide +kernel) hown hK hP 0 rfl rfl 1 (by decide) (hts (.fieldLink RX3 44 "ThatchRoofModel" "roofs" "I") (by decide +kernel)) (fun _ h9 => h9) rfl dX3_build_103 ?_
  refine lv_iconst (v := 1) hx hb dX3_build_106 (by decide) ?_
  refine lv_iadd hx hb dX3_build_107 ?_
  refine W.eq (g2 := F0 m 108 ls [.int 1, .ref hm]) rfl ?_
  refine va_put (D := (dC, dI)) (ci := 3) (v := .int 1) (ty := .int) (C := RX3) (T := TX3) (N := 10) hx hb hts (by decide +kernel) tyX3 tyX3_ok nmX3 hown hK hP hD hS 0 rfl rfl 1 (by decide) (hts (.fieldLink RX3 44 "ThatchRoofModel" "roofs" "I") (by decide +kernel)) (fun _ h9 => h9) rfl (by decide +kernel) rfl rfl (Nat.le_of_ble_eq_true rfl) dX3_build_108 (fun H locs hP hD hS => ?_)
  have hP : va_P (dC, dI) vwCl [(hm, .inr (3, [.int 0, .int 1, .ref wi, .ref co, .ref sl, .ref rn, .ref so, .ref bn, .ref sm, .ref ah])), (sm, .inr (2, [.int 0, .ref gr, .ref gt, .ref gw, .ref gk, .ref gi, .ref gp, .ref go, .ref gg, .ref hm])), (wi, .inl (d1, 6, .inl (upd fw 0 10))), (co, .inl (d2, 6, .inl (upd fc 0 6))), (sl, .inl (d3, 6, .inl (upd fs 0 30))), (gr, .inl (d4, 6, .inl (upd fg 0 100)))] H := hP
  have hD : va_D A [(hm, .inr (3, [.int 0, .int 1, .ref wi, .ref co, .ref sl, .ref rn, .ref so, .ref bn, .ref sm, .ref ah])), (sm, .inr (2, [.int 0, .ref gr, .ref gt, .ref gw, .ref gk, .ref gi, .ref gp, .ref go, .ref gg, .ref hm])), (wi, .inl (d1, 6, .inl (upd fw 0 10))), (co, .inl (d2, 6, .inl (upd fc 0 6))), (sl, .inl (d3, 6, .inl (upd fs 0 30))), (gr, .inl (d4, 6, .inl (upd fg 0 100)))] := hD
  refine lv_aload_n hx hb dX3_build_111 rfl (lv_at hl 0 rfl) ?_
  refine va_get (D := (dC, dI)) (ci := 3) (v := .int 1) (C := RX3) (T := TX3) (N := 10) hx hb hts (by decide +kernel) hown hK hP 0 rfl rfl 1 (by decide) (hts (.fieldLink RX3 44 "ThatchRoofModel" "roofs" "I") (by decide +kernel)) (fun _ h9 => h9) rfl dX3_build_112 ?_
  refine lv_iconst (v := 1) hx hb dX3_build_115 (by decide) ?_
  refine lv_isub hx hb dX3_build_116 ?_
  refine W.eq (g2 := F0 m 117 ls [.int 0]) rfl ?_
  have hP9 := hP.sub (ws' := [(hm, .inr (3, [.int 0, .int 1, .ref wi, .ref co, .ref sl, .ref rn, .ref so, .ref bn, .ref sm, .ref ah])), (sm, .inr (2, [.int 0, .ref gr, .ref gt, .ref gw, .ref gk, .ref gi, .ref gp, .ref go, .ref gg, .ref hm])), (wi, .inl (d1, 6, .inl (upd fw 0 10))), (co, .inl (d2, 6, .inl (upd fc 0 6))), (sl, .inl (d3, 6, .inl (upd fs 0 30))), (gr, .inl (d4, 6, .inl (upd fg 0 100)))]) [0, 1, 2, 3, 4, 5] rfl
  have hD9 := hD.sub (ws' := [(hm, .inr (3, [.int 0, .int 1, .ref wi, .ref co, .ref sl, .ref rn, .ref so, .ref bn, .ref sm, .ref ah])), (sm, .inr (2, [.int 0, .ref gr, .ref gt, .ref gw, .ref gk, .ref gi, .ref gp, .ref go, .ref gg, .ref hm])), (wi, .inl (d1, 6, .inl (upd fw 0 10))), (co, .inl (d2, 6, .inl (upd fc 0 6))), (sl, .inl (d3, 6, .inl (upd fs 0 30))), (gr, .inl (d4, 6, .inl (upd fg 0 100)))]) [0, 1, 2, 3, 4, 5] (by decide) rfl
  have hK9 := hK.sub (tys' := []) [] rfl
  refine W.widen (k := 0) (n := 0) (Nat.le_of_ble_eq_true rfl) (Nat.le_of_ble_eq_true rfl) ?_
  exact W.iret (v := 0) hx hb hr (fun t ht hW => ⟨⟨0, (), rfl, by (first | rfl | assumption | decide | (simp_all; done) | grind), ⟨by rw [ht]; exact hP9, va_K.moved hW.alike hK9, hD9⟩⟩, hS.F ht⟩) hS.2.2 dX3_build_117

set_option maxHeartbeats 4000000 in
set_option maxRecDepth 100000 in
theorem r1_build1 (l : Launch) (dC : Nat → ClassId) (dI : Nat → Nat → Nat) (sz : Nat) (h : Nat) (ro : Nat) (ba : Nat) (ra : Nat) (su : Nat) (tr : Nat) (cR : ClassId) (fr : Nat → Option Nat) : Met l yX1_build wsX1_build ({ frames := 2, cells := 5, slots := 250, locals := 35 }) (va_Pc [.ref h, .int 10, .int 6, .int 30] (fun U => U.heap.size = sz ∧ va_P (dC, dI) vwCl [(h, .inr (1, [.ref ro, .int 1, .ref ba, .ref ra, .ref su, .int 0, .ref tr])), (ro, .inl (cR, 6, .inr (.inr (.inr (.inr fr)))))] U.heap ∧ va_K (dC, dI) vwCl [(cR, .object RX0)] U ∧ va_D (fun _ => True) [(h, .inr (1, [.ref ro, .int 1, .ref ba, .ref ra, .ref su, .int 0, .ref tr])), (ro, .inl (cR, 6, .inr (.inr (.inr (.inr fr)))))])) (va_Qi (fun (r : Int32) (u : Nat × Nat × Nat × Nat × Nat × ClassId) => r = 1) (fun (u : Nat × Nat × Nat × Nat × Nat × ClassId) (t : State) => va_P (dC, dI) vwCl [(h, .inr (1, [.ref ro, .int 2, .ref ba, .ref ra, .ref su, .int 0, .ref tr])), (ro, .inl (cR, 6, .inr (.inr (.inr (.inr (va_up fr 1 (some u.1))))))), (u.1, .inr (0, [.int 10, .int 6, .int 30, .int 100, .int 0, .int 0, .ref u.2.1, .ref u.2.2.1, .ref u.2.2.2.1, .ref u.2.2.2.2.1])), (u.2.2.1, .inl (u.2.2.2.2.2, 60, .inl (fun _ => 0)))] t.heap ∧ va_K (dC, dI) vwCl [(u.2.2.2.2.2, .int)] t ∧ va_D (va_A [(h, .inr (1, [.ref ro, .int 1, .ref ba, .ref ra, .ref su, .int 0, .ref tr])), (ro, .inl (cR, 6, .inr (.inr (.inr (.inr fr)))))] sz) [(h, .inr (1, [.ref ro, .int 2, .ref ba, .ref ra, .ref su, .int 0, .ref tr])), (ro, .inl (cR, 6, .inr (.inr (.inr (.inr (va_up fr 1 (some u.1))))))), (u.1, .inr (0, [.int 10, .int 6, .int 30, .int 100, .int 0, .int 0, .ref u.2.1, .ref u.2.2.1, .ref u.2.2.2.1, .ref u.2.2.2.2.1])), (u.2.2.1, .inl (u.2.2.2.2.2, 60, .inl (fun _ => 0)))]) (va_A [(h, .inr (1, [.ref ro, .int 1, .ref ba, .ref ra, .ref su, .int 0, .ref tr])), (ro, .inl (cR, 6, .inr (.inr (.inr (.inr fr)))))] sz)) 5 250 (va_A [(h, .inr (1, [.ref ro, .int 1, .ref ba, .ref ra, .ref su, .int 0, .ref tr])), (ro, .inl (cR, 6, .inr (.inr (.inr (.inr fr)))))] sz) := by
  refine Met.ofW (cc := cX1_build) (maxL := 5) (ret := (some .int)) (by decide) rfl ?_
  intro p e s m args below meth c s₁ B hml hv
  obtain ⟨rfl, hsz, hP, hK, hD0⟩ := hv
  have hx := B.exec
  have hb := B.bytes
  have hr := B.returns
  have hts := atoms_spec (ws := wsX1_build) B.pre
  have hown : s.vm.findClass RX1 = some m.cls := findClass_of_methodNamed B.named
  have hlocks := B.notSynchronized
  subst hsz
  have hD := hD0.self (sz := s.heap.size)
  generalize hAe : va_A [(h, .inr (1, [.ref ro, .int 1, .ref ba, .ref ra, .ref su, .int 0, .ref tr])), (ro, .inl (cR, 6, .inr (.inr (.inr (.inr fr)))))] s.heap.size = A at hD ⊢
  have hA : ∀ q : Nat, s.heap.size ≤ q → A q := fun q h => by rw [← hAe]; exact Or.inr h
  have hS : va_S A s.heap s.heap [] := va_S.rf
  have hP : va_P (dC, dI) vwCl [(h, .inr (1, [.ref ro, .int 1, .ref ba, .ref ra, .ref su, .int 0, .ref tr])), (ro, .inl (cR, 6, .inr (.inr (.inr (.inr fr)))))] s.heap := hP
  have hl := lv_entry ([.ref h, .int 10, .int 6, .int 30]) (n := 5) (Nat.le_of_ble_eq_true rfl)
  rw [lg_entry_eq]
  generalize (lg_sl ([.ref h, .int 10, .int 6, .int 30]) ++ List.replicate (5 - (lg_sl ([.ref h, .int 10, .int 6, .int 30])).length) Slot.unset).toArray = ls at hl ⊢
  have hl : lv_has ls 5 [(0, .ref h), (1, .int 10), (2, .int 6), (3, .int 30)] := hl
  refine lv_iload_n hx hb dX1_build_0 rfl (lv_at hl 1 rfl) ?_
  refine lv_iconst (v := 2) hx hb dX1_build_1 (by decide) ?_
  refine lv_bipush (v := 10) hx hb dX1_build_2 (by decide) ?_
  refine vp_callSi (va_runS (As := [.int 10, .int 2, .int 10]) (rest := []) ⟨hx, hb, hml, hown, hts⟩ (r1_isWithin10 l dC dI  ) (va_cwS 3 hts gX1_build_X1_isWithin rfl rfl rfl (by decide +kernel) ⟨Nat.le_of_ble_eq_true rfl, Nat.le_of_ble_eq_true rfl⟩) ⟨fun a U g mk q => q, fun U hU hW => ⟨rfl, trivial⟩⟩ rfl rfl hl.1 rfl (lv_room (Nat.le_of_ble_eq_true rfl)) dX1_build_4 ⟨Nat.le_of_ble_eq_true rfl, Nat.le_of_ble_eq_true rfl⟩).run (fun r1 hr1 => ?_)
  obtain rfl := hr1
  refine lv_if_eq (tgt := 31) hx hb dX1_build_7 (by decide) (fun c2 => absurd c2 (by decide)) (fun c2 => ?_)
  refine lv_iload_n hx hb dX1_build_10 rfl (lv_at hl 2 rfl) ?_
  refine lv_iconst (v := 2) hx hb dX1_build_11 (by decide) ?_
  refine lv_bipush (v := 6) hx hb dX1_build_12 (by decide) ?_
  refine vp_callSi (va_runS (As := [.int 6, .int 2, .int 6]) (rest := []) ⟨hx, hb, hml, hown, hts⟩ (r1_isWithin6 l dC dI  ) (va_cwS 3 hts gX1_build_X1_isWithin rfl rfl rfl (by decide +kernel) ⟨Nat.le_of_ble_eq_true rfl, Nat.le_of_ble_eq_true rfl⟩) ⟨fun a U g mk q => q, fun U hU hW => ⟨rfl, trivial⟩⟩ rfl rfl hl.1 rfl (lv_room (Nat.le_of_ble_eq_true rfl)) dX1_build_14 ⟨Nat.le_of_ble_eq_true rfl, Nat.le_of_ble_eq_true rfl⟩).run (fun r3 hr3 => ?_)
  obtain rfl := hr3
  refine lv_if_eq (tgt := 31) hx hb dX1_build_17 (by decide) (fun c4 => absurd c4 (by decide)) (fun c4 => ?_)
  refine lv_iload_n hx hb dX1_build_20 rfl (lv_at hl 3 rfl) ?_
  refine lv_bipush (v := 30) hx hb dX1_build_21 (by decide) ?_
  refine lv_bipush (v := 60) hx hb dX1_build_23 (by decide) ?_
  refine vp_callSi (va_runS (As := [.int 30, .int 30, .int 60]) (rest := []) ⟨hx, hb, hml, hown, hts⟩ (r1_isWithin30 l dC dI  ) (va_cwS 3 hts gX1_build_X1_isWithin rfl rfl rfl (by decide +kernel) ⟨Nat.le_of_ble_eq_true rfl, Nat.le_of_ble_eq_true rfl⟩) ⟨fun a U g mk q => q, fun U hU hW => ⟨rfl, trivial⟩⟩ rfl rfl hl.1 rfl (lv_room (Nat.le_of_ble_eq_true rfl)) dX1_build_25 ⟨Nat.le_of_ble_eq_true rfl, Nat.le_of_ble_eq_true rfl⟩).run (fun r5 hr5 => ?_)
  obtain rfl := hr5
  refine lv_if_ne (tgt := 41) hx hb dX1_build_28 (by decide) (fun c6 => ?_) (fun c6 => absurd c6 (by decide))
  refine lv_aload_n hx hb dX1_build_41 rfl (lv_at hl 0 rfl) ?_
  refine va_get (D := (dC, dI)) (ci := 1) (v := .int 1) (C := RX1) (T := TX1) (N := 7) hx hb hts (by decide +kernel) hown hK hP 0 rfl rfl 1 (by decide) (hts (.fieldLink RX1 43 "ThatchRoof" "built" "I") (by decide +kernel)) (fun _ h9 => h9) rfl dX1_build_42 ?_
  refine lv_bipush (v := 6) hx hb dX1_build_45 (by decide) ?_
  refine lv_icmp_lt (tgt := 60) hx hb dX1_build_47 (by decide) (fun c7 => ?_) (fun c7 => absurd c7 (by decide))
  refine lv_aload_n hx hb dX1_build_60 rfl (lv_at hl 0 rfl) ?_
  refine va_get (D := (dC, dI)) (ci := 1) (v := .int 1) (C := RX1) (T := TX1) (N := 7) hx hb hts (by decide +kernel) hown hK hP 0 rfl rfl 1 (by decide) (hts (.fieldLink RX1 43 "ThatchRoof" "built" "I") (by decide +kernel)) (fun _ h9 => h9) rfl dX1_build_61 ?_
  refine lv_istore (lv' := [(4, .int 1), (0, .ref h), (1, .int 10), (2, .int 6), (3, .int 30)]) hx hb dX1_build_64 hl (by decide) rfl (fun ls hl => ?_)
  refine lv_aload_n hx hb dX1_build_66 rfl (lv_at hl 1 rfl) ?_
  refine va_get (D := (dC, dI)) (ci := 1) (v := .ref ro) (C := RX1) (T := TX1) (N := 7) hx hb hts (by decide +kernel) hown hK hP 0 rfl rfl 0 (by decide) (hts (.fieldLink RX1 11 "ThatchRoof" "roofs" "[LThatchRoof$Roof;") (by decide +kernel)) (fun _ h9 => h9) rfl dX1_build_67 ?_
  refine lv_iload hx hb dX1_build_70 (lv_at hl 0 rfl) ?_
  refine va_new (ci := 0) (fs := [.int 0, .int 0, .int 0, .int 0, .int 0, .int 0, .null, .null, .null, .null]) (C := RX0) (T := TX0) (N := 10) hx hb hts (by decide +kernel) tyX0 tyX0_ok hown (hts (.classLink RX1 9 RX0) (by decide +kernel)) (hts (.instantiable RX0 10) (by decide +kernel)) (hts (.initialized RX0) (by decide +kernel)) hK hP hD hS hA rfl (fun j hj => by rcases (show j = 0 ∨ j = 1 ∨ j = 2 ∨ j = 3 ∨ j = 4 ∨ j = 5 ∨ j = 6 ∨ j = 7 ∨ j = 8 ∨ j = 9 by omega) with rfl | rfl | rfl | rfl | rfl | rfl | rfl | rfl | rfl | rfl <;> rfl) (Nat.le_of_ble_eq_true rfl) (Nat.le_of_ble_eq_true rfl) dX1_build_72 (fun q8 H hP hD hS => ?_)
  refine W.widen (k := 1) (n := 10) (Nat.le_of_ble_eq_true rfl) (Nat.le_of_ble_eq_true rfl) ?_
  have hP : va_P (dC, dI) vwCl [(h, .inr (1, [.ref ro, .int 1, .ref ba, .ref ra, .ref su, .int 0, .ref tr])), (ro, .inl (cR, 6, .inr (.inr (.inr (.inr fr))))), (q8, .inr (0, [.int 0, .int 0, .int 0, .int 0, .int 0, .int 0, .null, .null, .null, .null]))] H := hP
  have hD : va_D A [(h, .inr (1, [.ref ro, .int 1, .ref ba, .ref ra, .ref su, .int 0, .ref tr])), (ro, .inl (cR, 6, .inr (.inr (.inr (.inr fr))))), (q8, .inr (0, [.int 0, .int 0, .int 0, .int 0, .int 0, .int 0, .null, .null, .null, .null]))] := hD
  refine lv_dup hx hb dX1_build_75 rfl ?_
  refine lv_iload_n hx hb dX1_build_76 rfl (lv_at hl 2 rfl) ?_
  refine lv_iload_n hx hb dX1_build_77 rfl (lv_at hl 3 rfl) ?_
  refine lv_iload_n hx hb dX1_build_78 rfl (lv_at hl 4 rfl) ?_
  have hPc := hP.sub (ws' := [(q8, .inr (0, [.int 0, .int 0, .int 0, .int 0, .int 0, .int 0, .null, .null, .null, .null]))]) [2] rfl
  have hKc := hK.sub (tys' := []) [] rfl
  have hDc := hD.sub (ws' := [(q8, .inr (0, [.int 0, .int 0, .int 0, .int 0, .int 0, .int 0, .null, .null, .null, .null]))]) [2] (by decide) rfl
  have hFc := va_free (wc := [(q8, .inr (0, [.int 0, .int 0, .int 0, .int 0, .int 0, .int 0, .null, .null, .null, .null]))]) hD hS hA [2] rfl
  refine va_callv (va_runI (As := [.int 10, .int 6, .int 30]) (rest := [.ref q8, .int 1, .ref ro]) ⟨hx, hb, hml, hown, hts⟩ (k0_init l dC dI H.size q8 10 6 30 ) (cwI 3 hts gX1_build_X0_init rfl rfl rfl (hts (.initialized RX0) (by decide +kernel)) (hts (.methodLink RX1 25 yX0_init) (by decide +kernel)) (hts (.instanceMethod yX0_init) (by decide +kernel)) rfl (by decide +kernel) ⟨Nat.le_of_ble_eq_true rfl, Nat.le_of_ble_eq_true rfl⟩) ⟨fun a U g mk q => by obtain ⟨q0, q1, qP, qK, qD⟩ := q; exact ⟨q0, q1, qP, va_K.moved (u := U) (U := U.calling g mk a) (Vm.Alike.refl U.vm) qK, qD⟩, fun U hU hW => ⟨rfl, by rw [hU], by rw [hU]; exact hPc, va_K.moved hW.alike hKc, hDc.weaken (fun _ _ _ _ => trivial)⟩⟩ rfl rfl hl.1 rfl (lv_room (Nat.le_of_ble_eq_true rfl)) dX1_build_79 ⟨Nat.le_of_ble_eq_true rfl, Nat.le_of_ble_eq_true rfl⟩) hS (fun q _ h => hFc q h) hFc (fun u t H1 locs ht hvm hr9 hB hz1 hk1 hS => ?_)
  obtain ⟨k__10, t__11, p__12, m__13, c1__14, c2__15, c3__16, c4__17⟩ := u
  obtain ⟨hP1, hK1, hD1⟩ := hB
  rw [ht] at hP1
  have hK1 := va_K.moved hvm.symm hK1
  try dsimp only at hr9
  obtain ⟨hP, hD⟩ := va_join (wr := [(h, .inr (1, [.ref ro, .int 1, .ref ba, .ref ra, .ref su, .int 0, .ref tr])), (ro, .inl (cR, 6, .inr (.inr (.inr (.inr fr)))))]) (w1 := [(q8, .inr (0, [.int 10, .int 6, .int 30, .int 100, .int 0, .int 0, .ref k__10, .ref t__11, .ref p__12, .ref m__13])), (k__10, .inl (c1__14, 60, .inl (fun _ => 0))), (t__11, .inl (c2__15, 60, .inl (fun _ => 0))), (p__12, .inl (c3__16, 60, .inl (fun _ => 0))), (m__13, .inl (c4__17, 60, .inl (fun _ => 0)))]) hP hD [2] [0, 1] rfl rfl (by decide) (by decide) hk1 hFc hP1 hD1
  have hK := hK.app hK1
  have hK : va_K (dC, dI) vwCl [(cR, .object RX0), (c1__14, .int), (c2__15, .int), (c3__16, .int), (c4__17, .int)] s := hK
  generalize H1 = H at hP hS ⊢
  have hP : va_P (dC, dI) vwCl [(h, .inr (1, [.ref ro, .int 1, .ref ba, .ref ra, .ref su, .int 0, .ref tr])), (ro, .inl (cR, 6, .inr (.inr (.inr (.inr fr))))), (q8, .inr (0, [.int 10, .int 6, .int 30, .int 100, .int 0, .int 0, .ref k__10, .ref t__11, .ref p__12, .ref m__13])), (k__10, .inl (c1__14, 60, .inl (fun _ => 0))), (t__11, .inl (c2__15, 60, .inl (fun _ => 0))), (p__12, .inl (c3__16, 60, .inl (fun _ => 0))), (m__13, .inl (c4__17, 60, .inl (fun _ => 0)))] H := hP
  have hD : va_D A [(h, .inr (1, [.ref ro, .int 1, .ref ba, .ref ra, .ref su, .int 0, .ref tr])), (ro, .inl (cR, 6, .inr (.inr (.inr (.inr fr))))), (q8, .inr (0, [.int 10, .int 6, .int 30, .int 100, .int 0, .int 0, .ref k__10, .ref t__11, .ref p__12, .ref m__13])), (k__10, .inl (c1__14, 60, .inl (fun _ => 0))), (t__11, .inl (c2__15, 60, .inl (fun _ => 0))), (p__12, .inl (c3__16, 60, .inl (fun _ => 0))), (m__13, .inl (c4__17, 60, .inl (fun _ => 0)))] := hD
  refine W.widen (k := 5) (n := 250) (Nat.le_of_ble_eq_true rfl) (Nat.le_of_ble_eq_true rfl) ?_
  obtain - := hr9
  refine va_astq hx hb hK hP hD hS 1 0 2 0 rfl rfl rfl rfl (vp_in_nI (n := 1) (by decide) (by decide)) dX1_build_82 (fun H locs hP hD hS => ?_)
  have hP : va_P (dC, dI) vwCl [(h, .inr (1, [.ref ro, .int 1, .ref ba, .ref ra, .ref su, .int 0, .ref tr])), (ro, .inl (cR, 6, .inr (.inr (.inr (.inr (va_up fr 1 (some q8))))))), (q8, .inr (0, [.int 10, .int 6, .int 30, .int 100, .int 0, .int 0, .ref k__10, .ref t__11, .ref p__12, .ref m__13])), (k__10, .inl (c1__14, 60, .inl (fun _ => 0))), (t__11, .inl (c2__15, 60, .inl (fun _ => 0))), (p__12, .inl (c3__16, 60, .inl (fun _ => 0))), (m__13, .inl (c4__17, 60, .inl (fun _ => 0)))] H := hP
  have hD : va_D A [(h, .inr (1, [.ref ro, .int 1, .ref ba, .ref ra, .ref su, .int 0, .ref tr])), (ro, .inl (cR, 6, .inr (.inr (.inr (.inr (va_up fr 1 (some q8))))))), (q8, .inr (0, [.int 10, .int 6, .int 30, .int 100, .int 0, .int 0, .ref k__10, .ref t__11, .ref p__12, .ref m__13])), (k__10, .inl (c1__14, 60, .inl (fun _ => 0))), (t__11, .inl (c2__15, 60, .inl (fun _ => 0))), (p__12, .inl (c3__16, 60, .inl (fun _ => 0))), (m__13, .inl (c4__17, 60, .inl (fun _ => 0)))] := hD
  refine lv_aload_n hx hb dX1_build_83 rfl (lv_at hl 1 rfl) ?_
  refine lv_dup hx hb dX1_build_84 rfl ?_
  refine va_get (D := (dC, dI)) (ci := 1) (v := .int 1) (C := RX1) (T := TX1) (N := 7) hx hb hts (by decide +kernel) hown hK hP 0 rfl rfl 1 (by decide) (hts (.fieldLink RX1 43 "ThatchRoof" "built" "I") (by decide +kernel)) (fun _ h9 => h9) rfl dX1_build_85 ?_
  refine lv_iconst (v := 1) hx hb dX1_build_88 (by decide) ?_
  refine lv_iadd hx hb dX1_build_89 ?_
  refine W.eq (g2 := F0 m 90 ls [.int 2, .ref h]) rfl ?_
  refine va_put (D := (dC, dI)) (ci := 1) (v := .int 2) (ty := .int) (C := RX1) (T := TX1) (N := 7) hx hb hts (by decide +kernel) tyX1 tyX1_ok nmX1 hown hK hP hD hS 0 rfl rfl 1 (by decide) (hts (.fieldLink RX1 43 "ThatchRoof" "built" "I") (by decide +kernel)) (fun _ h9 => h9) rfl (by decide +kernel) rfl rfl (Nat.le_of_ble_eq_true rfl) dX1_build_90 (fun H locs hP hD hS => ?_)
  have hP : va_P (dC, dI) vwCl [(h, .inr (1, [.ref ro, .int 2, .ref ba, .ref ra, .ref su, .int 0, .ref tr])), (ro, .inl (cR, 6, .inr (.inr (.inr (.inr (va_up fr 1 (some q8))))))), (q8, .inr (0, [.int 10, .int 6, .int 30, .int 100, .int 0, .int 0, .ref k__10, .ref t__11, .ref p__12, .ref m__13])), (k__10, .inl (c1__14, 60, .inl (fun _ => 0))), (t__11, .inl (c2__15, 60, .inl (fun _ => 0))), (p__12, .inl (c3__16, 60, .inl (fun _ => 0))), (m__13, .inl (c4__17, 60, .inl (fun _ => 0)))] H := hP
  have hD : va_D A [(h, .inr (1, [.ref ro, .int 2, .ref ba, .ref ra, .ref su, .int 0, .ref tr])), (ro, .inl (cR, 6, .inr (.inr (.inr (.inr (va_up fr 1 (some q8))))))), (q8, .inr (0, [.int 10, .int 6, .int 30, .int 100, .int 0, .int 0, .ref k__10, .ref t__11, .ref p__12, .ref m__13])), (k__10, .inl (c1__14, 60, .inl (fun _ => 0))), (t__11, .inl (c2__15, 60, .inl (fun _ => 0))), (p__12, .inl (c3__16, 60, .inl (fun _ => 0))), (m__13, .inl (c4__17, 60, .inl (fun _ => 0)))] := hD
  refine lv_iload hx hb dX1_build_93 (lv_at hl 0 rfl) ?_
  have hP9 := hP.sub (ws' := [(h, .inr (1, [.ref ro, .int 2, .ref ba, .ref ra, .ref su, .int 0, .ref tr])), (ro, .inl (cR, 6, .inr (.inr (.inr (.inr (va_up fr 1 (some q8))))))), (q8, .inr (0, [.int 10, .int 6, .int 30, .int 100, .int 0, .int 0, .ref k__10, .ref t__11, .ref p__12, .ref m__13])), (t__11, .inl (c2__15, 60, .inl (fun _ => 0)))]) [0, 1, 2, 4] rfl
  have hD9 := hD.sub (ws' := [(h, .inr (1, [.ref ro, .int 2, .ref ba, .ref ra, .ref su, .int 0, .ref tr])), (ro, .inl (cR, 6, .inr (.inr (.inr (.inr (va_up fr 1 (some q8))))))), (q8, .inr (0, [.int 10, .int 6, .int 30, .int 100, .int 0, .int 0, .ref k__10, .ref t__11, .ref p__12, .ref m__13])), (t__11, .inl (c2__15, 60, .inl (fun _ => 0)))]) [0, 1, 2, 4] (by decide) rfl
  have hK9 := hK.sub (tys' := [(c2__15, .int)]) [2] rfl
  refine W.widen (k := 5) (n := 250) (Nat.le_of_ble_eq_true rfl) (Nat.le_of_ble_eq_true rfl) ?_
  exact W.iret (v := 1) hx hb hr (fun t ht hW => ⟨⟨1, (q8, k__10, t__11, p__12, m__13, c2__15), rfl, by (first | rfl | assumption | decide | (simp_all; done) | grind), ⟨by rw [ht]; exact hP9, va_K.moved hW.alike hK9, hD9⟩⟩, hS.F ht⟩) hS.2.2 dX1_build_95

set_option maxHeartbeats 4000000 in
set_option maxRecDepth 100000 in
theorem rL_build1 (l : Launch) (dC : Nat → ClassId) (dI : Nat → Nat → Nat) (sz : Nat) (h : Nat) (ro : Nat) (ba : Nat) (ra : Nat) (su : Nat) (tr : Nat) (cR : ClassId) (fr : Nat → Option Nat) (ou : Nat) (cO : ClassId) (fp : Nat → Int64) : Met l yL_build wsL_build ({ frames := 3, cells := 5, slots := 250, locals := 59 }) (va_Pc [.ref h, .int 10, .int 6, .int 30, .ref ou] (fun U => U.heap.size = sz ∧ va_P (dC, dI) vwCl [(h, .inr (1, [.ref ro, .int 1, .ref ba, .ref ra, .ref su, .int 0, .ref tr])), (ro, .inl (cR, 6, .inr (.inr (.inr (.inr fr))))), (ou, .inl (cO, 1, .inr (.inl fp)))] U.heap ∧ va_K (dC, dI) vwCl [(cR, .object RX0), (cO, .long)] U ∧ va_D (fun _ => True) [(h, .inr (1, [.ref ro, .int 1, .ref ba, .ref ra, .ref su, .int 0, .ref tr])), (ro, .inl (cR, 6, .inr (.inr (.inr (.inr fr))))), (ou, .inl (cO, 1, .inr (.inl fp)))])) (va_Qi (fun (r : Int32) (u : Nat × Nat × Nat × Nat × Nat × ClassId) => r = 0) (fun (u : Nat × Nat × Nat × Nat × Nat × ClassId) (t : State) => va_P (dC, dI) vwCl [(h, .inr (1, [.ref ro, .int 2, .ref ba, .ref ra, .ref su, .int 0, .ref tr])), (ro, .inl (cR, 6, .inr (.inr (.inr (.inr (va_up fr 1 (some u.1))))))), (u.1, .inr (0, [.int 10, .int 6, .int 30, .int 100, .int 0, .int 0, .ref u.2.1, .ref u.2.2.1, .ref u.2.2.2.1, .ref u.2.2.2.2.1])), (u.2.2.1, .inl (u.2.2.2.2.2, 60, .inl (fun _ => 0))), (ou, .inl (cO, 1, .inr (.inl (vp_updL fp 0 1))))] t.heap ∧ va_K (dC, dI) vwCl [(u.2.2.2.2.2, .int)] t ∧ va_D (va_A [(h, .inr (1, [.ref ro, .int 1, .ref ba, .ref ra, .ref su, .int 0, .ref tr])), (ro, .inl (cR, 6, .inr (.inr (.inr (.inr fr))))), (ou, .inl (cO, 1, .inr (.inl fp)))] sz) [(h, .inr (1, [.ref ro, .int 2, .ref ba, .ref ra, .ref su, .int 0, .ref tr])), (ro, .inl (cR, 6, .inr (.inr (.inr (.inr (va_up fr 1 (some u.1))))))), (u.1, .inr (0, [.int 10, .int 6, .int 30, .int 100, .int 0, .int 0, .ref u.2.1, .ref u.2.2.1, .ref u.2.2.2.1, .ref u.2.2.2.2.1])), (u.2.2.1, .inl (u.2.2.2.2.2, 60, .inl (fun _ => 0))), (ou, .inl (cO, 1, .inr (.inl (vp_updL fp 0 1))))]) (va_A [(h, .inr (1, [.ref ro, .int 1, .ref ba, .ref ra, .ref su, .int 0, .ref tr])), (ro, .inl (cR, 6, .inr (.inr (.inr (.inr fr))))), (ou, .inl (cO, 1, .inr (.inl fp)))] sz)) 5 250 (va_A [(h, .inr (1, [.ref ro, .int 1, .ref ba, .ref ra, .ref su, .int 0, .ref tr])), (ro, .inl (cR, 6, .inr (.inr (.inr (.inr fr))))), (ou, .inl (cO, 1, .inr (.inl fp)))] sz) := by
  refine va_MetW (cc := cL_build) (maxL := 6) (ret := (some .int)) (by decide) rfl ?_
  intro p e s m args below meth c s₁ B hml hv
  obtain ⟨rfl, hsz, hP, hK, hD0⟩ := hv
  have hx := B.exec
  have hb := B.bytes
  have hr := B.returns
  have hts := atoms_spec (ws := wsL_build) B.pre
  have hown : s.vm.findClass RL = some m.cls := findClass_of_methodNamed B.named
  have hlocks := B.notSynchronized
  have htab := vx_table (x := yL_build) B (hts (.codeWith yL_build cL_build 6 (some .int) [(0, 12, 15, 13), (0, 12, 19, 15)]) List.mem_cons_self)
  subst hsz
  have hD := hD0.self (sz := s.heap.size)
  generalize hAe : va_A [(h, .inr (1, [.ref ro, .int 1, .ref ba, .ref ra, .ref su, .int 0, .ref tr])), (ro, .inl (cR, 6, .inr (.inr (.inr (.inr fr))))), (ou, .inl (cO, 1, .inr (.inl fp)))] s.heap.size = A at hD ⊢
  have hA : ∀ q : Nat, s.heap.size ≤ q → A q := fun q h => by rw [← hAe]; exact Or.inr h
  have hS : va_S A s.heap s.heap [] := va_S.rf
  have hP : va_P (dC, dI) vwCl [(h, .inr (1, [.ref ro, .int 1, .ref ba, .ref ra, .ref su, .int 0, .ref tr])), (ro, .inl (cR, 6, .inr (.inr (.inr (.inr fr))))), (ou, .inl (cO, 1, .inr (.inl fp)))] s.heap := hP
  have hl := lv_entry ([.ref h, .int 10, .int 6, .int 30, .ref ou]) (n := 6) (Nat.le_of_ble_eq_true rfl)
  rw [lg_entry_eq]
  generalize (lg_sl ([.ref h, .int 10, .int 6, .int 30, .ref ou]) ++ List.replicate (6 - (lg_sl ([.ref h, .int 10, .int 6, .int 30, .ref ou])).length) Slot.unset).toArray = ls at hl ⊢
  have hl : lv_has ls 6 [(0, .ref h), (1, .int 10), (2, .int 6), (3, .int 30), (4, .ref ou)] := hl
  refine lv_aload hx hb dL_build_0 (lv_at hl 4 rfl) ?_
  refine lv_iconst (v := 0) hx hb dL_build_2 (by decide) ?_
  refine lv_aload_n hx hb dL_build_3 rfl (lv_at hl 0 rfl) ?_
  refine lv_iload_n hx hb dL_build_4 rfl (lv_at hl 1 rfl) ?_
  refine lv_iload_n hx hb dL_build_5 rfl (lv_at hl 2 rfl) ?_
  refine lv_iload_n hx hb dL_build_6 rfl (lv_at hl 3 rfl) ?_
  have hPc := hP.sub (ws' := [(h, .inr (1, [.ref ro, .int 1, .ref ba, .ref ra, .ref su, .int 0, .ref tr])), (ro, .inl (cR, 6, .inr (.inr (.inr (.inr fr)))))]) [0, 1] rfl
  have hKc := hK.sub (tys' := [(cR, .object RX0)]) [0] rfl
  have hDc := hD.sub (ws' := [(h, .inr (1, [.ref ro, .int 1, .ref ba, .ref ra, .ref su, .int 0, .ref tr])), (ro, .inl (cR, 6, .inr (.inr (.inr (.inr fr)))))]) [0, 1] (by decide) rfl
  have hFc := va_free (wc := [(h, .inr (1, [.ref ro, .int 1, .ref ba, .ref ra, .ref su, .int 0, .ref tr])), (ro, .inl (cR, 6, .inr (.inr (.inr (.inr fr)))))]) hD hS hA [0, 1] rfl
  refine va_calli (va_runV (As := [.int 10, .int 6, .int 30]) (rest := [.int 0, .ref ou]) ⟨hx, hb, hml, hown, hts⟩ (r1_build1 l dC dI s.heap.size h ro ba ra su tr cR fr ) (cwV 3 hts gL_build_X1_build rfl rfl rfl (by decide +kernel) ⟨Nat.le_of_ble_eq_true rfl, Nat.le_of_ble_eq_true rfl⟩) ⟨fun a U g mk q => by obtain ⟨q0, q1, qP, qK, qD⟩ := q; exact ⟨q0, q1, qP, va_K.moved (u := U) (U := U.calling g mk a) (Vm.Alike.refl U.vm) qK, qD⟩, va_recv hKc hPc (ci := 1) (q0 := 0) rfl rfl, fun U hU hW => ⟨rfl, by rw [hU], by rw [hU]; exact hPc, va_K.moved hW.alike hKc, hDc.weaken (fun _ _ _ _ => trivial)⟩⟩ rfl rfl hl.1 rfl (lv_room (Nat.le_of_ble_eq_true rfl)) dL_build_7 ⟨Nat.le_of_ble_eq_true rfl, Nat.le_of_ble_eq_true rfl⟩) hS (fun q _ h => hFc q h) hFc (fun r1 u t H1 locs ht hvm hr1 hB hz1 hk1 hS => ?_)
  obtain ⟨qh_2, qk_3, qt_4, qp_5, qm_6, qc_7⟩ := u
  obtain ⟨hP1, hK1, hD1⟩ := hB
  rw [ht] at hP1
  have hK1 := va_K.moved hvm.symm hK1
  try dsimp only at hr1
  obtain ⟨hP, hD⟩ := va_join (wr := [(ou, .inl (cO, 1, .inr (.inl fp)))]) (w1 := [(h, .inr (1, [.ref ro, .int 2, .ref ba, .ref ra, .ref su, .int 0, .ref tr])), (ro, .inl (cR, 6, .inr (.inr (.inr (.inr (va_up fr 1 (some qh_2))))))), (qh_2, .inr (0, [.int 10, .int 6, .int 30, .int 100, .int 0, .int 0, .ref qk_3, .ref qt_4, .ref qp_5, .ref qm_6])), (qt_4, .inl (qc_7, 60, .inl (fun _ => 0)))]) hP hD [0, 1] [2] rfl rfl (by decide) (by decide) hk1 hFc hP1 hD1
  have hK := hK.app hK1
  have hK : va_K (dC, dI) vwCl [(cR, .object RX0), (cO, .long), (qc_7, .int)] s := hK
  generalize H1 = H at hP hS ⊢
  have hP : va_P (dC, dI) vwCl [(ou, .inl (cO, 1, .inr (.inl fp))), (h, .inr (1, [.ref ro, .int 2, .ref ba, .ref ra, .ref su, .int 0, .ref tr])), (ro, .inl (cR, 6, .inr (.inr (.inr (.inr (va_up fr 1 (some qh_2))))))), (qh_2, .inr (0, [.int 10, .int 6, .int 30, .int 100, .int 0, .int 0, .ref qk_3, .ref qt_4, .ref qp_5, .ref qm_6])), (qt_4, .inl (qc_7, 60, .inl (fun _ => 0)))] H := hP
  have hD : va_D A [(ou, .inl (cO, 1, .inr (.inl fp))), (h, .inr (1, [.ref ro, .int 2, .ref ba, .ref ra, .ref su, .int 0, .ref tr])), (ro, .inl (cR, 6, .inr (.inr (.inr (.inr (va_up fr 1 (some qh_2))))))), (qh_2, .inr (0, [.int 10, .int 6, .int 30, .int 100, .int 0, .int 0, .ref qk_3, .ref qt_4, .ref qp_5, .ref qm_6])), (qt_4, .inl (qc_7, 60, .inl (fun _ => 0)))] := hD
  refine W.widen (k := 5) (n := 250) (Nat.le_of_ble_eq_true rfl) (Nat.le_of_ble_eq_true rfl) ?_
  obtain rfl := hr1
  refine lv_i2l (v := 1) hx hb dL_build_10 (by first | rfl | decide) ?_
  refine va_last hx hb hK hP hD hS 0 1 rfl rfl (vp_in_nI (n := 0) (by decide) (by decide)) dL_build_11 (fun H locs hP hD hS => ?_)
  have hP : va_P (dC, dI) vwCl [(ou, .inl (cO, 1, .inr (.inl (vp_updL fp 0 1)))), (h, .inr (1, [.ref ro, .int 2, .ref ba, .ref ra, .ref su, .int 0, .ref tr])), (ro, .inl (cR, 6, .inr (.inr (.inr (.inr (va_up fr 1 (some qh_2))))))), (qh_2, .inr (0, [.int 10, .int 6, .int 30, .int 100, .int 0, .int 0, .ref qk_3, .ref qt_4, .ref qp_5, .ref qm_6])), (qt_4, .inl (qc_7, 60, .inl (fun _ => 0)))] H := hP
  have hD : va_D A [(ou, .inl (cO, 1, .inr (.inl (vp_updL fp 0 1)))), (h, .inr (1, [.ref ro, .int 2, .ref ba, .ref ra, .ref su, .int 0, .ref tr])), (ro, .inl (cR, 6, .inr (.inr (.inr (.inr (va_up fr 1 (some qh_2))))))), (qh_2, .inr (0, [.int 10, .int 6, .int 30, .int 100, .int 0, .int 0, .ref qk_3, .ref qt_4, .ref qp_5, .ref qm_6])), (qt_4, .inl (qc_7, 60, .inl (fun _ => 0)))] := hD
  refine lv_goto (tgt := 23) hx hb dL_build_12 (by decide) ?_
  refine lv_iconst (v := 0) hx hb dL_build_23 (by decide) ?_
  have hP9 := hP.sub (ws' := [(h, .inr (1, [.ref ro, .int 2, .ref ba, .ref ra, .ref su, .int 0, .ref tr])), (ro, .inl (cR, 6, .inr (.inr (.inr (.inr (va_up fr 1 (some qh_2))))))), (qh_2, .inr (0, [.int 10, .int 6, .int 30, .int 100, .int 0, .int 0, .ref qk_3, .ref qt_4, .ref qp_5, .ref qm_6])), (qt_4, .inl (qc_7, 60, .inl (fun _ => 0))), (ou, .inl (cO, 1, .inr (.inl (vp_updL fp 0 1))))]) [1, 2, 3, 4, 0] rfl
  have hD9 := hD.sub (ws' := [(h, .inr (1, [.ref ro, .int 2, .ref ba, .ref ra, .ref su, .int 0, .ref tr])), (ro, .inl (cR, 6, .inr (.inr (.inr (.inr (va_up fr 1 (some qh_2))))))), (qh_2, .inr (0, [.int 10, .int 6, .int 30, .int 100, .int 0, .int 0, .ref qk_3, .ref qt_4, .ref qp_5, .ref qm_6])), (qt_4, .inl (qc_7, 60, .inl (fun _ => 0))), (ou, .inl (cO, 1, .inr (.inl (vp_updL fp 0 1))))]) [1, 2, 3, 4, 0] (by decide) rfl
  have hK9 := hK.sub (tys' := [(qc_7, .int)]) [2] rfl
  refine W.widen (k := 5) (n := 250) (Nat.le_of_ble_eq_true rfl) (Nat.le_of_ble_eq_true rfl) ?_
  exact W.iret (v := 0) hx hb hr (fun t ht hW => ⟨⟨0, (qh_2, qk_3, qt_4, qp_5, qm_6, qc_7), rfl, by (first | rfl | assumption | decide | (simp_all; done) | grind), ⟨by rw [ht]; exact hP9, va_K.moved hW.alike hK9, hD9⟩⟩, hS.F ht⟩) hS.2.2 dL_build_24

set_option maxHeartbeats 4000000 in
set_option maxRecDepth 100000 in
theorem r3_build1 (l : Launch) (dC : Nat → ClassId) (dI : Nat → Nat → Nat) (sz : Nat) (hm : Nat) (wi : Nat) (co : Nat) (sl : Nat) (rn : Nat) (so : Nat) (bn : Nat) (sm : Nat) (ah : Nat) (th : Int32) (gr : Nat) (gt : Nat) (gw : Nat) (gk : Nat) (gi : Nat) (gp : Nat) (go : Nat) (gg : Nat) (d1 : ClassId) (d2 : ClassId) (d3 : ClassId) (d4 : ClassId) (fw : Nat → Int32) (fc : Nat → Int32) (fs : Nat → Int32) (fg : Nat → Int32) : Met l yX3_build wsX3_build ({ frames := 1, cells := 0, slots := 0, locals := 22 }) (va_Pc [.ref hm, .int 10, .int 6, .int 30] (fun U => U.heap.size = sz ∧ va_P (dC, dI) vwCl [(hm, .inr (3, [.int th, .int 1, .ref wi, .ref co, .ref sl, .ref rn, .ref so, .ref bn, .ref sm, .ref ah])), (sm, .inr (2, [.int 0, .ref gr, .ref gt, .ref gw, .ref gk, .ref gi, .ref gp, .ref go, .ref gg, .ref hm])), (wi, .inl (d1, 6, .inl fw)), (co, .inl (d2, 6, .inl fc)), (sl, .inl (d3, 6, .inl fs)), (gr, .inl (d4, 6, .inl fg))] U.heap ∧ va_K (dC, dI) vwCl [(d1, .int), (d2, .int), (d3, .int), (d4, .int)] U ∧ va_D (fun _ => True) [(hm, .inr (3, [.int th, .int 1, .ref wi, .ref co, .ref sl, .ref rn, .ref so, .ref bn, .ref sm, .ref ah])), (sm, .inr (2, [.int 0, .ref gr, .ref gt, .ref gw, .ref gk, .ref gi, .ref gp, .ref go, .ref gg, .ref hm])), (wi, .inl (d1, 6, .inl fw)), (co, .inl (d2, 6, .inl fc)), (sl, .inl (d3, 6, .inl fs)), (gr, .inl (d4, 6, .inl fg))] ∧ zNs U)) (va_Qi (fun (r : Int32) (u : Unit) => r = 1) (fun (u : Unit) (t : State) => va_P (dC, dI) vwCl [(hm, .inr (3, [.int 0, .int 2, .ref wi, .ref co, .ref sl, .ref rn, .ref so, .ref bn, .ref sm, .ref ah])), (sm, .inr (2, [.int 0, .ref gr, .ref gt, .ref gw, .ref gk, .ref gi, .ref gp, .ref go, .ref gg, .ref hm])), (wi, .inl (d1, 6, .inl (upd fw 1 10))), (co, .inl (d2, 6, .inl (upd fc 1 6))), (sl, .inl (d3, 6, .inl (upd fs 1 30))), (gr, .inl (d4, 6, .inl (upd fg 1 100)))] t.heap ∧ va_K (dC, dI) vwCl [] t ∧ va_D (va_A [(hm, .inr (3, [.int th, .int 1, .ref wi, .ref co, .ref sl, .ref rn, .ref so, .ref bn, .ref sm, .ref ah])), (sm, .inr (2, [.int 0, .ref gr, .ref gt, .ref gw, .ref gk, .ref gi, .ref gp, .ref go, .ref gg, .ref hm])), (wi, .inl (d1, 6, .inl fw)), (co, .inl (d2, 6, .inl fc)), (sl, .inl (d3, 6, .inl fs)), (gr, .inl (d4, 6, .inl fg))] sz) [(hm, .inr (3, [.int 0, .int 2, .ref wi, .ref co, .ref sl, .ref rn, .ref so, .ref bn, .ref sm, .ref ah])), (sm, .inr (2, [.int 0, .ref gr, .ref gt, .ref gw, .ref gk, .ref gi, .ref gp, .ref go, .ref gg, .ref hm])), (wi, .inl (d1, 6, .inl (upd fw 1 10))), (co, .inl (d2, 6, .inl (upd fc 1 6))), (sl, .inl (d3, 6, .inl (upd fs 1 30))), (gr, .inl (d4, 6, .inl (upd fg 1 100)))]) (va_A [(hm, .inr (3, [.int th, .int 1, .ref wi, .ref co, .ref sl, .ref rn, .ref so, .ref bn, .ref sm, .ref ah])), (sm, .inr (2, [.int 0, .ref gr, .ref gt, .ref gw, .ref gk, .ref gi, .ref gp, .ref go, .ref gg, .ref hm])), (wi, .inl (d1, 6, .inl fw)), (co, .inl (d2, 6, .inl fc)), (sl, .inl (d3, 6, .inl fs)), (gr, .inl (d4, 6, .inl fg))] sz)) 0 0 (va_A [(hm, .inr (3, [.int th, .int 1, .ref wi, .ref co, .ref sl, .ref rn, .ref so, .ref bn, .ref sm, .ref ah])), (sm, .inr (2, [.int 0, .ref gr, .ref gt, .ref gw, .ref gk, .ref gi, .ref gp, .ref go, .ref gg, .ref hm])), (wi, .inl (d1, 6, .inl fw)), (co, .inl (d2, 6, .inl fc)), (sl, .inl (d3, 6, .inl fs)), (gr, .inl (d4, 6, .inl fg))] sz) := by
  refine Met.ofW (cc := cX3_build) (maxL := 4) (ret := (some .int)) (by decide) rfl ?_
  intro p e s m args below meth c s₁ B hml hv
  obtain ⟨rfl, hsz, hP, hK, hD0, hZN⟩ := hv
  have hx := B.exec
  have hb := B.bytes
  have hr := B.returns
  have hts := atoms_spec (ws := wsX3_build) B.pre
  have hown : s.vm.findClass RX3 = some m.cls := findClass_of_methodNamed B.named
  have hlocks := B.notSynchronized
  subst hsz
  have hD := hD0.self (sz := s.heap.size)
  generalize hAe : va_A [(hm, .inr (3, [.int th, .int 1, .ref wi, .ref co, .ref sl, .ref rn, .ref so, .ref bn, .ref sm, .ref ah])), (sm, .inr (2, [.int 0, .ref gr, .ref gt, .ref gw, .ref gk, .ref gi, .ref gp, .ref go, .ref gg, .ref hm])), (wi, .inl (d1, 6, .inl fw)), (co, .inl (d2, 6, .inl fc)), (sl, .inl (d3, 6, .inl fs)), (gr, .inl (d4, 6, .inl fg))] s.heap.size = A at hD ⊢
  have hA : ∀ q : Nat, s.heap.size ≤ q → A q := fun q h => by rw [← hAe]; exact Or.inr h
  have hS : va_S A s.heap s.heap [] := va_S.rf
  have hP : va_P (dC, dI) vwCl [(hm, .inr (3, [.int th, .int 1, .ref wi, .ref co, .ref sl, .ref rn, .ref so, .ref bn, .ref sm, .ref ah])), (sm, .inr (2, [.int 0, .ref gr, .ref gt, .ref gw, .ref gk, .ref gi, .ref gp, .ref go, .ref gg, .ref hm])), (wi, .inl (d1, 6, .inl fw)), (co, .inl (d2, 6, .inl fc)), (sl, .inl (d3, 6, .inl fs)), (gr, .inl (d4, 6, .inl fg))] s.heap := hP
  have hl := lv_entry ([.ref hm, .int 10, .int 6, .int 30]) (n := 4) (Nat.le_of_ble_eq_true rfl)
  rw [lg_entry_eq]
  generalize (lg_sl ([.ref hm, .int 10, .int 6, .int 30]) ++ List.replicate (4 - (lg_sl ([.ref hm, .int 10, .int 6, .int 30])).length) Slot.unset).toArray = ls at hl ⊢
  have hl : lv_has ls 4 [(0, .ref hm), (1, .int 10), (2, .int 6), (3, .int 30)] := hl
  refine lv_aload_n hx hb dX3_build_0 rfl (lv_at hl 0 rfl) ?_
  refine lv_iconst (v := 0) hx hb dX3_build_1 (by decide) ?_
  refine va_put (D := (dC, dI)) (ci := 3) (v := .int 0) (ty := .int) (C := RX3) (T := TX3) (N := 10) hx hb hts (by decide +kernel) tyX3 tyX3_ok nmX3 hown hK hP hD hS 0 rfl rfl 0 (by decide) (hts (.fieldLink RX3 40 "ThatchRoofModel" "thrown" "I") (by decide +kernel)) (fun _ h9 => h9) rfl (by decide +kernel) rfl rfl (Nat.le_of_ble_eq_true rfl) dX3_build_2 (fun H locs hP hD hS => ?_)
  have hP : va_P (dC, dI) vwCl [(hm, .inr (3, [.int 0, .int 1, .ref wi, .ref co, .ref sl, .ref rn, .ref so, .ref bn, .ref sm, .ref ah])), (sm, .inr (2, [.int 0, .ref gr, .ref gt, .ref gw, .ref gk, .ref gi, .ref gp, .ref go, .ref gg, .ref hm])), (wi, .inl (d1, 6, .inl fw)), (co, .inl (d2, 6, .inl fc)), (sl, .inl (d3, 6, .inl fs)), (gr, .inl (d4, 6, .inl fg))] H := hP
  have hD : va_D A [(hm, .inr (3, [.int 0, .int 1, .ref wi, .ref co, .ref sl, .ref rn, .ref so, .ref bn, .ref sm, .ref ah])), (sm, .inr (2, [.int 0, .ref gr, .ref gt, .ref gw, .ref gk, .ref gi, .ref gp, .ref go, .ref gg, .ref hm])), (wi, .inl (d1, 6, .inl fw)), (co, .inl (d2, 6, .inl fc)), (sl, .inl (d3, 6, .inl fs)), (gr, .inl (d4, 6, .inl fg))] := hD
  refine lv_iload_n hx hb dX3_build_5 rfl (lv_at hl 1 rfl) ?_
  refine lv_iconst (v := 2) hx hb dX3_build_6 (by decide) ?_
  refine lv_bipush (v := 10) hx hb dX3_build_7 (by decide) ?_
  refine vp_callSi (va_runS (As := [.int 10, .int 2, .int 10]) (rest := []) ⟨hx, hb, hml, hown, hts⟩ (r3_isIn10 l dC dI  ) (va_cwS 3 hts gX3_build_X3_isIn rfl rfl rfl (by decide +kernel) ⟨Nat.le_of_ble_eq_true rfl, Nat.le_of_ble_eq_true rfl⟩) ⟨fun a U g mk q => q, fun U hU hW => ⟨rfl, trivial⟩⟩ rfl rfl hl.1 rfl (lv_room (Nat.le_of_ble_eq_true rfl)) dX3_build_9 ⟨Nat.le_of_ble_eq_true rfl, Nat.le_of_ble_eq_true rfl⟩).run (fun r1 hr1 => ?_)
  obtain rfl := hr1
  refine lv_if_eq (tgt := 36) hx hb dX3_build_12 (by decide) (fun c2 => absurd c2 (by decide)) (fun c2 => ?_)
  refine lv_iload_n hx hb dX3_build_15 rfl (lv_at hl 2 rfl) ?_
  refine lv_iconst (v := 2) hx hb dX3_build_16 (by decide) ?_
  refine lv_bipush (v := 6) hx hb dX3_build_17 (by decide) ?_
  refine vp_callSi (va_runS (As := [.int 6, .int 2, .int 6]) (rest := []) ⟨hx, hb, hml, hown, hts⟩ (r3_isIn6 l dC dI  ) (va_cwS 3 hts gX3_build_X3_isIn rfl rfl rfl (by decide +kernel) ⟨Nat.le_of_ble_eq_true rfl, Nat.le_of_ble_eq_true rfl⟩) ⟨fun a U g mk q => q, fun U hU hW => ⟨rfl, trivial⟩⟩ rfl rfl hl.1 rfl (lv_room (Nat.le_of_ble_eq_true rfl)) dX3_build_19 ⟨Nat.le_of_ble_eq_true rfl, Nat.le_of_ble_eq_true rfl⟩).run (fun r3 hr3 => ?_)
  obtain rfl := hr3
  refine lv_if_eq (tgt := 36) hx hb dX3_build_22 (by decide) (fun c4 => absurd c4 (by decide)) (fun c4 => ?_)
  refine lv_iload_n hx hb dX3_build_25 rfl (lv_at hl 3 rfl) ?_
  refine lv_bipush (v := 30) hx hb dX3_build_26 (by decide) ?_
  refine lv_bipush (v := 60) hx hb dX3_build_28 (by decide) ?_
  refine vp_callSi (va_runS (As := [.int 30, .int 30, .int 60]) (rest := []) ⟨hx, hb, hml, hown, hts⟩ (r3_isIn30 l dC dI  ) (va_cwS 3 hts gX3_build_X3_isIn rfl rfl rfl (by decide +kernel) ⟨Nat.le_of_ble_eq_true rfl, Nat.le_of_ble_eq_true rfl⟩) ⟨fun a U g mk q => q, fun U hU hW => ⟨rfl, trivial⟩⟩ rfl rfl hl.1 rfl (lv_room (Nat.le_of_ble_eq_true rfl)) dX3_build_30 ⟨Nat.le_of_ble_eq_true rfl, Nat.le_of_ble_eq_true rfl⟩).run (fun r5 hr5 => ?_)
  obtain rfl := hr5
  refine lv_if_ne (tgt := 42) hx hb dX3_build_33 (by decide) (fun c6 => ?_) (fun c6 => absurd c6 (by decide))
  refine lv_aload_n hx hb dX3_build_42 rfl (lv_at hl 0 rfl) ?_
  refine va_get (D := (dC, dI)) (ci := 3) (v := .int 1) (C := RX3) (T := TX3) (N := 10) hx hb hts (by decide +kernel) hown hK hP 0 rfl rfl 1 (by decide) (hts (.fieldLink RX3 44 "ThatchRoofModel" "roofs" "I") (by decide +kernel)) (fun _ h9 => h9) rfl dX3_build_43 ?_
  refine lv_bipush (v := 6) hx hb dX3_build_46 (by decide) ?_
  refine lv_icmp_ne (tgt := 57) hx hb dX3_build_48 (by decide) (fun c7 => ?_) (fun c7 => absurd c7 (by decide))
  refine lv_aload_n hx hb dX3_build_57 rfl (lv_at hl 0 rfl) ?_
  refine va_get (D := (dC, dI)) (ci := 3) (v := .ref wi) (C := RX3) (T := TX3) (N := 10) hx hb hts (by decide +kernel) hown hK hP 0 rfl rfl 2 (by decide) (hts (.fieldLink RX3 9 "ThatchRoofModel" "width" "[I") (by decide +kernel)) (fun _ h9 => h9) rfl dX3_build_58 ?_
  refine lv_aload_n hx hb dX3_build_61 rfl (lv_at hl 0 rfl) ?_
  refine va_get (D := (dC, dI)) (ci := 3) (v := .int 1) (C := RX3) (T := TX3) (N := 10) hx hb hts (by decide +kernel) hown hK hP 0 rfl rfl 1 (by decide) (hts (.fieldLink RX3 44 "ThatchRoofModel" "roofs" "I") (by decide +kernel)) (fun _ h9 => h9) rfl dX3_build_62 ?_
  refine lv_iload_n hx hb dX3_build_65 rfl (lv_at hl 1 rfl) ?_
  refine va_iast hx hb hK hP hD hS 2 0 rfl rfl (vp_in_nI (n := 1) (by decide) (by decide)) dX3_build_66 (fun H locs hP hD hS => ?_)
  have hP : va_P (dC, dI) vwCl [(hm, .inr (3, [.int 0, .int 1, .ref wi, .ref co, .ref sl, .ref rn, .ref so, .ref bn, .ref sm, .ref ah])), (sm, .inr (2, [.int 0, .ref gr, .ref gt, .ref gw, .ref gk, .ref gi, .ref gp, .ref go, .ref gg, .ref hm])), (wi, .inl (d1, 6, .inl (upd fw 1 10))), (co, .inl (d2, 6, .inl fc)), (sl, .inl (d3, 6, .inl fs)), (gr, .inl (d4, 6, .inl fg))] H := hP
  have hD : va_D A [(hm, .inr (3, [.int 0, .int 1, .ref wi, .ref co, .ref sl, .ref rn, .ref so, .ref bn, .ref sm, .ref ah])), (sm, .inr (2, [.int 0, .ref gr, .ref gt, .ref gw, .ref gk, .ref gi, .ref gp, .ref go, .ref gg, .ref hm])), (wi, .inl (d1, 6, .inl (upd fw 1 10))), (co, .inl (d2, 6, .inl fc)), (sl, .inl (d3, 6, .inl fs)), (gr, .inl (d4, 6, .inl fg))] := hD
  refine lv_aload_n hx hb dX3_build_67 rfl (lv_at hl 0 rfl) ?_
  refine va_get (D := (dC, dI)) (ci := 3) (v := .ref co) (C := RX3) (T := TX3) (N := 10) hx hb hts (by decide +kernel) hown hK hP 0 rfl rfl 3 (by decide) (hts (.fieldLink RX3 13 "ThatchRoofModel" "courses" "[I") (by decide +kernel)) (fun _ h9 => h9) rfl dX3_build_68 ?_
  refine lv_aload_n hx hb dX3_build_71 rfl (lv_at hl 0 rfl) ?_
  refine va_get (D := (dC, dI)) (ci := 3) (v := .int 1) (C := RX3) (T := TX3) (N := 10) hx hb hts (by decide +kernel) hown hK hP 0 rfl rfl 1 (by decide) (hts (.fieldLink RX3 44 "ThatchRoofModel" "roofs" "I") (by decide +kernel)) (fun _ h9 => h9) rfl dX3_build_72 ?_
  refine lv_iload_n hx hb dX3_build_75 rfl (lv_at hl 2 rfl) ?_
  refine va_iast hx hb hK hP hD hS 3 1 rfl rfl (vp_in_nI (n := 1) (by decide) (by decide)) dX3_build_76 (fun H locs hP hD hS => ?_)
  have hP : va_P (dC, dI) vwCl [(hm, .inr (3, [.int 0, .int 1, .ref wi, .ref co, .ref sl, .ref rn, .ref so, .ref bn, .ref sm, .ref ah])), (sm, .inr (2, [.int 0, .ref gr, .ref gt, .ref gw, .ref gk, .ref gi, .ref gp, .ref go, .ref gg, .ref hm])), (wi, .inl (d1, 6, .inl (upd fw 1 10))), (co, .inl (d2, 6, .inl (upd fc 1 6))), (sl, .inl (d3, 6, .inl fs)), (gr, .inl (d4, 6, .inl fg))] H := hP
  have hD : va_D A [(hm, .inr (3, [.int 0, .int 1, .ref wi, .ref co, .ref sl, .ref rn, .ref so, .ref bn, .ref sm, .ref ah])), (sm, .inr (2, [.int 0, .ref gr, .ref gt, .ref gw, .ref gk, .ref gi, .ref gp, .ref go, .ref gg, .ref hm])), (wi, .inl (d1, 6, .inl (upd fw 1 10))), (co, .inl (d2, 6, .inl (upd fc 1 6))), (sl, .inl (d3, 6, .inl fs)), (gr, .inl (d4, 6, .inl fg))] := hD
  refine lv_aload_n hx hb dX3_build_77 rfl (lv_at hl 0 rfl) ?_
  refine va_get (D := (dC, dI)) (ci := 3) (v := .ref sl) (C := RX3) (T := TX3) (N := 10) hx hb hts (by decide +kernel) hown hK hP 0 rfl rfl 4 (by decide) (hts (.fieldLink RX3 16 "ThatchRoofModel" "slope" "[I") (by decide +kernel)) (fun _ h9 => h9) rfl dX3_build_78 ?_
  refine lv_aload_n hx hb dX3_build_81 rfl (lv_at hl 0 rfl) ?_
  refine va_get (D := (dC, dI)) (ci := 3) (v := .int 1) (C := RX3) (T := TX3) (N := 10) hx hb hts (by decide +kernel) hown hK hP 0 rfl rfl 1 (by decide) (hts (.fieldLink RX3 44 "ThatchRoofModel" "roofs" "I") (by decide +kernel)) (fun _ h9 => h9) rfl dX3_build_82 ?_
  refine lv_iload_n hx hb dX3_build_85 rfl (lv_at hl 3 rfl) ?_
  refine va_iast hx hb hK hP hD hS 4 2 rfl rfl (vp_in_nI (n := 1) (by decide) (by decide)) dX3_build_86 (fun H locs hP hD hS => ?_)
  have hP : va_P (dC, dI) vwCl [(hm, .inr (3, [.int 0, .int 1, .ref wi, .ref co, .ref sl, .ref rn, .ref so, .ref bn, .ref sm, .ref ah])), (sm, .inr (2, [.int 0, .ref gr, .ref gt, .ref gw, .ref gk, .ref gi, .ref gp, .ref go, .ref gg, .ref hm])), (wi, .inl (d1, 6, .inl (upd fw 1 10))), (co, .inl (d2, 6, .inl (upd fc 1 6))), (sl, .inl (d3, 6, .inl (upd fs 1 30))), (gr, .inl (d4, 6, .inl fg))] H := hP
  have hD : va_D A [(hm, .inr (3, [.int 0, .int 1, .ref wi, .ref co, .ref sl, .ref rn, .ref so, .ref bn, .ref sm, .ref ah])), (sm, .inr (2, [.int 0, .ref gr, .ref gt, .ref gw, .ref gk, .ref gi, .ref gp, .ref go, .ref gg, .ref hm])), (wi, .inl (d1, 6, .inl (upd fw 1 10))), (co, .inl (d2, 6, .inl (upd fc 1 6))), (sl, .inl (d3, 6, .inl (upd fs 1 30))), (gr, .inl (d4, 6, .inl fg))] := hD
  refine lv_aload_n hx hb dX3_build_87 rfl (lv_at hl 0 rfl) ?_
  refine va_get (D := (dC, dI)) (ci := 3) (v := .ref sm) (C := RX3) (T := TX3) (N := 10) hx hb hts (by decide +kernel) hown hK hP 0 rfl rfl 8 (by decide) (hts (.fieldLink RX3 33 "ThatchRoofModel" "s" "LThatchRoofModel$State;") (by decide +kernel)) (fun _ h9 => h9) rfl dX3_build_88 ?_
  refine va_getN (D := (dC, dI)) (ci := 2) (v := .ref gr) (C := RX2) (T := TX2) (N := 10) hx hb hts (by decide +kernel) hown hK hP 1 rfl rfl 1 (by decide) (va_Nw.use rfl (zN_RX3_63 hZN)) (fun _ h9 => h9) rfl dX3_build_91 ?_
  refine lv_aload_n hx hb dX3_build_94 rfl (lv_at hl 0 rfl) ?_
  refine va_get (D := (dC, dI)) (ci := 3) (v := .int 1) (C := RX3) (T := TX3) (N := 10) hx hb hts (by decide +kernel) hown hK hP 0 rfl rfl 1 (by decide) (hts (.fieldLink RX3 44 "ThatchRoofModel" "roofs" "I") (by decide +kernel)) (fun _ h9 => h9) rfl dX3_build_95 ?_
  refine lv_bipush (v := 100) hx hb dX3_build_98 (by decide) ?_
  refine va_iast hx hb hK hP hD hS 5 3 rfl rfl (vp_in_nI (n := 1) (by decide) (by decide)) dX3_build_100 (fun H locs hP hD hS => ?_)
  have hP : va_P (dC, dI) vwCl [(hm, .inr (3, [.int 0, .int 1, .ref wi, .ref co, .ref sl, .ref rn, .ref so, .ref bn, .ref sm, .ref ah])), (sm, .inr (2, [.int 0, .ref gr, .ref gt, .ref gw, .ref gk, .ref gi, .ref gp, .ref go, .ref gg, .ref hm])), (wi, .inl (d1, 6, .inl (upd fw 1 10))), (co, .inl (d2, 6, .inl (upd fc 1 6))), (sl, .inl (d3, 6, .inl (upd fs 1 30))), (gr, .inl (d4, 6, .inl (upd fg 1 100)))] H := hP
  have hD : va_D A [(hm, .inr (3, [.int 0, .int 1, .ref wi, .ref co, .ref sl, .ref rn, .ref so, .ref bn, .ref sm, .ref ah])), (sm, .inr (2, [.int 0, .ref gr, .ref gt, .ref gw, .ref gk, .ref gi, .ref gp, .ref go, .ref gg, .ref hm])), (wi, .inl (d1, 6, .inl (upd fw 1 10))), (co, .inl (d2, 6, .inl (upd fc 1 6))), (sl, .inl (d3, 6, .inl (upd fs 1 30))), (gr, .inl (d4, 6, .inl (upd fg 1 100)))] := hD
  refine lv_aload_n hx hb dX3_build_101 rfl (lv_at hl 0 rfl) ?_
  refine lv_dup hx hb dX3_build_102 rfl ?_
  refine va_get (D := (dC, dI)) (ci := 3) (v := .int 1) (C := RX3) (T := TX3) (N := 10) hx hb hts (by decide +kernel) hown hK hP 0 rfl rfl 1 (by decide) (hts (.fieldLink RX3 44 "ThatchRoofModel" "roofs" "I") (by decide +kernel)) (fun _ h9 => h9) rfl dX3_build_103 ?_
  refine lv_iconst (v := 1) hx hb dX3_build_106 (by decide) ?_
  refine lv_iadd hx hb dX3_build_107 ?_
  refine W.eq (g2 := F0 m 108 ls [.int 2, .ref hm]) rfl ?_
  refine va_put (D := (dC, dI)) (ci := 3) (v := .int 2) (ty := .int) (C := RX3) (T := TX3) (N := 10) hx hb hts (by decide +kernel) tyX3 tyX3_ok nmX3 hown hK hP hD hS 0 rfl rfl 1 (by decide) (hts (.fieldLink RX3 44 "ThatchRoofModel" "roofs" "I") (by decide +kernel)) (fun _ h9 => h9) rfl (by decide +kernel) rfl rfl (Nat.le_of_ble_eq_true rfl) dX3_build_108 (fun H locs hP hD hS => ?_)
  have hP : va_P (dC, dI) vwCl [(hm, .inr (3, [.int 0, .int 2, .ref wi, .ref co, .ref sl, .ref rn, .ref so, .ref bn, .ref sm, .ref ah])), (sm, .inr (2, [.int 0, .ref gr, .ref gt, .ref gw, .ref gk, .ref gi, .ref gp, .ref go, .ref gg, .ref hm])), (wi, .inl (d1, 6, .inl (upd fw 1 10))), (co, .inl (d2, 6, .inl (upd fc 1 6))), (sl, .inl (d3, 6, .inl (upd fs 1 30))), (gr, .inl (d4, 6, .inl (upd fg 1 100)))] H := hP
  have hD : va_D A [(hm, .inr (3, [.int 0, .int 2, .ref wi, .ref co, .ref sl, .ref rn, .ref so, .ref bn, .ref sm, .ref ah])), (sm, .inr (2, [.int 0, .ref gr, .ref gt, .ref gw, .ref gk, .ref gi, .ref gp, .ref go, .ref gg, .ref hm])), (wi, .inl (d1, 6, .inl (upd fw 1 10))), (co, .inl (d2, 6, .inl (upd fc 1 6))), (sl, .inl (d3, 6, .inl (upd fs 1 30))), (gr, .inl (d4, 6, .inl (upd fg 1 100)))] := hD
  refine lv_aload_n hx hb dX3_build_111 rfl (lv_at hl 0 rfl) ?_
  refine va_get (D := (dC, dI)) (ci := 3) (v := .int 2) (C := RX3) (T := TX3) (N := 10) hx hb hts (by decide +kernel) hown hK hP 0 rfl rfl 1 (by decide) (hts (.fieldLink RX3 44 "ThatchRoofModel" "roofs" "I") (by decide +kernel)) (fun _ h9 => h9) rfl dX3_build_112 ?_
  refine lv_iconst (v := 1) hx hb dX3_build_115 (by decide) ?_
  refine lv_isub hx hb dX3_build_116 ?_
  refine W.eq (g2 := F0 m 117 ls [.int 1]) rfl ?_
  have hP9 := hP.sub (ws' := [(hm, .inr (3, [.int 0, .int 2, .ref wi, .ref co, .ref sl, .ref rn, .ref so, .ref bn, .ref sm, .ref ah])), (sm, .inr (2, [.int 0, .ref gr, .ref gt, .ref gw, .ref gk, .ref gi, .ref gp, .ref go, .ref gg, .ref hm])), (wi, .inl (d1, 6, .inl (upd fw 1 10))), (co, .inl (d2, 6, .inl (upd fc 1 6))), (sl, .inl (d3, 6, .inl (upd fs 1 30))), (gr, .inl (d4, 6, .inl (upd fg 1 100)))]) [0, 1, 2, 3, 4, 5] rfl
  have hD9 := hD.sub (ws' := [(hm, .inr (3, [.int 0, .int 2, .ref wi, .ref co, .ref sl, .ref rn, .ref so, .ref bn, .ref sm, .ref ah])), (sm, .inr (2, [.int 0, .ref gr, .ref gt, .ref gw, .ref gk, .ref gi, .ref gp, .ref go, .ref gg, .ref hm])), (wi, .inl (d1, 6, .inl (upd fw 1 10))), (co, .inl (d2, 6, .inl (upd fc 1 6))), (sl, .inl (d3, 6, .inl (upd fs 1 30))), (gr, .inl (d4, 6, .inl (upd fg 1 100)))]) [0, 1, 2, 3, 4, 5] (by decide) rfl
  have hK9 := hK.sub (tys' := []) [] rfl
  refine W.widen (k := 0) (n := 0) (Nat.le_of_ble_eq_true rfl) (Nat.le_of_ble_eq_true rfl) ?_
  exact W.iret (v := 1) hx hb hr (fun t ht hW => ⟨⟨1, (), rfl, by (first | rfl | assumption | decide | (simp_all; done) | grind), ⟨by rw [ht]; exact hP9, va_K.moved hW.alike hK9, hD9⟩⟩, hS.F ht⟩) hS.2.2 dX3_build_117

set_option maxHeartbeats 4000000 in
set_option maxRecDepth 100000 in
theorem r1_build2 (l : Launch) (dC : Nat → ClassId) (dI : Nat → Nat → Nat) (sz : Nat) (h : Nat) (ro : Nat) (ba : Nat) (ra : Nat) (su : Nat) (tr : Nat) (cR : ClassId) (fr : Nat → Option Nat) : Met l yX1_build wsX1_build ({ frames := 2, cells := 5, slots := 250, locals := 35 }) (va_Pc [.ref h, .int 10, .int 6, .int 30] (fun U => U.heap.size = sz ∧ va_P (dC, dI) vwCl [(h, .inr (1, [.ref ro, .int 2, .ref ba, .ref ra, .ref su, .int 0, .ref tr])), (ro, .inl (cR, 6, .inr (.inr (.inr (.inr fr)))))] U.heap ∧ va_K (dC, dI) vwCl [(cR, .object RX0)] U ∧ va_D (fun _ => True) [(h, .inr (1, [.ref ro, .int 2, .ref ba, .ref ra, .ref su, .int 0, .ref tr])), (ro, .inl (cR, 6, .inr (.inr (.inr (.inr fr)))))])) (va_Qi (fun (r : Int32) (u : Nat × Nat × Nat × Nat × Nat × ClassId) => r = 2) (fun (u : Nat × Nat × Nat × Nat × Nat × ClassId) (t : State) => va_P (dC, dI) vwCl [(h, .inr (1, [.ref ro, .int 3, .ref ba, .ref ra, .ref su, .int 0, .ref tr])), (ro, .inl (cR, 6, .inr (.inr (.inr (.inr (va_up fr 2 (some u.1))))))), (u.1, .inr (0, [.int 10, .int 6, .int 30, .int 100, .int 0, .int 0, .ref u.2.1, .ref u.2.2.1, .ref u.2.2.2.1, .ref u.2.2.2.2.1])), (u.2.2.1, .inl (u.2.2.2.2.2, 60, .inl (fun _ => 0)))] t.heap ∧ va_K (dC, dI) vwCl [(u.2.2.2.2.2, .int)] t ∧ va_D (va_A [(h, .inr (1, [.ref ro, .int 2, .ref ba, .ref ra, .ref su, .int 0, .ref tr])), (ro, .inl (cR, 6, .inr (.inr (.inr (.inr fr)))))] sz) [(h, .inr (1, [.ref ro, .int 3, .ref ba, .ref ra, .ref su, .int 0, .ref tr])), (ro, .inl (cR, 6, .inr (.inr (.inr (.inr (va_up fr 2 (some u.1))))))), (u.1, .inr (0, [.int 10, .int 6, .int 30, .int 100, .int 0, .int 0, .ref u.2.1, .ref u.2.2.1, .ref u.2.2.2.1, .ref u.2.2.2.2.1])), (u.2.2.1, .inl (u.2.2.2.2.2, 60, .inl (fun _ => 0)))]) (va_A [(h, .inr (1, [.ref ro, .int 2, .ref ba, .ref ra, .ref su, .int 0, .ref tr])), (ro, .inl (cR, 6, .inr (.inr (.inr (.inr fr)))))] sz)) 5 250 (va_A [(h, .inr (1, [.ref ro, .int 2, .ref ba, .ref ra, .ref su, .int 0, .ref tr])), (ro, .inl (cR, 6, .inr (.inr (.inr (.inr fr)))))] sz) := by
  refine Met.ofW (cc := cX1_build) (maxL := 5) (ret := (some .int)) (by decide) rfl ?_
  intro p e s m args below meth c s₁ B hml hv
  obtain ⟨rfl, hsz, hP, hK, hD0⟩ := hv
  have hx := B.exec
  have hb := B.bytes
  have hr := B.returns
  have hts := atoms_spec (ws := wsX1_build) B.pre
  have hown : s.vm.findClass RX1 = some m.cls := findClass_of_methodNamed B.named
  have hlocks := B.notSynchronized
  subst hsz
  have hD := hD0.self (sz := s.heap.size)
  generalize hAe : va_A [(h, .inr (1, [.ref ro, .int 2, .ref ba, .ref ra, .ref su, .int 0, .ref tr])), (ro, .inl (cR, 6, .inr (.inr (.inr (.inr fr)))))] s.heap.size = A at hD ⊢
  have hA : ∀ q : Nat, s.heap.size ≤ q → A q := fun q h => by rw [← hAe]; exact Or.inr h
  have hS : va_S A s.heap s.heap [] := va_S.rf
  have hP : va_P (dC, dI) vwCl [(h, .inr (1, [.ref ro, .int 2, .ref ba, .ref ra, .ref su, .int 0, .ref tr])), (ro, .inl (cR, 6, .inr (.inr (.inr (.inr fr)))))] s.heap := hP
  have hl := lv_entry ([.ref h, .int 10, .int 6, .int 30]) (n := 5) (Nat.le_of_ble_eq_true rfl)
  rw [lg_entry_eq]
  generalize (lg_sl ([.ref h, .int 10, .int 6, .int 30]) ++ List.replicate (5 - (lg_sl ([.ref h, .int 10, .int 6, .int 30])).length) Slot.unset).toArray = ls at hl ⊢
  have hl : lv_has ls 5 [(0, .ref h), (1, .int 10), (2, .int 6), (3, .int 30)] := hl
  refine lv_iload_n hx hb dX1_build_0 rfl (lv_at hl 1 rfl) ?_
  refine lv_iconst (v := 2) hx hb dX1_build_1 (by decide) ?_
  refine lv_bipush (v := 10) hx hb dX1_build_2 (by decide) ?_
  refine vp_callSi (va_runS (As := [.int 10, .int 2, .int 10]) (rest := []) ⟨hx, hb, hml, hown, hts⟩ (r1_isWithin10 l dC dI  ) (va_cwS 3 hts gX1_build_X1_isWithin rfl rfl rfl (by decide +kernel) ⟨Nat.le_of_ble_eq_true rfl, Nat.le_of_ble_eq_true rfl⟩) ⟨fun a U g mk q => q, fun U hU hW => ⟨rfl, trivial⟩⟩ rfl rfl hl.1 rfl (lv_room (Nat.le_of_ble_eq_true rfl)) dX1_build_4 ⟨Nat.le_of_ble_eq_true rfl, Nat.le_of_ble_eq_true rfl⟩).run (fun r1 hr1 => ?_)
  obtain rfl := hr1
  refine lv_if_eq (tgt := 31) hx hb dX1_build_7 (by decide) (fun c2 => absurd c2 (by decide)) (fun c2 => ?_)
  refine lv_iload_n hx hb dX1_build_10 rfl (lv_at hl 2 rfl) ?_
  refine lv_iconst (v := 2) hx hb dX1_build_11 (by decide) ?_
  refine lv_bipush (v := 6) hx hb dX1_build_12 (by decide) ?_
  refine vp_callSi (va_runS (As := [.int 6, .int 2, .int 6]) (rest := []) ⟨hx, hb, hml, hown, hts⟩ (r1_isWithin6 l dC dI  ) (va_cwS 3 hts gX1_build_X1_isWithin rfl rfl rfl (by decide +kernel) ⟨Nat.le_of_ble_eq_true rfl, Nat.le_of_ble_eq_true rfl⟩) ⟨fun a U g mk q => q, fun U hU hW => ⟨rfl, trivial⟩⟩ rfl rfl hl.1 rfl (lv_room (Nat.le_of_ble_eq_true rfl)) dX1_build_14 ⟨Nat.le_of_ble_eq_true rfl, Nat.le_of_ble_eq_true rfl⟩).run (fun r3 hr3 => ?_)
  obtain rfl := hr3
  refine lv_if_eq (tgt := 31) hx hb dX1_build_17 (by decide) (fun c4 => absurd c4 (by decide)) (fun c4 => ?_)
  refine lv_iload_n hx hb dX1_build_20 rfl (lv_at hl 3 rfl) ?_
  refine lv_bipush (v := 30) hx hb dX1_build_21 (by decide) ?_
  refine lv_bipush (v := 60) hx hb dX1_build_23 (by decide) ?_
  refine vp_callSi (va_runS (As := [.int 30, .int 30, .int 60]) (rest := []) ⟨hx, hb, hml, hown, hts⟩ (r1_isWithin30 l dC dI  ) (va_cwS 3 hts gX1_build_X1_isWithin rfl rfl rfl (by decide +kernel) ⟨Nat.le_of_ble_eq_true rfl, Nat.le_of_ble_eq_true rfl⟩) ⟨fun a U g mk q => q, fun U hU hW => ⟨rfl, trivial⟩⟩ rfl rfl hl.1 rfl (lv_room (Nat.le_of_ble_eq_true rfl)) dX1_build_25 ⟨Nat.le_of_ble_eq_true rfl, Nat.le_of_ble_eq_true rfl⟩).run (fun r5 hr5 => ?_)
  obtain rfl := hr5
  refine lv_if_ne (tgt := 41) hx hb dX1_build_28 (by decide) (fun c6 => ?_) (fun c6 => absurd c6 (by decide))
  refine lv_aload_n hx hb dX1_build_41 rfl (lv_at hl 0 rfl) ?_
  refine va_get (D := (dC, dI)) (ci := 1) (v := .int 2) (C := RX1) (T := TX1) (N := 7) hx hb hts (by decide +kernel) hown hK hP 0 rfl rfl 1 (by decide) (hts (.fieldLink RX1 43 "ThatchRoof" "built" "I") (by decide +kernel)) (fun _ h9 => h9) rfl dX1_build_42 ?_
  refine lv_bipush (v := 6) hx hb dX1_build_45 (by decide) ?_
  refine lv_icmp_lt (tgt := 60) hx hb dX1_build_47 (by decide) (fun c7 => ?_) (fun c7 => absurd c7 (by decide))
  refine lv_aload_n hx hb dX1_build_60 rfl (lv_at hl 0 rfl) ?_
  refine va_get (D := (dC, dI)) (ci := 1) (v := .int 2) (C := RX1) (T := TX1) (N := 7) hx hb hts (by decide +kernel) hown hK hP 0 rfl rfl 1 (by decide) (hts (.fieldLink RX1 43 "ThatchRoof" "built" "I") (by decide +kernel)) (fun _ h9 => h9) rfl dX1_build_61 ?_
  refine lv_istore (lv' := [(4, .int 2), (0, .ref h), (1, .int 10), (2, .int 6), (3, .int 30)]) hx hb dX1_build_64 hl (by decide) rfl (fun ls hl => ?_)
  refine lv_aload_n hx hb dX1_build_66 rfl (lv_at hl 1 rfl) ?_
  refine va_get (D := (dC, dI)) (ci := 1) (v := .ref ro) (C := RX1) (T := TX1) (N := 7) hx hb hts (by decide +kernel) hown hK hP 0 rfl rfl 0 (by decide) (hts (.fieldLink RX1 11 "ThatchRoof" "roofs" "[LThatchRoof$Roof;") (by decide +kernel)) (fun _ h9 => h9) rfl dX1_build_67 ?_
  refine lv_iload hx hb dX1_build_70 (lv_at hl 0 rfl) ?_
  refine va_new (ci := 0) (fs := [.int 0, .int 0, .int 0, .int 0, .int 0, .int 0, .null, .null, .null, .null]) (C := RX0) (T := TX0) (N := 10) hx hb hts (by decide +kernel) tyX0 tyX0_ok hown (hts (.classLink RX1 9 RX0) (by decide +kernel)) (hts (.instantiable RX0 10) (by decide +kernel)) (hts (.initialized RX0) (by decide +kernel)) hK hP hD hS hA rfl (fun j hj => by rcases (show j = 0 ∨ j = 1 ∨ j = 2 ∨ j = 3 ∨ j = 4 ∨ j = 5 ∨ j = 6 ∨ j = 7 ∨ j = 8 ∨ j = 9 by omega) with rfl | rfl | rfl | rfl | rfl | rfl | rfl | rfl | rfl | rfl <;> rfl) (Nat.le_of_ble_eq_true rfl) (Nat.le_of_ble_eq_true rfl) dX1_build_72 (fun q8 H hP hD hS => ?_)
  refine W.widen (k := 1) (n := 10) (Nat.le_of_ble_eq_true rfl) (Nat.le_of_ble_eq_true rfl) ?_
  have hP : va_P (dC, dI) vwCl [(h, .inr (1, [.ref ro, .int 2, .ref ba, .ref ra, .ref su, .int 0, .ref tr])), (ro, .inl (cR, 6, .inr (.inr (.inr (.inr fr))))), (q8, .inr (0, [.int 0, .int 0, .int 0, .int 0, .int 0, .int 0, .null, .null, .null, .null]))] H := hP
  have hD : va_D A [(h, .inr (1, [.ref ro, .int 2, .ref ba, .ref ra, .ref su, .int 0, .ref tr])), (ro, .inl (cR, 6, .inr (.inr (.inr (.inr fr))))), (q8, .inr (0, [.int 0, .int 0, .int 0, .int 0, .int 0, .int 0, .null, .null, .null, .null]))] := hD
  refine lv_dup hx hb dX1_build_75 rfl ?_
  refine lv_iload_n hx hb dX1_build_76 rfl (lv_at hl 2 rfl) ?_
  refine lv_iload_n hx hb dX1_build_77 rfl (lv_at hl 3 rfl) ?_
  refine lv_iload_n hx hb dX1_build_78 rfl (lv_at hl 4 rfl) ?_
  have hPc := hP.sub (ws' := [(q8, .inr (0, [.int 0, .int 0, .int 0, .int 0, .int 0, .int 0, .null, .null, .null, .null]))]) [2] rfl
  have hKc := hK.sub (tys' := []) [] rfl
  have hDc := hD.sub (ws' := [(q8, .inr (0, [.int 0, .int 0, .int 0, .int 0, .int 0, .int 0, .null, .null, .null, .null]))]) [2] (by decide) rfl
  have hFc := va_free (wc := [(q8, .inr (0, [.int 0, .int 0, .int 0, .int 0, .int 0, .int 0, .null, .null, .null, .null]))]) hD hS hA [2] rfl
  refine va_callv (va_runI (As := [.int 10, .int 6, .int 30]) (rest := [.ref q8, .int 2, .ref ro]) ⟨hx, hb, hml, hown, hts⟩ (k0_init l dC dI H.size q8 10 6 30 ) (cwI 3 hts gX1_build_X0_init rfl rfl rfl (hts (.initialized RX0) (by decide +kernel)) (hts (.methodLink RX1 25 yX0_init) (by decide +kernel)) (hts (.instanceMethod yX0_init) (by decide +kernel)) rfl (by decide +kernel) ⟨Nat.le_of_ble_eq_true rfl, Nat.le_of_ble_eq_true rfl⟩) ⟨fun a U g mk q => by obtain ⟨q0, q1, qP, qK, qD⟩ := q; exact ⟨q0, q1, qP, va_K.moved (u := U) (U := U.calling g mk a) (Vm.Alike.refl U.vm) qK, qD⟩, fun U hU hW => ⟨rfl, by rw [hU], by rw [hU]; exact hPc, va_K.moved hW.alike hKc, hDc.weaken (fun _ _ _ _ => trivial)⟩⟩ rfl rfl hl.1 rfl (lv_room (Nat.le_of_ble_eq_true rfl)) dX1_build_79 ⟨Nat.le_of_ble_eq_true rfl, Nat.le_of_ble_eq_true rfl⟩) hS (fun q _ h => hFc q h) hFc (fun u t H1 locs ht hvm hr9 hB hz1 hk1 hS => ?_)
  obtain ⟨k__10, t__11, p__12, m__13, c1__14, c2__15, c3__16, c4__17⟩ := u
  obtain ⟨hP1, hK1, hD1⟩ := hB
  rw [ht] at hP1
  have hK1 := va_K.moved hvm.symm hK1
  try dsimp only at hr9
  obtain ⟨hP, hD⟩ := va_join (wr := [(h, .inr (1, [.ref ro, .int 2, .ref ba, .ref ra, .ref su, .int 0, .ref tr])), (ro, .inl (cR, 6, .inr (.inr (.inr (.inr fr)))))]) (w1 := [(q8, .inr (0, [.int 10, .int 6, .int 30, .int 100, .int 0, .int 0, .ref k__10, .ref t__11, .ref p__12, .ref m__13])), (k__10, .inl (c1__14, 60, .inl (fun _ => 0))), (t__11, .inl (c2__15, 60, .inl (fun _ => 0))), (p__12, .inl (c3__16, 60, .inl (fun _ => 0))), (m__13, .inl (c4__17, 60, .inl (fun _ => 0)))]) hP hD [2] [0, 1] rfl rfl (by decide) (by decide) hk1 hFc hP1 hD1
  have hK := hK.app hK1
  have hK : va_K (dC, dI) vwCl [(cR, .object RX0), (c1__14, .int), (c2__15, .int), (c3__16, .int), (c4__17, .int)] s := hK
  generalize H1 = H at hP hS ⊢
  have hP : va_P (dC, dI) vwCl [(h, .inr (1, [.ref ro, .int 2, .ref ba, .ref ra, .ref su, .int 0, .ref tr])), (ro, .inl (cR, 6, .inr (.inr (.inr (.inr fr))))), (q8, .inr (0, [.int 10, .int 6, .int 30, .int 100, .int 0, .int 0, .ref k__10, .ref t__11, .ref p__12, .ref m__13])), (k__10, .inl (c1__14, 60, .inl (fun _ => 0))), (t__11, .inl (c2__15, 60, .inl (fun _ => 0))), (p__12, .inl (c3__16, 60, .inl (fun _ => 0))), (m__13, .inl (c4__17, 60, .inl (fun _ => 0)))] H := hP
  have hD : va_D A [(h, .inr (1, [.ref ro, .int 2, .ref ba, .ref ra, .ref su, .int 0, .ref tr])), (ro, .inl (cR, 6, .inr (.inr (.inr (.inr fr))))), (q8, .inr (0, [.int 10, .int 6, .int 30, .int 100, .int 0, .int 0, .ref k__10, .ref t__11, .ref p__12, .ref m__13])), (k__10, .inl (c1__14, 60, .inl (fun _ => 0))), (t__11, .inl (c2__15, 60, .inl (fun _ => 0))), (p__12, .inl (c3__16, 60, .inl (fun _ => 0))), (m__13, .inl (c4__17, 60, .inl (fun _ => 0)))] := hD
  refine W.widen (k := 5) (n := 250) (Nat.le_of_ble_eq_true rfl) (Nat.le_of_ble_eq_true rfl) ?_
  obtain - := hr9
  refine va_astq hx hb hK hP hD hS 1 0 2 0 rfl rfl rfl rfl (vp_in_nI (n := 2) (by decide) (by decide)) dX1_build_82 (fun H locs hP hD hS => ?_)
  have hP : va_P (dC, dI) vwCl [(h, .inr (1, [.ref ro, .int 2, .ref ba, .ref ra, .ref su, .int 0, .ref tr])), (ro, .inl (cR, 6, .inr (.inr (.inr (.inr (va_up fr 2 (some q8))))))), (q8, .inr (0, [.int 10, .int 6, .int 30, .int 100, .int 0, .int 0, .ref k__10, .ref t__11, .ref p__12, .ref m__13])), (k__10, .inl (c1__14, 60, .inl (fun _ => 0))), (t__11, .inl (c2__15, 60, .inl (fun _ => 0))), (p__12, .inl (c3__16, 60, .inl (fun _ => 0))), (m__13, .inl (c4__17, 60, .inl (fun _ => 0)))] H := hP
  have hD : va_D A [(h, .inr (1, [.ref ro, .int 2, .ref ba, .ref ra, .ref su, .int 0, .ref tr])), (ro, .inl (cR, 6, .inr (.inr (.inr (.inr (va_up fr 2 (some q8))))))), (q8, .inr (0, [.int 10, .int 6, .int 30, .int 100, .int 0, .int 0, .ref k__10, .ref t__11, .ref p__12, .ref m__13])), (k__10, .inl (c1__14, 60, .inl (fun _ => 0))), (t__11, .inl (c2__15, 60, .inl (fun _ => 0))), (p__12, .inl (c3__16, 60, .inl (fun _ => 0))), (m__13, .inl (c4__17, 60, .inl (fun _ => 0)))] := hD
  refine lv_aload_n hx hb dX1_build_83 rfl (lv_at hl 1 rfl) ?_
  refine lv_dup hx hb dX1_build_84 rfl ?_
  refine va_get (D := (dC, dI)) (ci := 1) (v := .int 2) (C := RX1) (T := TX1) (N := 7) hx hb hts (by decide +kernel) hown hK hP 0 rfl rfl 1 (by decide) (hts (.fieldLink RX1 43 "ThatchRoof" "built" "I") (by decide +kernel)) (fun _ h9 => h9) rfl dX1_build_85 ?_
  refine lv_iconst (v := 1) hx hb dX1_build_88 (by decide) ?_
  refine lv_iadd hx hb dX1_build_89 ?_
  refine W.eq (g2 := F0 m 90 ls [.int 3, .ref h]) rfl ?_
  refine va_put (D := (dC, dI)) (ci := 1) (v := .int 3) (ty := .int) (C := RX1) (T := TX1) (N := 7) hx hb hts (by decide +kernel) tyX1 tyX1_ok nmX1 hown hK hP hD hS 0 rfl rfl 1 (by decide) (hts (.fieldLink RX1 43 "ThatchRoof" "built" "I") (by decide +kernel)) (fun _ h9 => h9) rfl (by decide +kernel) rfl rfl (Nat.le_of_ble_eq_true rfl) dX1_build_90 (fun H locs hP hD hS => ?_)
  have hP : va_P (dC, dI) vwCl [(h, .inr (1, [.ref ro, .int 3, .ref ba, .ref ra, .ref su, .int 0, .ref tr])), (ro, .inl (cR, 6, .inr (.inr (.inr (.inr (va_up fr 2 (some q8))))))), (q8, .inr (0, [.int 10, .int 6, .int 30, .int 100, .int 0, .int 0, .ref k__10, .ref t__11, .ref p__12, .ref m__13])), (k__10, .inl (c1__14, 60, .inl (fun _ => 0))), (t__11, .inl (c2__15, 60, .inl (fun _ => 0))), (p__12, .inl (c3__16, 60, .inl (fun _ => 0))), (m__13, .inl (c4__17, 60, .inl (fun _ => 0)))] H := hP
  have hD : va_D A [(h, .inr (1, [.ref ro, .int 3, .ref ba, .ref ra, .ref su, .int 0, .ref tr])), (ro, .inl (cR, 6, .inr (.inr (.inr (.inr (va_up fr 2 (some q8))))))), (q8, .inr (0, [.int 10, .int 6, .int 30, .int 100, .int 0, .int 0, .ref k__10, .ref t__11, .ref p__12, .ref m__13])), (k__10, .inl (c1__14, 60, .inl (fun _ => 0))), (t__11, .inl (c2__15, 60, .inl (fun _ => 0))), (p__12, .inl (c3__16, 60, .inl (fun _ => 0))), (m__13, .inl (c4__17, 60, .inl (fun _ => 0)))] := hD
  refine lv_iload hx hb dX1_build_93 (lv_at hl 0 rfl) ?_
  have hP9 := hP.sub (ws' := [(h, .inr (1, [.ref ro, .int 3, .ref ba, .ref ra, .ref su, .int 0, .ref tr])), (ro, .inl (cR, 6, .inr (.inr (.inr (.inr (va_up fr 2 (some q8))))))), (q8, .inr (0, [.int 10, .int 6, .int 30, .int 100, .int 0, .int 0, .ref k__10, .ref t__11, .ref p__12, .ref m__13])), (t__11, .inl (c2__15, 60, .inl (fun _ => 0)))]) [0, 1, 2, 4] rfl
  have hD9 := hD.sub (ws' := [(h, .inr (1, [.ref ro, .int 3, .ref ba, .ref ra, .ref su, .int 0, .ref tr])), (ro, .inl (cR, 6, .inr (.inr (.inr (.inr (va_up fr 2 (some q8))))))), (q8, .inr (0, [.int 10, .int 6, .int 30, .int 100, .int 0, .int 0, .ref k__10, .ref t__11, .ref p__12, .ref m__13])), (t__11, .inl (c2__15, 60, .inl (fun _ => 0)))]) [0, 1, 2, 4] (by decide) rfl
  have hK9 := hK.sub (tys' := [(c2__15, .int)]) [2] rfl
  refine W.widen (k := 5) (n := 250) (Nat.le_of_ble_eq_true rfl) (Nat.le_of_ble_eq_true rfl) ?_
  exact W.iret (v := 2) hx hb hr (fun t ht hW => ⟨⟨2, (q8, k__10, t__11, p__12, m__13, c2__15), rfl, by (first | rfl | assumption | decide | (simp_all; done) | grind), ⟨by rw [ht]; exact hP9, va_K.moved hW.alike hK9, hD9⟩⟩, hS.F ht⟩) hS.2.2 dX1_build_95

set_option maxHeartbeats 4000000 in
set_option maxRecDepth 100000 in
theorem rL_build2 (l : Launch) (dC : Nat → ClassId) (dI : Nat → Nat → Nat) (sz : Nat) (h : Nat) (ro : Nat) (ba : Nat) (ra : Nat) (su : Nat) (tr : Nat) (cR : ClassId) (fr : Nat → Option Nat) (ou : Nat) (cO : ClassId) (fp : Nat → Int64) : Met l yL_build wsL_build ({ frames := 3, cells := 5, slots := 250, locals := 59 }) (va_Pc [.ref h, .int 10, .int 6, .int 30, .ref ou] (fun U => U.heap.size = sz ∧ va_P (dC, dI) vwCl [(h, .inr (1, [.ref ro, .int 2, .ref ba, .ref ra, .ref su, .int 0, .ref tr])), (ro, .inl (cR, 6, .inr (.inr (.inr (.inr fr))))), (ou, .inl (cO, 1, .inr (.inl fp)))] U.heap ∧ va_K (dC, dI) vwCl [(cR, .object RX0), (cO, .long)] U ∧ va_D (fun _ => True) [(h, .inr (1, [.ref ro, .int 2, .ref ba, .ref ra, .ref su, .int 0, .ref tr])), (ro, .inl (cR, 6, .inr (.inr (.inr (.inr fr))))), (ou, .inl (cO, 1, .inr (.inl fp)))])) (va_Qi (fun (r : Int32) (u : Nat × Nat × Nat × Nat × Nat × ClassId) => r = 0) (fun (u : Nat × Nat × Nat × Nat × Nat × ClassId) (t : State) => va_P (dC, dI) vwCl [(h, .inr (1, [.ref ro, .int 3, .ref ba, .ref ra, .ref su, .int 0, .ref tr])), (ro, .inl (cR, 6, .inr (.inr (.inr (.inr (va_up fr 2 (some u.1))))))), (u.1, .inr (0, [.int 10, .int 6, .int 30, .int 100, .int 0, .int 0, .ref u.2.1, .ref u.2.2.1, .ref u.2.2.2.1, .ref u.2.2.2.2.1])), (u.2.2.1, .inl (u.2.2.2.2.2, 60, .inl (fun _ => 0))), (ou, .inl (cO, 1, .inr (.inl (vp_updL fp 0 2))))] t.heap ∧ va_K (dC, dI) vwCl [(u.2.2.2.2.2, .int)] t ∧ va_D (va_A [(h, .inr (1, [.ref ro, .int 2, .ref ba, .ref ra, .ref su, .int 0, .ref tr])), (ro, .inl (cR, 6, .inr (.inr (.inr (.inr fr))))), (ou, .inl (cO, 1, .inr (.inl fp)))] sz) [(h, .inr (1, [.ref ro, .int 3, .ref ba, .ref ra, .ref su, .int 0, .ref tr])), (ro, .inl (cR, 6, .inr (.inr (.inr (.inr (va_up fr 2 (some u.1))))))), (u.1, .inr (0, [.int 10, .int 6, .int 30, .int 100, .int 0, .int 0, .ref u.2.1, .ref u.2.2.1, .ref u.2.2.2.1, .ref u.2.2.2.2.1])), (u.2.2.1, .inl (u.2.2.2.2.2, 60, .inl (fun _ => 0))), (ou, .inl (cO, 1, .inr (.inl (vp_updL fp 0 2))))]) (va_A [(h, .inr (1, [.ref ro, .int 2, .ref ba, .ref ra, .ref su, .int 0, .ref tr])), (ro, .inl (cR, 6, .inr (.inr (.inr (.inr fr))))), (ou, .inl (cO, 1, .inr (.inl fp)))] sz)) 5 250 (va_A [(h, .inr (1, [.ref ro, .int 2, .ref ba, .ref ra, .ref su, .int 0, .ref tr])), (ro, .inl (cR, 6, .inr (.inr (.inr (.inr fr))))), (ou, .inl (cO, 1, .inr (.inl fp)))] sz) := by
  refine va_MetW (cc := cL_build) (maxL := 6) (ret := (some .int)) (by decide) rfl ?_
  intro p e s m args below meth c s₁ B hml hv
  obtain ⟨rfl, hsz, hP, hK, hD0⟩ := hv
  have hx := B.exec
  have hb := B.bytes
  have hr := B.returns
  have hts := atoms_spec (ws := wsL_build) B.pre
  have hown : s.vm.findClass RL = some m.cls := findClass_of_methodNamed B.named
  have hlocks := B.notSynchronized
  have htab := vx_table (x := yL_build) B (hts (.codeWith yL_build cL_build 6 (some .int) [(0, 12, 15, 13), (0, 12, 19, 15)]) List.mem_cons_self)
  subst hsz
  have hD := hD0.self (sz := s.heap.size)
  generalize hAe : va_A [(h, .inr (1, [.ref ro, .int 2, .ref ba, .ref ra, .ref su, .int 0, .ref tr])), (ro, .inl (cR, 6, .inr (.inr (.inr (.inr fr))))), (ou, .inl (cO, 1, .inr (.inl fp)))] s.heap.size = A at hD ⊢
  have hA : ∀ q : Nat, s.heap.size ≤ q → A q := fun q h => by rw [← hAe]; exact Or.inr h
  have hS : va_S A s.heap s.heap [] := va_S.rf
  have hP : va_P (dC, dI) vwCl [(h, .inr (1, [.ref ro, .int 2, .ref ba, .ref ra, .ref su, .int 0, .ref tr])), (ro, .inl (cR, 6, .inr (.inr (.inr (.inr fr))))), (ou, .inl (cO, 1, .inr (.inl fp)))] s.heap := hP
  have hl := lv_entry ([.ref h, .int 10, .int 6, .int 30, .ref ou]) (n := 6) (Nat.le_of_ble_eq_true rfl)
  rw [lg_entry_eq]
  generalize (lg_sl ([.ref h, .int 10, .int 6, .int 30, .ref ou]) ++ List.replicate (6 - (lg_sl ([.ref h, .int 10, .int 6, .int 30, .ref ou])).length) Slot.unset).toArray = ls at hl ⊢
  have hl : lv_has ls 6 [(0, .ref h), (1, .int 10), (2, .int 6), (3, .int 30), (4, .ref ou)] := hl
  refine lv_aload hx hb dL_build_0 (lv_at hl 4 rfl) ?_
  refine lv_iconst (v := 0) hx hb dL_build_2 (by decide) ?_
  refine lv_aload_n hx hb dL_build_3 rfl (lv_at hl 0 rfl) ?_
  refine lv_iload_n hx hb dL_build_4 rfl (lv_at hl 1 rfl) ?_
  refine lv_iload_n hx hb dL_build_5 rfl (lv_at hl 2 rfl) ?_
  refine lv_iload_n hx hb dL_build_6 rfl (lv_at hl 3 rfl) ?_
  have hPc := hP.sub (ws' := [(h, .inr (1, [.ref ro, .int 2, .ref ba, .ref ra, .ref su, .int 0, .ref tr])), (ro, .inl (cR, 6, .inr (.inr (.inr (.inr fr)))))]) [0, 1] rfl
  have hKc := hK.sub (tys' := [(cR, .object RX0)]) [0] rfl
  have hDc := hD.sub (ws' := [(h, .inr (1, [.ref ro, .int 2, .ref ba, .ref ra, .ref su, .int 0, .ref tr])), (ro, .inl (cR, 6, .inr (.inr (.inr (.inr fr)))))]) [0, 1] (by decide) rfl
  have hFc := va_free (wc := [(h, .inr (1, [.ref ro, .int 2, .ref ba, .ref ra, .ref su, .int 0, .ref tr])), (ro, .inl (cR, 6, .inr (.inr (.inr (.inr fr)))))]) hD hS hA [0, 1] rfl
  refine va_calli (va_runV (As := [.int 10, .int 6, .int 30]) (rest := [.int 0, .ref ou]) ⟨hx, hb, hml, hown, hts⟩ (r1_build2 l dC dI s.heap.size h ro ba ra su tr cR fr ) (cwV 3 hts gL_build_X1_build rfl rfl rfl (by decide +kernel) ⟨Nat.le_of_ble_eq_true rfl, Nat.le_of_ble_eq_true rfl⟩) ⟨fun a U g mk q => by obtain ⟨q0, q1, qP, qK, qD⟩ := q; exact ⟨q0, q1, qP, va_K.moved (u := U) (U := U.calling g mk a) (Vm.Alike.refl U.vm) qK, qD⟩, va_recv hKc hPc (ci := 1) (q0 := 0) rfl rfl, fun U hU hW => ⟨rfl, by rw [hU], by rw [hU]; exact hPc, va_K.moved hW.alike hKc, hDc.weaken (fun _ _ _ _ => trivial)⟩⟩ rfl rfl hl.1 rfl (lv_room (Nat.le_of_ble_eq_true rfl)) dL_build_7 ⟨Nat.le_of_ble_eq_true rfl, Nat.le_of_ble_eq_true rfl⟩) hS (fun q _ h => hFc q h) hFc (fun r1 u t H1 locs ht hvm hr1 hB hz1 hk1 hS => ?_)
  obtain ⟨qh_2, qk_3, qt_4, qp_5, qm_6, qc_7⟩ := u
  obtain ⟨hP1, hK1, hD1⟩ := hB
  rw [ht] at hP1
  have hK1 := va_K.moved hvm.symm hK1
  try dsimp only at hr1
  obtain ⟨hP, hD⟩ := va_join (wr := [(ou, .inl (cO, 1, .inr (.inl fp)))]) (w1 := [(h, .inr (1, [.ref ro, .int 3, .ref ba, .ref ra, .ref su, .int 0, .ref tr])), (ro, .inl (cR, 6, .inr (.inr (.inr (.inr (va_up fr 2 (some qh_2))))))), (qh_2, .inr (0, [.int 10, .int 6, .int 30, .int 100, .int 0, .int 0, .ref qk_3, .ref qt_4, .ref qp_5, .ref qm_6])), (qt_4, .inl (qc_7, 60, .inl (fun _ => 0)))]) hP hD [0, 1] [2] rfl rfl (by decide) (by decide) hk1 hFc hP1 hD1
  have hK := hK.app hK1
  have hK : va_K (dC, dI) vwCl [(cR, .object RX0), (cO, .long), (qc_7, .int)] s := hK
  generalize H1 = H at hP hS ⊢
  have hP : va_P (dC, dI) vwCl [(ou, .inl (cO, 1, .inr (.inl fp))), (h, .inr (1, [.ref ro, .int 3, .ref ba, .ref ra, .ref su, .int 0, .ref tr])), (ro, .inl (cR, 6, .inr (.inr (.inr (.inr (va_up fr 2 (some qh_2))))))), (qh_2, .inr (0, [.int 10, .int 6, .int 30, .int 100, .int 0, .int 0, .ref qk_3, .ref qt_4, .ref qp_5, .ref qm_6])), (qt_4, .inl (qc_7, 60, .inl (fun _ => 0)))] H := hP
  have hD : va_D A [(ou, .inl (cO, 1, .inr (.inl fp))), (h, .inr (1, [.ref ro, .int 3, .ref ba, .ref ra, .ref su, .int 0, .ref tr])), (ro, .inl (cR, 6, .inr (.inr (.inr (.inr (va_up fr 2 (some qh_2))))))), (qh_2, .inr (0, [.int 10, .int 6, .int 30, .int 100, .int 0, .int 0, .ref qk_3, .ref qt_4, .ref qp_5, .ref qm_6])), (qt_4, .inl (qc_7, 60, .inl (fun _ => 0)))] := hD
  refine W.widen (k := 5) (n := 250) (Nat.le_of_ble_eq_true rfl) (Nat.le_of_ble_eq_true rfl) ?_
  obtain rfl := hr1
  refine lv_i2l (v := 2) hx hb dL_build_10 (by first | rfl | decide) ?_
  refine va_last hx hb hK hP hD hS 0 1 rfl rfl (vp_in_nI (n := 0) (by decide) (by decide)) dL_build_11 (fun H locs hP hD hS => ?_)
  have hP : va_P (dC, dI) vwCl [(ou, .inl (cO, 1, .inr (.inl (vp_updL fp 0 2)))), (h, .inr (1, [.ref ro, .int 3, .ref ba, .ref ra, .ref su, .int 0, .ref tr])), (ro, .inl (cR, 6, .inr (.inr (.inr (.inr (va_up fr 2 (some qh_2))))))), (qh_2, .inr (0, [.int 10, .int 6, .int 30, .int 100, .int 0, .int 0, .ref qk_3, .ref qt_4, .ref qp_5, .ref qm_6])), (qt_4, .inl (qc_7, 60, .inl (fun _ => 0)))] H := hP
  have hD : va_D A [(ou, .inl (cO, 1, .inr (.inl (vp_updL fp 0 2)))), (h, .inr (1, [.ref ro, .int 3, .ref ba, .ref ra, .ref su, .int 0, .ref tr])), (ro, .inl (cR, 6, .inr (.inr (.inr (.inr (va_up fr 2 (some qh_2))))))), (qh_2, .inr (0, [.int 10, .int 6, .int 30, .int 100, .int 0, .int 0, .ref qk_3, .ref qt_4, .ref qp_5, .ref qm_6])), (qt_4, .inl (qc_7, 60, .inl (fun _ => 0)))] := hD
  refine lv_goto (tgt := 23) hx hb dL_build_12 (by decide) ?_
  refine lv_iconst (v := 0) hx hb dL_build_23 (by decide) ?_
  have hP9 := hP.sub (ws' := [(h, .inr (1, [.ref ro, .int 3, .ref ba, .ref ra, .ref su, .int 0, .ref tr])), (ro, .inl (cR, 6, .inr (.inr (.inr (.inr (va_up fr 2 (some qh_2))))))), (qh_2, .inr (0, [.int 10, .int 6, .int 30, .int 100, .int 0, .int 0, .ref qk_3, .ref qt_4, .ref qp_5, .ref qm_6])), (qt_4, .inl (qc_7, 60, .inl (fun _ => 0))), (ou, .inl (cO, 1, .inr (.inl (vp_updL fp 0 2))))]) [1, 2, 3, 4, 0] rfl
  have hD9 := hD.sub (ws' := [(h, .inr (1, [.ref ro, .int 3, .ref ba, .ref ra, .ref su, .int 0, .ref tr])), (ro, .inl (cR, 6, .inr (.inr (.inr (.inr (va_up fr 2 (some qh_2))))))), (qh_2, .inr (0, [.int 10, .int 6, .int 30, .int 100, .int 0, .int 0, .ref qk_3, .ref qt_4, .ref qp_5, .ref qm_6])), (qt_4, .inl (qc_7, 60, .inl (fun _ => 0))), (ou, .inl (cO, 1, .inr (.inl (vp_updL fp 0 2))))]) [1, 2, 3, 4, 0] (by decide) rfl
  have hK9 := hK.sub (tys' := [(qc_7, .int)]) [2] rfl
  refine W.widen (k := 5) (n := 250) (Nat.le_of_ble_eq_true rfl) (Nat.le_of_ble_eq_true rfl) ?_
  exact W.iret (v := 0) hx hb hr (fun t ht hW => ⟨⟨0, (qh_2, qk_3, qt_4, qp_5, qm_6, qc_7), rfl, by (first | rfl | assumption | decide | (simp_all; done) | grind), ⟨by rw [ht]; exact hP9, va_K.moved hW.alike hK9, hD9⟩⟩, hS.F ht⟩) hS.2.2 dL_build_24

set_option maxHeartbeats 4000000 in
set_option maxRecDepth 100000 in
theorem r3_build2 (l : Launch) (dC : Nat → ClassId) (dI : Nat → Nat → Nat) (sz : Nat) (hm : Nat) (wi : Nat) (co : Nat) (sl : Nat) (rn : Nat) (so : Nat) (bn : Nat) (sm : Nat) (ah : Nat) (th : Int32) (gr : Nat) (gt : Nat) (gw : Nat) (gk : Nat) (gi : Nat) (gp : Nat) (go : Nat) (gg : Nat) (d1 : ClassId) (d2 : ClassId) (d3 : ClassId) (d4 : ClassId) (fw : Nat → Int32) (fc : Nat → Int32) (fs : Nat → Int32) (fg : Nat → Int32) : Met l yX3_build wsX3_build ({ frames := 1, cells := 0, slots := 0, locals := 22 }) (va_Pc [.ref hm, .int 10, .int 6, .int 30] (fun U => U.heap.size = sz ∧ va_P (dC, dI) vwCl [(hm, .inr (3, [.int th, .int 2, .ref wi, .ref co, .ref sl, .ref rn, .ref so, .ref bn, .ref sm, .ref ah])), (sm, .inr (2, [.int 0, .ref gr, .ref gt, .ref gw, .ref gk, .ref gi, .ref gp, .ref go, .ref gg, .ref hm])), (wi, .inl (d1, 6, .inl fw)), (co, .inl (d2, 6, .inl fc)), (sl, .inl (d3, 6, .inl fs)), (gr, .inl (d4, 6, .inl fg))] U.heap ∧ va_K (dC, dI) vwCl [(d1, .int), (d2, .int), (d3, .int), (d4, .int)] U ∧ va_D (fun _ => True) [(hm, .inr (3, [.int th, .int 2, .ref wi, .ref co, .ref sl, .ref rn, .ref so, .ref bn, .ref sm, .ref ah])), (sm, .inr (2, [.int 0, .ref gr, .ref gt, .ref gw, .ref gk, .ref gi, .ref gp, .ref go, .ref gg, .ref hm])), (wi, .inl (d1, 6, .inl fw)), (co, .inl (d2, 6, .inl fc)), (sl, .inl (d3, 6, .inl fs)), (gr, .inl (d4, 6, .inl fg))] ∧ zNs U)) (va_Qi (fun (r : Int32) (u : Unit) => r = 2) (fun (u : Unit) (t : State) => va_P (dC, dI) vwCl [(hm, .inr (3, [.int 0, .int 3, .ref wi, .ref co, .ref sl, .ref rn, .ref so, .ref bn, .ref sm, .ref ah])), (sm, .inr (2, [.int 0, .ref gr, .ref gt, .ref gw, .ref gk, .ref gi, .ref gp, .ref go, .ref gg, .ref hm])), (wi, .inl (d1, 6, .inl (upd fw 2 10))), (co, .inl (d2, 6, .inl (upd fc 2 6))), (sl, .inl (d3, 6, .inl (upd fs 2 30))), (gr, .inl (d4, 6, .inl (upd fg 2 100)))] t.heap ∧ va_K (dC, dI) vwCl [] t ∧ va_D (va_A [(hm, .inr (3, [.int th, .int 2, .ref wi, .ref co, .ref sl, .ref rn, .ref so, .ref bn, .ref sm, .ref ah])), (sm, .inr (2, [.int 0, .ref gr, .ref gt, .ref gw, .ref gk, .ref gi, .ref gp, .ref go, .ref gg, .ref hm])), (wi, .inl (d1, 6, .inl fw)), (co, .inl (d2, 6, .inl fc)), (sl, .inl (d3, 6, .inl fs)), (gr, .inl (d4, 6, .inl fg))] sz) [(hm, .inr (3, [.int 0, .int 3, .ref wi, .ref co, .ref sl, .ref rn, .ref so, .ref bn, .ref sm, .ref ah])), (sm, .inr (2, [.int 0, .ref gr, .ref gt, .ref gw, .ref gk, .ref gi, .ref gp, .ref go, .ref gg, .ref hm])), (wi, .inl (d1, 6, .inl (upd fw 2 10))), (co, .inl (d2, 6, .inl (upd fc 2 6))), (sl, .inl (d3, 6, .inl (upd fs 2 30))), (gr, .inl (d4, 6, .inl (upd fg 2 100)))]) (va_A [(hm, .inr (3, [.int th, .int 2, .ref wi, .ref co, .ref sl, .ref rn, .ref so, .ref bn, .ref sm, .ref ah])), (sm, .inr (2, [.int 0, .ref gr, .ref gt, .ref gw, .ref gk, .ref gi, .ref gp, .ref go, .ref gg, .ref hm])), (wi, .inl (d1, 6, .inl fw)), (co, .inl (d2, 6, .inl fc)), (sl, .inl (d3, 6, .inl fs)), (gr, .inl (d4, 6, .inl fg))] sz)) 0 0 (va_A [(hm, .inr (3, [.int th, .int 2, .ref wi, .ref co, .ref sl, .ref rn, .ref so, .ref bn, .ref sm, .ref ah])), (sm, .inr (2, [.int 0, .ref gr, .ref gt, .ref gw, .ref gk, .ref gi, .ref gp, .ref go, .ref gg, .ref hm])), (wi, .inl (d1, 6, .inl fw)), (co, .inl (d2, 6, .inl fc)), (sl, .inl (d3, 6, .inl fs)), (gr, .inl (d4, 6, .inl fg))] sz) := by
  refine Met.ofW (cc := cX3_build) (maxL := 4) (ret := (some .int)) (by decide) rfl ?_
  intro p e s m args below meth c s₁ B hml hv
  obtain ⟨rfl, hsz, hP, hK, hD0, hZN⟩ := hv
  have hx := B.exec
  have hb := B.bytes
  have hr := B.returns
  have hts := atoms_spec (ws := wsX3_build) B.pre
  have hown : s.vm.findClass RX3 = some m.cls := findClass_of_methodNamed B.named
  have hlocks := B.notSynchronized
  subst hsz
  have hD := hD0.self (sz := s.heap.size)
  generalize hAe : va_A [(hm, .inr (3, [.int th, .int 2, .ref wi, .ref co, .ref sl, .ref rn, .ref so, .ref bn, .ref sm, .ref ah])), (sm, .inr (2, [.int 0, .ref gr, .ref gt, .ref gw, .ref gk, .ref gi, .ref gp, .ref go, .ref gg, .ref hm])), (wi, .inl (d1, 6, .inl fw)), (co, .inl (d2, 6, .inl fc)), (sl, .inl (d3, 6, .inl fs)), (gr, .inl (d4, 6, .inl fg))] s.heap.size = A at hD ⊢
  have hA : ∀ q : Nat, s.heap.size ≤ q → A q := fun q h => by rw [← hAe]; exact Or.inr h
  have hS : va_S A s.heap s.heap [] := va_S.rf
  have hP : va_P (dC, dI) vwCl [(hm, .inr (3, [.int th, .int 2, .ref wi, .ref co, .ref sl, .ref rn, .ref so, .ref bn, .ref sm, .ref ah])), (sm, .inr (2, [.int 0, .ref gr, .ref gt, .ref gw, .ref gk, .ref gi, .ref gp, .ref go, .ref gg, .ref hm])), (wi, .inl (d1, 6, .inl fw)), (co, .inl (d2, 6, .inl fc)), (sl, .inl (d3, 6, .inl fs)), (gr, .inl (d4, 6, .inl fg))] s.heap := hP
  have hl := lv_entry ([.ref hm, .int 10, .int 6, .int 30]) (n := 4) (Nat.le_of_ble_eq_true rfl)
  rw [lg_entry_eq]
  generalize (lg_sl ([.ref hm, .int 10, .int 6, .int 30]) ++ List.replicate (4 - (lg_sl ([.ref hm, .int 10, .int 6, .int 30])).length) Slot.unset).toArray = ls at hl ⊢
  have hl : lv_has ls 4 [(0, .ref hm), (1, .int 10), (2, .int 6), (3, .int 30)] := hl
  refine lv_aload_n hx hb dX3_build_0 rfl (lv_at hl 0 rfl) ?_
  refine lv_iconst (v := 0) hx hb dX3_build_1 (by decide) ?_
  refine va_put (D := (dC, dI)) (ci := 3) (v := .int 0) (ty := .int) (C := RX3) (T := TX3) (N := 10) hx hb hts (by decide +kernel) tyX3 tyX3_ok nmX3 hown hK hP hD hS 0 rfl rfl 0 (by decide) (hts (.fieldLink RX3 40 "ThatchRoofModel" "thrown" "I") (by decide +kernel)) (fun _ h9 => h9) rfl (by decide +kernel) rfl rfl (Nat.le_of_ble_eq_true rfl) dX3_build_2 (fun H locs hP hD hS => ?_)
  have hP : va_P (dC, dI) vwCl [(hm, .inr (3, [.int 0, .int 2, .ref wi, .ref co, .ref sl, .ref rn, .ref so, .ref bn, .ref sm, .ref ah])), (sm, .inr (2, [.int 0, .ref gr, .ref gt, .ref gw, .ref gk, .ref gi, .ref gp, .ref go, .ref gg, .ref hm])), (wi, .inl (d1, 6, .inl fw)), (co, .inl (d2, 6, .inl fc)), (sl, .inl (d3, 6, .inl fs)), (gr, .inl (d4, 6, .inl fg))] H := hP
  have hD : va_D A [(hm, .inr (3, [.int 0, .int 2, .ref wi, .ref co, .ref sl, .ref rn, .ref so, .ref bn, .ref sm, .ref ah])), (sm, .inr (2, [.int 0, .ref gr, .ref gt, .ref gw, .ref gk, .ref gi, .ref gp, .ref go, .ref gg, .ref hm])), (wi, .inl (d1, 6, .inl fw)), (co, .inl (d2, 6, .inl fc)), (sl, .inl (d3, 6, .inl fs)), (gr, .inl (d4, 6, .inl fg))] := hD
  refine lv_iload_n hx hb dX3_build_5 rfl (lv_at hl 1 rfl) ?_
  refine lv_iconst (v := 2) hx hb dX3_build_6 (by decide) ?_
  refine lv_bipush (v := 10) hx hb dX3_build_7 (by decide) ?_
  refine vp_callSi (va_runS (As := [.int 10, .int 2, .int 10]) (rest := []) ⟨hx, hb, hml, hown, hts⟩ (r3_isIn10 l dC dI  ) (va_cwS 3 hts gX3_build_X3_isIn rfl rfl rfl (by decide +kernel) ⟨Nat.le_of_ble_eq_true rfl, Nat.le_of_ble_eq_true rfl⟩) ⟨fun a U g mk q => q, fun U hU hW => ⟨rfl, trivial⟩⟩ rfl rfl hl.1 rfl (lv_room (Nat.le_of_ble_eq_true rfl)) dX3_build_9 ⟨Nat.le_of_ble_eq_true rfl, Nat.le_of_ble_eq_true rfl⟩).run (fun r1 hr1 => ?_)
  obtain rfl := hr1
  refine lv_if_eq (tgt := 36) hx hb dX3_build_12 (by decide) (fun c2 => absurd c2 (by decide)) (fun c2 => ?_)
  refine lv_iload_n hx hb dX3_build_15 rfl (lv_at hl 2 rfl) ?_
  refine lv_iconst (v := 2) hx hb dX3_build_16 (by decide) ?_
  refine lv_bipush (v := 6) hx hb dX3_build_17 (by decide) ?_
  refine vp_callSi (va_runS (As := [.int 6, .int 2, .int 6]) (rest := []) ⟨hx, hb, hml, hown, hts⟩ (r3_isIn6 l dC dI  ) (va_cwS 3 hts gX3_build_X3_isIn rfl rfl rfl (by decide +kernel) ⟨Nat.le_of_ble_eq_true rfl, Nat.le_of_ble_eq_true rfl⟩) ⟨fun a U g mk q => q, fun U hU hW => ⟨rfl, trivial⟩⟩ rfl rfl hl.1 rfl (lv_room (Nat.le_of_ble_eq_true rfl)) dX3_build_19 ⟨Nat.le_of_ble_eq_true rfl, Nat.le_of_ble_eq_true rfl⟩).run (fun r3 hr3 => ?_)
  obtain rfl := hr3
  refine lv_if_eq (tgt := 36) hx hb dX3_build_22 (by decide) (fun c4 => absurd c4 (by decide)) (fun c4 => ?_)
  refine lv_iload_n hx hb dX3_build_25 rfl (lv_at hl 3 rfl) ?_
  refine lv_bipush (v := 30) hx hb dX3_build_26 (by decide) ?_
  refine lv_bipush (v := 60) hx hb dX3_build_28 (by decide) ?_
  refine vp_callSi (va_runS (As := [.int 30, .int 30, .int 60]) (rest := []) ⟨hx, hb, hml, hown, hts⟩ (r3_isIn30 l dC dI  ) (va_cwS 3 hts gX3_build_X3_isIn rfl rfl rfl (by decide +kernel) ⟨Nat.le_of_ble_eq_true rfl, Nat.le_of_ble_eq_true rfl⟩) ⟨fun a U g mk q => q, fun U hU hW => ⟨rfl, trivial⟩⟩ rfl rfl hl.1 rfl (lv_room (Nat.le_of_ble_eq_true rfl)) dX3_build_30 ⟨Nat.le_of_ble_eq_true rfl, Nat.le_of_ble_eq_true rfl⟩).run (fun r5 hr5 => ?_)
  obtain rfl := hr5
  refine lv_if_ne (tgt := 42) hx hb dX3_build_33 (by decide) (fun c6 => ?_) (fun c6 => absurd c6 (by decide))
  refine lv_aload_n hx hb dX3_build_42 rfl (lv_at hl 0 rfl) ?_
  refine va_get (D := (dC, dI)) (ci := 3) (v := .int 2) (C := RX3) (T := TX3) (N := 10) hx hb hts (by decide +kernel) hown hK hP 0 rfl rfl 1 (by decide) (hts (.fieldLink RX3 44 "ThatchRoofModel" "roofs" "I") (by decide +kernel)) (fun _ h9 => h9) rfl dX3_build_43 ?_
  refine lv_bipush (v := 6) hx hb dX3_build_46 (by decide) ?_
  refine lv_icmp_ne (tgt := 57) hx hb dX3_build_48 (by decide) (fun c7 => ?_) (fun c7 => absurd c7 (by decide))
  refine lv_aload_n hx hb dX3_build_57 rfl (lv_at hl 0 rfl) ?_
  refine va_get (D := (dC, dI)) (ci := 3) (v := .ref wi) (C := RX3) (T := TX3) (N := 10) hx hb hts (by decide +kernel) hown hK hP 0 rfl rfl 2 (by decide) (hts (.fieldLink RX3 9 "ThatchRoofModel" "width" "[I") (by decide +kernel)) (fun _ h9 => h9) rfl dX3_build_58 ?_
  refine lv_aload_n hx hb dX3_build_61 rfl (lv_at hl 0 rfl) ?_
  refine va_get (D := (dC, dI)) (ci := 3) (v := .int 2) (C := RX3) (T := TX3) (N := 10) hx hb hts (by decide +kernel) hown hK hP 0 rfl rfl 1 (by decide) (hts (.fieldLink RX3 44 "ThatchRoofModel" "roofs" "I") (by decide +kernel)) (fun _ h9 => h9) rfl dX3_build_62 ?_
  refine lv_iload_n hx hb dX3_build_65 rfl (lv_at hl 1 rfl) ?_
  refine va_iast hx hb hK hP hD hS 2 0 rfl rfl (vp_in_nI (n := 2) (by decide) (by decide)) dX3_build_66 (fun H locs hP hD hS => ?_)
  have hP : va_P (dC, dI) vwCl [(hm, .inr (3, [.int 0, .int 2, .ref wi, .ref co, .ref sl, .ref rn, .ref so, .ref bn, .ref sm, .ref ah])), (sm, .inr (2, [.int 0, .ref gr, .ref gt, .ref gw, .ref gk, .ref gi, .ref gp, .ref go, .ref gg, .ref hm])), (wi, .inl (d1, 6, .inl (upd fw 2 10))), (co, .inl (d2, 6, .inl fc)), (sl, .inl (d3, 6, .inl fs)), (gr, .inl (d4, 6, .inl fg))] H := hP
  have hD : va_D A [(hm, .inr (3, [.int 0, .int 2, .ref wi, .ref co, .ref sl, .ref rn, .ref so, .ref bn, .ref sm, .ref ah])), (sm, .inr (2, [.int 0, .ref gr, .ref gt, .ref gw, .ref gk, .ref gi, .ref gp, .ref go, .ref gg, .ref hm])), (wi, .inl (d1, 6, .inl (upd fw 2 10))), (co, .inl (d2, 6, .inl fc)), (sl, .inl (d3, 6, .inl fs)), (gr, .inl (d4, 6, .inl fg))] := hD
  refine lv_aload_n hx hb dX3_build_67 rfl (lv_at hl 0 rfl) ?_
  refine va_get (D := (dC, dI)) (ci := 3) (v := .ref co) (C := RX3) (T := TX3) (N := 10) hx hb hts (by decide +kernel) hown hK hP 0 rfl rfl 3 (by decide) (hts (.fieldLink RX3 13 "ThatchRoofModel" "courses" "[I") (by decide +kernel)) (fun _ h9 => h9) rfl dX3_build_68 ?_
  refine lv_aload_n hx hb dX3_build_71 rfl (lv_at hl 0 rfl) ?_
  refine va_get (D := (dC, dI)) (ci := 3) (v := .int 2) (C := RX3) (T := TX3) (N := 10) hx hb hts (by decide +kernel) hown hK hP 0 rfl rfl 1 (by decide) (hts (.fieldLink RX3 44 "ThatchRoofModel" "roofs" "I") (by decide +kernel)) (fun _ h9 => h9) rfl dX3_build_72 ?_
  refine lv_iload_n hx hb dX3_build_75 rfl (lv_at hl 2 rfl) ?_
  refine va_iast hx hb hK hP hD hS 3 1 rfl rfl (vp_in_nI (n := 2) (by decide) (by decide)) dX3_build_76 (fun H locs hP hD hS => ?_)
  have hP : va_P (dC, dI) vwCl [(hm, .inr (3, [.int 0, .int 2, .ref wi, .ref co, .ref sl, .ref rn, .ref so, .ref bn, .ref sm, .ref ah])), (sm, .inr (2, [.int 0, .ref gr, .ref gt, .ref gw, .ref gk, .ref gi, .ref gp, .ref go, .ref gg, .ref hm])), (wi, .inl (d1, 6, .inl (upd fw 2 10))), (co, .inl (d2, 6, .inl (upd fc 2 6))), (sl, .inl (d3, 6, .inl fs)), (gr, .inl (d4, 6, .inl fg))] H := hP
  have hD : va_D A [(hm, .inr (3, [.int 0, .int 2, .ref wi, .ref co, .ref sl, .ref rn, .ref so, .ref bn, .ref sm, .ref ah])), (sm, .inr (2, [.int 0, .ref gr, .ref gt, .ref gw, .ref gk, .ref gi, .ref gp, .ref go, .ref gg, .ref hm])), (wi, .inl (d1, 6, .inl (upd fw 2 10))), (co, .inl (d2, 6, .inl (upd fc 2 6))), (sl, .inl (d3, 6, .inl fs)), (gr, .inl (d4, 6, .inl fg))] := hD
  refine lv_aload_n hx hb dX3_build_77 rfl (lv_at hl 0 rfl) ?_
  refine va_get (D := (dC, dI)) (ci := 3) (v := .ref sl) (C := RX3) (T := TX3) (N := 10) hx hb hts (by decide +kernel) hown hK hP 0 rfl rfl 4 (by decide) (hts (.fieldLink RX3 16 "ThatchRoofModel" "slope" "[I") (by decide +kernel)) (fun _ h9 => h9) rfl dX3_build_78 ?_
  refine lv_aload_n hx hb dX3_build_81 rfl (lv_at hl 0 rfl) ?_
  refine va_get (D := (dC, dI)) (ci := 3) (v := .int 2) (C := RX3) (T := TX3) (N := 10) hx hb hts (by decide +kernel) hown hK hP 0 rfl rfl 1 (by decide) (hts (.fieldLink RX3 44 "ThatchRoofModel" "roofs" "I") (by decide +kernel)) (fun _ h9 => h9) rfl dX3_build_82 ?_
  refine lv_iload_n hx hb dX3_build_85 rfl (lv_at hl 3 rfl) ?_
  refine va_iast hx hb hK hP hD hS 4 2 rfl rfl (vp_in_nI (n := 2) (by decide) (by decide)) dX3_build_86 (fun H locs hP hD hS => ?_)
  have hP : va_P (dC, dI) vwCl [(hm, .inr (3, [.int 0, .int 2, .ref wi, .ref co, .ref sl, .ref rn, .ref so, .ref bn, .ref sm, .ref ah])), (sm, .inr (2, [.int 0, .ref gr, .ref gt, .ref gw, .ref gk, .ref gi, .ref gp, .ref go, .ref gg, .ref hm])), (wi, .inl (d1, 6, .inl (upd fw 2 10))), (co, .inl (d2, 6, .inl (upd fc 2 6))), (sl, .inl (d3, 6, .inl (upd fs 2 30))), (gr, .inl (d4, 6, .inl fg))] H := hP
  have hD : va_D A [(hm, .inr (3, [.int 0, .int 2, .ref wi, .ref co, .ref sl, .ref rn, .ref so, .ref bn, .ref sm, .ref ah])), (sm, .inr (2, [.int 0, .ref gr, .ref gt, .ref gw, .ref gk, .ref gi, .ref gp, .ref go, .ref gg, .ref hm])), (wi, .inl (d1, 6, .inl (upd fw 2 10))), (co, .inl (d2, 6, .inl (upd fc 2 6))), (sl, .inl (d3, 6, .inl (upd fs 2 30))), (gr, .inl (d4, 6, .inl fg))] := hD
  refine lv_aload_n hx hb dX3_build_87 rfl (lv_at hl 0 rfl) ?_
  refine va_get (D := (dC, dI)) (ci := 3) (v := .ref sm) (C := RX3) (T := TX3) (N := 10) hx hb hts (by decide +kernel) hown hK hP 0 rfl rfl 8 (by decide) (hts (.fieldLink RX3 33 "ThatchRoofModel" "s" "LThatchRoofModel$State;") (by decide +kernel)) (fun _ h9 => h9) rfl dX3_build_88 ?_
  refine va_getN (D := (dC, dI)) (ci := 2) (v := .ref gr) (C := RX2) (T := TX2) (N := 10) hx hb hts (by decide +kernel) hown hK hP 1 rfl rfl 1 (by decide) (va_Nw.use rfl (zN_RX3_63 hZN)) (fun _ h9 => h9) rfl dX3_build_91 ?_
  refine lv_aload_n hx hb dX3_build_94 rfl (lv_at hl 0 rfl) ?_
  refine va_get (D := (dC, dI)) (ci := 3) (v := .int 2) (C := RX3) (T := TX3) (N := 10) hx hb hts (by decide +kernel) hown hK hP 0 rfl rfl 1 (by decide) (hts (.fieldLink RX3 44 "ThatchRoofModel" "roofs" "I") (by decide +kernel)) (fun _ h9 => h9) rfl dX3_build_95 ?_
  refine lv_bipush (v := 100) hx hb dX3_build_98 (by decide) ?_
  refine va_iast hx hb hK hP hD hS 5 3 rfl rfl (vp_in_nI (n := 2) (by decide) (by decide)) dX3_build_100 (fun H locs hP hD hS => ?_)
  have hP : va_P (dC, dI) vwCl [(hm, .inr (3, [.int 0, .int 2, .ref wi, .ref co, .ref sl, .ref rn, .ref so, .ref bn, .ref sm, .ref ah])), (sm, .inr (2, [.int 0, .ref gr, .ref gt, .ref gw, .ref gk, .ref gi, .ref gp, .ref go, .ref gg, .ref hm])), (wi, .inl (d1, 6, .inl (upd fw 2 10))), (co, .inl (d2, 6, .inl (upd fc 2 6))), (sl, .inl (d3, 6, .inl (upd fs 2 30))), (gr, .inl (d4, 6, .inl (upd fg 2 100)))] H := hP
  have hD : va_D A [(hm, .inr (3, [.int 0, .int 2, .ref wi, .ref co, .ref sl, .ref rn, .ref so, .ref bn, .ref sm, .ref ah])), (sm, .inr (2, [.int 0, .ref gr, .ref gt, .ref gw, .ref gk, .ref gi, .ref gp, .ref go, .ref gg, .ref hm])), (wi, .inl (d1, 6, .inl (upd fw 2 10))), (co, .inl (d2, 6, .inl (upd fc 2 6))), (sl, .inl (d3, 6, .inl (upd fs 2 30))), (gr, .inl (d4, 6, .inl (upd fg 2 100)))] := hD
  refine lv_aload_n hx hb dX3_build_101 rfl (lv_at hl 0 rfl) ?_
  refine lv_dup hx hb dX3_build_102 rfl ?_
  refine va_get (D := (dC, dI)) (ci := 3) (v := .int 2) (C := RX3) (T := TX3) (N := 10) hx hb hts (by decide +kernel) hown hK hP 0 rfl rfl 1 (by decide) (hts (.fieldLink RX3 44 "ThatchRoofModel" "roofs" "I") (by decide +kernel)) (fun _ h9 => h9) rfl dX3_build_103 ?_
  refine lv_iconst (v := 1) hx hb dX3_build_106 (by decide) ?_
  refine lv_iadd hx hb dX3_build_107 ?_
  refine W.eq (g2 := F0 m 108 ls [.int 3, .ref hm]) rfl ?_
  refine va_put (D := (dC, dI)) (ci := 3) (v := .int 3) (ty := .int) (C := RX3) (T := TX3) (N := 10) hx hb hts (by decide +kernel) tyX3 tyX3_ok nmX3 hown hK hP hD hS 0 rfl rfl 1 (by decide) (hts (.fieldLink RX3 44 "ThatchRoofModel" "roofs" "I") (by decide +kernel)) (fun _ h9 => h9) rfl (by decide +kernel) rfl rfl (Nat.le_of_ble_eq_true rfl) dX3_build_108 (fun H locs hP hD hS => ?_)
  have hP : va_P (dC, dI) vwCl [(hm, .inr (3, [.int 0, .int 3, .ref wi, .ref co, .ref sl, .ref rn, .ref so, .ref bn, .ref sm, .ref ah])), (sm, .inr (2, [.int 0, .ref gr, .ref gt, .ref gw, .ref gk, .ref gi, .ref gp, .ref go, .ref gg, .ref hm])), (wi, .inl (d1, 6, .inl (upd fw 2 10))), (co, .inl (d2, 6, .inl (upd fc 2 6))), (sl, .inl (d3, 6, .inl (upd fs 2 30))), (gr, .inl (d4, 6, .inl (upd fg 2 100)))] H := hP
  have hD : va_D A [(hm, .inr (3, [.int 0, .int 3, .ref wi, .ref co, .ref sl, .ref rn, .ref so, .ref bn, .ref sm, .ref ah])), (sm, .inr (2, [.int 0, .ref gr, .ref gt, .ref gw, .ref gk, .ref gi, .ref gp, .ref go, .ref gg, .ref hm])), (wi, .inl (d1, 6, .inl (upd fw 2 10))), (co, .inl (d2, 6, .inl (upd fc 2 6))), (sl, .inl (d3, 6, .inl (upd fs 2 30))), (gr, .inl (d4, 6, .inl (upd fg 2 100)))] := hD
  refine lv_aload_n hx hb dX3_build_111 rfl (lv_at hl 0 rfl) ?_
  refine va_get (D := (dC, dI)) (ci := 3) (v := .int 3) (C := RX3) (T := TX3) (N := 10) hx hb hts (by decide +kernel) hown hK hP 0 rfl rfl 1 (by decide) (hts (.fieldLink RX3 44 "ThatchRoofModel" "roofs" "I") (by decide +kernel)) (fun _ h9 => h9) rfl dX3_build_112 ?_
  refine lv_iconst (v := 1) hx hb dX3_build_115 (by decide) ?_
  refine lv_isub hx hb dX3_build_116 ?_
  refine W.eq (g2 := F0 m 117 ls [.int 2]) rfl ?_
  have hP9 := hP.sub (ws' := [(hm, .inr (3, [.int 0, .int 3, .ref wi, .ref co, .ref sl, .ref rn, .ref so, .ref bn, .ref sm, .ref ah])), (sm, .inr (2, [.int 0, .ref gr, .ref gt, .ref gw, .ref gk, .ref gi, .ref gp, .ref go, .ref gg, .ref hm])), (wi, .inl (d1, 6, .inl (upd fw 2 10))), (co, .inl (d2, 6, .inl (upd fc 2 6))), (sl, .inl (d3, 6, .inl (upd fs 2 30))), (gr, .inl (d4, 6, .inl (upd fg 2 100)))]) [0, 1, 2, 3, 4, 5] rfl
  have hD9 := hD.sub (ws' := [(hm, .inr (3, [.int 0, .int 3, .ref wi, .ref co, .ref sl, .ref rn, .ref so, .ref bn, .ref sm, .ref ah])), (sm, .inr (2, [.int 0, .ref gr, .ref gt, .ref gw, .ref gk, .ref gi, .ref gp, .ref go, .ref gg, .ref hm])), (wi, .inl (d1, 6, .inl (upd fw 2 10))), (co, .inl (d2, 6, .inl (upd fc 2 6))), (sl, .inl (d3, 6, .inl (upd fs 2 30))), (gr, .inl (d4, 6, .inl (upd fg 2 100)))]) [0, 1, 2, 3, 4, 5] (by decide) rfl
  have hK9 := hK.sub (tys' := []) [] rfl
  refine W.widen (k := 0) (n := 0) (Nat.le_of_ble_eq_true rfl) (Nat.le_of_ble_eq_true rfl) ?_
  exact W.iret (v := 2) hx hb hr (fun t ht hW => ⟨⟨2, (), rfl, by (first | rfl | assumption | decide | (simp_all; done) | grind), ⟨by rw [ht]; exact hP9, va_K.moved hW.alike hK9, hD9⟩⟩, hS.F ht⟩) hS.2.2 dX3_build_117

set_option maxHeartbeats 4000000 in
set_option maxRecDepth 100000 in
theorem r1_build3 (l : Launch) (dC : Nat → ClassId) (dI : Nat → Nat → Nat) (sz : Nat) (h : Nat) (ro : Nat) (ba : Nat) (ra : Nat) (su : Nat) (tr : Nat) (cR : ClassId) (fr : Nat → Option Nat) : Met l yX1_build wsX1_build ({ frames := 2, cells := 5, slots := 250, locals := 35 }) (va_Pc [.ref h, .int 10, .int 6, .int 30] (fun U => U.heap.size = sz ∧ va_P (dC, dI) vwCl [(h, .inr (1, [.ref ro, .int 3, .ref ba, .ref ra, .ref su, .int 0, .ref tr])), (ro, .inl (cR, 6, .inr (.inr (.inr (.inr fr)))))] U.heap ∧ va_K (dC, dI) vwCl [(cR, .object RX0)] U ∧ va_D (fun _ => True) [(h, .inr (1, [.ref ro, .int 3, .ref ba, .ref ra, .ref su, .int 0, .ref tr])), (ro, .inl (cR, 6, .inr (.inr (.inr (.inr fr)))))])) (va_Qi (fun (r : Int32) (u : Nat × Nat × Nat × Nat × Nat × ClassId) => r = 3) (fun (u : Nat × Nat × Nat × Nat × Nat × ClassId) (t : State) => va_P (dC, dI) vwCl [(h, .inr (1, [.ref ro, .int 4, .ref ba, .ref ra, .ref su, .int 0, .ref tr])), (ro, .inl (cR, 6, .inr (.inr (.inr (.inr (va_up fr 3 (some u.1))))))), (u.1, .inr (0, [.int 10, .int 6, .int 30, .int 100, .int 0, .int 0, .ref u.2.1, .ref u.2.2.1, .ref u.2.2.2.1, .ref u.2.2.2.2.1])), (u.2.2.1, .inl (u.2.2.2.2.2, 60, .inl (fun _ => 0)))] t.heap ∧ va_K (dC, dI) vwCl [(u.2.2.2.2.2, .int)] t ∧ va_D (va_A [(h, .inr (1, [.ref ro, .int 3, .ref ba, .ref ra, .ref su, .int 0, .ref tr])), (ro, .inl (cR, 6, .inr (.inr (.inr (.inr fr)))))] sz) [(h, .inr (1, [.ref ro, .int 4, .ref ba, .ref ra, .ref su, .int 0, .ref tr])), (ro, .inl (cR, 6, .inr (.inr (.inr (.inr (va_up fr 3 (some u.1))))))), (u.1, .inr (0, [.int 10, .int 6, .int 30, .int 100, .int 0, .int 0, .ref u.2.1, .ref u.2.2.1, .ref u.2.2.2.1, .ref u.2.2.2.2.1])), (u.2.2.1, .inl (u.2.2.2.2.2, 60, .inl (fun _ => 0)))]) (va_A [(h, .inr (1, [.ref ro, .int 3, .ref ba, .ref ra, .ref su, .int 0, .ref tr])), (ro, .inl (cR, 6, .inr (.inr (.inr (.inr fr)))))] sz)) 5 250 (va_A [(h, .inr (1, [.ref ro, .int 3, .ref ba, .ref ra, .ref su, .int 0, .ref tr])), (ro, .inl (cR, 6, .inr (.inr (.inr (.inr fr)))))] sz) := by
  refine Met.ofW (cc := cX1_build) (maxL := 5) (ret := (some .int)) (by decide) rfl ?_
  intro p e s m args below meth c s₁ B hml hv
  obtain ⟨rfl, hsz, hP, hK, hD0⟩ := hv
  have hx := B.exec
  have hb := B.bytes
  have hr := B.returns
  have hts := atoms_spec (ws := wsX1_build) B.pre
  have hown : s.vm.findClass RX1 = some m.cls := findClass_of_methodNamed B.named
  have hlocks := B.notSynchronized
  subst hsz
  have hD := hD0.self (sz := s.heap.size)
  generalize hAe : va_A [(h, .inr (1, [.ref ro, .int 3, .ref ba, .ref ra, .ref su, .int 0, .ref tr])), (ro, .inl (cR, 6, .inr (.inr (.inr (.inr fr)))))] s.heap.size = A at hD ⊢
  have hA : ∀ q : Nat, s.heap.size ≤ q → A q := fun q h => by rw [← hAe]; exact Or.inr h
  have hS : va_S A s.heap s.heap [] := va_S.rf
  have hP : va_P (dC, dI) vwCl [(h, .inr (1, [.ref ro, .int 3, .ref ba, .ref ra, .ref su, .int 0, .ref tr])), (ro, .inl (cR, 6, .inr (.inr (.inr (.inr fr)))))] s.heap := hP
  have hl := lv_entry ([.ref h, .int 10, .int 6, .int 30]) (n := 5) (Nat.le_of_ble_eq_true rfl)
  rw [lg_entry_eq]
  generalize (lg_sl ([.ref h, .int 10, .int 6, .int 30]) ++ List.replicate (5 - (lg_sl ([.ref h, .int 10, .int 6, .int 30])).length) Slot.unset).toArray = ls at hl ⊢
  have hl : lv_has ls 5 [(0, .ref h), (1, .int 10), (2, .int 6), (3, .int 30)] := hl
  refine lv_iload_n hx hb dX1_build_0 rfl (lv_at hl 1 rfl) ?_
  refine lv_iconst (v := 2) hx hb dX1_build_1 (by decide) ?_
  refine lv_bipush (v := 10) hx hb dX1_build_2 (by decide) ?_
  refine vp_callSi (va_runS (As := [.int 10, .int 2, .int 10]) (rest := []) ⟨hx, hb, hml, hown, hts⟩ (r1_isWithin10 l dC dI  ) (va_cwS 3 hts gX1_build_X1_isWithin rfl rfl rfl (by decide +kernel) ⟨Nat.le_of_ble_eq_true rfl, Nat.le_of_ble_eq_true rfl⟩) ⟨fun a U g mk q => q, fun U hU hW => ⟨rfl, trivial⟩⟩ rfl rfl hl.1 rfl (lv_room (Nat.le_of_ble_eq_true rfl)) dX1_build_4 ⟨Nat.le_of_ble_eq_true rfl, Nat.le_of_ble_eq_true rfl⟩).run (fun r1 hr1 => ?_)
  obtain rfl := hr1
  refine lv_if_eq (tgt := 31) hx hb dX1_build_7 (by decide) (fun c2 => absurd c2 (by decide)) (fun c2 => ?_)
  refine lv_iload_n hx hb dX1_build_10 rfl (lv_at hl 2 rfl) ?_
  refine lv_iconst (v := 2) hx hb dX1_build_11 (by decide) ?_
  refine lv_bipush (v := 6) hx hb dX1_build_12 (by decide) ?_
  refine vp_callSi (va_runS (As := [.int 6, .int 2, .int 6]) (rest := []) ⟨hx, hb, hml, hown, hts⟩ (r1_isWithin6 l dC dI  ) (va_cwS 3 hts gX1_build_X1_isWithin rfl rfl rfl (by decide +kernel) ⟨Nat.le_of_ble_eq_true rfl, Nat.le_of_ble_eq_true rfl⟩) ⟨fun a U g mk q => q, fun U hU hW => ⟨rfl, trivial⟩⟩ rfl rfl hl.1 rfl (lv_room (Nat.le_of_ble_eq_true rfl)) dX1_build_14 ⟨Nat.le_of_ble_eq_true rfl, Nat.le_of_ble_eq_true rfl⟩).run (fun r3 hr3 => ?_)
  obtain rfl := hr3
  refine lv_if_eq (tgt := 31) hx hb dX1_build_17 (by decide) (fun c4 => absurd c4 (by decide)) (fun c4 => ?_)
  refine lv_iload_n hx hb dX1_build_20 rfl (lv_at hl 3 rfl) ?_
  refine lv_bipush (v := 30) hx hb dX1_build_21 (by decide) ?_
  refine lv_bipush (v := 60) hx hb dX1_build_23 (by decide) ?_
  refine vp_callSi (va_runS (As := [.int 30, .int 30, .int 60]) (rest := []) ⟨hx, hb, hml, hown, hts⟩ (r1_isWithin30 l dC dI  ) (va_cwS 3 hts gX1_build_X1_isWithin rfl rfl rfl (by decide +kernel) ⟨Nat.le_of_ble_eq_true rfl, Nat.le_of_ble_eq_true rfl⟩) ⟨fun a U g mk q => q, fun U hU hW => ⟨rfl, trivial⟩⟩ rfl rfl hl.1 rfl (lv_room (Nat.le_of_ble_eq_true rfl)) dX1_build_25 ⟨Nat.le_of_ble_eq_true rfl, Nat.le_of_ble_eq_true rfl⟩).run (fun r5 hr5 => ?_)
  obtain rfl := hr5
  refine lv_if_ne (tgt := 41) hx hb dX1_build_28 (by decide) (fun c6 => ?_) (fun c6 => absurd c6 (by decide))
  refine lv_aload_n hx hb dX1_build_41 rfl (lv_at hl 0 rfl) ?_
  refine va_get (D := (dC, dI)) (ci := 1) (v := .int 3) (C := RX1) (T := TX1) (N := 7) hx hb hts (by decide +kernel) hown hK hP 0 rfl rfl 1 (by decide) (hts (.fieldLink RX1 43 "ThatchRoof" "built" "I") (by decide +kernel)) (fun _ h9 => h9) rfl dX1_build_42 ?_
  refine lv_bipush (v := 6) hx hb dX1_build_45 (by decide) ?_
  refine lv_icmp_lt (tgt := 60) hx hb dX1_build_47 (by decide) (fun c7 => ?_) (fun c7 => absurd c7 (by decide))
  refine lv_aload_n hx hb dX1_build_60 rfl (lv_at hl 0 rfl) ?_
  refine va_get (D := (dC, dI)) (ci := 1) (v := .int 3) (C := RX1) (T := TX1) (N := 7) hx hb hts (by decide +kernel) hown hK hP 0 rfl rfl 1 (by decide) (hts (.fieldLink RX1 43 "ThatchRoof" "built" "I") (by decide +kernel)) (fun _ h9 => h9) rfl dX1_build_61 ?_
  refine lv_istore (lv' := [(4, .int 3), (0, .ref h), (1, .int 10), (2, .int 6), (3, .int 30)]) hx hb dX1_build_64 hl (by decide) rfl (fun ls hl => ?_)
  refine lv_aload_n hx hb dX1_build_66 rfl (lv_at hl 1 rfl) ?_
  refine va_get (D := (dC, dI)) (ci := 1) (v := .ref ro) (C := RX1) (T := TX1) (N := 7) hx hb hts (by decide +kernel) hown hK hP 0 rfl rfl 0 (by decide) (hts (.fieldLink RX1 11 "ThatchRoof" "roofs" "[LThatchRoof$Roof;") (by decide +kernel)) (fun _ h9 => h9) rfl dX1_build_67 ?_
  refine lv_iload hx hb dX1_build_70 (lv_at hl 0 rfl) ?_
  refine va_new (ci := 0) (fs := [.int 0, .int 0, .int 0, .int 0, .int 0, .int 0, .null, .null, .null, .null]) (C := RX0) (T := TX0) (N := 10) hx hb hts (by decide +kernel) tyX0 tyX0_ok hown (hts (.classLink RX1 9 RX0) (by decide +kernel)) (hts (.instantiable RX0 10) (by decide +kernel)) (hts (.initialized RX0) (by decide +kernel)) hK hP hD hS hA rfl (fun j hj => by rcases (show j = 0 ∨ j = 1 ∨ j = 2 ∨ j = 3 ∨ j = 4 ∨ j = 5 ∨ j = 6 ∨ j = 7 ∨ j = 8 ∨ j = 9 by omega) with rfl | rfl | rfl | rfl | rfl | rfl | rfl | rfl | rfl | rfl <;> rfl) (Nat.le_of_ble_eq_true rfl) (Nat.le_of_ble_eq_true rfl) dX1_build_72 (fun q8 H hP hD hS => ?_)
  refine W.widen (k := 1) (n := 10) (Nat.le_of_ble_eq_true rfl) (Nat.le_of_ble_eq_true rfl) ?_
  have hP : va_P (dC, dI) vwCl [(h, .inr (1, [.ref ro, .int 3, .ref ba, .ref ra, .ref su, .int 0, .ref tr])), (ro, .inl (cR, 6, .inr (.inr (.inr (.inr fr))))), (q8, .inr (0, [.int 0, .int 0, .int 0, .int 0, .int 0, .int 0, .null, .null, .null, .null]))] H := hP
  have hD : va_D A [(h, .inr (1, [.ref ro, .int 3, .ref ba, .ref ra, .ref su, .int 0, .ref tr])), (ro, .inl (cR, 6, .inr (.inr (.inr (.inr fr))))), (q8, .inr (0, [.int 0, .int 0, .int 0, .int 0, .int 0, .int 0, .null, .null, .null, .null]))] := hD
  refine lv_dup hx hb dX1_build_75 rfl ?_
  refine lv_iload_n hx hb dX1_build_76 rfl (lv_at hl 2 rfl) ?_
  refine lv_iload_n hx hb dX1_build_77 rfl (lv_at hl 3 rfl) ?_
  refine lv_iload_n hx hb dX1_build_78 rfl (lv_at hl 4 rfl) ?_
  have hPc := hP.sub (ws' := [(q8, .inr (0, [.int 0, .int 0, .int 0, .int 0, .int 0, .int 0, .null, .null, .null, .null]))]) [2] rfl
  have hKc := hK.sub (tys' := []) [] rfl
  have hDc := hD.sub (ws' := [(q8, .inr (0, [.int 0, .int 0, .int 0, .int 0, .int 0, .int 0, .null, .null, .null, .null]))]) [2] (by decide) rfl
  have hFc := va_free (wc := [(q8, .inr (0, [.int 0, .int 0, .int 0, .int 0, .int 0, .int 0, .null, .null, .null, .null]))]) hD hS hA [2] rfl
  refine va_callv (va_runI (As := [.int 10, .int 6, .int 30]) (rest := [.ref q8, .int 3, .ref ro]) ⟨hx, hb, hml, hown, hts⟩ (k0_init l dC dI H.size q8 10 6 30 ) (cwI 3 hts gX1_build_X0_init rfl rfl rfl (hts (.initialized RX0) (by decide +kernel)) (hts (.methodLink RX1 25 yX0_init) (by decide +kernel)) (hts (.instanceMethod yX0_init) (by decide +kernel)) rfl (by decide +kernel) ⟨Nat.le_of_ble_eq_true rfl, Nat.le_of_ble_eq_true rfl⟩) ⟨fun a U g mk q => by obtain ⟨q0, q1, qP, qK, qD⟩ := q; exact ⟨q0, q1, qP, va_K.moved (u := U) (U := U.calling g mk a) (Vm.Alike.refl U.vm) qK, qD⟩, fun U hU hW => ⟨rfl, by rw [hU], by rw [hU]; exact hPc, va_K.moved hW.alike hKc, hDc.weaken (fun _ _ _ _ => trivial)⟩⟩ rfl rfl hl.1 rfl (lv_room (Nat.le_of_ble_eq_true rfl)) dX1_build_79 ⟨Nat.le_of_ble_eq_true rfl, Nat.le_of_ble_eq_true rfl⟩) hS (fun q _ h => hFc q h) hFc (fun u t H1 locs ht hvm hr9 hB hz1 hk1 hS => ?_)
  obtain ⟨k__10, t__11, p__12, m__13, c1__14, c2__15, c3__16, c4__17⟩ := u
  obtain ⟨hP1, hK1, hD1⟩ := hB
  rw [ht] at hP1
  have hK1 := va_K.moved hvm.symm hK1
  try dsimp only at hr9
  obtain ⟨hP, hD⟩ := va_join (wr := [(h, .inr (1, [.ref ro, .int 3, .ref ba, .ref ra, .ref su, .int 0, .ref tr])), (ro, .inl (cR, 6, .inr (.inr (.inr (.inr fr)))))]) (w1 := [(q8, .inr (0, [.int 10, .int 6, .int 30, .int 100, .int 0, .int 0, .ref k__10, .ref t__11, .ref p__12, .ref m__13])), (k__10, .inl (c1__14, 60, .inl (fun _ => 0))), (t__11, .inl (c2__15, 60, .inl (fun _ => 0))), (p__12, .inl (c3__16, 60, .inl (fun _ => 0))), (m__13, .inl (c4__17, 60, .inl (fun _ => 0)))]) hP hD [2] [0, 1] rfl rfl (by decide) (by decide) hk1 hFc hP1 hD1
  have hK := hK.app hK1
  have hK : va_K (dC, dI) vwCl [(cR, .object RX0), (c1__14, .int), (c2__15, .int), (c3__16, .int), (c4__17, .int)] s := hK
  generalize H1 = H at hP hS ⊢
  have hP : va_P (dC, dI) vwCl [(h, .inr (1, [.ref ro, .int 3, .ref ba, .ref ra, .ref su, .int 0, .ref tr])), (ro, .inl (cR, 6, .inr (.inr (.inr (.inr fr))))), (q8, .inr (0, [.int 10, .int 6, .int 30, .int 100, .int 0, .int 0, .ref k__10, .ref t__11, .ref p__12, .ref m__13])), (k__10, .inl (c1__14, 60, .inl (fun _ => 0))), (t__11, .inl (c2__15, 60, .inl (fun _ => 0))), (p__12, .inl (c3__16, 60, .inl (fun _ => 0))), (m__13, .inl (c4__17, 60, .inl (fun _ => 0)))] H := hP
  have hD : va_D A [(h, .inr (1, [.ref ro, .int 3, .ref ba, .ref ra, .ref su, .int 0, .ref tr])), (ro, .inl (cR, 6, .inr (.inr (.inr (.inr fr))))), (q8, .inr (0, [.int 10, .int 6, .int 30, .int 100, .int 0, .int 0, .ref k__10, .ref t__11, .ref p__12, .ref m__13])), (k__10, .inl (c1__14, 60, .inl (fun _ => 0))), (t__11, .inl (c2__15, 60, .inl (fun _ => 0))), (p__12, .inl (c3__16, 60, .inl (fun _ => 0))), (m__13, .inl (c4__17, 60, .inl (fun _ => 0)))] := hD
  refine W.widen (k := 5) (n := 250) (Nat.le_of_ble_eq_true rfl) (Nat.le_of_ble_eq_true rfl) ?_
  obtain - := hr9
  refine va_astq hx hb hK hP hD hS 1 0 2 0 rfl rfl rfl rfl (vp_in_nI (n := 3) (by decide) (by decide)) dX1_build_82 (fun H locs hP hD hS => ?_)
  have hP : va_P (dC, dI) vwCl [(h, .inr (1, [.ref ro, .int 3, .ref ba, .ref ra, .ref su, .int 0, .ref tr])), (ro, .inl (cR, 6, .inr (.inr (.inr (.inr (va_up fr 3 (some q8))))))), (q8, .inr (0, [.int 10, .int 6, .int 30, .int 100, .int 0, .int 0, .ref k__10, .ref t__11, .ref p__12, .ref m__13])), (k__10, .inl (c1__14, 60, .inl (fun _ => 0))), (t__11, .inl (c2__15, 60, .inl (fun _ => 0))), (p__12, .inl (c3__16, 60, .inl (fun _ => 0))), (m__13, .inl (c4__17, 60, .inl (fun _ => 0)))] H := hP
  have hD : va_D A [(h, .inr (1, [.ref ro, .int 3, .ref ba, .ref ra, .ref su, .int 0, .ref tr])), (ro, .inl (cR, 6, .inr (.inr (.inr (.inr (va_up fr 3 (some q8))))))), (q8, .inr (0, [.int 10, .int 6, .int 30, .int 100, .int 0, .int 0, .ref k__10, .ref t__11, .ref p__12, .ref m__13])), (k__10, .inl (c1__14, 60, .inl (fun _ => 0))), (t__11, .inl (c2__15, 60, .inl (fun _ => 0))), (p__12, .inl (c3__16, 60, .inl (fun _ => 0))), (m__13, .inl (c4__17, 60, .inl (fun _ => 0)))] := hD
  refine lv_aload_n hx hb dX1_build_83 rfl (lv_at hl 1 rfl) ?_
  refine lv_dup hx hb dX1_build_84 rfl ?_
  refine va_get (D := (dC, dI)) (ci := 1) (v := .int 3) (C := RX1) (T := TX1) (N := 7) hx hb hts (by decide +kernel) hown hK hP 0 rfl rfl 1 (by decide) (hts (.fieldLink RX1 43 "ThatchRoof" "built" "I") (by decide +kernel)) (fun _ h9 => h9) rfl dX1_build_85 ?_
  refine lv_iconst (v := 1) hx hb dX1_build_88 (by decide) ?_
  refine lv_iadd hx hb dX1_build_89 ?_
  refine W.eq (g2 := F0 m 90 ls [.int 4, .ref h]) rfl ?_
  refine va_put (D := (dC, dI)) (ci := 1) (v := .int 4) (ty := .int) (C := RX1) (T := TX1) (N := 7) hx hb hts (by decide +kernel) tyX1 tyX1_ok nmX1 hown hK hP hD hS 0 rfl rfl 1 (by decide) (hts (.fieldLink RX1 43 "ThatchRoof" "built" "I") (by decide +kernel)) (fun _ h9 => h9) rfl (by decide +kernel) rfl rfl (Nat.le_of_ble_eq_true rfl) dX1_build_90 (fun H locs hP hD hS => ?_)
  have hP : va_P (dC, dI) vwCl [(h, .inr (1, [.ref ro, .int 4, .ref ba, .ref ra, .ref su, .int 0, .ref tr])), (ro, .inl (cR, 6, .inr (.inr (.inr (.inr (va_up fr 3 (some q8))))))), (q8, .inr (0, [.int 10, .int 6, .int 30, .int 100, .int 0, .int 0, .ref k__10, .ref t__11, .ref p__12, .ref m__13])), (k__10, .inl (c1__14, 60, .inl (fun _ => 0))), (t__11, .inl (c2__15, 60, .inl (fun _ => 0))), (p__12, .inl (c3__16, 60, .inl (fun _ => 0))), (m__13, .inl (c4__17, 60, .inl (fun _ => 0)))] H := hP
  have hD : va_D A [(h, .inr (1, [.ref ro, .int 4, .ref ba, .ref ra, .ref su, .int 0, .ref tr])), (ro, .inl (cR, 6, .inr (.inr (.inr (.inr (va_up fr 3 (some q8))))))), (q8, .inr (0, [.int 10, .int 6, .int 30, .int 100, .int 0, .int 0, .ref k__10, .ref t__11, .ref p__12, .ref m__13])), (k__10, .inl (c1__14, 60, .inl (fun _ => 0))), (t__11, .inl (c2__15, 60, .inl (fun _ => 0))), (p__12, .inl (c3__16, 60, .inl (fun _ => 0))), (m__13, .inl (c4__17, 60, .inl (fun _ => 0)))] := hD
  refine lv_iload hx hb dX1_build_93 (lv_at hl 0 rfl) ?_
  have hP9 := hP.sub (ws' := [(h, .inr (1, [.ref ro, .int 4, .ref ba, .ref ra, .ref su, .int 0, .ref tr])), (ro, .inl (cR, 6, .inr (.inr (.inr (.inr (va_up fr 3 (some q8))))))), (q8, .inr (0, [.int 10, .int 6, .int 30, .int 100, .int 0, .int 0, .ref k__10, .ref t__11, .ref p__12, .ref m__13])), (t__11, .inl (c2__15, 60, .inl (fun _ => 0)))]) [0, 1, 2, 4] rfl
  have hD9 := hD.sub (ws' := [(h, .inr (1, [.ref ro, .int 4, .ref ba, .ref ra, .ref su, .int 0, .ref tr])), (ro, .inl (cR, 6, .inr (.inr (.inr (.inr (va_up fr 3 (some q8))))))), (q8, .inr (0, [.int 10, .int 6, .int 30, .int 100, .int 0, .int 0, .ref k__10, .ref t__11, .ref p__12, .ref m__13])), (t__11, .inl (c2__15, 60, .inl (fun _ => 0)))]) [0, 1, 2, 4] (by decide) rfl
  have hK9 := hK.sub (tys' := [(c2__15, .int)]) [2] rfl
  refine W.widen (k := 5) (n := 250) (Nat.le_of_ble_eq_true rfl) (Nat.le_of_ble_eq_true rfl) ?_
  exact W.iret (v := 3) hx hb hr (fun t ht hW => ⟨⟨3, (q8, k__10, t__11, p__12, m__13, c2__15), rfl, by (first | rfl | assumption | decide | (simp_all; done) | grind), ⟨by rw [ht]; exact hP9, va_K.moved hW.alike hK9, hD9⟩⟩, hS.F ht⟩) hS.2.2 dX1_build_95

set_option maxHeartbeats 4000000 in
set_option maxRecDepth 100000 in
theorem rL_build3 (l : Launch) (dC : Nat → ClassId) (dI : Nat → Nat → Nat) (sz : Nat) (h : Nat) (ro : Nat) (ba : Nat) (ra : Nat) (su : Nat) (tr : Nat) (cR : ClassId) (fr : Nat → Option Nat) (ou : Nat) (cO : ClassId) (fp : Nat → Int64) : Met l yL_build wsL_build ({ frames := 3, cells := 5, slots := 250, locals := 59 }) (va_Pc [.ref h, .int 10, .int 6, .int 30, .ref ou] (fun U => U.heap.size = sz ∧ va_P (dC, dI) vwCl [(h, .inr (1, [.ref ro, .int 3, .ref ba, .ref ra, .ref su, .int 0, .ref tr])), (ro, .inl (cR, 6, .inr (.inr (.inr (.inr fr))))), (ou, .inl (cO, 1, .inr (.inl fp)))] U.heap ∧ va_K (dC, dI) vwCl [(cR, .object RX0), (cO, .long)] U ∧ va_D (fun _ => True) [(h, .inr (1, [.ref ro, .int 3, .ref ba, .ref ra, .ref su, .int 0, .ref tr])), (ro, .inl (cR, 6, .inr (.inr (.inr (.inr fr))))), (ou, .inl (cO, 1, .inr (.inl fp)))])) (va_Qi (fun (r : Int32) (u : Nat × Nat × Nat × Nat × Nat × ClassId) => r = 0) (fun (u : Nat × Nat × Nat × Nat × Nat × ClassId) (t : State) => va_P (dC, dI) vwCl [(h, .inr (1, [.ref ro, .int 4, .ref ba, .ref ra, .ref su, .int 0, .ref tr])), (ro, .inl (cR, 6, .inr (.inr (.inr (.inr (va_up fr 3 (some u.1))))))), (u.1, .inr (0, [.int 10, .int 6, .int 30, .int 100, .int 0, .int 0, .ref u.2.1, .ref u.2.2.1, .ref u.2.2.2.1, .ref u.2.2.2.2.1])), (u.2.2.1, .inl (u.2.2.2.2.2, 60, .inl (fun _ => 0))), (ou, .inl (cO, 1, .inr (.inl (vp_updL fp 0 3))))] t.heap ∧ va_K (dC, dI) vwCl [(u.2.2.2.2.2, .int)] t ∧ va_D (va_A [(h, .inr (1, [.ref ro, .int 3, .ref ba, .ref ra, .ref su, .int 0, .ref tr])), (ro, .inl (cR, 6, .inr (.inr (.inr (.inr fr))))), (ou, .inl (cO, 1, .inr (.inl fp)))] sz) [(h, .inr (1, [.ref ro, .int 4, .ref ba, .ref ra, .ref su, .int 0, .ref tr])), (ro, .inl (cR, 6, .inr (.inr (.inr (.inr (va_up fr 3 (some u.1))))))), (u.1, .inr (0, [.int 10, .int 6, .int 30, .int 100, .int 0, .int 0, .ref u.2.1, .ref u.2.2.1, .ref u.2.2.2.1, .ref u.2.2.2.2.1])), (u.2.2.1, .inl (u.2.2.2.2.2, 60, .inl (fun _ => 0))), (ou, .inl (cO, 1, .inr (.inl (vp_updL fp 0 3))))]) (va_A [(h, .inr (1, [.ref ro, .int 3, .ref ba, .ref ra, .ref su, .int 0, .ref tr])), (ro, .inl (cR, 6, .inr (.inr (.inr (.inr fr))))), (ou, .inl (cO, 1, .inr (.inl fp)))] sz)) 5 250 (va_A [(h, .inr (1, [.ref ro, .int 3, .ref ba, .ref ra, .ref su, .int 0, .ref tr])), (ro, .inl (cR, 6, .inr (.inr (.inr (.inr fr))))), (ou, .inl (cO, 1, .inr (.inl fp)))] sz) := by
  refine va_MetW (cc := cL_build) (maxL := 6) (ret := (some .int)) (by decide) rfl ?_
  intro p e s m args below meth c s₁ B hml hv
  obtain ⟨rfl, hsz, hP, hK, hD0⟩ := hv
  have hx := B.exec
  have hb := B.bytes
  have hr := B.returns
  have hts := atoms_spec (ws := wsL_build) B.pre
  have hown : s.vm.findClass RL = some m.cls := findClass_of_methodNamed B.named
  have hlocks := B.notSynchronized
  have htab := vx_table (x := yL_build) B (hts (.codeWith yL_build cL_build 6 (some .int) [(0, 12, 15, 13), (0, 12, 19, 15)]) List.mem_cons_self)
  subst hsz
  have hD := hD0.self (sz := s.heap.size)
  generalize hAe : va_A [(h, .inr (1, [.ref ro, .int 3, .ref ba, .ref ra, .ref su, .int 0, .ref tr])), (ro, .inl (cR, 6, .inr (.inr (.inr (.inr fr))))), (ou, .inl (cO, 1, .inr (.inl fp)))] s.heap.size = A at hD ⊢
  have hA : ∀ q : Nat, s.heap.size ≤ q → A q := fun q h => by rw [← hAe]; exact Or.inr h
  have hS : va_S A s.heap s.heap [] := va_S.rf
  have hP : va_P (dC, dI) vwCl [(h, .inr (1, [.ref ro, .int 3, .ref ba, .ref ra, .ref su, .int 0, .ref tr])), (ro, .inl (cR, 6, .inr (.inr (.inr (.inr fr))))), (ou, .inl (cO, 1, .inr (.inl fp)))] s.heap := hP
  have hl := lv_entry ([.ref h, .int 10, .int 6, .int 30, .ref ou]) (n := 6) (Nat.le_of_ble_eq_true rfl)
  rw [lg_entry_eq]
  generalize (lg_sl ([.ref h, .int 10, .int 6, .int 30, .ref ou]) ++ List.replicate (6 - (lg_sl ([.ref h, .int 10, .int 6, .int 30, .ref ou])).length) Slot.unset).toArray = ls at hl ⊢
  have hl : lv_has ls 6 [(0, .ref h), (1, .int 10), (2, .int 6), (3, .int 30), (4, .ref ou)] := hl
  refine lv_aload hx hb dL_build_0 (lv_at hl 4 rfl) ?_
  refine lv_iconst (v := 0) hx hb dL_build_2 (by decide) ?_
  refine lv_aload_n hx hb dL_build_3 rfl (lv_at hl 0 rfl) ?_
  refine lv_iload_n hx hb dL_build_4 rfl (lv_at hl 1 rfl) ?_
  refine lv_iload_n hx hb dL_build_5 rfl (lv_at hl 2 rfl) ?_
  refine lv_iload_n hx hb dL_build_6 rfl (lv_at hl 3 rfl) ?_
  have hPc := hP.sub (ws' := [(h, .inr (1, [.ref ro, .int 3, .ref ba, .ref ra, .ref su, .int 0, .ref tr])), (ro, .inl (cR, 6, .inr (.inr (.inr (.inr fr)))))]) [0, 1] rfl
  have hKc := hK.sub (tys' := [(cR, .object RX0)]) [0] rfl
  have hDc := hD.sub (ws' := [(h, .inr (1, [.ref ro, .int 3, .ref ba, .ref ra, .ref su, .int 0, .ref tr])), (ro, .inl (cR, 6, .inr (.inr (.inr (.inr fr)))))]) [0, 1] (by decide) rfl
  have hFc := va_free (wc := [(h, .inr (1, [.ref ro, .int 3, .ref ba, .ref ra, .ref su, .int 0, .ref tr])), (ro, .inl (cR, 6, .inr (.inr (.inr (.inr fr)))))]) hD hS hA [0, 1] rfl
  refine va_calli (va_runV (As := [.int 10, .int 6, .int 30]) (rest := [.int 0, .ref ou]) ⟨hx, hb, hml, hown, hts⟩ (r1_build3 l dC dI s.heap.size h ro ba ra su tr cR fr ) (cwV 3 hts gL_build_X1_build rfl rfl rfl (by decide +kernel) ⟨Nat.le_of_ble_eq_true rfl, Nat.le_of_ble_eq_true rfl⟩) ⟨fun a U g mk q => by obtain ⟨q0, q1, qP, qK, qD⟩ := q; exact ⟨q0, q1, qP, va_K.moved (u := U) (U := U.calling g mk a) (Vm.Alike.refl U.vm) qK, qD⟩, va_recv hKc hPc (ci := 1) (q0 := 0) rfl rfl, fun U hU hW => ⟨rfl, by rw [hU], by rw [hU]; exact hPc, va_K.moved hW.alike hKc, hDc.weaken (fun _ _ _ _ => trivial)⟩⟩ rfl rfl hl.1 rfl (lv_room (Nat.le_of_ble_eq_true rfl)) dL_build_7 ⟨Nat.le_of_ble_eq_true rfl, Nat.le_of_ble_eq_true rfl⟩) hS (fun q _ h => hFc q h) hFc (fun r1 u t H1 locs ht hvm hr1 hB hz1 hk1 hS => ?_)
  obtain ⟨qh_2, qk_3, qt_4, qp_5, qm_6, qc_7⟩ := u
  obtain ⟨hP1, hK1, hD1⟩ := hB
  rw [ht] at hP1
  have hK1 := va_K.moved hvm.symm hK1
  try dsimp only at hr1
  obtain ⟨hP, hD⟩ := va_join (wr := [(ou, .inl (cO, 1, .inr (.inl fp)))]) (w1 := [(h, .inr (1, [.ref ro, .int 4, .ref ba, .ref ra, .ref su, .int 0, .ref tr])), (ro, .inl (cR, 6, .inr (.inr (.inr (.inr (va_up fr 3 (some qh_2))))))), (qh_2, .inr (0, [.int 10, .int 6, .int 30, .int 100, .int 0, .int 0, .ref qk_3, .ref qt_4, .ref qp_5, .ref qm_6])), (qt_4, .inl (qc_7, 60, .inl (fun _ => 0)))]) hP hD [0, 1] [2] rfl rfl (by decide) (by decide) hk1 hFc hP1 hD1
  have hK := hK.app hK1
  have hK : va_K (dC, dI) vwCl [(cR, .object RX0), (cO, .long), (qc_7, .int)] s := hK
  generalize H1 = H at hP hS ⊢
  have hP : va_P (dC, dI) vwCl [(ou, .inl (cO, 1, .inr (.inl fp))), (h, .inr (1, [.ref ro, .int 4, .ref ba, .ref ra, .ref su, .int 0, .ref tr])), (ro, .inl (cR, 6, .inr (.inr (.inr (.inr (va_up fr 3 (some qh_2))))))), (qh_2, .inr (0, [.int 10, .int 6, .int 30, .int 100, .int 0, .int 0, .ref qk_3, .ref qt_4, .ref qp_5, .ref qm_6])), (qt_4, .inl (qc_7, 60, .inl (fun _ => 0)))] H := hP
  have hD : va_D A [(ou, .inl (cO, 1, .inr (.inl fp))), (h, .inr (1, [.ref ro, .int 4, .ref ba, .ref ra, .ref su, .int 0, .ref tr])), (ro, .inl (cR, 6, .inr (.inr (.inr (.inr (va_up fr 3 (some qh_2))))))), (qh_2, .inr (0, [.int 10, .int 6, .int 30, .int 100, .int 0, .int 0, .ref qk_3, .ref qt_4, .ref qp_5, .ref qm_6])), (qt_4, .inl (qc_7, 60, .inl (fun _ => 0)))] := hD
  refine W.widen (k := 5) (n := 250) (Nat.le_of_ble_eq_true rfl) (Nat.le_of_ble_eq_true rfl) ?_
  obtain rfl := hr1
  refine lv_i2l (v := 3) hx hb dL_build_10 (by first | rfl | decide) ?_
  refine va_last hx hb hK hP hD hS 0 1 rfl rfl (vp_in_nI (n := 0) (by decide) (by decide)) dL_build_11 (fun H locs hP hD hS => ?_)
  have hP : va_P (dC, dI) vwCl [(ou, .inl (cO, 1, .inr (.inl (vp_updL fp 0 3)))), (h, .inr (1, [.ref ro, .int 4, .ref ba, .ref ra, .ref su, .int 0, .ref tr])), (ro, .inl (cR, 6, .inr (.inr (.inr (.inr (va_up fr 3 (some qh_2))))))), (qh_2, .inr (0, [.int 10, .int 6, .int 30, .int 100, .int 0, .int 0, .ref qk_3, .ref qt_4, .ref qp_5, .ref qm_6])), (qt_4, .inl (qc_7, 60, .inl (fun _ => 0)))] H := hP
  have hD : va_D A [(ou, .inl (cO, 1, .inr (.inl (vp_updL fp 0 3)))), (h, .inr (1, [.ref ro, .int 4, .ref ba, .ref ra, .ref su, .int 0, .ref tr])), (ro, .inl (cR, 6, .inr (.inr (.inr (.inr (va_up fr 3 (some qh_2))))))), (qh_2, .inr (0, [.int 10, .int 6, .int 30, .int 100, .int 0, .int 0, .ref qk_3, .ref qt_4, .ref qp_5, .ref qm_6])), (qt_4, .inl (qc_7, 60, .inl (fun _ => 0)))] := hD
  refine lv_goto (tgt := 23) hx hb dL_build_12 (by decide) ?_
  refine lv_iconst (v := 0) hx hb dL_build_23 (by decide) ?_
  have hP9 := hP.sub (ws' := [(h, .inr (1, [.ref ro, .int 4, .ref ba, .ref ra, .ref su, .int 0, .ref tr])), (ro, .inl (cR, 6, .inr (.inr (.inr (.inr (va_up fr 3 (some qh_2))))))), (qh_2, .inr (0, [.int 10, .int 6, .int 30, .int 100, .int 0, .int 0, .ref qk_3, .ref qt_4, .ref qp_5, .ref qm_6])), (qt_4, .inl (qc_7, 60, .inl (fun _ => 0))), (ou, .inl (cO, 1, .inr (.inl (vp_updL fp 0 3))))]) [1, 2, 3, 4, 0] rfl
  have hD9 := hD.sub (ws' := [(h, .inr (1, [.ref ro, .int 4, .ref ba, .ref ra, .ref su, .int 0, .ref tr])), (ro, .inl (cR, 6, .inr (.inr (.inr (.inr (va_up fr 3 (some qh_2))))))), (qh_2, .inr (0, [.int 10, .int 6, .int 30, .int 100, .int 0, .int 0, .ref qk_3, .ref qt_4, .ref qp_5, .ref qm_6])), (qt_4, .inl (qc_7, 60, .inl (fun _ => 0))), (ou, .inl (cO, 1, .inr (.inl (vp_updL fp 0 3))))]) [1, 2, 3, 4, 0] (by decide) rfl
  have hK9 := hK.sub (tys' := [(qc_7, .int)]) [2] rfl
  refine W.widen (k := 5) (n := 250) (Nat.le_of_ble_eq_true rfl) (Nat.le_of_ble_eq_true rfl) ?_
  exact W.iret (v := 0) hx hb hr (fun t ht hW => ⟨⟨0, (qh_2, qk_3, qt_4, qp_5, qm_6, qc_7), rfl, by (first | rfl | assumption | decide | (simp_all; done) | grind), ⟨by rw [ht]; exact hP9, va_K.moved hW.alike hK9, hD9⟩⟩, hS.F ht⟩) hS.2.2 dL_build_24

set_option maxHeartbeats 4000000 in
set_option maxRecDepth 100000 in
theorem r3_build3 (l : Launch) (dC : Nat → ClassId) (dI : Nat → Nat → Nat) (sz : Nat) (hm : Nat) (wi : Nat) (co : Nat) (sl : Nat) (rn : Nat) (so : Nat) (bn : Nat) (sm : Nat) (ah : Nat) (th : Int32) (gr : Nat) (gt : Nat) (gw : Nat) (gk : Nat) (gi : Nat) (gp : Nat) (go : Nat) (gg : Nat) (d1 : ClassId) (d2 : ClassId) (d3 : ClassId) (d4 : ClassId) (fw : Nat → Int32) (fc : Nat → Int32) (fs : Nat → Int32) (fg : Nat → Int32) : Met l yX3_build wsX3_build ({ frames := 1, cells := 0, slots := 0, locals := 22 }) (va_Pc [.ref hm, .int 10, .int 6, .int 30] (fun U => U.heap.size = sz ∧ va_P (dC, dI) vwCl [(hm, .inr (3, [.int th, .int 3, .ref wi, .ref co, .ref sl, .ref rn, .ref so, .ref bn, .ref sm, .ref ah])), (sm, .inr (2, [.int 0, .ref gr, .ref gt, .ref gw, .ref gk, .ref gi, .ref gp, .ref go, .ref gg, .ref hm])), (wi, .inl (d1, 6, .inl fw)), (co, .inl (d2, 6, .inl fc)), (sl, .inl (d3, 6, .inl fs)), (gr, .inl (d4, 6, .inl fg))] U.heap ∧ va_K (dC, dI) vwCl [(d1, .int), (d2, .int), (d3, .int), (d4, .int)] U ∧ va_D (fun _ => True) [(hm, .inr (3, [.int th, .int 3, .ref wi, .ref co, .ref sl, .ref rn, .ref so, .ref bn, .ref sm, .ref ah])), (sm, .inr (2, [.int 0, .ref gr, .ref gt, .ref gw, .ref gk, .ref gi, .ref gp, .ref go, .ref gg, .ref hm])), (wi, .inl (d1, 6, .inl fw)), (co, .inl (d2, 6, .inl fc)), (sl, .inl (d3, 6, .inl fs)), (gr, .inl (d4, 6, .inl fg))] ∧ zNs U)) (va_Qi (fun (r : Int32) (u : Unit) => r = 3) (fun (u : Unit) (t : State) => va_P (dC, dI) vwCl [(hm, .inr (3, [.int 0, .int 4, .ref wi, .ref co, .ref sl, .ref rn, .ref so, .ref bn, .ref sm, .ref ah])), (sm, .inr (2, [.int 0, .ref gr, .ref gt, .ref gw, .ref gk, .ref gi, .ref gp, .ref go, .ref gg, .ref hm])), (wi, .inl (d1, 6, .inl (upd fw 3 10))), (co, .inl (d2, 6, .inl (upd fc 3 6))), (sl, .inl (d3, 6, .inl (upd fs 3 30))), (gr, .inl (d4, 6, .inl (upd fg 3 100)))] t.heap ∧ va_K (dC, dI) vwCl [] t ∧ va_D (va_A [(hm, .inr (3, [.int th, .int 3, .ref wi, .ref co, .ref sl, .ref rn, .ref so, .ref bn, .ref sm, .ref ah])), (sm, .inr (2, [.int 0, .ref gr, .ref gt, .ref gw, .ref gk, .ref gi, .ref gp, .ref go, .ref gg, .ref hm])), (wi, .inl (d1, 6, .inl fw)), (co, .inl (d2, 6, .inl fc)), (sl, .inl (d3, 6, .inl fs)), (gr, .inl (d4, 6, .inl fg))] sz) [(hm, .inr (3, [.int 0, .int 4, .ref wi, .ref co, .ref sl, .ref rn, .ref so, .ref bn, .ref sm, .ref ah])), (sm, .inr (2, [.int 0, .ref gr, .ref gt, .ref gw, .ref gk, .ref gi, .ref gp, .ref go, .ref gg, .ref hm])), (wi, .inl (d1, 6, .inl (upd fw 3 10))), (co, .inl (d2, 6, .inl (upd fc 3 6))), (sl, .inl (d3, 6, .inl (upd fs 3 30))), (gr, .inl (d4, 6, .inl (upd fg 3 100)))]) (va_A [(hm, .inr (3, [.int th, .int 3, .ref wi, .ref co, .ref sl, .ref rn, .ref so, .ref bn, .ref sm, .ref ah])), (sm, .inr (2, [.int 0, .ref gr, .ref gt, .ref gw, .ref gk, .ref gi, .ref gp, .ref go, .ref gg, .ref hm])), (wi, .inl (d1, 6, .inl fw)), (co, .inl (d2, 6, .inl fc)), (sl, .inl (d3, 6, .inl fs)), (gr, .inl (d4, 6, .inl fg))] sz)) 0 0 (va_A [(hm, .inr (3, [.int th, .int 3, .ref wi, .ref co, .ref sl, .ref rn, .ref so, .ref bn, .ref sm, .ref ah])), (sm, .inr (2, [.int 0, .ref gr, .ref gt, .ref gw, .ref gk, .ref gi, .ref gp, .ref go, .ref gg, .ref hm])), (wi, .inl (d1, 6, .inl fw)), (co, .inl (d2, 6, .inl fc)), (sl, .inl (d3, 6, .inl fs)), (gr, .inl (d4, 6, .inl fg))] sz) := by
  refine Met.ofW (cc := cX3_build) (maxL := 4) (ret := (some .int)) (by decide) rfl ?_
  intro p e s m args below meth c s₁ B hml hv
  obtain ⟨rfl, hsz, hP, hK, hD0, hZN⟩ := hv
  have hx := B.exec
  have hb := B.bytes
  have hr := B.returns
  have hts := atoms_spec (ws := wsX3_build) B.pre
  have hown : s.vm.findClass RX3 = some m.cls := findClass_of_methodNamed B.named
  have hlocks := B.notSynchronized
  subst hsz
  have hD := hD0.self (sz := s.heap.size)
  generalize hAe : va_A [(hm, .inr (3, [.int th, .int 3, .ref wi, .ref co, .ref sl, .ref rn, .ref so, .ref bn, .ref sm, .ref ah])), (sm, .inr (2, [.int 0, .ref gr, .ref gt, .ref gw, .ref gk, .ref gi, .ref gp, .ref go, .ref gg, .ref hm])), (wi, .inl (d1, 6, .inl fw)), (co, .inl (d2, 6, .inl fc)), (sl, .inl (d3, 6, .inl fs)), (gr, .inl (d4, 6, .inl fg))] s.heap.size = A at hD ⊢
  have hA : ∀ q : Nat, s.heap.size ≤ q → A q := fun q h => by rw [← hAe]; exact Or.inr h
  have hS : va_S A s.heap s.heap [] := va_S.rf
  have hP : va_P (dC, dI) vwCl [(hm, .inr (3, [.int th, .int 3, .ref wi, .ref co, .ref sl, .ref rn, .ref so, .ref bn, .ref sm, .ref ah])), (sm, .inr (2, [.int 0, .ref gr, .ref gt, .ref gw, .ref gk, .ref gi, .ref gp, .ref go, .ref gg, .ref hm])), (wi, .inl (d1, 6, .inl fw)), (co, .inl (d2, 6, .inl fc)), (sl, .inl (d3, 6, .inl fs)), (gr, .inl (d4, 6, .inl fg))] s.heap := hP
  have hl := lv_entry ([.ref hm, .int 10, .int 6, .int 30]) (n := 4) (Nat.le_of_ble_eq_true rfl)
  rw [lg_entry_eq]
  generalize (lg_sl ([.ref hm, .int 10, .int 6, .int 30]) ++ List.replicate (4 - (lg_sl ([.ref hm, .int 10, .int 6, .int 30])).length) Slot.unset).toArray = ls at hl ⊢
  have hl : lv_has ls 4 [(0, .ref hm), (1, .int 10), (2, .int 6), (3, .int 30)] := hl
  refine lv_aload_n hx hb dX3_build_0 rfl (lv_at hl 0 rfl) ?_
  refine lv_iconst (v := 0) hx hb dX3_build_1 (by decide) ?_
  refine va_put (D := (dC, dI)) (ci := 3) (v := .int 0) (ty := .int) (C := RX3) (T := TX3) (N := 10) hx hb hts (by decide +kernel) tyX3 tyX3_ok nmX3 hown hK hP hD hS 0 rfl rfl 0 (by decide) (hts (.fieldLink RX3 40 "ThatchRoofModel" "thrown" "I") (by decide +kernel)) (fun _ h9 => h9) rfl (by decide +kernel) rfl rfl (Nat.le_of_ble_eq_true rfl) dX3_build_2 (fun H locs hP hD hS => ?_)
  have hP : va_P (dC, dI) vwCl [(hm, .inr (3, [.int 0, .int 3, .ref wi, .ref co, .ref sl, .ref rn, .ref so, .ref bn, .ref sm, .ref ah])), (sm, .inr (2, [.int 0, .ref gr, .ref gt, .ref gw, .ref gk, .ref gi, .ref gp, .ref go, .ref gg, .ref hm])), (wi, .inl (d1, 6, .inl fw)), (co, .inl (d2, 6, .inl fc)), (sl, .inl (d3, 6, .inl fs)), (gr, .inl (d4, 6, .inl fg))] H := hP
  have hD : va_D A [(hm, .inr (3, [.int 0, .int 3, .ref wi, .ref co, .ref sl, .ref rn, .ref so, .ref bn, .ref sm, .ref ah])), (sm, .inr (2, [.int 0, .ref gr, .ref gt, .ref gw, .ref gk, .ref gi, .ref gp, .ref go, .ref gg, .ref hm])), (wi, .inl (d1, 6, .inl fw)), (co, .inl (d2, 6, .inl fc)), (sl, .inl (d3, 6, .inl fs)), (gr, .inl (d4, 6, .inl fg))] := hD
  refine lv_iload_n hx hb dX3_build_5 rfl (lv_at hl 1 rfl) ?_
  refine lv_iconst (v := 2) hx hb dX3_build_6 (by decide) ?_
  refine lv_bipush (v := 10) hx hb dX3_build_7 (by decide) ?_
  refine vp_callSi (va_runS (As := [.int 10, .int 2, .int 10]) (rest := []) ⟨hx, hb, hml, hown, hts⟩ (r3_isIn10 l dC dI  ) (va_cwS 3 hts gX3_build_X3_isIn rfl rfl rfl (by decide +kernel) ⟨Nat.le_of_ble_eq_true rfl, Nat.le_of_ble_eq_true rfl⟩) ⟨fun a U g mk q => q, fun U hU hW => ⟨rfl, trivial⟩⟩ rfl rfl hl.1 rfl (lv_room (Nat.le_of_ble_eq_true rfl)) dX3_build_9 ⟨Nat.le_of_ble_eq_true rfl, Nat.le_of_ble_eq_true rfl⟩).run (fun r1 hr1 => ?_)
  obtain rfl := hr1
  refine lv_if_eq (tgt := 36) hx hb dX3_build_12 (by decide) (fun c2 => absurd c2 (by decide)) (fun c2 => ?_)
  refine lv_iload_n hx hb dX3_build_15 rfl (lv_at hl 2 rfl) ?_
  refine lv_iconst (v := 2) hx hb dX3_build_16 (by decide) ?_
  refine lv_bipush (v := 6) hx hb dX3_build_17 (by decide) ?_
  refine vp_callSi (va_runS (As := [.int 6, .int 2, .int 6]) (rest := []) ⟨hx, hb, hml, hown, hts⟩ (r3_isIn6 l dC dI  ) (va_cwS 3 hts gX3_build_X3_isIn rfl rfl rfl (by decide +kernel) ⟨Nat.le_of_ble_eq_true rfl, Nat.le_of_ble_eq_true rfl⟩) ⟨fun a U g mk q => q, fun U hU hW => ⟨rfl, trivial⟩⟩ rfl rfl hl.1 rfl (lv_room (Nat.le_of_ble_eq_true rfl)) dX3_build_19 ⟨Nat.le_of_ble_eq_true rfl, Nat.le_of_ble_eq_true rfl⟩).run (fun r3 hr3 => ?_)
  obtain rfl := hr3
  refine lv_if_eq (tgt := 36) hx hb dX3_build_22 (by decide) (fun c4 => absurd c4 (by decide)) (fun c4 => ?_)
  refine lv_iload_n hx hb dX3_build_25 rfl (lv_at hl 3 rfl) ?_
  refine lv_bipush (v := 30) hx hb dX3_build_26 (by decide) ?_
  refine lv_bipush (v := 60) hx hb dX3_build_28 (by decide) ?_
  refine vp_callSi (va_runS (As := [.int 30, .int 30, .int 60]) (rest := []) ⟨hx, hb, hml, hown, hts⟩ (r3_isIn30 l dC dI  ) (va_cwS 3 hts gX3_build_X3_isIn rfl rfl rfl (by decide +kernel) ⟨Nat.le_of_ble_eq_true rfl, Nat.le_of_ble_eq_true rfl⟩) ⟨fun a U g mk q => q, fun U hU hW => ⟨rfl, trivial⟩⟩ rfl rfl hl.1 rfl (lv_room (Nat.le_of_ble_eq_true rfl)) dX3_build_30 ⟨Nat.le_of_ble_eq_true rfl, Nat.le_of_ble_eq_true rfl⟩).run (fun r5 hr5 => ?_)
  obtain rfl := hr5
  refine lv_if_ne (tgt := 42) hx hb dX3_build_33 (by decide) (fun c6 => ?_) (fun c6 => absurd c6 (by decide))
  refine lv_aload_n hx hb dX3_build_42 rfl (lv_at hl 0 rfl) ?_
  refine va_get (D := (dC, dI)) (ci := 3) (v := .int 3) (C := RX3) (T := TX3) (N := 10) hx hb hts (by decide +kernel) hown hK hP 0 rfl rfl 1 (by decide) (hts (.fieldLink RX3 44 "ThatchRoofModel" "roofs" "I") (by decide +kernel)) (fun _ h9 => h9) rfl dX3_build_43 ?_
  refine lv_bipush (v := 6) hx hb dX3_build_46 (by decide) ?_
  refine lv_icmp_ne (tgt := 57) hx hb dX3_build_48 (by decide) (fun c7 => ?_) (fun c7 => absurd c7 (by decide))
  refine lv_aload_n hx hb dX3_build_57 rfl (lv_at hl 0 rfl) ?_
  refine va_get (D := (dC, dI)) (ci := 3) (v := .ref wi) (C := RX3) (T := TX3) (N := 10) hx hb hts (by decide +kernel) hown hK hP 0 rfl rfl 2 (by decide) (hts (.fieldLink RX3 9 "ThatchRoofModel" "width" "[I") (by decide +kernel)) (fun _ h9 => h9) rfl dX3_build_58 ?_
  refine lv_aload_n hx hb dX3_build_61 rfl (lv_at hl 0 rfl) ?_
  refine va_get (D := (dC, dI)) (ci := 3) (v := .int 3) (C := RX3) (T := TX3) (N := 10) hx hb hts (by decide +kernel) hown hK hP 0 rfl rfl 1 (by decide) (hts (.fieldLink RX3 44 "ThatchRoofModel" "roofs" "I") (by decide +kernel)) (fun _ h9 => h9) rfl dX3_build_62 ?_
  refine lv_iload_n hx hb dX3_build_65 rfl (lv_at hl 1 rfl) ?_
  refine va_iast hx hb hK hP hD hS 2 0 rfl rfl (vp_in_nI (n := 3) (by decide) (by decide)) dX3_build_66 (fun H locs hP hD hS => ?_)
  have hP : va_P (dC, dI) vwCl [(hm, .inr (3, [.int 0, .int 3, .ref wi, .ref co, .ref sl, .ref rn, .ref so, .ref bn, .ref sm, .ref ah])), (sm, .inr (2, [.int 0, .ref gr, .ref gt, .ref gw, .ref gk, .ref gi, .ref gp, .ref go, .ref gg, .ref hm])), (wi, .inl (d1, 6, .inl (upd fw 3 10))), (co, .inl (d2, 6, .inl fc)), (sl, .inl (d3, 6, .inl fs)), (gr, .inl (d4, 6, .inl fg))] H := hP
  have hD : va_D A [(hm, .inr (3, [.int 0, .int 3, .ref wi, .ref co, .ref sl, .ref rn, .ref so, .ref bn, .ref sm, .ref ah])), (sm, .inr (2, [.int 0, .ref gr, .ref gt, .ref gw, .ref gk, .ref gi, .ref gp, .ref go, .ref gg, .ref hm])), (wi, .inl (d1, 6, .inl (upd fw 3 10))), (co, .inl (d2, 6, .inl fc)), (sl, .inl (d3, 6, .inl fs)), (gr, .inl (d4, 6, .inl fg))] := hD
  refine lv_aload_n hx hb dX3_build_67 rfl (lv_at hl 0 rfl) ?_
  refine va_get (D := (dC, dI)) (ci := 3) (v := .ref co) (C := RX3) (T := TX3) (N := 10) hx hb hts (by decide +kernel) hown hK hP 0 rfl rfl 3 (by decide) (hts (.fieldLink RX3 13 "ThatchRoofModel" "courses" "[I") (by decide +kernel)) (fun _ h9 => h9) rfl dX3_build_68 ?_
  refine lv_aload_n hx hb dX3_build_71 rfl (lv_at hl 0 rfl) ?_
  refine va_get (D := (dC, dI)) (ci := 3) (v := .int 3) (C := RX3) (T := TX3) (N := 10) hx hb hts (by decide +kernel) hown hK hP 0 rfl rfl 1 (by decide) (hts (.fieldLink RX3 44 "ThatchRoofModel" "roofs" "I") (by decide +kernel)) (fun _ h9 => h9) rfl dX3_build_72 ?_
  refine lv_iload_n hx hb dX3_build_75 rfl (lv_at hl 2 rfl) ?_
  refine va_iast hx hb hK hP hD hS 3 1 rfl rfl (vp_in_nI (n := 3) (by decide) (by decide)) dX3_build_76 (fun H locs hP hD hS => ?_)
  have hP : va_P (dC, dI) vwCl [(hm, .inr (3, [.int 0, .int 3, .ref wi, .ref co, .ref sl, .ref rn, .ref so, .ref bn, .ref sm, .ref ah])), (sm, .inr (2, [.int 0, .ref gr, .ref gt, .ref gw, .ref gk, .ref gi, .ref gp, .ref go, .ref gg, .ref hm])), (wi, .inl (d1, 6, .inl (upd fw 3 10))), (co, .inl (d2, 6, .inl (upd fc 3 6))), (sl, .inl (d3, 6, .inl fs)), (gr, .inl (d4, 6, .inl fg))] H := hP
  have hD : va_D A [(hm, .inr (3, [.int 0, .int 3, .ref wi, .ref co, .ref sl, .ref rn, .ref so, .ref bn, .ref sm, .ref ah])), (sm, .inr (2, [.int 0, .ref gr, .ref gt, .ref gw, .ref gk, .ref gi, .ref gp, .ref go, .ref gg, .ref hm])), (wi, .inl (d1, 6, .inl (upd fw 3 10))), (co, .inl (d2, 6, .inl (upd fc 3 6))), (sl, .inl (d3, 6, .inl fs)), (gr, .inl (d4, 6, .inl fg))] := hD
  refine lv_aload_n hx hb dX3_build_77 rfl (lv_at hl 0 rfl) ?_
  refine va_get (D := (dC, dI)) (ci := 3) (v := .ref sl) (C := RX3) (T := TX3) (N := 10) hx hb hts (by decide +kernel) hown hK hP 0 rfl rfl 4 (by decide) (hts (.fieldLink RX3 16 "ThatchRoofModel" "slope" "[I") (by decide +kernel)) (fun _ h9 => h9) rfl dX3_build_78 ?_
  refine lv_aload_n hx hb dX3_build_81 rfl (lv_at hl 0 rfl) ?_
  refine va_get (D := (dC, dI)) (ci := 3) (v := .int 3) (C := RX3) (T := TX3) (N := 10) hx hb hts (by decide +kernel) hown hK hP 0 rfl rfl 1 (by decide) (hts (.fieldLink RX3 44 "ThatchRoofModel" "roofs" "I") (by decide +kernel)) (fun _ h9 => h9) rfl dX3_build_82 ?_
  refine lv_iload_n hx hb dX3_build_85 rfl (lv_at hl 3 rfl) ?_
  refine va_iast hx hb hK hP hD hS 4 2 rfl rfl (vp_in_nI (n := 3) (by decide) (by decide)) dX3_build_86 (fun H locs hP hD hS => ?_)
  have hP : va_P (dC, dI) vwCl [(hm, .inr (3, [.int 0, .int 3, .ref wi, .ref co, .ref sl, .ref rn, .ref so, .ref bn, .ref sm, .ref ah])), (sm, .inr (2, [.int 0, .ref gr, .ref gt, .ref gw, .ref gk, .ref gi, .ref gp, .ref go, .ref gg, .ref hm])), (wi, .inl (d1, 6, .inl (upd fw 3 10))), (co, .inl (d2, 6, .inl (upd fc 3 6))), (sl, .inl (d3, 6, .inl (upd fs 3 30))), (gr, .inl (d4, 6, .inl fg))] H := hP
  have hD : va_D A [(hm, .inr (3, [.int 0, .int 3, .ref wi, .ref co, .ref sl, .ref rn, .ref so, .ref bn, .ref sm, .ref ah])), (sm, .inr (2, [.int 0, .ref gr, .ref gt, .ref gw, .ref gk, .ref gi, .ref gp, .ref go, .ref gg, .ref hm])), (wi, .inl (d1, 6, .inl (upd fw 3 10))), (co, .inl (d2, 6, .inl (upd fc 3 6))), (sl, .inl (d3, 6, .inl (upd fs 3 30))), (gr, .inl (d4, 6, .inl fg))] := hD
  refine lv_aload_n hx hb dX3_build_87 rfl (lv_at hl 0 rfl) ?_
  refine va_get (D := (dC, dI)) (ci := 3) (v := .ref sm) (C := RX3) (T := TX3) (N := 10) hx hb hts (by decide +kernel) hown hK hP 0 rfl rfl 8 (by decide) (hts (.fieldLink RX3 33 "ThatchRoofModel" "s" "LThatchRoofModel$State;") (by decide +kernel)) (fun _ h9 => h9) rfl dX3_build_88 ?_
  refine va_getN (D := (dC, dI)) (ci := 2) (v := .ref gr) (C := RX2) (T := TX2) (N := 10) hx hb hts (by decide +kernel) hown hK hP 1 rfl rfl 1 (by decide) (va_Nw.use rfl (zN_RX3_63 hZN)) (fun _ h9 => h9) rfl dX3_build_91 ?_
  refine lv_aload_n hx hb dX3_build_94 rfl (lv_at hl 0 rfl) ?_
  refine va_get (D := (dC, dI)) (ci := 3) (v := .int 3) (C := RX3) (T := TX3) (N := 10) hx hb hts (by decide +kernel) hown hK hP 0 rfl rfl 1 (by decide) (hts (.fieldLink RX3 44 "ThatchRoofModel" "roofs" "I") (by decide +kernel)) (fun _ h9 => h9) rfl dX3_build_95 ?_
  refine lv_bipush (v := 100) hx hb dX3_build_98 (by decide) ?_
  refine va_iast hx hb hK hP hD hS 5 3 rfl rfl (vp_in_nI (n := 3) (by decide) (by decide)) dX3_build_100 (fun H locs hP hD hS => ?_)
  have hP : va_P (dC, dI) vwCl [(hm, .inr (3, [.int 0, .int 3, .ref wi, .ref co, .ref sl, .ref rn, .ref so, .ref bn, .ref sm, .ref ah])), (sm, .inr (2, [.int 0, .ref gr, .ref gt, .ref gw, .ref gk, .ref gi, .ref gp, .ref go, .ref gg, .ref hm])), (wi, .inl (d1, 6, .inl (upd fw 3 10))), (co, .inl (d2, 6, .inl (upd fc 3 6))), (sl, .inl (d3, 6, .inl (upd fs 3 30))), (gr, .inl (d4, 6, .inl (upd fg 3 100)))] H := hP
  have hD : va_D A [(hm, .inr (3, [.int 0, .int 3, .ref wi, .ref co, .ref sl, .ref rn, .ref so, .ref bn, .ref sm, .ref ah])), (sm, .inr (2, [.int 0, .ref gr, .ref gt, .ref gw, .ref gk, .ref gi, .ref gp, .ref go, .ref gg, .ref hm])), (wi, .inl (d1, 6, .inl (upd fw 3 10))), (co, .inl (d2, 6, .inl (upd fc 3 6))), (sl, .inl (d3, 6, .inl (upd fs 3 30))), (gr, .inl (d4, 6, .inl (upd fg 3 100)))] := hD
  refine lv_aload_n hx hb dX3_build_101 rfl (lv_at hl 0 rfl) ?_
  refine lv_dup hx hb dX3_build_102 rfl ?_
  refine va_get (D := (dC, dI)) (ci := 3) (v := .int 3) (C := RX3) (T := TX3) (N := 10) hx hb hts (by decide +kernel) hown hK hP 0 rfl rfl 1 (by decide) (hts (.fieldLink RX3 44 "ThatchRoofModel" "roofs" "I") (by decide +kernel)) (fun _ h9 => h9) rfl dX3_build_103 ?_
  refine lv_iconst (v := 1) hx hb dX3_build_106 (by decide) ?_
  refine lv_iadd hx hb dX3_build_107 ?_
  refine W.eq (g2 := F0 m 108 ls [.int 4, .ref hm]) rfl ?_
  refine va_put (D := (dC, dI)) (ci := 3) (v := .int 4) (ty := .int) (C := RX3) (T := TX3) (N := 10) hx hb hts (by decide +kernel) tyX3 tyX3_ok nmX3 hown hK hP hD hS 0 rfl rfl 1 (by decide) (hts (.fieldLink RX3 44 "ThatchRoofModel" "roofs" "I") (by decide +kernel)) (fun _ h9 => h9) rfl (by decide +kernel) rfl rfl (Nat.le_of_ble_eq_true rfl) dX3_build_108 (fun H locs hP hD hS => ?_)
  have hP : va_P (dC, dI) vwCl [(hm, .inr (3, [.int 0, .int 4, .ref wi, .ref co, .ref sl, .ref rn, .ref so, .ref bn, .ref sm, .ref ah])), (sm, .inr (2, [.int 0, .ref gr, .ref gt, .ref gw, .ref gk, .ref gi, .ref gp, .ref go, .ref gg, .ref hm])), (wi, .inl (d1, 6, .inl (upd fw 3 10))), (co, .inl (d2, 6, .inl (upd fc 3 6))), (sl, .inl (d3, 6, .inl (upd fs 3 30))), (gr, .inl (d4, 6, .inl (upd fg 3 100)))] H := hP
  have hD : va_D A [(hm, .inr (3, [.int 0, .int 4, .ref wi, .ref co, .ref sl, .ref rn, .ref so, .ref bn, .ref sm, .ref ah])), (sm, .inr (2, [.int 0, .ref gr, .ref gt, .ref gw, .ref gk, .ref gi, .ref gp, .ref go, .ref gg, .ref hm])), (wi, .inl (d1, 6, .inl (upd fw 3 10))), (co, .inl (d2, 6, .inl (upd fc 3 6))), (sl, .inl (d3, 6, .inl (upd fs 3 30))), (gr, .inl (d4, 6, .inl (upd fg 3 100)))] := hD
  refine lv_aload_n hx hb dX3_build_111 rfl (lv_at hl 0 rfl) ?_
  refine va_get (D := (dC, dI)) (ci := 3) (v := .int 4) (C := RX3) (T := TX3) (N := 10) hx hb hts (by decide +kernel) hown hK hP 0 rfl rfl 1 (by decide) (hts (.fieldLink RX3 44 "ThatchRoofModel" "roofs" "I") (by decide +kernel)) (fun _ h9 => h9) rfl dX3_build_112 ?_
  refine lv_iconst (v := 1) hx hb dX3_build_115 (by decide) ?_
  refine lv_isub hx hb dX3_build_116 ?_
  refine W.eq (g2 := F0 m 117 ls [.int 3]) rfl ?_
  have hP9 := hP.sub (ws' := [(hm, .inr (3, [.int 0, .int 4, .ref wi, .ref co, .ref sl, .ref rn, .ref so, .ref bn, .ref sm, .ref ah])), (sm, .inr (2, [.int 0, .ref gr, .ref gt, .ref gw, .ref gk, .ref gi, .ref gp, .ref go, .ref gg, .ref hm])), (wi, .inl (d1, 6, .inl (upd fw 3 10))), (co, .inl (d2, 6, .inl (upd fc 3 6))), (sl, .inl (d3, 6, .inl (upd fs 3 30))), (gr, .inl (d4, 6, .inl (upd fg 3 100)))]) [0, 1, 2, 3, 4, 5] rfl
  have hD9 := hD.sub (ws' := [(hm, .inr (3, [.int 0, .int 4, .ref wi, .ref co, .ref sl, .ref rn, .ref so, .ref bn, .ref sm, .ref ah])), (sm, .inr (2, [.int 0, .ref gr, .ref gt, .ref gw, .ref gk, .ref gi, .ref gp, .ref go, .ref gg, .ref hm])), (wi, .inl (d1, 6, .inl (upd fw 3 10))), (co, .inl (d2, 6, .inl (upd fc 3 6))), (sl, .inl (d3, 6, .inl (upd fs 3 30))), (gr, .inl (d4, 6, .inl (upd fg 3 100)))]) [0, 1, 2, 3, 4, 5] (by decide) rfl
  have hK9 := hK.sub (tys' := []) [] rfl
  refine W.widen (k := 0) (n := 0) (Nat.le_of_ble_eq_true rfl) (Nat.le_of_ble_eq_true rfl) ?_
  exact W.iret (v := 3) hx hb hr (fun t ht hW => ⟨⟨3, (), rfl, by (first | rfl | assumption | decide | (simp_all; done) | grind), ⟨by rw [ht]; exact hP9, va_K.moved hW.alike hK9, hD9⟩⟩, hS.F ht⟩) hS.2.2 dX3_build_117

set_option maxHeartbeats 4000000 in
set_option maxRecDepth 100000 in
theorem r1_build4 (l : Launch) (dC : Nat → ClassId) (dI : Nat → Nat → Nat) (sz : Nat) (h : Nat) (ro : Nat) (ba : Nat) (ra : Nat) (su : Nat) (tr : Nat) (cR : ClassId) (fr : Nat → Option Nat) : Met l yX1_build wsX1_build ({ frames := 2, cells := 5, slots := 250, locals := 35 }) (va_Pc [.ref h, .int 10, .int 6, .int 30] (fun U => U.heap.size = sz ∧ va_P (dC, dI) vwCl [(h, .inr (1, [.ref ro, .int 4, .ref ba, .ref ra, .ref su, .int 0, .ref tr])), (ro, .inl (cR, 6, .inr (.inr (.inr (.inr fr)))))] U.heap ∧ va_K (dC, dI) vwCl [(cR, .object RX0)] U ∧ va_D (fun _ => True) [(h, .inr (1, [.ref ro, .int 4, .ref ba, .ref ra, .ref su, .int 0, .ref tr])), (ro, .inl (cR, 6, .inr (.inr (.inr (.inr fr)))))])) (va_Qi (fun (r : Int32) (u : Nat × Nat × Nat × Nat × Nat × ClassId) => r = 4) (fun (u : Nat × Nat × Nat × Nat × Nat × ClassId) (t : State) => va_P (dC, dI) vwCl [(h, .inr (1, [.ref ro, .int 5, .ref ba, .ref ra, .ref su, .int 0, .ref tr])), (ro, .inl (cR, 6, .inr (.inr (.inr (.inr (va_up fr 4 (some u.1))))))), (u.1, .inr (0, [.int 10, .int 6, .int 30, .int 100, .int 0, .int 0, .ref u.2.1, .ref u.2.2.1, .ref u.2.2.2.1, .ref u.2.2.2.2.1])), (u.2.2.1, .inl (u.2.2.2.2.2, 60, .inl (fun _ => 0)))] t.heap ∧ va_K (dC, dI) vwCl [(u.2.2.2.2.2, .int)] t ∧ va_D (va_A [(h, .inr (1, [.ref ro, .int 4, .ref ba, .ref ra, .ref su, .int 0, .ref tr])), (ro, .inl (cR, 6, .inr (.inr (.inr (.inr fr)))))] sz) [(h, .inr (1, [.ref ro, .int 5, .ref ba, .ref ra, .ref su, .int 0, .ref tr])), (ro, .inl (cR, 6, .inr (.inr (.inr (.inr (va_up fr 4 (some u.1))))))), (u.1, .inr (0, [.int 10, .int 6, .int 30, .int 100, .int 0, .int 0, .ref u.2.1, .ref u.2.2.1, .ref u.2.2.2.1, .ref u.2.2.2.2.1])), (u.2.2.1, .inl (u.2.2.2.2.2, 60, .inl (fun _ => 0)))]) (va_A [(h, .inr (1, [.ref ro, .int 4, .ref ba, .ref ra, .ref su, .int 0, .ref tr])), (ro, .inl (cR, 6, .inr (.inr (.inr (.inr fr)))))] sz)) 5 250 (va_A [(h, .inr (1, [.ref ro, .int 4, .ref ba, .ref ra, .ref su, .int 0, .ref tr])), (ro, .inl (cR, 6, .inr (.inr (.inr (.inr fr)))))] sz) := by
  refine Met.ofW (cc := cX1_build) (maxL := 5) (ret := (some .int)) (by decide) rfl ?_
  intro p e s m args below meth c s₁ B hml hv
  obtain ⟨rfl, hsz, hP, hK, hD0⟩ := hv
  have hx := B.exec
  have hb := B.bytes
  have hr := B.returns
  have hts := atoms_spec (ws := wsX1_build) B.pre
  have hown : s.vm.findClass RX1 = some m.cls := findClass_of_methodNamed B.named
  have hlocks := B.notSynchronized
  subst hsz
  have hD := hD0.self (sz := s.heap.size)
  generalize hAe : va_A [(h, .inr (1, [.ref ro, .int 4, .ref ba, .ref ra, .ref su, .int 0, .ref tr])), (ro, .inl (cR, 6, .inr (.inr (.inr (.inr fr)))))] s.heap.size = A at hD ⊢
  have hA : ∀ q : Nat, s.heap.size ≤ q → A q := fun q h => by rw [← hAe]; exact Or.inr h
  have hS : va_S A s.heap s.heap [] := va_S.rf
  have hP : va_P (dC, dI) vwCl [(h, .inr (1, [.ref ro, .int 4, .ref ba, .ref ra, .ref su, .int 0, .ref tr])), (ro, .inl (cR, 6, .inr (.inr (.inr (.inr fr)))))] s.heap := hP
  have hl := lv_entry ([.ref h, .int 10, .int 6, .int 30]) (n := 5) (Nat.le_of_ble_eq_true rfl)
  rw [lg_entry_eq]
  generalize (lg_sl ([.ref h, .int 10, .int 6, .int 30]) ++ List.replicate (5 - (lg_sl ([.ref h, .int 10, .int 6, .int 30])).length) Slot.unset).toArray = ls at hl ⊢
  have hl : lv_has ls 5 [(0, .ref h), (1, .int 10), (2, .int 6), (3, .int 30)] := hl
  refine lv_iload_n hx hb dX1_build_0 rfl (lv_at hl 1 rfl) ?_
  refine lv_iconst (v := 2) hx hb dX1_build_1 (by decide) ?_
  refine lv_bipush (v := 10) hx hb dX1_build_2 (by decide) ?_
  refine vp_callSi (va_runS (As := [.int 10, .int 2, .int 10]) (rest := []) ⟨hx, hb, hml, hown, hts⟩ (r1_isWithin10 l dC dI  ) (va_cwS 3 hts gX1_build_X1_isWithin rfl rfl rfl (by decide +kernel) ⟨Nat.le_of_ble_eq_true rfl, Nat.le_of_ble_eq_true rfl⟩) ⟨fun a U g mk q => q, fun U hU hW => ⟨rfl, trivial⟩⟩ rfl rfl hl.1 rfl (lv_room (Nat.le_of_ble_eq_true rfl)) dX1_build_4 ⟨Nat.le_of_ble_eq_true rfl, Nat.le_of_ble_eq_true rfl⟩).run (fun r1 hr1 => ?_)
  obtain rfl := hr1
  refine lv_if_eq (tgt := 31) hx hb dX1_build_7 (by decide) (fun c2 => absurd c2 (by decide)) (fun c2 => ?_)
  refine lv_iload_n hx hb dX1_build_10 rfl (lv_at hl 2 rfl) ?_
  refine lv_iconst (v := 2) hx hb dX1_build_11 (by decide) ?_
  refine lv_bipush (v := 6) hx hb dX1_build_12 (by decide) ?_
  refine vp_callSi (va_runS (As := [.int 6, .int 2, .int 6]) (rest := []) ⟨hx, hb, hml, hown, hts⟩ (r1_isWithin6 l dC dI  ) (va_cwS 3 hts gX1_build_X1_isWithin rfl rfl rfl (by decide +kernel) ⟨Nat.le_of_ble_eq_true rfl, Nat.le_of_ble_eq_true rfl⟩) ⟨fun a U g mk q => q, fun U hU hW => ⟨rfl, trivial⟩⟩ rfl rfl hl.1 rfl (lv_room (Nat.le_of_ble_eq_true rfl)) dX1_build_14 ⟨Nat.le_of_ble_eq_true rfl, Nat.le_of_ble_eq_true rfl⟩).run (fun r3 hr3 => ?_)
  obtain rfl := hr3
  refine lv_if_eq (tgt := 31) hx hb dX1_build_17 (by decide) (fun c4 => absurd c4 (by decide)) (fun c4 => ?_)
  refine lv_iload_n hx hb dX1_build_20 rfl (lv_at hl 3 rfl) ?_
  refine lv_bipush (v := 30) hx hb dX1_build_21 (by decide) ?_
  refine lv_bipush (v := 60) hx hb dX1_build_23 (by decide) ?_
  refine vp_callSi (va_runS (As := [.int 30, .int 30, .int 60]) (rest := []) ⟨hx, hb, hml, hown, hts⟩ (r1_isWithin30 l dC dI  ) (va_cwS 3 hts gX1_build_X1_isWithin rfl rfl rfl (by decide +kernel) ⟨Nat.le_of_ble_eq_true rfl, Nat.le_of_ble_eq_true rfl⟩) ⟨fun a U g mk q => q, fun U hU hW => ⟨rfl, trivial⟩⟩ rfl rfl hl.1 rfl (lv_room (Nat.le_of_ble_eq_true rfl)) dX1_build_25 ⟨Nat.le_of_ble_eq_true rfl, Nat.le_of_ble_eq_true rfl⟩).run (fun r5 hr5 => ?_)
  obtain rfl := hr5
  refine lv_if_ne (tgt := 41) hx hb dX1_build_28 (by decide) (fun c6 => ?_) (fun c6 => absurd c6 (by decide))
  refine lv_aload_n hx hb dX1_build_41 rfl (lv_at hl 0 rfl) ?_
  refine va_get (D := (dC, dI)) (ci := 1) (v := .int 4) (C := RX1) (T := TX1) (N := 7) hx hb hts (by decide +kernel) hown hK hP 0 rfl rfl 1 (by decide) (hts (.fieldLink RX1 43 "ThatchRoof" "built" "I") (by decide +kernel)) (fun _ h9 => h9) rfl dX1_build_42 ?_
  refine lv_bipush (v := 6) hx hb dX1_build_45 (by decide) ?_
  refine lv_icmp_lt (tgt := 60) hx hb dX1_build_47 (by decide) (fun c7 => ?_) (fun c7 => absurd c7 (by decide))
  refine lv_aload_n hx hb dX1_build_60 rfl (lv_at hl 0 rfl) ?_
  refine va_get (D := (dC, dI)) (ci := 1) (v := .int 4) (C := RX1) (T := TX1) (N := 7) hx hb hts (by decide +kernel) hown hK hP 0 rfl rfl 1 (by decide) (hts (.fieldLink RX1 43 "ThatchRoof" "built" "I") (by decide +kernel)) (fun _ h9 => h9) rfl dX1_build_61 ?_
  refine lv_istore (lv' := [(4, .int 4), (0, .ref h), (1, .int 10), (2, .int 6), (3, .int 30)]) hx hb dX1_build_64 hl (by decide) rfl (fun ls hl => ?_)
  refine lv_aload_n hx hb dX1_build_66 rfl (lv_at hl 1 rfl) ?_
  refine va_get (D := (dC, dI)) (ci := 1) (v := .ref ro) (C := RX1) (T := TX1) (N := 7) hx hb hts (by decide +kernel) hown hK hP 0 rfl rfl 0 (by decide) (hts (.fieldLink RX1 11 "ThatchRoof" "roofs" "[LThatchRoof$Roof;") (by decide +kernel)) (fun _ h9 => h9) rfl dX1_build_67 ?_
  refine lv_iload hx hb dX1_build_70 (lv_at hl 0 rfl) ?_
  refine va_new (ci := 0) (fs := [.int 0, .int 0, .int 0, .int 0, .int 0, .int 0, .null, .null, .null, .null]) (C := RX0) (T := TX0) (N := 10) hx hb hts (by decide +kernel) tyX0 tyX0_ok hown (hts (.classLink RX1 9 RX0) (by decide +kernel)) (hts (.instantiable RX0 10) (by decide +kernel)) (hts (.initialized RX0) (by decide +kernel)) hK hP hD hS hA rfl (fun j hj => by rcases (show j = 0 ∨ j = 1 ∨ j = 2 ∨ j = 3 ∨ j = 4 ∨ j = 5 ∨ j = 6 ∨ j = 7 ∨ j = 8 ∨ j = 9 by omega) with rfl | rfl | rfl | rfl | rfl | rfl | rfl | rfl | rfl | rfl <;> rfl) (Nat.le_of_ble_eq_true rfl) (Nat.le_of_ble_eq_true rfl) dX1_build_72 (fun q8 H hP hD hS => ?_)
  refine W.widen (k := 1) (n := 10) (Nat.le_of_ble_eq_true rfl) (Nat.le_of_ble_eq_true rfl) ?_
  have hP : va_P (dC, dI) vwCl [(h, .inr (1, [.ref ro, .int 4, .ref ba, .ref ra, .ref su, .int 0, .ref tr])), (ro, .inl (cR, 6, .inr (.inr (.inr (.inr fr))))), (q8, .inr (0, [.int 0, .int 0, .int 0, .int 0, .int 0, .int 0, .null, .null, .null, .null]))] H := hP
  have hD : va_D A [(h, .inr (1, [.ref ro, .int 4, .ref ba, .ref ra, .ref su, .int 0, .ref tr])), (ro, .inl (cR, 6, .inr (.inr (.inr (.inr fr))))), (q8, .inr (0, [.int 0, .int 0, .int 0, .int 0, .int 0, .int 0, .null, .null, .null, .null]))] := hD
  refine lv_dup hx hb dX1_build_75 rfl ?_
  refine lv_iload_n hx hb dX1_build_76 rfl (lv_at hl 2 rfl) ?_
  refine lv_iload_n hx hb dX1_build_77 rfl (lv_at hl 3 rfl) ?_
  refine lv_iload_n hx hb dX1_build_78 rfl (lv_at hl 4 rfl) ?_
  have hPc := hP.sub (ws' := [(q8, .inr (0, [.int 0, .int 0, .int 0, .int 0, .int 0, .int 0, .null, .null, .null, .null]))]) [2] rfl
  have hKc := hK.sub (tys' := []) [] rfl
  have hDc := hD.sub (ws' := [(q8, .inr (0, [.int 0, .int 0, .int 0, .int 0, .int 0, .int 0, .null, .null, .null, .null]))]) [2] (by decide) rfl
  have hFc := va_free (wc := [(q8, .inr (0, [.int 0, .int 0, .int 0, .int 0, .int 0, .int 0, .null, .null, .null, .null]))]) hD hS hA [2] rfl
  refine va_callv (va_runI (As := [.int 10, .int 6, .int 30]) (rest := [.ref q8, .int 4, .ref ro]) ⟨hx, hb, hml, hown, hts⟩ (k0_init l dC dI H.size q8 10 6 30 ) (cwI 3 hts gX1_build_X0_init rfl rfl rfl (hts (.initialized RX0) (by decide +kernel)) (hts (.methodLink RX1 25 yX0_init) (by decide +kernel)) (hts (.instanceMethod yX0_init) (by decide +kernel)) rfl (by decide +kernel) ⟨Nat.le_of_ble_eq_true rfl, Nat.le_of_ble_eq_true rfl⟩) ⟨fun a U g mk q => by obtain ⟨q0, q1, qP, qK, qD⟩ := q; exact ⟨q0, q1, qP, va_K.moved (u := U) (U := U.calling g mk a) (Vm.Alike.refl U.vm) qK, qD⟩, fun U hU hW => ⟨rfl, by rw [hU], by rw [hU]; exact hPc, va_K.moved hW.alike hKc, hDc.weaken (fun _ _ _ _ => trivial)⟩⟩ rfl rfl hl.1 rfl (lv_room (Nat.le_of_ble_eq_true rfl)) dX1_build_79 ⟨Nat.le_of_ble_eq_true rfl, Nat.le_of_ble_eq_true rfl⟩) hS (fun q _ h => hFc q h) hFc (fun u t H1 locs ht hvm hr9 hB hz1 hk1 hS => ?_)
  obtain ⟨k__10, t__11, p__12, m__13, c1__14, c2__15, c3__16, c4__17⟩ := u
  obtain ⟨hP1, hK1, hD1⟩ := hB
  rw [ht] at hP1
  have hK1 := va_K.moved hvm.symm hK1
  try dsimp only at hr9
  obtain ⟨hP, hD⟩ := va_join (wr := [(h, .inr (1, [.ref ro, .int 4, .ref ba, .ref ra, .ref su, .int 0, .ref tr])), (ro, .inl (cR, 6, .inr (.inr (.inr (.inr fr)))))]) (w1 := [(q8, .inr (0, [.int 10, .int 6, .int 30, .int 100, .int 0, .int 0, .ref k__10, .ref t__11, .ref p__12, .ref m__13])), (k__10, .inl (c1__14, 60, .inl (fun _ => 0))), (t__11, .inl (c2__15, 60, .inl (fun _ => 0))), (p__12, .inl (c3__16, 60, .inl (fun _ => 0))), (m__13, .inl (c4__17, 60, .inl (fun _ => 0)))]) hP hD [2] [0, 1] rfl rfl (by decide) (by decide) hk1 hFc hP1 hD1
  have hK := hK.app hK1
  have hK : va_K (dC, dI) vwCl [(cR, .object RX0), (c1__14, .int), (c2__15, .int), (c3__16, .int), (c4__17, .int)] s := hK
  generalize H1 = H at hP hS ⊢
  have hP : va_P (dC, dI) vwCl [(h, .inr (1, [.ref ro, .int 4, .ref ba, .ref ra, .ref su, .int 0, .ref tr])), (ro, .inl (cR, 6, .inr (.inr (.inr (.inr fr))))), (q8, .inr (0, [.int 10, .int 6, .int 30, .int 100, .int 0, .int 0, .ref k__10, .ref t__11, .ref p__12, .ref m__13])), (k__10, .inl (c1__14, 60, .inl (fun _ => 0))), (t__11, .inl (c2__15, 60, .inl (fun _ => 0))), (p__12, .inl (c3__16, 60, .inl (fun _ => 0))), (m__13, .inl (c4__17, 60, .inl (fun _ => 0)))] H := hP
  have hD : va_D A [(h, .inr (1, [.ref ro, .int 4, .ref ba, .ref ra, .ref su, .int 0, .ref tr])), (ro, .inl (cR, 6, .inr (.inr (.inr (.inr fr))))), (q8, .inr (0, [.int 10, .int 6, .int 30, .int 100, .int 0, .int 0, .ref k__10, .ref t__11, .ref p__12, .ref m__13])), (k__10, .inl (c1__14, 60, .inl (fun _ => 0))), (t__11, .inl (c2__15, 60, .inl (fun _ => 0))), (p__12, .inl (c3__16, 60, .inl (fun _ => 0))), (m__13, .inl (c4__17, 60, .inl (fun _ => 0)))] := hD
  refine W.widen (k := 5) (n := 250) (Nat.le_of_ble_eq_true rfl) (Nat.le_of_ble_eq_true rfl) ?_
  obtain - := hr9
  refine va_astq hx hb hK hP hD hS 1 0 2 0 rfl rfl rfl rfl (vp_in_nI (n := 4) (by decide) (by decide)) dX1_build_82 (fun H locs hP hD hS => ?_)
  have hP : va_P (dC, dI) vwCl [(h, .inr (1, [.ref ro, .int 4, .ref ba, .ref ra, .ref su, .int 0, .ref tr])), (ro, .inl (cR, 6, .inr (.inr (.inr (.inr (va_up fr 4 (some q8))))))), (q8, .inr (0, [.int 10, .int 6, .int 30, .int 100, .int 0, .int 0, .ref k__10, .ref t__11, .ref p__12, .ref m__13])), (k__10, .inl (c1__14, 60, .inl (fun _ => 0))), (t__11, .inl (c2__15, 60, .inl (fun _ => 0))), (p__12, .inl (c3__16, 60, .inl (fun _ => 0))), (m__13, .inl (c4__17, 60, .inl (fun _ => 0)))] H := hP
  have hD : va_D A [(h, .inr (1, [.ref ro, .int 4, .ref ba, .ref ra, .ref su, .int 0, .ref tr])), (ro, .inl (cR, 6, .inr (.inr (.inr (.inr (va_up fr 4 (some q8))))))), (q8, .inr (0, [.int 10, .int 6, .int 30, .int 100, .int 0, .int 0, .ref k__10, .ref t__11, .ref p__12, .ref m__13])), (k__10, .inl (c1__14, 60, .inl (fun _ => 0))), (t__11, .inl (c2__15, 60, .inl (fun _ => 0))), (p__12, .inl (c3__16, 60, .inl (fun _ => 0))), (m__13, .inl (c4__17, 60, .inl (fun _ => 0)))] := hD
  refine lv_aload_n hx hb dX1_build_83 rfl (lv_at hl 1 rfl) ?_
  refine lv_dup hx hb dX1_build_84 rfl ?_
  refine va_get (D := (dC, dI)) (ci := 1) (v := .int 4) (C := RX1) (T := TX1) (N := 7) hx hb hts (by decide +kernel) hown hK hP 0 rfl rfl 1 (by decide) (hts (.fieldLink RX1 43 "ThatchRoof" "built" "I") (by decide +kernel)) (fun _ h9 => h9) rfl dX1_build_85 ?_
  refine lv_iconst (v := 1) hx hb dX1_build_88 (by decide) ?_
  refine lv_iadd hx hb dX1_build_89 ?_
  refine W.eq (g2 := F0 m 90 ls [.int 5, .ref h]) rfl ?_
  refine va_put (D := (dC, dI)) (ci := 1) (v := .int 5) (ty := .int) (C := RX1) (T := TX1) (N := 7) hx hb hts (by decide +kernel) tyX1 tyX1_ok nmX1 hown hK hP hD hS 0 rfl rfl 1 (by decide) (hts (.fieldLink RX1 43 "ThatchRoof" "built" "I") (by decide +kernel)) (fun _ h9 => h9) rfl (by decide +kernel) rfl rfl (Nat.le_of_ble_eq_true rfl) dX1_build_90 (fun H locs hP hD hS => ?_)
  have hP : va_P (dC, dI) vwCl [(h, .inr (1, [.ref ro, .int 5, .ref ba, .ref ra, .ref su, .int 0, .ref tr])), (ro, .inl (cR, 6, .inr (.inr (.inr (.inr (va_up fr 4 (some q8))))))), (q8, .inr (0, [.int 10, .int 6, .int 30, .int 100, .int 0, .int 0, .ref k__10, .ref t__11, .ref p__12, .ref m__13])), (k__10, .inl (c1__14, 60, .inl (fun _ => 0))), (t__11, .inl (c2__15, 60, .inl (fun _ => 0))), (p__12, .inl (c3__16, 60, .inl (fun _ => 0))), (m__13, .inl (c4__17, 60, .inl (fun _ => 0)))] H := hP
  have hD : va_D A [(h, .inr (1, [.ref ro, .int 5, .ref ba, .ref ra, .ref su, .int 0, .ref tr])), (ro, .inl (cR, 6, .inr (.inr (.inr (.inr (va_up fr 4 (some q8))))))), (q8, .inr (0, [.int 10, .int 6, .int 30, .int 100, .int 0, .int 0, .ref k__10, .ref t__11, .ref p__12, .ref m__13])), (k__10, .inl (c1__14, 60, .inl (fun _ => 0))), (t__11, .inl (c2__15, 60, .inl (fun _ => 0))), (p__12, .inl (c3__16, 60, .inl (fun _ => 0))), (m__13, .inl (c4__17, 60, .inl (fun _ => 0)))] := hD
  refine lv_iload hx hb dX1_build_93 (lv_at hl 0 rfl) ?_
  have hP9 := hP.sub (ws' := [(h, .inr (1, [.ref ro, .int 5, .ref ba, .ref ra, .ref su, .int 0, .ref tr])), (ro, .inl (cR, 6, .inr (.inr (.inr (.inr (va_up fr 4 (some q8))))))), (q8, .inr (0, [.int 10, .int 6, .int 30, .int 100, .int 0, .int 0, .ref k__10, .ref t__11, .ref p__12, .ref m__13])), (t__11, .inl (c2__15, 60, .inl (fun _ => 0)))]) [0, 1, 2, 4] rfl
  have hD9 := hD.sub (ws' := [(h, .inr (1, [.ref ro, .int 5, .ref ba, .ref ra, .ref su, .int 0, .ref tr])), (ro, .inl (cR, 6, .inr (.inr (.inr (.inr (va_up fr 4 (some q8))))))), (q8, .inr (0, [.int 10, .int 6, .int 30, .int 100, .int 0, .int 0, .ref k__10, .ref t__11, .ref p__12, .ref m__13])), (t__11, .inl (c2__15, 60, .inl (fun _ => 0)))]) [0, 1, 2, 4] (by decide) rfl
  have hK9 := hK.sub (tys' := [(c2__15, .int)]) [2] rfl
  refine W.widen (k := 5) (n := 250) (Nat.le_of_ble_eq_true rfl) (Nat.le_of_ble_eq_true rfl) ?_
  exact W.iret (v := 4) hx hb hr (fun t ht hW => ⟨⟨4, (q8, k__10, t__11, p__12, m__13, c2__15), rfl, by (first | rfl | assumption | decide | (simp_all; done) | grind), ⟨by rw [ht]; exact hP9, va_K.moved hW.alike hK9, hD9⟩⟩, hS.F ht⟩) hS.2.2 dX1_build_95

set_option maxHeartbeats 4000000 in
set_option maxRecDepth 100000 in
theorem rL_build4 (l : Launch) (dC : Nat → ClassId) (dI : Nat → Nat → Nat) (sz : Nat) (h : Nat) (ro : Nat) (ba : Nat) (ra : Nat) (su : Nat) (tr : Nat) (cR : ClassId) (fr : Nat → Option Nat) (ou : Nat) (cO : ClassId) (fp : Nat → Int64) : Met l yL_build wsL_build ({ frames := 3, cells := 5, slots := 250, locals := 59 }) (va_Pc [.ref h, .int 10, .int 6, .int 30, .ref ou] (fun U => U.heap.size = sz ∧ va_P (dC, dI) vwCl [(h, .inr (1, [.ref ro, .int 4, .ref ba, .ref ra, .ref su, .int 0, .ref tr])), (ro, .inl (cR, 6, .inr (.inr (.inr (.inr fr))))), (ou, .inl (cO, 1, .inr (.inl fp)))] U.heap ∧ va_K (dC, dI) vwCl [(cR, .object RX0), (cO, .long)] U ∧ va_D (fun _ => True) [(h, .inr (1, [.ref ro, .int 4, .ref ba, .ref ra, .ref su, .int 0, .ref tr])), (ro, .inl (cR, 6, .inr (.inr (.inr (.inr fr))))), (ou, .inl (cO, 1, .inr (.inl fp)))])) (va_Qi (fun (r : Int32) (u : Nat × Nat × Nat × Nat × Nat × ClassId) => r = 0) (fun (u : Nat × Nat × Nat × Nat × Nat × ClassId) (t : State) => va_P (dC, dI) vwCl [(h, .inr (1, [.ref ro, .int 5, .ref ba, .ref ra, .ref su, .int 0, .ref tr])), (ro, .inl (cR, 6, .inr (.inr (.inr (.inr (va_up fr 4 (some u.1))))))), (u.1, .inr (0, [.int 10, .int 6, .int 30, .int 100, .int 0, .int 0, .ref u.2.1, .ref u.2.2.1, .ref u.2.2.2.1, .ref u.2.2.2.2.1])), (u.2.2.1, .inl (u.2.2.2.2.2, 60, .inl (fun _ => 0))), (ou, .inl (cO, 1, .inr (.inl (vp_updL fp 0 4))))] t.heap ∧ va_K (dC, dI) vwCl [(u.2.2.2.2.2, .int)] t ∧ va_D (va_A [(h, .inr (1, [.ref ro, .int 4, .ref ba, .ref ra, .ref su, .int 0, .ref tr])), (ro, .inl (cR, 6, .inr (.inr (.inr (.inr fr))))), (ou, .inl (cO, 1, .inr (.inl fp)))] sz) [(h, .inr (1, [.ref ro, .int 5, .ref ba, .ref ra, .ref su, .int 0, .ref tr])), (ro, .inl (cR, 6, .inr (.inr (.inr (.inr (va_up fr 4 (some u.1))))))), (u.1, .inr (0, [.int 10, .int 6, .int 30, .int 100, .int 0, .int 0, .ref u.2.1, .ref u.2.2.1, .ref u.2.2.2.1, .ref u.2.2.2.2.1])), (u.2.2.1, .inl (u.2.2.2.2.2, 60, .inl (fun _ => 0))), (ou, .inl (cO, 1, .inr (.inl (vp_updL fp 0 4))))]) (va_A [(h, .inr (1, [.ref ro, .int 4, .ref ba, .ref ra, .ref su, .int 0, .ref tr])), (ro, .inl (cR, 6, .inr (.inr (.inr (.inr fr))))), (ou, .inl (cO, 1, .inr (.inl fp)))] sz)) 5 250 (va_A [(h, .inr (1, [.ref ro, .int 4, .ref ba, .ref ra, .ref su, .int 0, .ref tr])), (ro, .inl (cR, 6, .inr (.inr (.inr (.inr fr))))), (ou, .inl (cO, 1, .inr (.inl fp)))] sz) := by
  refine va_MetW (cc := cL_build) (maxL := 6) (ret := (some .int)) (by decide) rfl ?_
  intro p e s m args below meth c s₁ B hml hv
  obtain ⟨rfl, hsz, hP, hK, hD0⟩ := hv
  have hx := B.exec
  have hb := B.bytes
  have hr := B.returns
  have hts := atoms_spec (ws := wsL_build) B.pre
  have hown : s.vm.findClass RL = some m.cls := findClass_of_methodNamed B.named
  have hlocks := B.notSynchronized
  have htab := vx_table (x := yL_build) B (hts (.codeWith yL_build cL_build 6 (some .int) [(0, 12, 15, 13), (0, 12, 19, 15)]) List.mem_cons_self)
  subst hsz
  have hD := hD0.self (sz := s.heap.size)
  generalize hAe : va_A [(h, .inr (1, [.ref ro, .int 4, .ref ba, .ref ra, .ref su, .int 0, .ref tr])), (ro, .inl (cR, 6, .inr (.inr (.inr (.inr fr))))), (ou, .inl (cO, 1, .inr (.inl fp)))] s.heap.size = A at hD ⊢
  have hA : ∀ q : Nat, s.heap.size ≤ q → A q := fun q h => by rw [← hAe]; exact Or.inr h
  have hS : va_S A s.heap s.heap [] := va_S.rf
  have hP : va_P (dC, dI) vwCl [(h, .inr (1, [.ref ro, .int 4, .ref ba, .ref ra, .ref su, .int 0, .ref tr])), (ro, .inl (cR, 6, .inr (.inr (.inr (.inr fr))))), (ou, .inl (cO, 1, .inr (.inl fp)))] s.heap := hP
  have hl := lv_entry ([.ref h, .int 10, .int 6, .int 30, .ref ou]) (n := 6) (Nat.le_of_ble_eq_true rfl)
  rw [lg_entry_eq]
  generalize (lg_sl ([.ref h, .int 10, .int 6, .int 30, .ref ou]) ++ List.replicate (6 - (lg_sl ([.ref h, .int 10, .int 6, .int 30, .ref ou])).length) Slot.unset).toArray = ls at hl ⊢
  have hl : lv_has ls 6 [(0, .ref h), (1, .int 10), (2, .int 6), (3, .int 30), (4, .ref ou)] := hl
  refine lv_aload hx hb dL_build_0 (lv_at hl 4 rfl) ?_
  refine lv_iconst (v := 0) hx hb dL_build_2 (by decide) ?_
  refine lv_aload_n hx hb dL_build_3 rfl (lv_at hl 0 rfl) ?_
  refine lv_iload_n hx hb dL_build_4 rfl (lv_at hl 1 rfl) ?_
  refine lv_iload_n hx hb dL_build_5 rfl (lv_at hl 2 rfl) ?_
  refine lv_iload_n hx hb dL_build_6 rfl (lv_at hl 3 rfl) ?_
  have hPc := hP.sub (ws' := [(h, .inr (1, [.ref ro, .int 4, .ref ba, .ref ra, .ref su, .int 0, .ref tr])), (ro, .inl (cR, 6, .inr (.inr (.inr (.inr fr)))))]) [0, 1] rfl
  have hKc := hK.sub (tys' := [(cR, .object RX0)]) [0] rfl
  have hDc := hD.sub (ws' := [(h, .inr (1, [.ref ro, .int 4, .ref ba, .ref ra, .ref su, .int 0, .ref tr])), (ro, .inl (cR, 6, .inr (.inr (.inr (.inr fr)))))]) [0, 1] (by decide) rfl
  have hFc := va_free (wc := [(h, .inr (1, [.ref ro, .int 4, .ref ba, .ref ra, .ref su, .int 0, .ref tr])), (ro, .inl (cR, 6, .inr (.inr (.inr (.inr fr)))))]) hD hS hA [0, 1] rfl
  refine va_calli (va_runV (As := [.int 10, .int 6, .int 30]) (rest := [.int 0, .ref ou]) ⟨hx, hb, hml, hown, hts⟩ (r1_build4 l dC dI s.heap.size h ro ba ra su tr cR fr ) (cwV 3 hts gL_build_X1_build rfl rfl rfl (by decide +kernel) ⟨Nat.le_of_ble_eq_true rfl, Nat.le_of_ble_eq_true rfl⟩) ⟨fun a U g mk q => by obtain ⟨q0, q1, qP, qK, qD⟩ := q; exact ⟨q0, q1, qP, va_K.moved (u := U) (U := U.calling g mk a) (Vm.Alike.refl U.vm) qK, qD⟩, va_recv hKc hPc (ci := 1) (q0 := 0) rfl rfl, fun U hU hW => ⟨rfl, by rw [hU], by rw [hU]; exact hPc, va_K.moved hW.alike hKc, hDc.weaken (fun _ _ _ _ => trivial)⟩⟩ rfl rfl hl.1 rfl (lv_room (Nat.le_of_ble_eq_true rfl)) dL_build_7 ⟨Nat.le_of_ble_eq_true rfl, Nat.le_of_ble_eq_true rfl⟩) hS (fun q _ h => hFc q h) hFc (fun r1 u t H1 locs ht hvm hr1 hB hz1 hk1 hS => ?_)
  obtain ⟨qh_2, qk_3, qt_4, qp_5, qm_6, qc_7⟩ := u
  obtain ⟨hP1, hK1, hD1⟩ := hB
  rw [ht] at hP1
  have hK1 := va_K.moved hvm.symm hK1
  try dsimp only at hr1
  obtain ⟨hP, hD⟩ := va_join (wr := [(ou, .inl (cO, 1, .inr (.inl fp)))]) (w1 := [(h, .inr (1, [.ref ro, .int 5, .ref ba, .ref ra, .ref su, .int 0, .ref tr])), (ro, .inl (cR, 6, .inr (.inr (.inr (.inr (va_up fr 4 (some qh_2))))))), (qh_2, .inr (0, [.int 10, .int 6, .int 30, .int 100, .int 0, .int 0, .ref qk_3, .ref qt_4, .ref qp_5, .ref qm_6])), (qt_4, .inl (qc_7, 60, .inl (fun _ => 0)))]) hP hD [0, 1] [2] rfl rfl (by decide) (by decide) hk1 hFc hP1 hD1
  have hK := hK.app hK1
  have hK : va_K (dC, dI) vwCl [(cR, .object RX0), (cO, .long), (qc_7, .int)] s := hK
  generalize H1 = H at hP hS ⊢
  have hP : va_P (dC, dI) vwCl [(ou, .inl (cO, 1, .inr (.inl fp))), (h, .inr (1, [.ref ro, .int 5, .ref ba, .ref ra, .ref su, .int 0, .ref tr])), (ro, .inl (cR, 6, .inr (.inr (.inr (.inr (va_up fr 4 (some qh_2))))))), (qh_2, .inr (0, [.int 10, .int 6, .int 30, .int 100, .int 0, .int 0, .ref qk_3, .ref qt_4, .ref qp_5, .ref qm_6])), (qt_4, .inl (qc_7, 60, .inl (fun _ => 0)))] H := hP
  have hD : va_D A [(ou, .inl (cO, 1, .inr (.inl fp))), (h, .inr (1, [.ref ro, .int 5, .ref ba, .ref ra, .ref su, .int 0, .ref tr])), (ro, .inl (cR, 6, .inr (.inr (.inr (.inr (va_up fr 4 (some qh_2))))))), (qh_2, .inr (0, [.int 10, .int 6, .int 30, .int 100, .int 0, .int 0, .ref qk_3, .ref qt_4, .ref qp_5, .ref qm_6])), (qt_4, .inl (qc_7, 60, .inl (fun _ => 0)))] := hD
  refine W.widen (k := 5) (n := 250) (Nat.le_of_ble_eq_true rfl) (Nat.le_of_ble_eq_true rfl) ?_
  obtain rfl := hr1
  refine lv_i2l (v := 4) hx hb dL_build_10 (by first | rfl | decide) ?_
  refine va_last hx hb hK hP hD hS 0 1 rfl rfl (vp_in_nI (n := 0) (by decide) (by decide)) dL_build_11 (fun H locs hP hD hS => ?_)
  have hP : va_P (dC, dI) vwCl [(ou, .inl (cO, 1, .inr (.inl (vp_updL fp 0 4)))), (h, .inr (1, [.ref ro, .int 5, .ref ba, .ref ra, .ref su, .int 0, .ref tr])), (ro, .inl (cR, 6, .inr (.inr (.inr (.inr (va_up fr 4 (some qh_2))))))), (qh_2, .inr (0, [.int 10, .int 6, .int 30, .int 100, .int 0, .int 0, .ref qk_3, .ref qt_4, .ref qp_5, .ref qm_6])), (qt_4, .inl (qc_7, 60, .inl (fun _ => 0)))] H := hP
  have hD : va_D A [(ou, .inl (cO, 1, .inr (.inl (vp_updL fp 0 4)))), (h, .inr (1, [.ref ro, .int 5, .ref ba, .ref ra, .ref su, .int 0, .ref tr])), (ro, .inl (cR, 6, .inr (.inr (.inr (.inr (va_up fr 4 (some qh_2))))))), (qh_2, .inr (0, [.int 10, .int 6, .int 30, .int 100, .int 0, .int 0, .ref qk_3, .ref qt_4, .ref qp_5, .ref qm_6])), (qt_4, .inl (qc_7, 60, .inl (fun _ => 0)))] := hD
  refine lv_goto (tgt := 23) hx hb dL_build_12 (by decide) ?_
  refine lv_iconst (v := 0) hx hb dL_build_23 (by decide) ?_
  have hP9 := hP.sub (ws' := [(h, .inr (1, [.ref ro, .int 5, .ref ba, .ref ra, .ref su, .int 0, .ref tr])), (ro, .inl (cR, 6, .inr (.inr (.inr (.inr (va_up fr 4 (some qh_2))))))), (qh_2, .inr (0, [.int 10, .int 6, .int 30, .int 100, .int 0, .int 0, .ref qk_3, .ref qt_4, .ref qp_5, .ref qm_6])), (qt_4, .inl (qc_7, 60, .inl (fun _ => 0))), (ou, .inl (cO, 1, .inr (.inl (vp_updL fp 0 4))))]) [1, 2, 3, 4, 0] rfl
  have hD9 := hD.sub (ws' := [(h, .inr (1, [.ref ro, .int 5, .ref ba, .ref ra, .ref su, .int 0, .ref tr])), (ro, .inl (cR, 6, .inr (.inr (.inr (.inr (va_up fr 4 (some qh_2))))))), (qh_2, .inr (0, [.int 10, .int 6, .int 30, .int 100, .int 0, .int 0, .ref qk_3, .ref qt_4, .ref qp_5, .ref qm_6])), (qt_4, .inl (qc_7, 60, .inl (fun _ => 0))), (ou, .inl (cO, 1, .inr (.inl (vp_updL fp 0 4))))]) [1, 2, 3, 4, 0] (by decide) rfl
  have hK9 := hK.sub (tys' := [(qc_7, .int)]) [2] rfl
  refine W.widen (k := 5) (n := 250) (Nat.le_of_ble_eq_true rfl) (Nat.le_of_ble_eq_true rfl) ?_
  exact W.iret (v := 0) hx hb hr (fun t ht hW => ⟨⟨0, (qh_2, qk_3, qt_4, qp_5, qm_6, qc_7), rfl, by (first | rfl | assumption | decide | (simp_all; done) | grind), ⟨by rw [ht]; exact hP9, va_K.moved hW.alike hK9, hD9⟩⟩, hS.F ht⟩) hS.2.2 dL_build_24

set_option maxHeartbeats 4000000 in
set_option maxRecDepth 100000 in
theorem r3_build4 (l : Launch) (dC : Nat → ClassId) (dI : Nat → Nat → Nat) (sz : Nat) (hm : Nat) (wi : Nat) (co : Nat) (sl : Nat) (rn : Nat) (so : Nat) (bn : Nat) (sm : Nat) (ah : Nat) (th : Int32) (gr : Nat) (gt : Nat) (gw : Nat) (gk : Nat) (gi : Nat) (gp : Nat) (go : Nat) (gg : Nat) (d1 : ClassId) (d2 : ClassId) (d3 : ClassId) (d4 : ClassId) (fw : Nat → Int32) (fc : Nat → Int32) (fs : Nat → Int32) (fg : Nat → Int32) : Met l yX3_build wsX3_build ({ frames := 1, cells := 0, slots := 0, locals := 22 }) (va_Pc [.ref hm, .int 10, .int 6, .int 30] (fun U => U.heap.size = sz ∧ va_P (dC, dI) vwCl [(hm, .inr (3, [.int th, .int 4, .ref wi, .ref co, .ref sl, .ref rn, .ref so, .ref bn, .ref sm, .ref ah])), (sm, .inr (2, [.int 0, .ref gr, .ref gt, .ref gw, .ref gk, .ref gi, .ref gp, .ref go, .ref gg, .ref hm])), (wi, .inl (d1, 6, .inl fw)), (co, .inl (d2, 6, .inl fc)), (sl, .inl (d3, 6, .inl fs)), (gr, .inl (d4, 6, .inl fg))] U.heap ∧ va_K (dC, dI) vwCl [(d1, .int), (d2, .int), (d3, .int), (d4, .int)] U ∧ va_D (fun _ => True) [(hm, .inr (3, [.int th, .int 4, .ref wi, .ref co, .ref sl, .ref rn, .ref so, .ref bn, .ref sm, .ref ah])), (sm, .inr (2, [.int 0, .ref gr, .ref gt, .ref gw, .ref gk, .ref gi, .ref gp, .ref go, .ref gg, .ref hm])), (wi, .inl (d1, 6, .inl fw)), (co, .inl (d2, 6, .inl fc)), (sl, .inl (d3, 6, .inl fs)), (gr, .inl (d4, 6, .inl fg))] ∧ zNs U)) (va_Qi (fun (r : Int32) (u : Unit) => r = 4) (fun (u : Unit) (t : State) => va_P (dC, dI) vwCl [(hm, .inr (3, [.int 0, .int 5, .ref wi, .ref co, .ref sl, .ref rn, .ref so, .ref bn, .ref sm, .ref ah])), (sm, .inr (2, [.int 0, .ref gr, .ref gt, .ref gw, .ref gk, .ref gi, .ref gp, .ref go, .ref gg, .ref hm])), (wi, .inl (d1, 6, .inl (upd fw 4 10))), (co, .inl (d2, 6, .inl (upd fc 4 6))), (sl, .inl (d3, 6, .inl (upd fs 4 30))), (gr, .inl (d4, 6, .inl (upd fg 4 100)))] t.heap ∧ va_K (dC, dI) vwCl [] t ∧ va_D (va_A [(hm, .inr (3, [.int th, .int 4, .ref wi, .ref co, .ref sl, .ref rn, .ref so, .ref bn, .ref sm, .ref ah])), (sm, .inr (2, [.int 0, .ref gr, .ref gt, .ref gw, .ref gk, .ref gi, .ref gp, .ref go, .ref gg, .ref hm])), (wi, .inl (d1, 6, .inl fw)), (co, .inl (d2, 6, .inl fc)), (sl, .inl (d3, 6, .inl fs)), (gr, .inl (d4, 6, .inl fg))] sz) [(hm, .inr (3, [.int 0, .int 5, .ref wi, .ref co, .ref sl, .ref rn, .ref so, .ref bn, .ref sm, .ref ah])), (sm, .inr (2, [.int 0, .ref gr, .ref gt, .ref gw, .ref gk, .ref gi, .ref gp, .ref go, .ref gg, .ref hm])), (wi, .inl (d1, 6, .inl (upd fw 4 10))), (co, .inl (d2, 6, .inl (upd fc 4 6))), (sl, .inl (d3, 6, .inl (upd fs 4 30))), (gr, .inl (d4, 6, .inl (upd fg 4 100)))]) (va_A [(hm, .inr (3, [.int th, .int 4, .ref wi, .ref co, .ref sl, .ref rn, .ref so, .ref bn, .ref sm, .ref ah])), (sm, .inr (2, [.int 0, .ref gr, .ref gt, .ref gw, .ref gk, .ref gi, .ref gp, .ref go, .ref gg, .ref hm])), (wi, .inl (d1, 6, .inl fw)), (co, .inl (d2, 6, .inl fc)), (sl, .inl (d3, 6, .inl fs)), (gr, .inl (d4, 6, .inl fg))] sz)) 0 0 (va_A [(hm, .inr (3, [.int th, .int 4, .ref wi, .ref co, .ref sl, .ref rn, .ref so, .ref bn, .ref sm, .ref ah])), (sm, .inr (2, [.int 0, .ref gr, .ref gt, .ref gw, .ref gk, .ref gi, .ref gp, .ref go, .ref gg, .ref hm])), (wi, .inl (d1, 6, .inl fw)), (co, .inl (d2, 6, .inl fc)), (sl, .inl (d3, 6, .inl fs)), (gr, .inl (d4, 6, .inl fg))] sz) := by
  refine Met.ofW (cc := cX3_build) (maxL := 4) (ret := (some .int)) (by decide) rfl ?_
  intro p e s m args below meth c s₁ B hml hv
  obtain ⟨rfl, hsz, hP, hK, hD0, hZN⟩ := hv
  have hx := B.exec
  have hb := B.bytes
  have hr := B.returns
  have hts := atoms_spec (ws := wsX3_build) B.pre
  have hown : s.vm.findClass RX3 = some m.cls := findClass_of_methodNamed B.named
  have hlocks := B.notSynchronized
  subst hsz
  have hD := hD0.self (sz := s.heap.size)
  generalize hAe : va_A [(hm, .inr (3, [.int th, .int 4, .ref wi, .ref co, .ref sl, .ref rn, .ref so, .ref bn, .ref sm, .ref ah])), (sm, .inr (2, [.int 0, .ref gr, .ref gt, .ref gw, .ref gk, .ref gi, .ref gp, .ref go, .ref gg, .ref hm])), (wi, .inl (d1, 6, .inl fw)), (co, .inl (d2, 6, .inl fc)), (sl, .inl (d3, 6, .inl fs)), (gr, .inl (d4, 6, .inl fg))] s.heap.size = A at hD ⊢
  have hA : ∀ q : Nat, s.heap.size ≤ q → A q := fun q h => by rw [← hAe]; exact Or.inr h
  have hS : va_S A s.heap s.heap [] := va_S.rf
  have hP : va_P (dC, dI) vwCl [(hm, .inr (3, [.int th, .int 4, .ref wi, .ref co, .ref sl, .ref rn, .ref so, .ref bn, .ref sm, .ref ah])), (sm, .inr (2, [.int 0, .ref gr, .ref gt, .ref gw, .ref gk, .ref gi, .ref gp, .ref go, .ref gg, .ref hm])), (wi, .inl (d1, 6, .inl fw)), (co, .inl (d2, 6, .inl fc)), (sl, .inl (d3, 6, .inl fs)), (gr, .inl (d4, 6, .inl fg))] s.heap := hP
  have hl := lv_entry ([.ref hm, .int 10, .int 6, .int 30]) (n := 4) (Nat.le_of_ble_eq_true rfl)
  rw [lg_entry_eq]
  generalize (lg_sl ([.ref hm, .int 10, .int 6, .int 30]) ++ List.replicate (4 - (lg_sl ([.ref hm, .int 10, .int 6, .int 30])).length) Slot.unset).toArray = ls at hl ⊢
  have hl : lv_has ls 4 [(0, .ref hm), (1, .int 10), (2, .int 6), (3, .int 30)] := hl
  refine lv_aload_n hx hb dX3_build_0 rfl (lv_at hl 0 rfl) ?_
  refine lv_iconst (v := 0) hx hb dX3_build_1 (by decide) ?_
  refine va_put (D := (dC, dI)) (ci := 3) (v := .int 0) (ty := .int) (C := RX3) (T := TX3) (N := 10) hx hb hts (by decide +kernel) tyX3 tyX3_ok nmX3 hown hK hP hD hS 0 rfl rfl 0 (by decide) (hts (.fieldLink RX3 40 "ThatchRoofModel" "thrown" "I") (by decide +kernel)) (fun _ h9 => h9) rfl (by decide +kernel) rfl rfl (Nat.le_of_ble_eq_true rfl) dX3_build_2 (fun H locs hP hD hS => ?_)
  have hP : va_P (dC, dI) vwCl [(hm, .inr (3, [.int 0, .int 4, .ref wi, .ref co, .ref sl, .ref rn, .ref so, .ref bn, .ref sm, .ref ah])), (sm, .inr (2, [.int 0, .ref gr, .ref gt, .ref gw, .ref gk, .ref gi, .ref gp, .ref go, .ref gg, .ref hm])), (wi, .inl (d1, 6, .inl fw)), (co, .inl (d2, 6, .inl fc)), (sl, .inl (d3, 6, .inl fs)), (gr, .inl (d4, 6, .inl fg))] H := hP
  have hD : va_D A [(hm, .inr (3, [.int 0, .int 4, .ref wi, .ref co, .ref sl, .ref rn, .ref so, .ref bn, .ref sm, .ref ah])), (sm, .inr (2, [.int 0, .ref gr, .ref gt, .ref gw, .ref gk, .ref gi, .ref gp, .ref go, .ref gg, .ref hm])), (wi, .inl (d1, 6, .inl fw)), (co, .inl (d2, 6, .inl fc)), (sl, .inl (d3, 6, .inl fs)), (gr, .inl (d4, 6, .inl fg))] := hD
  refine lv_iload_n hx hb dX3_build_5 rfl (lv_at hl 1 rfl) ?_
  refine lv_iconst (v := 2) hx hb dX3_build_6 (by decide) ?_
  refine lv_bipush (v := 10) hx hb dX3_build_7 (by decide) ?_
  refine vp_callSi (va_runS (As := [.int 10, .int 2, .int 10]) (rest := []) ⟨hx, hb, hml, hown, hts⟩ (r3_isIn10 l dC dI  ) (va_cwS 3 hts gX3_build_X3_isIn rfl rfl rfl (by decide +kernel) ⟨Nat.le_of_ble_eq_true rfl, Nat.le_of_ble_eq_true rfl⟩) ⟨fun a U g mk q => q, fun U hU hW => ⟨rfl, trivial⟩⟩ rfl rfl hl.1 rfl (lv_room (Nat.le_of_ble_eq_true rfl)) dX3_build_9 ⟨Nat.le_of_ble_eq_true rfl, Nat.le_of_ble_eq_true rfl⟩).run (fun r1 hr1 => ?_)
  obtain rfl := hr1
  refine lv_if_eq (tgt := 36) hx hb dX3_build_12 (by decide) (fun c2 => absurd c2 (by decide)) (fun c2 => ?_)
  refine lv_iload_n hx hb dX3_build_15 rfl (lv_at hl 2 rfl) ?_
  refine lv_iconst (v := 2) hx hb dX3_build_16 (by decide) ?_
  refine lv_bipush (v := 6) hx hb dX3_build_17 (by decide) ?_
  refine vp_callSi (va_runS (As := [.int 6, .int 2, .int 6]) (rest := []) ⟨hx, hb, hml, hown, hts⟩ (r3_isIn6 l dC dI  ) (va_cwS 3 hts gX3_build_X3_isIn rfl rfl rfl (by decide +kernel) ⟨Nat.le_of_ble_eq_true rfl, Nat.le_of_ble_eq_true rfl⟩) ⟨fun a U g mk q => q, fun U hU hW => ⟨rfl, trivial⟩⟩ rfl rfl hl.1 rfl (lv_room (Nat.le_of_ble_eq_true rfl)) dX3_build_19 ⟨Nat.le_of_ble_eq_true rfl, Nat.le_of_ble_eq_true rfl⟩).run (fun r3 hr3 => ?_)
  obtain rfl := hr3
  refine lv_if_eq (tgt := 36) hx hb dX3_build_22 (by decide) (fun c4 => absurd c4 (by decide)) (fun c4 => ?_)
  refine lv_iload_n hx hb dX3_build_25 rfl (lv_at hl 3 rfl) ?_
  refine lv_bipush (v := 30) hx hb dX3_build_26 (by decide) ?_
  refine lv_bipush (v := 60) hx hb dX3_build_28 (by decide) ?_
  refine vp_callSi (va_runS (As := [.int 30, .int 30, .int 60]) (rest := []) ⟨hx, hb, hml, hown, hts⟩ (r3_isIn30 l dC dI  ) (va_cwS 3 hts gX3_build_X3_isIn rfl rfl rfl (by decide +kernel) ⟨Nat.le_of_ble_eq_true rfl, Nat.le_of_ble_eq_true rfl⟩) ⟨fun a U g mk q => q, fun U hU hW => ⟨rfl, trivial⟩⟩ rfl rfl hl.1 rfl (lv_room (Nat.le_of_ble_eq_true rfl)) dX3_build_30 ⟨Nat.le_of_ble_eq_true rfl, Nat.le_of_ble_eq_true rfl⟩).run (fun r5 hr5 => ?_)
  obtain rfl := hr5
  refine lv_if_ne (tgt := 42) hx hb dX3_build_33 (by decide) (fun c6 => ?_) (fun c6 => absurd c6 (by decide))
  refine lv_aload_n hx hb dX3_build_42 rfl (lv_at hl 0 rfl) ?_
  refine va_get (D := (dC, dI)) (ci := 3) (v := .int 4) (C := RX3) (T := TX3) (N := 10) hx hb hts (by decide +kernel) hown hK hP 0 rfl rfl 1 (by decide) (hts (.fieldLink RX3 44 "ThatchRoofModel" "roofs" "I") (by decide +kernel)) (fun _ h9 => h9) rfl dX3_build_43 ?_
  refine lv_bipush (v := 6) hx hb dX3_build_46 (by decide) ?_
  refine lv_icmp_ne (tgt := 57) hx hb dX3_build_48 (by decide) (fun c7 => ?_) (fun c7 => absurd c7 (by decide))
  refine lv_aload_n hx hb dX3_build_57 rfl (lv_at hl 0 rfl) ?_
  refine va_get (D := (dC, dI)) (ci := 3) (v := .ref wi) (C := RX3) (T := TX3) (N := 10) hx hb hts (by decide +kernel) hown hK hP 0 rfl rfl 2 (by decide) (hts (.fieldLink RX3 9 "ThatchRoofModel" "width" "[I") (by decide +kernel)) (fun _ h9 => h9) rfl dX3_build_58 ?_
  refine lv_aload_n hx hb dX3_build_61 rfl (lv_at hl 0 rfl) ?_
  refine va_get (D := (dC, dI)) (ci := 3) (v := .int 4) (C := RX3) (T := TX3) (N := 10) hx hb hts (by decide +kernel) hown hK hP 0 rfl rfl 1 (by decide) (hts (.fieldLink RX3 44 "ThatchRoofModel" "roofs" "I") (by decide +kernel)) (fun _ h9 => h9) rfl dX3_build_62 ?_
  refine lv_iload_n hx hb dX3_build_65 rfl (lv_at hl 1 rfl) ?_
  refine va_iast hx hb hK hP hD hS 2 0 rfl rfl (vp_in_nI (n := 4) (by decide) (by decide)) dX3_build_66 (fun H locs hP hD hS => ?_)
  have hP : va_P (dC, dI) vwCl [(hm, .inr (3, [.int 0, .int 4, .ref wi, .ref co, .ref sl, .ref rn, .ref so, .ref bn, .ref sm, .ref ah])), (sm, .inr (2, [.int 0, .ref gr, .ref gt, .ref gw, .ref gk, .ref gi, .ref gp, .ref go, .ref gg, .ref hm])), (wi, .inl (d1, 6, .inl (upd fw 4 10))), (co, .inl (d2, 6, .inl fc)), (sl, .inl (d3, 6, .inl fs)), (gr, .inl (d4, 6, .inl fg))] H := hP
  have hD : va_D A [(hm, .inr (3, [.int 0, .int 4, .ref wi, .ref co, .ref sl, .ref rn, .ref so, .ref bn, .ref sm, .ref ah])), (sm, .inr (2, [.int 0, .ref gr, .ref gt, .ref gw, .ref gk, .ref gi, .ref gp, .ref go, .ref gg, .ref hm])), (wi, .inl (d1, 6, .inl (upd fw 4 10))), (co, .inl (d2, 6, .inl fc)), (sl, .inl (d3, 6, .inl fs)), (gr, .inl (d4, 6, .inl fg))] := hD
  refine lv_aload_n hx hb dX3_build_67 rfl (lv_at hl 0 rfl) ?_
  refine va_get (D := (dC, dI)) (ci := 3) (v := .ref co) (C := RX3) (T := TX3) (N := 10) hx hb hts (by decide +kernel) hown hK hP 0 rfl rfl 3 (by decide) (hts (.fieldLink RX3 13 "ThatchRoofModel" "courses" "[I") (by decide +kernel)) (fun _ h9 => h9) rfl dX3_build_68 ?_
  refine lv_aload_n hx hb dX3_build_71 rfl (lv_at hl 0 rfl) ?_
  refine va_get (D := (dC, dI)) (ci := 3) (v := .int 4) (C := RX3) (T := TX3) (N := 10) hx hb hts (by decide +kernel) hown hK hP 0 rfl rfl 1 (by decide) (hts (.fieldLink RX3 44 "ThatchRoofModel" "roofs" "I") (by decide +kernel)) (fun _ h9 => h9) rfl dX3_build_72 ?_
  refine lv_iload_n hx hb dX3_build_75 rfl (lv_at hl 2 rfl) ?_
  refine va_iast hx hb hK hP hD hS 3 1 rfl rfl (vp_in_nI (n := 4) (by decide) (by decide)) dX3_build_76 (fun H locs hP hD hS => ?_)
  have hP : va_P (dC, dI) vwCl [(hm, .inr (3, [.int 0, .int 4, .ref wi, .ref co, .ref sl, .ref rn, .ref so, .ref bn, .ref sm, .ref ah])), (sm, .inr (2, [.int 0, .ref gr, .ref gt, .ref gw, .ref gk, .ref gi, .ref gp, .ref go, .ref gg, .ref hm])), (wi, .inl (d1, 6, .inl (upd fw 4 10))), (co, .inl (d2, 6, .inl (upd fc 4 6))), (sl, .inl (d3, 6, .inl fs)), (gr, .inl (d4, 6, .inl fg))] H := hP
  have hD : va_D A [(hm, .inr (3, [.int 0, .int 4, .ref wi, .ref co, .ref sl, .ref rn, .ref so, .ref bn, .ref sm, .ref ah])), (sm, .inr (2, [.int 0, .ref gr, .ref gt, .ref gw, .ref gk, .ref gi, .ref gp, .ref go, .ref gg, .ref hm])), (wi, .inl (d1, 6, .inl (upd fw 4 10))), (co, .inl (d2, 6, .inl (upd fc 4 6))), (sl, .inl (d3, 6, .inl fs)), (gr, .inl (d4, 6, .inl fg))] := hD
  refine lv_aload_n hx hb dX3_build_77 rfl (lv_at hl 0 rfl) ?_
  refine va_get (D := (dC, dI)) (ci := 3) (v := .ref sl) (C := RX3) (T := TX3) (N := 10) hx hb hts (by decide +kernel) hown hK hP 0 rfl rfl 4 (by decide) (hts (.fieldLink RX3 16 "ThatchRoofModel" "slope" "[I") (by decide +kernel)) (fun _ h9 => h9) rfl dX3_build_78 ?_
  refine lv_aload_n hx hb dX3_build_81 rfl (lv_at hl 0 rfl) ?_
  refine va_get (D := (dC, dI)) (ci := 3) (v := .int 4) (C := RX3) (T := TX3) (N := 10) hx hb hts (by decide +kernel) hown hK hP 0 rfl rfl 1 (by decide) (hts (.fieldLink RX3 44 "ThatchRoofModel" "roofs" "I") (by decide +kernel)) (fun _ h9 => h9) rfl dX3_build_82 ?_
  refine lv_iload_n hx hb dX3_build_85 rfl (lv_at hl 3 rfl) ?_
  refine va_iast hx hb hK hP hD hS 4 2 rfl rfl (vp_in_nI (n := 4) (by decide) (by decide)) dX3_build_86 (fun H locs hP hD hS => ?_)
  have hP : va_P (dC, dI) vwCl [(hm, .inr (3, [.int 0, .int 4, .ref wi, .ref co, .ref sl, .ref rn, .ref so, .ref bn, .ref sm, .ref ah])), (sm, .inr (2, [.int 0, .ref gr, .ref gt, .ref gw, .ref gk, .ref gi, .ref gp, .ref go, .ref gg, .ref hm])), (wi, .inl (d1, 6, .inl (upd fw 4 10))), (co, .inl (d2, 6, .inl (upd fc 4 6))), (sl, .inl (d3, 6, .inl (upd fs 4 30))), (gr, .inl (d4, 6, .inl fg))] H := hP
  have hD : va_D A [(hm, .inr (3, [.int 0, .int 4, .ref wi, .ref co, .ref sl, .ref rn, .ref so, .ref bn, .ref sm, .ref ah])), (sm, .inr (2, [.int 0, .ref gr, .ref gt, .ref gw, .ref gk, .ref gi, .ref gp, .ref go, .ref gg, .ref hm])), (wi, .inl (d1, 6, .inl (upd fw 4 10))), (co, .inl (d2, 6, .inl (upd fc 4 6))), (sl, .inl (d3, 6, .inl (upd fs 4 30))), (gr, .inl (d4, 6, .inl fg))] := hD
  refine lv_aload_n hx hb dX3_build_87 rfl (lv_at hl 0 rfl) ?_
  refine va_get (D := (dC, dI)) (ci := 3) (v := .ref sm) (C := RX3) (T := TX3) (N := 10) hx hb hts (by decide +kernel) hown hK hP 0 rfl rfl 8 (by decide) (hts (.fieldLink RX3 33 "ThatchRoofModel" "s" "LThatchRoofModel$State;") (by decide +kernel)) (fun _ h9 => h9) rfl dX3_build_88 ?_
  refine va_getN (D := (dC, dI)) (ci := 2) (v := .ref gr) (C := RX2) (T := TX2) (N := 10) hx hb hts (by decide +kernel) hown hK hP 1 rfl rfl 1 (by decide) (va_Nw.use rfl (zN_RX3_63 hZN)) (fun _ h9 => h9) rfl dX3_build_91 ?_
  refine lv_aload_n hx hb dX3_build_94 rfl (lv_at hl 0 rfl) ?_
  refine va_get (D := (dC, dI)) (ci := 3) (v := .int 4) (C := RX3) (T := TX3) (N := 10) hx hb hts (by decide +kernel) hown hK hP 0 rfl rfl 1 (by decide) (hts (.fieldLink RX3 44 "ThatchRoofModel" "roofs" "I") (by decide +kernel)) (fun _ h9 => h9) rfl dX3_build_95 ?_
  refine lv_bipush (v := 100) hx hb dX3_build_98 (by decide) ?_
  refine va_iast hx hb hK hP hD hS 5 3 rfl rfl (vp_in_nI (n := 4) (by decide) (by decide)) dX3_build_100 (fun H locs hP hD hS => ?_)
  have hP : va_P (dC, dI) vwCl [(hm, .inr (3, [.int 0, .int 4, .ref wi, .ref co, .ref sl, .ref rn, .ref so, .ref bn, .ref sm, .ref ah])), (sm, .inr (2, [.int 0, .ref gr, .ref gt, .ref gw, .ref gk, .ref gi, .ref gp, .ref go, .ref gg, .ref hm])), (wi, .inl (d1, 6, .inl (upd fw 4 10))), (co, .inl (d2, 6, .inl (upd fc 4 6))), (sl, .inl (d3, 6, .inl (upd fs 4 30))), (gr, .inl (d4, 6, .inl (upd fg 4 100)))] H := hP
  have hD : va_D A [(hm, .inr (3, [.int 0, .int 4, .ref wi, .ref co, .ref sl, .ref rn, .ref so, .ref bn, .ref sm, .ref ah])), (sm, .inr (2, [.int 0, .ref gr, .ref gt, .ref gw, .ref gk, .ref gi, .ref gp, .ref go, .ref gg, .ref hm])), (wi, .inl (d1, 6, .inl (upd fw 4 10))), (co, .inl (d2, 6, .inl (upd fc 4 6))), (sl, .inl (d3, 6, .inl (upd fs 4 30))), (gr, .inl (d4, 6, .inl (upd fg 4 100)))] := hD
  refine lv_aload_n hx hb dX3_build_101 rfl (lv_at hl 0 rfl) ?_
  refine lv_dup hx hb dX3_build_102 rfl ?_
  refine va_get (D := (dC, dI)) (ci := 3) (v := .int 4) (C := RX3) (T := TX3) (N := 10) hx hb hts (by decide +kernel) hown hK hP 0 rfl rfl 1 (by decide) (hts (.fieldLink RX3 44 "ThatchRoofModel" "roofs" "I") (by decide +kernel)) (fun _ h9 => h9) rfl dX3_build_103 ?_
  refine lv_iconst (v := 1) hx hb dX3_build_106 (by decide) ?_
  refine lv_iadd hx hb dX3_build_107 ?_
  refine W.eq (g2 := F0 m 108 ls [.int 5, .ref hm]) rfl ?_
  refine va_put (D := (dC, dI)) (ci := 3) (v := .int 5) (ty := .int) (C := RX3) (T := TX3) (N := 10) hx hb hts (by decide +kernel) tyX3 tyX3_ok nmX3 hown hK hP hD hS 0 rfl rfl 1 (by decide) (hts (.fieldLink RX3 44 "ThatchRoofModel" "roofs" "I") (by decide +kernel)) (fun _ h9 => h9) rfl (by decide +kernel) rfl rfl (Nat.le_of_ble_eq_true rfl) dX3_build_108 (fun H locs hP hD hS => ?_)
  have hP : va_P (dC, dI) vwCl [(hm, .inr (3, [.int 0, .int 5, .ref wi, .ref co, .ref sl, .ref rn, .ref so, .ref bn, .ref sm, .ref ah])), (sm, .inr (2, [.int 0, .ref gr, .ref gt, .ref gw, .ref gk, .ref gi, .ref gp, .ref go, .ref gg, .ref hm])), (wi, .inl (d1, 6, .inl (upd fw 4 10))), (co, .inl (d2, 6, .inl (upd fc 4 6))), (sl, .inl (d3, 6, .inl (upd fs 4 30))), (gr, .inl (d4, 6, .inl (upd fg 4 100)))] H := hP
  have hD : va_D A [(hm, .inr (3, [.int 0, .int 5, .ref wi, .ref co, .ref sl, .ref rn, .ref so, .ref bn, .ref sm, .ref ah])), (sm, .inr (2, [.int 0, .ref gr, .ref gt, .ref gw, .ref gk, .ref gi, .ref gp, .ref go, .ref gg, .ref hm])), (wi, .inl (d1, 6, .inl (upd fw 4 10))), (co, .inl (d2, 6, .inl (upd fc 4 6))), (sl, .inl (d3, 6, .inl (upd fs 4 30))), (gr, .inl (d4, 6, .inl (upd fg 4 100)))] := hD
  refine lv_aload_n hx hb dX3_build_111 rfl (lv_at hl 0 rfl) ?_
  refine va_get (D := (dC, dI)) (ci := 3) (v := .int 5) (C := RX3) (T := TX3) (N := 10) hx hb hts (by decide +kernel) hown hK hP 0 rfl rfl 1 (by decide) (hts (.fieldLink RX3 44 "ThatchRoofModel" "roofs" "I") (by decide +kernel)) (fun _ h9 => h9) rfl dX3_build_112 ?_
  refine lv_iconst (v := 1) hx hb dX3_build_115 (by decide) ?_
  refine lv_isub hx hb dX3_build_116 ?_
  refine W.eq (g2 := F0 m 117 ls [.int 4]) rfl ?_
  have hP9 := hP.sub (ws' := [(hm, .inr (3, [.int 0, .int 5, .ref wi, .ref co, .ref sl, .ref rn, .ref so, .ref bn, .ref sm, .ref ah])), (sm, .inr (2, [.int 0, .ref gr, .ref gt, .ref gw, .ref gk, .ref gi, .ref gp, .ref go, .ref gg, .ref hm])), (wi, .inl (d1, 6, .inl (upd fw 4 10))), (co, .inl (d2, 6, .inl (upd fc 4 6))), (sl, .inl (d3, 6, .inl (upd fs 4 30))), (gr, .inl (d4, 6, .inl (upd fg 4 100)))]) [0, 1, 2, 3, 4, 5] rfl
  have hD9 := hD.sub (ws' := [(hm, .inr (3, [.int 0, .int 5, .ref wi, .ref co, .ref sl, .ref rn, .ref so, .ref bn, .ref sm, .ref ah])), (sm, .inr (2, [.int 0, .ref gr, .ref gt, .ref gw, .ref gk, .ref gi, .ref gp, .ref go, .ref gg, .ref hm])), (wi, .inl (d1, 6, .inl (upd fw 4 10))), (co, .inl (d2, 6, .inl (upd fc 4 6))), (sl, .inl (d3, 6, .inl (upd fs 4 30))), (gr, .inl (d4, 6, .inl (upd fg 4 100)))]) [0, 1, 2, 3, 4, 5] (by decide) rfl
  have hK9 := hK.sub (tys' := []) [] rfl
  refine W.widen (k := 0) (n := 0) (Nat.le_of_ble_eq_true rfl) (Nat.le_of_ble_eq_true rfl) ?_
  exact W.iret (v := 4) hx hb hr (fun t ht hW => ⟨⟨4, (), rfl, by (first | rfl | assumption | decide | (simp_all; done) | grind), ⟨by rw [ht]; exact hP9, va_K.moved hW.alike hK9, hD9⟩⟩, hS.F ht⟩) hS.2.2 dX3_build_117

set_option maxHeartbeats 4000000 in
set_option maxRecDepth 100000 in
theorem r1_build5 (l : Launch) (dC : Nat → ClassId) (dI : Nat → Nat → Nat) (sz : Nat) (h : Nat) (ro : Nat) (ba : Nat) (ra : Nat) (su : Nat) (tr : Nat) (cR : ClassId) (fr : Nat → Option Nat) : Met l yX1_build wsX1_build ({ frames := 2, cells := 5, slots := 250, locals := 35 }) (va_Pc [.ref h, .int 10, .int 6, .int 30] (fun U => U.heap.size = sz ∧ va_P (dC, dI) vwCl [(h, .inr (1, [.ref ro, .int 5, .ref ba, .ref ra, .ref su, .int 0, .ref tr])), (ro, .inl (cR, 6, .inr (.inr (.inr (.inr fr)))))] U.heap ∧ va_K (dC, dI) vwCl [(cR, .object RX0)] U ∧ va_D (fun _ => True) [(h, .inr (1, [.ref ro, .int 5, .ref ba, .ref ra, .ref su, .int 0, .ref tr])), (ro, .inl (cR, 6, .inr (.inr (.inr (.inr fr)))))])) (va_Qi (fun (r : Int32) (u : Nat × Nat × Nat × Nat × Nat × ClassId) => r = 5) (fun (u : Nat × Nat × Nat × Nat × Nat × ClassId) (t : State) => va_P (dC, dI) vwCl [(h, .inr (1, [.ref ro, .int 6, .ref ba, .ref ra, .ref su, .int 0, .ref tr])), (ro, .inl (cR, 6, .inr (.inr (.inr (.inr (va_up fr 5 (some u.1))))))), (u.1, .inr (0, [.int 10, .int 6, .int 30, .int 100, .int 0, .int 0, .ref u.2.1, .ref u.2.2.1, .ref u.2.2.2.1, .ref u.2.2.2.2.1])), (u.2.2.1, .inl (u.2.2.2.2.2, 60, .inl (fun _ => 0)))] t.heap ∧ va_K (dC, dI) vwCl [(u.2.2.2.2.2, .int)] t ∧ va_D (va_A [(h, .inr (1, [.ref ro, .int 5, .ref ba, .ref ra, .ref su, .int 0, .ref tr])), (ro, .inl (cR, 6, .inr (.inr (.inr (.inr fr)))))] sz) [(h, .inr (1, [.ref ro, .int 6, .ref ba, .ref ra, .ref su, .int 0, .ref tr])), (ro, .inl (cR, 6, .inr (.inr (.inr (.inr (va_up fr 5 (some u.1))))))), (u.1, .inr (0, [.int 10, .int 6, .int 30, .int 100, .int 0, .int 0, .ref u.2.1, .ref u.2.2.1, .ref u.2.2.2.1, .ref u.2.2.2.2.1])), (u.2.2.1, .inl (u.2.2.2.2.2, 60, .inl (fun _ => 0)))]) (va_A [(h, .inr (1, [.ref ro, .int 5, .ref ba, .ref ra, .ref su, .int 0, .ref tr])), (ro, .inl (cR, 6, .inr (.inr (.inr (.inr fr)))))] sz)) 5 250 (va_A [(h, .inr (1, [.ref ro, .int 5, .ref ba, .ref ra, .ref su, .int 0, .ref tr])), (ro, .inl (cR, 6, .inr (.inr (.inr (.inr fr)))))] sz) := by
  refine Met.ofW (cc := cX1_build) (maxL := 5) (ret := (some .int)) (by decide) rfl ?_
  intro p e s m args below meth c s₁ B hml hv
  obtain ⟨rfl, hsz, hP, hK, hD0⟩ := hv
  have hx := B.exec
  have hb := B.bytes
  have hr := B.returns
  have hts := atoms_spec (ws := wsX1_build) B.pre
  have hown : s.vm.findClass RX1 = some m.cls := findClass_of_methodNamed B.named
  have hlocks := B.notSynchronized
  subst hsz
  have hD := hD0.self (sz := s.heap.size)
  generalize hAe : va_A [(h, .inr (1, [.ref ro, .int 5, .ref ba, .ref ra, .ref su, .int 0, .ref tr])), (ro, .inl (cR, 6, .inr (.inr (.inr (.inr fr)))))] s.heap.size = A at hD ⊢
  have hA : ∀ q : Nat, s.heap.size ≤ q → A q := fun q h => by rw [← hAe]; exact Or.inr h
  have hS : va_S A s.heap s.heap [] := va_S.rf
  have hP : va_P (dC, dI) vwCl [(h, .inr (1, [.ref ro, .int 5, .ref ba, .ref ra, .ref su, .int 0, .ref tr])), (ro, .inl (cR, 6, .inr (.inr (.inr (.inr fr)))))] s.heap := hP
  have hl := lv_entry ([.ref h, .int 10, .int 6, .int 30]) (n := 5) (Nat.le_of_ble_eq_true rfl)
  rw [lg_entry_eq]
  generalize (lg_sl ([.ref h, .int 10, .int 6, .int 30]) ++ List.replicate (5 - (lg_sl ([.ref h, .int 10, .int 6, .int 30])).length) Slot.unset).toArray = ls at hl ⊢
  have hl : lv_has ls 5 [(0, .ref h), (1, .int 10), (2, .int 6), (3, .int 30)] := hl
  refine lv_iload_n hx hb dX1_build_0 rfl (lv_at hl 1 rfl) ?_
  refine lv_iconst (v := 2) hx hb dX1_build_1 (by decide) ?_
  refine lv_bipush (v := 10) hx hb dX1_build_2 (by decide) ?_
  refine vp_callSi (va_runS (As := [.int 10, .int 2, .int 10]) (rest := []) ⟨hx, hb, hml, hown, hts⟩ (r1_isWithin10 l dC dI  ) (va_cwS 3 hts gX1_build_X1_isWithin rfl rfl rfl (by decide +kernel) ⟨Nat.le_of_ble_eq_true rfl, Nat.le_of_ble_eq_true rfl⟩) ⟨fun a U g mk q => q, fun U hU hW => ⟨rfl, trivial⟩⟩ rfl rfl hl.1 rfl (lv_room (Nat.le_of_ble_eq_true rfl)) dX1_build_4 ⟨Nat.le_of_ble_eq_true rfl, Nat.le_of_ble_eq_true rfl⟩).run (fun r1 hr1 => ?_)
  obtain rfl := hr1
  refine lv_if_eq (tgt := 31) hx hb dX1_build_7 (by decide) (fun c2 => absurd c2 (by decide)) (fun c2 => ?_)
  refine lv_iload_n hx hb dX1_build_10 rfl (lv_at hl 2 rfl) ?_
  refine lv_iconst (v := 2) hx hb dX1_build_11 (by decide) ?_
  refine lv_bipush (v := 6) hx hb dX1_build_12 (by decide) ?_
  refine vp_callSi (va_runS (As := [.int 6, .int 2, .int 6]) (rest := []) ⟨hx, hb, hml, hown, hts⟩ (r1_isWithin6 l dC dI  ) (va_cwS 3 hts gX1_build_X1_isWithin rfl rfl rfl (by decide +kernel) ⟨Nat.le_of_ble_eq_true rfl, Nat.le_of_ble_eq_true rfl⟩) ⟨fun a U g mk q => q, fun U hU hW => ⟨rfl, trivial⟩⟩ rfl rfl hl.1 rfl (lv_room (Nat.le_of_ble_eq_true rfl)) dX1_build_14 ⟨Nat.le_of_ble_eq_true rfl, Nat.le_of_ble_eq_true rfl⟩).run (fun r3 hr3 => ?_)
  obtain rfl := hr3
  refine lv_if_eq (tgt := 31) hx hb dX1_build_17 (by decide) (fun c4 => absurd c4 (by decide)) (fun c4 => ?_)
  refine lv_iload_n hx hb dX1_build_20 rfl (lv_at hl 3 rfl) ?_
  refine lv_bipush (v := 30) hx hb dX1_build_21 (by decide) ?_
  refine lv_bipush (v := 60) hx hb dX1_build_23 (by decide) ?_
  refine vp_callSi (va_runS (As := [.int 30, .int 30, .int 60]) (rest := []) ⟨hx, hb, hml, hown, hts⟩ (r1_isWithin30 l dC dI  ) (va_cwS 3 hts gX1_build_X1_isWithin rfl rfl rfl (by decide +kernel) ⟨Nat.le_of_ble_eq_true rfl, Nat.le_of_ble_eq_true rfl⟩) ⟨fun a U g mk q => q, fun U hU hW => ⟨rfl, trivial⟩⟩ rfl rfl hl.1 rfl (lv_room (Nat.le_of_ble_eq_true rfl)) dX1_build_25 ⟨Nat.le_of_ble_eq_true rfl, Nat.le_of_ble_eq_true rfl⟩).run (fun r5 hr5 => ?_)
  obtain rfl := hr5
  refine lv_if_ne (tgt := 41) hx hb dX1_build_28 (by decide) (fun c6 => ?_) (fun c6 => absurd c6 (by decide))
  refine lv_aload_n hx hb dX1_build_41 rfl (lv_at hl 0 rfl) ?_
  refine va_get (D := (dC, dI)) (ci := 1) (v := .int 5) (C := RX1) (T := TX1) (N := 7) hx hb hts (by decide +kernel) hown hK hP 0 rfl rfl 1 (by decide) (hts (.fieldLink RX1 43 "ThatchRoof" "built" "I") (by decide +kernel)) (fun _ h9 => h9) rfl dX1_build_42 ?_
  refine lv_bipush (v := 6) hx hb dX1_build_45 (by decide) ?_
  refine lv_icmp_lt (tgt := 60) hx hb dX1_build_47 (by decide) (fun c7 => ?_) (fun c7 => absurd c7 (by decide))
  refine lv_aload_n hx hb dX1_build_60 rfl (lv_at hl 0 rfl) ?_
  refine va_get (D := (dC, dI)) (ci := 1) (v := .int 5) (C := RX1) (T := TX1) (N := 7) hx hb hts (by decide +kernel) hown hK hP 0 rfl rfl 1 (by decide) (hts (.fieldLink RX1 43 "ThatchRoof" "built" "I") (by decide +kernel)) (fun _ h9 => h9) rfl dX1_build_61 ?_
  refine lv_istore (lv' := [(4, .int 5), (0, .ref h), (1, .int 10), (2, .int 6), (3, .int 30)]) hx hb dX1_build_64 hl (by decide) rfl (fun ls hl => ?_)
  refine lv_aload_n hx hb dX1_build_66 rfl (lv_at hl 1 rfl) ?_
  refine va_get (D := (dC, dI)) (ci := 1) (v := .ref ro) (C := RX1) (T := TX1) (N := 7) hx hb hts (by decide +kernel) hown hK hP 0 rfl rfl 0 (by decide) (hts (.fieldLink RX1 11 "ThatchRoof" "roofs" "[LThatchRoof$Roof;") (by decide +kernel)) (fun _ h9 => h9) rfl dX1_build_67 ?_
  refine lv_iload hx hb dX1_build_70 (lv_at hl 0 rfl) ?_
  refine va_new (ci := 0) (fs := [.int 0, .int 0, .int 0, .int 0, .int 0, .int 0, .null, .null, .null, .null]) (C := RX0) (T := TX0) (N := 10) hx hb hts (by decide +kernel) tyX0 tyX0_ok hown (hts (.classLink RX1 9 RX0) (by decide +kernel)) (hts (.instantiable RX0 10) (by decide +kernel)) (hts (.initialized RX0) (by decide +kernel)) hK hP hD hS hA rfl (fun j hj => by rcases (show j = 0 ∨ j = 1 ∨ j = 2 ∨ j = 3 ∨ j = 4 ∨ j = 5 ∨ j = 6 ∨ j = 7 ∨ j = 8 ∨ j = 9 by omega) with rfl | rfl | rfl | rfl | rfl | rfl | rfl | rfl | rfl | rfl <;> rfl) (Nat.le_of_ble_eq_true rfl) (Nat.le_of_ble_eq_true rfl) dX1_build_72 (fun q8 H hP hD hS => ?_)
  refine W.widen (k := 1) (n := 10) (Nat.le_of_ble_eq_true rfl) (Nat.le_of_ble_eq_true rfl) ?_
  have hP : va_P (dC, dI) vwCl [(h, .inr (1, [.ref ro, .int 5, .ref ba, .ref ra, .ref su, .int 0, .ref tr])), (ro, .inl (cR, 6, .inr (.inr (.inr (.inr fr))))), (q8, .inr (0, [.int 0, .int 0, .int 0, .int 0, .int 0, .int 0, .null, .null, .null, .null]))] H := hP
  have hD : va_D A [(h, .inr (1, [.ref ro, .int 5, .ref ba, .ref ra, .ref su, .int 0, .ref tr])), (ro, .inl (cR, 6, .inr (.inr (.inr (.inr fr))))), (q8, .inr (0, [.int 0, .int 0, .int 0, .int 0, .int 0, .int 0, .null, .null, .null, .null]))] := hD
  refine lv_dup hx hb dX1_build_75 rfl ?_
  refine lv_iload_n hx hb dX1_build_76 rfl (lv_at hl 2 rfl) ?_
  refine lv_iload_n hx hb dX1_build_77 rfl (lv_at hl 3 rfl) ?_
  refine lv_iload_n hx hb dX1_build_78 rfl (lv_at hl 4 rfl) ?_
  have hPc := hP.sub (ws' := [(q8, .inr (0, [.int 0, .int 0, .int 0, .int 0, .int 0, .int 0, .null, .null, .null, .null]))]) [2] rfl
  have hKc := hK.sub (tys' := []) [] rfl
  have hDc := hD.sub (ws' := [(q8, .inr (0, [.int 0, .int 0, .int 0, .int 0, .int 0, .int 0, .null, .null, .null, .null]))]) [2] (by decide) rfl
  have hFc := va_free (wc := [(q8, .inr (0, [.int 0, .int 0, .int 0, .int 0, .int 0, .int 0, .null, .null, .null, .null]))]) hD hS hA [2] rfl
  refine va_callv (va_runI (As := [.int 10, .int 6, .int 30]) (rest := [.ref q8, .int 5, .ref ro]) ⟨hx, hb, hml, hown, hts⟩ (k0_init l dC dI H.size q8 10 6 30 ) (cwI 3 hts gX1_build_X0_init rfl rfl rfl (hts (.initialized RX0) (by decide +kernel)) (hts (.methodLink RX1 25 yX0_init) (by decide +kernel)) (hts (.instanceMethod yX0_init) (by decide +kernel)) rfl (by decide +kernel) ⟨Nat.le_of_ble_eq_true rfl, Nat.le_of_ble_eq_true rfl⟩) ⟨fun a U g mk q => by obtain ⟨q0, q1, qP, qK, qD⟩ := q; exact ⟨q0, q1, qP, va_K.moved (u := U) (U := U.calling g mk a) (Vm.Alike.refl U.vm) qK, qD⟩, fun U hU hW => ⟨rfl, by rw [hU], by rw [hU]; exact hPc, va_K.moved hW.alike hKc, hDc.weaken (fun _ _ _ _ => trivial)⟩⟩ rfl rfl hl.1 rfl (lv_room (Nat.le_of_ble_eq_true rfl)) dX1_build_79 ⟨Nat.le_of_ble_eq_true rfl, Nat.le_of_ble_eq_true rfl⟩) hS (fun q _ h => hFc q h) hFc (fun u t H1 locs ht hvm hr9 hB hz1 hk1 hS => ?_)
  obtain ⟨k__10, t__11, p__12, m__13, c1__14, c2__15, c3__16, c4__17⟩ := u
  obtain ⟨hP1, hK1, hD1⟩ := hB
  rw [ht] at hP1
  have hK1 := va_K.moved hvm.symm hK1
  try dsimp only at hr9
  obtain ⟨hP, hD⟩ := va_join (wr := [(h, .inr (1, [.ref ro, .int 5, .ref ba, .ref ra, .ref su, .int 0, .ref tr])), (ro, .inl (cR, 6, .inr (.inr (.inr (.inr fr)))))]) (w1 := [(q8, .inr (0, [.int 10, .int 6, .int 30, .int 100, .int 0, .int 0, .ref k__10, .ref t__11, .ref p__12, .ref m__13])), (k__10, .inl (c1__14, 60, .inl (fun _ => 0))), (t__11, .inl (c2__15, 60, .inl (fun _ => 0))), (p__12, .inl (c3__16, 60, .inl (fun _ => 0))), (m__13, .inl (c4__17, 60, .inl (fun _ => 0)))]) hP hD [2] [0, 1] rfl rfl (by decide) (by decide) hk1 hFc hP1 hD1
  have hK := hK.app hK1
  have hK : va_K (dC, dI) vwCl [(cR, .object RX0), (c1__14, .int), (c2__15, .int), (c3__16, .int), (c4__17, .int)] s := hK
  generalize H1 = H at hP hS ⊢
  have hP : va_P (dC, dI) vwCl [(h, .inr (1, [.ref ro, .int 5, .ref ba, .ref ra, .ref su, .int 0, .ref tr])), (ro, .inl (cR, 6, .inr (.inr (.inr (.inr fr))))), (q8, .inr (0, [.int 10, .int 6, .int 30, .int 100, .int 0, .int 0, .ref k__10, .ref t__11, .ref p__12, .ref m__13])), (k__10, .inl (c1__14, 60, .inl (fun _ => 0))), (t__11, .inl (c2__15, 60, .inl (fun _ => 0))), (p__12, .inl (c3__16, 60, .inl (fun _ => 0))), (m__13, .inl (c4__17, 60, .inl (fun _ => 0)))] H := hP
  have hD : va_D A [(h, .inr (1, [.ref ro, .int 5, .ref ba, .ref ra, .ref su, .int 0, .ref tr])), (ro, .inl (cR, 6, .inr (.inr (.inr (.inr fr))))), (q8, .inr (0, [.int 10, .int 6, .int 30, .int 100, .int 0, .int 0, .ref k__10, .ref t__11, .ref p__12, .ref m__13])), (k__10, .inl (c1__14, 60, .inl (fun _ => 0))), (t__11, .inl (c2__15, 60, .inl (fun _ => 0))), (p__12, .inl (c3__16, 60, .inl (fun _ => 0))), (m__13, .inl (c4__17, 60, .inl (fun _ => 0)))] := hD
  refine W.widen (k := 5) (n := 250) (Nat.le_of_ble_eq_true rfl) (Nat.le_of_ble_eq_true rfl) ?_
  obtain - := hr9
  refine va_astq hx hb hK hP hD hS 1 0 2 0 rfl rfl rfl rfl (vp_in_nI (n := 5) (by decide) (by decide)) dX1_build_82 (fun H locs hP hD hS => ?_)
  have hP : va_P (dC, dI) vwCl [(h, .inr (1, [.ref ro, .int 5, .ref ba, .ref ra, .ref su, .int 0, .ref tr])), (ro, .inl (cR, 6, .inr (.inr (.inr (.inr (va_up fr 5 (some q8))))))), (q8, .inr (0, [.int 10, .int 6, .int 30, .int 100, .int 0, .int 0, .ref k__10, .ref t__11, .ref p__12, .ref m__13])), (k__10, .inl (c1__14, 60, .inl (fun _ => 0))), (t__11, .inl (c2__15, 60, .inl (fun _ => 0))), (p__12, .inl (c3__16, 60, .inl (fun _ => 0))), (m__13, .inl (c4__17, 60, .inl (fun _ => 0)))] H := hP
  have hD : va_D A [(h, .inr (1, [.ref ro, .int 5, .ref ba, .ref ra, .ref su, .int 0, .ref tr])), (ro, .inl (cR, 6, .inr (.inr (.inr (.inr (va_up fr 5 (some q8))))))), (q8, .inr (0, [.int 10, .int 6, .int 30, .int 100, .int 0, .int 0, .ref k__10, .ref t__11, .ref p__12, .ref m__13])), (k__10, .inl (c1__14, 60, .inl (fun _ => 0))), (t__11, .inl (c2__15, 60, .inl (fun _ => 0))), (p__12, .inl (c3__16, 60, .inl (fun _ => 0))), (m__13, .inl (c4__17, 60, .inl (fun _ => 0)))] := hD
  refine lv_aload_n hx hb dX1_build_83 rfl (lv_at hl 1 rfl) ?_
  refine lv_dup hx hb dX1_build_84 rfl ?_
  refine va_get (D := (dC, dI)) (ci := 1) (v := .int 5) (C := RX1) (T := TX1) (N := 7) hx hb hts (by decide +kernel) hown hK hP 0 rfl rfl 1 (by decide) (hts (.fieldLink RX1 43 "ThatchRoof" "built" "I") (by decide +kernel)) (fun _ h9 => h9) rfl dX1_build_85 ?_
  refine lv_iconst (v := 1) hx hb dX1_build_88 (by decide) ?_
  refine lv_iadd hx hb dX1_build_89 ?_
  refine W.eq (g2 := F0 m 90 ls [.int 6, .ref h]) rfl ?_
  refine va_put (D := (dC, dI)) (ci := 1) (v := .int 6) (ty := .int) (C := RX1) (T := TX1) (N := 7) hx hb hts (by decide +kernel) tyX1 tyX1_ok nmX1 hown hK hP hD hS 0 rfl rfl 1 (by decide) (hts (.fieldLink RX1 43 "ThatchRoof" "built" "I") (by decide +kernel)) (fun _ h9 => h9) rfl (by decide +kernel) rfl rfl (Nat.le_of_ble_eq_true rfl) dX1_build_90 (fun H locs hP hD hS => ?_)
  have hP : va_P (dC, dI) vwCl [(h, .inr (1, [.ref ro, .int 6, .ref ba, .ref ra, .ref su, .int 0, .ref tr])), (ro, .inl (cR, 6, .inr (.inr (.inr (.inr (va_up fr 5 (some q8))))))), (q8, .inr (0, [.int 10, .int 6, .int 30, .int 100, .int 0, .int 0, .ref k__10, .ref t__11, .ref p__12, .ref m__13])), (k__10, .inl (c1__14, 60, .inl (fun _ => 0))), (t__11, .inl (c2__15, 60, .inl (fun _ => 0))), (p__12, .inl (c3__16, 60, .inl (fun _ => 0))), (m__13, .inl (c4__17, 60, .inl (fun _ => 0)))] H := hP
  have hD : va_D A [(h, .inr (1, [.ref ro, .int 6, .ref ba, .ref ra, .ref su, .int 0, .ref tr])), (ro, .inl (cR, 6, .inr (.inr (.inr (.inr (va_up fr 5 (some q8))))))), (q8, .inr (0, [.int 10, .int 6, .int 30, .int 100, .int 0, .int 0, .ref k__10, .ref t__11, .ref p__12, .ref m__13])), (k__10, .inl (c1__14, 60, .inl (fun _ => 0))), (t__11, .inl (c2__15, 60, .inl (fun _ => 0))), (p__12, .inl (c3__16, 60, .inl (fun _ => 0))), (m__13, .inl (c4__17, 60, .inl (fun _ => 0)))] := hD
  refine lv_iload hx hb dX1_build_93 (lv_at hl 0 rfl) ?_
  have hP9 := hP.sub (ws' := [(h, .inr (1, [.ref ro, .int 6, .ref ba, .ref ra, .ref su, .int 0, .ref tr])), (ro, .inl (cR, 6, .inr (.inr (.inr (.inr (va_up fr 5 (some q8))))))), (q8, .inr (0, [.int 10, .int 6, .int 30, .int 100, .int 0, .int 0, .ref k__10, .ref t__11, .ref p__12, .ref m__13])), (t__11, .inl (c2__15, 60, .inl (fun _ => 0)))]) [0, 1, 2, 4] rfl
  have hD9 := hD.sub (ws' := [(h, .inr (1, [.ref ro, .int 6, .ref ba, .ref ra, .ref su, .int 0, .ref tr])), (ro, .inl (cR, 6, .inr (.inr (.inr (.inr (va_up fr 5 (some q8))))))), (q8, .inr (0, [.int 10, .int 6, .int 30, .int 100, .int 0, .int 0, .ref k__10, .ref t__11, .ref p__12, .ref m__13])), (t__11, .inl (c2__15, 60, .inl (fun _ => 0)))]) [0, 1, 2, 4] (by decide) rfl
  have hK9 := hK.sub (tys' := [(c2__15, .int)]) [2] rfl
  refine W.widen (k := 5) (n := 250) (Nat.le_of_ble_eq_true rfl) (Nat.le_of_ble_eq_true rfl) ?_
  exact W.iret (v := 5) hx hb hr (fun t ht hW => ⟨⟨5, (q8, k__10, t__11, p__12, m__13, c2__15), rfl, by (first | rfl | assumption | decide | (simp_all; done) | grind), ⟨by rw [ht]; exact hP9, va_K.moved hW.alike hK9, hD9⟩⟩, hS.F ht⟩) hS.2.2 dX1_build_95

set_option maxHeartbeats 4000000 in
set_option maxRecDepth 100000 in
theorem rL_build5 (l : Launch) (dC : Nat → ClassId) (dI : Nat → Nat → Nat) (sz : Nat) (h : Nat) (ro : Nat) (ba : Nat) (ra : Nat) (su : Nat) (tr : Nat) (cR : ClassId) (fr : Nat → Option Nat) (ou : Nat) (cO : ClassId) (fp : Nat → Int64) : Met l yL_build wsL_build ({ frames := 3, cells := 5, slots := 250, locals := 59 }) (va_Pc [.ref h, .int 10, .int 6, .int 30, .ref ou] (fun U => U.heap.size = sz ∧ va_P (dC, dI) vwCl [(h, .inr (1, [.ref ro, .int 5, .ref ba, .ref ra, .ref su, .int 0, .ref tr])), (ro, .inl (cR, 6, .inr (.inr (.inr (.inr fr))))), (ou, .inl (cO, 1, .inr (.inl fp)))] U.heap ∧ va_K (dC, dI) vwCl [(cR, .object RX0), (cO, .long)] U ∧ va_D (fun _ => True) [(h, .inr (1, [.ref ro, .int 5, .ref ba, .ref ra, .ref su, .int 0, .ref tr])), (ro, .inl (cR, 6, .inr (.inr (.inr (.inr fr))))), (ou, .inl (cO, 1, .inr (.inl fp)))])) (va_Qi (fun (r : Int32) (u : Nat × Nat × Nat × Nat × Nat × ClassId) => r = 0) (fun (u : Nat × Nat × Nat × Nat × Nat × ClassId) (t : State) => va_P (dC, dI) vwCl [(h, .inr (1, [.ref ro, .int 6, .ref ba, .ref ra, .ref su, .int 0, .ref tr])), (ro, .inl (cR, 6, .inr (.inr (.inr (.inr (va_up fr 5 (some u.1))))))), (u.1, .inr (0, [.int 10, .int 6, .int 30, .int 100, .int 0, .int 0, .ref u.2.1, .ref u.2.2.1, .ref u.2.2.2.1, .ref u.2.2.2.2.1])), (u.2.2.1, .inl (u.2.2.2.2.2, 60, .inl (fun _ => 0))), (ou, .inl (cO, 1, .inr (.inl (vp_updL fp 0 5))))] t.heap ∧ va_K (dC, dI) vwCl [(u.2.2.2.2.2, .int)] t ∧ va_D (va_A [(h, .inr (1, [.ref ro, .int 5, .ref ba, .ref ra, .ref su, .int 0, .ref tr])), (ro, .inl (cR, 6, .inr (.inr (.inr (.inr fr))))), (ou, .inl (cO, 1, .inr (.inl fp)))] sz) [(h, .inr (1, [.ref ro, .int 6, .ref ba, .ref ra, .ref su, .int 0, .ref tr])), (ro, .inl (cR, 6, .inr (.inr (.inr (.inr (va_up fr 5 (some u.1))))))), (u.1, .inr (0, [.int 10, .int 6, .int 30, .int 100, .int 0, .int 0, .ref u.2.1, .ref u.2.2.1, .ref u.2.2.2.1, .ref u.2.2.2.2.1])), (u.2.2.1, .inl (u.2.2.2.2.2, 60, .inl (fun _ => 0))), (ou, .inl (cO, 1, .inr (.inl (vp_updL fp 0 5))))]) (va_A [(h, .inr (1, [.ref ro, .int 5, .ref ba, .ref ra, .ref su, .int 0, .ref tr])), (ro, .inl (cR, 6, .inr (.inr (.inr (.inr fr))))), (ou, .inl (cO, 1, .inr (.inl fp)))] sz)) 5 250 (va_A [(h, .inr (1, [.ref ro, .int 5, .ref ba, .ref ra, .ref su, .int 0, .ref tr])), (ro, .inl (cR, 6, .inr (.inr (.inr (.inr fr))))), (ou, .inl (cO, 1, .inr (.inl fp)))] sz) := by
  refine va_MetW (cc := cL_build) (maxL := 6) (ret := (some .int)) (by decide) rfl ?_
  intro p e s m args below meth c s₁ B hml hv
  obtain ⟨rfl, hsz, hP, hK, hD0⟩ := hv
  have hx := B.exec
  have hb := B.bytes
  have hr := B.returns
  have hts := atoms_spec (ws := wsL_build) B.pre
  have hown : s.vm.findClass RL = some m.cls := findClass_of_methodNamed B.named
  have hlocks := B.notSynchronized
  have htab := vx_table (x := yL_build) B (hts (.codeWith yL_build cL_build 6 (some .int) [(0, 12, 15, 13), (0, 12, 19, 15)]) List.mem_cons_self)
  subst hsz
  have hD := hD0.self (sz := s.heap.size)
  generalize hAe : va_A [(h, .inr (1, [.ref ro, .int 5, .ref ba, .ref ra, .ref su, .int 0, .ref tr])), (ro, .inl (cR, 6, .inr (.inr (.inr (.inr fr))))), (ou, .inl (cO, 1, .inr (.inl fp)))] s.heap.size = A at hD ⊢
  have hA : ∀ q : Nat, s.heap.size ≤ q → A q := fun q h => by rw [← hAe]; exact Or.inr h
  have hS : va_S A s.heap s.heap [] := va_S.rf
  have hP : va_P (dC, dI) vwCl [(h, .inr (1, [.ref ro, .int 5, .ref ba, .ref ra, .ref su, .int 0, .ref tr])), (ro, .inl (cR, 6, .inr (.inr (.inr (.inr fr))))), (ou, .inl (cO, 1, .inr (.inl fp)))] s.heap := hP
  have hl := lv_entry ([.ref h, .int 10, .int 6, .int 30, .ref ou]) (n := 6) (Nat.le_of_ble_eq_true rfl)
  rw [lg_entry_eq]
  generalize (lg_sl ([.ref h, .int 10, .int 6, .int 30, .ref ou]) ++ List.replicate (6 - (lg_sl ([.ref h, .int 10, .int 6, .int 30, .ref ou])).length) Slot.unset).toArray = ls at hl ⊢
  have hl : lv_has ls 6 [(0, .ref h), (1, .int 10), (2, .int 6), (3, .int 30), (4, .ref ou)] := hl
  refine lv_aload hx hb dL_build_0 (lv_at hl 4 rfl) ?_
  refine lv_iconst (v := 0) hx hb dL_build_2 (by decide) ?_
  refine lv_aload_n hx hb dL_build_3 rfl (lv_at hl 0 rfl) ?_
  refine lv_iload_n hx hb dL_build_4 rfl (lv_at hl 1 rfl) ?_
  refine lv_iload_n hx hb dL_build_5 rfl (lv_at hl 2 rfl) ?_
  refine lv_iload_n hx hb dL_build_6 rfl (lv_at hl 3 rfl) ?_
  have hPc := hP.sub (ws' := [(h, .inr (1, [.ref ro, .int 5, .ref ba, .ref ra, .ref su, .int 0, .ref tr])), (ro, .inl (cR, 6, .inr (.inr (.inr (.inr fr)))))]) [0, 1] rfl
  have hKc := hK.sub (tys' := [(cR, .object RX0)]) [0] rfl
  have hDc := hD.sub (ws' := [(h, .inr (1, [.ref ro, .int 5, .ref ba, .ref ra, .ref su, .int 0, .ref tr])), (ro, .inl (cR, 6, .inr (.inr (.inr (.inr fr)))))]) [0, 1] (by decide) rfl
  have hFc := va_free (wc := [(h, .inr (1, [.ref ro, .int 5, .ref ba, .ref ra, .ref su, .int 0, .ref tr])), (ro, .inl (cR, 6, .inr (.inr (.inr (.inr fr)))))]) hD hS hA [0, 1] rfl
  refine va_calli (va_runV (As := [.int 10, .int 6, .int 30]) (rest := [.int 0, .ref ou]) ⟨hx, hb, hml, hown, hts⟩ (r1_build5 l dC dI s.heap.size h ro ba ra su tr cR fr ) (cwV 3 hts gL_build_X1_build rfl rfl rfl (by decide +kernel) ⟨Nat.le_of_ble_eq_true rfl, Nat.le_of_ble_eq_true rfl⟩) ⟨fun a U g mk q => by obtain ⟨q0, q1, qP, qK, qD⟩ := q; exact ⟨q0, q1, qP, va_K.moved (u := U) (U := U.calling g mk a) (Vm.Alike.refl U.vm) qK, qD⟩, va_recv hKc hPc (ci := 1) (q0 := 0) rfl rfl, fun U hU hW => ⟨rfl, by rw [hU], by rw [hU]; exact hPc, va_K.moved hW.alike hKc, hDc.weaken (fun _ _ _ _ => trivial)⟩⟩ rfl rfl hl.1 rfl (lv_room (Nat.le_of_ble_eq_true rfl)) dL_build_7 ⟨Nat.le_of_ble_eq_true rfl, Nat.le_of_ble_eq_true rfl⟩) hS (fun q _ h => hFc q h) hFc (fun r1 u t H1 locs ht hvm hr1 hB hz1 hk1 hS => ?_)
  obtain ⟨qh_2, qk_3, qt_4, qp_5, qm_6, qc_7⟩ := u
  obtain ⟨hP1, hK1, hD1⟩ := hB
  rw [ht] at hP1
  have hK1 := va_K.moved hvm.symm hK1
  try dsimp only at hr1
  obtain ⟨hP, hD⟩ := va_join (wr := [(ou, .inl (cO, 1, .inr (.inl fp)))]) (w1 := [(h, .inr (1, [.ref ro, .int 6, .ref ba, .ref ra, .ref su, .int 0, .ref tr])), (ro, .inl (cR, 6, .inr (.inr (.inr (.inr (va_up fr 5 (some qh_2))))))), (qh_2, .inr (0, [.int 10, .int 6, .int 30, .int 100, .int 0, .int 0, .ref qk_3, .ref qt_4, .ref qp_5, .ref qm_6])), (qt_4, .inl (qc_7, 60, .inl (fun _ => 0)))]) hP hD [0, 1] [2] rfl rfl (by decide) (by decide) hk1 hFc hP1 hD1
  have hK := hK.app hK1
  have hK : va_K (dC, dI) vwCl [(cR, .object RX0), (cO, .long), (qc_7, .int)] s := hK
  generalize H1 = H at hP hS ⊢
  have hP : va_P (dC, dI) vwCl [(ou, .inl (cO, 1, .inr (.inl fp))), (h, .inr (1, [.ref ro, .int 6, .ref ba, .ref ra, .ref su, .int 0, .ref tr])), (ro, .inl (cR, 6, .inr (.inr (.inr (.inr (va_up fr 5 (some qh_2))))))), (qh_2, .inr (0, [.int 10, .int 6, .int 30, .int 100, .int 0, .int 0, .ref qk_3, .ref qt_4, .ref qp_5, .ref qm_6])), (qt_4, .inl (qc_7, 60, .inl (fun _ => 0)))] H := hP
  have hD : va_D A [(ou, .inl (cO, 1, .inr (.inl fp))), (h, .inr (1, [.ref ro, .int 6, .ref ba, .ref ra, .ref su, .int 0, .ref tr])), (ro, .inl (cR, 6, .inr (.inr (.inr (.inr (va_up fr 5 (some qh_2))))))), (qh_2, .inr (0, [.int 10, .int 6, .int 30, .int 100, .int 0, .int 0, .ref qk_3, .ref qt_4, .ref qp_5, .ref qm_6])), (qt_4, .inl (qc_7, 60, .inl (fun _ => 0)))] := hD
  refine W.widen (k := 5) (n := 250) (Nat.le_of_ble_eq_true rfl) (Nat.le_of_ble_eq_true rfl) ?_
  obtain rfl := hr1
  refine lv_i2l (v := 5) hx hb dL_build_10 (by first | rfl | decide) ?_
  refine va_last hx hb hK hP hD hS 0 1 rfl rfl (vp_in_nI (n := 0) (by decide) (by decide)) dL_build_11 (fun H locs hP hD hS => ?_)
  have hP : va_P (dC, dI) vwCl [(ou, .inl (cO, 1, .inr (.inl (vp_updL fp 0 5)))), (h, .inr (1, [.ref ro, .int 6, .ref ba, .ref ra, .ref su, .int 0, .ref tr])), (ro, .inl (cR, 6, .inr (.inr (.inr (.inr (va_up fr 5 (some qh_2))))))), (qh_2, .inr (0, [.int 10, .int 6, .int 30, .int 100, .int 0, .int 0, .ref qk_3, .ref qt_4, .ref qp_5, .ref qm_6])), (qt_4, .inl (qc_7, 60, .inl (fun _ => 0)))] H := hP
  have hD : va_D A [(ou, .inl (cO, 1, .inr (.inl (vp_updL fp 0 5)))), (h, .inr (1, [.ref ro, .int 6, .ref ba, .ref ra, .ref su, .int 0, .ref tr])), (ro, .inl (cR, 6, .inr (.inr (.inr (.inr (va_up fr 5 (some qh_2))))))), (qh_2, .inr (0, [.int 10, .int 6, .int 30, .int 100, .int 0, .int 0, .ref qk_3, .ref qt_4, .ref qp_5, .ref qm_6])), (qt_4, .inl (qc_7, 60, .inl (fun _ => 0)))] := hD
  refine lv_goto (tgt := 23) hx hb dL_build_12 (by decide) ?_
  refine lv_iconst (v := 0) hx hb dL_build_23 (by decide) ?_
  have hP9 := hP.sub (ws' := [(h, .inr (1, [.ref ro, .int 6, .ref ba, .ref ra, .ref su, .int 0, .ref tr])), (ro, .inl (cR, 6, .inr (.inr (.inr (.inr (va_up fr 5 (some qh_2))))))), (qh_2, .inr (0, [.int 10, .int 6, .int 30, .int 100, .int 0, .int 0, .ref qk_3, .ref qt_4, .ref qp_5, .ref qm_6])), (qt_4, .inl (qc_7, 60, .inl (fun _ => 0))), (ou, .inl (cO, 1, .inr (.inl (vp_updL fp 0 5))))]) [1, 2, 3, 4, 0] rfl
  have hD9 := hD.sub (ws' := [(h, .inr (1, [.ref ro, .int 6, .ref ba, .ref ra, .ref su, .int 0, .ref tr])), (ro, .inl (cR, 6, .inr (.inr (.inr (.inr (va_up fr 5 (some qh_2))))))), (qh_2, .inr (0, [.int 10, .int 6, .int 30, .int 100, .int 0, .int 0, .ref qk_3, .ref qt_4, .ref qp_5, .ref qm_6])), (qt_4, .inl (qc_7, 60, .inl (fun _ => 0))), (ou, .inl (cO, 1, .inr (.inl (vp_updL fp 0 5))))]) [1, 2, 3, 4, 0] (by decide) rfl
  have hK9 := hK.sub (tys' := [(qc_7, .int)]) [2] rfl
  refine W.widen (k := 5) (n := 250) (Nat.le_of_ble_eq_true rfl) (Nat.le_of_ble_eq_true rfl) ?_
  exact W.iret (v := 0) hx hb hr (fun t ht hW => ⟨⟨0, (qh_2, qk_3, qt_4, qp_5, qm_6, qc_7), rfl, by (first | rfl | assumption | decide | (simp_all; done) | grind), ⟨by rw [ht]; exact hP9, va_K.moved hW.alike hK9, hD9⟩⟩, hS.F ht⟩) hS.2.2 dL_build_24

set_option maxHeartbeats 4000000 in
set_option maxRecDepth 100000 in
theorem r3_build5 (l : Launch) (dC : Nat → ClassId) (dI : Nat → Nat → Nat) (sz : Nat) (hm : Nat) (wi : Nat) (co : Nat) (sl : Nat) (rn : Nat) (so : Nat) (bn : Nat) (sm : Nat) (ah : Nat) (th : Int32) (gr : Nat) (gt : Nat) (gw : Nat) (gk : Nat) (gi : Nat) (gp : Nat) (go : Nat) (gg : Nat) (d1 : ClassId) (d2 : ClassId) (d3 : ClassId) (d4 : ClassId) (fw : Nat → Int32) (fc : Nat → Int32) (fs : Nat → Int32) (fg : Nat → Int32) : Met l yX3_build wsX3_build ({ frames := 1, cells := 0, slots := 0, locals := 22 }) (va_Pc [.ref hm, .int 10, .int 6, .int 30] (fun U => U.heap.size = sz ∧ va_P (dC, dI) vwCl [(hm, .inr (3, [.int th, .int 5, .ref wi, .ref co, .ref sl, .ref rn, .ref so, .ref bn, .ref sm, .ref ah])), (sm, .inr (2, [.int 0, .ref gr, .ref gt, .ref gw, .ref gk, .ref gi, .ref gp, .ref go, .ref gg, .ref hm])), (wi, .inl (d1, 6, .inl fw)), (co, .inl (d2, 6, .inl fc)), (sl, .inl (d3, 6, .inl fs)), (gr, .inl (d4, 6, .inl fg))] U.heap ∧ va_K (dC, dI) vwCl [(d1, .int), (d2, .int), (d3, .int), (d4, .int)] U ∧ va_D (fun _ => True) [(hm, .inr (3, [.int th, .int 5, .ref wi, .ref co, .ref sl, .ref rn, .ref so, .ref bn, .ref sm, .ref ah])), (sm, .inr (2, [.int 0, .ref gr, .ref gt, .ref gw, .ref gk, .ref gi, .ref gp, .ref go, .ref gg, .ref hm])), (wi, .inl (d1, 6, .inl fw)), (co, .inl (d2, 6, .inl fc)), (sl, .inl (d3, 6, .inl fs)), (gr, .inl (d4, 6, .inl fg))] ∧ zNs U)) (va_Qi (fun (r : Int32) (u : Unit) => r = 5) (fun (u : Unit) (t : State) => va_P (dC, dI) vwCl [(hm, .inr (3, [.int 0, .int 6, .ref wi, .ref co, .ref sl, .ref rn, .ref so, .ref bn, .ref sm, .ref ah])), (sm, .inr (2, [.int 0, .ref gr, .ref gt, .ref gw, .ref gk, .ref gi, .ref gp, .ref go, .ref gg, .ref hm])), (wi, .inl (d1, 6, .inl (upd fw 5 10))), (co, .inl (d2, 6, .inl (upd fc 5 6))), (sl, .inl (d3, 6, .inl (upd fs 5 30))), (gr, .inl (d4, 6, .inl (upd fg 5 100)))] t.heap ∧ va_K (dC, dI) vwCl [] t ∧ va_D (va_A [(hm, .inr (3, [.int th, .int 5, .ref wi, .ref co, .ref sl, .ref rn, .ref so, .ref bn, .ref sm, .ref ah])), (sm, .inr (2, [.int 0, .ref gr, .ref gt, .ref gw, .ref gk, .ref gi, .ref gp, .ref go, .ref gg, .ref hm])), (wi, .inl (d1, 6, .inl fw)), (co, .inl (d2, 6, .inl fc)), (sl, .inl (d3, 6, .inl fs)), (gr, .inl (d4, 6, .inl fg))] sz) [(hm, .inr (3, [.int 0, .int 6, .ref wi, .ref co, .ref sl, .ref rn, .ref so, .ref bn, .ref sm, .ref ah])), (sm, .inr (2, [.int 0, .ref gr, .ref gt, .ref gw, .ref gk, .ref gi, .ref gp, .ref go, .ref gg, .ref hm])), (wi, .inl (d1, 6, .inl (upd fw 5 10))), (co, .inl (d2, 6, .inl (upd fc 5 6))), (sl, .inl (d3, 6, .inl (upd fs 5 30))), (gr, .inl (d4, 6, .inl (upd fg 5 100)))]) (va_A [(hm, .inr (3, [.int th, .int 5, .ref wi, .ref co, .ref sl, .ref rn, .ref so, .ref bn, .ref sm, .ref ah])), (sm, .inr (2, [.int 0, .ref gr, .ref gt, .ref gw, .ref gk, .ref gi, .ref gp, .ref go, .ref gg, .ref hm])), (wi, .inl (d1, 6, .inl fw)), (co, .inl (d2, 6, .inl fc)), (sl, .inl (d3, 6, .inl fs)), (gr, .inl (d4, 6, .inl fg))] sz)) 0 0 (va_A [(hm, .inr (3, [.int th, .int 5, .ref wi, .ref co, .ref sl, .ref rn, .ref so, .ref bn, .ref sm, .ref ah])), (sm, .inr (2, [.int 0, .ref gr, .ref gt, .ref gw, .ref gk, .ref gi, .ref gp, .ref go, .ref gg, .ref hm])), (wi, .inl (d1, 6, .inl fw)), (co, .inl (d2, 6, .inl fc)), (sl, .inl (d3, 6, .inl fs)), (gr, .inl (d4, 6, .inl fg))] sz) := by
  refine Met.ofW (cc := cX3_build) (maxL := 4) (ret := (some .int)) (by decide) rfl ?_
  intro p e s m args below meth c s₁ B hml hv
  obtain ⟨rfl, hsz, hP, hK, hD0, hZN⟩ := hv
  have hx := B.exec
  have hb := B.bytes
  have hr := B.returns
  have hts := atoms_spec (ws := wsX3_build) B.pre
  have hown : s.vm.findClass RX3 = some m.cls := findClass_of_methodNamed B.named
  have hlocks := B.notSynchronized
  subst hsz
  have hD := hD0.self (sz := s.heap.size)
  generalize hAe : va_A [(hm, .inr (3, [.int th, .int 5, .ref wi, .ref co, .ref sl, .ref rn, .ref so, .ref bn, .ref sm, .ref ah])), (sm, .inr (2, [.int 0, .ref gr, .ref gt, .ref gw, .ref gk, .ref gi, .ref gp, .ref go, .ref gg, .ref hm])), (wi, .inl (d1, 6, .inl fw)), (co, .inl (d2, 6, .inl fc)), (sl, .inl (d3, 6, .inl fs)), (gr, .inl (d4, 6, .inl fg))] s.heap.size = A at hD ⊢
  have hA : ∀ q : Nat, s.heap.size ≤ q → A q := fun q h => by rw [← hAe]; exact Or.inr h
  have hS : va_S A s.heap s.heap [] := va_S.rf
  have hP : va_P (dC, dI) vwCl [(hm, .inr (3, [.int th, .int 5, .ref wi, .ref co, .ref sl, .ref rn, .ref so, .ref bn, .ref sm, .ref ah])), (sm, .inr (2, [.int 0, .ref gr, .ref gt, .ref gw, .ref gk, .ref gi, .ref gp, .ref go, .ref gg, .ref hm])), (wi, .inl (d1, 6, .inl fw)), (co, .inl (d2, 6, .inl fc)), (sl, .inl (d3, 6, .inl fs)), (gr, .inl (d4, 6, .inl fg))] s.heap := hP
  have hl := lv_entry ([.ref hm, .int 10, .int 6, .int 30]) (n := 4) (Nat.le_of_ble_eq_true rfl)
  rw [lg_entry_eq]
  generalize (lg_sl ([.ref hm, .int 10, .int 6, .int 30]) ++ List.replicate (4 - (lg_sl ([.ref hm, .int 10, .int 6, .int 30])).length) Slot.unset).toArray = ls at hl ⊢
  have hl : lv_has ls 4 [(0, .ref hm), (1, .int 10), (2, .int 6), (3, .int 30)] := hl
  refine lv_aload_n hx hb dX3_build_0 rfl (lv_at hl 0 rfl) ?_
  refine lv_iconst (v := 0) hx hb dX3_build_1 (by decide) ?_
  refine va_put (D := (dC, dI)) (ci := 3) (v := .int 0) (ty := .int) (C := RX3) (T := TX3) (N := 10) hx hb hts (by decide +kernel) tyX3 tyX3_ok nmX3 hown hK hP hD hS 0 rfl rfl 0 (by decide) (hts (.fieldLink RX3 40 "ThatchRoofModel" "thrown" "I") (by decide +kernel)) (fun _ h9 => h9) rfl (by decide +kernel) rfl rfl (Nat.le_of_ble_eq_true rfl) dX3_build_2 (fun H locs hP hD hS => ?_)
  have hP : va_P (dC, dI) vwCl [(hm, .inr (3, [.int 0, .int 5, .ref wi, .ref co, .ref sl, .ref rn, .ref so, .ref bn, .ref sm, .ref ah])), (sm, .inr (2, [.int 0, .ref gr, .ref gt, .ref gw, .ref gk, .ref gi, .ref gp, .ref go, .ref gg, .ref hm])), (wi, .inl (d1, 6, .inl fw)), (co, .inl (d2, 6, .inl fc)), (sl, .inl (d3, 6, .inl fs)), (gr, .inl (d4, 6, .inl fg))] H := hP
  have hD : va_D A [(hm, .inr (3, [.int 0, .int 5, .ref wi, .ref co, .ref sl, .ref rn, .ref so, .ref bn, .ref sm, .ref ah])), (sm, .inr (2, [.int 0, .ref gr, .ref gt, .ref gw, .ref gk, .ref gi, .ref gp, .ref go, .ref gg, .ref hm])), (wi, .inl (d1, 6, .inl fw)), (co, .inl (d2, 6, .inl fc)), (sl, .inl (d3, 6, .inl fs)), (gr, .inl (d4, 6, .inl fg))] := hD
  refine lv_iload_n hx hb dX3_build_5 rfl (lv_at hl 1 rfl) ?_
  refine lv_iconst (v := 2) hx hb dX3_build_6 (by decide) ?_
  refine lv_bipush (v := 10) hx hb dX3_build_7 (by decide) ?_
  refine vp_callSi (va_runS (As := [.int 10, .int 2, .int 10]) (rest := []) ⟨hx, hb, hml, hown, hts⟩ (r3_isIn10 l dC dI  ) (va_cwS 3 hts gX3_build_X3_isIn rfl rfl rfl (by decide +kernel) ⟨Nat.le_of_ble_eq_true rfl, Nat.le_of_ble_eq_true rfl⟩) ⟨fun a U g mk q => q, fun U hU hW => ⟨rfl, trivial⟩⟩ rfl rfl hl.1 rfl (lv_room (Nat.le_of_ble_eq_true rfl)) dX3_build_9 ⟨Nat.le_of_ble_eq_true rfl, Nat.le_of_ble_eq_true rfl⟩).run (fun r1 hr1 => ?_)
  obtain rfl := hr1
  refine lv_if_eq (tgt := 36) hx hb dX3_build_12 (by decide) (fun c2 => absurd c2 (by decide)) (fun c2 => ?_)
  refine lv_iload_n hx hb dX3_build_15 rfl (lv_at hl 2 rfl) ?_
  refine lv_iconst (v := 2) hx hb dX3_build_16 (by decide) ?_
  refine lv_bipush (v := 6) hx hb dX3_build_17 (by decide) ?_
  refine vp_callSi (va_runS (As := [.int 6, .int 2, .int 6]) (rest := []) ⟨hx, hb, hml, hown, hts⟩ (r3_isIn6 l dC dI  ) (va_cwS 3 hts gX3_build_X3_isIn rfl rfl rfl (by decide +kernel) ⟨Nat.le_of_ble_eq_true rfl, Nat.le_of_ble_eq_true rfl⟩) ⟨fun a U g mk q => q, fun U hU hW => ⟨rfl, trivial⟩⟩ rfl rfl hl.1 rfl (lv_room (Nat.le_of_ble_eq_true rfl)) dX3_build_19 ⟨Nat.le_of_ble_eq_true rfl, Nat.le_of_ble_eq_true rfl⟩).run (fun r3 hr3 => ?_)
  obtain rfl := hr3
  refine lv_if_eq (tgt := 36) hx hb dX3_build_22 (by decide) (fun c4 => absurd c4 (by decide)) (fun c4 => ?_)
  refine lv_iload_n hx hb dX3_build_25 rfl (lv_at hl 3 rfl) ?_
  refine lv_bipush (v := 30) hx hb dX3_build_26 (by decide) ?_
  refine lv_bipush (v := 60) hx hb dX3_build_28 (by decide) ?_
  refine vp_callSi (va_runS (As := [.int 30, .int 30, .int 60]) (rest := []) ⟨hx, hb, hml, hown, hts⟩ (r3_isIn30 l dC dI  ) (va_cwS 3 hts gX3_build_X3_isIn rfl rfl rfl (by decide +kernel) ⟨Nat.le_of_ble_eq_true rfl, Nat.le_of_ble_eq_true rfl⟩) ⟨fun a U g mk q => q, fun U hU hW => ⟨rfl, trivial⟩⟩ rfl rfl hl.1 rfl (lv_room (Nat.le_of_ble_eq_true rfl)) dX3_build_30 ⟨Nat.le_of_ble_eq_true rfl, Nat.le_of_ble_eq_true rfl⟩).run (fun r5 hr5 => ?_)
  obtain rfl := hr5
  refine lv_if_ne (tgt := 42) hx hb dX3_build_33 (by decide) (fun c6 => ?_) (fun c6 => absurd c6 (by decide))
  refine lv_aload_n hx hb dX3_build_42 rfl (lv_at hl 0 rfl) ?_
  refine va_get (D := (dC, dI)) (ci := 3) (v := .int 5) (C := RX3) (T := TX3) (N := 10) hx hb hts (by decide +kernel) hown hK hP 0 rfl rfl 1 (by decide) (hts (.fieldLink RX3 44 "ThatchRoofModel" "roofs" "I") (by decide +kernel)) (fun _ h9 => h9) rfl dX3_build_43 ?_
  refine lv_bipush (v := 6) hx hb dX3_build_46 (by decide) ?_
  refine lv_icmp_ne (tgt := 57) hx hb dX3_build_48 (by decide) (fun c7 => ?_) (fun c7 => absurd c7 (by decide))
  refine lv_aload_n hx hb dX3_build_57 rfl (lv_at hl 0 rfl) ?_
  refine va_get (D := (dC, dI)) (ci := 3) (v := .ref wi) (C := RX3) (T := TX3) (N := 10) hx hb hts (by decide +kernel) hown hK hP 0 rfl rfl 2 (by decide) (hts (.fieldLink RX3 9 "ThatchRoofModel" "width" "[I") (by decide +kernel)) (fun _ h9 => h9) rfl dX3_build_58 ?_
  refine lv_aload_n hx hb dX3_build_61 rfl (lv_at hl 0 rfl) ?_
  refine va_get (D := (dC, dI)) (ci := 3) (v := .int 5) (C := RX3) (T := TX3) (N := 10) hx hb hts (by decide +kernel) hown hK hP 0 rfl rfl 1 (by decide) (hts (.fieldLink RX3 44 "ThatchRoofModel" "roofs" "I") (by decide +kernel)) (fun _ h9 => h9) rfl dX3_build_62 ?_
  refine lv_iload_n hx hb dX3_build_65 rfl (lv_at hl 1 rfl) ?_
  refine va_iast hx hb hK hP hD hS 2 0 rfl rfl (vp_in_nI (n := 5) (by decide) (by decide)) dX3_build_66 (fun H locs hP hD hS => ?_)
  have hP : va_P (dC, dI) vwCl [(hm, .inr (3, [.int 0, .int 5, .ref wi, .ref co, .ref sl, .ref rn, .ref so, .ref bn, .ref sm, .ref ah])), (sm, .inr (2, [.int 0, .ref gr, .ref gt, .ref gw, .ref gk, .ref gi, .ref gp, .ref go, .ref gg, .ref hm])), (wi, .inl (d1, 6, .inl (upd fw 5 10))), (co, .inl (d2, 6, .inl fc)), (sl, .inl (d3, 6, .inl fs)), (gr, .inl (d4, 6, .inl fg))] H := hP
  have hD : va_D A [(hm, .inr (3, [.int 0, .int 5, .ref wi, .ref co, .ref sl, .ref rn, .ref so, .ref bn, .ref sm, .ref ah])), (sm, .inr (2, [.int 0, .ref gr, .ref gt, .ref gw, .ref gk, .ref gi, .ref gp, .ref go, .ref gg, .ref hm])), (wi, .inl (d1, 6, .inl (upd fw 5 10))), (co, .inl (d2, 6, .inl fc)), (sl, .inl (d3, 6, .inl fs)), (gr, .inl (d4, 6, .inl fg))] := hD
  refine lv_aload_n hx hb dX3_build_67 rfl (lv_at hl 0 rfl) ?_
  refine va_get (D := (dC, dI)) (ci := 3) (v := .ref co) (C := RX3) (T := TX3) (N := 10) hx hb hts (by decide +kernel) hown hK hP 0 rfl rfl 3 (by decide) (hts (.fieldLink RX3 13 "ThatchRoofModel" "courses" "[I") (by decide +kernel)) (fun _ h9 => h9) rfl dX3_build_68 ?_
  refine lv_aload_n hx hb dX3_build_71 rfl (lv_at hl 0 rfl) ?_
  refine va_get (D := (dC, dI)) (ci := 3) (v := .int 5) (C := RX3) (T := TX3) (N := 10) hx hb hts (by decide +kernel) hown hK hP 0 rfl rfl 1 (by decide) (hts (.fieldLink RX3 44 "ThatchRoofModel" "roofs" "I") (by decide +kernel)) (fun _ h9 => h9) rfl dX3_build_72 ?_
  refine lv_iload_n hx hb dX3_build_75 rfl (lv_at hl 2 rfl) ?_
  refine va_iast hx hb hK hP hD hS 3 1 rfl rfl (vp_in_nI (n := 5) (by decide) (by decide)) dX3_build_76 (fun H locs hP hD hS => ?_)
  have hP : va_P (dC, dI) vwCl [(hm, .inr (3, [.int 0, .int 5, .ref wi, .ref co, .ref sl, .ref rn, .ref so, .ref bn, .ref sm, .ref ah])), (sm, .inr (2, [.int 0, .ref gr, .ref gt, .ref gw, .ref gk, .ref gi, .ref gp, .ref go, .ref gg, .ref hm])), (wi, .inl (d1, 6, .inl (upd fw 5 10))), (co, .inl (d2, 6, .inl (upd fc 5 6))), (sl, .inl (d3, 6, .inl fs)), (gr, .inl (d4, 6, .inl fg))] H := hP
  have hD : va_D A [(hm, .inr (3, [.int 0, .int 5, .ref wi, .ref co, .ref sl, .ref rn, .ref so, .ref bn, .ref sm, .ref ah])), (sm, .inr (2, [.int 0, .ref gr, .ref gt, .ref gw, .ref gk, .ref gi, .ref gp, .ref go, .ref gg, .ref hm])), (wi, .inl (d1, 6, .inl (upd fw 5 10))), (co, .inl (d2, 6, .inl (upd fc 5 6))), (sl, .inl (d3, 6, .inl fs)), (gr, .inl (d4, 6, .inl fg))] := hD
  refine lv_aload_n hx hb dX3_build_77 rfl (lv_at hl 0 rfl) ?_
  refine va_get (D := (dC, dI)) (ci := 3) (v := .ref sl) (C := RX3) (T := TX3) (N := 10) hx hb hts (by decide +kernel) hown hK hP 0 rfl rfl 4 (by decide) (hts (.fieldLink RX3 16 "ThatchRoofModel" "slope" "[I") (by decide +kernel)) (fun _ h9 => h9) rfl dX3_build_78 ?_
  refine lv_aload_n hx hb dX3_build_81 rfl (lv_at hl 0 rfl) ?_
  refine va_get (D := (dC, dI)) (ci := 3) (v := .int 5) (C := RX3) (T := TX3) (N := 10) hx hb hts (by decide +kernel) hown hK hP 0 rfl rfl 1 (by decide) (hts (.fieldLink RX3 44 "ThatchRoofModel" "roofs" "I") (by decide +kernel)) (fun _ h9 => h9) rfl dX3_build_82 ?_
  refine lv_iload_n hx hb dX3_build_85 rfl (lv_at hl 3 rfl) ?_
  refine va_iast hx hb hK hP hD hS 4 2 rfl rfl (vp_in_nI (n := 5) (by decide) (by decide)) dX3_build_86 (fun H locs hP hD hS => ?_)
  have hP : va_P (dC, dI) vwCl [(hm, .inr (3, [.int 0, .int 5, .ref wi, .ref co, .ref sl, .ref rn, .ref so, .ref bn, .ref sm, .ref ah])), (sm, .inr (2, [.int 0, .ref gr, .ref gt, .ref gw, .ref gk, .ref gi, .ref gp, .ref go, .ref gg, .ref hm])), (wi, .inl (d1, 6, .inl (upd fw 5 10))), (co, .inl (d2, 6, .inl (upd fc 5 6))), (sl, .inl (d3, 6, .inl (upd fs 5 30))), (gr, .inl (d4, 6, .inl fg))] H := hP
  have hD : va_D A [(hm, .inr (3, [.int 0, .int 5, .ref wi, .ref co, .ref sl, .ref rn, .ref so, .ref bn, .ref sm, .ref ah])), (sm, .inr (2, [.int 0, .ref gr, .ref gt, .ref gw, .ref gk, .ref gi, .ref gp, .ref go, .ref gg, .ref hm])), (wi, .inl (d1, 6, .inl (upd fw 5 10))), (co, .inl (d2, 6, .inl (upd fc 5 6))), (sl, .inl (d3, 6, .inl (upd fs 5 30))), (gr, .inl (d4, 6, .inl fg))] := hD
  refine lv_aload_n hx hb dX3_build_87 rfl (lv_at hl 0 rfl) ?_
  refine va_get (D := (dC, dI)) (ci := 3) (v := .ref sm) (C := RX3) (T := TX3) (N := 10) hx hb hts (by decide +kernel) hown hK hP 0 rfl rfl 8 (by decide) (hts (.fieldLink RX3 33 "ThatchRoofModel" "s" "LThatchRoofModel$State;") (by decide +kernel)) (fun _ h9 => h9) rfl dX3_build_88 ?_
  refine va_getN (D := (dC, dI)) (ci := 2) (v := .ref gr) (C := RX2) (T := TX2) (N := 10) hx hb hts (by decide +kernel) hown hK hP 1 rfl rfl 1 (by decide) (va_Nw.use rfl (zN_RX3_63 hZN)) (fun _ h9 => h9) rfl dX3_build_91 ?_
  refine lv_aload_n hx hb dX3_build_94 rfl (lv_at hl 0 rfl) ?_
  refine va_get (D := (dC, dI)) (ci := 3) (v := .int 5) (C := RX3) (T := TX3) (N := 10) hx hb hts (by decide +kernel) hown hK hP 0 rfl rfl 1 (by decide) (hts (.fieldLink RX3 44 "ThatchRoofModel" "roofs" "I") (by decide +kernel)) (fun _ h9 => h9) rfl dX3_build_95 ?_
  refine lv_bipush (v := 100) hx hb dX3_build_98 (by decide) ?_
  refine va_iast hx hb hK hP hD hS 5 3 rfl rfl (vp_in_nI (n := 5) (by decide) (by decide)) dX3_build_100 (fun H locs hP hD hS => ?_)
  have hP : va_P (dC, dI) vwCl [(hm, .inr (3, [.int 0, .int 5, .ref wi, .ref co, .ref sl, .ref rn, .ref so, .ref bn, .ref sm, .ref ah])), (sm, .inr (2, [.int 0, .ref gr, .ref gt, .ref gw, .ref gk, .ref gi, .ref gp, .ref go, .ref gg, .ref hm])), (wi, .inl (d1, 6, .inl (upd fw 5 10))), (co, .inl (d2, 6, .inl (upd fc 5 6))), (sl, .inl (d3, 6, .inl (upd fs 5 30))), (gr, .inl (d4, 6, .inl (upd fg 5 100)))] H := hP
  have hD : va_D A [(hm, .inr (3, [.int 0, .int 5, .ref wi, .ref co, .ref sl, .ref rn, .ref so, .ref bn, .ref sm, .ref ah])), (sm, .inr (2, [.int 0, .ref gr, .ref gt, .ref gw, .ref gk, .ref gi, .ref gp, .ref go, .ref gg, .ref hm])), (wi, .inl (d1, 6, .inl (upd fw 5 10))), (co, .inl (d2, 6, .inl (upd fc 5 6))), (sl, .inl (d3, 6, .inl (upd fs 5 30))), (gr, .inl (d4, 6, .inl (upd fg 5 100)))] := hD
  refine lv_aload_n hx hb dX3_build_101 rfl (lv_at hl 0 rfl) ?_
  refine lv_dup hx hb dX3_build_102 rfl ?_
  refine va_get (D := (dC, dI)) (ci := 3) (v := .int 5) (C := RX3) (T := TX3) (N := 10) hx hb hts (by decide +kernel) hown hK hP 0 rfl rfl 1 (by decide) (hts (.fieldLink RX3 44 "ThatchRoofModel" "roofs" "I") (by decide +kernel)) (fun _ h9 => h9) rfl dX3_build_103 ?_
  refine lv_iconst (v := 1) hx hb dX3_build_106 (by decide) ?_
  refine lv_iadd hx hb dX3_build_107 ?_
  refine W.eq (g2 := F0 m 108 ls [.int 6, .ref hm]) rfl ?_
  refine va_put (D := (dC, dI)) (ci := 3) (v := .int 6) (ty := .int) (C := RX3) (T := TX3) (N := 10) hx hb hts (by decide +kernel) tyX3 tyX3_ok nmX3 hown hK hP hD hS 0 rfl rfl 1 (by decide) (hts (.fieldLink RX3 44 "ThatchRoofModel" "roofs" "I") (by decide +kernel)) (fun _ h9 => h9) rfl (by decide +kernel) rfl rfl (Nat.le_of_ble_eq_true rfl) dX3_build_108 (fun H locs hP hD hS => ?_)
  have hP : va_P (dC, dI) vwCl [(hm, .inr (3, [.int 0, .int 6, .ref wi, .ref co, .ref sl, .ref rn, .ref so, .ref bn, .ref sm, .ref ah])), (sm, .inr (2, [.int 0, .ref gr, .ref gt, .ref gw, .ref gk, .ref gi, .ref gp, .ref go, .ref gg, .ref hm])), (wi, .inl (d1, 6, .inl (upd fw 5 10))), (co, .inl (d2, 6, .inl (upd fc 5 6))), (sl, .inl (d3, 6, .inl (upd fs 5 30))), (gr, .inl (d4, 6, .inl (upd fg 5 100)))] H := hP
  have hD : va_D A [(hm, .inr (3, [.int 0, .int 6, .ref wi, .ref co, .ref sl, .ref rn, .ref so, .ref bn, .ref sm, .ref ah])), (sm, .inr (2, [.int 0, .ref gr, .ref gt, .ref gw, .ref gk, .ref gi, .ref gp, .ref go, .ref gg, .ref hm])), (wi, .inl (d1, 6, .inl (upd fw 5 10))), (co, .inl (d2, 6, .inl (upd fc 5 6))), (sl, .inl (d3, 6, .inl (upd fs 5 30))), (gr, .inl (d4, 6, .inl (upd fg 5 100)))] := hD
  refine lv_aload_n hx hb dX3_build_111 rfl (lv_at hl 0 rfl) ?_
  refine va_get (D := (dC, dI)) (ci := 3) (v := .int 6) (C := RX3) (T := TX3) (N := 10) hx hb hts (by decide +kernel) hown hK hP 0 rfl rfl 1 (by decide) (hts (.fieldLink RX3 44 "ThatchRoofModel" "roofs" "I") (by decide +kernel)) (fun _ h9 => h9) rfl dX3_build_112 ?_
  refine lv_iconst (v := 1) hx hb dX3_build_115 (by decide) ?_
  refine lv_isub hx hb dX3_build_116 ?_
  refine W.eq (g2 := F0 m 117 ls [.int 5]) rfl ?_
  have hP9 := hP.sub (ws' := [(hm, .inr (3, [.int 0, .int 6, .ref wi, .ref co, .ref sl, .ref rn, .ref so, .ref bn, .ref sm, .ref ah])), (sm, .inr (2, [.int 0, .ref gr, .ref gt, .ref gw, .ref gk, .ref gi, .ref gp, .ref go, .ref gg, .ref hm])), (wi, .inl (d1, 6, .inl (upd fw 5 10))), (co, .inl (d2, 6, .inl (upd fc 5 6))), (sl, .inl (d3, 6, .inl (upd fs 5 30))), (gr, .inl (d4, 6, .inl (upd fg 5 100)))]) [0, 1, 2, 3, 4, 5] rfl
  have hD9 := hD.sub (ws' := [(hm, .inr (3, [.int 0, .int 6, .ref wi, .ref co, .ref sl, .ref rn, .ref so, .ref bn, .ref sm, .ref ah])), (sm, .inr (2, [.int 0, .ref gr, .ref gt, .ref gw, .ref gk, .ref gi, .ref gp, .ref go, .ref gg, .ref hm])), (wi, .inl (d1, 6, .inl (upd fw 5 10))), (co, .inl (d2, 6, .inl (upd fc 5 6))), (sl, .inl (d3, 6, .inl (upd fs 5 30))), (gr, .inl (d4, 6, .inl (upd fg 5 100)))]) [0, 1, 2, 3, 4, 5] (by decide) rfl
  have hK9 := hK.sub (tys' := []) [] rfl
  refine W.widen (k := 0) (n := 0) (Nat.le_of_ble_eq_true rfl) (Nat.le_of_ble_eq_true rfl) ?_
  exact W.iret (v := 5) hx hb hr (fun t ht hW => ⟨⟨5, (), rfl, by (first | rfl | assumption | decide | (simp_all; done) | grind), ⟨by rw [ht]; exact hP9, va_K.moved hW.alike hK9, hD9⟩⟩, hS.F ht⟩) hS.2.2 dX3_build_117

set_option maxHeartbeats 4000000 in
set_option maxRecDepth 100000 in
theorem r2_init (l : Launch) (dC : Nat → ClassId) (dI : Nat → Nat → Nat) (sz : Nat) (sm : Nat) (hm : Nat) : Met l yX2_init wsX2_init ({ frames := 1, cells := 8, slots := 1518, locals := 12 }) (va_Pc [.ref sm, .ref hm] (fun U => U.heap.size = sz ∧ va_P (dC, dI) vwCl [(sm, .inr (2, [.int 0, .null, .null, .null, .null, .null, .null, .null, .null, .null]))] U.heap ∧ va_K (dC, dI) vwCl [] U ∧ va_D (fun _ => True) [(sm, .inr (2, [.int 0, .null, .null, .null, .null, .null, .null, .null, .null, .null]))])) (va_Qv (fun (u : Nat × Nat × Nat × Nat × Nat × Nat × Nat × Nat × ClassId × ClassId × ClassId × ClassId × ClassId × ClassId × ClassId × ClassId × (Nat → Int32)) => (∀ j : Nat, j < 360 → u.2.2.2.2.2.2.2.2.2.2.2.2.2.2.2.2 j = -1)) (fun (u : Nat × Nat × Nat × Nat × Nat × Nat × Nat × Nat × ClassId × ClassId × ClassId × ClassId × ClassId × ClassId × ClassId × ClassId × (Nat → Int32)) (t : State) => va_P (dC, dI) vwCl [(sm, .inr (2, [.int 0, .ref u.1, .ref u.2.1, .ref u.2.2.1, .ref u.2.2.2.1, .ref u.2.2.2.2.1, .ref u.2.2.2.2.2.1, .ref u.2.2.2.2.2.2.1, .ref u.2.2.2.2.2.2.2.1, .ref hm])), (u.1, .inl (u.2.2.2.2.2.2.2.2.1, 6, .inl (fun _ => 0))), (u.2.1, .inl (u.2.2.2.2.2.2.2.2.2.1, 6, .inl (fun _ => 0))), (u.2.2.1, .inl (u.2.2.2.2.2.2.2.2.2.2.1, 6, .inl (fun _ => 0))), (u.2.2.2.1, .inl (u.2.2.2.2.2.2.2.2.2.2.2.1, 360, .inl u.2.2.2.2.2.2.2.2.2.2.2.2.2.2.2.2)), (u.2.2.2.2.1, .inl (u.2.2.2.2.2.2.2.2.2.2.2.2.1, 360, .inl (fun _ => 0))), (u.2.2.2.2.2.1, .inl (u.2.2.2.2.2.2.2.2.2.2.2.2.2.1, 360, .inl (fun _ => 0))), (u.2.2.2.2.2.2.1, .inl (u.2.2.2.2.2.2.2.2.2.2.2.2.2.2.1, 360, .inl (fun _ => 0))), (u.2.2.2.2.2.2.2.1, .inl (u.2.2.2.2.2.2.2.2.2.2.2.2.2.2.2.1, 60, .inl (fun _ => 0)))] t.heap ∧ va_K (dC, dI) vwCl [(u.2.2.2.2.2.2.2.2.1, .int), (u.2.2.2.2.2.2.2.2.2.1, .int), (u.2.2.2.2.2.2.2.2.2.2.1, .int), (u.2.2.2.2.2.2.2.2.2.2.2.1, .int), (u.2.2.2.2.2.2.2.2.2.2.2.2.1, .int), (u.2.2.2.2.2.2.2.2.2.2.2.2.2.1, .int), (u.2.2.2.2.2.2.2.2.2.2.2.2.2.2.1, .int), (u.2.2.2.2.2.2.2.2.2.2.2.2.2.2.2.1, .boolean)] t ∧ va_D (va_A [(sm, .inr (2, [.int 0, .null, .null, .null, .null, .null, .null, .null, .null, .null]))] sz) [(sm, .inr (2, [.int 0, .ref u.1, .ref u.2.1, .ref u.2.2.1, .ref u.2.2.2.1, .ref u.2.2.2.2.1, .ref u.2.2.2.2.2.1, .ref u.2.2.2.2.2.2.1, .ref u.2.2.2.2.2.2.2.1, .ref hm])), (u.1, .inl (u.2.2.2.2.2.2.2.2.1, 6, .inl (fun _ => 0))), (u.2.1, .inl (u.2.2.2.2.2.2.2.2.2.1, 6, .inl (fun _ => 0))), (u.2.2.1, .inl (u.2.2.2.2.2.2.2.2.2.2.1, 6, .inl (fun _ => 0))), (u.2.2.2.1, .inl (u.2.2.2.2.2.2.2.2.2.2.2.1, 360, .inl u.2.2.2.2.2.2.2.2.2.2.2.2.2.2.2.2)), (u.2.2.2.2.1, .inl (u.2.2.2.2.2.2.2.2.2.2.2.2.1, 360, .inl (fun _ => 0))), (u.2.2.2.2.2.1, .inl (u.2.2.2.2.2.2.2.2.2.2.2.2.2.1, 360, .inl (fun _ => 0))), (u.2.2.2.2.2.2.1, .inl (u.2.2.2.2.2.2.2.2.2.2.2.2.2.2.1, 360, .inl (fun _ => 0))), (u.2.2.2.2.2.2.2.1, .inl (u.2.2.2.2.2.2.2.2.2.2.2.2.2.2.2.1, 60, .inl (fun _ => 0)))]) (va_A [(sm, .inr (2, [.int 0, .null, .null, .null, .null, .null, .null, .null, .null, .null]))] sz)) 8 1518 (va_A [(sm, .inr (2, [.int 0, .null, .null, .null, .null, .null, .null, .null, .null, .null]))] sz) := by
  refine Met.ofW (cc := cX2_init) (maxL := 3) (ret := none) (by decide) rfl ?_
  intro p e s m args below meth c s₁ B hml hv
  obtain ⟨rfl, hsz, hP, hK, hD0⟩ := hv
  have hx := B.exec
  have hb := B.bytes
  have hr := B.returns
  have hts := atoms_spec (ws := wsX2_init) B.pre
  have hown : s.vm.findClass RX2 = some m.cls := findClass_of_methodNamed B.named
  have hlocks := B.notSynchronized
  have hin : meth.name = "<init>" := (name_of_methodNamed B.named B.method).1
  subst hsz
  have hD := hD0.self (sz := s.heap.size)
  generalize hAe : va_A [(sm, .inr (2, [.int 0, .null, .null, .null, .null, .null, .null, .null, .null, .null]))] s.heap.size = A at hD ⊢
  have hA : ∀ q : Nat, s.heap.size ≤ q → A q := fun q h => by rw [← hAe]; exact Or.inr h
  have hS : va_S A s.heap s.heap [] := va_S.rf
  have hP : va_P (dC, dI) vwCl [(sm, .inr (2, [.int 0, .null, .null, .null, .null, .null, .null, .null, .null, .null]))] s.heap := hP
  have hl := lv_entry ([.ref sm, .ref hm]) (n := 3) (Nat.le_of_ble_eq_true rfl)
  rw [lg_entry_eq]
  generalize (lg_sl ([.ref sm, .ref hm]) ++ List.replicate (3 - (lg_sl ([.ref sm, .ref hm])).length) Slot.unset).toArray = ls at hl ⊢
  have hl : lv_has ls 3 [(0, .ref sm), (1, .ref hm)] := hl
  refine lv_aload_n hx hb dX2_init_0 rfl (lv_at hl 0 rfl) ?_
  refine lv_aload_n hx hb dX2_init_1 rfl (lv_at hl 1 rfl) ?_
  refine va_putF (D := (dC, dI)) (ci := 2) (v := .ref hm) (ty := .object "ThatchRoofModel") (C := RX2) (T := TX2) (N := 10) hx hb hts (by decide +kernel) tyX2 tyX2_ok nmX2 hown hK hP hD hS 0 rfl rfl 9 (by decide) (hts (.fieldLink RX2 3 "ThatchRoofModel$State" "this$0" "LThatchRoofModel;") (by decide +kernel)) (fun _ h9 => h9) rfl hin rfl (by decide +kernel) rfl rfl (Nat.le_of_ble_eq_true rfl) dX2_init_2 (fun H locs hP hD hS => ?_)
  have hP : va_P (dC, dI) vwCl [(sm, .inr (2, [.int 0, .null, .null, .null, .null, .null, .null, .null, .null, .ref hm]))] H := hP
  have hD : va_D A [(sm, .inr (2, [.int 0, .null, .null, .null, .null, .null, .null, .null, .null, .ref hm]))] := hD
  refine lv_aload_n hx hb dX2_init_5 rfl (lv_at hl 0 rfl) ?_
  refine W.objInit hx hb hown (hts (.methodLink RX2 9 objectInit) (by decide +kernel)) (hts (.instanceMethod objectInit) (by decide +kernel)) (hts (.code objectInit ⟨#[0xb1]⟩ 1 none) (by decide +kernel)) rfl (by rw [hml]; exact hl.1) rfl dX2_init_6 (Nat.le_of_ble_eq_true rfl) (Nat.le_of_ble_eq_true rfl) ?_
  refine W.eq (g2 := F0 m 9 ls []) rfl ?_
  refine lv_aload_n hx hb dX2_init_9 rfl (lv_at hl 0 rfl) ?_
  refine lv_bipush (v := 6) hx hb dX2_init_10 (by decide) ?_
  refine va_newa (atype := .int) (ty := .int) (N' := 6) (a0 := (6, .inl (fun _ => 0))) hx hb (hts (.arrayClass .int) (by decide +kernel)) rfl hK hP hD hS hA (fun _ => rfl) (by decide) (by decide) (by decide) (Nat.le_of_ble_eq_true rfl) (Nat.le_of_ble_eq_true rfl) dX2_init_12 (fun q1 cA2 H hK hP hD hS => ?_)
  refine W.widen (k := 1) (n := 6) (Nat.le_of_ble_eq_true rfl) (Nat.le_of_ble_eq_true rfl) ?_
  have hK : va_K (dC, dI) vwCl [(cA2, .int)] s := hK
  have hP : va_P (dC, dI) vwCl [(sm, .inr (2, [.int 0, .null, .null, .null, .null, .null, .null, .null, .null, .ref hm])), (q1, .inl (cA2, 6, .inl (fun _ => 0)))] H := hP
  have hD : va_D A [(sm, .inr (2, [.int 0, .null, .null, .null, .null, .null, .null, .null, .null, .ref hm])), (q1, .inl (cA2, 6, .inl (fun _ => 0)))] := hD
  refine va_putF (D := (dC, dI)) (ci := 2) (v := .ref q1) (ty := .array .int) (C := RX2) (T := TX2) (N := 10) hx hb hts (by decide +kernel) tyX2 tyX2_ok nmX2 hown hK hP hD hS 0 rfl rfl 1 (by decide) (hts (.fieldLink RX2 15 "ThatchRoofModel$State" "ridge" "[I") (by decide +kernel)) (fun _ h9 => h9) rfl hin rfl (by decide +kernel) rfl rfl (Nat.le_of_ble_eq_true rfl) dX2_init_14 (fun H locs hP hD hS => ?_)
  have hP : va_P (dC, dI) vwCl [(sm, .inr (2, [.int 0, .ref q1, .null, .null, .null, .null, .null, .null, .null, .ref hm])), (q1, .inl (cA2, 6, .inl (fun _ => 0)))] H := hP
  have hD : va_D A [(sm, .inr (2, [.int 0, .ref q1, .null, .null, .null, .null, .null, .null, .null, .ref hm])), (q1, .inl (cA2, 6, .inl (fun _ => 0)))] := hD
  refine lv_aload_n hx hb dX2_init_17 rfl (lv_at hl 0 rfl) ?_
  refine lv_bipush (v := 6) hx hb dX2_init_18 (by decide) ?_
  refine va_newa (atype := .int) (ty := .int) (N' := 6) (a0 := (6, .inl (fun _ => 0))) hx hb (hts (.arrayClass .int) (by decide +kernel)) rfl hK hP hD hS hA (fun _ => rfl) (by decide) (by decide) (by decide) (Nat.le_of_ble_eq_true rfl) (Nat.le_of_ble_eq_true rfl) dX2_init_20 (fun q3 cA4 H hK hP hD hS => ?_)
  refine W.widen (k := 2) (n := 12) (Nat.le_of_ble_eq_true rfl) (Nat.le_of_ble_eq_true rfl) ?_
  have hK : va_K (dC, dI) vwCl [(cA2, .int), (cA4, .int)] s := hK
  have hP : va_P (dC, dI) vwCl [(sm, .inr (2, [.int 0, .ref q1, .null, .null, .null, .null, .null, .null, .null, .ref hm])), (q1, .inl (cA2, 6, .inl (fun _ => 0))), (q3, .inl (cA4, 6, .inl (fun _ => 0)))] H := hP
  have hD : va_D A [(sm, .inr (2, [.int 0, .ref q1, .null, .null, .null, .null, .null, .null, .null, .ref hm])), (q1, .inl (cA2, 6, .inl (fun _ => 0))), (q3, .inl (cA4, 6, .inl (fun _ => 0)))] := hD
  refine va_putF (D := (dC, dI)) (ci := 2) (v := .ref q3) (ty := .array .int) (C := RX2) (T := TX2) (N := 10) hx hb hts (by decide +kernel) tyX2 tyX2_ok nmX2 hown hK hP hD hS 0 rfl rfl 2 (by decide) (hts (.fieldLink RX2 19 "ThatchRoofModel$State" "torn" "[I") (by decide +kernel)) (fun _ h9 => h9) rfl hin rfl (by decide +kernel) rfl rfl (Nat.le_of_ble_eq_true rfl) dX2_init_22 (fun H locs hP hD hS => ?_)
  have hP : va_P (dC, dI) vwCl [(sm, .inr (2, [.int 0, .ref q1, .ref q3, .null, .null, .null, .null, .null, .null, .ref hm])), (q1, .inl (cA2, 6, .inl (fun _ => 0))), (q3, .inl (cA4, 6, .inl (fun _ => 0)))] H := hP
  have hD : va_D A [(sm, .inr (2, [.int 0, .ref q1, .ref q3, .null, .null, .null, .null, .null, .null, .ref hm])), (q1, .inl (cA2, 6, .inl (fun _ => 0))), (q3, .inl (cA4, 6, .inl (fun _ => 0)))] := hD
  refine lv_aload_n hx hb dX2_init_25 rfl (lv_at hl 0 rfl) ?_
  refine lv_bipush (v := 6) hx hb dX2_init_26 (by decide) ?_
  refine va_newa (atype := .int) (ty := .int) (N' := 6) (a0 := (6, .inl (fun _ => 0))) hx hb (hts (.arrayClass .int) (by decide +kernel)) rfl hK hP hD hS hA (fun _ => rfl) (by decide) (by decide) (by decide) (Nat.le_of_ble_eq_true rfl) (Nat.le_of_ble_eq_true rfl) dX2_init_28 (fun q5 cA6 H hK hP hD hS => ?_)
  refine W.widen (k := 3) (n := 18) (Nat.le_of_ble_eq_true rfl) (Nat.le_of_ble_eq_true rfl) ?_
  have hK : va_K (dC, dI) vwCl [(cA2, .int), (cA4, .int), (cA6, .int)] s := hK
  have hP : va_P (dC, dI) vwCl [(sm, .inr (2, [.int 0, .ref q1, .ref q3, .null, .null, .null, .null, .null, .null, .ref hm])), (q1, .inl (cA2, 6, .inl (fun _ => 0))), (q3, .inl (cA4, 6, .inl (fun _ => 0))), (q5, .inl (cA6, 6, .inl (fun _ => 0)))] H := hP
  have hD : va_D A [(sm, .inr (2, [.int 0, .ref q1, .ref q3, .null, .null, .null, .null, .null, .null, .ref hm])), (q1, .inl (cA2, 6, .inl (fun _ => 0))), (q3, .inl (cA4, 6, .inl (fun _ => 0))), (q5, .inl (cA6, 6, .inl (fun _ => 0)))] := hD
  refine va_putF (D := (dC, dI)) (ci := 2) (v := .ref q5) (ty := .array .int) (C := RX2) (T := TX2) (N := 10) hx hb hts (by decide +kernel) tyX2 tyX2_ok nmX2 hown hK hP hD hS 0 rfl rfl 3 (by decide) (hts (.fieldLink RX2 22 "ThatchRoofModel$State" "worn" "[I") (by decide +kernel)) (fun _ h9 => h9) rfl hin rfl (by decide +kernel) rfl rfl (Nat.le_of_ble_eq_true rfl) dX2_init_30 (fun H locs hP hD hS => ?_)
  have hP : va_P (dC, dI) vwCl [(sm, .inr (2, [.int 0, .ref q1, .ref q3, .ref q5, .null, .null, .null, .null, .null, .ref hm])), (q1, .inl (cA2, 6, .inl (fun _ => 0))), (q3, .inl (cA4, 6, .inl (fun _ => 0))), (q5, .inl (cA6, 6, .inl (fun _ => 0)))] H := hP
  have hD : va_D A [(sm, .inr (2, [.int 0, .ref q1, .ref q3, .ref q5, .null, .null, .null, .null, .null, .ref hm])), (q1, .inl (cA2, 6, .inl (fun _ => 0))), (q3, .inl (cA4, 6, .inl (fun _ => 0))), (q5, .inl (cA6, 6, .inl (fun _ => 0)))] := hD
  refine lv_aload_n hx hb dX2_init_33 rfl (lv_at hl 0 rfl) ?_
  refine lv_sipush (v := 360) hx hb dX2_init_34 (by decide) ?_
  refine va_newa (atype := .int) (ty := .int) (N' := 360) (a0 := (360, .inl (fun _ => 0))) hx hb (hts (.arrayClass .int) (by decide +kernel)) rfl hK hP hD hS hA (fun _ => rfl) (by decide) (by decide) (by decide) (Nat.le_of_ble_eq_true rfl) (Nat.le_of_ble_eq_true rfl) dX2_init_37 (fun q7 cA8 H hK hP hD hS => ?_)
  refine W.widen (k := 4) (n := 378) (Nat.le_of_ble_eq_true rfl) (Nat.le_of_ble_eq_true rfl) ?_
  have hK : va_K (dC, dI) vwCl [(cA2, .int), (cA4, .int), (cA6, .int), (cA8, .int)] s := hK
  have hP : va_P (dC, dI) vwCl [(sm, .inr (2, [.int 0, .ref q1, .ref q3, .ref q5, .null, .null, .null, .null, .null, .ref hm])), (q1, .inl (cA2, 6, .inl (fun _ => 0))), (q3, .inl (cA4, 6, .inl (fun _ => 0))), (q5, .inl (cA6, 6, .inl (fun _ => 0))), (q7, .inl (cA8, 360, .inl (fun _ => 0)))] H := hP
  have hD : va_D A [(sm, .inr (2, [.int 0, .ref q1, .ref q3, .ref q5, .null, .null, .null, .null, .null, .ref hm])), (q1, .inl (cA2, 6, .inl (fun _ => 0))), (q3, .inl (cA4, 6, .inl (fun _ => 0))), (q5, .inl (cA6, 6, .inl (fun _ => 0))), (q7, .inl (cA8, 360, .inl (fun _ => 0)))] := hD
  refine va_putF (D := (dC, dI)) (ci := 2) (v := .ref q7) (ty := .array .int) (C := RX2) (T := TX2) (N := 10) hx hb hts (by decide +kernel) tyX2 tyX2_ok nmX2 hown hK hP hD hS 0 rfl rfl 4 (by decide) (hts (.fieldLink RX2 25 "ThatchRoofModel$State" "kind" "[I") (by decide +kernel)) (fun _ h9 => h9) rfl hin rfl (by decide +kernel) rfl rfl (Nat.le_of_ble_eq_true rfl) dX2_init_39 (fun H locs hP hD hS => ?_)
  have hP : va_P (dC, dI) vwCl [(sm, .inr (2, [.int 0, .ref q1, .ref q3, .ref q5, .ref q7, .null, .null, .null, .null, .ref hm])), (q1, .inl (cA2, 6, .inl (fun _ => 0))), (q3, .inl (cA4, 6, .inl (fun _ => 0))), (q5, .inl (cA6, 6, .inl (fun _ => 0))), (q7, .inl (cA8, 360, .inl (fun _ => 0)))] H := hP
  have hD : va_D A [(sm, .inr (2, [.int 0, .ref q1, .ref q3, .ref q5, .ref q7, .null, .null, .null, .null, .ref hm])), (q1, .inl (cA2, 6, .inl (fun _ => 0))), (q3, .inl (cA4, 6, .inl (fun _ => 0))), (q5, .inl (cA6, 6, .inl (fun _ => 0))), (q7, .inl (cA8, 360, .inl (fun _ => 0)))] := hD
  refine lv_aload_n hx hb dX2_init_42 rfl (lv_at hl 0 rfl) ?_
  refine lv_sipush (v := 360) hx hb dX2_init_43 (by decide) ?_
  refine va_newa (atype := .int) (ty := .int) (N' := 360) (a0 := (360, .inl (fun _ => 0))) hx hb (hts (.arrayClass .int) (by decide +kernel)) rfl hK hP hD hS hA (fun _ => rfl) (by decide) (by decide) (by decide) (Nat.le_of_ble_eq_true rfl) (Nat.le_of_ble_eq_true rfl) dX2_init_46 (fun q9 cA10 H hK hP hD hS => ?_)
  refine W.widen (k := 5) (n := 738) (Nat.le_of_ble_eq_true rfl) (Nat.le_of_ble_eq_true rfl) ?_
  have hK : va_K (dC, dI) vwCl [(cA2, .int), (cA4, .int), (cA6, .int), (cA8, .int), (cA10, .int)] s := hK
  have hP : va_P (dC, dI) vwCl [(sm, .inr (2, [.int 0, .ref q1, .ref q3, .ref q5, .ref q7, .null, .null, .null, .null, .ref hm])), (q1, .inl (cA2, 6, .inl (fun _ => 0))), (q3, .inl (cA4, 6, .inl (fun _ => 0))), (q5, .inl (cA6, 6, .inl (fun _ => 0))), (q7, .inl (cA8, 360, .inl (fun _ => 0))), (q9, .inl (cA10, 360, .inl (fun _ => 0)))] H := hP
  have hD : va_D A [(sm, .inr (2, [.int 0, .ref q1, .ref q3, .ref q5, .ref q7, .null, .null, .null, .null, .ref hm])), (q1, .inl (cA2, 6, .inl (fun _ => 0))), (q3, .inl (cA4, 6, .inl (fun _ => 0))), (q5, .inl (cA6, 6, .inl (fun _ => 0))), (q7, .inl (cA8, 360, .inl (fun _ => 0))), (q9, .inl (cA10, 360, .inl (fun _ => 0)))] := hD
  refine va_putF (D := (dC, dI)) (ci := 2) (v := .ref q9) (ty := .array .int) (C := RX2) (T := TX2) (N := 10) hx hb hts (by decide +kernel) tyX2 tyX2_ok nmX2 hown hK hP hD hS 0 rfl rfl 5 (by decide) (hts (.fieldLink RX2 28 "ThatchRoofModel$State" "thick" "[I") (by decide +kernel)) (fun _ h9 => h9) rfl hin rfl (by decide +kernel) rfl rfl (Nat.le_of_ble_eq_true rfl) dX2_init_48 (fun H locs hP hD hS => ?_)
  have hP : va_P (dC, dI) vwCl [(sm, .inr (2, [.int 0, .ref q1, .ref q3, .ref q5, .ref q7, .ref q9, .null, .null, .null, .ref hm])), (q1, .inl (cA2, 6, .inl (fun _ => 0))), (q3, .inl (cA4, 6, .inl (fun _ => 0))), (q5, .inl (cA6, 6, .inl (fun _ => 0))), (q7, .inl (cA8, 360, .inl (fun _ => 0))), (q9, .inl (cA10, 360, .inl (fun _ => 0)))] H := hP
  have hD : va_D A [(sm, .inr (2, [.int 0, .ref q1, .ref q3, .ref q5, .ref q7, .ref q9, .null, .null, .null, .ref hm])), (q1, .inl (cA2, 6, .inl (fun _ => 0))), (q3, .inl (cA4, 6, .inl (fun _ => 0))), (q5, .inl (cA6, 6, .inl (fun _ => 0))), (q7, .inl (cA8, 360, .inl (fun _ => 0))), (q9, .inl (cA10, 360, .inl (fun _ => 0)))] := hD
  refine lv_aload_n hx hb dX2_init_51 rfl (lv_at hl 0 rfl) ?_
  refine lv_sipush (v := 360) hx hb dX2_init_52 (by decide) ?_
  refine va_newa (atype := .int) (ty := .int) (N' := 360) (a0 := (360, .inl (fun _ => 0))) hx hb (hts (.arrayClass .int) (by decide +kernel)) rfl hK hP hD hS hA (fun _ => rfl) (by decide) (by decide) (by decide) (Nat.le_of_ble_eq_true rfl) (Nat.le_of_ble_eq_true rfl) dX2_init_55 (fun q11 cA12 H hK hP hD hS => ?_)
  refine W.widen (k := 6) (n := 1098) (Nat.le_of_ble_eq_true rfl) (Nat.le_of_ble_eq_true rfl) ?_
  have hK : va_K (dC, dI) vwCl [(cA2, .int), (cA4, .int), (cA6, .int), (cA8, .int), (cA10, .int), (cA12, .int)] s := hK
  have hP : va_P (dC, dI) vwCl [(sm, .inr (2, [.int 0, .ref q1, .ref q3, .ref q5, .ref q7, .ref q9, .null, .null, .null, .ref hm])), (q1, .inl (cA2, 6, .inl (fun _ => 0))), (q3, .inl (cA4, 6, .inl (fun _ => 0))), (q5, .inl (cA6, 6, .inl (fun _ => 0))), (q7, .inl (cA8, 360, .inl (fun _ => 0))), (q9, .inl (cA10, 360, .inl (fun _ => 0))), (q11, .inl (cA12, 360, .inl (fun _ => 0)))] H := hP
  have hD : va_D A [(sm, .inr (2, [.int 0, .ref q1, .ref q3, .ref q5, .ref q7, .ref q9, .null, .null, .null, .ref hm])), (q1, .inl (cA2, 6, .inl (fun _ => 0))), (q3, .inl (cA4, 6, .inl (fun _ => 0))), (q5, .inl (cA6, 6, .inl (fun _ => 0))), (q7, .inl (cA8, 360, .inl (fun _ => 0))), (q9, .inl (cA10, 360, .inl (fun _ => 0))), (q11, .inl (cA12, 360, .inl (fun _ => 0)))] := hD
  refine va_putF (D := (dC, dI)) (ci := 2) (v := .ref q11) (ty := .array .int) (C := RX2) (T := TX2) (N := 10) hx hb hts (by decide +kernel) tyX2 tyX2_ok nmX2 hown hK hP hD hS 0 rfl rfl 6 (by decide) (hts (.fieldLink RX2 31 "ThatchRoofModel$State" "spars" "[I") (by decide +kernel)) (fun _ h9 => h9) rfl hin rfl (by decide +kernel) rfl rfl (Nat.le_of_ble_eq_true rfl) dX2_init_57 (fun H locs hP hD hS => ?_)
  have hP : va_P (dC, dI) vwCl [(sm, .inr (2, [.int 0, .ref q1, .ref q3, .ref q5, .ref q7, .ref q9, .ref q11, .null, .null, .ref hm])), (q1, .inl (cA2, 6, .inl (fun _ => 0))), (q3, .inl (cA4, 6, .inl (fun _ => 0))), (q5, .inl (cA6, 6, .inl (fun _ => 0))), (q7, .inl (cA8, 360, .inl (fun _ => 0))), (q9, .inl (cA10, 360, .inl (fun _ => 0))), (q11, .inl (cA12, 360, .inl (fun _ => 0)))] H := hP
  have hD : va_D A [(sm, .inr (2, [.int 0, .ref q1, .ref q3, .ref q5, .ref q7, .ref q9, .ref q11, .null, .null, .ref hm])), (q1, .inl (cA2, 6, .inl (fun _ => 0))), (q3, .inl (cA4, 6, .inl (fun _ => 0))), (q5, .inl (cA6, 6, .inl (fun _ => 0))), (q7, .inl (cA8, 360, .inl (fun _ => 0))), (q9, .inl (cA10, 360, .inl (fun _ => 0))), (q11, .inl (cA12, 360, .inl (fun _ => 0)))] := hD
  refine lv_aload_n hx hb dX2_init_60 rfl (lv_at hl 0 rfl) ?_
  refine lv_sipush (v := 360) hx hb dX2_init_61 (by decide) ?_
  refine va_newa (atype := .int) (ty := .int) (N' := 360) (a0 := (360, .inl (fun _ => 0))) hx hb (hts (.arrayClass .int) (by decide +kernel)) rfl hK hP hD hS hA (fun _ => rfl) (by decide) (by decide) (by decide) (Nat.le_of_ble_eq_true rfl) (Nat.le_of_ble_eq_true rfl) dX2_init_64 (fun q13 cA14 H hK hP hD hS => ?_)
  refine W.widen (k := 7) (n := 1458) (Nat.le_of_ble_eq_true rfl) (Nat.le_of_ble_eq_true rfl) ?_
  have hK : va_K (dC, dI) vwCl [(cA2, .int), (cA4, .int), (cA6, .int), (cA8, .int), (cA10, .int), (cA12, .int), (cA14, .int)] s := hK
  have hP : va_P (dC, dI) vwCl [(sm, .inr (2, [.int 0, .ref q1, .ref q3, .ref q5, .ref q7, .ref q9, .ref q11, .null, .null, .ref hm])), (q1, .inl (cA2, 6, .inl (fun _ => 0))), (q3, .inl (cA4, 6, .inl (fun _ => 0))), (q5, .inl (cA6, 6, .inl (fun _ => 0))), (q7, .inl (cA8, 360, .inl (fun _ => 0))), (q9, .inl (cA10, 360, .inl (fun _ => 0))), (q11, .inl (cA12, 360, .inl (fun _ => 0))), (q13, .inl (cA14, 360, .inl (fun _ => 0)))] H := hP
  have hD : va_D A [(sm, .inr (2, [.int 0, .ref q1, .ref q3, .ref q5, .ref q7, .ref q9, .ref q11, .null, .null, .ref hm])), (q1, .inl (cA2, 6, .inl (fun _ => 0))), (q3, .inl (cA4, 6, .inl (fun _ => 0))), (q5, .inl (cA6, 6, .inl (fun _ => 0))), (q7, .inl (cA8, 360, .inl (fun _ => 0))), (q9, .inl (cA10, 360, .inl (fun _ => 0))), (q11, .inl (cA12, 360, .inl (fun _ => 0))), (q13, .inl (cA14, 360, .inl (fun _ => 0)))] := hD
  refine va_putF (D := (dC, dI)) (ci := 2) (v := .ref q13) (ty := .array .int) (C := RX2) (T := TX2) (N := 10) hx hb hts (by decide +kernel) tyX2 tyX2_ok nmX2 hown hK hP hD hS 0 rfl rfl 7 (by decide) (hts (.fieldLink RX2 34 "ThatchRoofModel$State" "moss" "[I") (by decide +kernel)) (fun _ h9 => h9) rfl hin rfl (by decide +kernel) rfl rfl (Nat.le_of_ble_eq_true rfl) dX2_init_66 (fun H locs hP hD hS => ?_)
  have hP : va_P (dC, dI) vwCl [(sm, .inr (2, [.int 0, .ref q1, .ref q3, .ref q5, .ref q7, .ref q9, .ref q11, .ref q13, .null, .ref hm])), (q1, .inl (cA2, 6, .inl (fun _ => 0))), (q3, .inl (cA4, 6, .inl (fun _ => 0))), (q5, .inl (cA6, 6, .inl (fun _ => 0))), (q7, .inl (cA8, 360, .inl (fun _ => 0))), (q9, .inl (cA10, 360, .inl (fun _ => 0))), (q11, .inl (cA12, 360, .inl (fun _ => 0))), (q13, .inl (cA14, 360, .inl (fun _ => 0)))] H := hP
  have hD : va_D A [(sm, .inr (2, [.int 0, .ref q1, .ref q3, .ref q5, .ref q7, .ref q9, .ref q11, .ref q13, .null, .ref hm])), (q1, .inl (cA2, 6, .inl (fun _ => 0))), (q3, .inl (cA4, 6, .inl (fun _ => 0))), (q5, .inl (cA6, 6, .inl (fun _ => 0))), (q7, .inl (cA8, 360, .inl (fun _ => 0))), (q9, .inl (cA10, 360, .inl (fun _ => 0))), (q11, .inl (cA12, 360, .inl (fun _ => 0))), (q13, .inl (cA14, 360, .inl (fun _ => 0)))] := hD
  refine lv_aload_n hx hb dX2_init_69 rfl (lv_at hl 0 rfl) ?_
  refine lv_bipush (v := 60) hx hb dX2_init_70 (by decide) ?_
  refine va_newa (atype := .boolean) (ty := .boolean) (N' := 60) (a0 := (60, .inl (fun _ => 0))) hx hb (hts (.arrayClass .boolean) (by decide +kernel)) rfl hK hP hD hS hA (fun _ => rfl) (by decide) (by decide) (by decide) (Nat.le_of_ble_eq_true rfl) (Nat.le_of_ble_eq_true rfl) dX2_init_72 (fun q15 cA16 H hK hP hD hS => ?_)
  refine W.widen (k := 8) (n := 1518) (Nat.le_of_ble_eq_true rfl) (Nat.le_of_ble_eq_true rfl) ?_
  have hK : va_K (dC, dI) vwCl [(cA2, .int), (cA4, .int), (cA6, .int), (cA8, .int), (cA10, .int), (cA12, .int), (cA14, .int), (cA16, .boolean)] s := hK
  have hP : va_P (dC, dI) vwCl [(sm, .inr (2, [.int 0, .ref q1, .ref q3, .ref q5, .ref q7, .ref q9, .ref q11, .ref q13, .null, .ref hm])), (q1, .inl (cA2, 6, .inl (fun _ => 0))), (q3, .inl (cA4, 6, .inl (fun _ => 0))), (q5, .inl (cA6, 6, .inl (fun _ => 0))), (q7, .inl (cA8, 360, .inl (fun _ => 0))), (q9, .inl (cA10, 360, .inl (fun _ => 0))), (q11, .inl (cA12, 360, .inl (fun _ => 0))), (q13, .inl (cA14, 360, .inl (fun _ => 0))), (q15, .inl (cA16, 60, .inl (fun _ => 0)))] H := hP
  have hD : va_D A [(sm, .inr (2, [.int 0, .ref q1, .ref q3, .ref q5, .ref q7, .ref q9, .ref q11, .ref q13, .null, .ref hm])), (q1, .inl (cA2, 6, .inl (fun _ => 0))), (q3, .inl (cA4, 6, .inl (fun _ => 0))), (q5, .inl (cA6, 6, .inl (fun _ => 0))), (q7, .inl (cA8, 360, .inl (fun _ => 0))), (q9, .inl (cA10, 360, .inl (fun _ => 0))), (q11, .inl (cA12, 360, .inl (fun _ => 0))), (q13, .inl (cA14, 360, .inl (fun _ => 0))), (q15, .inl (cA16, 60, .inl (fun _ => 0)))] := hD
  refine va_putF (D := (dC, dI)) (ci := 2) (v := .ref q15) (ty := .array .boolean) (C := RX2) (T := TX2) (N := 10) hx hb hts (by decide +kernel) tyX2 tyX2_ok nmX2 hown hK hP hD hS 0 rfl rfl 8 (by decide) (hts (.fieldLink RX2 37 "ThatchRoofModel$State" "isGone" "[Z") (by decide +kernel)) (fun _ h9 => h9) rfl hin rfl (by decide +kernel) rfl rfl (Nat.le_of_ble_eq_true rfl) dX2_init_74 (fun H locs hP hD hS => ?_)
  have hP : va_P (dC, dI) vwCl [(sm, .inr (2, [.int 0, .ref q1, .ref q3, .ref q5, .ref q7, .ref q9, .ref q11, .ref q13, .ref q15, .ref hm])), (q1, .inl (cA2, 6, .inl (fun _ => 0))), (q3, .inl (cA4, 6, .inl (fun _ => 0))), (q5, .inl (cA6, 6, .inl (fun _ => 0))), (q7, .inl (cA8, 360, .inl (fun _ => 0))), (q9, .inl (cA10, 360, .inl (fun _ => 0))), (q11, .inl (cA12, 360, .inl (fun _ => 0))), (q13, .inl (cA14, 360, .inl (fun _ => 0))), (q15, .inl (cA16, 60, .inl (fun _ => 0)))] H := hP
  have hD : va_D A [(sm, .inr (2, [.int 0, .ref q1, .ref q3, .ref q5, .ref q7, .ref q9, .ref q11, .ref q13, .ref q15, .ref hm])), (q1, .inl (cA2, 6, .inl (fun _ => 0))), (q3, .inl (cA4, 6, .inl (fun _ => 0))), (q5, .inl (cA6, 6, .inl (fun _ => 0))), (q7, .inl (cA8, 360, .inl (fun _ => 0))), (q9, .inl (cA10, 360, .inl (fun _ => 0))), (q11, .inl (cA12, 360, .inl (fun _ => 0))), (q13, .inl (cA14, 360, .inl (fun _ => 0))), (q15, .inl (cA16, 60, .inl (fun _ => 0)))] := hD
  refine lv_iconst (v := 0) hx hb dX2_init_77 (by decide) ?_
  refine lv_istore_n (lv' := [(2, .int 0), (0, .ref sm), (1, .ref hm)]) hx hb dX2_init_78 rfl hl (by decide) rfl (fun ls hl => ?_)
  suffices K79 : ∀ (n : Nat) (i : Nat) (f : Nat → Int32), (i ≤ 360) → (∀ j : Nat, j < i → f j = -1) → 360 - i < n → ∀ (H : Heap) (locs : List Loc), va_P (dC, dI) vwCl [(sm, .inr (2, [.int 0, .ref q1, .ref q3, .ref q5, .ref q7, .ref q9, .ref q11, .ref q13, .ref q15, .ref hm])), (q1, .inl (cA2, 6, .inl (fun _ => 0))), (q3, .inl (cA4, 6, .inl (fun _ => 0))), (q5, .inl (cA6, 6, .inl (fun _ => 0))), (q7, .inl (cA8, 360, .inl f)), (q9, .inl (cA10, 360, .inl (fun _ => 0))), (q11, .inl (cA12, 360, .inl (fun _ => 0))), (q13, .inl (cA14, 360, .inl (fun _ => 0))), (q15, .inl (cA16, 60, .inl (fun _ => 0)))] H → va_D A [(sm, .inr (2, [.int 0, .ref q1, .ref q3, .ref q5, .ref q7, .ref q9, .ref q11, .ref q13, .ref q15, .ref hm])), (q1, .inl (cA2, 6, .inl (fun _ => 0))), (q3, .inl (cA4, 6, .inl (fun _ => 0))), (q5, .inl (cA6, 6, .inl (fun _ => 0))), (q7, .inl (cA8, 360, .inl f)), (q9, .inl (cA10, 360, .inl (fun _ => 0))), (q11, .inl (cA12, 360, .inl (fun _ => 0))), (q13, .inl (cA14, 360, .inl (fun _ => 0))), (q15, .inl (cA16, 60, .inl (fun _ => 0)))] → va_S A s.heap H locs → ∀ ls : Array Slot, lv_has ls 3 [(0, .ref sm), (2, .int (nI i))] → W p l e ({ frames := 1, cells := 8, slots := 1518, locals := 12 } : Room) s m (([.ref sm, .ref hm] : List Value).toArray) below meth c H locs 8 1518 (MQ below (va_Qv (fun (u : Nat × Nat × Nat × Nat × Nat × Nat × Nat × Nat × ClassId × ClassId × ClassId × ClassId × ClassId × ClassId × ClassId × ClassId × (Nat → Int32)) => (∀ j : Nat, j < 360 → u.2.2.2.2.2.2.2.2.2.2.2.2.2.2.2.2 j = -1)) (fun (u : Nat × Nat × Nat × Nat × Nat × Nat × Nat × Nat × ClassId × ClassId × ClassId × ClassId × ClassId × ClassId × ClassId × ClassId × (Nat → Int32)) (t : State) => va_P (dC, dI) vwCl [(sm, .inr (2, [.int 0, .ref u.1, .ref u.2.1, .ref u.2.2.1, .ref u.2.2.2.1, .ref u.2.2.2.2.1, .ref u.2.2.2.2.2.1, .ref u.2.2.2.2.2.2.1, .ref u.2.2.2.2.2.2.2.1, .ref hm])), (u.1, .inl (u.2.2.2.2.2.2.2.2.1, 6, .inl (fun _ => 0))), (u.2.1, .inl (u.2.2.2.2.2.2.2.2.2.1, 6, .inl (fun _ => 0))), (u.2.2.1, .inl (u.2.2.2.2.2.2.2.2.2.2.1, 6, .inl (fun _ => 0))), (u.2.2.2.1, .inl (u.2.2.2.2.2.2.2.2.2.2.2.1, 360, .inl u.2.2.2.2.2.2.2.2.2.2.2.2.2.2.2.2)), (u.2.2.2.2.1, .inl (u.2.2.2.2.2.2.2.2.2.2.2.2.1, 360, .inl (fun _ => 0))), (u.2.2.2.2.2.1, .inl (u.2.2.2.2.2.2.2.2.2.2.2.2.2.1, 360, .inl (fun _ => 0))), (u.2.2.2.2.2.2.1, .inl (u.2.2.2.2.2.2.2.2.2.2.2.2.2.2.1, 360, .inl (fun _ => 0))), (u.2.2.2.2.2.2.2.1, .inl (u.2.2.2.2.2.2.2.2.2.2.2.2.2.2.2.1, 60, .inl (fun _ => 0)))] t.heap ∧ va_K (dC, dI) vwCl [(u.2.2.2.2.2.2.2.2.1, .int), (u.2.2.2.2.2.2.2.2.2.1, .int), (u.2.2.2.2.2.2.2.2.2.2.1, .int), (u.2.2.2.2.2.2.2.2.2.2.2.1, .int), (u.2.2.2.2.2.2.2.2.2.2.2.2.1, .int), (u.2.2.2.2.2.2.2.2.2.2.2.2.2.1, .int), (u.2.2.2.2.2.2.2.2.2.2.2.2.2.2.1, .int), (u.2.2.2.2.2.2.2.2.2.2.2.2.2.2.2.1, .boolean)] t ∧ va_D A [(sm, .inr (2, [.int 0, .ref u.1, .ref u.2.1, .ref u.2.2.1, .ref u.2.2.2.1, .ref u.2.2.2.2.1, .ref u.2.2.2.2.2.1, .ref u.2.2.2.2.2.2.1, .ref u.2.2.2.2.2.2.2.1, .ref hm])), (u.1, .inl (u.2.2.2.2.2.2.2.2.1, 6, .inl (fun _ => 0))), (u.2.1, .inl (u.2.2.2.2.2.2.2.2.2.1, 6, .inl (fun _ => 0))), (u.2.2.1, .inl (u.2.2.2.2.2.2.2.2.2.2.1, 6, .inl (fun _ => 0))), (u.2.2.2.1, .inl (u.2.2.2.2.2.2.2.2.2.2.2.1, 360, .inl u.2.2.2.2.2.2.2.2.2.2.2.2.2.2.2.2)), (u.2.2.2.2.1, .inl (u.2.2.2.2.2.2.2.2.2.2.2.2.1, 360, .inl (fun _ => 0))), (u.2.2.2.2.2.1, .inl (u.2.2.2.2.2.2.2.2.2.2.2.2.2.1, 360, .inl (fun _ => 0))), (u.2.2.2.2.2.2.1, .inl (u.2.2.2.2.2.2.2.2.2.2.2.2.2.2.1, 360, .inl (fun _ => 0))), (u.2.2.2.2.2.2.2.1, .inl (u.2.2.2.2.2.2.2.2.2.2.2.2.2.2.2.1, 60, .inl (fun _ => 0)))]) A) (([.ref sm, .ref hm] : List Value).toArray) s 8 1518 A) (F0 m 79 ls []) from
    K79 _ 0 (fun _ => 0) (by decide) (fun j hj => absurd hj (Nat.not_lt_zero _)) (Nat.lt_succ_self _) _ _ hP hD hS _ (lv_sub hl [1, 0] rfl)
  intro n
  induction n with
  | zero =>
    intro i f hi hf hn
    exact absurd hn (Nat.not_lt_zero _)
  | succ n ih79 =>
    intro i f hi hf hn79 H locs hP hD hS ls hl
    refine lv_iload_n hx hb dX2_init_79 rfl (lv_at hl 1 rfl) ?_
    refine lv_aload_n hx hb dX2_init_80 rfl (lv_at hl 0 rfl) ?_
    refine va_get (D := (dC, dI)) (ci := 2) (v := .ref q7) (C := RX2) (T := TX2) (N := 10) hx hb hts (by decide +kernel) hown hK hP 0 rfl rfl 4 (by decide) (hts (.fieldLink RX2 25 "ThatchRoofModel$State" "kind" "[I") (by decide +kernel)) (fun _ h9 => h9) rfl dX2_init_81 ?_
    refine va_alen (v := 360) hx hb hK hP 4 3 rfl rfl rfl dX2_init_84 ?_
    refine lv_icmp_ge (tgt := 101) hx hb dX2_init_85 (by decide) (fun c17 => ?_) (fun c17 => ?_)
    · have nc17 : 360 ≤ i := (nI_leI (a := 360) (b := i) (by omega) (by omega)).mp c17
      have hP9 := hP.sub (ws' := [(sm, .inr (2, [.int 0, .ref q1, .ref q3, .ref q5, .ref q7, .ref q9, .ref q11, .ref q13, .ref q15, .ref hm])), (q1, .inl (cA2, 6, .inl (fun _ => 0))), (q3, .inl (cA4, 6, .inl (fun _ => 0))), (q5, .inl (cA6, 6, .inl (fun _ => 0))), (q7, .inl (cA8, 360, .inl f)), (q9, .inl (cA10, 360, .inl (fun _ => 0))), (q11, .inl (cA12, 360, .inl (fun _ => 0))), (q13, .inl (cA14, 360, .inl (fun _ => 0))), (q15, .inl (cA16, 60, .inl (fun _ => 0)))]) [0, 1, 2, 3, 4, 5, 6, 7, 8] rfl
      have hD9 := hD.sub (ws' := [(sm, .inr (2, [.int 0, .ref q1, .ref q3, .ref q5, .ref q7, .ref q9, .ref q11, .ref q13, .ref q15, .ref hm])), (q1, .inl (cA2, 6, .inl (fun _ => 0))), (q3, .inl (cA4, 6, .inl (fun _ => 0))), (q5, .inl (cA6, 6, .inl (fun _ => 0))), (q7, .inl (cA8, 360, .inl f)), (q9, .inl (cA10, 360, .inl (fun _ => 0))), (q11, .inl (cA12, 360, .inl (fun _ => 0))), (q13, .inl (cA14, 360, .inl (fun _ => 0))), (q15, .inl (cA16, 60, .inl (fun _ => 0)))]) [0, 1, 2, 3, 4, 5, 6, 7, 8] (by decide) rfl
      have hK9 := hK.sub (tys' := [(cA2, .int), (cA4, .int), (cA6, .int), (cA8, .int), (cA10, .int), (cA12, .int), (cA14, .int), (cA16, .boolean)]) [0, 1, 2, 3, 4, 5, 6, 7] rfl
      refine W.widen (k := 8) (n := 1518) (Nat.le_of_ble_eq_true rfl) (Nat.le_of_ble_eq_true rfl) ?_
      exact W.vret hx hb hr (fun t ht hW => ⟨⟨(q1, q3, q5, q7, q9, q11, q13, q15, cA2, cA4, cA6, cA8, cA10, cA12, cA14, cA16, f), rfl, fun j hj => hf j (by omega), ⟨by rw [ht]; exact hP9, va_K.moved hW.alike hK9, hD9⟩⟩, hS.F ht⟩) hS.2.2 dX2_init_101
    · have nc17 : i < 360 := Nat.lt_of_not_le (fun q => c17 ((nI_leI (a := 360) (b := i) (by omega) (by omega)).mpr q))
      refine lv_aload_n hx hb dX2_init_88 rfl (lv_at hl 0 rfl) ?_
      refine va_get (D := (dC, dI)) (ci := 2) (v := .ref q7) (C := RX2) (T := TX2) (N := 10) hx hb hts (by decide +kernel) hown hK hP 0 rfl rfl 4 (by decide) (hts (.fieldLink RX2 25 "ThatchRoofModel$State" "kind" "[I") (by decide +kernel)) (fun _ h9 => h9) rfl dX2_init_89 ?_
      refine lv_iload_n hx hb dX2_init_92 rfl (lv_at hl 1 rfl) ?_
      refine lv_iconst (v := (-1)) hx hb dX2_init_93 (by decide) ?_
      refine va_iast hx hb hK hP hD hS 4 3 rfl rfl (vp_in_nI (by omega) (by omega)) dX2_init_94 (fun H locs hP hD hS => ?_)
      rw [nI_clamp (show i < 2 ^ 31 by omega)] at hP hD
      have hP : va_P (dC, dI) vwCl [(sm, .inr (2, [.int 0, .ref q1, .ref q3, .ref q5, .ref q7, .ref q9, .ref q11, .ref q13, .ref q15, .ref hm])), (q1, .inl (cA2, 6, .inl (fun _ => 0))), (q3, .inl (cA4, 6, .inl (fun _ => 0))), (q5, .inl (cA6, 6, .inl (fun _ => 0))), (q7, .inl (cA8, 360, .inl (upd f i (-1)))), (q9, .inl (cA10, 360, .inl (fun _ => 0))), (q11, .inl (cA12, 360, .inl (fun _ => 0))), (q13, .inl (cA14, 360, .inl (fun _ => 0))), (q15, .inl (cA16, 60, .inl (fun _ => 0)))] H := hP
      have hD : va_D A [(sm, .inr (2, [.int 0, .ref q1, .ref q3, .ref q5, .ref q7, .ref q9, .ref q11, .ref q13, .ref q15, .ref hm])), (q1, .inl (cA2, 6, .inl (fun _ => 0))), (q3, .inl (cA4, 6, .inl (fun _ => 0))), (q5, .inl (cA6, 6, .inl (fun _ => 0))), (q7, .inl (cA8, 360, .inl (upd f i (-1)))), (q9, .inl (cA10, 360, .inl (fun _ => 0))), (q11, .inl (cA12, 360, .inl (fun _ => 0))), (q13, .inl (cA14, 360, .inl (fun _ => 0))), (q15, .inl (cA16, 60, .inl (fun _ => 0)))] := hD
      refine lv_iinc (v := nI (i + 1)) (lv' := [(2, .int (nI (i + 1))), (0, .ref sm)]) hx hb dX2_init_95 hl (k := 1) rfl (by exact nI_1 i) (by decide) rfl (fun ls hl => ?_)
      refine lv_goto (tgt := 79) hx hb dX2_init_98 (by decide) ?_
      exact ih79 (i + 1) (upd f i (-1)) (by omega) (fun j hj => by by_cases hji : j = i <;> first | (subst hji; exact pk_us) | (rw [pk_un hji]; exact hf j (by omega))) (by omega) _ _ (hP.sub [0, 1, 2, 3, 4, 5, 6, 7, 8] rfl) (hD.sub [0, 1, 2, 3, 4, 5, 6, 7, 8] (by decide) rfl) hS _ (lv_sub hl [1, 0] rfl)

set_option maxHeartbeats 4000000 in
set_option maxRecDepth 100000 in
theorem r3_init (l : Launch) (dC : Nat → ClassId) (dI : Nat → Nat → Nat) (sz : Nat) (hm : Nat) : Met l yX3_init wsX3_init ({ frames := 2, cells := 24, slots := 3101, locals := 34 }) (va_Pc [.ref hm] (fun U => U.heap.size = sz ∧ va_P (dC, dI) vwCl [(hm, .inr (3, [.int 0, .int 0, .null, .null, .null, .null, .null, .null, .null, .null]))] U.heap ∧ va_K (dC, dI) vwCl [] U ∧ va_D (fun _ => True) [(hm, .inr (3, [.int 0, .int 0, .null, .null, .null, .null, .null, .null, .null, .null]))])) (va_Qv (fun (u : Nat × Nat × Nat × Nat × Nat × Nat × Nat × Nat × Nat × Nat × Nat × Nat × Nat × Nat × Nat × Nat × ClassId × ClassId × ClassId × ClassId × ClassId × ClassId × ClassId × ClassId × ClassId × ClassId × ClassId × ClassId × ClassId × (Nat → Int32) × (Nat → Int32)) => (∀ j : Nat, j < 360 → u.2.2.2.2.2.2.2.2.2.2.2.2.2.2.2.2.2.2.2.2.2.2.2.2.2.2.2.2.2.2 j = -1) ∧ (∀ j : Nat, j < 12 → u.2.2.2.2.2.2.2.2.2.2.2.2.2.2.2.2.2.2.2.2.2.2.2.2.2.2.2.2.2.1 j = 4)) (fun (u : Nat × Nat × Nat × Nat × Nat × Nat × Nat × Nat × Nat × Nat × Nat × Nat × Nat × Nat × Nat × Nat × ClassId × ClassId × ClassId × ClassId × ClassId × ClassId × ClassId × ClassId × ClassId × ClassId × ClassId × ClassId × ClassId × (Nat → Int32) × (Nat → Int32)) (t : State) => va_P (dC, dI) vwCl [(hm, .inr (3, [.int 0, .int 0, .ref u.1, .ref u.2.1, .ref u.2.2.1, .ref u.2.2.2.1, .ref u.2.2.2.2.1, .ref u.2.2.2.2.2.1, .ref u.2.2.2.2.2.2.1, .ref u.2.2.2.2.2.2.2.1])), (u.2.2.2.2.2.2.1, .inr (2, [.int 0, .ref u.2.2.2.2.2.2.2.2.1, .ref u.2.2.2.2.2.2.2.2.2.1, .ref u.2.2.2.2.2.2.2.2.2.2.1, .ref u.2.2.2.2.2.2.2.2.2.2.2.1, .ref u.2.2.2.2.2.2.2.2.2.2.2.2.1, .ref u.2.2.2.2.2.2.2.2.2.2.2.2.2.1, .ref u.2.2.2.2.2.2.2.2.2.2.2.2.2.2.1, .ref u.2.2.2.2.2.2.2.2.2.2.2.2.2.2.2.1, .ref hm])), (u.1, .inl (u.2.2.2.2.2.2.2.2.2.2.2.2.2.2.2.2.1, 6, .inl (fun _ => 0))), (u.2.1, .inl (u.2.2.2.2.2.2.2.2.2.2.2.2.2.2.2.2.2.1, 6, .inl (fun _ => 0))), (u.2.2.1, .inl (u.2.2.2.2.2.2.2.2.2.2.2.2.2.2.2.2.2.2.1, 6, .inl (fun _ => 0))), (u.2.2.2.2.2.2.2.2.1, .inl (u.2.2.2.2.2.2.2.2.2.2.2.2.2.2.2.2.2.2.2.1, 6, .inl (fun _ => 0))), (u.2.2.2.2.2.1, .inl (u.2.2.2.2.2.2.2.2.2.2.2.2.2.2.2.2.2.2.2.2.1, 3, .inl (fun _ => 0))), (u.2.2.2.1, .inl (u.2.2.2.2.2.2.2.2.2.2.2.2.2.2.2.2.2.2.2.2.2.1, 12, .inl u.2.2.2.2.2.2.2.2.2.2.2.2.2.2.2.2.2.2.2.2.2.2.2.2.2.2.2.2.2.1)), (u.2.2.2.2.1, .inl (u.2.2.2.2.2.2.2.2.2.2.2.2.2.2.2.2.2.2.2.2.2.2.1, 12, .inl (fun _ => 0))), (u.2.2.2.2.2.2.2.2.2.1, .inl (u.2.2.2.2.2.2.2.2.2.2.2.2.2.2.2.2.2.2.2.2.2.2.2.1, 6, .inl (fun _ => 0))), (u.2.2.2.2.2.2.2.2.2.2.1, .inl (u.2.2.2.2.2.2.2.2.2.2.2.2.2.2.2.2.2.2.2.2.2.2.2.2.1, 6, .inl (fun _ => 0))), (u.2.2.2.2.2.2.2.2.2.2.2.1, .inl (u.2.2.2.2.2.2.2.2.2.2.2.2.2.2.2.2.2.2.2.2.2.2.2.2.2.1, 360, .inl u.2.2.2.2.2.2.2.2.2.2.2.2.2.2.2.2.2.2.2.2.2.2.2.2.2.2.2.2.2.2)), (u.2.2.2.2.2.2.2.2.2.2.2.2.1, .inl (u.2.2.2.2.2.2.2.2.2.2.2.2.2.2.2.2.2.2.2.2.2.2.2.2.2.2.1, 360, .inl (fun _ => 0))), (u.2.2.2.2.2.2.2.2.2.2.2.2.2.1, .inl (u.2.2.2.2.2.2.2.2.2.2.2.2.2.2.2.2.2.2.2.2.2.2.2.2.2.2.2.1, 360, .inl (fun _ => 0))), (u.2.2.2.2.2.2.2.2.2.2.2.2.2.2.1, .inl (u.2.2.2.2.2.2.2.2.2.2.2.2.2.2.2.2.2.2.2.2.2.2.2.2.2.2.2.2.1, 360, .inl (fun _ => 0)))] t.heap ∧ va_K (dC, dI) vwCl [(u.2.2.2.2.2.2.2.2.2.2.2.2.2.2.2.2.1, .int), (u.2.2.2.2.2.2.2.2.2.2.2.2.2.2.2.2.2.1, .int), (u.2.2.2.2.2.2.2.2.2.2.2.2.2.2.2.2.2.2.1, .int), (u.2.2.2.2.2.2.2.2.2.2.2.2.2.2.2.2.2.2.2.1, .int), (u.2.2.2.2.2.2.2.2.2.2.2.2.2.2.2.2.2.2.2.2.1, .int), (u.2.2.2.2.2.2.2.2.2.2.2.2.2.2.2.2.2.2.2.2.2.1, .int), (u.2.2.2.2.2.2.2.2.2.2.2.2.2.2.2.2.2.2.2.2.2.2.1, .int), (u.2.2.2.2.2.2.2.2.2.2.2.2.2.2.2.2.2.2.2.2.2.2.2.1, .int), (u.2.2.2.2.2.2.2.2.2.2.2.2.2.2.2.2.2.2.2.2.2.2.2.2.1, .int), (u.2.2.2.2.2.2.2.2.2.2.2.2.2.2.2.2.2.2.2.2.2.2.2.2.2.1, .int), (u.2.2.2.2.2.2.2.2.2.2.2.2.2.2.2.2.2.2.2.2.2.2.2.2.2.2.1, .int), (u.2.2.2.2.2.2.2.2.2.2.2.2.2.2.2.2.2.2.2.2.2.2.2.2.2.2.2.1, .int), (u.2.2.2.2.2.2.2.2.2.2.2.2.2.2.2.2.2.2.2.2.2.2.2.2.2.2.2.2.1, .int)] t ∧ va_D (va_A [(hm, .inr (3, [.int 0, .int 0, .null, .null, .null, .null, .null, .null, .null, .null]))] sz) [(hm, .inr (3, [.int 0, .int 0, .ref u.1, .ref u.2.1, .ref u.2.2.1, .ref u.2.2.2.1, .ref u.2.2.2.2.1, .ref u.2.2.2.2.2.1, .ref u.2.2.2.2.2.2.1, .ref u.2.2.2.2.2.2.2.1])), (u.2.2.2.2.2.2.1, .inr (2, [.int 0, .ref u.2.2.2.2.2.2.2.2.1, .ref u.2.2.2.2.2.2.2.2.2.1, .ref u.2.2.2.2.2.2.2.2.2.2.1, .ref u.2.2.2.2.2.2.2.2.2.2.2.1, .ref u.2.2.2.2.2.2.2.2.2.2.2.2.1, .ref u.2.2.2.2.2.2.2.2.2.2.2.2.2.1, .ref u.2.2.2.2.2.2.2.2.2.2.2.2.2.2.1, .ref u.2.2.2.2.2.2.2.2.2.2.2.2.2.2.2.1, .ref hm])), (u.1, .inl (u.2.2.2.2.2.2.2.2.2.2.2.2.2.2.2.2.1, 6, .inl (fun _ => 0))), (u.2.1, .inl (u.2.2.2.2.2.2.2.2.2.2.2.2.2.2.2.2.2.1, 6, .inl (fun _ => 0))), (u.2.2.1, .inl (u.2.2.2.2.2.2.2.2.2.2.2.2.2.2.2.2.2.2.1, 6, .inl (fun _ => 0))), (u.2.2.2.2.2.2.2.2.1, .inl (u.2.2.2.2.2.2.2.2.2.2.2.2.2.2.2.2.2.2.2.1, 6, .inl (fun _ => 0))), (u.2.2.2.2.2.1, .inl (u.2.2.2.2.2.2.2.2.2.2.2.2.2.2.2.2.2.2.2.2.1, 3, .inl (fun _ => 0))), (u.2.2.2.1, .inl (u.2.2.2.2.2.2.2.2.2.2.2.2.2.2.2.2.2.2.2.2.2.1, 12, .inl u.2.2.2.2.2.2.2.2.2.2.2.2.2.2.2.2.2.2.2.2.2.2.2.2.2.2.2.2.2.1)), (u.2.2.2.2.1, .inl (u.2.2.2.2.2.2.2.2.2.2.2.2.2.2.2.2.2.2.2.2.2.2.1, 12, .inl (fun _ => 0))), (u.2.2.2.2.2.2.2.2.2.1, .inl (u.2.2.2.2.2.2.2.2.2.2.2.2.2.2.2.2.2.2.2.2.2.2.2.1, 6, .inl (fun _ => 0))), (u.2.2.2.2.2.2.2.2.2.2.1, .inl (u.2.2.2.2.2.2.2.2.2.2.2.2.2.2.2.2.2.2.2.2.2.2.2.2.1, 6, .inl (fun _ => 0))), (u.2.2.2.2.2.2.2.2.2.2.2.1, .inl (u.2.2.2.2.2.2.2.2.2.2.2.2.2.2.2.2.2.2.2.2.2.2.2.2.2.1, 360, .inl u.2.2.2.2.2.2.2.2.2.2.2.2.2.2.2.2.2.2.2.2.2.2.2.2.2.2.2.2.2.2)), (u.2.2.2.2.2.2.2.2.2.2.2.2.1, .inl (u.2.2.2.2.2.2.2.2.2.2.2.2.2.2.2.2.2.2.2.2.2.2.2.2.2.2.1, 360, .inl (fun _ => 0))), (u.2.2.2.2.2.2.2.2.2.2.2.2.2.1, .inl (u.2.2.2.2.2.2.2.2.2.2.2.2.2.2.2.2.2.2.2.2.2.2.2.2.2.2.2.1, 360, .inl (fun _ => 0))), (u.2.2.2.2.2.2.2.2.2.2.2.2.2.2.1, .inl (u.2.2.2.2.2.2.2.2.2.2.2.2.2.2.2.2.2.2.2.2.2.2.2.2.2.2.2.2.1, 360, .inl (fun _ => 0)))]) (va_A [(hm, .inr (3, [.int 0, .int 0, .null, .null, .null, .null, .null, .null, .null, .null]))] sz)) 24 3101 (va_A [(hm, .inr (3, [.int 0, .int 0, .null, .null, .null, .null, .null, .null, .null, .null]))] sz) := by
  refine Met.ofW (cc := cX3_init) (maxL := 1) (ret := none) (by decide) rfl ?_
  intro p e s m args below meth c s₁ B hml hv
  obtain ⟨rfl, hsz, hP, hK, hD0⟩ := hv
  have hx := B.exec
  have hb := B.bytes
  have hr := B.returns
  have hts := atoms_spec (ws := wsX3_init) B.pre
  have hown : s.vm.findClass RX3 = some m.cls := findClass_of_methodNamed B.named
  have hlocks := B.notSynchronized
  have hin : meth.name = "<init>" := (name_of_methodNamed B.named B.method).1
  subst hsz
  have hD := hD0.self (sz := s.heap.size)
  generalize hAe : va_A [(hm, .inr (3, [.int 0, .int 0, .null, .null, .null, .null, .null, .null, .null, .null]))] s.heap.size = A at hD ⊢
  have hA : ∀ q : Nat, s.heap.size ≤ q → A q := fun q h => by rw [← hAe]; exact Or.inr h
  have hS : va_S A s.heap s.heap [] := va_S.rf
  have hP : va_P (dC, dI) vwCl [(hm, .inr (3, [.int 0, .int 0, .null, .null, .null, .null, .null, .null, .null, .null]))] s.heap := hP
  have hl := lv_entry ([.ref hm]) (n := 1) (Nat.le_of_ble_eq_true rfl)
  rw [lg_entry_eq]
  generalize (lg_sl ([.ref hm]) ++ List.replicate (1 - (lg_sl ([.ref hm])).length) Slot.unset).toArray = ls at hl ⊢
  have hl : lv_has ls 1 [(0, .ref hm)] := hl
  refine lv_aload_n hx hb dX3_init_0 rfl (lv_at hl 0 rfl) ?_
  refine W.objInit hx hb hown (hts (.methodLink RX3 1 objectInit) (by decide +kernel)) (hts (.instanceMethod objectInit) (by decide +kernel)) (hts (.code objectInit ⟨#[0xb1]⟩ 1 none) (by decide +kernel)) rfl (by rw [hml]; exact hl.1) rfl dX3_init_1 (Nat.le_of_ble_eq_true rfl) (Nat.le_of_ble_eq_true rfl) ?_
  refine W.eq (g2 := F0 m 4 ls []) rfl ?_
  refine lv_aload_n hx hb dX3_init_4 rfl (lv_at hl 0 rfl) ?_
  refine lv_bipush (v := 6) hx hb dX3_init_5 (by decide) ?_
  refine va_newa (atype := .int) (ty := .int) (N' := 6) (a0 := (6, .inl (fun _ => 0))) hx hb (hts (.arrayClass .int) (by decide +kernel)) rfl hK hP hD hS hA (fun _ => rfl) (by decide) (by decide) (by decide) (Nat.le_of_ble_eq_true rfl) (Nat.le_of_ble_eq_true rfl) dX3_init_7 (fun q1 cA2 H hK hP hD hS => ?_)
  refine W.widen (k := 1) (n := 6) (Nat.le_of_ble_eq_true rfl) (Nat.le_of_ble_eq_true rfl) ?_
  have hK : va_K (dC, dI) vwCl [(cA2, .int)] s := hK
  have hP : va_P (dC, dI) vwCl [(hm, .inr (3, [.int 0, .int 0, .null, .null, .null, .null, .null, .null, .null, .null])), (q1, .inl (cA2, 6, .inl (fun _ => 0)))] H := hP
  have hD : va_D A [(hm, .inr (3, [.int 0, .int 0, .null, .null, .null, .null, .null, .null, .null, .null])), (q1, .inl (cA2, 6, .inl (fun _ => 0)))] := hD
  refine va_putF (D := (dC, dI)) (ci := 3) (v := .ref q1) (ty := .array .int) (C := RX3) (T := TX3) (N := 10) hx hb hts (by decide +kernel) tyX3 tyX3_ok nmX3 hown hK hP hD hS 0 rfl rfl 2 (by decide) (hts (.fieldLink RX3 9 "ThatchRoofModel" "width" "[I") (by decide +kernel)) (fun _ h9 => h9) rfl hin rfl (by decide +kernel) rfl rfl (Nat.le_of_ble_eq_true rfl) dX3_init_9 (fun H locs hP hD hS => ?_)
  have hP : va_P (dC, dI) vwCl [(hm, .inr (3, [.int 0, .int 0, .ref q1, .null, .null, .null, .null, .null, .null, .null])), (q1, .inl (cA2, 6, .inl (fun _ => 0)))] H := hP
  have hD : va_D A [(hm, .inr (3, [.int 0, .int 0, .ref q1, .null, .null, .null, .null, .null, .null, .null])), (q1, .inl (cA2, 6, .inl (fun _ => 0)))] := hD
  refine lv_aload_n hx hb dX3_init_12 rfl (lv_at hl 0 rfl) ?_
  refine lv_bipush (v := 6) hx hb dX3_init_13 (by decide) ?_
  refine va_newa (atype := .int) (ty := .int) (N' := 6) (a0 := (6, .inl (fun _ => 0))) hx hb (hts (.arrayClass .int) (by decide +kernel)) rfl hK hP hD hS hA (fun _ => rfl) (by decide) (by decide) (by decide) (Nat.le_of_ble_eq_true rfl) (Nat.le_of_ble_eq_true rfl) dX3_init_15 (fun q3 cA4 H hK hP hD hS => ?_)
  refine W.widen (k := 2) (n := 12) (Nat.le_of_ble_eq_true rfl) (Nat.le_of_ble_eq_true rfl) ?_
  have hK : va_K (dC, dI) vwCl [(cA2, .int), (cA4, .int)] s := hK
  have hP : va_P (dC, dI) vwCl [(hm, .inr (3, [.int 0, .int 0, .ref q1, .null, .null, .null, .null, .null, .null, .null])), (q1, .inl (cA2, 6, .inl (fun _ => 0))), (q3, .inl (cA4, 6, .inl (fun _ => 0)))] H := hP
  have hD : va_D A [(hm, .inr (3, [.int 0, .int 0, .ref q1, .null, .null, .null, .null, .null, .null, .null])), (q1, .inl (cA2, 6, .inl (fun _ => 0))), (q3, .inl (cA4, 6, .inl (fun _ => 0)))] := hD
  refine va_putF (D := (dC, dI)) (ci := 3) (v := .ref q3) (ty := .array .int) (C := RX3) (T := TX3) (N := 10) hx hb hts (by decide +kernel) tyX3 tyX3_ok nmX3 hown hK hP hD hS 0 rfl rfl 3 (by decide) (hts (.fieldLink RX3 13 "ThatchRoofModel" "courses" "[I") (by decide +kernel)) (fun _ h9 => h9) rfl hin rfl (by decide +kernel) rfl rfl (Nat.le_of_ble_eq_true rfl) dX3_init_17 (fun H locs hP hD hS => ?_)
  have hP : va_P (dC, dI) vwCl [(hm, .inr (3, [.int 0, .int 0, .ref q1, .ref q3, .null, .null, .null, .null, .null, .null])), (q1, .inl (cA2, 6, .inl (fun _ => 0))), (q3, .inl (cA4, 6, .inl (fun _ => 0)))] H := hP
  have hD : va_D A [(hm, .inr (3, [.int 0, .int 0, .ref q1, .ref q3, .null, .null, .null, .null, .null, .null])), (q1, .inl (cA2, 6, .inl (fun _ => 0))), (q3, .inl (cA4, 6, .inl (fun _ => 0)))] := hD
  refine lv_aload_n hx hb dX3_init_20 rfl (lv_at hl 0 rfl) ?_
  refine lv_bipush (v := 6) hx hb dX3_init_21 (by decide) ?_
  refine va_newa (atype := .int) (ty := .int) (N' := 6) (a0 := (6, .inl (fun _ => 0))) hx hb (hts (.arrayClass .int) (by decide +kernel)) rfl hK hP hD hS hA (fun _ => rfl) (by decide) (by decide) (by decide) (Nat.le_of_ble_eq_true rfl) (Nat.le_of_ble_eq_true rfl) dX3_init_23 (fun q5 cA6 H hK hP hD hS => ?_)
  refine W.widen (k := 3) (n := 18) (Nat.le_of_ble_eq_true rfl) (Nat.le_of_ble_eq_true rfl) ?_
  have hK : va_K (dC, dI) vwCl [(cA2, .int), (cA4, .int), (cA6, .int)] s := hK
  have hP : va_P (dC, dI) vwCl [(hm, .inr (3, [.int 0, .int 0, .ref q1, .ref q3, .null, .null, .null, .null, .null, .null])), (q1, .inl (cA2, 6, .inl (fun _ => 0))), (q3, .inl (cA4, 6, .inl (fun _ => 0))), (q5, .inl (cA6, 6, .inl (fun _ => 0)))] H := hP
  have hD : va_D A [(hm, .inr (3, [.int 0, .int 0, .ref q1, .ref q3, .null, .null, .null, .null, .null, .null])), (q1, .inl (cA2, 6, .inl (fun _ => 0))), (q3, .inl (cA4, 6, .inl (fun _ => 0))), (q5, .inl (cA6, 6, .inl (fun _ => 0)))] := hD
  refine va_putF (D := (dC, dI)) (ci := 3) (v := .ref q5) (ty := .array .int) (C := RX3) (T := TX3) (N := 10) hx hb hts (by decide +kernel) tyX3 tyX3_ok nmX3 hown hK hP hD hS 0 rfl rfl 4 (by decide) (hts (.fieldLink RX3 16 "ThatchRoofModel" "slope" "[I") (by decide +kernel)) (fun _ h9 => h9) rfl hin rfl (by decide +kernel) rfl rfl (Nat.le_of_ble_eq_true rfl) dX3_init_25 (fun H locs hP hD hS => ?_)
  have hP : va_P (dC, dI) vwCl [(hm, .inr (3, [.int 0, .int 0, .ref q1, .ref q3, .ref q5, .null, .null, .null, .null, .null])), (q1, .inl (cA2, 6, .inl (fun _ => 0))), (q3, .inl (cA4, 6, .inl (fun _ => 0))), (q5, .inl (cA6, 6, .inl (fun _ => 0)))] H := hP
  have hD : va_D A [(hm, .inr (3, [.int 0, .int 0, .ref q1, .ref q3, .ref q5, .null, .null, .null, .null, .null])), (q1, .inl (cA2, 6, .inl (fun _ => 0))), (q3, .inl (cA4, 6, .inl (fun _ => 0))), (q5, .inl (cA6, 6, .inl (fun _ => 0)))] := hD
  refine lv_aload_n hx hb dX3_init_28 rfl (lv_at hl 0 rfl) ?_
  refine lv_bipush (v := 12) hx hb dX3_init_29 (by decide) ?_
  refine va_newa (atype := .int) (ty := .int) (N' := 12) (a0 := (12, .inl (fun _ => 0))) hx hb (hts (.arrayClass .int) (by decide +kernel)) rfl hK hP hD hS hA (fun _ => rfl) (by decide) (by decide) (by decide) (Nat.le_of_ble_eq_true rfl) (Nat.le_of_ble_eq_true rfl) dX3_init_31 (fun q7 cA8 H hK hP hD hS => ?_)
  refine W.widen (k := 4) (n := 30) (Nat.le_of_ble_eq_true rfl) (Nat.le_of_ble_eq_true rfl) ?_
  have hK : va_K (dC, dI) vwCl [(cA2, .int), (cA4, .int), (cA6, .int), (cA8, .int)] s := hK
  have hP : va_P (dC, dI) vwCl [(hm, .inr (3, [.int 0, .int 0, .ref q1, .ref q3, .ref q5, .null, .null, .null, .null, .null])), (q1, .inl (cA2, 6, .inl (fun _ => 0))), (q3, .inl (cA4, 6, .inl (fun _ => 0))), (q5, .inl (cA6, 6, .inl (fun _ => 0))), (q7, .inl (cA8, 12, .inl (fun _ => 0)))] H := hP
  have hD : va_D A [(hm, .inr (3, [.int 0, .int 0, .ref q1, .ref q3, .ref q5, .null, .null, .null, .null, .null])), (q1, .inl (cA2, 6, .inl (fun _ => 0))), (q3, .inl (cA4, 6, .inl (fun _ => 0))), (q5, .inl (cA6, 6, .inl (fun _ => 0))), (q7, .inl (cA8, 12, .inl (fun _ => 0)))] := hD
  refine lv_dup hx hb dX3_init_33 rfl ?_
  refine lv_iconst (v := 0) hx hb dX3_init_34 (by decide) ?_
  refine lv_iconst (v := 4) hx hb dX3_init_35 (by decide) ?_
  refine va_iast hx hb hK hP hD hS 4 3 rfl rfl (vp_in_nI (n := 0) (by decide) (by decide)) dX3_init_36 (fun H locs hP hD hS => ?_)
  have hP : va_P (dC, dI) vwCl [(hm, .inr (3, [.int 0, .int 0, .ref q1, .ref q3, .ref q5, .null, .null, .null, .null, .null])), (q1, .inl (cA2, 6, .inl (fun _ => 0))), (q3, .inl (cA4, 6, .inl (fun _ => 0))), (q5, .inl (cA6, 6, .inl (fun _ => 0))), (q7, .inl (cA8, 12, .inl (upd (fun _ => 0) 0 4)))] H := hP
  have hD : va_D A [(hm, .inr (3, [.int 0, .int 0, .ref q1, .ref q3, .ref q5, .null, .null, .null, .null, .null])), (q1, .inl (cA2, 6, .inl (fun _ => 0))), (q3, .inl (cA4, 6, .inl (fun _ => 0))), (q5, .inl (cA6, 6, .inl (fun _ => 0))), (q7, .inl (cA8, 12, .inl (upd (fun _ => 0) 0 4)))] := hD
  refine lv_dup hx hb dX3_init_37 rfl ?_
  refine lv_iconst (v := 1) hx hb dX3_init_38 (by decide) ?_
  refine lv_iconst (v := 4) hx hb dX3_init_39 (by decide) ?_
  refine va_iast hx hb hK hP hD hS 4 3 rfl rfl (vp_in_nI (n := 1) (by decide) (by decide)) dX3_init_40 (fun H locs hP hD hS => ?_)
  have hP : va_P (dC, dI) vwCl [(hm, .inr (3, [.int 0, .int 0, .ref q1, .ref q3, .ref q5, .null, .null, .null, .null, .null])), (q1, .inl (cA2, 6, .inl (fun _ => 0))), (q3, .inl (cA4, 6, .inl (fun _ => 0))), (q5, .inl (cA6, 6, .inl (fun _ => 0))), (q7, .inl (cA8, 12, .inl (upd (upd (fun _ => 0) 0 4) 1 4)))] H := hP
  have hD : va_D A [(hm, .inr (3, [.int 0, .int 0, .ref q1, .ref q3, .ref q5, .null, .null, .null, .null, .null])), (q1, .inl (cA2, 6, .inl (fun _ => 0))), (q3, .inl (cA4, 6, .inl (fun _ => 0))), (q5, .inl (cA6, 6, .inl (fun _ => 0))), (q7, .inl (cA8, 12, .inl (upd (upd (fun _ => 0) 0 4) 1 4)))] := hD
  refine lv_dup hx hb dX3_init_41 rfl ?_
  refine lv_iconst (v := 2) hx hb dX3_init_42 (by decide) ?_
  refine lv_iconst (v := 4) hx hb dX3_init_43 (by decide) ?_
  refine va_iast hx hb hK hP hD hS 4 3 rfl rfl (vp_in_nI (n := 2) (by decide) (by decide)) dX3_init_44 (fun H locs hP hD hS => ?_)
  have hP : va_P (dC, dI) vwCl [(hm, .inr (3, [.int 0, .int 0, .ref q1, .ref q3, .ref q5, .null, .null, .null, .null, .null])), (q1, .inl (cA2, 6, .inl (fun _ => 0))), (q3, .inl (cA4, 6, .inl (fun _ => 0))), (q5, .inl (cA6, 6, .inl (fun _ => 0))), (q7, .inl (cA8, 12, .inl (upd (upd (upd (fun _ => 0) 0 4) 1 4) 2 4)))] H := hP
  have hD : va_D A [(hm, .inr (3, [.int 0, .int 0, .ref q1, .ref q3, .ref q5, .null, .null, .null, .null, .null])), (q1, .inl (cA2, 6, .inl (fun _ => 0))), (q3, .inl (cA4, 6, .inl (fun _ => 0))), (q5, .inl (cA6, 6, .inl (fun _ => 0))), (q7, .inl (cA8, 12, .inl (upd (upd (upd (fun _ => 0) 0 4) 1 4) 2 4)))] := hD
  refine lv_dup hx hb dX3_init_45 rfl ?_
  refine lv_iconst (v := 3) hx hb dX3_init_46 (by decide) ?_
  refine lv_iconst (v := 4) hx hb dX3_init_47 (by decide) ?_
  refine va_iast hx hb hK hP hD hS 4 3 rfl rfl (vp_in_nI (n := 3) (by decide) (by decide)) dX3_init_48 (fun H locs hP hD hS => ?_)
  have hP : va_P (dC, dI) vwCl [(hm, .inr (3, [.int 0, .int 0, .ref q1, .ref q3, .ref q5, .null, .null, .null, .null, .null])), (q1, .inl (cA2, 6, .inl (fun _ => 0))), (q3, .inl (cA4, 6, .inl (fun _ => 0))), (q5, .inl (cA6, 6, .inl (fun _ => 0))), (q7, .inl (cA8, 12, .inl (upd (upd (upd (upd (fun _ => 0) 0 4) 1 4) 2 4) 3 4)))] H := hP
  have hD : va_D A [(hm, .inr (3, [.int 0, .int 0, .ref q1, .ref q3, .ref q5, .null, .null, .null, .null, .null])), (q1, .inl (cA2, 6, .inl (fun _ => 0))), (q3, .inl (cA4, 6, .inl (fun _ => 0))), (q5, .inl (cA6, 6, .inl (fun _ => 0))), (q7, .inl (cA8, 12, .inl (upd (upd (upd (upd (fun _ => 0) 0 4) 1 4) 2 4) 3 4)))] := hD
  refine lv_dup hx hb dX3_init_49 rfl ?_
  refine lv_iconst (v := 4) hx hb dX3_init_50 (by decide) ?_
  refine lv_iconst (v := 4) hx hb dX3_init_51 (by decide) ?_
  refine va_iast hx hb hK hP hD hS 4 3 rfl rfl (vp_in_nI (n := 4) (by decide) (by decide)) dX3_init_52 (fun H locs hP hD hS => ?_)
  have hP : va_P (dC, dI) vwCl [(hm, .inr (3, [.int 0, .int 0, .ref q1, .ref q3, .ref q5, .null, .null, .null, .null, .null])), (q1, .inl (cA2, 6, .inl (fun _ => 0))), (q3, .inl (cA4, 6, .inl (fun _ => 0))), (q5, .inl (cA6, 6, .inl (fun _ => 0))), (q7, .inl (cA8, 12, .inl (upd (upd (upd (upd (upd (fun _ => 0) 0 4) 1 4) 2 4) 3 4) 4 4)))] H := hP
  have hD : va_D A [(hm, .inr (3, [.int 0, .int 0, .ref q1, .ref q3, .ref q5, .null, .null, .null, .null, .null])), (q1, .inl (cA2, 6, .inl (fun _ => 0))), (q3, .inl (cA4, 6, .inl (fun _ => 0))), (q5, .inl (cA6, 6, .inl (fun _ => 0))), (q7, .inl (cA8, 12, .inl (upd (upd (upd (upd (upd (fun _ => 0) 0 4) 1 4) 2 4) 3 4) 4 4)))] := hD
  refine lv_dup hx hb dX3_init_53 rfl ?_
  refine lv_iconst (v := 5) hx hb dX3_init_54 (by decide) ?_
  refine lv_iconst (v := 4) hx hb dX3_init_55 (by decide) ?_
  refine va_iast hx hb hK hP hD hS 4 3 rfl rfl (vp_in_nI (n := 5) (by decide) (by decide)) dX3_init_56 (fun H locs hP hD hS => ?_)
  have hP : va_P (dC, dI) vwCl [(hm, .inr (3, [.int 0, .int 0, .ref q1, .ref q3, .ref q5, .null, .null, .null, .null, .null])), (q1, .inl (cA2, 6, .inl (fun _ => 0))), (q3, .inl (cA4, 6, .inl (fun _ => 0))), (q5, .inl (cA6, 6, .inl (fun _ => 0))), (q7, .inl (cA8, 12, .inl (upd (upd (upd (upd (upd (upd (fun _ => 0) 0 4) 1 4) 2 4) 3 4) 4 4) 5 4)))] H := hP
  have hD : va_D A [(hm, .inr (3, [.int 0, .int 0, .ref q1, .ref q3, .ref q5, .null, .null, .null, .null, .null])), (q1, .inl (cA2, 6, .inl (fun _ => 0))), (q3, .inl (cA4, 6, .inl (fun _ => 0))), (q5, .inl (cA6, 6, .inl (fun _ => 0))), (q7, .inl (cA8, 12, .inl (upd (upd (upd (upd (upd (upd (fun _ => 0) 0 4) 1 4) 2 4) 3 4) 4 4) 5 4)))] := hD
  refine lv_dup hx hb dX3_init_57 rfl ?_
  refine lv_bipush (v := 6) hx hb dX3_init_58 (by decide) ?_
  refine lv_iconst (v := 4) hx hb dX3_init_60 (by decide) ?_
  refine va_iast hx hb hK hP hD hS 4 3 rfl rfl (vp_in_nI (n := 6) (by decide) (by decide)) dX3_init_61 (fun H locs hP hD hS => ?_)
  have hP : va_P (dC, dI) vwCl [(hm, .inr (3, [.int 0, .int 0, .ref q1, .ref q3, .ref q5, .null, .null, .null, .null, .null])), (q1, .inl (cA2, 6, .inl (fun _ => 0))), (q3, .inl (cA4, 6, .inl (fun _ => 0))), (q5, .inl (cA6, 6, .inl (fun _ => 0))), (q7, .inl (cA8, 12, .inl (upd (upd (upd (upd (upd (upd (upd (fun _ => 0) 0 4) 1 4) 2 4) 3 4) 4 4) 5 4) 6 4)))] H := hP
  have hD : va_D A [(hm, .inr (3, [.int 0, .int 0, .ref q1, .ref q3, .ref q5, .null, .null, .null, .null, .null])), (q1, .inl (cA2, 6, .inl (fun _ => 0))), (q3, .inl (cA4, 6, .inl (fun _ => 0))), (q5, .inl (cA6, 6, .inl (fun _ => 0))), (q7, .inl (cA8, 12, .inl (upd (upd (upd (upd (upd (upd (upd (fun _ => 0) 0 4) 1 4) 2 4) 3 4) 4 4) 5 4) 6 4)))] := hD
  refine lv_dup hx hb dX3_init_62 rfl ?_
  refine lv_bipush (v := 7) hx hb dX3_init_63 (by decide) ?_
  refine lv_iconst (v := 4) hx hb dX3_init_65 (by decide) ?_
  refine va_iast hx hb hK hP hD hS 4 3 rfl rfl (vp_in_nI (n := 7) (by decide) (by decide)) dX3_init_66 (fun H locs hP hD hS => ?_)
  have hP : va_P (dC, dI) vwCl [(hm, .inr (3, [.int 0, .int 0, .ref q1, .ref q3, .ref q5, .null, .null, .null, .null, .null])), (q1, .inl (cA2, 6, .inl (fun _ => 0))), (q3, .inl (cA4, 6, .inl (fun _ => 0))), (q5, .inl (cA6, 6, .inl (fun _ => 0))), (q7, .inl (cA8, 12, .inl (upd (upd (upd (upd (upd (upd (upd (upd (fun _ => 0) 0 4) 1 4) 2 4) 3 4) 4 4) 5 4) 6 4) 7 4)))] H := hP
  have hD : va_D A [(hm, .inr (3, [.int 0, .int 0, .ref q1, .ref q3, .ref q5, .null, .null, .null, .null, .null])), (q1, .inl (cA2, 6, .inl (fun _ => 0))), (q3, .inl (cA4, 6, .inl (fun _ => 0))), (q5, .inl (cA6, 6, .inl (fun _ => 0))), (q7, .inl (cA8, 12, .inl (upd (upd (upd (upd (upd (upd (upd (upd (fun _ => 0) 0 4) 1 4) 2 4) 3 4) 4 4) 5 4) 6 4) 7 4)))] := hD
  refine lv_dup hx hb dX3_init_67 rfl ?_
  refine lv_bipush (v := 8) hx hb dX3_init_68 (by decide) ?_
  refine lv_iconst (v := 4) hx hb dX3_init_70 (by decide) ?_
  refine va_iast hx hb hK hP hD hS 4 3 rfl rfl (vp_in_nI (n := 8) (by decide) (by decide)) dX3_init_71 (fun H locs hP hD hS => ?_)
  have hP : va_P (dC, dI) vwCl [(hm, .inr (3, [.int 0, .int 0, .ref q1, .ref q3, .ref q5, .null, .null, .null, .null, .null])), (q1, .inl (cA2, 6, .inl (fun _ => 0))), (q3, .inl (cA4, 6, .inl (fun _ => 0))), (q5, .inl (cA6, 6, .inl (fun _ => 0))), (q7, .inl (cA8, 12, .inl (upd (upd (upd (upd (upd (upd (upd (upd (upd (fun _ => 0) 0 4) 1 4) 2 4) 3 4) 4 4) 5 4) 6 4) 7 4) 8 4)))] H := hP
  have hD : va_D A [(hm, .inr (3, [.int 0, .int 0, .ref q1, .ref q3, .ref q5, .null, .null, .null, .null, .null])), (q1, .inl (cA2, 6, .inl (fun _ => 0))), (q3, .inl (cA4, 6, .inl (fun _ => 0))), (q5, .inl (cA6, 6, .inl (fun _ => 0))), (q7, .inl (cA8, 12, .inl (upd (upd (upd (upd (upd (upd (upd (upd (upd (fun _ => 0) 0 4) 1 4) 2 4) 3 4) 4 4) 5 4) 6 4) 7 4) 8 4)))] := hD
  refine lv_dup hx hb dX3_init_72 rfl ?_
  refine lv_bipush (v := 9) hx hb dX3_init_73 (by decide) ?_
  refine lv_iconst (v := 4) hx hb dX3_init_75 (by decide) ?_
  refine va_iast hx hb hK hP hD hS 4 3 rfl rfl (vp_in_nI (n := 9) (by decide) (by decide)) dX3_init_76 (fun H locs hP hD hS => ?_)
  have hP : va_P (dC, dI) vwCl [(hm, .inr (3, [.int 0, .int 0, .ref q1, .ref q3, .ref q5, .null, .null, .null, .null, .null])), (q1, .inl (cA2, 6, .inl (fun _ => 0))), (q3, .inl (cA4, 6, .inl (fun _ => 0))), (q5, .inl (cA6, 6, .inl (fun _ => 0))), (q7, .inl (cA8, 12, .inl (upd (upd (upd (upd (upd (upd (upd (upd (upd (upd (fun _ => 0) 0 4) 1 4) 2 4) 3 4) 4 4) 5 4) 6 4) 7 4) 8 4) 9 4)))] H := hP
  have hD : va_D A [(hm, .inr (3, [.int 0, .int 0, .ref q1, .ref q3, .ref q5, .null, .null, .null, .null, .null])), (q1, .inl (cA2, 6, .inl (fun _ => 0))), (q3, .inl (cA4, 6, .inl (fun _ => 0))), (q5, .inl (cA6, 6, .inl (fun _ => 0))), (q7, .inl (cA8, 12, .inl (upd (upd (upd (upd (upd (upd (upd (upd (upd (upd (fun _ => 0) 0 4) 1 4) 2 4) 3 4) 4 4) 5 4) 6 4) 7 4) 8 4) 9 4)))] := hD
  refine lv_dup hx hb dX3_init_77 rfl ?_
  refine lv_bipush (v := 10) hx hb dX3_init_78 (by decide) ?_
  refine lv_iconst (v := 4) hx hb dX3_init_80 (by decide) ?_
  refine va_iast hx hb hK hP hD hS 4 3 rfl rfl (vp_in_nI (n := 10) (by decide) (by decide)) dX3_init_81 (fun H locs hP hD hS => ?_)
  have hP : va_P (dC, dI) vwCl [(hm, .inr (3, [.int 0, .int 0, .ref q1, .ref q3, .ref q5, .null, .null, .null, .null, .null])), (q1, .inl (cA2, 6, .inl (fun _ => 0))), (q3, .inl (cA4, 6, .inl (fun _ => 0))), (q5, .inl (cA6, 6, .inl (fun _ => 0))), (q7, .inl (cA8, 12, .inl (upd (upd (upd (upd (upd (upd (upd (upd (upd (upd (upd (fun _ => 0) 0 4) 1 4) 2 4) 3 4) 4 4) 5 4) 6 4) 7 4) 8 4) 9 4) 10 4)))] H := hP
  have hD : va_D A [(hm, .inr (3, [.int 0, .int 0, .ref q1, .ref q3, .ref q5, .null, .null, .null, .null, .null])), (q1, .inl (cA2, 6, .inl (fun _ => 0))), (q3, .inl (cA4, 6, .inl (fun _ => 0))), (q5, .inl (cA6, 6, .inl (fun _ => 0))), (q7, .inl (cA8, 12, .inl (upd (upd (upd (upd (upd (upd (upd (upd (upd (upd (upd (fun _ => 0) 0 4) 1 4) 2 4) 3 4) 4 4) 5 4) 6 4) 7 4) 8 4) 9 4) 10 4)))] := hD
  refine lv_dup hx hb dX3_init_82 rfl ?_
  refine lv_bipush (v := 11) hx hb dX3_init_83 (by decide) ?_
  refine lv_iconst (v := 4) hx hb dX3_init_85 (by decide) ?_
  refine va_iast hx hb hK hP hD hS 4 3 rfl rfl (vp_in_nI (n := 11) (by decide) (by decide)) dX3_init_86 (fun H locs hP hD hS => ?_)
  have hP : va_P (dC, dI) vwCl [(hm, .inr (3, [.int 0, .int 0, .ref q1, .ref q3, .ref q5, .null, .null, .null, .null, .null])), (q1, .inl (cA2, 6, .inl (fun _ => 0))), (q3, .inl (cA4, 6, .inl (fun _ => 0))), (q5, .inl (cA6, 6, .inl (fun _ => 0))), (q7, .inl (cA8, 12, .inl (upd (upd (upd (upd (upd (upd (upd (upd (upd (upd (upd (upd (fun _ => 0) 0 4) 1 4) 2 4) 3 4) 4 4) 5 4) 6 4) 7 4) 8 4) 9 4) 10 4) 11 4)))] H := hP
  have hD : va_D A [(hm, .inr (3, [.int 0, .int 0, .ref q1, .ref q3, .ref q5, .null, .null, .null, .null, .null])), (q1, .inl (cA2, 6, .inl (fun _ => 0))), (q3, .inl (cA4, 6, .inl (fun _ => 0))), (q5, .inl (cA6, 6, .inl (fun _ => 0))), (q7, .inl (cA8, 12, .inl (upd (upd (upd (upd (upd (upd (upd (upd (upd (upd (upd (upd (fun _ => 0) 0 4) 1 4) 2 4) 3 4) 4 4) 5 4) 6 4) 7 4) 8 4) 9 4) 10 4) 11 4)))] := hD
  refine va_putF (D := (dC, dI)) (ci := 3) (v := .ref q7) (ty := .array .int) (C := RX3) (T := TX3) (N := 10) hx hb hts (by decide +kernel) tyX3 tyX3_ok nmX3 hown hK hP hD hS 0 rfl rfl 5 (by decide) (hts (.fieldLink RX3 19 "ThatchRoofModel" "rain" "[I") (by decide +kernel)) (fun _ h9 => h9) rfl hin rfl (by decide +kernel) rfl rfl (Nat.le_of_ble_eq_true rfl) dX3_init_87 (fun H locs hP hD hS => ?_)
  have hP : va_P (dC, dI) vwCl [(hm, .inr (3, [.int 0, .int 0, .ref q1, .ref q3, .ref q5, .ref q7, .null, .null, .null, .null])), (q1, .inl (cA2, 6, .inl (fun _ => 0))), (q3, .inl (cA4, 6, .inl (fun _ => 0))), (q5, .inl (cA6, 6, .inl (fun _ => 0))), (q7, .inl (cA8, 12, .inl (upd (upd (upd (upd (upd (upd (upd (upd (upd (upd (upd (upd (fun _ => 0) 0 4) 1 4) 2 4) 3 4) 4 4) 5 4) 6 4) 7 4) 8 4) 9 4) 10 4) 11 4)))] H := hP
  have hD : va_D A [(hm, .inr (3, [.int 0, .int 0, .ref q1, .ref q3, .ref q5, .ref q7, .null, .null, .null, .null])), (q1, .inl (cA2, 6, .inl (fun _ => 0))), (q3, .inl (cA4, 6, .inl (fun _ => 0))), (q5, .inl (cA6, 6, .inl (fun _ => 0))), (q7, .inl (cA8, 12, .inl (upd (upd (upd (upd (upd (upd (upd (upd (upd (upd (upd (upd (fun _ => 0) 0 4) 1 4) 2 4) 3 4) 4 4) 5 4) 6 4) 7 4) 8 4) 9 4) 10 4) 11 4)))] := hD
  refine lv_aload_n hx hb dX3_init_90 rfl (lv_at hl 0 rfl) ?_
  refine lv_bipush (v := 12) hx hb dX3_init_91 (by decide) ?_
  refine va_newa (atype := .int) (ty := .int) (N' := 12) (a0 := (12, .inl (fun _ => 0))) hx hb (hts (.arrayClass .int) (by decide +kernel)) rfl hK hP hD hS hA (fun _ => rfl) (by decide) (by decide) (by decide) (Nat.le_of_ble_eq_true rfl) (Nat.le_of_ble_eq_true rfl) dX3_init_93 (fun q9 cA10 H hK hP hD hS => ?_)
  refine W.widen (k := 5) (n := 42) (Nat.le_of_ble_eq_true rfl) (Nat.le_of_ble_eq_true rfl) ?_
  have hK : va_K (dC, dI) vwCl [(cA2, .int), (cA4, .int), (cA6, .int), (cA8, .int), (cA10, .int)] s := hK
  have hP : va_P (dC, dI) vwCl [(hm, .inr (3, [.int 0, .int 0, .ref q1, .ref q3, .ref q5, .ref q7, .null, .null, .null, .null])), (q1, .inl (cA2, 6, .inl (fun _ => 0))), (q3, .inl (cA4, 6, .inl (fun _ => 0))), (q5, .inl (cA6, 6, .inl (fun _ => 0))), (q7, .inl (cA8, 12, .inl (upd (upd (upd (upd (upd (upd (upd (upd (upd (upd (upd (upd (fun _ => 0) 0 4) 1 4) 2 4) 3 4) 4 4) 5 4) 6 4) 7 4) 8 4) 9 4) 10 4) 11 4))), (q9, .inl (cA10, 12, .inl (fun _ => 0)))] H := hP
  have hD : va_D A [(hm, .inr (3, [.int 0, .int 0, .ref q1, .ref q3, .ref q5, .ref q7, .null, .null, .null, .null])), (q1, .inl (cA2, 6, .inl (fun _ => 0))), (q3, .inl (cA4, 6, .inl (fun _ => 0))), (q5, .inl (cA6, 6, .inl (fun _ => 0))), (q7, .inl (cA8, 12, .inl (upd (upd (upd (upd (upd (upd (upd (upd (upd (upd (upd (upd (fun _ => 0) 0 4) 1 4) 2 4) 3 4) 4 4) 5 4) 6 4) 7 4) 8 4) 9 4) 10 4) 11 4))), (q9, .inl (cA10, 12, .inl (fun _ => 0)))] := hD
  refine va_putF (D := (dC, dI)) (ci := 3) (v := .ref q9) (ty := .array .int) (C := RX3) (T := TX3) (N := 10) hx hb hts (by decide +kernel) tyX3 tyX3_ok nmX3 hown hK hP hD hS 0 rfl rfl 6 (by decide) (hts (.fieldLink RX3 22 "ThatchRoofModel" "storm" "[I") (by decide +kernel)) (fun _ h9 => h9) rfl hin rfl (by decide +kernel) rfl rfl (Nat.le_of_ble_eq_true rfl) dX3_init_95 (fun H locs hP hD hS => ?_)
  have hP : va_P (dC, dI) vwCl [(hm, .inr (3, [.int 0, .int 0, .ref q1, .ref q3, .ref q5, .ref q7, .ref q9, .null, .null, .null])), (q1, .inl (cA2, 6, .inl (fun _ => 0))), (q3, .inl (cA4, 6, .inl (fun _ => 0))), (q5, .inl (cA6, 6, .inl (fun _ => 0))), (q7, .inl (cA8, 12, .inl (upd (upd (upd (upd (upd (upd (upd (upd (upd (upd (upd (upd (fun _ => 0) 0 4) 1 4) 2 4) 3 4) 4 4) 5 4) 6 4) 7 4) 8 4) 9 4) 10 4) 11 4))), (q9, .inl (cA10, 12, .inl (fun _ => 0)))] H := hP
  have hD : va_D A [(hm, .inr (3, [.int 0, .int 0, .ref q1, .ref q3, .ref q5, .ref q7, .ref q9, .null, .null, .null])), (q1, .inl (cA2, 6, .inl (fun _ => 0))), (q3, .inl (cA4, 6, .inl (fun _ => 0))), (q5, .inl (cA6, 6, .inl (fun _ => 0))), (q7, .inl (cA8, 12, .inl (upd (upd (upd (upd (upd (upd (upd (upd (upd (upd (upd (upd (fun _ => 0) 0 4) 1 4) 2 4) 3 4) 4 4) 5 4) 6 4) 7 4) 8 4) 9 4) 10 4) 11 4))), (q9, .inl (cA10, 12, .inl (fun _ => 0)))] := hD
  refine lv_aload_n hx hb dX3_init_98 rfl (lv_at hl 0 rfl) ?_
  refine lv_iconst (v := 3) hx hb dX3_init_99 (by decide) ?_
  refine va_newa (atype := .int) (ty := .int) (N' := 3) (a0 := (3, .inl (fun _ => 0))) hx hb (hts (.arrayClass .int) (by decide +kernel)) rfl hK hP hD hS hA (fun _ => rfl) (by decide) (by decide) (by decide) (Nat.le_of_ble_eq_true rfl) (Nat.le_of_ble_eq_true rfl) dX3_init_100 (fun q11 cA12 H hK hP hD hS => ?_)
  refine W.widen (k := 6) (n := 45) (Nat.le_of_ble_eq_true rfl) (Nat.le_of_ble_eq_true rfl) ?_
  have hK : va_K (dC, dI) vwCl [(cA2, .int), (cA4, .int), (cA6, .int), (cA8, .int), (cA10, .int), (cA12, .int)] s := hK
  have hP : va_P (dC, dI) vwCl [(hm, .inr (3, [.int 0, .int 0, .ref q1, .ref q3, .ref q5, .ref q7, .ref q9, .null, .null, .null])), (q1, .inl (cA2, 6, .inl (fun _ => 0))), (q3, .inl (cA4, 6, .inl (fun _ => 0))), (q5, .inl (cA6, 6, .inl (fun _ => 0))), (q7, .inl (cA8, 12, .inl (upd (upd (upd (upd (upd (upd (upd (upd (upd (upd (upd (upd (fun _ => 0) 0 4) 1 4) 2 4) 3 4) 4 4) 5 4) 6 4) 7 4) 8 4) 9 4) 10 4) 11 4))), (q9, .inl (cA10, 12, .inl (fun _ => 0))), (q11, .inl (cA12, 3, .inl (fun _ => 0)))] H := hP
  have hD : va_D A [(hm, .inr (3, [.int 0, .int 0, .ref q1, .ref q3, .ref q5, .ref q7, .ref q9, .null, .null, .null])), (q1, .inl (cA2, 6, .inl (fun _ => 0))), (q3, .inl (cA4, 6, .inl (fun _ => 0))), (q5, .inl (cA6, 6, .inl (fun _ => 0))), (q7, .inl (cA8, 12, .inl (upd (upd (upd (upd (upd (upd (upd (upd (upd (upd (upd (upd (fun _ => 0) 0 4) 1 4) 2 4) 3 4) 4 4) 5 4) 6 4) 7 4) 8 4) 9 4) 10 4) 11 4))), (q9, .inl (cA10, 12, .inl (fun _ => 0))), (q11, .inl (cA12, 3, .inl (fun _ => 0)))] := hD
  refine va_putF (D := (dC, dI)) (ci := 3) (v := .ref q11) (ty := .array .int) (C := RX3) (T := TX3) (N := 10) hx hb hts (by decide +kernel) tyX3 tyX3_ok nmX3 hown hK hP hD hS 0 rfl rfl 7 (by decide) (hts (.fieldLink RX3 25 "ThatchRoofModel" "barn" "[I") (by decide +kernel)) (fun _ h9 => h9) rfl hin rfl (by decide +kernel) rfl rfl (Nat.le_of_ble_eq_true rfl) dX3_init_102 (fun H locs hP hD hS => ?_)
  have hP : va_P (dC, dI) vwCl [(hm, .inr (3, [.int 0, .int 0, .ref q1, .ref q3, .ref q5, .ref q7, .ref q9, .ref q11, .null, .null])), (q1, .inl (cA2, 6, .inl (fun _ => 0))), (q3, .inl (cA4, 6, .inl (fun _ => 0))), (q5, .inl (cA6, 6, .inl (fun _ => 0))), (q7, .inl (cA8, 12, .inl (upd (upd (upd (upd (upd (upd (upd (upd (upd (upd (upd (upd (fun _ => 0) 0 4) 1 4) 2 4) 3 4) 4 4) 5 4) 6 4) 7 4) 8 4) 9 4) 10 4) 11 4))), (q9, .inl (cA10, 12, .inl (fun _ => 0))), (q11, .inl (cA12, 3, .inl (fun _ => 0)))] H := hP
  have hD : va_D A [(hm, .inr (3, [.int 0, .int 0, .ref q1, .ref q3, .ref q5, .ref q7, .ref q9, .ref q11, .null, .null])), (q1, .inl (cA2, 6, .inl (fun _ => 0))), (q3, .inl (cA4, 6, .inl (fun _ => 0))), (q5, .inl (cA6, 6, .inl (fun _ => 0))), (q7, .inl (cA8, 12, .inl (upd (upd (upd (upd (upd (upd (upd (upd (upd (upd (upd (upd (fun _ => 0) 0 4) 1 4) 2 4) 3 4) 4 4) 5 4) 6 4) 7 4) 8 4) 9 4) 10 4) 11 4))), (q9, .inl (cA10, 12, .inl (fun _ => 0))), (q11, .inl (cA12, 3, .inl (fun _ => 0)))] := hD
  refine lv_aload_n hx hb dX3_init_105 rfl (lv_at hl 0 rfl) ?_
  refine va_new (ci := 2) (fs := [.int 0, .null, .null, .null, .null, .null, .null, .null, .null, .null]) (C := RX2) (T := TX2) (N := 10) hx hb hts (by decide +kernel) tyX2 tyX2_ok hown (hts (.classLink RX3 28 RX2) (by decide +kernel)) (hts (.instantiable RX2 10) (by decide +kernel)) (hts (.initialized RX2) (by decide +kernel)) hK hP hD hS hA rfl (fun j hj => by rcases (show j = 0 ∨ j = 1 ∨ j = 2 ∨ j = 3 ∨ j = 4 ∨ j = 5 ∨ j = 6 ∨ j = 7 ∨ j = 8 ∨ j = 9 by omega) with rfl | rfl | rfl | rfl | rfl | rfl | rfl | rfl | rfl | rfl <;> rfl) (Nat.le_of_ble_eq_true rfl) (Nat.le_of_ble_eq_true rfl) dX3_init_106 (fun q13 H hP hD hS => ?_)
  refine W.widen (k := 7) (n := 55) (Nat.le_of_ble_eq_true rfl) (Nat.le_of_ble_eq_true rfl) ?_
  have hP : va_P (dC, dI) vwCl [(hm, .inr (3, [.int 0, .int 0, .ref q1, .ref q3, .ref q5, .ref q7, .ref q9, .ref q11, .null, .null])), (q1, .inl (cA2, 6, .inl (fun _ => 0))), (q3, .inl (cA4, 6, .inl (fun _ => 0))), (q5, .inl (cA6, 6, .inl (fun _ => 0))), (q7, .inl (cA8, 12, .inl (upd (upd (upd (upd (upd (upd (upd (upd (upd (upd (upd (upd (fun _ => 0) 0 4) 1 4) 2 4) 3 4) 4 4) 5 4) 6 4) 7 4) 8 4) 9 4) 10 4) 11 4))), (q9, .inl (cA10, 12, .inl (fun _ => 0))), (q11, .inl (cA12, 3, .inl (fun _ => 0))), (q13, .inr (2, [.int 0, .null, .null, .null, .null, .null, .null, .null, .null, .null]))] H := hP
  have hD : va_D A [(hm, .inr (3, [.int 0, .int 0, .ref q1, .ref q3, .ref q5, .ref q7, .ref q9, .ref q11, .null, .null])), (q1, .inl (cA2, 6, .inl (fun _ => 0))), (q3, .inl (cA4, 6, .inl (fun _ => 0))), (q5, .inl (cA6, 6, .inl (fun _ => 0))), (q7, .inl (cA8, 12, .inl (upd (upd (upd (upd (upd (upd (upd (upd (upd (upd (upd (upd (fun _ => 0) 0 4) 1 4) 2 4) 3 4) 4 4) 5 4) 6 4) 7 4) 8 4) 9 4) 10 4) 11 4))), (q9, .inl (cA10, 12, .inl (fun _ => 0))), (q11, .inl (cA12, 3, .inl (fun _ => 0))), (q13, .inr (2, [.int 0, .null, .null, .null, .null, .null, .null, .null, .null, .null]))] := hD
  refine lv_dup hx hb dX3_init_109 rfl ?_
  refine lv_aload_n hx hb dX3_init_110 rfl (lv_at hl 0 rfl) ?_
  have hPc := hP.sub (ws' := [(q13, .inr (2, [.int 0, .null, .null, .null, .null, .null, .null, .null, .null, .null]))]) [7] rfl
  have hKc := hK.sub (tys' := []) [] rfl
  have hDc := hD.sub (ws' := [(q13, .inr (2, [.int 0, .null, .null, .null, .null, .null, .null, .null, .null, .null]))]) [7] (by decide) rfl
  have hFc := va_free (wc := [(q13, .inr (2, [.int 0, .null, .null, .null, .null, .null, .null, .null, .null, .null]))]) hD hS hA [7] rfl
  refine va_callv (va_runI (As := [.ref hm]) (rest := [.ref q13, .ref hm]) ⟨hx, hb, hml, hown, hts⟩ (r2_init l dC dI H.size q13 hm ) (cwI 1 hts gX3_init_X2_init rfl rfl rfl (hts (.initialized RX2) (by decide +kernel)) (hts (.methodLink RX3 30 yX2_init) (by decide +kernel)) (hts (.instanceMethod yX2_init) (by decide +kernel)) rfl (by decide +kernel) ⟨Nat.le_of_ble_eq_true rfl, Nat.le_of_ble_eq_true rfl⟩) ⟨fun a U g mk q => by obtain ⟨q0, q1, qP, qK, qD⟩ := q; exact ⟨q0, q1, qP, va_K.moved (u := U) (U := U.calling g mk a) (Vm.Alike.refl U.vm) qK, qD⟩, fun U hU hW => ⟨rfl, by rw [hU], by rw [hU]; exact hPc, va_K.moved hW.alike hKc, hDc.weaken (fun _ _ _ _ => trivial)⟩⟩ rfl rfl hl.1 rfl (lv_room (Nat.le_of_ble_eq_true rfl)) dX3_init_111 ⟨Nat.le_of_ble_eq_true rfl, Nat.le_of_ble_eq_true rfl⟩) hS (fun q _ h => hFc q h) hFc (fun u t H1 locs ht hvm hr14 hB hz1 hk1 hS => ?_)
  obtain ⟨gr_15, gt_16, gw_17, gk_18, gi_19, gp_20, go_21, gg_22, e_23, e_24, e_25, e_26, e_27, e_28, e_29, e_30, fk_31⟩ := u
  obtain ⟨hP1, hK1, hD1⟩ := hB
  rw [ht] at hP1
  have hK1 := va_K.moved hvm.symm hK1
  try dsimp only at hr14
  obtain ⟨hP, hD⟩ := va_join (wr := [(hm, .inr (3, [.int 0, .int 0, .ref q1, .ref q3, .ref q5, .ref q7, .ref q9, .ref q11, .null, .null])), (q1, .inl (cA2, 6, .inl (fun _ => 0))), (q3, .inl (cA4, 6, .inl (fun _ => 0))), (q5, .inl (cA6, 6, .inl (fun _ => 0))), (q7, .inl (cA8, 12, .inl (upd (upd (upd (upd (upd (upd (upd (upd (upd (upd (upd (upd (fun _ => 0) 0 4) 1 4) 2 4) 3 4) 4 4) 5 4) 6 4) 7 4) 8 4) 9 4) 10 4) 11 4))), (q9, .inl (cA10, 12, .inl (fun _ => 0))), (q11, .inl (cA12, 3, .inl (fun _ => 0)))]) (w1 := [(q13, .inr (2, [.int 0, .ref gr_15, .ref gt_16, .ref gw_17, .ref gk_18, .ref gi_19, .ref gp_20, .ref go_21, .ref gg_22, .ref hm])), (gr_15, .inl (e_23, 6, .inl (fun _ => 0))), (gt_16, .inl (e_24, 6, .inl (fun _ => 0))), (gw_17, .inl (e_25, 6, .inl (fun _ => 0))), (gk_18, .inl (e_26, 360, .inl fk_31)), (gi_19, .inl (e_27, 360, .inl (fun _ => 0))), (gp_20, .inl (e_28, 360, .inl (fun _ => 0))), (go_21, .inl (e_29, 360, .inl (fun _ => 0))), (gg_22, .inl (e_30, 60, .inl (fun _ => 0)))]) hP hD [7] [0, 1, 2, 3, 4, 5, 6] rfl rfl (by decide) (by decide) hk1 hFc hP1 hD1
  have hK := hK.app hK1
  have hK : va_K (dC, dI) vwCl [(cA2, .int), (cA4, .int), (cA6, .int), (cA8, .int), (cA10, .int), (cA12, .int), (e_23, .int), (e_24, .int), (e_25, .int), (e_26, .int), (e_27, .int), (e_28, .int), (e_29, .int), (e_30, .boolean)] s := hK
  generalize H1 = H at hP hS ⊢
  have hP : va_P (dC, dI) vwCl [(hm, .inr (3, [.int 0, .int 0, .ref q1, .ref q3, .ref q5, .ref q7, .ref q9, .ref q11, .null, .null])), (q1, .inl (cA2, 6, .inl (fun _ => 0))), (q3, .inl (cA4, 6, .inl (fun _ => 0))), (q5, .inl (cA6, 6, .inl (fun _ => 0))), (q7, .inl (cA8, 12, .inl (upd (upd (upd (upd (upd (upd (upd (upd (upd (upd (upd (upd (fun _ => 0) 0 4) 1 4) 2 4) 3 4) 4 4) 5 4) 6 4) 7 4) 8 4) 9 4) 10 4) 11 4))), (q9, .inl (cA10, 12, .inl (fun _ => 0))), (q11, .inl (cA12, 3, .inl (fun _ => 0))), (q13, .inr (2, [.int 0, .ref gr_15, .ref gt_16, .ref gw_17, .ref gk_18, .ref gi_19, .ref gp_20, .ref go_21, .ref gg_22, .ref hm])), (gr_15, .inl (e_23, 6, .inl (fun _ => 0))), (gt_16, .inl (e_24, 6, .inl (fun _ => 0))), (gw_17, .inl (e_25, 6, .inl (fun _ => 0))), (gk_18, .inl (e_26, 360, .inl fk_31)), (gi_19, .inl (e_27, 360, .inl (fun _ => 0))), (gp_20, .inl (e_28, 360, .inl (fun _ => 0))), (go_21, .inl (e_29, 360, .inl (fun _ => 0))), (gg_22, .inl (e_30, 60, .inl (fun _ => 0)))] H := hP
  have hD : va_D A [(hm, .inr (3, [.int 0, .int 0, .ref q1, .ref q3, .ref q5, .ref q7, .ref q9, .ref q11, .null, .null])), (q1, .inl (cA2, 6, .inl (fun _ => 0))), (q3, .inl (cA4, 6, .inl (fun _ => 0))), (q5, .inl (cA6, 6, .inl (fun _ => 0))), (q7, .inl (cA8, 12, .inl (upd (upd (upd (upd (upd (upd (upd (upd (upd (upd (upd (upd (fun _ => 0) 0 4) 1 4) 2 4) 3 4) 4 4) 5 4) 6 4) 7 4) 8 4) 9 4) 10 4) 11 4))), (q9, .inl (cA10, 12, .inl (fun _ => 0))), (q11, .inl (cA12, 3, .inl (fun _ => 0))), (q13, .inr (2, [.int 0, .ref gr_15, .ref gt_16, .ref gw_17, .ref gk_18, .ref gi_19, .ref gp_20, .ref go_21, .ref gg_22, .ref hm])), (gr_15, .inl (e_23, 6, .inl (fun _ => 0))), (gt_16, .inl (e_24, 6, .inl (fun _ => 0))), (gw_17, .inl (e_25, 6, .inl (fun _ => 0))), (gk_18, .inl (e_26, 360, .inl fk_31)), (gi_19, .inl (e_27, 360, .inl (fun _ => 0))), (gp_20, .inl (e_28, 360, .inl (fun _ => 0))), (go_21, .inl (e_29, 360, .inl (fun _ => 0))), (gg_22, .inl (e_30, 60, .inl (fun _ => 0)))] := hD
  refine W.widen (k := 15) (n := 1573) (Nat.le_of_ble_eq_true rfl) (Nat.le_of_ble_eq_true rfl) ?_
  obtain fr14_0_0 := hr14
  refine va_putF (D := (dC, dI)) (ci := 3) (v := .ref q13) (ty := .object "ThatchRoofModel$State") (C := RX3) (T := TX3) (N := 10) hx hb hts (by decide +kernel) tyX3 tyX3_ok nmX3 hown hK hP hD hS 0 rfl rfl 8 (by decide) (hts (.fieldLink RX3 33 "ThatchRoofModel" "s" "LThatchRoofModel$State;") (by decide +kernel)) (fun _ h9 => h9) rfl hin rfl (by decide +kernel) rfl rfl (Nat.le_of_ble_eq_true rfl) dX3_init_114 (fun H locs hP hD hS => ?_)
  have hP : va_P (dC, dI) vwCl [(hm, .inr (3, [.int 0, .int 0, .ref q1, .ref q3, .ref q5, .ref q7, .ref q9, .ref q11, .ref q13, .null])), (q1, .inl (cA2, 6, .inl (fun _ => 0))), (q3, .inl (cA4, 6, .inl (fun _ => 0))), (q5, .inl (cA6, 6, .inl (fun _ => 0))), (q7, .inl (cA8, 12, .inl (upd (upd (upd (upd (upd (upd (upd (upd (upd (upd (upd (upd (fun _ => 0) 0 4) 1 4) 2 4) 3 4) 4 4) 5 4) 6 4) 7 4) 8 4) 9 4) 10 4) 11 4))), (q9, .inl (cA10, 12, .inl (fun _ => 0))), (q11, .inl (cA12, 3, .inl (fun _ => 0))), (q13, .inr (2, [.int 0, .ref gr_15, .ref gt_16, .ref gw_17, .ref gk_18, .ref gi_19, .ref gp_20, .ref go_21, .ref gg_22, .ref hm])), (gr_15, .inl (e_23, 6, .inl (fun _ => 0))), (gt_16, .inl (e_24, 6, .inl (fun _ => 0))), (gw_17, .inl (e_25, 6, .inl (fun _ => 0))), (gk_18, .inl (e_26, 360, .inl fk_31)), (gi_19, .inl (e_27, 360, .inl (fun _ => 0))), (gp_20, .inl (e_28, 360, .inl (fun _ => 0))), (go_21, .inl (e_29, 360, .inl (fun _ => 0))), (gg_22, .inl (e_30, 60, .inl (fun _ => 0)))] H := hP
  have hD : va_D A [(hm, .inr (3, [.int 0, .int 0, .ref q1, .ref q3, .ref q5, .ref q7, .ref q9, .ref q11, .ref q13, .null])), (q1, .inl (cA2, 6, .inl (fun _ => 0))), (q3, .inl (cA4, 6, .inl (fun _ => 0))), (q5, .inl (cA6, 6, .inl (fun _ => 0))), (q7, .inl (cA8, 12, .inl (upd (upd (upd (upd (upd (upd (upd (upd (upd (upd (upd (upd (fun _ => 0) 0 4) 1 4) 2 4) 3 4) 4 4) 5 4) 6 4) 7 4) 8 4) 9 4) 10 4) 11 4))), (q9, .inl (cA10, 12, .inl (fun _ => 0))), (q11, .inl (cA12, 3, .inl (fun _ => 0))), (q13, .inr (2, [.int 0, .ref gr_15, .ref gt_16, .ref gw_17, .ref gk_18, .ref gi_19, .ref gp_20, .ref go_21, .ref gg_22, .ref hm])), (gr_15, .inl (e_23, 6, .inl (fun _ => 0))), (gt_16, .inl (e_24, 6, .inl (fun _ => 0))), (gw_17, .inl (e_25, 6, .inl (fun _ => 0))), (gk_18, .inl (e_26, 360, .inl fk_31)), (gi_19, .inl (e_27, 360, .inl (fun _ => 0))), (gp_20, .inl (e_28, 360, .inl (fun _ => 0))), (go_21, .inl (e_29, 360, .inl (fun _ => 0))), (gg_22, .inl (e_30, 60, .inl (fun _ => 0)))] := hD
  refine lv_aload_n hx hb dX3_init_117 rfl (lv_at hl 0 rfl) ?_
  refine va_new (ci := 2) (fs := [.int 0, .null, .null, .null, .null, .null, .null, .null, .null, .null]) (C := RX2) (T := TX2) (N := 10) hx hb hts (by decide +kernel) tyX2 tyX2_ok hown (hts (.classLink RX3 28 RX2) (by decide +kernel)) (hts (.instantiable RX2 10) (by decide +kernel)) (hts (.initialized RX2) (by decide +kernel)) hK hP hD hS hA rfl (fun j hj => by rcases (show j = 0 ∨ j = 1 ∨ j = 2 ∨ j = 3 ∨ j = 4 ∨ j = 5 ∨ j = 6 ∨ j = 7 ∨ j = 8 ∨ j = 9 by omega) with rfl | rfl | rfl | rfl | rfl | rfl | rfl | rfl | rfl | rfl <;> rfl) (Nat.le_of_ble_eq_true rfl) (Nat.le_of_ble_eq_true rfl) dX3_init_118 (fun q32 H hP hD hS => ?_)
  refine W.widen (k := 16) (n := 1583) (Nat.le_of_ble_eq_true rfl) (Nat.le_of_ble_eq_true rfl) ?_
  have hP : va_P (dC, dI) vwCl [(hm, .inr (3, [.int 0, .int 0, .ref q1, .ref q3, .ref q5, .ref q7, .ref q9, .ref q11, .ref q13, .null])), (q1, .inl (cA2, 6, .inl (fun _ => 0))), (q3, .inl (cA4, 6, .inl (fun _ => 0))), (q5, .inl (cA6, 6, .inl (fun _ => 0))), (q7, .inl (cA8, 12, .inl (upd (upd (upd (upd (upd (upd (upd (upd (upd (upd (upd (upd (fun _ => 0) 0 4) 1 4) 2 4) 3 4) 4 4) 5 4) 6 4) 7 4) 8 4) 9 4) 10 4) 11 4))), (q9, .inl (cA10, 12, .inl (fun _ => 0))), (q11, .inl (cA12, 3, .inl (fun _ => 0))), (q13, .inr (2, [.int 0, .ref gr_15, .ref gt_16, .ref gw_17, .ref gk_18, .ref gi_19, .ref gp_20, .ref go_21, .ref gg_22, .ref hm])), (gr_15, .inl (e_23, 6, .inl (fun _ => 0))), (gt_16, .inl (e_24, 6, .inl (fun _ => 0))), (gw_17, .inl (e_25, 6, .inl (fun _ => 0))), (gk_18, .inl (e_26, 360, .inl fk_31)), (gi_19, .inl (e_27, 360, .inl (fun _ => 0))), (gp_20, .inl (e_28, 360, .inl (fun _ => 0))), (go_21, .inl (e_29, 360, .inl (fun _ => 0))), (gg_22, .inl (e_30, 60, .inl (fun _ => 0))), (q32, .inr (2, [.int 0, .null, .null, .null, .null, .null, .null, .null, .null, .null]))] H := hP
  have hD : va_D A [(hm, .inr (3, [.int 0, .int 0, .ref q1, .ref q3, .ref q5, .ref q7, .ref q9, .ref q11, .ref q13, .null])), (q1, .inl (cA2, 6, .inl (fun _ => 0))), (q3, .inl (cA4, 6, .inl (fun _ => 0))), (q5, .inl (cA6, 6, .inl (fun _ => 0))), (q7, .inl (cA8, 12, .inl (upd (upd (upd (upd (upd (upd (upd (upd (upd (upd (upd (upd (fun _ => 0) 0 4) 1 4) 2 4) 3 4) 4 4) 5 4) 6 4) 7 4) 8 4) 9 4) 10 4) 11 4))), (q9, .inl (cA10, 12, .inl (fun _ => 0))), (q11, .inl (cA12, 3, .inl (fun _ => 0))), (q13, .inr (2, [.int 0, .ref gr_15, .ref gt_16, .ref gw_17, .ref gk_18, .ref gi_19, .ref gp_20, .ref go_21, .ref gg_22, .ref hm])), (gr_15, .inl (e_23, 6, .inl (fun _ => 0))), (gt_16, .inl (e_24, 6, .inl (fun _ => 0))), (gw_17, .inl (e_25, 6, .inl (fun _ => 0))), (gk_18, .inl (e_26, 360, .inl fk_31)), (gi_19, .inl (e_27, 360, .inl (fun _ => 0))), (gp_20, .inl (e_28, 360, .inl (fun _ => 0))), (go_21, .inl (e_29, 360, .inl (fun _ => 0))), (gg_22, .inl (e_30, 60, .inl (fun _ => 0))), (q32, .inr (2, [.int 0, .null, .null, .null, .null, .null, .null, .null, .null, .null]))] := hD
  refine lv_dup hx hb dX3_init_121 rfl ?_
  refine lv_aload_n hx hb dX3_init_122 rfl (lv_at hl 0 rfl) ?_
  have hPc := hP.sub (ws' := [(q32, .inr (2, [.int 0, .null, .null, .null, .null, .null, .null, .null, .null, .null]))]) [16] rfl
  have hKc := hK.sub (tys' := []) [] rfl
  have hDc := hD.sub (ws' := [(q32, .inr (2, [.int 0, .null, .null, .null, .null, .null, .null, .null, .null, .null]))]) [16] (by decide) rfl
  have hFc := va_free (wc := [(q32, .inr (2, [.int 0, .null, .null, .null, .null, .null, .null, .null, .null, .null]))]) hD hS hA [16] rfl
  refine va_callv (va_runI (As := [.ref hm]) (rest := [.ref q32, .ref hm]) ⟨hx, hb, hml, hown, hts⟩ (r2_init l dC dI H.size q32 hm ) (cwI 1 hts gX3_init_X2_init rfl rfl rfl (hts (.initialized RX2) (by decide +kernel)) (hts (.methodLink RX3 30 yX2_init) (by decide +kernel)) (hts (.instanceMethod yX2_init) (by decide +kernel)) rfl (by decide +kernel) ⟨Nat.le_of_ble_eq_true rfl, Nat.le_of_ble_eq_true rfl⟩) ⟨fun a U g mk q => by obtain ⟨q0, q1, qP, qK, qD⟩ := q; exact ⟨q0, q1, qP, va_K.moved (u := U) (U := U.calling g mk a) (Vm.Alike.refl U.vm) qK, qD⟩, fun U hU hW => ⟨rfl, by rw [hU], by rw [hU]; exact hPc, va_K.moved hW.alike hKc, hDc.weaken (fun _ _ _ _ => trivial)⟩⟩ rfl rfl hl.1 rfl (lv_room (Nat.le_of_ble_eq_true rfl)) dX3_init_123 ⟨Nat.le_of_ble_eq_true rfl, Nat.le_of_ble_eq_true rfl⟩) hS (fun q _ h => hFc q h) hFc (fun u t H1 locs ht hvm hr33 hB hz1 hk1 hS => ?_)
  obtain ⟨gr_34, gt_35, gw_36, gk_37, gi_38, gp_39, go_40, gg_41, e_42, e_43, e_44, e_45, e_46, e_47, e_48, e_49, fk_50⟩ := u
  obtain ⟨hP1, hK1, hD1⟩ := hB
  rw [ht] at hP1
  have hK1 := va_K.moved hvm.symm hK1
  try dsimp only at hr33
  obtain ⟨hP, hD⟩ := va_join (wr := [(hm, .inr (3, [.int 0, .int 0, .ref q1, .ref q3, .ref q5, .ref q7, .ref q9, .ref q11, .ref q13, .null])), (q1, .inl (cA2, 6, .inl (fun _ => 0))), (q3, .inl (cA4, 6, .inl (fun _ => 0))), (q5, .inl (cA6, 6, .inl (fun _ => 0))), (q7, .inl (cA8, 12, .inl (upd (upd (upd (upd (upd (upd (upd (upd (upd (upd (upd (upd (fun _ => 0) 0 4) 1 4) 2 4) 3 4) 4 4) 5 4) 6 4) 7 4) 8 4) 9 4) 10 4) 11 4))), (q9, .inl (cA10, 12, .inl (fun _ => 0))), (q11, .inl (cA12, 3, .inl (fun _ => 0))), (q13, .inr (2, [.int 0, .ref gr_15, .ref gt_16, .ref gw_17, .ref gk_18, .ref gi_19, .ref gp_20, .ref go_21, .ref gg_22, .ref hm])), (gr_15, .inl (e_23, 6, .inl (fun _ => 0))), (gt_16, .inl (e_24, 6, .inl (fun _ => 0))), (gw_17, .inl (e_25, 6, .inl (fun _ => 0))), (gk_18, .inl (e_26, 360, .inl fk_31)), (gi_19, .inl (e_27, 360, .inl (fun _ => 0))), (gp_20, .inl (e_28, 360, .inl (fun _ => 0))), (go_21, .inl (e_29, 360, .inl (fun _ => 0))), (gg_22, .inl (e_30, 60, .inl (fun _ => 0)))]) (w1 := [(q32, .inr (2, [.int 0, .ref gr_34, .ref gt_35, .ref gw_36, .ref gk_37, .ref gi_38, .ref gp_39, .ref go_40, .ref gg_41, .ref hm])), (gr_34, .inl (e_42, 6, .inl (fun _ => 0))), (gt_35, .inl (e_43, 6, .inl (fun _ => 0))), (gw_36, .inl (e_44, 6, .inl (fun _ => 0))), (gk_37, .inl (e_45, 360, .inl fk_50)), (gi_38, .inl (e_46, 360, .inl (fun _ => 0))), (gp_39, .inl (e_47, 360, .inl (fun _ => 0))), (go_40, .inl (e_48, 360, .inl (fun _ => 0))), (gg_41, .inl (e_49, 60, .inl (fun _ => 0)))]) hP hD [16] [0, 1, 2, 3, 4, 5, 6, 7, 8, 9, 10, 11, 12, 13, 14, 15] rfl rfl (by decide) (by decide) hk1 hFc hP1 hD1
  have hK := hK.app hK1
  have hK : va_K (dC, dI) vwCl [(cA2, .int), (cA4, .int), (cA6, .int), (cA8, .int), (cA10, .int), (cA12, .int), (e_23, .int), (e_24, .int), (e_25, .int), (e_26, .int), (e_27, .int), (e_28, .int), (e_29, .int), (e_30, .boolean), (e_42, .int), (e_43, .int), (e_44, .int), (e_45, .int), (e_46, .int), (e_47, .int), (e_48, .int), (e_49, .boolean)] s := hK
  generalize H1 = H at hP hS ⊢
  have hP : va_P (dC, dI) vwCl [(hm, .inr (3, [.int 0, .int 0, .ref q1, .ref q3, .ref q5, .ref q7, .ref q9, .ref q11, .ref q13, .null])), (q1, .inl (cA2, 6, .inl (fun _ => 0))), (q3, .inl (cA4, 6, .inl (fun _ => 0))), (q5, .inl (cA6, 6, .inl (fun _ => 0))), (q7, .inl (cA8, 12, .inl (upd (upd (upd (upd (upd (upd (upd (upd (upd (upd (upd (upd (fun _ => 0) 0 4) 1 4) 2 4) 3 4) 4 4) 5 4) 6 4) 7 4) 8 4) 9 4) 10 4) 11 4))), (q9, .inl (cA10, 12, .inl (fun _ => 0))), (q11, .inl (cA12, 3, .inl (fun _ => 0))), (q13, .inr (2, [.int 0, .ref gr_15, .ref gt_16, .ref gw_17, .ref gk_18, .ref gi_19, .ref gp_20, .ref go_21, .ref gg_22, .ref hm])), (gr_15, .inl (e_23, 6, .inl (fun _ => 0))), (gt_16, .inl (e_24, 6, .inl (fun _ => 0))), (gw_17, .inl (e_25, 6, .inl (fun _ => 0))), (gk_18, .inl (e_26, 360, .inl fk_31)), (gi_19, .inl (e_27, 360, .inl (fun _ => 0))), (gp_20, .inl (e_28, 360, .inl (fun _ => 0))), (go_21, .inl (e_29, 360, .inl (fun _ => 0))), (gg_22, .inl (e_30, 60, .inl (fun _ => 0))), (q32, .inr (2, [.int 0, .ref gr_34, .ref gt_35, .ref gw_36, .ref gk_37, .ref gi_38, .ref gp_39, .ref go_40, .ref gg_41, .ref hm])), (gr_34, .inl (e_42, 6, .inl (fun _ => 0))), (gt_35, .inl (e_43, 6, .inl (fun _ => 0))), (gw_36, .inl (e_44, 6, .inl (fun _ => 0))), (gk_37, .inl (e_45, 360, .inl fk_50)), (gi_38, .inl (e_46, 360, .inl (fun _ => 0))), (gp_39, .inl (e_47, 360, .inl (fun _ => 0))), (go_40, .inl (e_48, 360, .inl (fun _ => 0))), (gg_41, .inl (e_49, 60, .inl (fun _ => 0)))] H := hP
  have hD : va_D A [(hm, .inr (3, [.int 0, .int 0, .ref q1, .ref q3, .ref q5, .ref q7, .ref q9, .ref q11, .ref q13, .null])), (q1, .inl (cA2, 6, .inl (fun _ => 0))), (q3, .inl (cA4, 6, .inl (fun _ => 0))), (q5, .inl (cA6, 6, .inl (fun _ => 0))), (q7, .inl (cA8, 12, .inl (upd (upd (upd (upd (upd (upd (upd (upd (upd (upd (upd (upd (fun _ => 0) 0 4) 1 4) 2 4) 3 4) 4 4) 5 4) 6 4) 7 4) 8 4) 9 4) 10 4) 11 4))), (q9, .inl (cA10, 12, .inl (fun _ => 0))), (q11, .inl (cA12, 3, .inl (fun _ => 0))), (q13, .inr (2, [.int 0, .ref gr_15, .ref gt_16, .ref gw_17, .ref gk_18, .ref gi_19, .ref gp_20, .ref go_21, .ref gg_22, .ref hm])), (gr_15, .inl (e_23, 6, .inl (fun _ => 0))), (gt_16, .inl (e_24, 6, .inl (fun _ => 0))), (gw_17, .inl (e_25, 6, .inl (fun _ => 0))), (gk_18, .inl (e_26, 360, .inl fk_31)), (gi_19, .inl (e_27, 360, .inl (fun _ => 0))), (gp_20, .inl (e_28, 360, .inl (fun _ => 0))), (go_21, .inl (e_29, 360, .inl (fun _ => 0))), (gg_22, .inl (e_30, 60, .inl (fun _ => 0))), (q32, .inr (2, [.int 0, .ref gr_34, .ref gt_35, .ref gw_36, .ref gk_37, .ref gi_38, .ref gp_39, .ref go_40, .ref gg_41, .ref hm])), (gr_34, .inl (e_42, 6, .inl (fun _ => 0))), (gt_35, .inl (e_43, 6, .inl (fun _ => 0))), (gw_36, .inl (e_44, 6, .inl (fun _ => 0))), (gk_37, .inl (e_45, 360, .inl fk_50)), (gi_38, .inl (e_46, 360, .inl (fun _ => 0))), (gp_39, .inl (e_47, 360, .inl (fun _ => 0))), (go_40, .inl (e_48, 360, .inl (fun _ => 0))), (gg_41, .inl (e_49, 60, .inl (fun _ => 0)))] := hD
  refine W.widen (k := 24) (n := 3101) (Nat.le_of_ble_eq_true rfl) (Nat.le_of_ble_eq_true rfl) ?_
  obtain fr33_0_0 := hr33
  refine va_putF (D := (dC, dI)) (ci := 3) (v := .ref q32) (ty := .object "ThatchRoofModel$State") (C := RX3) (T := TX3) (N := 10) hx hb hts (by decide +kernel) tyX3 tyX3_ok nmX3 hown hK hP hD hS 0 rfl rfl 9 (by decide) (hts (.fieldLink RX3 37 "ThatchRoofModel" "ahead" "LThatchRoofModel$State;") (by decide +kernel)) (fun _ h9 => h9) rfl hin rfl (by decide +kernel) rfl rfl (Nat.le_of_ble_eq_true rfl) dX3_init_126 (fun H locs hP hD hS => ?_)
  have hP : va_P (dC, dI) vwCl [(hm, .inr (3, [.int 0, .int 0, .ref q1, .ref q3, .ref q5, .ref q7, .ref q9, .ref q11, .ref q13, .ref q32])), (q1, .inl (cA2, 6, .inl (fun _ => 0))), (q3, .inl (cA4, 6, .inl (fun _ => 0))), (q5, .inl (cA6, 6, .inl (fun _ => 0))), (q7, .inl (cA8, 12, .inl (upd (upd (upd (upd (upd (upd (upd (upd (upd (upd (upd (upd (fun _ => 0) 0 4) 1 4) 2 4) 3 4) 4 4) 5 4) 6 4) 7 4) 8 4) 9 4) 10 4) 11 4))), (q9, .inl (cA10, 12, .inl (fun _ => 0))), (q11, .inl (cA12, 3, .inl (fun _ => 0))), (q13, .inr (2, [.int 0, .ref gr_15, .ref gt_16, .ref gw_17, .ref gk_18, .ref gi_19, .ref gp_20, .ref go_21, .ref gg_22, .ref hm])), (gr_15, .inl (e_23, 6, .inl (fun _ => 0))), (gt_16, .inl (e_24, 6, .inl (fun _ => 0))), (gw_17, .inl (e_25, 6, .inl (fun _ => 0))), (gk_18, .inl (e_26, 360, .inl fk_31)), (gi_19, .inl (e_27, 360, .inl (fun _ => 0))), (gp_20, .inl (e_28, 360, .inl (fun _ => 0))), (go_21, .inl (e_29, 360, .inl (fun _ => 0))), (gg_22, .inl (e_30, 60, .inl (fun _ => 0))), (q32, .inr (2, [.int 0, .ref gr_34, .ref gt_35, .ref gw_36, .ref gk_37, .ref gi_38, .ref gp_39, .ref go_40, .ref gg_41, .ref hm])), (gr_34, .inl (e_42, 6, .inl (fun _ => 0))), (gt_35, .inl (e_43, 6, .inl (fun _ => 0))), (gw_36, .inl (e_44, 6, .inl (fun _ => 0))), (gk_37, .inl (e_45, 360, .inl fk_50)), (gi_38, .inl (e_46, 360, .inl (fun _ => 0))), (gp_39, .inl (e_47, 360, .inl (fun _ => 0))), (go_40, .inl (e_48, 360, .inl (fun _ => 0))), (gg_41, .inl (e_49, 60, .inl (fun _ => 0)))] H := hP
  have hD : va_D A [(hm, .inr (3, [.int 0, .int 0, .ref q1, .ref q3, .ref q5, .ref q7, .ref q9, .ref q11, .ref q13, .ref q32])), (q1, .inl (cA2, 6, .inl (fun _ => 0))), (q3, .inl (cA4, 6, .inl (fun _ => 0))), (q5, .inl (cA6, 6, .inl (fun _ => 0))), (q7, .inl (cA8, 12, .inl (upd (upd (upd (upd (upd (upd (upd (upd (upd (upd (upd (upd (fun _ => 0) 0 4) 1 4) 2 4) 3 4) 4 4) 5 4) 6 4) 7 4) 8 4) 9 4) 10 4) 11 4))), (q9, .inl (cA10, 12, .inl (fun _ => 0))), (q11, .inl (cA12, 3, .inl (fun _ => 0))), (q13, .inr (2, [.int 0, .ref gr_15, .ref gt_16, .ref gw_17, .ref gk_18, .ref gi_19, .ref gp_20, .ref go_21, .ref gg_22, .ref hm])), (gr_15, .inl (e_23, 6, .inl (fun _ => 0))), (gt_16, .inl (e_24, 6, .inl (fun _ => 0))), (gw_17, .inl (e_25, 6, .inl (fun _ => 0))), (gk_18, .inl (e_26, 360, .inl fk_31)), (gi_19, .inl (e_27, 360, .inl (fun _ => 0))), (gp_20, .inl (e_28, 360, .inl (fun _ => 0))), (go_21, .inl (e_29, 360, .inl (fun _ => 0))), (gg_22, .inl (e_30, 60, .inl (fun _ => 0))), (q32, .inr (2, [.int 0, .ref gr_34, .ref gt_35, .ref gw_36, .ref gk_37, .ref gi_38, .ref gp_39, .ref go_40, .ref gg_41, .ref hm])), (gr_34, .inl (e_42, 6, .inl (fun _ => 0))), (gt_35, .inl (e_43, 6, .inl (fun _ => 0))), (gw_36, .inl (e_44, 6, .inl (fun _ => 0))), (gk_37, .inl (e_45, 360, .inl fk_50)), (gi_38, .inl (e_46, 360, .inl (fun _ => 0))), (gp_39, .inl (e_47, 360, .inl (fun _ => 0))), (go_40, .inl (e_48, 360, .inl (fun _ => 0))), (gg_41, .inl (e_49, 60, .inl (fun _ => 0)))] := hD
  have hP9 := hP.sub (ws' := [(hm, .inr (3, [.int 0, .int 0, .ref q1, .ref q3, .ref q5, .ref q7, .ref q9, .ref q11, .ref q13, .ref q32])), (q13, .inr (2, [.int 0, .ref gr_15, .ref gt_16, .ref gw_17, .ref gk_18, .ref gi_19, .ref gp_20, .ref go_21, .ref gg_22, .ref hm])), (q1, .inl (cA2, 6, .inl (fun _ => 0))), (q3, .inl (cA4, 6, .inl (fun _ => 0))), (q5, .inl (cA6, 6, .inl (fun _ => 0))), (gr_15, .inl (e_23, 6, .inl (fun _ => 0))), (q11, .inl (cA12, 3, .inl (fun _ => 0))), (q7, .inl (cA8, 12, .inl (upd (upd (upd (upd (upd (upd (upd (upd (upd (upd (upd (upd (fun _ => 0) 0 4) 1 4) 2 4) 3 4) 4 4) 5 4) 6 4) 7 4) 8 4) 9 4) 10 4) 11 4))), (q9, .inl (cA10, 12, .inl (fun _ => 0))), (gt_16, .inl (e_24, 6, .inl (fun _ => 0))), (gw_17, .inl (e_25, 6, .inl (fun _ => 0))), (gk_18, .inl (e_26, 360, .inl fk_31)), (gi_19, .inl (e_27, 360, .inl (fun _ => 0))), (gp_20, .inl (e_28, 360, .inl (fun _ => 0))), (go_21, .inl (e_29, 360, .inl (fun _ => 0)))]) [0, 7, 1, 2, 3, 8, 6, 4, 5, 9, 10, 11, 12, 13, 14] rfl
  have hD9 := hD.sub (ws' := [(hm, .inr (3, [.int 0, .int 0, .ref q1, .ref q3, .ref q5, .ref q7, .ref q9, .ref q11, .ref q13, .ref q32])), (q13, .inr (2, [.int 0, .ref gr_15, .ref gt_16, .ref gw_17, .ref gk_18, .ref gi_19, .ref gp_20, .ref go_21, .ref gg_22, .ref hm])), (q1, .inl (cA2, 6, .inl (fun _ => 0))), (q3, .inl (cA4, 6, .inl (fun _ => 0))), (q5, .inl (cA6, 6, .inl (fun _ => 0))), (gr_15, .inl (e_23, 6, .inl (fun _ => 0))), (q11, .inl (cA12, 3, .inl (fun _ => 0))), (q7, .inl (cA8, 12, .inl (upd (upd (upd (upd (upd (upd (upd (upd (upd (upd (upd (upd (fun _ => 0) 0 4) 1 4) 2 4) 3 4) 4 4) 5 4) 6 4) 7 4) 8 4) 9 4) 10 4) 11 4))), (q9, .inl (cA10, 12, .inl (fun _ => 0))), (gt_16, .inl (e_24, 6, .inl (fun _ => 0))), (gw_17, .inl (e_25, 6, .inl (fun _ => 0))), (gk_18, .inl (e_26, 360, .inl fk_31)), (gi_19, .inl (e_27, 360, .inl (fun _ => 0))), (gp_20, .inl (e_28, 360, .inl (fun _ => 0))), (go_21, .inl (e_29, 360, .inl (fun _ => 0)))]) [0, 7, 1, 2, 3, 8, 6, 4, 5, 9, 10, 11, 12, 13, 14] (by decide) rfl
  have hK9 := hK.sub (tys' := [(cA2, .int), (cA4, .int), (cA6, .int), (e_23, .int), (cA12, .int), (cA8, .int), (cA10, .int), (e_24, .int), (e_25, .int), (e_26, .int), (e_27, .int), (e_28, .int), (e_29, .int)]) [0, 1, 2, 6, 5, 3, 4, 7, 8, 9, 10, 11, 12] rfl
  refine W.widen (k := 24) (n := 3101) (Nat.le_of_ble_eq_true rfl) (Nat.le_of_ble_eq_true rfl) ?_
  exact W.vret hx hb hr (fun t ht hW => ⟨⟨(q1, q3, q5, q7, q9, q11, q13, q32, gr_15, gt_16, gw_17, gk_18, gi_19, gp_20, go_21, gg_22, cA2, cA4, cA6, e_23, cA12, cA8, cA10, e_24, e_25, e_26, e_27, e_28, e_29, upd (upd (upd (upd (upd (upd (upd (upd (upd (upd (upd (upd (fun _ => 0) 0 4) 1 4) 2 4) 3 4) 4 4) 5 4) 6 4) 7 4) 8 4) 9 4) 10 4) 11 4, fk_31), rfl, ⟨by assumption, fun j hj => by rcases (show j = 0 ∨ j = 1 ∨ j = 2 ∨ j = 3 ∨ j = 4 ∨ j = 5 ∨ j = 6 ∨ j = 7 ∨ j = 8 ∨ j = 9 ∨ j = 10 ∨ j = 11 by omega) with rfl | rfl | rfl | rfl | rfl | rfl | rfl | rfl | rfl | rfl | rfl | rfl <;> rfl⟩, ⟨by rw [ht]; exact hP9, va_K.moved hW.alike hK9, hD9⟩⟩, hS.F ht⟩) hS.2.2 dX3_init_129
end

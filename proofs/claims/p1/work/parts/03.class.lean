set_option maxHeartbeats 4000000 in
set_option maxRecDepth 100000 in
theorem k1_isWithin (l : Launch) (dC : Nat → ClassId) (dI : Nat → Nat → Nat) (x : Int32) (lo : Int32) (hi : Int32) : Met l yX1_isWithin wsX1_isWithin ({ frames := 0, cells := 0, slots := 0, locals := 0 }) (va_Pc [.int x, .int lo, .int hi] (fun _ => True)) (vp_Si (fun r : Int32 => (r = 1 ∧ zIn x lo hi) ∨ (r = 0 ∧ ¬ zIn x lo hi))) 0 0 (fun _ => False) := by
  refine Met.ofW (cc := cX1_isWithin) (maxL := 3) (ret := (some .boolean)) (by decide) rfl ?_
  intro p e s m args below meth c s₁ B hml hv
  obtain ⟨rfl, -⟩ := hv
  have hx := B.exec
  have hb := B.bytes
  have hr := B.returns
  have hts := atoms_spec (ws := wsX1_isWithin) B.pre
  have hown : s.vm.findClass RX1 = some m.cls := findClass_of_methodNamed B.named
  have hlocks := B.notSynchronized
  have hl := lv_entry ([.int x, .int lo, .int hi]) (n := 3) (Nat.le_of_ble_eq_true rfl)
  rw [lg_entry_eq]
  generalize (lg_sl ([.int x, .int lo, .int hi]) ++ List.replicate (3 - (lg_sl ([.int x, .int lo, .int hi])).length) Slot.unset).toArray = ls at hl ⊢
  have hl : lv_has ls 3 [(0, .int x), (1, .int lo), (2, .int hi)] := hl
  refine lv_iload_n hx hb dX1_isWithin_0 rfl (lv_at hl 0 rfl) ?_
  refine lv_iload_n hx hb dX1_isWithin_1 rfl (lv_at hl 1 rfl) ?_
  refine lv_icmp_lt (tgt := 14) hx hb dX1_isWithin_2 (by decide) (fun c1 => ?_) (fun c1 => ?_)
  · refine lv_iconst (v := 0) hx hb dX1_isWithin_14 (by decide) ?_
    exact W.zret (v := 0) hx hb hr (by decide) (fun t ht hW => ⟨0, rfl, by first | (refine Or.inl ?_; (refine ⟨?_, ?_⟩ <;> (first | rfl | (unfold zIn; grind))); done) | (refine Or.inr ?_; (refine ⟨?_, ?_⟩ <;> (first | rfl | (unfold zIn; grind))); done), ht⟩) (fun _ h => nomatch h) dX1_isWithin_15
  · refine lv_iload_n hx hb dX1_isWithin_5 rfl (lv_at hl 0 rfl) ?_
    refine lv_iload_n hx hb dX1_isWithin_6 rfl (lv_at hl 2 rfl) ?_
    refine lv_icmp_gt (tgt := 14) hx hb dX1_isWithin_7 (by decide) (fun c2 => ?_) (fun c2 => ?_)
    · refine lv_iconst (v := 0) hx hb dX1_isWithin_14 (by decide) ?_
      exact W.zret (v := 0) hx hb hr (by decide) (fun t ht hW => ⟨0, rfl, by first | (refine Or.inl ?_; (refine ⟨?_, ?_⟩ <;> (first | rfl | (unfold zIn; grind))); done) | (refine Or.inr ?_; (refine ⟨?_, ?_⟩ <;> (first | rfl | (unfold zIn; grind))); done), ht⟩) (fun _ h => nomatch h) dX1_isWithin_15
    · refine lv_iconst (v := 1) hx hb dX1_isWithin_10 (by decide) ?_
      refine lv_goto (tgt := 15) hx hb dX1_isWithin_11 (by decide) ?_
      exact W.zret (v := 1) hx hb hr (by decide) (fun t ht hW => ⟨1, rfl, by first | (refine Or.inl ?_; (refine ⟨?_, ?_⟩ <;> (first | rfl | (unfold zIn; grind))); done) | (refine Or.inr ?_; (refine ⟨?_, ?_⟩ <;> (first | rfl | (unfold zIn; grind))); done), ht⟩) (fun _ h => nomatch h) dX1_isWithin_15

set_option maxHeartbeats 4000000 in
set_option maxRecDepth 100000 in
theorem k1_isKind (l : Launch) (dC : Nat → ClassId) (dI : Nat → Nat → Nat) (x : Int32) : Met l yX1_isKind wsX1_isKind ({ frames := 1, cells := 0, slots := 0, locals := 22 }) (va_Pc [.int x] (fun _ => True)) (vp_Si (fun r : Int32 => (r = 1 ∧ zIn x 0 2) ∨ (r = 0 ∧ ¬ zIn x 0 2))) 0 0 (fun _ => False) := by
  refine Met.ofW (cc := cX1_isKind) (maxL := 1) (ret := (some .boolean)) (by decide) rfl ?_
  intro p e s m args below meth c s₁ B hml hv
  obtain ⟨rfl, -⟩ := hv
  have hx := B.exec
  have hb := B.bytes
  have hr := B.returns
  have hts := atoms_spec (ws := wsX1_isKind) B.pre
  have hown : s.vm.findClass RX1 = some m.cls := findClass_of_methodNamed B.named
  have hlocks := B.notSynchronized
  have hl := lv_entry ([.int x]) (n := 1) (Nat.le_of_ble_eq_true rfl)
  rw [lg_entry_eq]
  generalize (lg_sl ([.int x]) ++ List.replicate (1 - (lg_sl ([.int x])).length) Slot.unset).toArray = ls at hl ⊢
  have hl : lv_has ls 1 [(0, .int x)] := hl
  refine lv_iload_n hx hb dX1_isKind_0 rfl (lv_at hl 0 rfl) ?_
  refine lv_iconst (v := 0) hx hb dX1_isKind_1 (by decide) ?_
  refine lv_iconst (v := 2) hx hb dX1_isKind_2 (by decide) ?_
  refine vp_callSi (va_runS (As := [.int x, .int 0, .int 2]) (rest := []) ⟨hx, hb, hml, hown, hts⟩ (k1_isWithin l dC dI x 0 2 ) (va_cwS 3 hts gX1_isKind_X1_isWithin rfl rfl rfl (by decide +kernel) ⟨Nat.le_of_ble_eq_true rfl, Nat.le_of_ble_eq_true rfl⟩) ⟨fun a U g mk q => q, fun U hU hW => ⟨rfl, trivial⟩⟩ rfl rfl hl.1 rfl (lv_room (Nat.le_of_ble_eq_true rfl)) dX1_isKind_3 ⟨Nat.le_of_ble_eq_true rfl, Nat.le_of_ble_eq_true rfl⟩).run (fun r1 hr1 => ?_)
  rcases hr1 with ⟨rfl, fr1_0_0⟩ | ⟨rfl, fr1_1_0⟩
  · exact W.zret (v := 1) hx hb hr (by decide) (fun t ht hW => ⟨1, rfl, by first | (refine Or.inl ?_; (refine ⟨?_, ?_⟩ <;> (first | rfl | assumption | decide | (simp_all; done) | grind)); done) | (refine Or.inr ?_; (refine ⟨?_, ?_⟩ <;> (first | rfl | assumption | decide | (simp_all; done) | grind)); done), ht⟩) (fun _ h => nomatch h) dX1_isKind_6
  · exact W.zret (v := 0) hx hb hr (by decide) (fun t ht hW => ⟨0, rfl, by first | (refine Or.inl ?_; (refine ⟨?_, ?_⟩ <;> (first | rfl | assumption | decide | (simp_all; done) | grind)); done) | (refine Or.inr ?_; (refine ⟨?_, ?_⟩ <;> (first | rfl | assumption | decide | (simp_all; done) | grind)); done), ht⟩) (fun _ h => nomatch h) dX1_isKind_6

set_option maxHeartbeats 4000000 in
set_option maxRecDepth 100000 in
theorem k1_isYealm (l : Launch) (dC : Nat → ClassId) (dI : Nat → Nat → Nat) (x : Int32) (y : Int32) : Met l yX1_isYealm wsX1_isYealm ({ frames := 1, cells := 0, slots := 0, locals := 22 }) (va_Pc [.int x, .int y] (fun _ => True)) (vp_Si (fun r : Int32 => (r = 1 ∧ (zIn x 1 40 ∧ zIn y 0 9)) ∨ (r = 0 ∧ (¬ (zIn x 1 40 ∧ zIn y 0 9))))) 0 0 (fun _ => False) := by
  refine Met.ofW (cc := cX1_isYealm) (maxL := 2) (ret := (some .boolean)) (by decide) rfl ?_
  intro p e s m args below meth c s₁ B hml hv
  obtain ⟨rfl, -⟩ := hv
  have hx := B.exec
  have hb := B.bytes
  have hr := B.returns
  have hts := atoms_spec (ws := wsX1_isYealm) B.pre
  have hown : s.vm.findClass RX1 = some m.cls := findClass_of_methodNamed B.named
  have hlocks := B.notSynchronized
  have hl := lv_entry ([.int x, .int y]) (n := 2) (Nat.le_of_ble_eq_true rfl)
  rw [lg_entry_eq]
  generalize (lg_sl ([.int x, .int y]) ++ List.replicate (2 - (lg_sl ([.int x, .int y])).length) Slot.unset).toArray = ls at hl ⊢
  have hl : lv_has ls 2 [(0, .int x), (1, .int y)] := hl
  refine lv_iload_n hx hb dX1_isYealm_0 rfl (lv_at hl 0 rfl) ?_
  refine lv_iconst (v := 1) hx hb dX1_isYealm_1 (by decide) ?_
  refine lv_bipush (v := 40) hx hb dX1_isYealm_2 (by decide) ?_
  refine vp_callSi (va_runS (As := [.int x, .int 1, .int 40]) (rest := []) ⟨hx, hb, hml, hown, hts⟩ (k1_isWithin l dC dI x 1 40 ) (va_cwS 3 hts gX1_isYealm_X1_isWithin rfl rfl rfl (by decide +kernel) ⟨Nat.le_of_ble_eq_true rfl, Nat.le_of_ble_eq_true rfl⟩) ⟨fun a U g mk q => q, fun U hU hW => ⟨rfl, trivial⟩⟩ rfl rfl hl.1 rfl (lv_room (Nat.le_of_ble_eq_true rfl)) dX1_isYealm_4 ⟨Nat.le_of_ble_eq_true rfl, Nat.le_of_ble_eq_true rfl⟩).run (fun r1 hr1 => ?_)
  rcases hr1 with ⟨rfl, fr1_0_0⟩ | ⟨rfl, fr1_1_0⟩
  · refine lv_if_eq (tgt := 24) hx hb dX1_isYealm_7 (by decide) (fun c2 => absurd c2 (by decide)) (fun c2 => ?_)
    refine lv_iload_n hx hb dX1_isYealm_10 rfl (lv_at hl 1 rfl) ?_
    refine lv_iconst (v := 0) hx hb dX1_isYealm_11 (by decide) ?_
    refine lv_bipush (v := 9) hx hb dX1_isYealm_12 (by decide) ?_
    refine vp_callSi (va_runS (As := [.int y, .int 0, .int 9]) (rest := []) ⟨hx, hb, hml, hown, hts⟩ (k1_isWithin l dC dI y 0 9 ) (va_cwS 3 hts gX1_isYealm_X1_isWithin rfl rfl rfl (by decide +kernel) ⟨Nat.le_of_ble_eq_true rfl, Nat.le_of_ble_eq_true rfl⟩) ⟨fun a U g mk q => q, fun U hU hW => ⟨rfl, trivial⟩⟩ rfl rfl hl.1 rfl (lv_room (Nat.le_of_ble_eq_true rfl)) dX1_isYealm_14 ⟨Nat.le_of_ble_eq_true rfl, Nat.le_of_ble_eq_true rfl⟩).run (fun r3 hr3 => ?_)
    rcases hr3 with ⟨rfl, fr3_0_0⟩ | ⟨rfl, fr3_1_0⟩
    · refine lv_if_eq (tgt := 24) hx hb dX1_isYealm_17 (by decide) (fun c4 => absurd c4 (by decide)) (fun c4 => ?_)
      refine lv_iconst (v := 1) hx hb dX1_isYealm_20 (by decide) ?_
      refine lv_goto (tgt := 25) hx hb dX1_isYealm_21 (by decide) ?_
      exact W.zret (v := 1) hx hb hr (by decide) (fun t ht hW => ⟨1, rfl, by first | (refine Or.inl ?_; (refine ⟨?_, ?_⟩ <;> (first | rfl | assumption | decide | (simp_all; done) | grind)); done) | (refine Or.inr ?_; (refine ⟨?_, ?_⟩ <;> (first | rfl | assumption | decide | (simp_all; done) | grind)); done), ht⟩) (fun _ h => nomatch h) dX1_isYealm_25
    · refine lv_if_eq (tgt := 24) hx hb dX1_isYealm_17 (by decide) (fun c5 => ?_) (fun c5 => absurd c5 (by decide))
      refine lv_iconst (v := 0) hx hb dX1_isYealm_24 (by decide) ?_
      exact W.zret (v := 0) hx hb hr (by decide) (fun t ht hW => ⟨0, rfl, by first | (refine Or.inl ?_; (refine ⟨?_, ?_⟩ <;> (first | rfl | assumption | decide | (simp_all; done) | grind)); done) | (refine Or.inr ?_; (refine ⟨?_, ?_⟩ <;> (first | rfl | assumption | decide | (simp_all; done) | grind)); done), ht⟩) (fun _ h => nomatch h) dX1_isYealm_25
  · refine lv_if_eq (tgt := 24) hx hb dX1_isYealm_7 (by decide) (fun c6 => ?_) (fun c6 => absurd c6 (by decide))
    refine lv_iconst (v := 0) hx hb dX1_isYealm_24 (by decide) ?_
    exact W.zret (v := 0) hx hb hr (by decide) (fun t ht hW => ⟨0, rfl, by first | (refine Or.inl ?_; (refine ⟨?_, ?_⟩ <;> (first | rfl | assumption | decide | (simp_all; done) | grind)); done) | (refine Or.inr ?_; (refine ⟨?_, ?_⟩ <;> (first | rfl | assumption | decide | (simp_all; done) | grind)); done), ht⟩) (fun _ h => nomatch h) dX1_isYealm_25

set_option maxHeartbeats 4000000 in
set_option maxRecDepth 100000 in
theorem k0_init (l : Launch) (dC : Nat → ClassId) (dI : Nat → Nat → Nat) (sz : Nat) (h : Nat) (wi : Int32) (co : Int32) (sl : Int32) : Met l yX0_init wsX0_init ({ frames := 1, cells := 4, slots := 240, locals := 12 }) (va_Pc [.ref h, .int wi, .int co, .int sl] (fun U => U.heap.size = sz ∧ va_P (dC, dI) vwCl [(h, .inr (0, [.int 0, .int 0, .int 0, .int 0, .int 0, .int 0, .null, .null, .null, .null]))] U.heap ∧ va_K (dC, dI) vwCl [] U ∧ va_D (fun _ => True) [(h, .inr (0, [.int 0, .int 0, .int 0, .int 0, .int 0, .int 0, .null, .null, .null, .null]))])) (va_Qv (fun (u : Nat × Nat × Nat × Nat × ClassId × ClassId × ClassId × ClassId) => True) (fun (u : Nat × Nat × Nat × Nat × ClassId × ClassId × ClassId × ClassId) (t : State) => va_P (dC, dI) vwCl [(h, .inr (0, [.int wi, .int co, .int sl, .int 100, .int 0, .int 0, .ref u.1, .ref u.2.1, .ref u.2.2.1, .ref u.2.2.2.1])), (u.1, .inl (u.2.2.2.2.1, 60, .inl (fun _ => 0))), (u.2.1, .inl (u.2.2.2.2.2.1, 60, .inl (fun _ => 0))), (u.2.2.1, .inl (u.2.2.2.2.2.2.1, 60, .inl (fun _ => 0))), (u.2.2.2.1, .inl (u.2.2.2.2.2.2.2, 60, .inl (fun _ => 0)))] t.heap ∧ va_K (dC, dI) vwCl [(u.2.2.2.2.1, .int), (u.2.2.2.2.2.1, .int), (u.2.2.2.2.2.2.1, .int), (u.2.2.2.2.2.2.2, .int)] t ∧ va_D (va_A [(h, .inr (0, [.int 0, .int 0, .int 0, .int 0, .int 0, .int 0, .null, .null, .null, .null]))] sz) [(h, .inr (0, [.int wi, .int co, .int sl, .int 100, .int 0, .int 0, .ref u.1, .ref u.2.1, .ref u.2.2.1, .ref u.2.2.2.1])), (u.1, .inl (u.2.2.2.2.1, 60, .inl (fun _ => 0))), (u.2.1, .inl (u.2.2.2.2.2.1, 60, .inl (fun _ => 0))), (u.2.2.1, .inl (u.2.2.2.2.2.2.1, 60, .inl (fun _ => 0))), (u.2.2.2.1, .inl (u.2.2.2.2.2.2.2, 60, .inl (fun _ => 0)))]) (va_A [(h, .inr (0, [.int 0, .int 0, .int 0, .int 0, .int 0, .int 0, .null, .null, .null, .null]))] sz)) 4 240 (va_A [(h, .inr (0, [.int 0, .int 0, .int 0, .int 0, .int 0, .int 0, .null, .null, .null, .null]))] sz) := by
  refine Met.ofW (cc := cX0_init) (maxL := 4) (ret := none) (by decide) rfl ?_
  intro p e s m args below meth c s₁ B hml hv
  obtain ⟨rfl, hsz, hP, hK, hD0⟩ := hv
  have hx := B.exec
  have hb := B.bytes
  have hr := B.returns
  have hts := atoms_spec (ws := wsX0_init) B.pre
  have hown : s.vm.findClass RX0 = some m.cls := findClass_of_methodNamed B.named
  have hlocks := B.notSynchronized
  have hin : meth.name = "<init>" := (name_of_methodNamed B.named B.method).1
  subst hsz
  have hD := hD0.self (sz := s.heap.size)
  generalize hAe : va_A [(h, .inr (0, [.int 0, .int 0, .int 0, .int 0, .int 0, .int 0, .null, .null, .null, .null]))] s.heap.size = A at hD ⊢
  have hA : ∀ q : Nat, s.heap.size ≤ q → A q := fun q h => by rw [← hAe]; exact Or.inr h
  have hS : va_S A s.heap s.heap [] := va_S.rf
  have hP : va_P (dC, dI) vwCl [(h, .inr (0, [.int 0, .int 0, .int 0, .int 0, .int 0, .int 0, .null, .null, .null, .null]))] s.heap := hP
  have hl := lv_entry ([.ref h, .int wi, .int co, .int sl]) (n := 4) (Nat.le_of_ble_eq_true rfl)
  rw [lg_entry_eq]
  generalize (lg_sl ([.ref h, .int wi, .int co, .int sl]) ++ List.replicate (4 - (lg_sl ([.ref h, .int wi, .int co, .int sl])).length) Slot.unset).toArray = ls at hl ⊢
  have hl : lv_has ls 4 [(0, .ref h), (1, .int wi), (2, .int co), (3, .int sl)] := hl
  refine lv_aload_n hx hb dX0_init_0 rfl (lv_at hl 0 rfl) ?_
  refine W.objInit hx hb hown (hts (.methodLink RX0 3 objectInit) (by decide +kernel)) (hts (.instanceMethod objectInit) (by decide +kernel)) (hts (.code objectInit ⟨#[0xb1]⟩ 1 none) (by decide +kernel)) rfl (by rw [hml]; exact hl.1) rfl dX0_init_1 (Nat.le_of_ble_eq_true rfl) (Nat.le_of_ble_eq_true rfl) ?_
  refine W.eq (g2 := F0 m 4 ls []) rfl ?_
  refine lv_aload_n hx hb dX0_init_4 rfl (lv_at hl 0 rfl) ?_
  refine lv_bipush (v := 60) hx hb dX0_init_5 (by decide) ?_
  refine va_newa (atype := .int) (ty := .int) (N' := 60) (a0 := (60, .inl (fun _ => 0))) hx hb (hts (.arrayClass .int) (by decide +kernel)) rfl hK hP hD hS hA (fun _ => rfl) (by decide) (by decide) (by decide) (Nat.le_of_ble_eq_true rfl) (Nat.le_of_ble_eq_true rfl) dX0_init_7 (fun q1 cA2 H hK hP hD hS => ?_)
  refine W.widen (k := 1) (n := 60) (Nat.le_of_ble_eq_true rfl) (Nat.le_of_ble_eq_true rfl) ?_
  have hK : va_K (dC, dI) vwCl [(cA2, .int)] s := hK
  have hP : va_P (dC, dI) vwCl [(h, .inr (0, [.int 0, .int 0, .int 0, .int 0, .int 0, .int 0, .null, .null, .null, .null])), (q1, .inl (cA2, 60, .inl (fun _ => 0)))] H := hP
  have hD : va_D A [(h, .inr (0, [.int 0, .int 0, .int 0, .int 0, .int 0, .int 0, .null, .null, .null, .null])), (q1, .inl (cA2, 60, .inl (fun _ => 0)))] := hD
  refine va_putF (D := (dC, dI)) (ci := 0) (v := .ref q1) (ty := .array .int) (C := RX0) (T := TX0) (N := 10) hx hb hts (by decide +kernel) tyX0 tyX0_ok nmX0 hown hK hP hD hS 0 rfl rfl 6 (by decide) (hts (.fieldLink RX0 9 "ThatchRoof$Roof" "kinds" "[I") (by decide +kernel)) (fun _ h9 => h9) rfl hin rfl (by decide +kernel) rfl rfl (Nat.le_of_ble_eq_true rfl) dX0_init_9 (fun H locs hP hD hS => ?_)
  have hP : va_P (dC, dI) vwCl [(h, .inr (0, [.int 0, .int 0, .int 0, .int 0, .int 0, .int 0, .ref q1, .null, .null, .null])), (q1, .inl (cA2, 60, .inl (fun _ => 0)))] H := hP
  have hD : va_D A [(h, .inr (0, [.int 0, .int 0, .int 0, .int 0, .int 0, .int 0, .ref q1, .null, .null, .null])), (q1, .inl (cA2, 60, .inl (fun _ => 0)))] := hD
  refine lv_aload_n hx hb dX0_init_12 rfl (lv_at hl 0 rfl) ?_
  refine lv_bipush (v := 60) hx hb dX0_init_13 (by decide) ?_
  refine va_newa (atype := .int) (ty := .int) (N' := 60) (a0 := (60, .inl (fun _ => 0))) hx hb (hts (.arrayClass .int) (by decide +kernel)) rfl hK hP hD hS hA (fun _ => rfl) (by decide) (by decide) (by decide) (Nat.le_of_ble_eq_true rfl) (Nat.le_of_ble_eq_true rfl) dX0_init_15 (fun q3 cA4 H hK hP hD hS => ?_)
  refine W.widen (k := 2) (n := 120) (Nat.le_of_ble_eq_true rfl) (Nat.le_of_ble_eq_true rfl) ?_
  have hK : va_K (dC, dI) vwCl [(cA2, .int), (cA4, .int)] s := hK
  have hP : va_P (dC, dI) vwCl [(h, .inr (0, [.int 0, .int 0, .int 0, .int 0, .int 0, .int 0, .ref q1, .null, .null, .null])), (q1, .inl (cA2, 60, .inl (fun _ => 0))), (q3, .inl (cA4, 60, .inl (fun _ => 0)))] H := hP
  have hD : va_D A [(h, .inr (0, [.int 0, .int 0, .int 0, .int 0, .int 0, .int 0, .ref q1, .null, .null, .null])), (q1, .inl (cA2, 60, .inl (fun _ => 0))), (q3, .inl (cA4, 60, .inl (fun _ => 0)))] := hD
  refine va_putF (D := (dC, dI)) (ci := 0) (v := .ref q3) (ty := .array .int) (C := RX0) (T := TX0) (N := 10) hx hb hts (by decide +kernel) tyX0 tyX0_ok nmX0 hown hK hP hD hS 0 rfl rfl 7 (by decide) (hts (.fieldLink RX0 15 "ThatchRoof$Roof" "thicknesses" "[I") (by decide +kernel)) (fun _ h9 => h9) rfl hin rfl (by decide +kernel) rfl rfl (Nat.le_of_ble_eq_true rfl) dX0_init_17 (fun H locs hP hD hS => ?_)
  have hP : va_P (dC, dI) vwCl [(h, .inr (0, [.int 0, .int 0, .int 0, .int 0, .int 0, .int 0, .ref q1, .ref q3, .null, .null])), (q1, .inl (cA2, 60, .inl (fun _ => 0))), (q3, .inl (cA4, 60, .inl (fun _ => 0)))] H := hP
  have hD : va_D A [(h, .inr (0, [.int 0, .int 0, .int 0, .int 0, .int 0, .int 0, .ref q1, .ref q3, .null, .null])), (q1, .inl (cA2, 60, .inl (fun _ => 0))), (q3, .inl (cA4, 60, .inl (fun _ => 0)))] := hD
  refine lv_aload_n hx hb dX0_init_20 rfl (lv_at hl 0 rfl) ?_
  refine lv_bipush (v := 60) hx hb dX0_init_21 (by decide) ?_
  refine va_newa (atype := .int) (ty := .int) (N' := 60) (a0 := (60, .inl (fun _ => 0))) hx hb (hts (.arrayClass .int) (by decide +kernel)) rfl hK hP hD hS hA (fun _ => rfl) (by decide) (by decide) (by decide) (Nat.le_of_ble_eq_true rfl) (Nat.le_of_ble_eq_true rfl) dX0_init_23 (fun q5 cA6 H hK hP hD hS => ?_)
  refine W.widen (k := 3) (n := 180) (Nat.le_of_ble_eq_true rfl) (Nat.le_of_ble_eq_true rfl) ?_
  have hK : va_K (dC, dI) vwCl [(cA2, .int), (cA4, .int), (cA6, .int)] s := hK
  have hP : va_P (dC, dI) vwCl [(h, .inr (0, [.int 0, .int 0, .int 0, .int 0, .int 0, .int 0, .ref q1, .ref q3, .null, .null])), (q1, .inl (cA2, 60, .inl (fun _ => 0))), (q3, .inl (cA4, 60, .inl (fun _ => 0))), (q5, .inl (cA6, 60, .inl (fun _ => 0)))] H := hP
  have hD : va_D A [(h, .inr (0, [.int 0, .int 0, .int 0, .int 0, .int 0, .int 0, .ref q1, .ref q3, .null, .null])), (q1, .inl (cA2, 60, .inl (fun _ => 0))), (q3, .inl (cA4, 60, .inl (fun _ => 0))), (q5, .inl (cA6, 60, .inl (fun _ => 0)))] := hD
  refine va_putF (D := (dC, dI)) (ci := 0) (v := .ref q5) (ty := .array .int) (C := RX0) (T := TX0) (N := 10) hx hb hts (by decide +kernel) tyX0 tyX0_ok nmX0 hown hK hP hD hS 0 rfl rfl 8 (by decide) (hts (.fieldLink RX0 18 "ThatchRoof$Roof" "spars" "[I") (by decide +kernel)) (fun _ h9 => h9) rfl hin rfl (by decide +kernel) rfl rfl (Nat.le_of_ble_eq_true rfl) dX0_init_25 (fun H locs hP hD hS => ?_)
  have hP : va_P (dC, dI) vwCl [(h, .inr (0, [.int 0, .int 0, .int 0, .int 0, .int 0, .int 0, .ref q1, .ref q3, .ref q5, .null])), (q1, .inl (cA2, 60, .inl (fun _ => 0))), (q3, .inl (cA4, 60, .inl (fun _ => 0))), (q5, .inl (cA6, 60, .inl (fun _ => 0)))] H := hP
  have hD : va_D A [(h, .inr (0, [.int 0, .int 0, .int 0, .int 0, .int 0, .int 0, .ref q1, .ref q3, .ref q5, .null])), (q1, .inl (cA2, 60, .inl (fun _ => 0))), (q3, .inl (cA4, 60, .inl (fun _ => 0))), (q5, .inl (cA6, 60, .inl (fun _ => 0)))] := hD
  refine lv_aload_n hx hb dX0_init_28 rfl (lv_at hl 0 rfl) ?_
  refine lv_bipush (v := 60) hx hb dX0_init_29 (by decide) ?_
  refine va_newa (atype := .int) (ty := .int) (N' := 60) (a0 := (60, .inl (fun _ => 0))) hx hb (hts (.arrayClass .int) (by decide +kernel)) rfl hK hP hD hS hA (fun _ => rfl) (by decide) (by decide) (by decide) (Nat.le_of_ble_eq_true rfl) (Nat.le_of_ble_eq_true rfl) dX0_init_31 (fun q7 cA8 H hK hP hD hS => ?_)
  refine W.widen (k := 4) (n := 240) (Nat.le_of_ble_eq_true rfl) (Nat.le_of_ble_eq_true rfl) ?_
  have hK : va_K (dC, dI) vwCl [(cA2, .int), (cA4, .int), (cA6, .int), (cA8, .int)] s := hK
  have hP : va_P (dC, dI) vwCl [(h, .inr (0, [.int 0, .int 0, .int 0, .int 0, .int 0, .int 0, .ref q1, .ref q3, .ref q5, .null])), (q1, .inl (cA2, 60, .inl (fun _ => 0))), (q3, .inl (cA4, 60, .inl (fun _ => 0))), (q5, .inl (cA6, 60, .inl (fun _ => 0))), (q7, .inl (cA8, 60, .inl (fun _ => 0)))] H := hP
  have hD : va_D A [(h, .inr (0, [.int 0, .int 0, .int 0, .int 0, .int 0, .int 0, .ref q1, .ref q3, .ref q5, .null])), (q1, .inl (cA2, 60, .inl (fun _ => 0))), (q3, .inl (cA4, 60, .inl (fun _ => 0))), (q5, .inl (cA6, 60, .inl (fun _ => 0))), (q7, .inl (cA8, 60, .inl (fun _ => 0)))] := hD
  refine va_putF (D := (dC, dI)) (ci := 0) (v := .ref q7) (ty := .array .int) (C := RX0) (T := TX0) (N := 10) hx hb hts (by decide +kernel) tyX0 tyX0_ok nmX0 hown hK hP hD hS 0 rfl rfl 9 (by decide) (hts (.fieldLink RX0 21 "ThatchRoof$Roof" "mosses" "[I") (by decide +kernel)) (fun _ h9 => h9) rfl hin rfl (by decide +kernel) rfl rfl (Nat.le_of_ble_eq_true rfl) dX0_init_33 (fun H locs hP hD hS => ?_)
  have hP : va_P (dC, dI) vwCl [(h, .inr (0, [.int 0, .int 0, .int 0, .int 0, .int 0, .int 0, .ref q1, .ref q3, .ref q5, .ref q7])), (q1, .inl (cA2, 60, .inl (fun _ => 0))), (q3, .inl (cA4, 60, .inl (fun _ => 0))), (q5, .inl (cA6, 60, .inl (fun _ => 0))), (q7, .inl (cA8, 60, .inl (fun _ => 0)))] H := hP
  have hD : va_D A [(h, .inr (0, [.int 0, .int 0, .int 0, .int 0, .int 0, .int 0, .ref q1, .ref q3, .ref q5, .ref q7])), (q1, .inl (cA2, 60, .inl (fun _ => 0))), (q3, .inl (cA4, 60, .inl (fun _ => 0))), (q5, .inl (cA6, 60, .inl (fun _ => 0))), (q7, .inl (cA8, 60, .inl (fun _ => 0)))] := hD
  refine lv_aload_n hx hb dX0_init_36 rfl (lv_at hl 0 rfl) ?_
  refine lv_iload_n hx hb dX0_init_37 rfl (lv_at hl 1 rfl) ?_
  refine va_put (D := (dC, dI)) (ci := 0) (v := .int wi) (ty := .int) (C := RX0) (T := TX0) (N := 10) hx hb hts (by decide +kernel) tyX0 tyX0_ok nmX0 hown hK hP hD hS 0 rfl rfl 0 (by decide) (hts (.fieldLink RX0 24 "ThatchRoof$Roof" "width" "I") (by decide +kernel)) (fun _ h9 => h9) rfl (by decide +kernel) rfl rfl (Nat.le_of_ble_eq_true rfl) dX0_init_38 (fun H locs hP hD hS => ?_)
  have hP : va_P (dC, dI) vwCl [(h, .inr (0, [.int wi, .int 0, .int 0, .int 0, .int 0, .int 0, .ref q1, .ref q3, .ref q5, .ref q7])), (q1, .inl (cA2, 60, .inl (fun _ => 0))), (q3, .inl (cA4, 60, .inl (fun _ => 0))), (q5, .inl (cA6, 60, .inl (fun _ => 0))), (q7, .inl (cA8, 60, .inl (fun _ => 0)))] H := hP
  have hD : va_D A [(h, .inr (0, [.int wi, .int 0, .int 0, .int 0, .int 0, .int 0, .ref q1, .ref q3, .ref q5, .ref q7])), (q1, .inl (cA2, 60, .inl (fun _ => 0))), (q3, .inl (cA4, 60, .inl (fun _ => 0))), (q5, .inl (cA6, 60, .inl (fun _ => 0))), (q7, .inl (cA8, 60, .inl (fun _ => 0)))] := hD
  refine lv_aload_n hx hb dX0_init_41 rfl (lv_at hl 0 rfl) ?_
  refine lv_iload_n hx hb dX0_init_42 rfl (lv_at hl 2 rfl) ?_
  refine va_put (D := (dC, dI)) (ci := 0) (v := .int co) (ty := .int) (C := RX0) (T := TX0) (N := 10) hx hb hts (by decide +kernel) tyX0 tyX0_ok nmX0 hown hK hP hD hS 0 rfl rfl 1 (by decide) (hts (.fieldLink RX0 28 "ThatchRoof$Roof" "courses" "I") (by decide +kernel)) (fun _ h9 => h9) rfl (by decide +kernel) rfl rfl (Nat.le_of_ble_eq_true rfl) dX0_init_43 (fun H locs hP hD hS => ?_)
  have hP : va_P (dC, dI) vwCl [(h, .inr (0, [.int wi, .int co, .int 0, .int 0, .int 0, .int 0, .ref q1, .ref q3, .ref q5, .ref q7])), (q1, .inl (cA2, 60, .inl (fun _ => 0))), (q3, .inl (cA4, 60, .inl (fun _ => 0))), (q5, .inl (cA6, 60, .inl (fun _ => 0))), (q7, .inl (cA8, 60, .inl (fun _ => 0)))] H := hP
  have hD : va_D A [(h, .inr (0, [.int wi, .int co, .int 0, .int 0, .int 0, .int 0, .ref q1, .ref q3, .ref q5, .ref q7])), (q1, .inl (cA2, 60, .inl (fun _ => 0))), (q3, .inl (cA4, 60, .inl (fun _ => 0))), (q5, .inl (cA6, 60, .inl (fun _ => 0))), (q7, .inl (cA8, 60, .inl (fun _ => 0)))] := hD
  refine lv_aload_n hx hb dX0_init_46 rfl (lv_at hl 0 rfl) ?_
  refine lv_iload_n hx hb dX0_init_47 rfl (lv_at hl 3 rfl) ?_
  refine va_put (D := (dC, dI)) (ci := 0) (v := .int sl) (ty := .int) (C := RX0) (T := TX0) (N := 10) hx hb hts (by decide +kernel) tyX0 tyX0_ok nmX0 hown hK hP hD hS 0 rfl rfl 2 (by decide) (hts (.fieldLink RX0 31 "ThatchRoof$Roof" "slope" "I") (by decide +kernel)) (fun _ h9 => h9) rfl (by decide +kernel) rfl rfl (Nat.le_of_ble_eq_true rfl) dX0_init_48 (fun H locs hP hD hS => ?_)
  have hP : va_P (dC, dI) vwCl [(h, .inr (0, [.int wi, .int co, .int sl, .int 0, .int 0, .int 0, .ref q1, .ref q3, .ref q5, .ref q7])), (q1, .inl (cA2, 60, .inl (fun _ => 0))), (q3, .inl (cA4, 60, .inl (fun _ => 0))), (q5, .inl (cA6, 60, .inl (fun _ => 0))), (q7, .inl (cA8, 60, .inl (fun _ => 0)))] H := hP
  have hD : va_D A [(h, .inr (0, [.int wi, .int co, .int sl, .int 0, .int 0, .int 0, .ref q1, .ref q3, .ref q5, .ref q7])), (q1, .inl (cA2, 60, .inl (fun _ => 0))), (q3, .inl (cA4, 60, .inl (fun _ => 0))), (q5, .inl (cA6, 60, .inl (fun _ => 0))), (q7, .inl (cA8, 60, .inl (fun _ => 0)))] := hD
  refine lv_aload_n hx hb dX0_init_51 rfl (lv_at hl 0 rfl) ?_
  refine lv_bipush (v := 100) hx hb dX0_init_52 (by decide) ?_
  refine va_put (D := (dC, dI)) (ci := 0) (v := .int 100) (ty := .int) (C := RX0) (T := TX0) (N := 10) hx hb hts (by decide +kernel) tyX0 tyX0_ok nmX0 hown hK hP hD hS 0 rfl rfl 3 (by decide) (hts (.fieldLink RX0 34 "ThatchRoof$Roof" "ridge" "I") (by decide +kernel)) (fun _ h9 => h9) rfl (by decide +kernel) rfl rfl (Nat.le_of_ble_eq_true rfl) dX0_init_54 (fun H locs hP hD hS => ?_)
  have hP : va_P (dC, dI) vwCl [(h, .inr (0, [.int wi, .int co, .int sl, .int 100, .int 0, .int 0, .ref q1, .ref q3, .ref q5, .ref q7])), (q1, .inl (cA2, 60, .inl (fun _ => 0))), (q3, .inl (cA4, 60, .inl (fun _ => 0))), (q5, .inl (cA6, 60, .inl (fun _ => 0))), (q7, .inl (cA8, 60, .inl (fun _ => 0)))] H := hP
  have hD : va_D A [(h, .inr (0, [.int wi, .int co, .int sl, .int 100, .int 0, .int 0, .ref q1, .ref q3, .ref q5, .ref q7])), (q1, .inl (cA2, 60, .inl (fun _ => 0))), (q3, .inl (cA4, 60, .inl (fun _ => 0))), (q5, .inl (cA6, 60, .inl (fun _ => 0))), (q7, .inl (cA8, 60, .inl (fun _ => 0)))] := hD
  have hP9 := hP.sub (ws' := [(h, .inr (0, [.int wi, .int co, .int sl, .int 100, .int 0, .int 0, .ref q1, .ref q3, .ref q5, .ref q7])), (q1, .inl (cA2, 60, .inl (fun _ => 0))), (q3, .inl (cA4, 60, .inl (fun _ => 0))), (q5, .inl (cA6, 60, .inl (fun _ => 0))), (q7, .inl (cA8, 60, .inl (fun _ => 0)))]) [0, 1, 2, 3, 4] rfl
  have hD9 := hD.sub (ws' := [(h, .inr (0, [.int wi, .int co, .int sl, .int 100, .int 0, .int 0, .ref q1, .ref q3, .ref q5, .ref q7])), (q1, .inl (cA2, 60, .inl (fun _ => 0))), (q3, .inl (cA4, 60, .inl (fun _ => 0))), (q5, .inl (cA6, 60, .inl (fun _ => 0))), (q7, .inl (cA8, 60, .inl (fun _ => 0)))]) [0, 1, 2, 3, 4] (by decide) rfl
  have hK9 := hK.sub (tys' := [(cA2, .int), (cA4, .int), (cA6, .int), (cA8, .int)]) [0, 1, 2, 3] rfl
  refine W.widen (k := 4) (n := 240) (Nat.le_of_ble_eq_true rfl) (Nat.le_of_ble_eq_true rfl) ?_
  exact W.vret hx hb hr (fun t ht hW => ⟨⟨(q1, q3, q5, q7, cA2, cA4, cA6, cA8), rfl, by exact trivial, ⟨by rw [ht]; exact hP9, va_K.moved hW.alike hK9, hD9⟩⟩, hS.F ht⟩) hS.2.2 dX0_init_57

set_option maxHeartbeats 4000000 in
set_option maxRecDepth 100000 in
theorem k1_init (l : Launch) (hst : l.stackTraces = false) (dC : Nat → ClassId) (dI : Nat → Nat → Nat) (sz : Nat) (h : Nat) : Met l yX1_init wsX1_init ({ frames := 2, cells := 9, slots := 283, locals := 35 }) (va_Pc [.ref h] (fun U => U.heap.size = sz ∧ va_P (dC, dI) vwCl [(h, .inr (1, [.null, .int 0, .null, .null, .null, .int 0, .null]))] U.heap ∧ va_K (dC, dI) vwCl [] U ∧ va_D (fun _ => True) [(h, .inr (1, [.null, .int 0, .null, .null, .null, .int 0, .null]))] ∧ zX U ∧ zTh (va_A [(h, .inr (1, [.null, .int 0, .null, .null, .null, .int 0, .null]))] sz) U U.heap)) (va_Qv (fun (u : Nat × Nat × Nat × Nat × Nat × ClassId × ClassId × ClassId × ClassId × (Nat → Int32)) => (∀ j : Nat, j < 12 → u.2.2.2.2.2.2.2.2.2 j = 4)) (fun (u : Nat × Nat × Nat × Nat × Nat × ClassId × ClassId × ClassId × ClassId × (Nat → Int32)) (t : State) => va_P (dC, dI) vwCl [(h, .inr (1, [.ref u.1, .int 0, .ref u.2.1, .ref u.2.2.1, .ref u.2.2.2.1, .int 0, .ref u.2.2.2.2.1])), (u.1, .inl (u.2.2.2.2.2.1, 6, .inr (.inr (.inr (.inr (fun _ => none)))))), (u.2.1, .inl (u.2.2.2.2.2.2.1, 3, .inl (fun _ => 0))), (u.2.2.1, .inl (u.2.2.2.2.2.2.2.1, 12, .inl u.2.2.2.2.2.2.2.2.2)), (u.2.2.2.1, .inl (u.2.2.2.2.2.2.2.2.1, 12, .inl (fun _ => 0)))] t.heap ∧ va_K (dC, dI) vwCl [(u.2.2.2.2.2.1, .object RX0), (u.2.2.2.2.2.2.1, .int), (u.2.2.2.2.2.2.2.1, .int), (u.2.2.2.2.2.2.2.2.1, .int)] t ∧ va_D (va_A [(h, .inr (1, [.null, .int 0, .null, .null, .null, .int 0, .null]))] sz) [(h, .inr (1, [.ref u.1, .int 0, .ref u.2.1, .ref u.2.2.1, .ref u.2.2.2.1, .int 0, .ref u.2.2.2.2.1])), (u.1, .inl (u.2.2.2.2.2.1, 6, .inr (.inr (.inr (.inr (fun _ => none)))))), (u.2.1, .inl (u.2.2.2.2.2.2.1, 3, .inl (fun _ => 0))), (u.2.2.1, .inl (u.2.2.2.2.2.2.2.1, 12, .inl u.2.2.2.2.2.2.2.2.2)), (u.2.2.2.1, .inl (u.2.2.2.2.2.2.2.2.1, 12, .inl (fun _ => 0)))]) (va_A [(h, .inr (1, [.null, .int 0, .null, .null, .null, .int 0, .null]))] sz)) 9 283 (va_A [(h, .inr (1, [.null, .int 0, .null, .null, .null, .int 0, .null]))] sz) := by
  refine Met.ofW (cc := cX1_init) (maxL := 2) (ret := none) (by decide) rfl ?_
  intro p e s m args below meth c s₁ B hml hv
  obtain ⟨rfl, hsz, hP, hK, hD0, hZX, hZT⟩ := hv
  have hx := B.exec
  have hb := B.bytes
  have hr := B.returns
  have hts := atoms_spec (ws := wsX1_init) B.pre
  have hown : s.vm.findClass RX1 = some m.cls := findClass_of_methodNamed B.named
  have hlocks := B.notSynchronized
  have hin : meth.name = "<init>" := (name_of_methodNamed B.named B.method).1
  subst hsz
  have hD := hD0.self (sz := s.heap.size)
  generalize hAe : va_A [(h, .inr (1, [.null, .int 0, .null, .null, .null, .int 0, .null]))] s.heap.size = A at hD hZT ⊢
  have hA : ∀ q : Nat, s.heap.size ≤ q → A q := fun q h => by rw [← hAe]; exact Or.inr h
  have hS : va_S A s.heap s.heap [] := va_S.rf
  have hP : va_P (dC, dI) vwCl [(h, .inr (1, [.null, .int 0, .null, .null, .null, .int 0, .null]))] s.heap := hP
  have hl := lv_entry ([.ref h]) (n := 2) (Nat.le_of_ble_eq_true rfl)
  rw [lg_entry_eq]
  generalize (lg_sl ([.ref h]) ++ List.replicate (2 - (lg_sl ([.ref h])).length) Slot.unset).toArray = ls at hl ⊢
  have hl : lv_has ls 2 [(0, .ref h)] := hl
  refine lv_aload_n hx hb dX1_init_0 rfl (lv_at hl 0 rfl) ?_
  refine W.objInit hx hb hown (hts (.methodLink RX1 3 objectInit) (by decide +kernel)) (hts (.instanceMethod objectInit) (by decide +kernel)) (hts (.code objectInit ⟨#[0xb1]⟩ 1 none) (by decide +kernel)) rfl (by rw [hml]; exact hl.1) rfl dX1_init_1 (Nat.le_of_ble_eq_true rfl) (Nat.le_of_ble_eq_true rfl) ?_
  refine W.eq (g2 := F0 m 4 ls []) rfl ?_
  refine lv_aload_n hx hb dX1_init_4 rfl (lv_at hl 0 rfl) ?_
  refine lv_bipush (v := 6) hx hb dX1_init_5 (by decide) ?_
  refine va_newq (C := RX0) (N' := 6) hx hb hown (hts (.classLink RX1 9 RX0) (by decide +kernel)) (zX_over hZX) hK hP hD hS hA (by decide) (by decide) (by decide) (Nat.le_of_ble_eq_true rfl) (Nat.le_of_ble_eq_true rfl) dX1_init_7 (fun q1 cA2 H hK hP hD hS => ?_)
  refine W.widen (k := 1) (n := 6) (Nat.le_of_ble_eq_true rfl) (Nat.le_of_ble_eq_true rfl) ?_
  have hK : va_K (dC, dI) vwCl [(cA2, .object RX0)] s := hK
  have hP : va_P (dC, dI) vwCl [(h, .inr (1, [.null, .int 0, .null, .null, .null, .int 0, .null])), (q1, .inl (cA2, 6, .inr (.inr (.inr (.inr (fun _ => none))))))] H := hP
  have hD : va_D A [(h, .inr (1, [.null, .int 0, .null, .null, .null, .int 0, .null])), (q1, .inl (cA2, 6, .inr (.inr (.inr (.inr (fun _ => none))))))] := hD
  refine va_putF (D := (dC, dI)) (ci := 1) (v := .ref q1) (ty := .array (.object "ThatchRoof$Roof")) (C := RX1) (T := TX1) (N := 7) hx hb hts (by decide +kernel) tyX1 tyX1_ok nmX1 hown hK hP hD hS 0 rfl rfl 0 (by decide) (hts (.fieldLink RX1 11 "ThatchRoof" "roofs" "[LThatchRoof$Roof;") (by decide +kernel)) (fun _ h9 => h9) rfl hin rfl (by decide +kernel) rfl rfl (Nat.le_of_ble_eq_true rfl) dX1_init_10 (fun H locs hP hD hS => ?_)
  have hP : va_P (dC, dI) vwCl [(h, .inr (1, [.ref q1, .int 0, .null, .null, .null, .int 0, .null])), (q1, .inl (cA2, 6, .inr (.inr (.inr (.inr (fun _ => none))))))] H := hP
  have hD : va_D A [(h, .inr (1, [.ref q1, .int 0, .null, .null, .null, .int 0, .null])), (q1, .inl (cA2, 6, .inr (.inr (.inr (.inr (fun _ => none))))))] := hD
  refine lv_aload_n hx hb dX1_init_13 rfl (lv_at hl 0 rfl) ?_
  refine lv_iconst (v := 3) hx hb dX1_init_14 (by decide) ?_
  refine va_newa (atype := .int) (ty := .int) (N' := 3) (a0 := (3, .inl (fun _ => 0))) hx hb (hts (.arrayClass .int) (by decide +kernel)) rfl hK hP hD hS hA (fun _ => rfl) (by decide) (by decide) (by decide) (Nat.le_of_ble_eq_true rfl) (Nat.le_of_ble_eq_true rfl) dX1_init_15 (fun q3 cA4 H hK hP hD hS => ?_)
  refine W.widen (k := 2) (n := 9) (Nat.le_of_ble_eq_true rfl) (Nat.le_of_ble_eq_true rfl) ?_
  have hK : va_K (dC, dI) vwCl [(cA2, .object RX0), (cA4, .int)] s := hK
  have hP : va_P (dC, dI) vwCl [(h, .inr (1, [.ref q1, .int 0, .null, .null, .null, .int 0, .null])), (q1, .inl (cA2, 6, .inr (.inr (.inr (.inr (fun _ => none)))))), (q3, .inl (cA4, 3, .inl (fun _ => 0)))] H := hP
  have hD : va_D A [(h, .inr (1, [.ref q1, .int 0, .null, .null, .null, .int 0, .null])), (q1, .inl (cA2, 6, .inr (.inr (.inr (.inr (fun _ => none)))))), (q3, .inl (cA4, 3, .inl (fun _ => 0)))] := hD
  refine va_putF (D := (dC, dI)) (ci := 1) (v := .ref q3) (ty := .array .int) (C := RX1) (T := TX1) (N := 7) hx hb hts (by decide +kernel) tyX1 tyX1_ok nmX1 hown hK hP hD hS 0 rfl rfl 2 (by decide) (hts (.fieldLink RX1 15 "ThatchRoof" "barn" "[I") (by decide +kernel)) (fun _ h9 => h9) rfl hin rfl (by decide +kernel) rfl rfl (Nat.le_of_ble_eq_true rfl) dX1_init_17 (fun H locs hP hD hS => ?_)
  have hP : va_P (dC, dI) vwCl [(h, .inr (1, [.ref q1, .int 0, .ref q3, .null, .null, .int 0, .null])), (q1, .inl (cA2, 6, .inr (.inr (.inr (.inr (fun _ => none)))))), (q3, .inl (cA4, 3, .inl (fun _ => 0)))] H := hP
  have hD : va_D A [(h, .inr (1, [.ref q1, .int 0, .ref q3, .null, .null, .int 0, .null])), (q1, .inl (cA2, 6, .inr (.inr (.inr (.inr (fun _ => none)))))), (q3, .inl (cA4, 3, .inl (fun _ => 0)))] := hD
  refine lv_aload_n hx hb dX1_init_20 rfl (lv_at hl 0 rfl) ?_
  refine lv_bipush (v := 12) hx hb dX1_init_21 (by decide) ?_
  refine va_newa (atype := .int) (ty := .int) (N' := 12) (a0 := (12, .inl (fun _ => 0))) hx hb (hts (.arrayClass .int) (by decide +kernel)) rfl hK hP hD hS hA (fun _ => rfl) (by decide) (by decide) (by decide) (Nat.le_of_ble_eq_true rfl) (Nat.le_of_ble_eq_true rfl) dX1_init_23 (fun q5 cA6 H hK hP hD hS => ?_)
  refine W.widen (k := 3) (n := 21) (Nat.le_of_ble_eq_true rfl) (Nat.le_of_ble_eq_true rfl) ?_
  have hK : va_K (dC, dI) vwCl [(cA2, .object RX0), (cA4, .int), (cA6, .int)] s := hK
  have hP : va_P (dC, dI) vwCl [(h, .inr (1, [.ref q1, .int 0, .ref q3, .null, .null, .int 0, .null])), (q1, .inl (cA2, 6, .inr (.inr (.inr (.inr (fun _ => none)))))), (q3, .inl (cA4, 3, .inl (fun _ => 0))), (q5, .inl (cA6, 12, .inl (fun _ => 0)))] H := hP
  have hD : va_D A [(h, .inr (1, [.ref q1, .int 0, .ref q3, .null, .null, .int 0, .null])), (q1, .inl (cA2, 6, .inr (.inr (.inr (.inr (fun _ => none)))))), (q3, .inl (cA4, 3, .inl (fun _ => 0))), (q5, .inl (cA6, 12, .inl (fun _ => 0)))] := hD
  refine va_putF (D := (dC, dI)) (ci := 1) (v := .ref q5) (ty := .array .int) (C := RX1) (T := TX1) (N := 7) hx hb hts (by decide +kernel) tyX1 tyX1_ok nmX1 hown hK hP hD hS 0 rfl rfl 3 (by decide) (hts (.fieldLink RX1 19 "ThatchRoof" "rains" "[I") (by decide +kernel)) (fun _ h9 => h9) rfl hin rfl (by decide +kernel) rfl rfl (Nat.le_of_ble_eq_true rfl) dX1_init_25 (fun H locs hP hD hS => ?_)
  have hP : va_P (dC, dI) vwCl [(h, .inr (1, [.ref q1, .int 0, .ref q3, .ref q5, .null, .int 0, .null])), (q1, .inl (cA2, 6, .inr (.inr (.inr (.inr (fun _ => none)))))), (q3, .inl (cA4, 3, .inl (fun _ => 0))), (q5, .inl (cA6, 12, .inl (fun _ => 0)))] H := hP
  have hD : va_D A [(h, .inr (1, [.ref q1, .int 0, .ref q3, .ref q5, .null, .int 0, .null])), (q1, .inl (cA2, 6, .inr (.inr (.inr (.inr (fun _ => none)))))), (q3, .inl (cA4, 3, .inl (fun _ => 0))), (q5, .inl (cA6, 12, .inl (fun _ => 0)))] := hD
  refine lv_aload_n hx hb dX1_init_28 rfl (lv_at hl 0 rfl) ?_
  refine lv_bipush (v := 12) hx hb dX1_init_29 (by decide) ?_
  refine va_newa (atype := .int) (ty := .int) (N' := 12) (a0 := (12, .inl (fun _ => 0))) hx hb (hts (.arrayClass .int) (by decide +kernel)) rfl hK hP hD hS hA (fun _ => rfl) (by decide) (by decide) (by decide) (Nat.le_of_ble_eq_true rfl) (Nat.le_of_ble_eq_true rfl) dX1_init_31 (fun q7 cA8 H hK hP hD hS => ?_)
  refine W.widen (k := 4) (n := 33) (Nat.le_of_ble_eq_true rfl) (Nat.le_of_ble_eq_true rfl) ?_
  have hK : va_K (dC, dI) vwCl [(cA2, .object RX0), (cA4, .int), (cA6, .int), (cA8, .int)] s := hK
  have hP : va_P (dC, dI) vwCl [(h, .inr (1, [.ref q1, .int 0, .ref q3, .ref q5, .null, .int 0, .null])), (q1, .inl (cA2, 6, .inr (.inr (.inr (.inr (fun _ => none)))))), (q3, .inl (cA4, 3, .inl (fun _ => 0))), (q5, .inl (cA6, 12, .inl (fun _ => 0))), (q7, .inl (cA8, 12, .inl (fun _ => 0)))] H := hP
  have hD : va_D A [(h, .inr (1, [.ref q1, .int 0, .ref q3, .ref q5, .null, .int 0, .null])), (q1, .inl (cA2, 6, .inr (.inr (.inr (.inr (fun _ => none)))))), (q3, .inl (cA4, 3, .inl (fun _ => 0))), (q5, .inl (cA6, 12, .inl (fun _ => 0))), (q7, .inl (cA8, 12, .inl (fun _ => 0)))] := hD
  refine va_putF (D := (dC, dI)) (ci := 1) (v := .ref q7) (ty := .array .int) (C := RX1) (T := TX1) (N := 7) hx hb hts (by decide +kernel) tyX1 tyX1_ok nmX1 hown hK hP hD hS 0 rfl rfl 4 (by decide) (hts (.fieldLink RX1 22 "ThatchRoof" "storms" "[I") (by decide +kernel)) (fun _ h9 => h9) rfl hin rfl (by decide +kernel) rfl rfl (Nat.le_of_ble_eq_true rfl) dX1_init_33 (fun H locs hP hD hS => ?_)
  have hP : va_P (dC, dI) vwCl [(h, .inr (1, [.ref q1, .int 0, .ref q3, .ref q5, .ref q7, .int 0, .null])), (q1, .inl (cA2, 6, .inr (.inr (.inr (.inr (fun _ => none)))))), (q3, .inl (cA4, 3, .inl (fun _ => 0))), (q5, .inl (cA6, 12, .inl (fun _ => 0))), (q7, .inl (cA8, 12, .inl (fun _ => 0)))] H := hP
  have hD : va_D A [(h, .inr (1, [.ref q1, .int 0, .ref q3, .ref q5, .ref q7, .int 0, .null])), (q1, .inl (cA2, 6, .inr (.inr (.inr (.inr (fun _ => none)))))), (q3, .inl (cA4, 3, .inl (fun _ => 0))), (q5, .inl (cA6, 12, .inl (fun _ => 0))), (q7, .inl (cA8, 12, .inl (fun _ => 0)))] := hD
  refine lv_aload_n hx hb dX1_init_36 rfl (lv_at hl 0 rfl) ?_
  refine va_new (ci := 0) (fs := [.int 0, .int 0, .int 0, .int 0, .int 0, .int 0, .null, .null, .null, .null]) (C := RX0) (T := TX0) (N := 10) hx hb hts (by decide +kernel) tyX0 tyX0_ok hown (hts (.classLink RX1 9 RX0) (by decide +kernel)) (hts (.instantiable RX0 10) (by decide +kernel)) (hts (.initialized RX0) (by decide +kernel)) hK hP hD hS hA rfl (fun j hj => by rcases (show j = 0 ∨ j = 1 ∨ j = 2 ∨ j = 3 ∨ j = 4 ∨ j = 5 ∨ j = 6 ∨ j = 7 ∨ j = 8 ∨ j = 9 by omega) with rfl | rfl | rfl | rfl | rfl | rfl | rfl | rfl | rfl | rfl <;> rfl) (Nat.le_of_ble_eq_true rfl) (Nat.le_of_ble_eq_true rfl) dX1_init_37 (fun q9 H hP hD hS => ?_)
  refine W.widen (k := 5) (n := 43) (Nat.le_of_ble_eq_true rfl) (Nat.le_of_ble_eq_true rfl) ?_
  have hP : va_P (dC, dI) vwCl [(h, .inr (1, [.ref q1, .int 0, .ref q3, .ref q5, .ref q7, .int 0, .null])), (q1, .inl (cA2, 6, .inr (.inr (.inr (.inr (fun _ => none)))))), (q3, .inl (cA4, 3, .inl (fun _ => 0))), (q5, .inl (cA6, 12, .inl (fun _ => 0))), (q7, .inl (cA8, 12, .inl (fun _ => 0))), (q9, .inr (0, [.int 0, .int 0, .int 0, .int 0, .int 0, .int 0, .null, .null, .null, .null]))] H := hP
  have hD : va_D A [(h, .inr (1, [.ref q1, .int 0, .ref q3, .ref q5, .ref q7, .int 0, .null])), (q1, .inl (cA2, 6, .inr (.inr (.inr (.inr (fun _ => none)))))), (q3, .inl (cA4, 3, .inl (fun _ => 0))), (q5, .inl (cA6, 12, .inl (fun _ => 0))), (q7, .inl (cA8, 12, .inl (fun _ => 0))), (q9, .inr (0, [.int 0, .int 0, .int 0, .int 0, .int 0, .int 0, .null, .null, .null, .null]))] := hD
  refine lv_dup hx hb dX1_init_40 rfl ?_
  refine lv_iconst (v := 2) hx hb dX1_init_41 (by decide) ?_
  refine lv_iconst (v := 2) hx hb dX1_init_42 (by decide) ?_
  refine lv_bipush (v := 30) hx hb dX1_init_43 (by decide) ?_
  have hPc := hP.sub (ws' := [(q9, .inr (0, [.int 0, .int 0, .int 0, .int 0, .int 0, .int 0, .null, .null, .null, .null]))]) [5] rfl
  have hKc := hK.sub (tys' := []) [] rfl
  have hDc := hD.sub (ws' := [(q9, .inr (0, [.int 0, .int 0, .int 0, .int 0, .int 0, .int 0, .null, .null, .null, .null]))]) [5] (by decide) rfl
  have hFc := va_free (wc := [(q9, .inr (0, [.int 0, .int 0, .int 0, .int 0, .int 0, .int 0, .null, .null, .null, .null]))]) hD hS hA [5] rfl
  refine va_callv (va_runI (As := [.int 2, .int 2, .int 30]) (rest := [.ref q9, .ref h]) ⟨hx, hb, hml, hown, hts⟩ (k0_init l dC dI H.size q9 2 2 30 ) (cwI 3 hts gX1_init_X0_init rfl rfl rfl (hts (.initialized RX0) (by decide +kernel)) (hts (.methodLink RX1 25 yX0_init) (by decide +kernel)) (hts (.instanceMethod yX0_init) (by decide +kernel)) rfl (by decide +kernel) ⟨Nat.le_of_ble_eq_true rfl, Nat.le_of_ble_eq_true rfl⟩) ⟨fun a U g mk q => by obtain ⟨q0, q1, qP, qK, qD⟩ := q; exact ⟨q0, q1, qP, va_K.moved (u := U) (U := U.calling g mk a) (Vm.Alike.refl U.vm) qK, qD⟩, fun U hU hW => ⟨rfl, by rw [hU], by rw [hU]; exact hPc, va_K.moved hW.alike hKc, hDc.weaken (fun _ _ _ _ => trivial)⟩⟩ rfl rfl hl.1 rfl (lv_room (Nat.le_of_ble_eq_true rfl)) dX1_init_45 ⟨Nat.le_of_ble_eq_true rfl, Nat.le_of_ble_eq_true rfl⟩) hS (fun q _ h => hFc q h) hFc (fun u t H1 locs ht hvm hr10 hB hz1 hk1 hS => ?_)
  obtain ⟨k__11, t__12, p__13, m__14, c1__15, c2__16, c3__17, c4__18⟩ := u
  obtain ⟨hP1, hK1, hD1⟩ := hB
  rw [ht] at hP1
  have hK1 := va_K.moved hvm.symm hK1
  try dsimp only at hr10
  obtain ⟨hP, hD⟩ := va_join (wr := [(h, .inr (1, [.ref q1, .int 0, .ref q3, .ref q5, .ref q7, .int 0, .null])), (q1, .inl (cA2, 6, .inr (.inr (.inr (.inr (fun _ => none)))))), (q3, .inl (cA4, 3, .inl (fun _ => 0))), (q5, .inl (cA6, 12, .inl (fun _ => 0))), (q7, .inl (cA8, 12, .inl (fun _ => 0)))]) (w1 := [(q9, .inr (0, [.int 2, .int 2, .int 30, .int 100, .int 0, .int 0, .ref k__11, .ref t__12, .ref p__13, .ref m__14])), (k__11, .inl (c1__15, 60, .inl (fun _ => 0))), (t__12, .inl (c2__16, 60, .inl (fun _ => 0))), (p__13, .inl (c3__17, 60, .inl (fun _ => 0))), (m__14, .inl (c4__18, 60, .inl (fun _ => 0)))]) hP hD [5] [0, 1, 2, 3, 4] rfl rfl (by decide) (by decide) hk1 hFc hP1 hD1
  have hK := hK.app hK1
  have hK : va_K (dC, dI) vwCl [(cA2, .object RX0), (cA4, .int), (cA6, .int), (cA8, .int), (c1__15, .int), (c2__16, .int), (c3__17, .int), (c4__18, .int)] s := hK
  generalize H1 = H at hP hS ⊢
  have hP : va_P (dC, dI) vwCl [(h, .inr (1, [.ref q1, .int 0, .ref q3, .ref q5, .ref q7, .int 0, .null])), (q1, .inl (cA2, 6, .inr (.inr (.inr (.inr (fun _ => none)))))), (q3, .inl (cA4, 3, .inl (fun _ => 0))), (q5, .inl (cA6, 12, .inl (fun _ => 0))), (q7, .inl (cA8, 12, .inl (fun _ => 0))), (q9, .inr (0, [.int 2, .int 2, .int 30, .int 100, .int 0, .int 0, .ref k__11, .ref t__12, .ref p__13, .ref m__14])), (k__11, .inl (c1__15, 60, .inl (fun _ => 0))), (t__12, .inl (c2__16, 60, .inl (fun _ => 0))), (p__13, .inl (c3__17, 60, .inl (fun _ => 0))), (m__14, .inl (c4__18, 60, .inl (fun _ => 0)))] H := hP
  have hD : va_D A [(h, .inr (1, [.ref q1, .int 0, .ref q3, .ref q5, .ref q7, .int 0, .null])), (q1, .inl (cA2, 6, .inr (.inr (.inr (.inr (fun _ => none)))))), (q3, .inl (cA4, 3, .inl (fun _ => 0))), (q5, .inl (cA6, 12, .inl (fun _ => 0))), (q7, .inl (cA8, 12, .inl (fun _ => 0))), (q9, .inr (0, [.int 2, .int 2, .int 30, .int 100, .int 0, .int 0, .ref k__11, .ref t__12, .ref p__13, .ref m__14])), (k__11, .inl (c1__15, 60, .inl (fun _ => 0))), (t__12, .inl (c2__16, 60, .inl (fun _ => 0))), (p__13, .inl (c3__17, 60, .inl (fun _ => 0))), (m__14, .inl (c4__18, 60, .inl (fun _ => 0)))] := hD
  refine W.widen (k := 9) (n := 283) (Nat.le_of_ble_eq_true rfl) (Nat.le_of_ble_eq_true rfl) ?_
  obtain - := hr10
  refine va_putF (D := (dC, dI)) (ci := 1) (v := .ref q9) (ty := .object "ThatchRoof$Roof") (C := RX1) (T := TX1) (N := 7) hx hb hts (by decide +kernel) tyX1 tyX1_ok nmX1 hown hK hP hD hS 0 rfl rfl 6 (by decide) (hts (.fieldLink RX1 28 "ThatchRoof" "trial" "LThatchRoof$Roof;") (by decide +kernel)) (fun _ h9 => h9) rfl hin rfl (by decide +kernel) rfl rfl (Nat.le_of_ble_eq_true rfl) dX1_init_48 (fun H locs hP hD hS => ?_)
  have hP : va_P (dC, dI) vwCl [(h, .inr (1, [.ref q1, .int 0, .ref q3, .ref q5, .ref q7, .int 0, .ref q9])), (q1, .inl (cA2, 6, .inr (.inr (.inr (.inr (fun _ => none)))))), (q3, .inl (cA4, 3, .inl (fun _ => 0))), (q5, .inl (cA6, 12, .inl (fun _ => 0))), (q7, .inl (cA8, 12, .inl (fun _ => 0))), (q9, .inr (0, [.int 2, .int 2, .int 30, .int 100, .int 0, .int 0, .ref k__11, .ref t__12, .ref p__13, .ref m__14])), (k__11, .inl (c1__15, 60, .inl (fun _ => 0))), (t__12, .inl (c2__16, 60, .inl (fun _ => 0))), (p__13, .inl (c3__17, 60, .inl (fun _ => 0))), (m__14, .inl (c4__18, 60, .inl (fun _ => 0)))] H := hP
  have hD : va_D A [(h, .inr (1, [.ref q1, .int 0, .ref q3, .ref q5, .ref q7, .int 0, .ref q9])), (q1, .inl (cA2, 6, .inr (.inr (.inr (.inr (fun _ => none)))))), (q3, .inl (cA4, 3, .inl (fun _ => 0))), (q5, .inl (cA6, 12, .inl (fun _ => 0))), (q7, .inl (cA8, 12, .inl (fun _ => 0))), (q9, .inr (0, [.int 2, .int 2, .int 30, .int 100, .int 0, .int 0, .ref k__11, .ref t__12, .ref p__13, .ref m__14])), (k__11, .inl (c1__15, 60, .inl (fun _ => 0))), (t__12, .inl (c2__16, 60, .inl (fun _ => 0))), (p__13, .inl (c3__17, 60, .inl (fun _ => 0))), (m__14, .inl (c4__18, 60, .inl (fun _ => 0)))] := hD
  refine lv_iconst (v := 0) hx hb dX1_init_51 (by decide) ?_
  refine lv_istore_n (lv' := [(1, .int 0), (0, .ref h)]) hx hb dX1_init_52 rfl hl (by decide) rfl (fun ls hl => ?_)
  suffices K53 : ∀ (n : Nat) (i : Nat) (f : Nat → Int32), (i ≤ 12) → (∀ j : Nat, j < i → f j = 4) → 12 - i < n → ∀ (H : Heap) (locs : List Loc), va_P (dC, dI) vwCl [(h, .inr (1, [.ref q1, .int 0, .ref q3, .ref q5, .ref q7, .int 0, .ref q9])), (q1, .inl (cA2, 6, .inr (.inr (.inr (.inr (fun _ => none)))))), (q3, .inl (cA4, 3, .inl (fun _ => 0))), (q5, .inl (cA6, 12, .inl f)), (q7, .inl (cA8, 12, .inl (fun _ => 0))), (q9, .inr (0, [.int 2, .int 2, .int 30, .int 100, .int 0, .int 0, .ref k__11, .ref t__12, .ref p__13, .ref m__14])), (k__11, .inl (c1__15, 60, .inl (fun _ => 0))), (t__12, .inl (c2__16, 60, .inl (fun _ => 0))), (p__13, .inl (c3__17, 60, .inl (fun _ => 0))), (m__14, .inl (c4__18, 60, .inl (fun _ => 0)))] H → va_D A [(h, .inr (1, [.ref q1, .int 0, .ref q3, .ref q5, .ref q7, .int 0, .ref q9])), (q1, .inl (cA2, 6, .inr (.inr (.inr (.inr (fun _ => none)))))), (q3, .inl (cA4, 3, .inl (fun _ => 0))), (q5, .inl (cA6, 12, .inl f)), (q7, .inl (cA8, 12, .inl (fun _ => 0))), (q9, .inr (0, [.int 2, .int 2, .int 30, .int 100, .int 0, .int 0, .ref k__11, .ref t__12, .ref p__13, .ref m__14])), (k__11, .inl (c1__15, 60, .inl (fun _ => 0))), (t__12, .inl (c2__16, 60, .inl (fun _ => 0))), (p__13, .inl (c3__17, 60, .inl (fun _ => 0))), (m__14, .inl (c4__18, 60, .inl (fun _ => 0)))] → va_S A s.heap H locs → ∀ ls : Array Slot, lv_has ls 2 [(0, .ref h), (1, .int (nI i))] → W p l e ({ frames := 2, cells := 9, slots := 283, locals := 35 } : Room) s m (([.ref h] : List Value).toArray) below meth c H locs 9 283 (MQ below (va_Qv (fun (u : Nat × Nat × Nat × Nat × Nat × ClassId × ClassId × ClassId × ClassId × (Nat → Int32)) => (∀ j : Nat, j < 12 → u.2.2.2.2.2.2.2.2.2 j = 4)) (fun (u : Nat × Nat × Nat × Nat × Nat × ClassId × ClassId × ClassId × ClassId × (Nat → Int32)) (t : State) => va_P (dC, dI) vwCl [(h, .inr (1, [.ref u.1, .int 0, .ref u.2.1, .ref u.2.2.1, .ref u.2.2.2.1, .int 0, .ref u.2.2.2.2.1])), (u.1, .inl (u.2.2.2.2.2.1, 6, .inr (.inr (.inr (.inr (fun _ => none)))))), (u.2.1, .inl (u.2.2.2.2.2.2.1, 3, .inl (fun _ => 0))), (u.2.2.1, .inl (u.2.2.2.2.2.2.2.1, 12, .inl u.2.2.2.2.2.2.2.2.2)), (u.2.2.2.1, .inl (u.2.2.2.2.2.2.2.2.1, 12, .inl (fun _ => 0)))] t.heap ∧ va_K (dC, dI) vwCl [(u.2.2.2.2.2.1, .object RX0), (u.2.2.2.2.2.2.1, .int), (u.2.2.2.2.2.2.2.1, .int), (u.2.2.2.2.2.2.2.2.1, .int)] t ∧ va_D A [(h, .inr (1, [.ref u.1, .int 0, .ref u.2.1, .ref u.2.2.1, .ref u.2.2.2.1, .int 0, .ref u.2.2.2.2.1])), (u.1, .inl (u.2.2.2.2.2.1, 6, .inr (.inr (.inr (.inr (fun _ => none)))))), (u.2.1, .inl (u.2.2.2.2.2.2.1, 3, .inl (fun _ => 0))), (u.2.2.1, .inl (u.2.2.2.2.2.2.2.1, 12, .inl u.2.2.2.2.2.2.2.2.2)), (u.2.2.2.1, .inl (u.2.2.2.2.2.2.2.2.1, 12, .inl (fun _ => 0)))]) A) (([.ref h] : List Value).toArray) s 9 283 A) (F0 m 53 ls []) from
    K53 _ 0 (fun _ => 0) (by decide) (fun j hj => absurd hj (Nat.not_lt_zero _)) (Nat.lt_succ_self _) _ _ hP hD hS _ (lv_sub hl [1, 0] rfl)
  intro n
  induction n with
  | zero =>
    intro i f hi hf hn
    exact absurd hn (Nat.not_lt_zero _)
  | succ n ih53 =>
    intro i f hi hf hn53 H locs hP hD hS ls hl
    refine lv_iload_n hx hb dX1_init_53 rfl (lv_at hl 1 rfl) ?_
    refine lv_bipush (v := 12) hx hb dX1_init_54 (by decide) ?_
    refine lv_icmp_ge (tgt := 72) hx hb dX1_init_56 (by decide) (fun c19 => ?_) (fun c19 => ?_)
    · have nc19 : 12 ≤ i := (nI_leI (a := 12) (b := i) (by omega) (by omega)).mp c19
      have hP9 := hP.sub (ws' := [(h, .inr (1, [.ref q1, .int 0, .ref q3, .ref q5, .ref q7, .int 0, .ref q9])), (q1, .inl (cA2, 6, .inr (.inr (.inr (.inr (fun _ => none)))))), (q3, .inl (cA4, 3, .inl (fun _ => 0))), (q5, .inl (cA6, 12, .inl f)), (q7, .inl (cA8, 12, .inl (fun _ => 0)))]) [0, 1, 2, 3, 4] rfl
      have hD9 := hD.sub (ws' := [(h, .inr (1, [.ref q1, .int 0, .ref q3, .ref q5, .ref q7, .int 0, .ref q9])), (q1, .inl (cA2, 6, .inr (.inr (.inr (.inr (fun _ => none)))))), (q3, .inl (cA4, 3, .inl (fun _ => 0))), (q5, .inl (cA6, 12, .inl f)), (q7, .inl (cA8, 12, .inl (fun _ => 0)))]) [0, 1, 2, 3, 4] (by decide) rfl
      have hK9 := hK.sub (tys' := [(cA2, .object RX0), (cA4, .int), (cA6, .int), (cA8, .int)]) [0, 1, 2, 3] rfl
      refine W.widen (k := 9) (n := 283) (Nat.le_of_ble_eq_true rfl) (Nat.le_of_ble_eq_true rfl) ?_
      exact W.vret hx hb hr (fun t ht hW => ⟨⟨(q1, q3, q5, q7, q9, cA2, cA4, cA6, cA8, f), rfl, fun j hj => hf j (by omega), ⟨by rw [ht]; exact hP9, va_K.moved hW.alike hK9, hD9⟩⟩, hS.F ht⟩) hS.2.2 dX1_init_72
    · have nc19 : i < 12 := Nat.lt_of_not_le (fun q => c19 ((nI_leI (a := 12) (b := i) (by omega) (by omega)).mpr q))
      refine lv_aload_n hx hb dX1_init_59 rfl (lv_at hl 0 rfl) ?_
      refine va_get (D := (dC, dI)) (ci := 1) (v := .ref q5) (C := RX1) (T := TX1) (N := 7) hx hb hts (by decide +kernel) hown hK hP 0 rfl rfl 3 (by decide) (hts (.fieldLink RX1 19 "ThatchRoof" "rains" "[I") (by decide +kernel)) (fun _ h9 => h9) rfl dX1_init_60 ?_
      refine lv_iload_n hx hb dX1_init_63 rfl (lv_at hl 1 rfl) ?_
      refine lv_iconst (v := 4) hx hb dX1_init_64 (by decide) ?_
      refine va_iast hx hb hK hP hD hS 3 2 rfl rfl (vp_in_nI (by omega) (by omega)) dX1_init_65 (fun H locs hP hD hS => ?_)
      rw [nI_clamp (show i < 2 ^ 31 by omega)] at hP hD
      have hP : va_P (dC, dI) vwCl [(h, .inr (1, [.ref q1, .int 0, .ref q3, .ref q5, .ref q7, .int 0, .ref q9])), (q1, .inl (cA2, 6, .inr (.inr (.inr (.inr (fun _ => none)))))), (q3, .inl (cA4, 3, .inl (fun _ => 0))), (q5, .inl (cA6, 12, .inl (upd f i 4))), (q7, .inl (cA8, 12, .inl (fun _ => 0))), (q9, .inr (0, [.int 2, .int 2, .int 30, .int 100, .int 0, .int 0, .ref k__11, .ref t__12, .ref p__13, .ref m__14])), (k__11, .inl (c1__15, 60, .inl (fun _ => 0))), (t__12, .inl (c2__16, 60, .inl (fun _ => 0))), (p__13, .inl (c3__17, 60, .inl (fun _ => 0))), (m__14, .inl (c4__18, 60, .inl (fun _ => 0)))] H := hP
      have hD : va_D A [(h, .inr (1, [.ref q1, .int 0, .ref q3, .ref q5, .ref q7, .int 0, .ref q9])), (q1, .inl (cA2, 6, .inr (.inr (.inr (.inr (fun _ => none)))))), (q3, .inl (cA4, 3, .inl (fun _ => 0))), (q5, .inl (cA6, 12, .inl (upd f i 4))), (q7, .inl (cA8, 12, .inl (fun _ => 0))), (q9, .inr (0, [.int 2, .int 2, .int 30, .int 100, .int 0, .int 0, .ref k__11, .ref t__12, .ref p__13, .ref m__14])), (k__11, .inl (c1__15, 60, .inl (fun _ => 0))), (t__12, .inl (c2__16, 60, .inl (fun _ => 0))), (p__13, .inl (c3__17, 60, .inl (fun _ => 0))), (m__14, .inl (c4__18, 60, .inl (fun _ => 0)))] := hD
      refine lv_iinc (v := nI (i + 1)) (lv' := [(1, .int (nI (i + 1))), (0, .ref h)]) hx hb dX1_init_66 hl (k := 1) rfl (by exact nI_1 i) (by decide) rfl (fun ls hl => ?_)
      refine lv_goto (tgt := 53) hx hb dX1_init_69 (by decide) ?_
      exact ih53 (i + 1) (upd f i 4) (by omega) (fun j hj => by by_cases hji : j = i <;> first | (subst hji; exact pk_us) | (rw [pk_un hji]; exact hf j (by omega))) (by omega) _ _ (hP.sub [0, 1, 2, 3, 4, 5, 6, 7, 8, 9] rfl) (hD.sub [0, 1, 2, 3, 4, 5, 6, 7, 8, 9] (by decide) rfl) hS _ (lv_sub hl [1, 0] rfl)

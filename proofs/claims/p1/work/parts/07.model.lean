set_option maxHeartbeats 4000000 in
set_option maxRecDepth 100000 in
theorem k3_isIn (l : Launch) (dC : Nat → ClassId) (dI : Nat → Nat → Nat) (x : Int32) (lo : Int32) (hi : Int32) : Met l yX3_isIn wsX3_isIn ({ frames := 0, cells := 0, slots := 0, locals := 0 }) (va_Pc [.int x, .int lo, .int hi] (fun _ => True)) (vp_Si (fun r : Int32 => (r = 1 ∧ zIn x lo hi) ∨ (r = 0 ∧ ¬ zIn x lo hi))) 0 0 (fun _ => False) := by
  refine Met.ofW (cc := cX3_isIn) (maxL := 3) (ret := (some .boolean)) (by decide) rfl ?_
  intro p e s m args below meth c s₁ B hml hv
  obtain ⟨rfl, -⟩ := hv
  have hx := B.exec
  have hb := B.bytes
  have hr := B.returns
  have hts := atoms_spec (ws := wsX3_isIn) B.pre
  have hown : s.vm.findClass RX3 = some m.cls := findClass_of_methodNamed B.named
  have hlocks := B.notSynchronized
  have hl := lv_entry ([.int x, .int lo, .int hi]) (n := 3) (Nat.le_of_ble_eq_true rfl)
  rw [lg_entry_eq]
  generalize (lg_sl ([.int x, .int lo, .int hi]) ++ List.replicate (3 - (lg_sl ([.int x, .int lo, .int hi])).length) Slot.unset).toArray = ls at hl ⊢
  have hl : lv_has ls 3 [(0, .int x), (1, .int lo), (2, .int hi)] := hl
  refine lv_iload_n hx hb dX3_isIn_0 rfl (lv_at hl 0 rfl) ?_
  refine lv_iload_n hx hb dX3_isIn_1 rfl (lv_at hl 1 rfl) ?_
  refine lv_icmp_lt (tgt := 14) hx hb dX3_isIn_2 (by decide) (fun c1 => ?_) (fun c1 => ?_)
  · refine lv_iconst (v := 0) hx hb dX3_isIn_14 (by decide) ?_
    exact W.zret (v := 0) hx hb hr (by decide) (fun t ht hW => ⟨0, rfl, by first | (refine Or.inl ?_; (refine ⟨?_, ?_⟩ <;> (first | rfl | (unfold zIn; grind))); done) | (refine Or.inr ?_; (refine ⟨?_, ?_⟩ <;> (first | rfl | (unfold zIn; grind))); done), ht⟩) (fun _ h => nomatch h) dX3_isIn_15
  · refine lv_iload_n hx hb dX3_isIn_5 rfl (lv_at hl 0 rfl) ?_
    refine lv_iload_n hx hb dX3_isIn_6 rfl (lv_at hl 2 rfl) ?_
    refine lv_icmp_gt (tgt := 14) hx hb dX3_isIn_7 (by decide) (fun c2 => ?_) (fun c2 => ?_)
    · refine lv_iconst (v := 0) hx hb dX3_isIn_14 (by decide) ?_
      exact W.zret (v := 0) hx hb hr (by decide) (fun t ht hW => ⟨0, rfl, by first | (refine Or.inl ?_; (refine ⟨?_, ?_⟩ <;> (first | rfl | (unfold zIn; grind))); done) | (refine Or.inr ?_; (refine ⟨?_, ?_⟩ <;> (first | rfl | (unfold zIn; grind))); done), ht⟩) (fun _ h => nomatch h) dX3_isIn_15
    · refine lv_iconst (v := 1) hx hb dX3_isIn_10 (by decide) ?_
      refine lv_goto (tgt := 15) hx hb dX3_isIn_11 (by decide) ?_
      exact W.zret (v := 1) hx hb hr (by decide) (fun t ht hW => ⟨1, rfl, by first | (refine Or.inl ?_; (refine ⟨?_, ?_⟩ <;> (first | rfl | (unfold zIn; grind))); done) | (refine Or.inr ?_; (refine ⟨?_, ?_⟩ <;> (first | rfl | (unfold zIn; grind))); done), ht⟩) (fun _ h => nomatch h) dX3_isIn_15

set_option maxHeartbeats 4000000 in
set_option maxRecDepth 100000 in
theorem k3_thrown (l : Launch) (dC : Nat → ClassId) (dI : Nat → Nat → Nat) (hm : Nat) (wi : Nat) (co : Nat) (sl : Nat) (rn : Nat) (so : Nat) (bn : Nat) (sm : Nat) (ah : Nat) (th : Int32) (rf : Int32) : Met l yX3_thrown wsX3_thrown ({ frames := 0, cells := 0, slots := 0, locals := 0 }) (va_Pc [.ref hm] (fun U => va_P (dC, dI) vwCl [(hm, .inr (3, [.int th, .int rf, .ref wi, .ref co, .ref sl, .ref rn, .ref so, .ref bn, .ref sm, .ref ah]))] U.heap ∧ va_K (dC, dI) vwCl [] U)) (vp_Si (fun r : Int32 => r = th)) 0 0 (fun _ => False) := by
  refine Met.ofW (cc := cX3_thrown) (maxL := 1) (ret := (some .int)) (by decide) rfl ?_
  intro p e s m args below meth c s₁ B hml hv
  obtain ⟨rfl, hP, hK⟩ := hv
  have hx := B.exec
  have hb := B.bytes
  have hr := B.returns
  have hts := atoms_spec (ws := wsX3_thrown) B.pre
  have hown : s.vm.findClass RX3 = some m.cls := findClass_of_methodNamed B.named
  have hlocks := B.notSynchronized
  have hP : va_P (dC, dI) vwCl [(hm, .inr (3, [.int th, .int rf, .ref wi, .ref co, .ref sl, .ref rn, .ref so, .ref bn, .ref sm, .ref ah]))] s.heap := hP
  have hl := lv_entry ([.ref hm]) (n := 1) (Nat.le_of_ble_eq_true rfl)
  rw [lg_entry_eq]
  generalize (lg_sl ([.ref hm]) ++ List.replicate (1 - (lg_sl ([.ref hm])).length) Slot.unset).toArray = ls at hl ⊢
  have hl : lv_has ls 1 [(0, .ref hm)] := hl
  refine lv_aload_n hx hb dX3_thrown_0 rfl (lv_at hl 0 rfl) ?_
  refine va_get (D := (dC, dI)) (ci := 3) (v := .int th) (C := RX3) (T := TX3) (N := 10) hx hb hts (by decide +kernel) hown hK hP 0 rfl rfl 0 (by decide) (hts (.fieldLink RX3 40 "ThatchRoofModel" "thrown" "I") (by decide +kernel)) (fun _ h9 => h9) rfl dX3_thrown_1 ?_
  exact W.iret (v := th) hx hb hr (fun t ht hW => ⟨th, rfl, by (first | rfl | assumption | decide | (simp_all; done) | grind), ht⟩) (fun _ h => nomatch h) dX3_thrown_4

set_option maxHeartbeats 4000000 in
set_option maxRecDepth 100000 in
theorem k3_no (l : Launch) (dC : Nat → ClassId) (dI : Nat → Nat → Nat) (sz : Nat) (hm : Nat) (wi : Nat) (co : Nat) (sl : Nat) (rn : Nat) (so : Nat) (bn : Nat) (sm : Nat) (ah : Nat) (th : Int32) (rf : Int32) (k : Int32) : Met l yX3_no wsX3_no ({ frames := 0, cells := 0, slots := 0, locals := 0 }) (va_Pc [.ref hm, .int k] (fun U => U.heap.size = sz ∧ va_P (dC, dI) vwCl [(hm, .inr (3, [.int th, .int rf, .ref wi, .ref co, .ref sl, .ref rn, .ref so, .ref bn, .ref sm, .ref ah]))] U.heap ∧ va_K (dC, dI) vwCl [] U ∧ va_D (fun _ => True) [(hm, .inr (3, [.int th, .int rf, .ref wi, .ref co, .ref sl, .ref rn, .ref so, .ref bn, .ref sm, .ref ah]))])) (va_Qi (fun (r : Int32) (u : Unit) => r = 0) (fun (u : Unit) (t : State) => va_P (dC, dI) vwCl [(hm, .inr (3, [.int k, .int rf, .ref wi, .ref co, .ref sl, .ref rn, .ref so, .ref bn, .ref sm, .ref ah]))] t.heap ∧ va_K (dC, dI) vwCl [] t ∧ va_D (va_A [(hm, .inr (3, [.int th, .int rf, .ref wi, .ref co, .ref sl, .ref rn, .ref so, .ref bn, .ref sm, .ref ah]))] sz) [(hm, .inr (3, [.int k, .int rf, .ref wi, .ref co, .ref sl, .ref rn, .ref so, .ref bn, .ref sm, .ref ah]))]) (va_A [(hm, .inr (3, [.int th, .int rf, .ref wi, .ref co, .ref sl, .ref rn, .ref so, .ref bn, .ref sm, .ref ah]))] sz)) 0 0 (va_A [(hm, .inr (3, [.int th, .int rf, .ref wi, .ref co, .ref sl, .ref rn, .ref so, .ref bn, .ref sm, .ref ah]))] sz) := by
  refine Met.ofW (cc := cX3_no) (maxL := 2) (ret := (some .int)) (by decide) rfl ?_
  intro p e s m args below meth c s₁ B hml hv
  obtain ⟨rfl, hsz, hP, hK, hD0⟩ := hv
  have hx := B.exec
  have hb := B.bytes
  have hr := B.returns
  have hts := atoms_spec (ws := wsX3_no) B.pre
  have hown : s.vm.findClass RX3 = some m.cls := findClass_of_methodNamed B.named
  have hlocks := B.notSynchronized
  subst hsz
  have hD := hD0.self (sz := s.heap.size)
  generalize hAe : va_A [(hm, .inr (3, [.int th, .int rf, .ref wi, .ref co, .ref sl, .ref rn, .ref so, .ref bn, .ref sm, .ref ah]))] s.heap.size = A at hD ⊢
  have hA : ∀ q : Nat, s.heap.size ≤ q → A q := fun q h => by rw [← hAe]; exact Or.inr h
  have hS : va_S A s.heap s.heap [] := va_S.rf
  have hP : va_P (dC, dI) vwCl [(hm, .inr (3, [.int th, .int rf, .ref wi, .ref co, .ref sl, .ref rn, .ref so, .ref bn, .ref sm, .ref ah]))] s.heap := hP
  have hl := lv_entry ([.ref hm, .int k]) (n := 2) (Nat.le_of_ble_eq_true rfl)
  rw [lg_entry_eq]
  generalize (lg_sl ([.ref hm, .int k]) ++ List.replicate (2 - (lg_sl ([.ref hm, .int k])).length) Slot.unset).toArray = ls at hl ⊢
  have hl : lv_has ls 2 [(0, .ref hm), (1, .int k)] := hl
  refine lv_aload_n hx hb dX3_no_0 rfl (lv_at hl 0 rfl) ?_
  refine lv_iload_n hx hb dX3_no_1 rfl (lv_at hl 1 rfl) ?_
  refine va_put (D := (dC, dI)) (ci := 3) (v := .int k) (ty := .int) (C := RX3) (T := TX3) (N := 10) hx hb hts (by decide +kernel) tyX3 tyX3_ok nmX3 hown hK hP hD hS 0 rfl rfl 0 (by decide) (hts (.fieldLink RX3 40 "ThatchRoofModel" "thrown" "I") (by decide +kernel)) (fun _ h9 => h9) rfl (by decide +kernel) rfl rfl (Nat.le_of_ble_eq_true rfl) dX3_no_2 (fun H locs hP hD hS => ?_)
  have hP : va_P (dC, dI) vwCl [(hm, .inr (3, [.int k, .int rf, .ref wi, .ref co, .ref sl, .ref rn, .ref so, .ref bn, .ref sm, .ref ah]))] H := hP
  have hD : va_D A [(hm, .inr (3, [.int k, .int rf, .ref wi, .ref co, .ref sl, .ref rn, .ref so, .ref bn, .ref sm, .ref ah]))] := hD
  refine lv_iconst (v := 0) hx hb dX3_no_5 (by decide) ?_
  have hP9 := hP.sub (ws' := [(hm, .inr (3, [.int k, .int rf, .ref wi, .ref co, .ref sl, .ref rn, .ref so, .ref bn, .ref sm, .ref ah]))]) [0] rfl
  have hD9 := hD.sub (ws' := [(hm, .inr (3, [.int k, .int rf, .ref wi, .ref co, .ref sl, .ref rn, .ref so, .ref bn, .ref sm, .ref ah]))]) [0] (by decide) rfl
  have hK9 := hK.sub (tys' := []) [] rfl
  refine W.widen (k := 0) (n := 0) (Nat.le_of_ble_eq_true rfl) (Nat.le_of_ble_eq_true rfl) ?_
  exact W.iret (v := 0) hx hb hr (fun t ht hW => ⟨⟨0, (), rfl, by (first | rfl | assumption | decide | (simp_all; done) | grind), ⟨by rw [ht]; exact hP9, va_K.moved hW.alike hK9, hD9⟩⟩, hS.F ht⟩) hS.2.2 dX3_no_6

set_option maxHeartbeats 4000000 in
set_option maxRecDepth 100000 in
theorem k3_isRoof0 (l : Launch) (dC : Nat → ClassId) (dI : Nat → Nat → Nat) (hm : Nat) (wi : Nat) (co : Nat) (sl : Nat) (rn : Nat) (so : Nat) (bn : Nat) (sm : Nat) (ah : Nat) (th : Int32) (a1 : Int32) : Met l yX3_isRoof wsX3_isRoof ({ frames := 1, cells := 0, slots := 0, locals := 22 }) (va_Pc [.ref hm, .int a1] (fun U => va_P (dC, dI) vwCl [(hm, .inr (3, [.int th, .int 0, .ref wi, .ref co, .ref sl, .ref rn, .ref so, .ref bn, .ref sm, .ref ah]))] U.heap ∧ va_K (dC, dI) vwCl [] U)) (vp_Si (fun r : Int32 => r = 0)) 0 0 (fun _ => False) := by
  refine Met.ofW (cc := cX3_isRoof) (maxL := 2) (ret := (some .boolean)) (by decide) rfl ?_
  intro p e s m args below meth c s₁ B hml hv
  obtain ⟨rfl, hP, hK⟩ := hv
  have hx := B.exec
  have hb := B.bytes
  have hr := B.returns
  have hts := atoms_spec (ws := wsX3_isRoof) B.pre
  have hown : s.vm.findClass RX3 = some m.cls := findClass_of_methodNamed B.named
  have hlocks := B.notSynchronized
  have hP : va_P (dC, dI) vwCl [(hm, .inr (3, [.int th, .int 0, .ref wi, .ref co, .ref sl, .ref rn, .ref so, .ref bn, .ref sm, .ref ah]))] s.heap := hP
  have hl := lv_entry ([.ref hm, .int a1]) (n := 2) (Nat.le_of_ble_eq_true rfl)
  rw [lg_entry_eq]
  generalize (lg_sl ([.ref hm, .int a1]) ++ List.replicate (2 - (lg_sl ([.ref hm, .int a1])).length) Slot.unset).toArray = ls at hl ⊢
  have hl : lv_has ls 2 [(0, .ref hm), (1, .int a1)] := hl
  refine lv_iload_n hx hb dX3_isRoof_0 rfl (lv_at hl 1 rfl) ?_
  refine lv_iconst (v := 0) hx hb dX3_isRoof_1 (by decide) ?_
  refine lv_aload_n hx hb dX3_isRoof_2 rfl (lv_at hl 0 rfl) ?_
  refine va_get (D := (dC, dI)) (ci := 3) (v := .int 0) (C := RX3) (T := TX3) (N := 10) hx hb hts (by decide +kernel) hown hK hP 0 rfl rfl 1 (by decide) (hts (.fieldLink RX3 44 "ThatchRoofModel" "roofs" "I") (by decide +kernel)) (fun _ h9 => h9) rfl dX3_isRoof_3 ?_
  refine lv_iconst (v := 1) hx hb dX3_isRoof_6 (by decide) ?_
  refine lv_isub hx hb dX3_isRoof_7 ?_
  refine W.eq (g2 := F0 m 8 ls [.int (-1), .int 0, .int a1]) rfl ?_
  refine vp_callSi (va_runS (As := [.int a1, .int 0, .int (-1)]) (rest := []) ⟨hx, hb, hml, hown, hts⟩ (k3_isIn l dC dI a1 0 (-1) ) (va_cwS 3 hts gX3_isRoof_X3_isIn rfl rfl rfl (by decide +kernel) ⟨Nat.le_of_ble_eq_true rfl, Nat.le_of_ble_eq_true rfl⟩) ⟨fun a U g mk q => q, fun U hU hW => ⟨rfl, trivial⟩⟩ rfl rfl hl.1 rfl (lv_room (Nat.le_of_ble_eq_true rfl)) dX3_isRoof_8 ⟨Nat.le_of_ble_eq_true rfl, Nat.le_of_ble_eq_true rfl⟩).run (fun r1 hr1 => ?_)
  rcases hr1 with ⟨rfl, fr1_0_0⟩ | ⟨rfl, fr1_1_0⟩
  · exact absurd (by assumption) (zIn_no (x := a1))
  · exact W.zret (v := 0) hx hb hr (by decide) (fun t ht hW => ⟨0, rfl, by (first | rfl | assumption | decide | (simp_all; done) | grind), ht⟩) (fun _ h => nomatch h) dX3_isRoof_11

set_option maxHeartbeats 4000000 in
set_option maxRecDepth 100000 in
theorem k3_isCourse0 (l : Launch) (dC : Nat → ClassId) (dI : Nat → Nat → Nat) (hm : Nat) (wi : Nat) (co : Nat) (sl : Nat) (rn : Nat) (so : Nat) (bn : Nat) (sm : Nat) (ah : Nat) (th : Int32) (a1 : Int32) (a2 : Int32) : Met l yX3_isCourse wsX3_isCourse ({ frames := 2, cells := 0, slots := 0, locals := 43 }) (va_Pc [.ref hm, .int a1, .int a2] (fun U => va_P (dC, dI) vwCl [(hm, .inr (3, [.int th, .int 0, .ref wi, .ref co, .ref sl, .ref rn, .ref so, .ref bn, .ref sm, .ref ah]))] U.heap ∧ va_K (dC, dI) vwCl [] U)) (vp_Si (fun r : Int32 => r = 0)) 0 0 (fun _ => False) := by
  refine Met.ofW (cc := cX3_isCourse) (maxL := 3) (ret := (some .boolean)) (by decide) rfl ?_
  intro p e s m args below meth c s₁ B hml hv
  obtain ⟨rfl, hP, hK⟩ := hv
  have hx := B.exec
  have hb := B.bytes
  have hr := B.returns
  have hts := atoms_spec (ws := wsX3_isCourse) B.pre
  have hown : s.vm.findClass RX3 = some m.cls := findClass_of_methodNamed B.named
  have hlocks := B.notSynchronized
  have hP : va_P (dC, dI) vwCl [(hm, .inr (3, [.int th, .int 0, .ref wi, .ref co, .ref sl, .ref rn, .ref so, .ref bn, .ref sm, .ref ah]))] s.heap := hP
  have hl := lv_entry ([.ref hm, .int a1, .int a2]) (n := 3) (Nat.le_of_ble_eq_true rfl)
  rw [lg_entry_eq]
  generalize (lg_sl ([.ref hm, .int a1, .int a2]) ++ List.replicate (3 - (lg_sl ([.ref hm, .int a1, .int a2])).length) Slot.unset).toArray = ls at hl ⊢
  have hl : lv_has ls 3 [(0, .ref hm), (1, .int a1), (2, .int a2)] := hl
  refine lv_aload_n hx hb dX3_isCourse_0 rfl (lv_at hl 0 rfl) ?_
  refine lv_iload_n hx hb dX3_isCourse_1 rfl (lv_at hl 1 rfl) ?_
  have hPc := hP.sub (ws' := [(hm, .inr (3, [.int th, .int 0, .ref wi, .ref co, .ref sl, .ref rn, .ref so, .ref bn, .ref sm, .ref ah]))]) [0] rfl
  have hKc := hK.sub (tys' := []) [] rfl
  refine vp_callSi (va_runV (As := [.int a1]) (rest := []) ⟨hx, hb, hml, hown, hts⟩ (k3_isRoof0 l dC dI hm wi co sl rn so bn sm ah th a1 ) (cwV 1 hts gX3_isCourse_X3_isRoof rfl rfl rfl (by decide +kernel) ⟨Nat.le_of_ble_eq_true rfl, Nat.le_of_ble_eq_true rfl⟩) ⟨fun a U g mk q => by obtain ⟨q0, qP, qK⟩ := q; exact ⟨q0, qP, va_K.moved (u := U) (U := U.calling g mk a) (Vm.Alike.refl U.vm) qK⟩, va_recv hKc hPc (ci := 3) (q0 := 0) rfl rfl, fun U hU hW => ⟨rfl, by rw [hU]; exact hPc, va_K.moved hW.alike hKc⟩⟩ rfl rfl hl.1 rfl (lv_room (Nat.le_of_ble_eq_true rfl)) dX3_isCourse_2 ⟨Nat.le_of_ble_eq_true rfl, Nat.le_of_ble_eq_true rfl⟩).run (fun r1 hr1 => ?_)
  obtain rfl := hr1
  refine lv_if_eq (tgt := 28) hx hb dX3_isCourse_5 (by decide) (fun c2 => ?_) (fun c2 => absurd c2 (by decide))
  refine lv_iconst (v := 0) hx hb dX3_isCourse_28 (by decide) ?_
  exact W.zret (v := 0) hx hb hr (by decide) (fun t ht hW => ⟨0, rfl, by (first | rfl | assumption | decide | (simp_all; done) | grind), ht⟩) (fun _ h => nomatch h) dX3_isCourse_29

set_option maxHeartbeats 4000000 in
set_option maxRecDepth 100000 in
theorem k3_isPlace0 (l : Launch) (dC : Nat → ClassId) (dI : Nat → Nat → Nat) (hm : Nat) (wi : Nat) (co : Nat) (sl : Nat) (rn : Nat) (so : Nat) (bn : Nat) (sm : Nat) (ah : Nat) (th : Int32) (a1 : Int32) (a2 : Int32) (a3 : Int32) : Met l yX3_isPlace wsX3_isPlace ({ frames := 3, cells := 0, slots := 0, locals := 65 }) (va_Pc [.ref hm, .int a1, .int a2, .int a3] (fun U => va_P (dC, dI) vwCl [(hm, .inr (3, [.int th, .int 0, .ref wi, .ref co, .ref sl, .ref rn, .ref so, .ref bn, .ref sm, .ref ah]))] U.heap ∧ va_K (dC, dI) vwCl [] U)) (vp_Si (fun r : Int32 => r = 0)) 0 0 (fun _ => False) := by
  refine Met.ofW (cc := cX3_isPlace) (maxL := 4) (ret := (some .boolean)) (by decide) rfl ?_
  intro p e s m args below meth c s₁ B hml hv
  obtain ⟨rfl, hP, hK⟩ := hv
  have hx := B.exec
  have hb := B.bytes
  have hr := B.returns
  have hts := atoms_spec (ws := wsX3_isPlace) B.pre
  have hown : s.vm.findClass RX3 = some m.cls := findClass_of_methodNamed B.named
  have hlocks := B.notSynchronized
  have hP : va_P (dC, dI) vwCl [(hm, .inr (3, [.int th, .int 0, .ref wi, .ref co, .ref sl, .ref rn, .ref so, .ref bn, .ref sm, .ref ah]))] s.heap := hP
  have hl := lv_entry ([.ref hm, .int a1, .int a2, .int a3]) (n := 4) (Nat.le_of_ble_eq_true rfl)
  rw [lg_entry_eq]
  generalize (lg_sl ([.ref hm, .int a1, .int a2, .int a3]) ++ List.replicate (4 - (lg_sl ([.ref hm, .int a1, .int a2, .int a3])).length) Slot.unset).toArray = ls at hl ⊢
  have hl : lv_has ls 4 [(0, .ref hm), (1, .int a1), (2, .int a2), (3, .int a3)] := hl
  refine lv_aload_n hx hb dX3_isPlace_0 rfl (lv_at hl 0 rfl) ?_
  refine lv_iload_n hx hb dX3_isPlace_1 rfl (lv_at hl 1 rfl) ?_
  refine lv_iload_n hx hb dX3_isPlace_2 rfl (lv_at hl 2 rfl) ?_
  have hPc := hP.sub (ws' := [(hm, .inr (3, [.int th, .int 0, .ref wi, .ref co, .ref sl, .ref rn, .ref so, .ref bn, .ref sm, .ref ah]))]) [0] rfl
  have hKc := hK.sub (tys' := []) [] rfl
  refine vp_callSi (va_runV (As := [.int a1, .int a2]) (rest := []) ⟨hx, hb, hml, hown, hts⟩ (k3_isCourse0 l dC dI hm wi co sl rn so bn sm ah th a1 a2 ) (cwV 2 hts gX3_isPlace_X3_isCourse rfl rfl rfl (by decide +kernel) ⟨Nat.le_of_ble_eq_true rfl, Nat.le_of_ble_eq_true rfl⟩) ⟨fun a U g mk q => by obtain ⟨q0, qP, qK⟩ := q; exact ⟨q0, qP, va_K.moved (u := U) (U := U.calling g mk a) (Vm.Alike.refl U.vm) qK⟩, va_recv hKc hPc (ci := 3) (q0 := 0) rfl rfl, fun U hU hW => ⟨rfl, by rw [hU]; exact hPc, va_K.moved hW.alike hKc⟩⟩ rfl rfl hl.1 rfl (lv_room (Nat.le_of_ble_eq_true rfl)) dX3_isPlace_3 ⟨Nat.le_of_ble_eq_true rfl, Nat.le_of_ble_eq_true rfl⟩).run (fun r1 hr1 => ?_)
  obtain rfl := hr1
  refine lv_if_eq (tgt := 29) hx hb dX3_isPlace_6 (by decide) (fun c2 => ?_) (fun c2 => absurd c2 (by decide))
  refine lv_iconst (v := 0) hx hb dX3_isPlace_29 (by decide) ?_
  exact W.zret (v := 0) hx hb hr (by decide) (fun t ht hW => ⟨0, rfl, by (first | rfl | assumption | decide | (simp_all; done) | grind), ht⟩) (fun _ h => nomatch h) dX3_isPlace_30

set_option maxHeartbeats 4000000 in
set_option maxRecDepth 100000 in
theorem k3_lay (l : Launch) (dC : Nat → ClassId) (dI : Nat → Nat → Nat) (sz : Nat) (hm : Nat) (wi : Nat) (co : Nat) (sl : Nat) (rn : Nat) (so : Nat) (bn : Nat) (sm : Nat) (ah : Nat) (th : Int32) (a1 : Int32) (a2 : Int32) (a3 : Int32) (a4 : Int32) (a5 : Int32) (a6 : Int32) : Met l yX3_lay wsX3_lay ({ frames := 4, cells := 0, slots := 0, locals := 88 }) (va_Pc [.ref hm, .int a1, .int a2, .int a3, .int a4, .int a5, .int a6] (fun U => U.heap.size = sz ∧ va_P (dC, dI) vwCl [(hm, .inr (3, [.int th, .int 0, .ref wi, .ref co, .ref sl, .ref rn, .ref so, .ref bn, .ref sm, .ref ah]))] U.heap ∧ va_K (dC, dI) vwCl [] U ∧ va_D (fun _ => True) [(hm, .inr (3, [.int th, .int 0, .ref wi, .ref co, .ref sl, .ref rn, .ref so, .ref bn, .ref sm, .ref ah]))])) (va_Qi (fun (r : Int32) (u : Unit) => r = 0) (fun (u : Unit) (t : State) => va_P (dC, dI) vwCl [(hm, .inr (3, [.int 1, .int 0, .ref wi, .ref co, .ref sl, .ref rn, .ref so, .ref bn, .ref sm, .ref ah]))] t.heap ∧ va_K (dC, dI) vwCl [] t ∧ va_D (va_A [(hm, .inr (3, [.int th, .int 0, .ref wi, .ref co, .ref sl, .ref rn, .ref so, .ref bn, .ref sm, .ref ah]))] sz) [(hm, .inr (3, [.int 1, .int 0, .ref wi, .ref co, .ref sl, .ref rn, .ref so, .ref bn, .ref sm, .ref ah]))]) (va_A [(hm, .inr (3, [.int th, .int 0, .ref wi, .ref co, .ref sl, .ref rn, .ref so, .ref bn, .ref sm, .ref ah]))] sz)) 0 0 (va_A [(hm, .inr (3, [.int th, .int 0, .ref wi, .ref co, .ref sl, .ref rn, .ref so, .ref bn, .ref sm, .ref ah]))] sz) := by
  refine Met.ofW (cc := cX3_lay) (maxL := 7) (ret := (some .int)) (by decide) rfl ?_
  intro p e s m args below meth c s₁ B hml hv
  obtain ⟨rfl, hsz, hP, hK, hD0⟩ := hv
  have hx := B.exec
  have hb := B.bytes
  have hr := B.returns
  have hts := atoms_spec (ws := wsX3_lay) B.pre
  have hown : s.vm.findClass RX3 = some m.cls := findClass_of_methodNamed B.named
  have hlocks := B.notSynchronized
  subst hsz
  have hD := hD0.self (sz := s.heap.size)
  generalize hAe : va_A [(hm, .inr (3, [.int th, .int 0, .ref wi, .ref co, .ref sl, .ref rn, .ref so, .ref bn, .ref sm, .ref ah]))] s.heap.size = A at hD ⊢
  have hA : ∀ q : Nat, s.heap.size ≤ q → A q := fun q h => by rw [← hAe]; exact Or.inr h
  have hS : va_S A s.heap s.heap [] := va_S.rf
  have hP : va_P (dC, dI) vwCl [(hm, .inr (3, [.int th, .int 0, .ref wi, .ref co, .ref sl, .ref rn, .ref so, .ref bn, .ref sm, .ref ah]))] s.heap := hP
  have hl := lv_entry ([.ref hm, .int a1, .int a2, .int a3, .int a4, .int a5, .int a6]) (n := 7) (Nat.le_of_ble_eq_true rfl)
  rw [lg_entry_eq]
  generalize (lg_sl ([.ref hm, .int a1, .int a2, .int a3, .int a4, .int a5, .int a6]) ++ List.replicate (7 - (lg_sl ([.ref hm, .int a1, .int a2, .int a3, .int a4, .int a5, .int a6])).length) Slot.unset).toArray = ls at hl ⊢
  have hl : lv_has ls 7 [(0, .ref hm), (1, .int a1), (2, .int a2), (3, .int a3), (4, .int a4), (5, .int a5), (6, .int a6)] := hl
  refine lv_aload_n hx hb dX3_lay_0 rfl (lv_at hl 0 rfl) ?_
  refine lv_iconst (v := 0) hx hb dX3_lay_1 (by decide) ?_
  refine va_put (D := (dC, dI)) (ci := 3) (v := .int 0) (ty := .int) (C := RX3) (T := TX3) (N := 10) hx hb hts (by decide +kernel) tyX3 tyX3_ok nmX3 hown hK hP hD hS 0 rfl rfl 0 (by decide) (hts (.fieldLink RX3 40 "ThatchRoofModel" "thrown" "I") (by decide +kernel)) (fun _ h9 => h9) rfl (by decide +kernel) rfl rfl (Nat.le_of_ble_eq_true rfl) dX3_lay_2 (fun H locs hP hD hS => ?_)
  have hP : va_P (dC, dI) vwCl [(hm, .inr (3, [.int 0, .int 0, .ref wi, .ref co, .ref sl, .ref rn, .ref so, .ref bn, .ref sm, .ref ah]))] H := hP
  have hD : va_D A [(hm, .inr (3, [.int 0, .int 0, .ref wi, .ref co, .ref sl, .ref rn, .ref so, .ref bn, .ref sm, .ref ah]))] := hD
  refine lv_aload_n hx hb dX3_lay_5 rfl (lv_at hl 0 rfl) ?_
  refine lv_iload_n hx hb dX3_lay_6 rfl (lv_at hl 1 rfl) ?_
  refine lv_iload_n hx hb dX3_lay_7 rfl (lv_at hl 2 rfl) ?_
  refine lv_iload_n hx hb dX3_lay_8 rfl (lv_at hl 3 rfl) ?_
  have hPc := hP.sub (ws' := [(hm, .inr (3, [.int 0, .int 0, .ref wi, .ref co, .ref sl, .ref rn, .ref so, .ref bn, .ref sm, .ref ah]))]) [0] rfl
  have hKc := hK.sub (tys' := []) [] rfl
  refine vp_callSi (va_runV (As := [.int a1, .int a2, .int a3]) (rest := []) ⟨hx, hb, hml, hown, hts⟩ (k3_isPlace0 l dC dI hm wi co sl rn so bn sm ah 0 a1 a2 a3 ) (cwV 3 hts gX3_lay_X3_isPlace rfl rfl rfl (by decide +kernel) ⟨Nat.le_of_ble_eq_true rfl, Nat.le_of_ble_eq_true rfl⟩) ⟨fun a U g mk q => by obtain ⟨q0, qP, qK⟩ := q; exact ⟨q0, qP, va_K.moved (u := U) (U := U.calling g mk a) (Vm.Alike.refl U.vm) qK⟩, va_recv hKc hPc (ci := 3) (q0 := 0) rfl rfl, fun U hU hW => ⟨rfl, by rw [hU]; exact hPc, va_K.moved hW.alike hKc⟩⟩ rfl rfl hl.1 rfl (lv_room (Nat.le_of_ble_eq_true rfl)) dX3_lay_9 ⟨Nat.le_of_ble_eq_true rfl, Nat.le_of_ble_eq_true rfl⟩).run (fun r1 hr1 => ?_)
  obtain rfl := hr1
  refine lv_if_eq (tgt := 25) hx hb dX3_lay_12 (by decide) (fun c2 => ?_) (fun c2 => absurd c2 (by decide))
  refine lv_aload_n hx hb dX3_lay_25 rfl (lv_at hl 0 rfl) ?_
  refine lv_iconst (v := 1) hx hb dX3_lay_26 (by decide) ?_
  have hPc := hP.sub (ws' := [(hm, .inr (3, [.int 0, .int 0, .ref wi, .ref co, .ref sl, .ref rn, .ref so, .ref bn, .ref sm, .ref ah]))]) [0] rfl
  have hKc := hK.sub (tys' := []) [] rfl
  have hDc := hD.sub (ws' := [(hm, .inr (3, [.int 0, .int 0, .ref wi, .ref co, .ref sl, .ref rn, .ref so, .ref bn, .ref sm, .ref ah]))]) [0] (by decide) rfl
  have hFc := va_free (wc := [(hm, .inr (3, [.int 0, .int 0, .ref wi, .ref co, .ref sl, .ref rn, .ref so, .ref bn, .ref sm, .ref ah]))]) hD hS hA [0] rfl
  refine va_calli (va_runV (As := [.int 1]) (rest := []) ⟨hx, hb, hml, hown, hts⟩ (k3_no l dC dI H.size hm wi co sl rn so bn sm ah 0 0 1 ) (cwV 1 hts gX3_lay_X3_no rfl rfl rfl (by decide +kernel) ⟨Nat.le_of_ble_eq_true rfl, Nat.le_of_ble_eq_true rfl⟩) ⟨fun a U g mk q => by obtain ⟨q0, q1, qP, qK, qD⟩ := q; exact ⟨q0, q1, qP, va_K.moved (u := U) (U := U.calling g mk a) (Vm.Alike.refl U.vm) qK, qD⟩, va_recv hKc hPc (ci := 3) (q0 := 0) rfl rfl, fun U hU hW => ⟨rfl, by rw [hU], by rw [hU]; exact hPc, va_K.moved hW.alike hKc, hDc.weaken (fun _ _ _ _ => trivial)⟩⟩ rfl rfl hl.1 rfl (lv_room (Nat.le_of_ble_eq_true rfl)) dX3_lay_27 ⟨Nat.le_of_ble_eq_true rfl, Nat.le_of_ble_eq_true rfl⟩) hS (fun q _ h => hFc q h) hFc (fun r3 u t H1 locs ht hvm hr3 hB hz1 hk1 hS => ?_)
  obtain ⟨hP1, hK1, hD1⟩ := hB
  rw [ht] at hP1
  have hK1 := va_K.moved hvm.symm hK1
  try dsimp only at hr3
  obtain ⟨hP, hD⟩ := va_join (wr := []) (w1 := [(hm, .inr (3, [.int 1, .int 0, .ref wi, .ref co, .ref sl, .ref rn, .ref so, .ref bn, .ref sm, .ref ah]))]) hP hD [0] [] rfl rfl (by decide) (by decide) hk1 hFc hP1 hD1
  generalize H1 = H at hP hS ⊢
  have hP : va_P (dC, dI) vwCl [(hm, .inr (3, [.int 1, .int 0, .ref wi, .ref co, .ref sl, .ref rn, .ref so, .ref bn, .ref sm, .ref ah]))] H := hP
  have hD : va_D A [(hm, .inr (3, [.int 1, .int 0, .ref wi, .ref co, .ref sl, .ref rn, .ref so, .ref bn, .ref sm, .ref ah]))] := hD
  obtain rfl := hr3
  have hP9 := hP.sub (ws' := [(hm, .inr (3, [.int 1, .int 0, .ref wi, .ref co, .ref sl, .ref rn, .ref so, .ref bn, .ref sm, .ref ah]))]) [0] rfl
  have hD9 := hD.sub (ws' := [(hm, .inr (3, [.int 1, .int 0, .ref wi, .ref co, .ref sl, .ref rn, .ref so, .ref bn, .ref sm, .ref ah]))]) [0] (by decide) rfl
  have hK9 := hK.sub (tys' := []) [] rfl
  refine W.widen (k := 0) (n := 0) (Nat.le_of_ble_eq_true rfl) (Nat.le_of_ble_eq_true rfl) ?_
  exact W.iret (v := 0) hx hb hr (fun t ht hW => ⟨⟨0, (), rfl, by (first | rfl | assumption | decide | (simp_all; done) | grind), ⟨by rw [ht]; exact hP9, va_K.moved hW.alike hK9, hD9⟩⟩, hS.F ht⟩) hS.2.2 dX3_lay_30

set_option maxHeartbeats 4000000 in
set_option maxRecDepth 100000 in
theorem k3_layCourse (l : Launch) (dC : Nat → ClassId) (dI : Nat → Nat → Nat) (sz : Nat) (hm : Nat) (wi : Nat) (co : Nat) (sl : Nat) (rn : Nat) (so : Nat) (bn : Nat) (sm : Nat) (ah : Nat) (th : Int32) (a1 : Int32) (a2 : Int32) (a3 : Int32) (a4 : Int32) (a5 : Int32) : Met l yX3_layCourse wsX3_layCourse ({ frames := 3, cells := 0, slots := 0, locals := 65 }) (va_Pc [.ref hm, .int a1, .int a2, .int a3, .int a4, .int a5] (fun U => U.heap.size = sz ∧ va_P (dC, dI) vwCl [(hm, .inr (3, [.int th, .int 0, .ref wi, .ref co, .ref sl, .ref rn, .ref so, .ref bn, .ref sm, .ref ah]))] U.heap ∧ va_K (dC, dI) vwCl [] U ∧ va_D (fun _ => True) [(hm, .inr (3, [.int th, .int 0, .ref wi, .ref co, .ref sl, .ref rn, .ref so, .ref bn, .ref sm, .ref ah]))])) (va_Qi (fun (r : Int32) (u : Unit) => r = 0) (fun (u : Unit) (t : State) => va_P (dC, dI) vwCl [(hm, .inr (3, [.int 1, .int 0, .ref wi, .ref co, .ref sl, .ref rn, .ref so, .ref bn, .ref sm, .ref ah]))] t.heap ∧ va_K (dC, dI) vwCl [] t ∧ va_D (va_A [(hm, .inr (3, [.int th, .int 0, .ref wi, .ref co, .ref sl, .ref rn, .ref so, .ref bn, .ref sm, .ref ah]))] sz) [(hm, .inr (3, [.int 1, .int 0, .ref wi, .ref co, .ref sl, .ref rn, .ref so, .ref bn, .ref sm, .ref ah]))]) (va_A [(hm, .inr (3, [.int th, .int 0, .ref wi, .ref co, .ref sl, .ref rn, .ref so, .ref bn, .ref sm, .ref ah]))] sz)) 0 0 (va_A [(hm, .inr (3, [.int th, .int 0, .ref wi, .ref co, .ref sl, .ref rn, .ref so, .ref bn, .ref sm, .ref ah]))] sz) := by
  refine Met.ofW (cc := cX3_layCourse) (maxL := 8) (ret := (some .int)) (by decide) rfl ?_
  intro p e s m args below meth c s₁ B hml hv
  obtain ⟨rfl, hsz, hP, hK, hD0⟩ := hv
  have hx := B.exec
  have hb := B.bytes
  have hr := B.returns
  have hts := atoms_spec (ws := wsX3_layCourse) B.pre
  have hown : s.vm.findClass RX3 = some m.cls := findClass_of_methodNamed B.named
  have hlocks := B.notSynchronized
  subst hsz
  have hD := hD0.self (sz := s.heap.size)
  generalize hAe : va_A [(hm, .inr (3, [.int th, .int 0, .ref wi, .ref co, .ref sl, .ref rn, .ref so, .ref bn, .ref sm, .ref ah]))] s.heap.size = A at hD ⊢
  have hA : ∀ q : Nat, s.heap.size ≤ q → A q := fun q h => by rw [← hAe]; exact Or.inr h
  have hS : va_S A s.heap s.heap [] := va_S.rf
  have hP : va_P (dC, dI) vwCl [(hm, .inr (3, [.int th, .int 0, .ref wi, .ref co, .ref sl, .ref rn, .ref so, .ref bn, .ref sm, .ref ah]))] s.heap := hP
  have hl := lv_entry ([.ref hm, .int a1, .int a2, .int a3, .int a4, .int a5]) (n := 8) (Nat.le_of_ble_eq_true rfl)
  rw [lg_entry_eq]
  generalize (lg_sl ([.ref hm, .int a1, .int a2, .int a3, .int a4, .int a5]) ++ List.replicate (8 - (lg_sl ([.ref hm, .int a1, .int a2, .int a3, .int a4, .int a5])).length) Slot.unset).toArray = ls at hl ⊢
  have hl : lv_has ls 8 [(0, .ref hm), (1, .int a1), (2, .int a2), (3, .int a3), (4, .int a4), (5, .int a5)] := hl
  refine lv_aload_n hx hb dX3_layCourse_0 rfl (lv_at hl 0 rfl) ?_
  refine lv_iconst (v := 0) hx hb dX3_layCourse_1 (by decide) ?_
  refine va_put (D := (dC, dI)) (ci := 3) (v := .int 0) (ty := .int) (C := RX3) (T := TX3) (N := 10) hx hb hts (by decide +kernel) tyX3 tyX3_ok nmX3 hown hK hP hD hS 0 rfl rfl 0 (by decide) (hts (.fieldLink RX3 40 "ThatchRoofModel" "thrown" "I") (by decide +kernel)) (fun _ h9 => h9) rfl (by decide +kernel) rfl rfl (Nat.le_of_ble_eq_true rfl) dX3_layCourse_2 (fun H locs hP hD hS => ?_)
  have hP : va_P (dC, dI) vwCl [(hm, .inr (3, [.int 0, .int 0, .ref wi, .ref co, .ref sl, .ref rn, .ref so, .ref bn, .ref sm, .ref ah]))] H := hP
  have hD : va_D A [(hm, .inr (3, [.int 0, .int 0, .ref wi, .ref co, .ref sl, .ref rn, .ref so, .ref bn, .ref sm, .ref ah]))] := hD
  refine lv_aload_n hx hb dX3_layCourse_5 rfl (lv_at hl 0 rfl) ?_
  refine lv_iload_n hx hb dX3_layCourse_6 rfl (lv_at hl 1 rfl) ?_
  refine lv_iload_n hx hb dX3_layCourse_7 rfl (lv_at hl 2 rfl) ?_
  have hPc := hP.sub (ws' := [(hm, .inr (3, [.int 0, .int 0, .ref wi, .ref co, .ref sl, .ref rn, .ref so, .ref bn, .ref sm, .ref ah]))]) [0] rfl
  have hKc := hK.sub (tys' := []) [] rfl
  refine vp_callSi (va_runV (As := [.int a1, .int a2]) (rest := []) ⟨hx, hb, hml, hown, hts⟩ (k3_isCourse0 l dC dI hm wi co sl rn so bn sm ah 0 a1 a2 ) (cwV 2 hts gX3_layCourse_X3_isCourse rfl rfl rfl (by decide +kernel) ⟨Nat.le_of_ble_eq_true rfl, Nat.le_of_ble_eq_true rfl⟩) ⟨fun a U g mk q => by obtain ⟨q0, qP, qK⟩ := q; exact ⟨q0, qP, va_K.moved (u := U) (U := U.calling g mk a) (Vm.Alike.refl U.vm) qK⟩, va_recv hKc hPc (ci := 3) (q0 := 0) rfl rfl, fun U hU hW => ⟨rfl, by rw [hU]; exact hPc, va_K.moved hW.alike hKc⟩⟩ rfl rfl hl.1 rfl (lv_room (Nat.le_of_ble_eq_true rfl)) dX3_layCourse_8 ⟨Nat.le_of_ble_eq_true rfl, Nat.le_of_ble_eq_true rfl⟩).run (fun r1 hr1 => ?_)
  obtain rfl := hr1
  refine lv_if_eq (tgt := 23) hx hb dX3_layCourse_11 (by decide) (fun c2 => ?_) (fun c2 => absurd c2 (by decide))
  refine lv_aload_n hx hb dX3_layCourse_23 rfl (lv_at hl 0 rfl) ?_
  refine lv_iconst (v := 1) hx hb dX3_layCourse_24 (by decide) ?_
  have hPc := hP.sub (ws' := [(hm, .inr (3, [.int 0, .int 0, .ref wi, .ref co, .ref sl, .ref rn, .ref so, .ref bn, .ref sm, .ref ah]))]) [0] rfl
  have hKc := hK.sub (tys' := []) [] rfl
  have hDc := hD.sub (ws' := [(hm, .inr (3, [.int 0, .int 0, .ref wi, .ref co, .ref sl, .ref rn, .ref so, .ref bn, .ref sm, .ref ah]))]) [0] (by decide) rfl
  have hFc := va_free (wc := [(hm, .inr (3, [.int 0, .int 0, .ref wi, .ref co, .ref sl, .ref rn, .ref so, .ref bn, .ref sm, .ref ah]))]) hD hS hA [0] rfl
  refine va_calli (va_runV (As := [.int 1]) (rest := []) ⟨hx, hb, hml, hown, hts⟩ (k3_no l dC dI H.size hm wi co sl rn so bn sm ah 0 0 1 ) (cwV 1 hts gX3_layCourse_X3_no rfl rfl rfl (by decide +kernel) ⟨Nat.le_of_ble_eq_true rfl, Nat.le_of_ble_eq_true rfl⟩) ⟨fun a U g mk q => by obtain ⟨q0, q1, qP, qK, qD⟩ := q; exact ⟨q0, q1, qP, va_K.moved (u := U) (U := U.calling g mk a) (Vm.Alike.refl U.vm) qK, qD⟩, va_recv hKc hPc (ci := 3) (q0 := 0) rfl rfl, fun U hU hW => ⟨rfl, by rw [hU], by rw [hU]; exact hPc, va_K.moved hW.alike hKc, hDc.weaken (fun _ _ _ _ => trivial)⟩⟩ rfl rfl hl.1 rfl (lv_room (Nat.le_of_ble_eq_true rfl)) dX3_layCourse_25 ⟨Nat.le_of_ble_eq_true rfl, Nat.le_of_ble_eq_true rfl⟩) hS (fun q _ h => hFc q h) hFc (fun r3 u t H1 locs ht hvm hr3 hB hz1 hk1 hS => ?_)
  obtain ⟨hP1, hK1, hD1⟩ := hB
  rw [ht] at hP1
  have hK1 := va_K.moved hvm.symm hK1
  try dsimp only at hr3
  obtain ⟨hP, hD⟩ := va_join (wr := []) (w1 := [(hm, .inr (3, [.int 1, .int 0, .ref wi, .ref co, .ref sl, .ref rn, .ref so, .ref bn, .ref sm, .ref ah]))]) hP hD [0] [] rfl rfl (by decide) (by decide) hk1 hFc hP1 hD1
  generalize H1 = H at hP hS ⊢
  have hP : va_P (dC, dI) vwCl [(hm, .inr (3, [.int 1, .int 0, .ref wi, .ref co, .ref sl, .ref rn, .ref so, .ref bn, .ref sm, .ref ah]))] H := hP
  have hD : va_D A [(hm, .inr (3, [.int 1, .int 0, .ref wi, .ref co, .ref sl, .ref rn, .ref so, .ref bn, .ref sm, .ref ah]))] := hD
  obtain rfl := hr3
  have hP9 := hP.sub (ws' := [(hm, .inr (3, [.int 1, .int 0, .ref wi, .ref co, .ref sl, .ref rn, .ref so, .ref bn, .ref sm, .ref ah]))]) [0] rfl
  have hD9 := hD.sub (ws' := [(hm, .inr (3, [.int 1, .int 0, .ref wi, .ref co, .ref sl, .ref rn, .ref so, .ref bn, .ref sm, .ref ah]))]) [0] (by decide) rfl
  have hK9 := hK.sub (tys' := []) [] rfl
  refine W.widen (k := 0) (n := 0) (Nat.le_of_ble_eq_true rfl) (Nat.le_of_ble_eq_true rfl) ?_
  exact W.iret (v := 0) hx hb hr (fun t ht hW => ⟨⟨0, (), rfl, by (first | rfl | assumption | decide | (simp_all; done) | grind), ⟨by rw [ht]; exact hP9, va_K.moved hW.alike hK9, hD9⟩⟩, hS.F ht⟩) hS.2.2 dX3_layCourse_28

set_option maxHeartbeats 4000000 in
set_option maxRecDepth 100000 in
theorem k3_mend (l : Launch) (dC : Nat → ClassId) (dI : Nat → Nat → Nat) (sz : Nat) (hm : Nat) (wi : Nat) (co : Nat) (sl : Nat) (rn : Nat) (so : Nat) (bn : Nat) (sm : Nat) (ah : Nat) (th : Int32) (a1 : Int32) (a2 : Int32) (a3 : Int32) : Met l yX3_mend wsX3_mend ({ frames := 4, cells := 0, slots := 0, locals := 88 }) (va_Pc [.ref hm, .int a1, .int a2, .int a3] (fun U => U.heap.size = sz ∧ va_P (dC, dI) vwCl [(hm, .inr (3, [.int th, .int 0, .ref wi, .ref co, .ref sl, .ref rn, .ref so, .ref bn, .ref sm, .ref ah]))] U.heap ∧ va_K (dC, dI) vwCl [] U ∧ va_D (fun _ => True) [(hm, .inr (3, [.int th, .int 0, .ref wi, .ref co, .ref sl, .ref rn, .ref so, .ref bn, .ref sm, .ref ah]))])) (va_Qi (fun (r : Int32) (u : Unit) => r = 0) (fun (u : Unit) (t : State) => va_P (dC, dI) vwCl [(hm, .inr (3, [.int 1, .int 0, .ref wi, .ref co, .ref sl, .ref rn, .ref so, .ref bn, .ref sm, .ref ah]))] t.heap ∧ va_K (dC, dI) vwCl [] t ∧ va_D (va_A [(hm, .inr (3, [.int th, .int 0, .ref wi, .ref co, .ref sl, .ref rn, .ref so, .ref bn, .ref sm, .ref ah]))] sz) [(hm, .inr (3, [.int 1, .int 0, .ref wi, .ref co, .ref sl, .ref rn, .ref so, .ref bn, .ref sm, .ref ah]))]) (va_A [(hm, .inr (3, [.int th, .int 0, .ref wi, .ref co, .ref sl, .ref rn, .ref so, .ref bn, .ref sm, .ref ah]))] sz)) 0 0 (va_A [(hm, .inr (3, [.int th, .int 0, .ref wi, .ref co, .ref sl, .ref rn, .ref so, .ref bn, .ref sm, .ref ah]))] sz) := by
  refine Met.ofW (cc := cX3_mend) (maxL := 5) (ret := (some .int)) (by decide) rfl ?_
  intro p e s m args below meth c s₁ B hml hv
  obtain ⟨rfl, hsz, hP, hK, hD0⟩ := hv
  have hx := B.exec
  have hb := B.bytes
  have hr := B.returns
  have hts := atoms_spec (ws := wsX3_mend) B.pre
  have hown : s.vm.findClass RX3 = some m.cls := findClass_of_methodNamed B.named
  have hlocks := B.notSynchronized
  subst hsz
  have hD := hD0.self (sz := s.heap.size)
  generalize hAe : va_A [(hm, .inr (3, [.int th, .int 0, .ref wi, .ref co, .ref sl, .ref rn, .ref so, .ref bn, .ref sm, .ref ah]))] s.heap.size = A at hD ⊢
  have hA : ∀ q : Nat, s.heap.size ≤ q → A q := fun q h => by rw [← hAe]; exact Or.inr h
  have hS : va_S A s.heap s.heap [] := va_S.rf
  have hP : va_P (dC, dI) vwCl [(hm, .inr (3, [.int th, .int 0, .ref wi, .ref co, .ref sl, .ref rn, .ref so, .ref bn, .ref sm, .ref ah]))] s.heap := hP
  have hl := lv_entry ([.ref hm, .int a1, .int a2, .int a3]) (n := 5) (Nat.le_of_ble_eq_true rfl)
  rw [lg_entry_eq]
  generalize (lg_sl ([.ref hm, .int a1, .int a2, .int a3]) ++ List.replicate (5 - (lg_sl ([.ref hm, .int a1, .int a2, .int a3])).length) Slot.unset).toArray = ls at hl ⊢
  have hl : lv_has ls 5 [(0, .ref hm), (1, .int a1), (2, .int a2), (3, .int a3)] := hl
  refine lv_aload_n hx hb dX3_mend_0 rfl (lv_at hl 0 rfl) ?_
  refine lv_iconst (v := 0) hx hb dX3_mend_1 (by decide) ?_
  refine va_put (D := (dC, dI)) (ci := 3) (v := .int 0) (ty := .int) (C := RX3) (T := TX3) (N := 10) hx hb hts (by decide +kernel) tyX3 tyX3_ok nmX3 hown hK hP hD hS 0 rfl rfl 0 (by decide) (hts (.fieldLink RX3 40 "ThatchRoofModel" "thrown" "I") (by decide +kernel)) (fun _ h9 => h9) rfl (by decide +kernel) rfl rfl (Nat.le_of_ble_eq_true rfl) dX3_mend_2 (fun H locs hP hD hS => ?_)
  have hP : va_P (dC, dI) vwCl [(hm, .inr (3, [.int 0, .int 0, .ref wi, .ref co, .ref sl, .ref rn, .ref so, .ref bn, .ref sm, .ref ah]))] H := hP
  have hD : va_D A [(hm, .inr (3, [.int 0, .int 0, .ref wi, .ref co, .ref sl, .ref rn, .ref so, .ref bn, .ref sm, .ref ah]))] := hD
  refine lv_aload_n hx hb dX3_mend_5 rfl (lv_at hl 0 rfl) ?_
  refine lv_iload_n hx hb dX3_mend_6 rfl (lv_at hl 1 rfl) ?_
  refine lv_iload_n hx hb dX3_mend_7 rfl (lv_at hl 2 rfl) ?_
  refine lv_iload_n hx hb dX3_mend_8 rfl (lv_at hl 3 rfl) ?_
  have hPc := hP.sub (ws' := [(hm, .inr (3, [.int 0, .int 0, .ref wi, .ref co, .ref sl, .ref rn, .ref so, .ref bn, .ref sm, .ref ah]))]) [0] rfl
  have hKc := hK.sub (tys' := []) [] rfl
  refine vp_callSi (va_runV (As := [.int a1, .int a2, .int a3]) (rest := []) ⟨hx, hb, hml, hown, hts⟩ (k3_isPlace0 l dC dI hm wi co sl rn so bn sm ah 0 a1 a2 a3 ) (cwV 3 hts gX3_mend_X3_isPlace rfl rfl rfl (by decide +kernel) ⟨Nat.le_of_ble_eq_true rfl, Nat.le_of_ble_eq_true rfl⟩) ⟨fun a U g mk q => by obtain ⟨q0, qP, qK⟩ := q; exact ⟨q0, qP, va_K.moved (u := U) (U := U.calling g mk a) (Vm.Alike.refl U.vm) qK⟩, va_recv hKc hPc (ci := 3) (q0 := 0) rfl rfl, fun U hU hW => ⟨rfl, by rw [hU]; exact hPc, va_K.moved hW.alike hKc⟩⟩ rfl rfl hl.1 rfl (lv_room (Nat.le_of_ble_eq_true rfl)) dX3_mend_9 ⟨Nat.le_of_ble_eq_true rfl, Nat.le_of_ble_eq_true rfl⟩).run (fun r1 hr1 => ?_)
  obtain rfl := hr1
  refine lv_if_ne (tgt := 21) hx hb dX3_mend_12 (by decide) (fun c2 => absurd c2 (by decide)) (fun c2 => ?_)
  refine lv_aload_n hx hb dX3_mend_15 rfl (lv_at hl 0 rfl) ?_
  refine lv_iconst (v := 1) hx hb dX3_mend_16 (by decide) ?_
  have hPc := hP.sub (ws' := [(hm, .inr (3, [.int 0, .int 0, .ref wi, .ref co, .ref sl, .ref rn, .ref so, .ref bn, .ref sm, .ref ah]))]) [0] rfl
  have hKc := hK.sub (tys' := []) [] rfl
  have hDc := hD.sub (ws' := [(hm, .inr (3, [.int 0, .int 0, .ref wi, .ref co, .ref sl, .ref rn, .ref so, .ref bn, .ref sm, .ref ah]))]) [0] (by decide) rfl
  have hFc := va_free (wc := [(hm, .inr (3, [.int 0, .int 0, .ref wi, .ref co, .ref sl, .ref rn, .ref so, .ref bn, .ref sm, .ref ah]))]) hD hS hA [0] rfl
  refine va_calli (va_runV (As := [.int 1]) (rest := []) ⟨hx, hb, hml, hown, hts⟩ (k3_no l dC dI H.size hm wi co sl rn so bn sm ah 0 0 1 ) (cwV 1 hts gX3_mend_X3_no rfl rfl rfl (by decide +kernel) ⟨Nat.le_of_ble_eq_true rfl, Nat.le_of_ble_eq_true rfl⟩) ⟨fun a U g mk q => by obtain ⟨q0, q1, qP, qK, qD⟩ := q; exact ⟨q0, q1, qP, va_K.moved (u := U) (U := U.calling g mk a) (Vm.Alike.refl U.vm) qK, qD⟩, va_recv hKc hPc (ci := 3) (q0 := 0) rfl rfl, fun U hU hW => ⟨rfl, by rw [hU], by rw [hU]; exact hPc, va_K.moved hW.alike hKc, hDc.weaken (fun _ _ _ _ => trivial)⟩⟩ rfl rfl hl.1 rfl (lv_room (Nat.le_of_ble_eq_true rfl)) dX3_mend_17 ⟨Nat.le_of_ble_eq_true rfl, Nat.le_of_ble_eq_true rfl⟩) hS (fun q _ h => hFc q h) hFc (fun r3 u t H1 locs ht hvm hr3 hB hz1 hk1 hS => ?_)
  obtain ⟨hP1, hK1, hD1⟩ := hB
  rw [ht] at hP1
  have hK1 := va_K.moved hvm.symm hK1
  try dsimp only at hr3
  obtain ⟨hP, hD⟩ := va_join (wr := []) (w1 := [(hm, .inr (3, [.int 1, .int 0, .ref wi, .ref co, .ref sl, .ref rn, .ref so, .ref bn, .ref sm, .ref ah]))]) hP hD [0] [] rfl rfl (by decide) (by decide) hk1 hFc hP1 hD1
  generalize H1 = H at hP hS ⊢
  have hP : va_P (dC, dI) vwCl [(hm, .inr (3, [.int 1, .int 0, .ref wi, .ref co, .ref sl, .ref rn, .ref so, .ref bn, .ref sm, .ref ah]))] H := hP
  have hD : va_D A [(hm, .inr (3, [.int 1, .int 0, .ref wi, .ref co, .ref sl, .ref rn, .ref so, .ref bn, .ref sm, .ref ah]))] := hD
  obtain rfl := hr3
  have hP9 := hP.sub (ws' := [(hm, .inr (3, [.int 1, .int 0, .ref wi, .ref co, .ref sl, .ref rn, .ref so, .ref bn, .ref sm, .ref ah]))]) [0] rfl
  have hD9 := hD.sub (ws' := [(hm, .inr (3, [.int 1, .int 0, .ref wi, .ref co, .ref sl, .ref rn, .ref so, .ref bn, .ref sm, .ref ah]))]) [0] (by decide) rfl
  have hK9 := hK.sub (tys' := []) [] rfl
  refine W.widen (k := 0) (n := 0) (Nat.le_of_ble_eq_true rfl) (Nat.le_of_ble_eq_true rfl) ?_
  exact W.iret (v := 0) hx hb hr (fun t ht hW => ⟨⟨0, (), rfl, by (first | rfl | assumption | decide | (simp_all; done) | grind), ⟨by rw [ht]; exact hP9, va_K.moved hW.alike hK9, hD9⟩⟩, hS.F ht⟩) hS.2.2 dX3_mend_20

set_option maxHeartbeats 4000000 in
set_option maxRecDepth 100000 in
theorem k3_bind (l : Launch) (dC : Nat → ClassId) (dI : Nat → Nat → Nat) (sz : Nat) (hm : Nat) (wi : Nat) (co : Nat) (sl : Nat) (rn : Nat) (so : Nat) (bn : Nat) (sm : Nat) (ah : Nat) (th : Int32) (a1 : Int32) : Met l yX3_bind wsX3_bind ({ frames := 2, cells := 0, slots := 0, locals := 43 }) (va_Pc [.ref hm, .int a1] (fun U => U.heap.size = sz ∧ va_P (dC, dI) vwCl [(hm, .inr (3, [.int th, .int 0, .ref wi, .ref co, .ref sl, .ref rn, .ref so, .ref bn, .ref sm, .ref ah]))] U.heap ∧ va_K (dC, dI) vwCl [] U ∧ va_D (fun _ => True) [(hm, .inr (3, [.int th, .int 0, .ref wi, .ref co, .ref sl, .ref rn, .ref so, .ref bn, .ref sm, .ref ah]))])) (va_Qi (fun (r : Int32) (u : Unit) => r = 0) (fun (u : Unit) (t : State) => va_P (dC, dI) vwCl [(hm, .inr (3, [.int 1, .int 0, .ref wi, .ref co, .ref sl, .ref rn, .ref so, .ref bn, .ref sm, .ref ah]))] t.heap ∧ va_K (dC, dI) vwCl [] t ∧ va_D (va_A [(hm, .inr (3, [.int th, .int 0, .ref wi, .ref co, .ref sl, .ref rn, .ref so, .ref bn, .ref sm, .ref ah]))] sz) [(hm, .inr (3, [.int 1, .int 0, .ref wi, .ref co, .ref sl, .ref rn, .ref so, .ref bn, .ref sm, .ref ah]))]) (va_A [(hm, .inr (3, [.int th, .int 0, .ref wi, .ref co, .ref sl, .ref rn, .ref so, .ref bn, .ref sm, .ref ah]))] sz)) 0 0 (va_A [(hm, .inr (3, [.int th, .int 0, .ref wi, .ref co, .ref sl, .ref rn, .ref so, .ref bn, .ref sm, .ref ah]))] sz) := by
  refine Met.ofW (cc := cX3_bind) (maxL := 3) (ret := (some .int)) (by decide) rfl ?_
  intro p e s m args below meth c s₁ B hml hv
  obtain ⟨rfl, hsz, hP, hK, hD0⟩ := hv
  have hx := B.exec
  have hb := B.bytes
  have hr := B.returns
  have hts := atoms_spec (ws := wsX3_bind) B.pre
  have hown : s.vm.findClass RX3 = some m.cls := findClass_of_methodNamed B.named
  have hlocks := B.notSynchronized
  subst hsz
  have hD := hD0.self (sz := s.heap.size)
  generalize hAe : va_A [(hm, .inr (3, [.int th, .int 0, .ref wi, .ref co, .ref sl, .ref rn, .ref so, .ref bn, .ref sm, .ref ah]))] s.heap.size = A at hD ⊢
  have hA : ∀ q : Nat, s.heap.size ≤ q → A q := fun q h => by rw [← hAe]; exact Or.inr h
  have hS : va_S A s.heap s.heap [] := va_S.rf
  have hP : va_P (dC, dI) vwCl [(hm, .inr (3, [.int th, .int 0, .ref wi, .ref co, .ref sl, .ref rn, .ref so, .ref bn, .ref sm, .ref ah]))] s.heap := hP
  have hl := lv_entry ([.ref hm, .int a1]) (n := 3) (Nat.le_of_ble_eq_true rfl)
  rw [lg_entry_eq]
  generalize (lg_sl ([.ref hm, .int a1]) ++ List.replicate (3 - (lg_sl ([.ref hm, .int a1])).length) Slot.unset).toArray = ls at hl ⊢
  have hl : lv_has ls 3 [(0, .ref hm), (1, .int a1)] := hl
  refine lv_aload_n hx hb dX3_bind_0 rfl (lv_at hl 0 rfl) ?_
  refine lv_iconst (v := 0) hx hb dX3_bind_1 (by decide) ?_
  refine va_put (D := (dC, dI)) (ci := 3) (v := .int 0) (ty := .int) (C := RX3) (T := TX3) (N := 10) hx hb hts (by decide +kernel) tyX3 tyX3_ok nmX3 hown hK hP hD hS 0 rfl rfl 0 (by decide) (hts (.fieldLink RX3 40 "ThatchRoofModel" "thrown" "I") (by decide +kernel)) (fun _ h9 => h9) rfl (by decide +kernel) rfl rfl (Nat.le_of_ble_eq_true rfl) dX3_bind_2 (fun H locs hP hD hS => ?_)
  have hP : va_P (dC, dI) vwCl [(hm, .inr (3, [.int 0, .int 0, .ref wi, .ref co, .ref sl, .ref rn, .ref so, .ref bn, .ref sm, .ref ah]))] H := hP
  have hD : va_D A [(hm, .inr (3, [.int 0, .int 0, .ref wi, .ref co, .ref sl, .ref rn, .ref so, .ref bn, .ref sm, .ref ah]))] := hD
  refine lv_aload_n hx hb dX3_bind_5 rfl (lv_at hl 0 rfl) ?_
  refine lv_iload_n hx hb dX3_bind_6 rfl (lv_at hl 1 rfl) ?_
  have hPc := hP.sub (ws' := [(hm, .inr (3, [.int 0, .int 0, .ref wi, .ref co, .ref sl, .ref rn, .ref so, .ref bn, .ref sm, .ref ah]))]) [0] rfl
  have hKc := hK.sub (tys' := []) [] rfl
  refine vp_callSi (va_runV (As := [.int a1]) (rest := []) ⟨hx, hb, hml, hown, hts⟩ (k3_isRoof0 l dC dI hm wi co sl rn so bn sm ah 0 a1 ) (cwV 1 hts gX3_bind_X3_isRoof rfl rfl rfl (by decide +kernel) ⟨Nat.le_of_ble_eq_true rfl, Nat.le_of_ble_eq_true rfl⟩) ⟨fun a U g mk q => by obtain ⟨q0, qP, qK⟩ := q; exact ⟨q0, qP, va_K.moved (u := U) (U := U.calling g mk a) (Vm.Alike.refl U.vm) qK⟩, va_recv hKc hPc (ci := 3) (q0 := 0) rfl rfl, fun U hU hW => ⟨rfl, by rw [hU]; exact hPc, va_K.moved hW.alike hKc⟩⟩ rfl rfl hl.1 rfl (lv_room (Nat.le_of_ble_eq_true rfl)) dX3_bind_7 ⟨Nat.le_of_ble_eq_true rfl, Nat.le_of_ble_eq_true rfl⟩).run (fun r1 hr1 => ?_)
  obtain rfl := hr1
  refine lv_if_ne (tgt := 19) hx hb dX3_bind_10 (by decide) (fun c2 => absurd c2 (by decide)) (fun c2 => ?_)
  refine lv_aload_n hx hb dX3_bind_13 rfl (lv_at hl 0 rfl) ?_
  refine lv_iconst (v := 1) hx hb dX3_bind_14 (by decide) ?_
  have hPc := hP.sub (ws' := [(hm, .inr (3, [.int 0, .int 0, .ref wi, .ref co, .ref sl, .ref rn, .ref so, .ref bn, .ref sm, .ref ah]))]) [0] rfl
  have hKc := hK.sub (tys' := []) [] rfl
  have hDc := hD.sub (ws' := [(hm, .inr (3, [.int 0, .int 0, .ref wi, .ref co, .ref sl, .ref rn, .ref so, .ref bn, .ref sm, .ref ah]))]) [0] (by decide) rfl
  have hFc := va_free (wc := [(hm, .inr (3, [.int 0, .int 0, .ref wi, .ref co, .ref sl, .ref rn, .ref so, .ref bn, .ref sm, .ref ah]))]) hD hS hA [0] rfl
  refine va_calli (va_runV (As := [.int 1]) (rest := []) ⟨hx, hb, hml, hown, hts⟩ (k3_no l dC dI H.size hm wi co sl rn so bn sm ah 0 0 1 ) (cwV 1 hts gX3_bind_X3_no rfl rfl rfl (by decide +kernel) ⟨Nat.le_of_ble_eq_true rfl, Nat.le_of_ble_eq_true rfl⟩) ⟨fun a U g mk q => by obtain ⟨q0, q1, qP, qK, qD⟩ := q; exact ⟨q0, q1, qP, va_K.moved (u := U) (U := U.calling g mk a) (Vm.Alike.refl U.vm) qK, qD⟩, va_recv hKc hPc (ci := 3) (q0 := 0) rfl rfl, fun U hU hW => ⟨rfl, by rw [hU], by rw [hU]; exact hPc, va_K.moved hW.alike hKc, hDc.weaken (fun _ _ _ _ => trivial)⟩⟩ rfl rfl hl.1 rfl (lv_room (Nat.le_of_ble_eq_true rfl)) dX3_bind_15 ⟨Nat.le_of_ble_eq_true rfl, Nat.le_of_ble_eq_true rfl⟩) hS (fun q _ h => hFc q h) hFc (fun r3 u t H1 locs ht hvm hr3 hB hz1 hk1 hS => ?_)
  obtain ⟨hP1, hK1, hD1⟩ := hB
  rw [ht] at hP1
  have hK1 := va_K.moved hvm.symm hK1
  try dsimp only at hr3
  obtain ⟨hP, hD⟩ := va_join (wr := []) (w1 := [(hm, .inr (3, [.int 1, .int 0, .ref wi, .ref co, .ref sl, .ref rn, .ref so, .ref bn, .ref sm, .ref ah]))]) hP hD [0] [] rfl rfl (by decide) (by decide) hk1 hFc hP1 hD1
  generalize H1 = H at hP hS ⊢
  have hP : va_P (dC, dI) vwCl [(hm, .inr (3, [.int 1, .int 0, .ref wi, .ref co, .ref sl, .ref rn, .ref so, .ref bn, .ref sm, .ref ah]))] H := hP
  have hD : va_D A [(hm, .inr (3, [.int 1, .int 0, .ref wi, .ref co, .ref sl, .ref rn, .ref so, .ref bn, .ref sm, .ref ah]))] := hD
  obtain rfl := hr3
  have hP9 := hP.sub (ws' := [(hm, .inr (3, [.int 1, .int 0, .ref wi, .ref co, .ref sl, .ref rn, .ref so, .ref bn, .ref sm, .ref ah]))]) [0] rfl
  have hD9 := hD.sub (ws' := [(hm, .inr (3, [.int 1, .int 0, .ref wi, .ref co, .ref sl, .ref rn, .ref so, .ref bn, .ref sm, .ref ah]))]) [0] (by decide) rfl
  have hK9 := hK.sub (tys' := []) [] rfl
  refine W.widen (k := 0) (n := 0) (Nat.le_of_ble_eq_true rfl) (Nat.le_of_ble_eq_true rfl) ?_
  exact W.iret (v := 0) hx hb hr (fun t ht hW => ⟨⟨0, (), rfl, by (first | rfl | assumption | decide | (simp_all; done) | grind), ⟨by rw [ht]; exact hP9, va_K.moved hW.alike hK9, hD9⟩⟩, hS.F ht⟩) hS.2.2 dX3_bind_18

set_option maxHeartbeats 4000000 in
set_option maxRecDepth 100000 in
theorem k3_yealm (l : Launch) (dC : Nat → ClassId) (dI : Nat → Nat → Nat) (sz : Nat) (hm : Nat) (wi : Nat) (co : Nat) (sl : Nat) (rn : Nat) (so : Nat) (bn : Nat) (sm : Nat) (ah : Nat) (th : Int32) (a1 : Int32) (a2 : Int32) (a3 : Int32) (a4 : Int32) : Met l yX3_yealm wsX3_yealm ({ frames := 4, cells := 0, slots := 0, locals := 88 }) (va_Pc [.ref hm, .int a1, .int a2, .int a3, .int a4] (fun U => U.heap.size = sz ∧ va_P (dC, dI) vwCl [(hm, .inr (3, [.int th, .int 0, .ref wi, .ref co, .ref sl, .ref rn, .ref so, .ref bn, .ref sm, .ref ah]))] U.heap ∧ va_K (dC, dI) vwCl [] U ∧ va_D (fun _ => True) [(hm, .inr (3, [.int th, .int 0, .ref wi, .ref co, .ref sl, .ref rn, .ref so, .ref bn, .ref sm, .ref ah]))])) (va_Qi (fun (r : Int32) (u : Unit) => r = 0) (fun (u : Unit) (t : State) => va_P (dC, dI) vwCl [(hm, .inr (3, [.int 1, .int 0, .ref wi, .ref co, .ref sl, .ref rn, .ref so, .ref bn, .ref sm, .ref ah]))] t.heap ∧ va_K (dC, dI) vwCl [] t ∧ va_D (va_A [(hm, .inr (3, [.int th, .int 0, .ref wi, .ref co, .ref sl, .ref rn, .ref so, .ref bn, .ref sm, .ref ah]))] sz) [(hm, .inr (3, [.int 1, .int 0, .ref wi, .ref co, .ref sl, .ref rn, .ref so, .ref bn, .ref sm, .ref ah]))]) (va_A [(hm, .inr (3, [.int th, .int 0, .ref wi, .ref co, .ref sl, .ref rn, .ref so, .ref bn, .ref sm, .ref ah]))] sz)) 0 0 (va_A [(hm, .inr (3, [.int th, .int 0, .ref wi, .ref co, .ref sl, .ref rn, .ref so, .ref bn, .ref sm, .ref ah]))] sz) := by
  refine Met.ofW (cc := cX3_yealm) (maxL := 5) (ret := (some .int)) (by decide) rfl ?_
  intro p e s m args below meth c s₁ B hml hv
  obtain ⟨rfl, hsz, hP, hK, hD0⟩ := hv
  have hx := B.exec
  have hb := B.bytes
  have hr := B.returns
  have hts := atoms_spec (ws := wsX3_yealm) B.pre
  have hown : s.vm.findClass RX3 = some m.cls := findClass_of_methodNamed B.named
  have hlocks := B.notSynchronized
  subst hsz
  have hD := hD0.self (sz := s.heap.size)
  generalize hAe : va_A [(hm, .inr (3, [.int th, .int 0, .ref wi, .ref co, .ref sl, .ref rn, .ref so, .ref bn, .ref sm, .ref ah]))] s.heap.size = A at hD ⊢
  have hA : ∀ q : Nat, s.heap.size ≤ q → A q := fun q h => by rw [← hAe]; exact Or.inr h
  have hS : va_S A s.heap s.heap [] := va_S.rf
  have hP : va_P (dC, dI) vwCl [(hm, .inr (3, [.int th, .int 0, .ref wi, .ref co, .ref sl, .ref rn, .ref so, .ref bn, .ref sm, .ref ah]))] s.heap := hP
  have hl := lv_entry ([.ref hm, .int a1, .int a2, .int a3, .int a4]) (n := 5) (Nat.le_of_ble_eq_true rfl)
  rw [lg_entry_eq]
  generalize (lg_sl ([.ref hm, .int a1, .int a2, .int a3, .int a4]) ++ List.replicate (5 - (lg_sl ([.ref hm, .int a1, .int a2, .int a3, .int a4])).length) Slot.unset).toArray = ls at hl ⊢
  have hl : lv_has ls 5 [(0, .ref hm), (1, .int a1), (2, .int a2), (3, .int a3), (4, .int a4)] := hl
  refine lv_aload_n hx hb dX3_yealm_0 rfl (lv_at hl 0 rfl) ?_
  refine lv_iconst (v := 0) hx hb dX3_yealm_1 (by decide) ?_
  refine va_put (D := (dC, dI)) (ci := 3) (v := .int 0) (ty := .int) (C := RX3) (T := TX3) (N := 10) hx hb hts (by decide +kernel) tyX3 tyX3_ok nmX3 hown hK hP hD hS 0 rfl rfl 0 (by decide) (hts (.fieldLink RX3 40 "ThatchRoofModel" "thrown" "I") (by decide +kernel)) (fun _ h9 => h9) rfl (by decide +kernel) rfl rfl (Nat.le_of_ble_eq_true rfl) dX3_yealm_2 (fun H locs hP hD hS => ?_)
  have hP : va_P (dC, dI) vwCl [(hm, .inr (3, [.int 0, .int 0, .ref wi, .ref co, .ref sl, .ref rn, .ref so, .ref bn, .ref sm, .ref ah]))] H := hP
  have hD : va_D A [(hm, .inr (3, [.int 0, .int 0, .ref wi, .ref co, .ref sl, .ref rn, .ref so, .ref bn, .ref sm, .ref ah]))] := hD
  refine lv_aload_n hx hb dX3_yealm_5 rfl (lv_at hl 0 rfl) ?_
  refine lv_iload_n hx hb dX3_yealm_6 rfl (lv_at hl 1 rfl) ?_
  refine lv_iload_n hx hb dX3_yealm_7 rfl (lv_at hl 2 rfl) ?_
  refine lv_iload_n hx hb dX3_yealm_8 rfl (lv_at hl 3 rfl) ?_
  have hPc := hP.sub (ws' := [(hm, .inr (3, [.int 0, .int 0, .ref wi, .ref co, .ref sl, .ref rn, .ref so, .ref bn, .ref sm, .ref ah]))]) [0] rfl
  have hKc := hK.sub (tys' := []) [] rfl
  refine vp_callSi (va_runV (As := [.int a1, .int a2, .int a3]) (rest := []) ⟨hx, hb, hml, hown, hts⟩ (k3_isPlace0 l dC dI hm wi co sl rn so bn sm ah 0 a1 a2 a3 ) (cwV 3 hts gX3_yealm_X3_isPlace rfl rfl rfl (by decide +kernel) ⟨Nat.le_of_ble_eq_true rfl, Nat.le_of_ble_eq_true rfl⟩) ⟨fun a U g mk q => by obtain ⟨q0, qP, qK⟩ := q; exact ⟨q0, qP, va_K.moved (u := U) (U := U.calling g mk a) (Vm.Alike.refl U.vm) qK⟩, va_recv hKc hPc (ci := 3) (q0 := 0) rfl rfl, fun U hU hW => ⟨rfl, by rw [hU]; exact hPc, va_K.moved hW.alike hKc⟩⟩ rfl rfl hl.1 rfl (lv_room (Nat.le_of_ble_eq_true rfl)) dX3_yealm_9 ⟨Nat.le_of_ble_eq_true rfl, Nat.le_of_ble_eq_true rfl⟩).run (fun r1 hr1 => ?_)
  obtain rfl := hr1
  refine lv_if_eq (tgt := 37) hx hb dX3_yealm_12 (by decide) (fun c2 => ?_) (fun c2 => absurd c2 (by decide))
  refine lv_aload_n hx hb dX3_yealm_37 rfl (lv_at hl 0 rfl) ?_
  refine lv_iconst (v := 1) hx hb dX3_yealm_38 (by decide) ?_
  have hPc := hP.sub (ws' := [(hm, .inr (3, [.int 0, .int 0, .ref wi, .ref co, .ref sl, .ref rn, .ref so, .ref bn, .ref sm, .ref ah]))]) [0] rfl
  have hKc := hK.sub (tys' := []) [] rfl
  have hDc := hD.sub (ws' := [(hm, .inr (3, [.int 0, .int 0, .ref wi, .ref co, .ref sl, .ref rn, .ref so, .ref bn, .ref sm, .ref ah]))]) [0] (by decide) rfl
  have hFc := va_free (wc := [(hm, .inr (3, [.int 0, .int 0, .ref wi, .ref co, .ref sl, .ref rn, .ref so, .ref bn, .ref sm, .ref ah]))]) hD hS hA [0] rfl
  refine va_calli (va_runV (As := [.int 1]) (rest := []) ⟨hx, hb, hml, hown, hts⟩ (k3_no l dC dI H.size hm wi co sl rn so bn sm ah 0 0 1 ) (cwV 1 hts gX3_yealm_X3_no rfl rfl rfl (by decide +kernel) ⟨Nat.le_of_ble_eq_true rfl, Nat.le_of_ble_eq_true rfl⟩) ⟨fun a U g mk q => by obtain ⟨q0, q1, qP, qK, qD⟩ := q; exact ⟨q0, q1, qP, va_K.moved (u := U) (U := U.calling g mk a) (Vm.Alike.refl U.vm) qK, qD⟩, va_recv hKc hPc (ci := 3) (q0 := 0) rfl rfl, fun U hU hW => ⟨rfl, by rw [hU], by rw [hU]; exact hPc, va_K.moved hW.alike hKc, hDc.weaken (fun _ _ _ _ => trivial)⟩⟩ rfl rfl hl.1 rfl (lv_room (Nat.le_of_ble_eq_true rfl)) dX3_yealm_39 ⟨Nat.le_of_ble_eq_true rfl, Nat.le_of_ble_eq_true rfl⟩) hS (fun q _ h => hFc q h) hFc (fun r3 u t H1 locs ht hvm hr3 hB hz1 hk1 hS => ?_)
  obtain ⟨hP1, hK1, hD1⟩ := hB
  rw [ht] at hP1
  have hK1 := va_K.moved hvm.symm hK1
  try dsimp only at hr3
  obtain ⟨hP, hD⟩ := va_join (wr := []) (w1 := [(hm, .inr (3, [.int 1, .int 0, .ref wi, .ref co, .ref sl, .ref rn, .ref so, .ref bn, .ref sm, .ref ah]))]) hP hD [0] [] rfl rfl (by decide) (by decide) hk1 hFc hP1 hD1
  generalize H1 = H at hP hS ⊢
  have hP : va_P (dC, dI) vwCl [(hm, .inr (3, [.int 1, .int 0, .ref wi, .ref co, .ref sl, .ref rn, .ref so, .ref bn, .ref sm, .ref ah]))] H := hP
  have hD : va_D A [(hm, .inr (3, [.int 1, .int 0, .ref wi, .ref co, .ref sl, .ref rn, .ref so, .ref bn, .ref sm, .ref ah]))] := hD
  obtain rfl := hr3
  have hP9 := hP.sub (ws' := [(hm, .inr (3, [.int 1, .int 0, .ref wi, .ref co, .ref sl, .ref rn, .ref so, .ref bn, .ref sm, .ref ah]))]) [0] rfl
  have hD9 := hD.sub (ws' := [(hm, .inr (3, [.int 1, .int 0, .ref wi, .ref co, .ref sl, .ref rn, .ref so, .ref bn, .ref sm, .ref ah]))]) [0] (by decide) rfl
  have hK9 := hK.sub (tys' := []) [] rfl
  refine W.widen (k := 0) (n := 0) (Nat.le_of_ble_eq_true rfl) (Nat.le_of_ble_eq_true rfl) ?_
  exact W.iret (v := 0) hx hb hr (fun t ht hW => ⟨⟨0, (), rfl, by (first | rfl | assumption | decide | (simp_all; done) | grind), ⟨by rw [ht]; exact hP9, va_K.moved hW.alike hK9, hD9⟩⟩, hS.F ht⟩) hS.2.2 dX3_yealm_42

set_option maxHeartbeats 4000000 in
set_option maxRecDepth 100000 in
theorem k3_roof (l : Launch) (dC : Nat → ClassId) (dI : Nat → Nat → Nat) (sz : Nat) (hm : Nat) (wi : Nat) (co : Nat) (sl : Nat) (rn : Nat) (so : Nat) (bn : Nat) (sm : Nat) (ah : Nat) (th : Int32) (a1 : Int32) (a2 : Int32) : Met l yX3_roof wsX3_roof ({ frames := 2, cells := 0, slots := 0, locals := 43 }) (va_Pc [.ref hm, .int a1, .int a2] (fun U => U.heap.size = sz ∧ va_P (dC, dI) vwCl [(hm, .inr (3, [.int th, .int 0, .ref wi, .ref co, .ref sl, .ref rn, .ref so, .ref bn, .ref sm, .ref ah]))] U.heap ∧ va_K (dC, dI) vwCl [] U ∧ va_D (fun _ => True) [(hm, .inr (3, [.int th, .int 0, .ref wi, .ref co, .ref sl, .ref rn, .ref so, .ref bn, .ref sm, .ref ah]))])) (va_Qi (fun (r : Int32) (u : Unit) => r = 0) (fun (u : Unit) (t : State) => va_P (dC, dI) vwCl [(hm, .inr (3, [.int 1, .int 0, .ref wi, .ref co, .ref sl, .ref rn, .ref so, .ref bn, .ref sm, .ref ah]))] t.heap ∧ va_K (dC, dI) vwCl [] t ∧ va_D (va_A [(hm, .inr (3, [.int th, .int 0, .ref wi, .ref co, .ref sl, .ref rn, .ref so, .ref bn, .ref sm, .ref ah]))] sz) [(hm, .inr (3, [.int 1, .int 0, .ref wi, .ref co, .ref sl, .ref rn, .ref so, .ref bn, .ref sm, .ref ah]))]) (va_A [(hm, .inr (3, [.int th, .int 0, .ref wi, .ref co, .ref sl, .ref rn, .ref so, .ref bn, .ref sm, .ref ah]))] sz)) 0 0 (va_A [(hm, .inr (3, [.int th, .int 0, .ref wi, .ref co, .ref sl, .ref rn, .ref so, .ref bn, .ref sm, .ref ah]))] sz) := by
  refine Met.ofW (cc := cX3_roof) (maxL := 3) (ret := (some .int)) (by decide) rfl ?_
  intro p e s m args below meth c s₁ B hml hv
  obtain ⟨rfl, hsz, hP, hK, hD0⟩ := hv
  have hx := B.exec
  have hb := B.bytes
  have hr := B.returns
  have hts := atoms_spec (ws := wsX3_roof) B.pre
  have hown : s.vm.findClass RX3 = some m.cls := findClass_of_methodNamed B.named
  have hlocks := B.notSynchronized
  subst hsz
  have hD := hD0.self (sz := s.heap.size)
  generalize hAe : va_A [(hm, .inr (3, [.int th, .int 0, .ref wi, .ref co, .ref sl, .ref rn, .ref so, .ref bn, .ref sm, .ref ah]))] s.heap.size = A at hD ⊢
  have hA : ∀ q : Nat, s.heap.size ≤ q → A q := fun q h => by rw [← hAe]; exact Or.inr h
  have hS : va_S A s.heap s.heap [] := va_S.rf
  have hP : va_P (dC, dI) vwCl [(hm, .inr (3, [.int th, .int 0, .ref wi, .ref co, .ref sl, .ref rn, .ref so, .ref bn, .ref sm, .ref ah]))] s.heap := hP
  have hl := lv_entry ([.ref hm, .int a1, .int a2]) (n := 3) (Nat.le_of_ble_eq_true rfl)
  rw [lg_entry_eq]
  generalize (lg_sl ([.ref hm, .int a1, .int a2]) ++ List.replicate (3 - (lg_sl ([.ref hm, .int a1, .int a2])).length) Slot.unset).toArray = ls at hl ⊢
  have hl : lv_has ls 3 [(0, .ref hm), (1, .int a1), (2, .int a2)] := hl
  refine lv_aload_n hx hb dX3_roof_0 rfl (lv_at hl 0 rfl) ?_
  refine lv_iconst (v := 0) hx hb dX3_roof_1 (by decide) ?_
  refine va_put (D := (dC, dI)) (ci := 3) (v := .int 0) (ty := .int) (C := RX3) (T := TX3) (N := 10) hx hb hts (by decide +kernel) tyX3 tyX3_ok nmX3 hown hK hP hD hS 0 rfl rfl 0 (by decide) (hts (.fieldLink RX3 40 "ThatchRoofModel" "thrown" "I") (by decide +kernel)) (fun _ h9 => h9) rfl (by decide +kernel) rfl rfl (Nat.le_of_ble_eq_true rfl) dX3_roof_2 (fun H locs hP hD hS => ?_)
  have hP : va_P (dC, dI) vwCl [(hm, .inr (3, [.int 0, .int 0, .ref wi, .ref co, .ref sl, .ref rn, .ref so, .ref bn, .ref sm, .ref ah]))] H := hP
  have hD : va_D A [(hm, .inr (3, [.int 0, .int 0, .ref wi, .ref co, .ref sl, .ref rn, .ref so, .ref bn, .ref sm, .ref ah]))] := hD
  refine lv_aload_n hx hb dX3_roof_5 rfl (lv_at hl 0 rfl) ?_
  refine lv_iload_n hx hb dX3_roof_6 rfl (lv_at hl 1 rfl) ?_
  have hPc := hP.sub (ws' := [(hm, .inr (3, [.int 0, .int 0, .ref wi, .ref co, .ref sl, .ref rn, .ref so, .ref bn, .ref sm, .ref ah]))]) [0] rfl
  have hKc := hK.sub (tys' := []) [] rfl
  refine vp_callSi (va_runV (As := [.int a1]) (rest := []) ⟨hx, hb, hml, hown, hts⟩ (k3_isRoof0 l dC dI hm wi co sl rn so bn sm ah 0 a1 ) (cwV 1 hts gX3_roof_X3_isRoof rfl rfl rfl (by decide +kernel) ⟨Nat.le_of_ble_eq_true rfl, Nat.le_of_ble_eq_true rfl⟩) ⟨fun a U g mk q => by obtain ⟨q0, qP, qK⟩ := q; exact ⟨q0, qP, va_K.moved (u := U) (U := U.calling g mk a) (Vm.Alike.refl U.vm) qK⟩, va_recv hKc hPc (ci := 3) (q0 := 0) rfl rfl, fun U hU hW => ⟨rfl, by rw [hU]; exact hPc, va_K.moved hW.alike hKc⟩⟩ rfl rfl hl.1 rfl (lv_room (Nat.le_of_ble_eq_true rfl)) dX3_roof_7 ⟨Nat.le_of_ble_eq_true rfl, Nat.le_of_ble_eq_true rfl⟩).run (fun r1 hr1 => ?_)
  obtain rfl := hr1
  refine lv_if_eq (tgt := 32) hx hb dX3_roof_10 (by decide) (fun c2 => ?_) (fun c2 => absurd c2 (by decide))
  refine lv_aload_n hx hb dX3_roof_32 rfl (lv_at hl 0 rfl) ?_
  refine lv_iconst (v := 1) hx hb dX3_roof_33 (by decide) ?_
  have hPc := hP.sub (ws' := [(hm, .inr (3, [.int 0, .int 0, .ref wi, .ref co, .ref sl, .ref rn, .ref so, .ref bn, .ref sm, .ref ah]))]) [0] rfl
  have hKc := hK.sub (tys' := []) [] rfl
  have hDc := hD.sub (ws' := [(hm, .inr (3, [.int 0, .int 0, .ref wi, .ref co, .ref sl, .ref rn, .ref so, .ref bn, .ref sm, .ref ah]))]) [0] (by decide) rfl
  have hFc := va_free (wc := [(hm, .inr (3, [.int 0, .int 0, .ref wi, .ref co, .ref sl, .ref rn, .ref so, .ref bn, .ref sm, .ref ah]))]) hD hS hA [0] rfl
  refine va_calli (va_runV (As := [.int 1]) (rest := []) ⟨hx, hb, hml, hown, hts⟩ (k3_no l dC dI H.size hm wi co sl rn so bn sm ah 0 0 1 ) (cwV 1 hts gX3_roof_X3_no rfl rfl rfl (by decide +kernel) ⟨Nat.le_of_ble_eq_true rfl, Nat.le_of_ble_eq_true rfl⟩) ⟨fun a U g mk q => by obtain ⟨q0, q1, qP, qK, qD⟩ := q; exact ⟨q0, q1, qP, va_K.moved (u := U) (U := U.calling g mk a) (Vm.Alike.refl U.vm) qK, qD⟩, va_recv hKc hPc (ci := 3) (q0 := 0) rfl rfl, fun U hU hW => ⟨rfl, by rw [hU], by rw [hU]; exact hPc, va_K.moved hW.alike hKc, hDc.weaken (fun _ _ _ _ => trivial)⟩⟩ rfl rfl hl.1 rfl (lv_room (Nat.le_of_ble_eq_true rfl)) dX3_roof_34 ⟨Nat.le_of_ble_eq_true rfl, Nat.le_of_ble_eq_true rfl⟩) hS (fun q _ h => hFc q h) hFc (fun r3 u t H1 locs ht hvm hr3 hB hz1 hk1 hS => ?_)
  obtain ⟨hP1, hK1, hD1⟩ := hB
  rw [ht] at hP1
  have hK1 := va_K.moved hvm.symm hK1
  try dsimp only at hr3
  obtain ⟨hP, hD⟩ := va_join (wr := []) (w1 := [(hm, .inr (3, [.int 1, .int 0, .ref wi, .ref co, .ref sl, .ref rn, .ref so, .ref bn, .ref sm, .ref ah]))]) hP hD [0] [] rfl rfl (by decide) (by decide) hk1 hFc hP1 hD1
  generalize H1 = H at hP hS ⊢
  have hP : va_P (dC, dI) vwCl [(hm, .inr (3, [.int 1, .int 0, .ref wi, .ref co, .ref sl, .ref rn, .ref so, .ref bn, .ref sm, .ref ah]))] H := hP
  have hD : va_D A [(hm, .inr (3, [.int 1, .int 0, .ref wi, .ref co, .ref sl, .ref rn, .ref so, .ref bn, .ref sm, .ref ah]))] := hD
  obtain rfl := hr3
  have hP9 := hP.sub (ws' := [(hm, .inr (3, [.int 1, .int 0, .ref wi, .ref co, .ref sl, .ref rn, .ref so, .ref bn, .ref sm, .ref ah]))]) [0] rfl
  have hD9 := hD.sub (ws' := [(hm, .inr (3, [.int 1, .int 0, .ref wi, .ref co, .ref sl, .ref rn, .ref so, .ref bn, .ref sm, .ref ah]))]) [0] (by decide) rfl
  have hK9 := hK.sub (tys' := []) [] rfl
  refine W.widen (k := 0) (n := 0) (Nat.le_of_ble_eq_true rfl) (Nat.le_of_ble_eq_true rfl) ?_
  exact W.iret (v := 0) hx hb hr (fun t ht hW => ⟨⟨0, (), rfl, by (first | rfl | assumption | decide | (simp_all; done) | grind), ⟨by rw [ht]; exact hP9, va_K.moved hW.alike hK9, hD9⟩⟩, hS.F ht⟩) hS.2.2 dX3_roof_37

set_option maxHeartbeats 4000000 in
set_option maxRecDepth 100000 in
theorem k3_tears (l : Launch) (dC : Nat → ClassId) (dI : Nat → Nat → Nat) (sz : Nat) (hm : Nat) (wi : Nat) (co : Nat) (sl : Nat) (rn : Nat) (so : Nat) (bn : Nat) (sm : Nat) (ah : Nat) (th : Int32) (a1 : Int32) (a2 : Int32) : Met l yX3_tears wsX3_tears ({ frames := 2, cells := 0, slots := 0, locals := 43 }) (va_Pc [.ref hm, .int a1, .int a2] (fun U => U.heap.size = sz ∧ va_P (dC, dI) vwCl [(hm, .inr (3, [.int th, .int 0, .ref wi, .ref co, .ref sl, .ref rn, .ref so, .ref bn, .ref sm, .ref ah]))] U.heap ∧ va_K (dC, dI) vwCl [] U ∧ va_D (fun _ => True) [(hm, .inr (3, [.int th, .int 0, .ref wi, .ref co, .ref sl, .ref rn, .ref so, .ref bn, .ref sm, .ref ah]))])) (va_Qi (fun (r : Int32) (u : Unit) => r = 0) (fun (u : Unit) (t : State) => va_P (dC, dI) vwCl [(hm, .inr (3, [.int 1, .int 0, .ref wi, .ref co, .ref sl, .ref rn, .ref so, .ref bn, .ref sm, .ref ah]))] t.heap ∧ va_K (dC, dI) vwCl [] t ∧ va_D (va_A [(hm, .inr (3, [.int th, .int 0, .ref wi, .ref co, .ref sl, .ref rn, .ref so, .ref bn, .ref sm, .ref ah]))] sz) [(hm, .inr (3, [.int 1, .int 0, .ref wi, .ref co, .ref sl, .ref rn, .ref so, .ref bn, .ref sm, .ref ah]))]) (va_A [(hm, .inr (3, [.int th, .int 0, .ref wi, .ref co, .ref sl, .ref rn, .ref so, .ref bn, .ref sm, .ref ah]))] sz)) 0 0 (va_A [(hm, .inr (3, [.int th, .int 0, .ref wi, .ref co, .ref sl, .ref rn, .ref so, .ref bn, .ref sm, .ref ah]))] sz) := by
  refine Met.ofW (cc := cX3_tears) (maxL := 6) (ret := (some .int)) (by decide) rfl ?_
  intro p e s m args below meth c s₁ B hml hv
  obtain ⟨rfl, hsz, hP, hK, hD0⟩ := hv
  have hx := B.exec
  have hb := B.bytes
  have hr := B.returns
  have hts := atoms_spec (ws := wsX3_tears) B.pre
  have hown : s.vm.findClass RX3 = some m.cls := findClass_of_methodNamed B.named
  have hlocks := B.notSynchronized
  subst hsz
  have hD := hD0.self (sz := s.heap.size)
  generalize hAe : va_A [(hm, .inr (3, [.int th, .int 0, .ref wi, .ref co, .ref sl, .ref rn, .ref so, .ref bn, .ref sm, .ref ah]))] s.heap.size = A at hD ⊢
  have hA : ∀ q : Nat, s.heap.size ≤ q → A q := fun q h => by rw [← hAe]; exact Or.inr h
  have hS : va_S A s.heap s.heap [] := va_S.rf
  have hP : va_P (dC, dI) vwCl [(hm, .inr (3, [.int th, .int 0, .ref wi, .ref co, .ref sl, .ref rn, .ref so, .ref bn, .ref sm, .ref ah]))] s.heap := hP
  have hl := lv_entry ([.ref hm, .int a1, .int a2]) (n := 6) (Nat.le_of_ble_eq_true rfl)
  rw [lg_entry_eq]
  generalize (lg_sl ([.ref hm, .int a1, .int a2]) ++ List.replicate (6 - (lg_sl ([.ref hm, .int a1, .int a2])).length) Slot.unset).toArray = ls at hl ⊢
  have hl : lv_has ls 6 [(0, .ref hm), (1, .int a1), (2, .int a2)] := hl
  refine lv_aload_n hx hb dX3_tears_0 rfl (lv_at hl 0 rfl) ?_
  refine lv_iconst (v := 0) hx hb dX3_tears_1 (by decide) ?_
  refine va_put (D := (dC, dI)) (ci := 3) (v := .int 0) (ty := .int) (C := RX3) (T := TX3) (N := 10) hx hb hts (by decide +kernel) tyX3 tyX3_ok nmX3 hown hK hP hD hS 0 rfl rfl 0 (by decide) (hts (.fieldLink RX3 40 "ThatchRoofModel" "thrown" "I") (by decide +kernel)) (fun _ h9 => h9) rfl (by decide +kernel) rfl rfl (Nat.le_of_ble_eq_true rfl) dX3_tears_2 (fun H locs hP hD hS => ?_)
  have hP : va_P (dC, dI) vwCl [(hm, .inr (3, [.int 0, .int 0, .ref wi, .ref co, .ref sl, .ref rn, .ref so, .ref bn, .ref sm, .ref ah]))] H := hP
  have hD : va_D A [(hm, .inr (3, [.int 0, .int 0, .ref wi, .ref co, .ref sl, .ref rn, .ref so, .ref bn, .ref sm, .ref ah]))] := hD
  refine lv_aload_n hx hb dX3_tears_5 rfl (lv_at hl 0 rfl) ?_
  refine lv_iload_n hx hb dX3_tears_6 rfl (lv_at hl 1 rfl) ?_
  have hPc := hP.sub (ws' := [(hm, .inr (3, [.int 0, .int 0, .ref wi, .ref co, .ref sl, .ref rn, .ref so, .ref bn, .ref sm, .ref ah]))]) [0] rfl
  have hKc := hK.sub (tys' := []) [] rfl
  refine vp_callSi (va_runV (As := [.int a1]) (rest := []) ⟨hx, hb, hml, hown, hts⟩ (k3_isRoof0 l dC dI hm wi co sl rn so bn sm ah 0 a1 ) (cwV 1 hts gX3_tears_X3_isRoof rfl rfl rfl (by decide +kernel) ⟨Nat.le_of_ble_eq_true rfl, Nat.le_of_ble_eq_true rfl⟩) ⟨fun a U g mk q => by obtain ⟨q0, qP, qK⟩ := q; exact ⟨q0, qP, va_K.moved (u := U) (U := U.calling g mk a) (Vm.Alike.refl U.vm) qK⟩, va_recv hKc hPc (ci := 3) (q0 := 0) rfl rfl, fun U hU hW => ⟨rfl, by rw [hU]; exact hPc, va_K.moved hW.alike hKc⟩⟩ rfl rfl hl.1 rfl (lv_room (Nat.le_of_ble_eq_true rfl)) dX3_tears_7 ⟨Nat.le_of_ble_eq_true rfl, Nat.le_of_ble_eq_true rfl⟩).run (fun r1 hr1 => ?_)
  obtain rfl := hr1
  refine lv_if_ne (tgt := 19) hx hb dX3_tears_10 (by decide) (fun c2 => absurd c2 (by decide)) (fun c2 => ?_)
  refine lv_aload_n hx hb dX3_tears_13 rfl (lv_at hl 0 rfl) ?_
  refine lv_iconst (v := 1) hx hb dX3_tears_14 (by decide) ?_
  have hPc := hP.sub (ws' := [(hm, .inr (3, [.int 0, .int 0, .ref wi, .ref co, .ref sl, .ref rn, .ref so, .ref bn, .ref sm, .ref ah]))]) [0] rfl
  have hKc := hK.sub (tys' := []) [] rfl
  have hDc := hD.sub (ws' := [(hm, .inr (3, [.int 0, .int 0, .ref wi, .ref co, .ref sl, .ref rn, .ref so, .ref bn, .ref sm, .ref ah]))]) [0] (by decide) rfl
  have hFc := va_free (wc := [(hm, .inr (3, [.int 0, .int 0, .ref wi, .ref co, .ref sl, .ref rn, .ref so, .ref bn, .ref sm, .ref ah]))]) hD hS hA [0] rfl
  refine va_calli (va_runV (As := [.int 1]) (rest := []) ⟨hx, hb, hml, hown, hts⟩ (k3_no l dC dI H.size hm wi co sl rn so bn sm ah 0 0 1 ) (cwV 1 hts gX3_tears_X3_no rfl rfl rfl (by decide +kernel) ⟨Nat.le_of_ble_eq_true rfl, Nat.le_of_ble_eq_true rfl⟩) ⟨fun a U g mk q => by obtain ⟨q0, q1, qP, qK, qD⟩ := q; exact ⟨q0, q1, qP, va_K.moved (u := U) (U := U.calling g mk a) (Vm.Alike.refl U.vm) qK, qD⟩, va_recv hKc hPc (ci := 3) (q0 := 0) rfl rfl, fun U hU hW => ⟨rfl, by rw [hU], by rw [hU]; exact hPc, va_K.moved hW.alike hKc, hDc.weaken (fun _ _ _ _ => trivial)⟩⟩ rfl rfl hl.1 rfl (lv_room (Nat.le_of_ble_eq_true rfl)) dX3_tears_15 ⟨Nat.le_of_ble_eq_true rfl, Nat.le_of_ble_eq_true rfl⟩) hS (fun q _ h => hFc q h) hFc (fun r3 u t H1 locs ht hvm hr3 hB hz1 hk1 hS => ?_)
  obtain ⟨hP1, hK1, hD1⟩ := hB
  rw [ht] at hP1
  have hK1 := va_K.moved hvm.symm hK1
  try dsimp only at hr3
  obtain ⟨hP, hD⟩ := va_join (wr := []) (w1 := [(hm, .inr (3, [.int 1, .int 0, .ref wi, .ref co, .ref sl, .ref rn, .ref so, .ref bn, .ref sm, .ref ah]))]) hP hD [0] [] rfl rfl (by decide) (by decide) hk1 hFc hP1 hD1
  generalize H1 = H at hP hS ⊢
  have hP : va_P (dC, dI) vwCl [(hm, .inr (3, [.int 1, .int 0, .ref wi, .ref co, .ref sl, .ref rn, .ref so, .ref bn, .ref sm, .ref ah]))] H := hP
  have hD : va_D A [(hm, .inr (3, [.int 1, .int 0, .ref wi, .ref co, .ref sl, .ref rn, .ref so, .ref bn, .ref sm, .ref ah]))] := hD
  obtain rfl := hr3
  have hP9 := hP.sub (ws' := [(hm, .inr (3, [.int 1, .int 0, .ref wi, .ref co, .ref sl, .ref rn, .ref so, .ref bn, .ref sm, .ref ah]))]) [0] rfl
  have hD9 := hD.sub (ws' := [(hm, .inr (3, [.int 1, .int 0, .ref wi, .ref co, .ref sl, .ref rn, .ref so, .ref bn, .ref sm, .ref ah]))]) [0] (by decide) rfl
  have hK9 := hK.sub (tys' := []) [] rfl
  refine W.widen (k := 0) (n := 0) (Nat.le_of_ble_eq_true rfl) (Nat.le_of_ble_eq_true rfl) ?_
  exact W.iret (v := 0) hx hb hr (fun t ht hW => ⟨⟨0, (), rfl, by (first | rfl | assumption | decide | (simp_all; done) | grind), ⟨by rw [ht]; exact hP9, va_K.moved hW.alike hK9, hD9⟩⟩, hS.F ht⟩) hS.2.2 dX3_tears_18

set_option maxHeartbeats 4000000 in
set_option maxRecDepth 100000 in
theorem k3_holds (l : Launch) (dC : Nat → ClassId) (dI : Nat → Nat → Nat) (sz : Nat) (hm : Nat) (wi : Nat) (co : Nat) (sl : Nat) (rn : Nat) (so : Nat) (bn : Nat) (sm : Nat) (ah : Nat) (th : Int32) (a1 : Int32) : Met l yX3_holds wsX3_holds ({ frames := 2, cells := 0, slots := 0, locals := 43 }) (va_Pc [.ref hm, .int a1] (fun U => U.heap.size = sz ∧ va_P (dC, dI) vwCl [(hm, .inr (3, [.int th, .int 0, .ref wi, .ref co, .ref sl, .ref rn, .ref so, .ref bn, .ref sm, .ref ah]))] U.heap ∧ va_K (dC, dI) vwCl [] U ∧ va_D (fun _ => True) [(hm, .inr (3, [.int th, .int 0, .ref wi, .ref co, .ref sl, .ref rn, .ref so, .ref bn, .ref sm, .ref ah]))])) (va_Qi (fun (r : Int32) (u : Unit) => r = 0) (fun (u : Unit) (t : State) => va_P (dC, dI) vwCl [(hm, .inr (3, [.int 1, .int 0, .ref wi, .ref co, .ref sl, .ref rn, .ref so, .ref bn, .ref sm, .ref ah]))] t.heap ∧ va_K (dC, dI) vwCl [] t ∧ va_D (va_A [(hm, .inr (3, [.int th, .int 0, .ref wi, .ref co, .ref sl, .ref rn, .ref so, .ref bn, .ref sm, .ref ah]))] sz) [(hm, .inr (3, [.int 1, .int 0, .ref wi, .ref co, .ref sl, .ref rn, .ref so, .ref bn, .ref sm, .ref ah]))]) (va_A [(hm, .inr (3, [.int th, .int 0, .ref wi, .ref co, .ref sl, .ref rn, .ref so, .ref bn, .ref sm, .ref ah]))] sz)) 0 0 (va_A [(hm, .inr (3, [.int th, .int 0, .ref wi, .ref co, .ref sl, .ref rn, .ref so, .ref bn, .ref sm, .ref ah]))] sz) := by
  refine Met.ofW (cc := cX3_holds) (maxL := 4) (ret := (some .int)) (by decide) rfl ?_
  intro p e s m args below meth c s₁ B hml hv
  obtain ⟨rfl, hsz, hP, hK, hD0⟩ := hv
  have hx := B.exec
  have hb := B.bytes
  have hr := B.returns
  have hts := atoms_spec (ws := wsX3_holds) B.pre
  have hown : s.vm.findClass RX3 = some m.cls := findClass_of_methodNamed B.named
  have hlocks := B.notSynchronized
  subst hsz
  have hD := hD0.self (sz := s.heap.size)
  generalize hAe : va_A [(hm, .inr (3, [.int th, .int 0, .ref wi, .ref co, .ref sl, .ref rn, .ref so, .ref bn, .ref sm, .ref ah]))] s.heap.size = A at hD ⊢
  have hA : ∀ q : Nat, s.heap.size ≤ q → A q := fun q h => by rw [← hAe]; exact Or.inr h
  have hS : va_S A s.heap s.heap [] := va_S.rf
  have hP : va_P (dC, dI) vwCl [(hm, .inr (3, [.int th, .int 0, .ref wi, .ref co, .ref sl, .ref rn, .ref so, .ref bn, .ref sm, .ref ah]))] s.heap := hP
  have hl := lv_entry ([.ref hm, .int a1]) (n := 4) (Nat.le_of_ble_eq_true rfl)
  rw [lg_entry_eq]
  generalize (lg_sl ([.ref hm, .int a1]) ++ List.replicate (4 - (lg_sl ([.ref hm, .int a1])).length) Slot.unset).toArray = ls at hl ⊢
  have hl : lv_has ls 4 [(0, .ref hm), (1, .int a1)] := hl
  refine lv_aload_n hx hb dX3_holds_0 rfl (lv_at hl 0 rfl) ?_
  refine lv_iconst (v := 0) hx hb dX3_holds_1 (by decide) ?_
  refine va_put (D := (dC, dI)) (ci := 3) (v := .int 0) (ty := .int) (C := RX3) (T := TX3) (N := 10) hx hb hts (by decide +kernel) tyX3 tyX3_ok nmX3 hown hK hP hD hS 0 rfl rfl 0 (by decide) (hts (.fieldLink RX3 40 "ThatchRoofModel" "thrown" "I") (by decide +kernel)) (fun _ h9 => h9) rfl (by decide +kernel) rfl rfl (Nat.le_of_ble_eq_true rfl) dX3_holds_2 (fun H locs hP hD hS => ?_)
  have hP : va_P (dC, dI) vwCl [(hm, .inr (3, [.int 0, .int 0, .ref wi, .ref co, .ref sl, .ref rn, .ref so, .ref bn, .ref sm, .ref ah]))] H := hP
  have hD : va_D A [(hm, .inr (3, [.int 0, .int 0, .ref wi, .ref co, .ref sl, .ref rn, .ref so, .ref bn, .ref sm, .ref ah]))] := hD
  refine lv_aload_n hx hb dX3_holds_5 rfl (lv_at hl 0 rfl) ?_
  refine lv_iload_n hx hb dX3_holds_6 rfl (lv_at hl 1 rfl) ?_
  have hPc := hP.sub (ws' := [(hm, .inr (3, [.int 0, .int 0, .ref wi, .ref co, .ref sl, .ref rn, .ref so, .ref bn, .ref sm, .ref ah]))]) [0] rfl
  have hKc := hK.sub (tys' := []) [] rfl
  refine vp_callSi (va_runV (As := [.int a1]) (rest := []) ⟨hx, hb, hml, hown, hts⟩ (k3_isRoof0 l dC dI hm wi co sl rn so bn sm ah 0 a1 ) (cwV 1 hts gX3_holds_X3_isRoof rfl rfl rfl (by decide +kernel) ⟨Nat.le_of_ble_eq_true rfl, Nat.le_of_ble_eq_true rfl⟩) ⟨fun a U g mk q => by obtain ⟨q0, qP, qK⟩ := q; exact ⟨q0, qP, va_K.moved (u := U) (U := U.calling g mk a) (Vm.Alike.refl U.vm) qK⟩, va_recv hKc hPc (ci := 3) (q0 := 0) rfl rfl, fun U hU hW => ⟨rfl, by rw [hU]; exact hPc, va_K.moved hW.alike hKc⟩⟩ rfl rfl hl.1 rfl (lv_room (Nat.le_of_ble_eq_true rfl)) dX3_holds_7 ⟨Nat.le_of_ble_eq_true rfl, Nat.le_of_ble_eq_true rfl⟩).run (fun r1 hr1 => ?_)
  obtain rfl := hr1
  refine lv_if_ne (tgt := 19) hx hb dX3_holds_10 (by decide) (fun c2 => absurd c2 (by decide)) (fun c2 => ?_)
  refine lv_aload_n hx hb dX3_holds_13 rfl (lv_at hl 0 rfl) ?_
  refine lv_iconst (v := 1) hx hb dX3_holds_14 (by decide) ?_
  have hPc := hP.sub (ws' := [(hm, .inr (3, [.int 0, .int 0, .ref wi, .ref co, .ref sl, .ref rn, .ref so, .ref bn, .ref sm, .ref ah]))]) [0] rfl
  have hKc := hK.sub (tys' := []) [] rfl
  have hDc := hD.sub (ws' := [(hm, .inr (3, [.int 0, .int 0, .ref wi, .ref co, .ref sl, .ref rn, .ref so, .ref bn, .ref sm, .ref ah]))]) [0] (by decide) rfl
  have hFc := va_free (wc := [(hm, .inr (3, [.int 0, .int 0, .ref wi, .ref co, .ref sl, .ref rn, .ref so, .ref bn, .ref sm, .ref ah]))]) hD hS hA [0] rfl
  refine va_calli (va_runV (As := [.int 1]) (rest := []) ⟨hx, hb, hml, hown, hts⟩ (k3_no l dC dI H.size hm wi co sl rn so bn sm ah 0 0 1 ) (cwV 1 hts gX3_holds_X3_no rfl rfl rfl (by decide +kernel) ⟨Nat.le_of_ble_eq_true rfl, Nat.le_of_ble_eq_true rfl⟩) ⟨fun a U g mk q => by obtain ⟨q0, q1, qP, qK, qD⟩ := q; exact ⟨q0, q1, qP, va_K.moved (u := U) (U := U.calling g mk a) (Vm.Alike.refl U.vm) qK, qD⟩, va_recv hKc hPc (ci := 3) (q0 := 0) rfl rfl, fun U hU hW => ⟨rfl, by rw [hU], by rw [hU]; exact hPc, va_K.moved hW.alike hKc, hDc.weaken (fun _ _ _ _ => trivial)⟩⟩ rfl rfl hl.1 rfl (lv_room (Nat.le_of_ble_eq_true rfl)) dX3_holds_15 ⟨Nat.le_of_ble_eq_true rfl, Nat.le_of_ble_eq_true rfl⟩) hS (fun q _ h => hFc q h) hFc (fun r3 u t H1 locs ht hvm hr3 hB hz1 hk1 hS => ?_)
  obtain ⟨hP1, hK1, hD1⟩ := hB
  rw [ht] at hP1
  have hK1 := va_K.moved hvm.symm hK1
  try dsimp only at hr3
  obtain ⟨hP, hD⟩ := va_join (wr := []) (w1 := [(hm, .inr (3, [.int 1, .int 0, .ref wi, .ref co, .ref sl, .ref rn, .ref so, .ref bn, .ref sm, .ref ah]))]) hP hD [0] [] rfl rfl (by decide) (by decide) hk1 hFc hP1 hD1
  generalize H1 = H at hP hS ⊢
  have hP : va_P (dC, dI) vwCl [(hm, .inr (3, [.int 1, .int 0, .ref wi, .ref co, .ref sl, .ref rn, .ref so, .ref bn, .ref sm, .ref ah]))] H := hP
  have hD : va_D A [(hm, .inr (3, [.int 1, .int 0, .ref wi, .ref co, .ref sl, .ref rn, .ref so, .ref bn, .ref sm, .ref ah]))] := hD
  obtain rfl := hr3
  have hP9 := hP.sub (ws' := [(hm, .inr (3, [.int 1, .int 0, .ref wi, .ref co, .ref sl, .ref rn, .ref so, .ref bn, .ref sm, .ref ah]))]) [0] rfl
  have hD9 := hD.sub (ws' := [(hm, .inr (3, [.int 1, .int 0, .ref wi, .ref co, .ref sl, .ref rn, .ref so, .ref bn, .ref sm, .ref ah]))]) [0] (by decide) rfl
  have hK9 := hK.sub (tys' := []) [] rfl
  refine W.widen (k := 0) (n := 0) (Nat.le_of_ble_eq_true rfl) (Nat.le_of_ble_eq_true rfl) ?_
  exact W.iret (v := 0) hx hb hr (fun t ht hW => ⟨⟨0, (), rfl, by (first | rfl | assumption | decide | (simp_all; done) | grind), ⟨by rw [ht]; exact hP9, va_K.moved hW.alike hK9, hD9⟩⟩, hS.F ht⟩) hS.2.2 dX3_holds_18

set_option maxHeartbeats 4000000 in
set_option maxRecDepth 100000 in
theorem k3_foresee (l : Launch) (dC : Nat → ClassId) (dI : Nat → Nat → Nat) (sz : Nat) (hm : Nat) (wi : Nat) (co : Nat) (sl : Nat) (rn : Nat) (so : Nat) (bn : Nat) (sm : Nat) (ah : Nat) (th : Int32) (a1 : Int32) (a2 : Int32) (a3 : Int32) : Met l yX3_foresee wsX3_foresee ({ frames := 2, cells := 0, slots := 0, locals := 43 }) (va_Pc [.ref hm, .int a1, .int a2, .int a3] (fun U => U.heap.size = sz ∧ va_P (dC, dI) vwCl [(hm, .inr (3, [.int th, .int 0, .ref wi, .ref co, .ref sl, .ref rn, .ref so, .ref bn, .ref sm, .ref ah]))] U.heap ∧ va_K (dC, dI) vwCl [] U ∧ va_D (fun _ => True) [(hm, .inr (3, [.int th, .int 0, .ref wi, .ref co, .ref sl, .ref rn, .ref so, .ref bn, .ref sm, .ref ah]))])) (va_Qi (fun (r : Int32) (u : Unit) => r = 0) (fun (u : Unit) (t : State) => va_P (dC, dI) vwCl [(hm, .inr (3, [.int 1, .int 0, .ref wi, .ref co, .ref sl, .ref rn, .ref so, .ref bn, .ref sm, .ref ah]))] t.heap ∧ va_K (dC, dI) vwCl [] t ∧ va_D (va_A [(hm, .inr (3, [.int th, .int 0, .ref wi, .ref co, .ref sl, .ref rn, .ref so, .ref bn, .ref sm, .ref ah]))] sz) [(hm, .inr (3, [.int 1, .int 0, .ref wi, .ref co, .ref sl, .ref rn, .ref so, .ref bn, .ref sm, .ref ah]))]) (va_A [(hm, .inr (3, [.int th, .int 0, .ref wi, .ref co, .ref sl, .ref rn, .ref so, .ref bn, .ref sm, .ref ah]))] sz)) 0 0 (va_A [(hm, .inr (3, [.int th, .int 0, .ref wi, .ref co, .ref sl, .ref rn, .ref so, .ref bn, .ref sm, .ref ah]))] sz) := by
  refine Met.ofW (cc := cX3_foresee) (maxL := 5) (ret := (some .int)) (by decide) rfl ?_
  intro p e s m args below meth c s₁ B hml hv
  obtain ⟨rfl, hsz, hP, hK, hD0⟩ := hv
  have hx := B.exec
  have hb := B.bytes
  have hr := B.returns
  have hts := atoms_spec (ws := wsX3_foresee) B.pre
  have hown : s.vm.findClass RX3 = some m.cls := findClass_of_methodNamed B.named
  have hlocks := B.notSynchronized
  subst hsz
  have hD := hD0.self (sz := s.heap.size)
  generalize hAe : va_A [(hm, .inr (3, [.int th, .int 0, .ref wi, .ref co, .ref sl, .ref rn, .ref so, .ref bn, .ref sm, .ref ah]))] s.heap.size = A at hD ⊢
  have hA : ∀ q : Nat, s.heap.size ≤ q → A q := fun q h => by rw [← hAe]; exact Or.inr h
  have hS : va_S A s.heap s.heap [] := va_S.rf
  have hP : va_P (dC, dI) vwCl [(hm, .inr (3, [.int th, .int 0, .ref wi, .ref co, .ref sl, .ref rn, .ref so, .ref bn, .ref sm, .ref ah]))] s.heap := hP
  have hl := lv_entry ([.ref hm, .int a1, .int a2, .int a3]) (n := 5) (Nat.le_of_ble_eq_true rfl)
  rw [lg_entry_eq]
  generalize (lg_sl ([.ref hm, .int a1, .int a2, .int a3]) ++ List.replicate (5 - (lg_sl ([.ref hm, .int a1, .int a2, .int a3])).length) Slot.unset).toArray = ls at hl ⊢
  have hl : lv_has ls 5 [(0, .ref hm), (1, .int a1), (2, .int a2), (3, .int a3)] := hl
  refine lv_aload_n hx hb dX3_foresee_0 rfl (lv_at hl 0 rfl) ?_
  refine lv_iconst (v := 0) hx hb dX3_foresee_1 (by decide) ?_
  refine va_put (D := (dC, dI)) (ci := 3) (v := .int 0) (ty := .int) (C := RX3) (T := TX3) (N := 10) hx hb hts (by decide +kernel) tyX3 tyX3_ok nmX3 hown hK hP hD hS 0 rfl rfl 0 (by decide) (hts (.fieldLink RX3 40 "ThatchRoofModel" "thrown" "I") (by decide +kernel)) (fun _ h9 => h9) rfl (by decide +kernel) rfl rfl (Nat.le_of_ble_eq_true rfl) dX3_foresee_2 (fun H locs hP hD hS => ?_)
  have hP : va_P (dC, dI) vwCl [(hm, .inr (3, [.int 0, .int 0, .ref wi, .ref co, .ref sl, .ref rn, .ref so, .ref bn, .ref sm, .ref ah]))] H := hP
  have hD : va_D A [(hm, .inr (3, [.int 0, .int 0, .ref wi, .ref co, .ref sl, .ref rn, .ref so, .ref bn, .ref sm, .ref ah]))] := hD
  refine lv_aload_n hx hb dX3_foresee_5 rfl (lv_at hl 0 rfl) ?_
  refine lv_iload_n hx hb dX3_foresee_6 rfl (lv_at hl 1 rfl) ?_
  have hPc := hP.sub (ws' := [(hm, .inr (3, [.int 0, .int 0, .ref wi, .ref co, .ref sl, .ref rn, .ref so, .ref bn, .ref sm, .ref ah]))]) [0] rfl
  have hKc := hK.sub (tys' := []) [] rfl
  refine vp_callSi (va_runV (As := [.int a1]) (rest := []) ⟨hx, hb, hml, hown, hts⟩ (k3_isRoof0 l dC dI hm wi co sl rn so bn sm ah 0 a1 ) (cwV 1 hts gX3_foresee_X3_isRoof rfl rfl rfl (by decide +kernel) ⟨Nat.le_of_ble_eq_true rfl, Nat.le_of_ble_eq_true rfl⟩) ⟨fun a U g mk q => by obtain ⟨q0, qP, qK⟩ := q; exact ⟨q0, qP, va_K.moved (u := U) (U := U.calling g mk a) (Vm.Alike.refl U.vm) qK⟩, va_recv hKc hPc (ci := 3) (q0 := 0) rfl rfl, fun U hU hW => ⟨rfl, by rw [hU]; exact hPc, va_K.moved hW.alike hKc⟩⟩ rfl rfl hl.1 rfl (lv_room (Nat.le_of_ble_eq_true rfl)) dX3_foresee_7 ⟨Nat.le_of_ble_eq_true rfl, Nat.le_of_ble_eq_true rfl⟩).run (fun r1 hr1 => ?_)
  obtain rfl := hr1
  refine lv_if_eq (tgt := 22) hx hb dX3_foresee_10 (by decide) (fun c2 => ?_) (fun c2 => absurd c2 (by decide))
  refine lv_aload_n hx hb dX3_foresee_22 rfl (lv_at hl 0 rfl) ?_
  refine lv_iconst (v := 1) hx hb dX3_foresee_23 (by decide) ?_
  have hPc := hP.sub (ws' := [(hm, .inr (3, [.int 0, .int 0, .ref wi, .ref co, .ref sl, .ref rn, .ref so, .ref bn, .ref sm, .ref ah]))]) [0] rfl
  have hKc := hK.sub (tys' := []) [] rfl
  have hDc := hD.sub (ws' := [(hm, .inr (3, [.int 0, .int 0, .ref wi, .ref co, .ref sl, .ref rn, .ref so, .ref bn, .ref sm, .ref ah]))]) [0] (by decide) rfl
  have hFc := va_free (wc := [(hm, .inr (3, [.int 0, .int 0, .ref wi, .ref co, .ref sl, .ref rn, .ref so, .ref bn, .ref sm, .ref ah]))]) hD hS hA [0] rfl
  refine va_calli (va_runV (As := [.int 1]) (rest := []) ⟨hx, hb, hml, hown, hts⟩ (k3_no l dC dI H.size hm wi co sl rn so bn sm ah 0 0 1 ) (cwV 1 hts gX3_foresee_X3_no rfl rfl rfl (by decide +kernel) ⟨Nat.le_of_ble_eq_true rfl, Nat.le_of_ble_eq_true rfl⟩) ⟨fun a U g mk q => by obtain ⟨q0, q1, qP, qK, qD⟩ := q; exact ⟨q0, q1, qP, va_K.moved (u := U) (U := U.calling g mk a) (Vm.Alike.refl U.vm) qK, qD⟩, va_recv hKc hPc (ci := 3) (q0 := 0) rfl rfl, fun U hU hW => ⟨rfl, by rw [hU], by rw [hU]; exact hPc, va_K.moved hW.alike hKc, hDc.weaken (fun _ _ _ _ => trivial)⟩⟩ rfl rfl hl.1 rfl (lv_room (Nat.le_of_ble_eq_true rfl)) dX3_foresee_24 ⟨Nat.le_of_ble_eq_true rfl, Nat.le_of_ble_eq_true rfl⟩) hS (fun q _ h => hFc q h) hFc (fun r3 u t H1 locs ht hvm hr3 hB hz1 hk1 hS => ?_)
  obtain ⟨hP1, hK1, hD1⟩ := hB
  rw [ht] at hP1
  have hK1 := va_K.moved hvm.symm hK1
  try dsimp only at hr3
  obtain ⟨hP, hD⟩ := va_join (wr := []) (w1 := [(hm, .inr (3, [.int 1, .int 0, .ref wi, .ref co, .ref sl, .ref rn, .ref so, .ref bn, .ref sm, .ref ah]))]) hP hD [0] [] rfl rfl (by decide) (by decide) hk1 hFc hP1 hD1
  generalize H1 = H at hP hS ⊢
  have hP : va_P (dC, dI) vwCl [(hm, .inr (3, [.int 1, .int 0, .ref wi, .ref co, .ref sl, .ref rn, .ref so, .ref bn, .ref sm, .ref ah]))] H := hP
  have hD : va_D A [(hm, .inr (3, [.int 1, .int 0, .ref wi, .ref co, .ref sl, .ref rn, .ref so, .ref bn, .ref sm, .ref ah]))] := hD
  obtain rfl := hr3
  have hP9 := hP.sub (ws' := [(hm, .inr (3, [.int 1, .int 0, .ref wi, .ref co, .ref sl, .ref rn, .ref so, .ref bn, .ref sm, .ref ah]))]) [0] rfl
  have hD9 := hD.sub (ws' := [(hm, .inr (3, [.int 1, .int 0, .ref wi, .ref co, .ref sl, .ref rn, .ref so, .ref bn, .ref sm, .ref ah]))]) [0] (by decide) rfl
  have hK9 := hK.sub (tys' := []) [] rfl
  refine W.widen (k := 0) (n := 0) (Nat.le_of_ble_eq_true rfl) (Nat.le_of_ble_eq_true rfl) ?_
  exact W.iret (v := 0) hx hb hr (fun t ht hW => ⟨⟨0, (), rfl, by (first | rfl | assumption | decide | (simp_all; done) | grind), ⟨by rw [ht]; exact hP9, va_K.moved hW.alike hK9, hD9⟩⟩, hS.F ht⟩) hS.2.2 dX3_foresee_27

set_option maxHeartbeats 4000000 in
set_option maxRecDepth 100000 in
theorem k3_advise (l : Launch) (dC : Nat → ClassId) (dI : Nat → Nat → Nat) (sz : Nat) (hm : Nat) (wi : Nat) (co : Nat) (sl : Nat) (rn : Nat) (so : Nat) (bn : Nat) (sm : Nat) (ah : Nat) (th : Int32) (a1 : Int32) (a2 : Int32) : Met l yX3_advise wsX3_advise ({ frames := 2, cells := 0, slots := 0, locals := 43 }) (va_Pc [.ref hm, .int a1, .int a2] (fun U => U.heap.size = sz ∧ va_P (dC, dI) vwCl [(hm, .inr (3, [.int th, .int 0, .ref wi, .ref co, .ref sl, .ref rn, .ref so, .ref bn, .ref sm, .ref ah]))] U.heap ∧ va_K (dC, dI) vwCl [] U ∧ va_D (fun _ => True) [(hm, .inr (3, [.int th, .int 0, .ref wi, .ref co, .ref sl, .ref rn, .ref so, .ref bn, .ref sm, .ref ah]))])) (va_Qi (fun (r : Int32) (u : Unit) => r = 0) (fun (u : Unit) (t : State) => va_P (dC, dI) vwCl [(hm, .inr (3, [.int 1, .int 0, .ref wi, .ref co, .ref sl, .ref rn, .ref so, .ref bn, .ref sm, .ref ah]))] t.heap ∧ va_K (dC, dI) vwCl [] t ∧ va_D (va_A [(hm, .inr (3, [.int th, .int 0, .ref wi, .ref co, .ref sl, .ref rn, .ref so, .ref bn, .ref sm, .ref ah]))] sz) [(hm, .inr (3, [.int 1, .int 0, .ref wi, .ref co, .ref sl, .ref rn, .ref so, .ref bn, .ref sm, .ref ah]))]) (va_A [(hm, .inr (3, [.int th, .int 0, .ref wi, .ref co, .ref sl, .ref rn, .ref so, .ref bn, .ref sm, .ref ah]))] sz)) 0 0 (va_A [(hm, .inr (3, [.int th, .int 0, .ref wi, .ref co, .ref sl, .ref rn, .ref so, .ref bn, .ref sm, .ref ah]))] sz) := by
  refine Met.ofW (cc := cX3_advise) (maxL := 8) (ret := (some .int)) (by decide) rfl ?_
  intro p e s m args below meth c s₁ B hml hv
  obtain ⟨rfl, hsz, hP, hK, hD0⟩ := hv
  have hx := B.exec
  have hb := B.bytes
  have hr := B.returns
  have hts := atoms_spec (ws := wsX3_advise) B.pre
  have hown : s.vm.findClass RX3 = some m.cls := findClass_of_methodNamed B.named
  have hlocks := B.notSynchronized
  subst hsz
  have hD := hD0.self (sz := s.heap.size)
  generalize hAe : va_A [(hm, .inr (3, [.int th, .int 0, .ref wi, .ref co, .ref sl, .ref rn, .ref so, .ref bn, .ref sm, .ref ah]))] s.heap.size = A at hD ⊢
  have hA : ∀ q : Nat, s.heap.size ≤ q → A q := fun q h => by rw [← hAe]; exact Or.inr h
  have hS : va_S A s.heap s.heap [] := va_S.rf
  have hP : va_P (dC, dI) vwCl [(hm, .inr (3, [.int th, .int 0, .ref wi, .ref co, .ref sl, .ref rn, .ref so, .ref bn, .ref sm, .ref ah]))] s.heap := hP
  have hl := lv_entry ([.ref hm, .int a1, .int a2]) (n := 8) (Nat.le_of_ble_eq_true rfl)
  rw [lg_entry_eq]
  generalize (lg_sl ([.ref hm, .int a1, .int a2]) ++ List.replicate (8 - (lg_sl ([.ref hm, .int a1, .int a2])).length) Slot.unset).toArray = ls at hl ⊢
  have hl : lv_has ls 8 [(0, .ref hm), (1, .int a1), (2, .int a2)] := hl
  refine lv_aload_n hx hb dX3_advise_0 rfl (lv_at hl 0 rfl) ?_
  refine lv_iconst (v := 0) hx hb dX3_advise_1 (by decide) ?_
  refine va_put (D := (dC, dI)) (ci := 3) (v := .int 0) (ty := .int) (C := RX3) (T := TX3) (N := 10) hx hb hts (by decide +kernel) tyX3 tyX3_ok nmX3 hown hK hP hD hS 0 rfl rfl 0 (by decide) (hts (.fieldLink RX3 40 "ThatchRoofModel" "thrown" "I") (by decide +kernel)) (fun _ h9 => h9) rfl (by decide +kernel) rfl rfl (Nat.le_of_ble_eq_true rfl) dX3_advise_2 (fun H locs hP hD hS => ?_)
  have hP : va_P (dC, dI) vwCl [(hm, .inr (3, [.int 0, .int 0, .ref wi, .ref co, .ref sl, .ref rn, .ref so, .ref bn, .ref sm, .ref ah]))] H := hP
  have hD : va_D A [(hm, .inr (3, [.int 0, .int 0, .ref wi, .ref co, .ref sl, .ref rn, .ref so, .ref bn, .ref sm, .ref ah]))] := hD
  refine lv_aload_n hx hb dX3_advise_5 rfl (lv_at hl 0 rfl) ?_
  refine lv_iload_n hx hb dX3_advise_6 rfl (lv_at hl 1 rfl) ?_
  have hPc := hP.sub (ws' := [(hm, .inr (3, [.int 0, .int 0, .ref wi, .ref co, .ref sl, .ref rn, .ref so, .ref bn, .ref sm, .ref ah]))]) [0] rfl
  have hKc := hK.sub (tys' := []) [] rfl
  refine vp_callSi (va_runV (As := [.int a1]) (rest := []) ⟨hx, hb, hml, hown, hts⟩ (k3_isRoof0 l dC dI hm wi co sl rn so bn sm ah 0 a1 ) (cwV 1 hts gX3_advise_X3_isRoof rfl rfl rfl (by decide +kernel) ⟨Nat.le_of_ble_eq_true rfl, Nat.le_of_ble_eq_true rfl⟩) ⟨fun a U g mk q => by obtain ⟨q0, qP, qK⟩ := q; exact ⟨q0, qP, va_K.moved (u := U) (U := U.calling g mk a) (Vm.Alike.refl U.vm) qK⟩, va_recv hKc hPc (ci := 3) (q0 := 0) rfl rfl, fun U hU hW => ⟨rfl, by rw [hU]; exact hPc, va_K.moved hW.alike hKc⟩⟩ rfl rfl hl.1 rfl (lv_room (Nat.le_of_ble_eq_true rfl)) dX3_advise_7 ⟨Nat.le_of_ble_eq_true rfl, Nat.le_of_ble_eq_true rfl⟩).run (fun r1 hr1 => ?_)
  obtain rfl := hr1
  refine lv_if_ne (tgt := 19) hx hb dX3_advise_10 (by decide) (fun c2 => absurd c2 (by decide)) (fun c2 => ?_)
  refine lv_aload_n hx hb dX3_advise_13 rfl (lv_at hl 0 rfl) ?_
  refine lv_iconst (v := 1) hx hb dX3_advise_14 (by decide) ?_
  have hPc := hP.sub (ws' := [(hm, .inr (3, [.int 0, .int 0, .ref wi, .ref co, .ref sl, .ref rn, .ref so, .ref bn, .ref sm, .ref ah]))]) [0] rfl
  have hKc := hK.sub (tys' := []) [] rfl
  have hDc := hD.sub (ws' := [(hm, .inr (3, [.int 0, .int 0, .ref wi, .ref co, .ref sl, .ref rn, .ref so, .ref bn, .ref sm, .ref ah]))]) [0] (by decide) rfl
  have hFc := va_free (wc := [(hm, .inr (3, [.int 0, .int 0, .ref wi, .ref co, .ref sl, .ref rn, .ref so, .ref bn, .ref sm, .ref ah]))]) hD hS hA [0] rfl
  refine va_calli (va_runV (As := [.int 1]) (rest := []) ⟨hx, hb, hml, hown, hts⟩ (k3_no l dC dI H.size hm wi co sl rn so bn sm ah 0 0 1 ) (cwV 1 hts gX3_advise_X3_no rfl rfl rfl (by decide +kernel) ⟨Nat.le_of_ble_eq_true rfl, Nat.le_of_ble_eq_true rfl⟩) ⟨fun a U g mk q => by obtain ⟨q0, q1, qP, qK, qD⟩ := q; exact ⟨q0, q1, qP, va_K.moved (u := U) (U := U.calling g mk a) (Vm.Alike.refl U.vm) qK, qD⟩, va_recv hKc hPc (ci := 3) (q0 := 0) rfl rfl, fun U hU hW => ⟨rfl, by rw [hU], by rw [hU]; exact hPc, va_K.moved hW.alike hKc, hDc.weaken (fun _ _ _ _ => trivial)⟩⟩ rfl rfl hl.1 rfl (lv_room (Nat.le_of_ble_eq_true rfl)) dX3_advise_15 ⟨Nat.le_of_ble_eq_true rfl, Nat.le_of_ble_eq_true rfl⟩) hS (fun q _ h => hFc q h) hFc (fun r3 u t H1 locs ht hvm hr3 hB hz1 hk1 hS => ?_)
  obtain ⟨hP1, hK1, hD1⟩ := hB
  rw [ht] at hP1
  have hK1 := va_K.moved hvm.symm hK1
  try dsimp only at hr3
  obtain ⟨hP, hD⟩ := va_join (wr := []) (w1 := [(hm, .inr (3, [.int 1, .int 0, .ref wi, .ref co, .ref sl, .ref rn, .ref so, .ref bn, .ref sm, .ref ah]))]) hP hD [0] [] rfl rfl (by decide) (by decide) hk1 hFc hP1 hD1
  generalize H1 = H at hP hS ⊢
  have hP : va_P (dC, dI) vwCl [(hm, .inr (3, [.int 1, .int 0, .ref wi, .ref co, .ref sl, .ref rn, .ref so, .ref bn, .ref sm, .ref ah]))] H := hP
  have hD : va_D A [(hm, .inr (3, [.int 1, .int 0, .ref wi, .ref co, .ref sl, .ref rn, .ref so, .ref bn, .ref sm, .ref ah]))] := hD
  obtain rfl := hr3
  have hP9 := hP.sub (ws' := [(hm, .inr (3, [.int 1, .int 0, .ref wi, .ref co, .ref sl, .ref rn, .ref so, .ref bn, .ref sm, .ref ah]))]) [0] rfl
  have hD9 := hD.sub (ws' := [(hm, .inr (3, [.int 1, .int 0, .ref wi, .ref co, .ref sl, .ref rn, .ref so, .ref bn, .ref sm, .ref ah]))]) [0] (by decide) rfl
  have hK9 := hK.sub (tys' := []) [] rfl
  refine W.widen (k := 0) (n := 0) (Nat.le_of_ble_eq_true rfl) (Nat.le_of_ble_eq_true rfl) ?_
  exact W.iret (v := 0) hx hb hr (fun t ht hW => ⟨⟨0, (), rfl, by (first | rfl | assumption | decide | (simp_all; done) | grind), ⟨by rw [ht]; exact hP9, va_K.moved hW.alike hK9, hD9⟩⟩, hS.F ht⟩) hS.2.2 dX3_advise_18

set_option maxHeartbeats 4000000 in
set_option maxRecDepth 100000 in
theorem k3_needs (l : Launch) (dC : Nat → ClassId) (dI : Nat → Nat → Nat) (sz : Nat) (hm : Nat) (wi : Nat) (co : Nat) (sl : Nat) (rn : Nat) (so : Nat) (bn : Nat) (sm : Nat) (ah : Nat) (th : Int32) (a1 : Int32) (a2 : Int32) : Met l yX3_needs wsX3_needs ({ frames := 2, cells := 0, slots := 0, locals := 43 }) (va_Pc [.ref hm, .int a1, .int a2] (fun U => U.heap.size = sz ∧ va_P (dC, dI) vwCl [(hm, .inr (3, [.int th, .int 0, .ref wi, .ref co, .ref sl, .ref rn, .ref so, .ref bn, .ref sm, .ref ah]))] U.heap ∧ va_K (dC, dI) vwCl [] U ∧ va_D (fun _ => True) [(hm, .inr (3, [.int th, .int 0, .ref wi, .ref co, .ref sl, .ref rn, .ref so, .ref bn, .ref sm, .ref ah]))])) (va_Qi (fun (r : Int32) (u : Unit) => r = 0) (fun (u : Unit) (t : State) => va_P (dC, dI) vwCl [(hm, .inr (3, [.int 1, .int 0, .ref wi, .ref co, .ref sl, .ref rn, .ref so, .ref bn, .ref sm, .ref ah]))] t.heap ∧ va_K (dC, dI) vwCl [] t ∧ va_D (va_A [(hm, .inr (3, [.int th, .int 0, .ref wi, .ref co, .ref sl, .ref rn, .ref so, .ref bn, .ref sm, .ref ah]))] sz) [(hm, .inr (3, [.int 1, .int 0, .ref wi, .ref co, .ref sl, .ref rn, .ref so, .ref bn, .ref sm, .ref ah]))]) (va_A [(hm, .inr (3, [.int th, .int 0, .ref wi, .ref co, .ref sl, .ref rn, .ref so, .ref bn, .ref sm, .ref ah]))] sz)) 0 0 (va_A [(hm, .inr (3, [.int th, .int 0, .ref wi, .ref co, .ref sl, .ref rn, .ref so, .ref bn, .ref sm, .ref ah]))] sz) := by
  refine Met.ofW (cc := cX3_needs) (maxL := 3) (ret := (some .int)) (by decide) rfl ?_
  intro p e s m args below meth c s₁ B hml hv
  obtain ⟨rfl, hsz, hP, hK, hD0⟩ := hv
  have hx := B.exec
  have hb := B.bytes
  have hr := B.returns
  have hts := atoms_spec (ws := wsX3_needs) B.pre
  have hown : s.vm.findClass RX3 = some m.cls := findClass_of_methodNamed B.named
  have hlocks := B.notSynchronized
  subst hsz
  have hD := hD0.self (sz := s.heap.size)
  generalize hAe : va_A [(hm, .inr (3, [.int th, .int 0, .ref wi, .ref co, .ref sl, .ref rn, .ref so, .ref bn, .ref sm, .ref ah]))] s.heap.size = A at hD ⊢
  have hA : ∀ q : Nat, s.heap.size ≤ q → A q := fun q h => by rw [← hAe]; exact Or.inr h
  have hS : va_S A s.heap s.heap [] := va_S.rf
  have hP : va_P (dC, dI) vwCl [(hm, .inr (3, [.int th, .int 0, .ref wi, .ref co, .ref sl, .ref rn, .ref so, .ref bn, .ref sm, .ref ah]))] s.heap := hP
  have hl := lv_entry ([.ref hm, .int a1, .int a2]) (n := 3) (Nat.le_of_ble_eq_true rfl)
  rw [lg_entry_eq]
  generalize (lg_sl ([.ref hm, .int a1, .int a2]) ++ List.replicate (3 - (lg_sl ([.ref hm, .int a1, .int a2])).length) Slot.unset).toArray = ls at hl ⊢
  have hl : lv_has ls 3 [(0, .ref hm), (1, .int a1), (2, .int a2)] := hl
  refine lv_aload_n hx hb dX3_needs_0 rfl (lv_at hl 0 rfl) ?_
  refine lv_iconst (v := 0) hx hb dX3_needs_1 (by decide) ?_
  refine va_put (D := (dC, dI)) (ci := 3) (v := .int 0) (ty := .int) (C := RX3) (T := TX3) (N := 10) hx hb hts (by decide +kernel) tyX3 tyX3_ok nmX3 hown hK hP hD hS 0 rfl rfl 0 (by decide) (hts (.fieldLink RX3 40 "ThatchRoofModel" "thrown" "I") (by decide +kernel)) (fun _ h9 => h9) rfl (by decide +kernel) rfl rfl (Nat.le_of_ble_eq_true rfl) dX3_needs_2 (fun H locs hP hD hS => ?_)
  have hP : va_P (dC, dI) vwCl [(hm, .inr (3, [.int 0, .int 0, .ref wi, .ref co, .ref sl, .ref rn, .ref so, .ref bn, .ref sm, .ref ah]))] H := hP
  have hD : va_D A [(hm, .inr (3, [.int 0, .int 0, .ref wi, .ref co, .ref sl, .ref rn, .ref so, .ref bn, .ref sm, .ref ah]))] := hD
  refine lv_aload_n hx hb dX3_needs_5 rfl (lv_at hl 0 rfl) ?_
  refine lv_iload_n hx hb dX3_needs_6 rfl (lv_at hl 1 rfl) ?_
  have hPc := hP.sub (ws' := [(hm, .inr (3, [.int 0, .int 0, .ref wi, .ref co, .ref sl, .ref rn, .ref so, .ref bn, .ref sm, .ref ah]))]) [0] rfl
  have hKc := hK.sub (tys' := []) [] rfl
  refine vp_callSi (va_runV (As := [.int a1]) (rest := []) ⟨hx, hb, hml, hown, hts⟩ (k3_isRoof0 l dC dI hm wi co sl rn so bn sm ah 0 a1 ) (cwV 1 hts gX3_needs_X3_isRoof rfl rfl rfl (by decide +kernel) ⟨Nat.le_of_ble_eq_true rfl, Nat.le_of_ble_eq_true rfl⟩) ⟨fun a U g mk q => by obtain ⟨q0, qP, qK⟩ := q; exact ⟨q0, qP, va_K.moved (u := U) (U := U.calling g mk a) (Vm.Alike.refl U.vm) qK⟩, va_recv hKc hPc (ci := 3) (q0 := 0) rfl rfl, fun U hU hW => ⟨rfl, by rw [hU]; exact hPc, va_K.moved hW.alike hKc⟩⟩ rfl rfl hl.1 rfl (lv_room (Nat.le_of_ble_eq_true rfl)) dX3_needs_7 ⟨Nat.le_of_ble_eq_true rfl, Nat.le_of_ble_eq_true rfl⟩).run (fun r1 hr1 => ?_)
  obtain rfl := hr1
  refine lv_if_ne (tgt := 19) hx hb dX3_needs_10 (by decide) (fun c2 => absurd c2 (by decide)) (fun c2 => ?_)
  refine lv_aload_n hx hb dX3_needs_13 rfl (lv_at hl 0 rfl) ?_
  refine lv_iconst (v := 1) hx hb dX3_needs_14 (by decide) ?_
  have hPc := hP.sub (ws' := [(hm, .inr (3, [.int 0, .int 0, .ref wi, .ref co, .ref sl, .ref rn, .ref so, .ref bn, .ref sm, .ref ah]))]) [0] rfl
  have hKc := hK.sub (tys' := []) [] rfl
  have hDc := hD.sub (ws' := [(hm, .inr (3, [.int 0, .int 0, .ref wi, .ref co, .ref sl, .ref rn, .ref so, .ref bn, .ref sm, .ref ah]))]) [0] (by decide) rfl
  have hFc := va_free (wc := [(hm, .inr (3, [.int 0, .int 0, .ref wi, .ref co, .ref sl, .ref rn, .ref so, .ref bn, .ref sm, .ref ah]))]) hD hS hA [0] rfl
  refine va_calli (va_runV (As := [.int 1]) (rest := []) ⟨hx, hb, hml, hown, hts⟩ (k3_no l dC dI H.size hm wi co sl rn so bn sm ah 0 0 1 ) (cwV 1 hts gX3_needs_X3_no rfl rfl rfl (by decide +kernel) ⟨Nat.le_of_ble_eq_true rfl, Nat.le_of_ble_eq_true rfl⟩) ⟨fun a U g mk q => by obtain ⟨q0, q1, qP, qK, qD⟩ := q; exact ⟨q0, q1, qP, va_K.moved (u := U) (U := U.calling g mk a) (Vm.Alike.refl U.vm) qK, qD⟩, va_recv hKc hPc (ci := 3) (q0 := 0) rfl rfl, fun U hU hW => ⟨rfl, by rw [hU], by rw [hU]; exact hPc, va_K.moved hW.alike hKc, hDc.weaken (fun _ _ _ _ => trivial)⟩⟩ rfl rfl hl.1 rfl (lv_room (Nat.le_of_ble_eq_true rfl)) dX3_needs_15 ⟨Nat.le_of_ble_eq_true rfl, Nat.le_of_ble_eq_true rfl⟩) hS (fun q _ h => hFc q h) hFc (fun r3 u t H1 locs ht hvm hr3 hB hz1 hk1 hS => ?_)
  obtain ⟨hP1, hK1, hD1⟩ := hB
  rw [ht] at hP1
  have hK1 := va_K.moved hvm.symm hK1
  try dsimp only at hr3
  obtain ⟨hP, hD⟩ := va_join (wr := []) (w1 := [(hm, .inr (3, [.int 1, .int 0, .ref wi, .ref co, .ref sl, .ref rn, .ref so, .ref bn, .ref sm, .ref ah]))]) hP hD [0] [] rfl rfl (by decide) (by decide) hk1 hFc hP1 hD1
  generalize H1 = H at hP hS ⊢
  have hP : va_P (dC, dI) vwCl [(hm, .inr (3, [.int 1, .int 0, .ref wi, .ref co, .ref sl, .ref rn, .ref so, .ref bn, .ref sm, .ref ah]))] H := hP
  have hD : va_D A [(hm, .inr (3, [.int 1, .int 0, .ref wi, .ref co, .ref sl, .ref rn, .ref so, .ref bn, .ref sm, .ref ah]))] := hD
  obtain rfl := hr3
  have hP9 := hP.sub (ws' := [(hm, .inr (3, [.int 1, .int 0, .ref wi, .ref co, .ref sl, .ref rn, .ref so, .ref bn, .ref sm, .ref ah]))]) [0] rfl
  have hD9 := hD.sub (ws' := [(hm, .inr (3, [.int 1, .int 0, .ref wi, .ref co, .ref sl, .ref rn, .ref so, .ref bn, .ref sm, .ref ah]))]) [0] (by decide) rfl
  have hK9 := hK.sub (tys' := []) [] rfl
  refine W.widen (k := 0) (n := 0) (Nat.le_of_ble_eq_true rfl) (Nat.le_of_ble_eq_true rfl) ?_
  exact W.iret (v := 0) hx hb hr (fun t ht hW => ⟨⟨0, (), rfl, by (first | rfl | assumption | decide | (simp_all; done) | grind), ⟨by rw [ht]; exact hP9, va_K.moved hW.alike hK9, hD9⟩⟩, hS.F ht⟩) hS.2.2 dX3_needs_18

set_option maxHeartbeats 4000000 in
set_option maxRecDepth 100000 in
theorem k3_build (l : Launch) (dC : Nat → ClassId) (dI : Nat → Nat → Nat) (sz : Nat) (hm : Nat) (wi : Nat) (co : Nat) (sl : Nat) (rn : Nat) (so : Nat) (bn : Nat) (sm : Nat) (ah : Nat) (th : Int32) (gr : Nat) (gt : Nat) (gw : Nat) (gk : Nat) (gi : Nat) (gp : Nat) (go : Nat) (gg : Nat) (gh : Nat) (d1 : ClassId) (d2 : ClassId) (d3 : ClassId) (d4 : ClassId) (a1 : Int32) (a2 : Int32) (a3 : Int32) : Met l yX3_build wsX3_build ({ frames := 1, cells := 0, slots := 0, locals := 22 }) (va_Pc [.ref hm, .int a1, .int a2, .int a3] (fun U => U.heap.size = sz ∧ va_P (dC, dI) vwCl [(hm, .inr (3, [.int th, .int 0, .ref wi, .ref co, .ref sl, .ref rn, .ref so, .ref bn, .ref sm, .ref ah])), (sm, .inr (2, [.int 0, .ref gr, .ref gt, .ref gw, .ref gk, .ref gi, .ref gp, .ref go, .ref gg, .ref gh])), (wi, .inl (d1, 6, .inl (fun _ => 0))), (co, .inl (d2, 6, .inl (fun _ => 0))), (sl, .inl (d3, 6, .inl (fun _ => 0))), (gr, .inl (d4, 6, .inl (fun _ => 0)))] U.heap ∧ va_K (dC, dI) vwCl [(d1, .int), (d2, .int), (d3, .int), (d4, .int)] U ∧ va_D (fun _ => True) [(hm, .inr (3, [.int th, .int 0, .ref wi, .ref co, .ref sl, .ref rn, .ref so, .ref bn, .ref sm, .ref ah])), (sm, .inr (2, [.int 0, .ref gr, .ref gt, .ref gw, .ref gk, .ref gi, .ref gp, .ref go, .ref gg, .ref gh])), (wi, .inl (d1, 6, .inl (fun _ => 0))), (co, .inl (d2, 6, .inl (fun _ => 0))), (sl, .inl (d3, 6, .inl (fun _ => 0))), (gr, .inl (d4, 6, .inl (fun _ => 0)))] ∧ zNs U)) (va_Qi (fun (r : Int32) (u : Int32 × Int32) => (r = 0 ∧ u.1 = 0 ∧ (zIn a1 2 10 ∧ zIn a2 2 6 ∧ zIn a3 30 60)) ∨ (r = 0 ∧ u.1 = 1 ∧ (¬ (zIn a1 2 10 ∧ zIn a2 2 6 ∧ zIn a3 30 60)))) (fun (u : Int32 × Int32) (t : State) => va_P (dC, dI) vwCl [(hm, .inr (3, [.int u.1, .int u.2, .ref wi, .ref co, .ref sl, .ref rn, .ref so, .ref bn, .ref sm, .ref ah]))] t.heap ∧ va_K (dC, dI) vwCl [] t ∧ va_D (va_A [(hm, .inr (3, [.int th, .int 0, .ref wi, .ref co, .ref sl, .ref rn, .ref so, .ref bn, .ref sm, .ref ah])), (sm, .inr (2, [.int 0, .ref gr, .ref gt, .ref gw, .ref gk, .ref gi, .ref gp, .ref go, .ref gg, .ref gh])), (wi, .inl (d1, 6, .inl (fun _ => 0))), (co, .inl (d2, 6, .inl (fun _ => 0))), (sl, .inl (d3, 6, .inl (fun _ => 0))), (gr, .inl (d4, 6, .inl (fun _ => 0)))] sz) [(hm, .inr (3, [.int u.1, .int u.2, .ref wi, .ref co, .ref sl, .ref rn, .ref so, .ref bn, .ref sm, .ref ah]))]) (va_A [(hm, .inr (3, [.int th, .int 0, .ref wi, .ref co, .ref sl, .ref rn, .ref so, .ref bn, .ref sm, .ref ah])), (sm, .inr (2, [.int 0, .ref gr, .ref gt, .ref gw, .ref gk, .ref gi, .ref gp, .ref go, .ref gg, .ref gh])), (wi, .inl (d1, 6, .inl (fun _ => 0))), (co, .inl (d2, 6, .inl (fun _ => 0))), (sl, .inl (d3, 6, .inl (fun _ => 0))), (gr, .inl (d4, 6, .inl (fun _ => 0)))] sz)) 0 0 (va_A [(hm, .inr (3, [.int th, .int 0, .ref wi, .ref co, .ref sl, .ref rn, .ref so, .ref bn, .ref sm, .ref ah])), (sm, .inr (2, [.int 0, .ref gr, .ref gt, .ref gw, .ref gk, .ref gi, .ref gp, .ref go, .ref gg, .ref gh])), (wi, .inl (d1, 6, .inl (fun _ => 0))), (co, .inl (d2, 6, .inl (fun _ => 0))), (sl, .inl (d3, 6, .inl (fun _ => 0))), (gr, .inl (d4, 6, .inl (fun _ => 0)))] sz) := by
  refine Met.ofW (cc := cX3_build) (maxL := 4) (ret := (some .int)) (by decide) rfl ?_
  intro p e s m args below meth c s₁ B hml hv
  obtain ⟨rfl, hsz, hP, hK, hD0, hZN⟩ := hv
  have hx := B.exec
  have hb := B.bytes
  have hr := B.returns
  have hts := atoms_spec (ws := wsX3_build) B.pre
  have hown : s.vm.findClass RX3 = some m.cls := findClass_of_methodNamed B.named
  have hlocks := B.notSynchronized
  subst hsz
  have hD := hD0.self (sz := s.heap.size)
  generalize hAe : va_A [(hm, .inr (3, [.int th, .int 0, .ref wi, .ref co, .ref sl, .ref rn, .ref so, .ref bn, .ref sm, .ref ah])), (sm, .inr (2, [.int 0, .ref gr, .ref gt, .ref gw, .ref gk, .ref gi, .ref gp, .ref go, .ref gg, .ref gh])), (wi, .inl (d1, 6, .inl (fun _ => 0))), (co, .inl (d2, 6, .inl (fun _ => 0))), (sl, .inl (d3, 6, .inl (fun _ => 0))), (gr, .inl (d4, 6, .inl (fun _ => 0)))] s.heap.size = A at hD ⊢
  have hA : ∀ q : Nat, s.heap.size ≤ q → A q := fun q h => by rw [← hAe]; exact Or.inr h
  have hS : va_S A s.heap s.heap [] := va_S.rf
  have hP : va_P (dC, dI) vwCl [(hm, .inr (3, [.int th, .int 0, .ref wi, .ref co, .ref sl, .ref rn, .ref so, .ref bn, .ref sm, .ref ah])), (sm, .inr (2, [.int 0, .ref gr, .ref gt, .ref gw, .ref gk, .ref gi, .ref gp, .ref go, .ref gg, .ref gh])), (wi, .inl (d1, 6, .inl (fun _ => 0))), (co, .inl (d2, 6, .inl (fun _ => 0))), (sl, .inl (d3, 6, .inl (fun _ => 0))), (gr, .inl (d4, 6, .inl (fun _ => 0)))] s.heap := hP
  have hl := lv_entry ([.ref hm, .int a1, .int a2, .int a3]) (n := 4) (Nat.le_of_ble_eq_true rfl)
  rw [lg_entry_eq]
  generalize (lg_sl ([.ref hm, .int a1, .int a2, .int a3]) ++ List.replicate (4 - (lg_sl ([.ref hm, .int a1, .int a2, .int a3])).length) Slot.unset).toArray = ls at hl ⊢
  have hl : lv_has ls 4 [(0, .ref hm), (1, .int a1), (2, .int a2), (3, .int a3)] := hl
  refine lv_aload_n hx hb dX3_build_0 rfl (lv_at hl 0 rfl) ?_
  refine lv_iconst (v := 0) hx hb dX3_build_1 (by decide) ?_
  refine va_put (D := (dC, dI)) (ci := 3) (v := .int 0) (ty := .int) (C := RX3) (T := TX3) (N := 10) hx hb hts (by decide +kernel) tyX3 tyX3_ok nmX3 hown hK hP hD hS 0 rfl rfl 0 (by decide) (hts (.fieldLink RX3 40 "ThatchRoofModel" "thrown" "I") (by decide +kernel)) (fun _ h9 => h9) rfl (by decide +kernel) rfl rfl (Nat.le_of_ble_eq_true rfl) dX3_build_2 (fun H locs hP hD hS => ?_)
  have hP : va_P (dC, dI) vwCl [(hm, .inr (3, [.int 0, .int 0, .ref wi, .ref co, .ref sl, .ref rn, .ref so, .ref bn, .ref sm, .ref ah])), (sm, .inr (2, [.int 0, .ref gr, .ref gt, .ref gw, .ref gk, .ref gi, .ref gp, .ref go, .ref gg, .ref gh])), (wi, .inl (d1, 6, .inl (fun _ => 0))), (co, .inl (d2, 6, .inl (fun _ => 0))), (sl, .inl (d3, 6, .inl (fun _ => 0))), (gr, .inl (d4, 6, .inl (fun _ => 0)))] H := hP
  have hD : va_D A [(hm, .inr (3, [.int 0, .int 0, .ref wi, .ref co, .ref sl, .ref rn, .ref so, .ref bn, .ref sm, .ref ah])), (sm, .inr (2, [.int 0, .ref gr, .ref gt, .ref gw, .ref gk, .ref gi, .ref gp, .ref go, .ref gg, .ref gh])), (wi, .inl (d1, 6, .inl (fun _ => 0))), (co, .inl (d2, 6, .inl (fun _ => 0))), (sl, .inl (d3, 6, .inl (fun _ => 0))), (gr, .inl (d4, 6, .inl (fun _ => 0)))] := hD
  refine lv_iload_n hx hb dX3_build_5 rfl (lv_at hl 1 rfl) ?_
  refine lv_iconst (v := 2) hx hb dX3_build_6 (by decide) ?_
  refine lv_bipush (v := 10) hx hb dX3_build_7 (by decide) ?_
  refine vp_callSi (va_runS (As := [.int a1, .int 2, .int 10]) (rest := []) ⟨hx, hb, hml, hown, hts⟩ (k3_isIn l dC dI a1 2 10 ) (va_cwS 3 hts gX3_build_X3_isIn rfl rfl rfl (by decide +kernel) ⟨Nat.le_of_ble_eq_true rfl, Nat.le_of_ble_eq_true rfl⟩) ⟨fun a U g mk q => q, fun U hU hW => ⟨rfl, trivial⟩⟩ rfl rfl hl.1 rfl (lv_room (Nat.le_of_ble_eq_true rfl)) dX3_build_9 ⟨Nat.le_of_ble_eq_true rfl, Nat.le_of_ble_eq_true rfl⟩).run (fun r1 hr1 => ?_)
  rcases hr1 with ⟨rfl, fr1_0_0⟩ | ⟨rfl, fr1_1_0⟩
  · refine lv_if_eq (tgt := 36) hx hb dX3_build_12 (by decide) (fun c2 => absurd c2 (by decide)) (fun c2 => ?_)
    refine lv_iload_n hx hb dX3_build_15 rfl (lv_at hl 2 rfl) ?_
    refine lv_iconst (v := 2) hx hb dX3_build_16 (by decide) ?_
    refine lv_bipush (v := 6) hx hb dX3_build_17 (by decide) ?_
    refine vp_callSi (va_runS (As := [.int a2, .int 2, .int 6]) (rest := []) ⟨hx, hb, hml, hown, hts⟩ (k3_isIn l dC dI a2 2 6 ) (va_cwS 3 hts gX3_build_X3_isIn rfl rfl rfl (by decide +kernel) ⟨Nat.le_of_ble_eq_true rfl, Nat.le_of_ble_eq_true rfl⟩) ⟨fun a U g mk q => q, fun U hU hW => ⟨rfl, trivial⟩⟩ rfl rfl hl.1 rfl (lv_room (Nat.le_of_ble_eq_true rfl)) dX3_build_19 ⟨Nat.le_of_ble_eq_true rfl, Nat.le_of_ble_eq_true rfl⟩).run (fun r3 hr3 => ?_)
    rcases hr3 with ⟨rfl, fr3_0_0⟩ | ⟨rfl, fr3_1_0⟩
    · refine lv_if_eq (tgt := 36) hx hb dX3_build_22 (by decide) (fun c4 => absurd c4 (by decide)) (fun c4 => ?_)
      refine lv_iload_n hx hb dX3_build_25 rfl (lv_at hl 3 rfl) ?_
      refine lv_bipush (v := 30) hx hb dX3_build_26 (by decide) ?_
      refine lv_bipush (v := 60) hx hb dX3_build_28 (by decide) ?_
      refine vp_callSi (va_runS (As := [.int a3, .int 30, .int 60]) (rest := []) ⟨hx, hb, hml, hown, hts⟩ (k3_isIn l dC dI a3 30 60 ) (va_cwS 3 hts gX3_build_X3_isIn rfl rfl rfl (by decide +kernel) ⟨Nat.le_of_ble_eq_true rfl, Nat.le_of_ble_eq_true rfl⟩) ⟨fun a U g mk q => q, fun U hU hW => ⟨rfl, trivial⟩⟩ rfl rfl hl.1 rfl (lv_room (Nat.le_of_ble_eq_true rfl)) dX3_build_30 ⟨Nat.le_of_ble_eq_true rfl, Nat.le_of_ble_eq_true rfl⟩).run (fun r5 hr5 => ?_)
      rcases hr5 with ⟨rfl, fr5_0_0⟩ | ⟨rfl, fr5_1_0⟩
      · refine lv_if_ne (tgt := 42) hx hb dX3_build_33 (by decide) (fun c6 => ?_) (fun c6 => absurd c6 (by decide))
        refine lv_aload_n hx hb dX3_build_42 rfl (lv_at hl 0 rfl) ?_
        refine va_get (D := (dC, dI)) (ci := 3) (v := .int 0) (C := RX3) (T := TX3) (N := 10) hx hb hts (by decide +kernel) hown hK hP 0 rfl rfl 1 (by decide) (hts (.fieldLink RX3 44 "ThatchRoofModel" "roofs" "I") (by decide +kernel)) (fun _ h9 => h9) rfl dX3_build_43 ?_
        refine lv_bipush (v := 6) hx hb dX3_build_46 (by decide) ?_
        refine lv_icmp_ne (tgt := 57) hx hb dX3_build_48 (by decide) (fun c7 => ?_) (fun c7 => absurd c7 (by decide))
        refine lv_aload_n hx hb dX3_build_57 rfl (lv_at hl 0 rfl) ?_
        refine va_get (D := (dC, dI)) (ci := 3) (v := .ref wi) (C := RX3) (T := TX3) (N := 10) hx hb hts (by decide +kernel) hown hK hP 0 rfl rfl 2 (by decide) (hts (.fieldLink RX3 9 "ThatchRoofModel" "width" "[I") (by decide +kernel)) (fun _ h9 => h9) rfl dX3_build_58 ?_
        refine lv_aload_n hx hb dX3_build_61 rfl (lv_at hl 0 rfl) ?_
        refine va_get (D := (dC, dI)) (ci := 3) (v := .int 0) (C := RX3) (T := TX3) (N := 10) hx hb hts (by decide +kernel) hown hK hP 0 rfl rfl 1 (by decide) (hts (.fieldLink RX3 44 "ThatchRoofModel" "roofs" "I") (by decide +kernel)) (fun _ h9 => h9) rfl dX3_build_62 ?_
        refine lv_iload_n hx hb dX3_build_65 rfl (lv_at hl 1 rfl) ?_
        refine va_iast hx hb hK hP hD hS 2 0 rfl rfl (vp_in_nI (n := 0) (by decide) (by decide)) dX3_build_66 (fun H locs hP hD hS => ?_)
        have hP : va_P (dC, dI) vwCl [(hm, .inr (3, [.int 0, .int 0, .ref wi, .ref co, .ref sl, .ref rn, .ref so, .ref bn, .ref sm, .ref ah])), (sm, .inr (2, [.int 0, .ref gr, .ref gt, .ref gw, .ref gk, .ref gi, .ref gp, .ref go, .ref gg, .ref gh])), (wi, .inl (d1, 6, .inl (upd (fun _ => 0) 0 a1))), (co, .inl (d2, 6, .inl (fun _ => 0))), (sl, .inl (d3, 6, .inl (fun _ => 0))), (gr, .inl (d4, 6, .inl (fun _ => 0)))] H := hP
        have hD : va_D A [(hm, .inr (3, [.int 0, .int 0, .ref wi, .ref co, .ref sl, .ref rn, .ref so, .ref bn, .ref sm, .ref ah])), (sm, .inr (2, [.int 0, .ref gr, .ref gt, .ref gw, .ref gk, .ref gi, .ref gp, .ref go, .ref gg, .ref gh])), (wi, .inl (d1, 6, .inl (upd (fun _ => 0) 0 a1))), (co, .inl (d2, 6, .inl (fun _ => 0))), (sl, .inl (d3, 6, .inl (fun _ => 0))), (gr, .inl (d4, 6, .inl (fun _ => 0)))] := hD
        refine lv_aload_n hx hb dX3_build_67 rfl (lv_at hl 0 rfl) ?_
        refine va_get (D := (dC, dI)) (ci := 3) (v := .ref co) (C := RX3) (T := TX3) (N := 10) hx hb hts (by decide +kernel) hown hK hP 0 rfl rfl 3 (by decide) (hts (.fieldLink RX3 13 "ThatchRoofModel" "courses" "[I") (by decide +kernel)) (fun _ h9 => h9) rfl dX3_build_68 ?_
        refine lv_aload_n hx hb dX3_build_71 rfl (lv_at hl 0 rfl) ?_
        refine va_get (D := (dC, dI)) (ci := 3) (v := .int 0) (C := RX3) (T := TX3) (N := 10) hx hb hts (by decide +kernel) hown hK hP 0 rfl rfl 1 (by decide) (hts (.fieldLink RX3 44 "ThatchRoofModel" "roofs" "I") (by decide +kernel)) (fun _ h9 => h9) rfl dX3_build_72 ?_
        refine lv_iload_n hx hb dX3_build_75 rfl (lv_at hl 2 rfl) ?_
        refine va_iast hx hb hK hP hD hS 3 1 rfl rfl (vp_in_nI (n := 0) (by decide) (by decide)) dX3_build_76 (fun H locs hP hD hS => ?_)
        have hP : va_P (dC, dI) vwCl [(hm, .inr (3, [.int 0, .int 0, .ref wi, .ref co, .ref sl, .ref rn, .ref so, .ref bn, .ref sm, .ref ah])), (sm, .inr (2, [.int 0, .ref gr, .ref gt, .ref gw, .ref gk, .ref gi, .ref gp, .ref go, .ref gg, .ref gh])), (wi, .inl (d1, 6, .inl (upd (fun _ => 0) 0 a1))), (co, .inl (d2, 6, .inl (upd (fun _ => 0) 0 a2))), (sl, .inl (d3, 6, .inl (fun _ => 0))), (gr, .inl (d4, 6, .inl (fun _ => 0)))] H := hP
        have hD : va_D A [(hm, .inr (3, [.int 0, .int 0, .ref wi, .ref co, .ref sl, .ref rn, .ref so, .ref bn, .ref sm, .ref ah])), (sm, .inr (2, [.int 0, .ref gr, .ref gt, .ref gw, .ref gk, .ref gi, .ref gp, .ref go, .ref gg, .ref gh])), (wi, .inl (d1, 6, .inl (upd (fun _ => 0) 0 a1))), (co, .inl (d2, 6, .inl (upd (fun _ => 0) 0 a2))), (sl, .inl (d3, 6, .inl (fun _ => 0))), (gr, .inl (d4, 6, .inl (fun _ => 0)))] := hD
        refine lv_aload_n hx hb dX3_build_77 rfl (lv_at hl 0 rfl) ?_
        refine va_get (D := (dC, dI)) (ci := 3) (v := .ref sl) (C := RX3) (T := TX3) (N := 10) hx hb hts (by decide +kernel) hown hK hP 0 rfl rfl 4 (by decide) (hts (.fieldLink RX3 16 "ThatchRoofModel" "slope" "[I") (by decide +kernel)) (fun _ h9 => h9) rfl dX3_build_78 ?_
        refine lv_aload_n hx hb dX3_build_81 rfl (lv_at hl 0 rfl) ?_
        refine va_get (D := (dC, dI)) (ci := 3) (v := .int 0) (C := RX3) (T := TX3) (N := 10) hx hb hts (by decide +kernel) hown hK hP 0 rfl rfl 1 (by decide) (hts (.fieldLink RX3 44 "ThatchRoofModel" "roofs" "I") (by decide +kernel)) (fun _ h9 => h9) rfl dX3_build_82 ?_
        refine lv_iload_n hx hb dX3_build_85 rfl (lv_at hl 3 rfl) ?_
        refine va_iast hx hb hK hP hD hS 4 2 rfl rfl (vp_in_nI (n := 0) (by decide) (by decide)) dX3_build_86 (fun H locs hP hD hS => ?_)
        have hP : va_P (dC, dI) vwCl [(hm, .inr (3, [.int 0, .int 0, .ref wi, .ref co, .ref sl, .ref rn, .ref so, .ref bn, .ref sm, .ref ah])), (sm, .inr (2, [.int 0, .ref gr, .ref gt, .ref gw, .ref gk, .ref gi, .ref gp, .ref go, .ref gg, .ref gh])), (wi, .inl (d1, 6, .inl (upd (fun _ => 0) 0 a1))), (co, .inl (d2, 6, .inl (upd (fun _ => 0) 0 a2))), (sl, .inl (d3, 6, .inl (upd (fun _ => 0) 0 a3))), (gr, .inl (d4, 6, .inl (fun _ => 0)))] H := hP
        have hD : va_D A [(hm, .inr (3, [.int 0, .int 0, .ref wi, .ref co, .ref sl, .ref rn, .ref so, .ref bn, .ref sm, .ref ah])), (sm, .inr (2, [.int 0, .ref gr, .ref gt, .ref gw, .ref gk, .ref gi, .ref gp, .ref go, .ref gg, .ref gh])), (wi, .inl (d1, 6, .inl (upd (fun _ => 0) 0 a1))), (co, .inl (d2, 6, .inl (upd (fun _ => 0) 0 a2))), (sl, .inl (d3, 6, .inl (upd (fun _ => 0) 0 a3))), (gr, .inl (d4, 6, .inl (fun _ => 0)))] := hD
        refine lv_aload_n hx hb dX3_build_87 rfl (lv_at hl 0 rfl) ?_
        refine va_get (D := (dC, dI)) (ci := 3) (v := .ref sm) (C := RX3) (T := TX3) (N := 10) hx hb hts (by decide +kernel) hown hK hP 0 rfl rfl 8 (by decide) (hts (.fieldLink RX3 33 "ThatchRoofModel" "s" "LThatchRoofModel$State;") (by decide +kernel)) (fun _ h9 => h9) rfl dX3_build_88 ?_
        refine va_getN (D := (dC, dI)) (ci := 2) (v := .ref gr) (C := RX2) (T := TX2) (N := 10) hx hb hts (by decide +kernel) hown hK hP 1 rfl rfl 1 (by decide) (va_Nw.use rfl (zN_RX3_63 hZN)) (fun _ h9 => h9) rfl dX3_build_91 ?_
        refine lv_aload_n hx hb dX3_build_94 rfl (lv_at hl 0 rfl) ?_
        refine va_get (D := (dC, dI)) (ci := 3) (v := .int 0) (C := RX3) (T := TX3) (N := 10) hx hb hts (by decide +kernel) hown hK hP 0 rfl rfl 1 (by decide) (hts (.fieldLink RX3 44 "ThatchRoofModel" "roofs" "I") (by decide +kernel)) (fun _ h9 => h9) rfl dX3_build_95 ?_
        refine lv_bipush (v := 100) hx hb dX3_build_98 (by decide) ?_
        refine va_iast hx hb hK hP hD hS 5 3 rfl rfl (vp_in_nI (n := 0) (by decide) (by decide)) dX3_build_100 (fun H locs hP hD hS => ?_)
        have hP : va_P (dC, dI) vwCl [(hm, .inr (3, [.int 0, .int 0, .ref wi, .ref co, .ref sl, .ref rn, .ref so, .ref bn, .ref sm, .ref ah])), (sm, .inr (2, [.int 0, .ref gr, .ref gt, .ref gw, .ref gk, .ref gi, .ref gp, .ref go, .ref gg, .ref gh])), (wi, .inl (d1, 6, .inl (upd (fun _ => 0) 0 a1))), (co, .inl (d2, 6, .inl (upd (fun _ => 0) 0 a2))), (sl, .inl (d3, 6, .inl (upd (fun _ => 0) 0 a3))), (gr, .inl (d4, 6, .inl (upd (fun _ => 0) 0 100)))] H := hP
        have hD : va_D A [(hm, .inr (3, [.int 0, .int 0, .ref wi, .ref co, .ref sl, .ref rn, .ref so, .ref bn, .ref sm, .ref ah])), (sm, .inr (2, [.int 0, .ref gr, .ref gt, .ref gw, .ref gk, .ref gi, .ref gp, .ref go, .ref gg, .ref gh])), (wi, .inl (d1, 6, .inl (upd (fun _ => 0) 0 a1))), (co, .inl (d2, 6, .inl (upd (fun _ => 0) 0 a2))), (sl, .inl (d3, 6, .inl (upd (fun _ => 0) 0 a3))), (gr, .inl (d4, 6, .inl (upd (fun _ => 0) 0 100)))] := hD
        refine lv_aload_n hx hb dX3_build_101 rfl (lv_at hl 0 rfl) ?_
        refine lv_dup hx hb dX3_build_102 rfl ?_
        refine va_get (D := (dC, dI)) (ci := 3) (v := .int 0) (C := RX3) (T := TX3) (N := 10) hx hb hts (by decide +kernel) hown hK hP 0 rfl rfl 1 (by decide) (hts (.fieldLink RX3 44 "ThatchRoofModel" "roofs" "I") (by decide +kernel)) (fun _ h9 => h9) rfl dX3_build_103 ?_
        refine lv_iconst (v := 1) hx hb dX3_build_106 (by decide) ?_
        refine lv_iadd hx hb dX3_build_107 ?_
        refine W.eq (g2 := F0 m 108 ls [.int 1, .ref hm]) rfl ?_
        refine va_put (D := (dC, dI)) (ci := 3) (v := .int 1) (ty := .int) (C := RX3) (T := TX3) (N := 10) hx hb hts (by decide +kernel) tyX3 tyX3_ok nmX3 hown hK hP hD hS 0 rfl rfl 1 (by decide) (hts (.fieldLink RX3 44 "ThatchRoofModel" "roofs" "I") (by decide +kernel)) (fun _ h9 => h9) rfl (by decide +kernel) rfl rfl (Nat.le_of_ble_eq_true rfl) dX3_build_108 (fun H locs hP hD hS => ?_)
        have hP : va_P (dC, dI) vwCl [(hm, .inr (3, [.int 0, .int 1, .ref wi, .ref co, .ref sl, .ref rn, .ref so, .ref bn, .ref sm, .ref ah])), (sm, .inr (2, [.int 0, .ref gr, .ref gt, .ref gw, .ref gk, .ref gi, .ref gp, .ref go, .ref gg, .ref gh])), (wi, .inl (d1, 6, .inl (upd (fun _ => 0) 0 a1))), (co, .inl (d2, 6, .inl (upd (fun _ => 0) 0 a2))), (sl, .inl (d3, 6, .inl (upd (fun _ => 0) 0 a3))), (gr, .inl (d4, 6, .inl (upd (fun _ => 0) 0 100)))] H := hP
        have hD : va_D A [(hm, .inr (3, [.int 0, .int 1, .ref wi, .ref co, .ref sl, .ref rn, .ref so, .ref bn, .ref sm, .ref ah])), (sm, .inr (2, [.int 0, .ref gr, .ref gt, .ref gw, .ref gk, .ref gi, .ref gp, .ref go, .ref gg, .ref gh])), (wi, .inl (d1, 6, .inl (upd (fun _ => 0) 0 a1))), (co, .inl (d2, 6, .inl (upd (fun _ => 0) 0 a2))), (sl, .inl (d3, 6, .inl (upd (fun _ => 0) 0 a3))), (gr, .inl (d4, 6, .inl (upd (fun _ => 0) 0 100)))] := hD
        refine lv_aload_n hx hb dX3_build_111 rfl (lv_at hl 0 rfl) ?_
        refine va_get (D := (dC, dI)) (ci := 3) (v := .int 1) (C := RX3) (T := TX3) (N := 10) hx hb hts (by decide +kernel) hown hK hP 0 rfl rfl 1 (by decide) (hts (.fieldLink RX3 44 "ThatchRoofModel" "roofs" "I") (by decide +kernel)) (fun _ h9 => h9) rfl dX3_build_112 ?_
        refine lv_iconst (v := 1) hx hb dX3_build_115 (by decide) ?_
        refine lv_isub hx hb dX3_build_116 ?_
        refine W.eq (g2 := F0 m 117 ls [.int 0]) rfl ?_
        have hP9 := hP.sub (ws' := [(hm, .inr (3, [.int 0, .int 1, .ref wi, .ref co, .ref sl, .ref rn, .ref so, .ref bn, .ref sm, .ref ah]))]) [0] rfl
        have hD9 := hD.sub (ws' := [(hm, .inr (3, [.int 0, .int 1, .ref wi, .ref co, .ref sl, .ref rn, .ref so, .ref bn, .ref sm, .ref ah]))]) [0] (by decide) rfl
        have hK9 := hK.sub (tys' := []) [] rfl
        refine W.widen (k := 0) (n := 0) (Nat.le_of_ble_eq_true rfl) (Nat.le_of_ble_eq_true rfl) ?_
        exact W.iret (v := 0) hx hb hr (fun t ht hW => ⟨⟨0, (0, 1), rfl, by first | (refine Or.inl ?_; (refine ⟨?_, ?_, ?_⟩ <;> (first | rfl | assumption | decide | (simp_all; done) | grind)); done) | (refine Or.inr ?_; (refine ⟨?_, ?_, ?_⟩ <;> (first | rfl | assumption | decide | (simp_all; done) | grind)); done), ⟨by rw [ht]; exact hP9, va_K.moved hW.alike hK9, hD9⟩⟩, hS.F ht⟩) hS.2.2 dX3_build_117
      · refine lv_if_ne (tgt := 42) hx hb dX3_build_33 (by decide) (fun c8 => absurd c8 (by decide)) (fun c8 => ?_)
        refine lv_aload_n hx hb dX3_build_36 rfl (lv_at hl 0 rfl) ?_
        refine lv_iconst (v := 1) hx hb dX3_build_37 (by decide) ?_
        have hPc := hP.sub (ws' := [(hm, .inr (3, [.int 0, .int 0, .ref wi, .ref co, .ref sl, .ref rn, .ref so, .ref bn, .ref sm, .ref ah]))]) [0] rfl
        have hKc := hK.sub (tys' := []) [] rfl
        have hDc := hD.sub (ws' := [(hm, .inr (3, [.int 0, .int 0, .ref wi, .ref co, .ref sl, .ref rn, .ref so, .ref bn, .ref sm, .ref ah]))]) [0] (by decide) rfl
        have hFc := va_free (wc := [(hm, .inr (3, [.int 0, .int 0, .ref wi, .ref co, .ref sl, .ref rn, .ref so, .ref bn, .ref sm, .ref ah]))]) hD hS hA [0] rfl
        refine va_calli (va_runV (As := [.int 1]) (rest := []) ⟨hx, hb, hml, hown, hts⟩ (k3_no l dC dI H.size hm wi co sl rn so bn sm ah 0 0 1 ) (cwV 1 hts gX3_build_X3_no rfl rfl rfl (by decide +kernel) ⟨Nat.le_of_ble_eq_true rfl, Nat.le_of_ble_eq_true rfl⟩) ⟨fun a U g mk q => by obtain ⟨q0, q1, qP, qK, qD⟩ := q; exact ⟨q0, q1, qP, va_K.moved (u := U) (U := U.calling g mk a) (Vm.Alike.refl U.vm) qK, qD⟩, va_recv hKc hPc (ci := 3) (q0 := 0) rfl rfl, fun U hU hW => ⟨rfl, by rw [hU], by rw [hU]; exact hPc, va_K.moved hW.alike hKc, hDc.weaken (fun _ _ _ _ => trivial)⟩⟩ rfl rfl hl.1 rfl (lv_room (Nat.le_of_ble_eq_true rfl)) dX3_build_38 ⟨Nat.le_of_ble_eq_true rfl, Nat.le_of_ble_eq_true rfl⟩) hS (fun q _ h => hFc q h) hFc (fun r9 u t H1 locs ht hvm hr9 hB hz1 hk1 hS => ?_)
        obtain ⟨hP1, hK1, hD1⟩ := hB
        rw [ht] at hP1
        have hK1 := va_K.moved hvm.symm hK1
        try dsimp only at hr9
        obtain ⟨hP, hD⟩ := va_join (wr := [(sm, .inr (2, [.int 0, .ref gr, .ref gt, .ref gw, .ref gk, .ref gi, .ref gp, .ref go, .ref gg, .ref gh])), (wi, .inl (d1, 6, .inl (fun _ => 0))), (co, .inl (d2, 6, .inl (fun _ => 0))), (sl, .inl (d3, 6, .inl (fun _ => 0))), (gr, .inl (d4, 6, .inl (fun _ => 0)))]) (w1 := [(hm, .inr (3, [.int 1, .int 0, .ref wi, .ref co, .ref sl, .ref rn, .ref so, .ref bn, .ref sm, .ref ah]))]) hP hD [0] [1, 2, 3, 4, 5] rfl rfl (by decide) (by decide) hk1 hFc hP1 hD1
        generalize H1 = H at hP hS ⊢
        have hP : va_P (dC, dI) vwCl [(sm, .inr (2, [.int 0, .ref gr, .ref gt, .ref gw, .ref gk, .ref gi, .ref gp, .ref go, .ref gg, .ref gh])), (wi, .inl (d1, 6, .inl (fun _ => 0))), (co, .inl (d2, 6, .inl (fun _ => 0))), (sl, .inl (d3, 6, .inl (fun _ => 0))), (gr, .inl (d4, 6, .inl (fun _ => 0))), (hm, .inr (3, [.int 1, .int 0, .ref wi, .ref co, .ref sl, .ref rn, .ref so, .ref bn, .ref sm, .ref ah]))] H := hP
        have hD : va_D A [(sm, .inr (2, [.int 0, .ref gr, .ref gt, .ref gw, .ref gk, .ref gi, .ref gp, .ref go, .ref gg, .ref gh])), (wi, .inl (d1, 6, .inl (fun _ => 0))), (co, .inl (d2, 6, .inl (fun _ => 0))), (sl, .inl (d3, 6, .inl (fun _ => 0))), (gr, .inl (d4, 6, .inl (fun _ => 0))), (hm, .inr (3, [.int 1, .int 0, .ref wi, .ref co, .ref sl, .ref rn, .ref so, .ref bn, .ref sm, .ref ah]))] := hD
        obtain rfl := hr9
        have hP9 := hP.sub (ws' := [(hm, .inr (3, [.int 1, .int 0, .ref wi, .ref co, .ref sl, .ref rn, .ref so, .ref bn, .ref sm, .ref ah]))]) [5] rfl
        have hD9 := hD.sub (ws' := [(hm, .inr (3, [.int 1, .int 0, .ref wi, .ref co, .ref sl, .ref rn, .ref so, .ref bn, .ref sm, .ref ah]))]) [5] (by decide) rfl
        have hK9 := hK.sub (tys' := []) [] rfl
        refine W.widen (k := 0) (n := 0) (Nat.le_of_ble_eq_true rfl) (Nat.le_of_ble_eq_true rfl) ?_
        exact W.iret (v := 0) hx hb hr (fun t ht hW => ⟨⟨0, (1, 0), rfl, by first | (refine Or.inl ?_; (refine ⟨?_, ?_, ?_⟩ <;> (first | rfl | assumption | decide | (simp_all; done) | grind)); done) | (refine Or.inr ?_; (refine ⟨?_, ?_, ?_⟩ <;> (first | rfl | assumption | decide | (simp_all; done) | grind)); done), ⟨by rw [ht]; exact hP9, va_K.moved hW.alike hK9, hD9⟩⟩, hS.F ht⟩) hS.2.2 dX3_build_41
    · refine lv_if_eq (tgt := 36) hx hb dX3_build_22 (by decide) (fun c10 => ?_) (fun c10 => absurd c10 (by decide))
      refine lv_aload_n hx hb dX3_build_36 rfl (lv_at hl 0 rfl) ?_
      refine lv_iconst (v := 1) hx hb dX3_build_37 (by decide) ?_
      have hPc := hP.sub (ws' := [(hm, .inr (3, [.int 0, .int 0, .ref wi, .ref co, .ref sl, .ref rn, .ref so, .ref bn, .ref sm, .ref ah]))]) [0] rfl
      have hKc := hK.sub (tys' := []) [] rfl
      have hDc := hD.sub (ws' := [(hm, .inr (3, [.int 0, .int 0, .ref wi, .ref co, .ref sl, .ref rn, .ref so, .ref bn, .ref sm, .ref ah]))]) [0] (by decide) rfl
      have hFc := va_free (wc := [(hm, .inr (3, [.int 0, .int 0, .ref wi, .ref co, .ref sl, .ref rn, .ref so, .ref bn, .ref sm, .ref ah]))]) hD hS hA [0] rfl
      refine va_calli (va_runV (As := [.int 1]) (rest := []) ⟨hx, hb, hml, hown, hts⟩ (k3_no l dC dI H.size hm wi co sl rn so bn sm ah 0 0 1 ) (cwV 1 hts gX3_build_X3_no rfl rfl rfl (by decide +kernel) ⟨Nat.le_of_ble_eq_true rfl, Nat.le_of_ble_eq_true rfl⟩) ⟨fun a U g mk q => by obtain ⟨q0, q1, qP, qK, qD⟩ := q; exact ⟨q0, q1, qP, va_K.moved (u := U) (U := U.calling g mk a) (Vm.Alike.refl U.vm) qK, qD⟩, va_recv hKc hPc (ci := 3) (q0 := 0) rfl rfl, fun U hU hW => ⟨rfl, by rw [hU], by rw [hU]; exact hPc, va_K.moved hW.alike hKc, hDc.weaken (fun _ _ _ _ => trivial)⟩⟩ rfl rfl hl.1 rfl (lv_room (Nat.le_of_ble_eq_true rfl)) dX3_build_38 ⟨Nat.le_of_ble_eq_true rfl, Nat.le_of_ble_eq_true rfl⟩) hS (fun q _ h => hFc q h) hFc (fun r11 u t H1 locs ht hvm hr11 hB hz1 hk1 hS => ?_)
      obtain ⟨hP1, hK1, hD1⟩ := hB
      rw [ht] at hP1
      have hK1 := va_K.moved hvm.symm hK1
      try dsimp only at hr11
      obtain ⟨hP, hD⟩ := va_join (wr := [(sm, .inr (2, [.int 0, .ref gr, .ref gt, .ref gw, .ref gk, .ref gi, .ref gp, .ref go, .ref gg, .ref gh])), (wi, .inl (d1, 6, .inl (fun _ => 0))), (co, .inl (d2, 6, .inl (fun _ => 0))), (sl, .inl (d3, 6, .inl (fun _ => 0))), (gr, .inl (d4, 6, .inl (fun _ => 0)))]) (w1 := [(hm, .inr (3, [.int 1, .int 0, .ref wi, .ref co, .ref sl, .ref rn, .ref so, .ref bn, .ref sm, .ref ah]))]) hP hD [0] [1, 2, 3, 4, 5] rfl rfl (by decide) (by decide) hk1 hFc hP1 hD1
      generalize H1 = H at hP hS ⊢
      have hP : va_P (dC, dI) vwCl [(sm, .inr (2, [.int 0, .ref gr, .ref gt, .ref gw, .ref gk, .ref gi, .ref gp, .ref go, .ref gg, .ref gh])), (wi, .inl (d1, 6, .inl (fun _ => 0))), (co, .inl (d2, 6, .inl (fun _ => 0))), (sl, .inl (d3, 6, .inl (fun _ => 0))), (gr, .inl (d4, 6, .inl (fun _ => 0))), (hm, .inr (3, [.int 1, .int 0, .ref wi, .ref co, .ref sl, .ref rn, .ref so, .ref bn, .ref sm, .ref ah]))] H := hP
      have hD : va_D A [(sm, .inr (2, [.int 0, .ref gr, .ref gt, .ref gw, .ref gk, .ref gi, .ref gp, .ref go, .ref gg, .ref gh])), (wi, .inl (d1, 6, .inl (fun _ => 0))), (co, .inl (d2, 6, .inl (fun _ => 0))), (sl, .inl (d3, 6, .inl (fun _ => 0))), (gr, .inl (d4, 6, .inl (fun _ => 0))), (hm, .inr (3, [.int 1, .int 0, .ref wi, .ref co, .ref sl, .ref rn, .ref so, .ref bn, .ref sm, .ref ah]))] := hD
      obtain rfl := hr11
      have hP9 := hP.sub (ws' := [(hm, .inr (3, [.int 1, .int 0, .ref wi, .ref co, .ref sl, .ref rn, .ref so, .ref bn, .ref sm, .ref ah]))]) [5] rfl
      have hD9 := hD.sub (ws' := [(hm, .inr (3, [.int 1, .int 0, .ref wi, .ref co, .ref sl, .ref rn, .ref so, .ref bn, .ref sm, .ref ah]))]) [5] (by decide) rfl
      have hK9 := hK.sub (tys' := []) [] rfl
      refine W.widen (k := 0) (n := 0) (Nat.le_of_ble_eq_true rfl) (Nat.le_of_ble_eq_true rfl) ?_
      exact W.iret (v := 0) hx hb hr (fun t ht hW => ⟨⟨0, (1, 0), rfl, by first | (refine Or.inl ?_; (refine ⟨?_, ?_, ?_⟩ <;> (first | rfl | assumption | decide | (simp_all; done) | grind)); done) | (refine Or.inr ?_; (refine ⟨?_, ?_, ?_⟩ <;> (first | rfl | assumption | decide | (simp_all; done) | grind)); done), ⟨by rw [ht]; exact hP9, va_K.moved hW.alike hK9, hD9⟩⟩, hS.F ht⟩) hS.2.2 dX3_build_41
  · refine lv_if_eq (tgt := 36) hx hb dX3_build_12 (by decide) (fun c12 => ?_) (fun c12 => absurd c12 (by decide))
    refine lv_aload_n hx hb dX3_build_36 rfl (lv_at hl 0 rfl) ?_
    refine lv_iconst (v := 1) hx hb dX3_build_37 (by decide) ?_
    have hPc := hP.sub (ws' := [(hm, .inr (3, [.int 0, .int 0, .ref wi, .ref co, .ref sl, .ref rn, .ref so, .ref bn, .ref sm, .ref ah]))]) [0] rfl
    have hKc := hK.sub (tys' := []) [] rfl
    have hDc := hD.sub (ws' := [(hm, .inr (3, [.int 0, .int 0, .ref wi, .ref co, .ref sl, .ref rn, .ref so, .ref bn, .ref sm, .ref ah]))]) [0] (by decide) rfl
    have hFc := va_free (wc := [(hm, .inr (3, [.int 0, .int 0, .ref wi, .ref co, .ref sl, .ref rn, .ref so, .ref bn, .ref sm, .ref ah]))]) hD hS hA [0] rfl
    refine va_calli (va_runV (As := [.int 1]) (rest := []) ⟨hx, hb, hml, hown, hts⟩ (k3_no l dC dI H.size hm wi co sl rn so bn sm ah 0 0 1 ) (cwV 1 hts gX3_build_X3_no rfl rfl rfl (by decide +kernel) ⟨Nat.le_of_ble_eq_true rfl, Nat.le_of_ble_eq_true rfl⟩) ⟨fun a U g mk q => by obtain ⟨q0, q1, qP, qK, qD⟩ := q; exact ⟨q0, q1, qP, va_K.moved (u := U) (U := U.calling g mk a) (Vm.Alike.refl U.vm) qK, qD⟩, va_recv hKc hPc (ci := 3) (q0 := 0) rfl rfl, fun U hU hW => ⟨rfl, by rw [hU], by rw [hU]; exact hPc, va_K.moved hW.alike hKc, hDc.weaken (fun _ _ _ _ => trivial)⟩⟩ rfl rfl hl.1 rfl (lv_room (Nat.le_of_ble_eq_true rfl)) dX3_build_38 ⟨Nat.le_of_ble_eq_true rfl, Nat.le_of_ble_eq_true rfl⟩) hS (fun q _ h => hFc q h) hFc (fun r13 u t H1 locs ht hvm hr13 hB hz1 hk1 hS => ?_)
    obtain ⟨hP1, hK1, hD1⟩ := hB
    rw [ht] at hP1
    have hK1 := va_K.moved hvm.symm hK1
    try dsimp only at hr13
    obtain ⟨hP, hD⟩ := va_join (wr := [(sm, .inr (2, [.int 0, .ref gr, .ref gt, .ref gw, .ref gk, .ref gi, .ref gp, .ref go, .ref gg, .ref gh])), (wi, .inl (d1, 6, .inl (fun _ => 0))), (co, .inl (d2, 6, .inl (fun _ => 0))), (sl, .inl (d3, 6, .inl (fun _ => 0))), (gr, .inl (d4, 6, .inl (fun _ => 0)))]) (w1 := [(hm, .inr (3, [.int 1, .int 0, .ref wi, .ref co, .ref sl, .ref rn, .ref so, .ref bn, .ref sm, .ref ah]))]) hP hD [0] [1, 2, 3, 4, 5] rfl rfl (by decide) (by decide) hk1 hFc hP1 hD1
    generalize H1 = H at hP hS ⊢
    have hP : va_P (dC, dI) vwCl [(sm, .inr (2, [.int 0, .ref gr, .ref gt, .ref gw, .ref gk, .ref gi, .ref gp, .ref go, .ref gg, .ref gh])), (wi, .inl (d1, 6, .inl (fun _ => 0))), (co, .inl (d2, 6, .inl (fun _ => 0))), (sl, .inl (d3, 6, .inl (fun _ => 0))), (gr, .inl (d4, 6, .inl (fun _ => 0))), (hm, .inr (3, [.int 1, .int 0, .ref wi, .ref co, .ref sl, .ref rn, .ref so, .ref bn, .ref sm, .ref ah]))] H := hP
    have hD : va_D A [(sm, .inr (2, [.int 0, .ref gr, .ref gt, .ref gw, .ref gk, .ref gi, .ref gp, .ref go, .ref gg, .ref gh])), (wi, .inl (d1, 6, .inl (fun _ => 0))), (co, .inl (d2, 6, .inl (fun _ => 0))), (sl, .inl (d3, 6, .inl (fun _ => 0))), (gr, .inl (d4, 6, .inl (fun _ => 0))), (hm, .inr (3, [.int 1, .int 0, .ref wi, .ref co, .ref sl, .ref rn, .ref so, .ref bn, .ref sm, .ref ah]))] := hD
    obtain rfl := hr13
    have hP9 := hP.sub (ws' := [(hm, .inr (3, [.int 1, .int 0, .ref wi, .ref co, .ref sl, .ref rn, .ref so, .ref bn, .ref sm, .ref ah]))]) [5] rfl
    have hD9 := hD.sub (ws' := [(hm, .inr (3, [.int 1, .int 0, .ref wi, .ref co, .ref sl, .ref rn, .ref so, .ref bn, .ref sm, .ref ah]))]) [5] (by decide) rfl
    have hK9 := hK.sub (tys' := []) [] rfl
    refine W.widen (k := 0) (n := 0) (Nat.le_of_ble_eq_true rfl) (Nat.le_of_ble_eq_true rfl) ?_
    exact W.iret (v := 0) hx hb hr (fun t ht hW => ⟨⟨0, (1, 0), rfl, by first | (refine Or.inl ?_; (refine ⟨?_, ?_, ?_⟩ <;> (first | rfl | assumption | decide | (simp_all; done) | grind)); done) | (refine Or.inr ?_; (refine ⟨?_, ?_, ?_⟩ <;> (first | rfl | assumption | decide | (simp_all; done) | grind)); done), ⟨by rw [ht]; exact hP9, va_K.moved hW.alike hK9, hD9⟩⟩, hS.F ht⟩) hS.2.2 dX3_build_41

set_option maxHeartbeats 4000000 in
set_option maxRecDepth 100000 in
theorem k3_bring (l : Launch) (dC : Nat → ClassId) (dI : Nat → Nat → Nat) (sz : Nat) (hm : Nat) (wi : Nat) (co : Nat) (sl : Nat) (rn : Nat) (so : Nat) (bn : Nat) (sm : Nat) (ah : Nat) (th : Int32) (d5 : ClassId) (a1 : Int32) (a2 : Int32) : Met l yX3_bring wsX3_bring ({ frames := 1, cells := 0, slots := 0, locals := 22 }) (va_Pc [.ref hm, .int a1, .int a2] (fun U => U.heap.size = sz ∧ va_P (dC, dI) vwCl [(hm, .inr (3, [.int th, .int 0, .ref wi, .ref co, .ref sl, .ref rn, .ref so, .ref bn, .ref sm, .ref ah])), (bn, .inl (d5, 3, .inl (fun _ => 0)))] U.heap ∧ va_K (dC, dI) vwCl [(d5, .int)] U ∧ va_D (fun _ => True) [(hm, .inr (3, [.int th, .int 0, .ref wi, .ref co, .ref sl, .ref rn, .ref so, .ref bn, .ref sm, .ref ah])), (bn, .inl (d5, 3, .inl (fun _ => 0)))])) (va_Qi (fun (r : Int32) (u : Int32 × Int32) => (r = a2 ∧ u.1 = 0 ∧ zIn a1 0 2 ∧ zIn a2 1 500) ∨ (r = 0 ∧ u.1 = 1 ∧ ¬ zIn a1 0 2) ∨ (r = 0 ∧ u.1 = 2 ∧ zIn a1 0 2 ∧ ¬ zIn a2 1 500)) (fun (u : Int32 × Int32) (t : State) => va_P (dC, dI) vwCl [(hm, .inr (3, [.int u.1, .int u.2, .ref wi, .ref co, .ref sl, .ref rn, .ref so, .ref bn, .ref sm, .ref ah]))] t.heap ∧ va_K (dC, dI) vwCl [] t ∧ va_D (va_A [(hm, .inr (3, [.int th, .int 0, .ref wi, .ref co, .ref sl, .ref rn, .ref so, .ref bn, .ref sm, .ref ah])), (bn, .inl (d5, 3, .inl (fun _ => 0)))] sz) [(hm, .inr (3, [.int u.1, .int u.2, .ref wi, .ref co, .ref sl, .ref rn, .ref so, .ref bn, .ref sm, .ref ah]))]) (va_A [(hm, .inr (3, [.int th, .int 0, .ref wi, .ref co, .ref sl, .ref rn, .ref so, .ref bn, .ref sm, .ref ah])), (bn, .inl (d5, 3, .inl (fun _ => 0)))] sz)) 0 0 (va_A [(hm, .inr (3, [.int th, .int 0, .ref wi, .ref co, .ref sl, .ref rn, .ref so, .ref bn, .ref sm, .ref ah])), (bn, .inl (d5, 3, .inl (fun _ => 0)))] sz) := by
  refine Met.ofW (cc := cX3_bring) (maxL := 3) (ret := (some .int)) (by decide) rfl ?_
  intro p e s m args below meth c s₁ B hml hv
  obtain ⟨rfl, hsz, hP, hK, hD0⟩ := hv
  have hx := B.exec
  have hb := B.bytes
  have hr := B.returns
  have hts := atoms_spec (ws := wsX3_bring) B.pre
  have hown : s.vm.findClass RX3 = some m.cls := findClass_of_methodNamed B.named
  have hlocks := B.notSynchronized
  subst hsz
  have hD := hD0.self (sz := s.heap.size)
  generalize hAe : va_A [(hm, .inr (3, [.int th, .int 0, .ref wi, .ref co, .ref sl, .ref rn, .ref so, .ref bn, .ref sm, .ref ah])), (bn, .inl (d5, 3, .inl (fun _ => 0)))] s.heap.size = A at hD ⊢
  have hA : ∀ q : Nat, s.heap.size ≤ q → A q := fun q h => by rw [← hAe]; exact Or.inr h
  have hS : va_S A s.heap s.heap [] := va_S.rf
  have hP : va_P (dC, dI) vwCl [(hm, .inr (3, [.int th, .int 0, .ref wi, .ref co, .ref sl, .ref rn, .ref so, .ref bn, .ref sm, .ref ah])), (bn, .inl (d5, 3, .inl (fun _ => 0)))] s.heap := hP
  have hl := lv_entry ([.ref hm, .int a1, .int a2]) (n := 3) (Nat.le_of_ble_eq_true rfl)
  rw [lg_entry_eq]
  generalize (lg_sl ([.ref hm, .int a1, .int a2]) ++ List.replicate (3 - (lg_sl ([.ref hm, .int a1, .int a2])).length) Slot.unset).toArray = ls at hl ⊢
  have hl : lv_has ls 3 [(0, .ref hm), (1, .int a1), (2, .int a2)] := hl
  refine lv_aload_n hx hb dX3_bring_0 rfl (lv_at hl 0 rfl) ?_
  refine lv_iconst (v := 0) hx hb dX3_bring_1 (by decide) ?_
  refine va_put (D := (dC, dI)) (ci := 3) (v := .int 0) (ty := .int) (C := RX3) (T := TX3) (N := 10) hx hb hts (by decide +kernel) tyX3 tyX3_ok nmX3 hown hK hP hD hS 0 rfl rfl 0 (by decide) (hts (.fieldLink RX3 40 "ThatchRoofModel" "thrown" "I") (by decide +kernel)) (fun _ h9 => h9) rfl (by decide +kernel) rfl rfl (Nat.le_of_ble_eq_true rfl) dX3_bring_2 (fun H locs hP hD hS => ?_)
  have hP : va_P (dC, dI) vwCl [(hm, .inr (3, [.int 0, .int 0, .ref wi, .ref co, .ref sl, .ref rn, .ref so, .ref bn, .ref sm, .ref ah])), (bn, .inl (d5, 3, .inl (fun _ => 0)))] H := hP
  have hD : va_D A [(hm, .inr (3, [.int 0, .int 0, .ref wi, .ref co, .ref sl, .ref rn, .ref so, .ref bn, .ref sm, .ref ah])), (bn, .inl (d5, 3, .inl (fun _ => 0)))] := hD
  refine lv_iload_n hx hb dX3_bring_5 rfl (lv_at hl 1 rfl) ?_
  refine lv_iconst (v := 0) hx hb dX3_bring_6 (by decide) ?_
  refine lv_iconst (v := 2) hx hb dX3_bring_7 (by decide) ?_
  refine vp_callSi (va_runS (As := [.int a1, .int 0, .int 2]) (rest := []) ⟨hx, hb, hml, hown, hts⟩ (k3_isIn l dC dI a1 0 2 ) (va_cwS 3 hts gX3_bring_X3_isIn rfl rfl rfl (by decide +kernel) ⟨Nat.le_of_ble_eq_true rfl, Nat.le_of_ble_eq_true rfl⟩) ⟨fun a U g mk q => q, fun U hU hW => ⟨rfl, trivial⟩⟩ rfl rfl hl.1 rfl (lv_room (Nat.le_of_ble_eq_true rfl)) dX3_bring_8 ⟨Nat.le_of_ble_eq_true rfl, Nat.le_of_ble_eq_true rfl⟩).run (fun r1 hr1 => ?_)
  rcases hr1 with ⟨rfl, fr1_0_0⟩ | ⟨rfl, fr1_1_0⟩
  · refine lv_if_ne (tgt := 20) hx hb dX3_bring_11 (by decide) (fun c2 => ?_) (fun c2 => absurd c2 (by decide))
    refine lv_iload_n hx hb dX3_bring_20 rfl (lv_at hl 2 rfl) ?_
    refine lv_iconst (v := 1) hx hb dX3_bring_21 (by decide) ?_
    refine lv_sipush (v := 500) hx hb dX3_bring_22 (by decide) ?_
    refine vp_callSi (va_runS (As := [.int a2, .int 1, .int 500]) (rest := []) ⟨hx, hb, hml, hown, hts⟩ (k3_isIn l dC dI a2 1 500 ) (va_cwS 3 hts gX3_bring_X3_isIn rfl rfl rfl (by decide +kernel) ⟨Nat.le_of_ble_eq_true rfl, Nat.le_of_ble_eq_true rfl⟩) ⟨fun a U g mk q => q, fun U hU hW => ⟨rfl, trivial⟩⟩ rfl rfl hl.1 rfl (lv_room (Nat.le_of_ble_eq_true rfl)) dX3_bring_25 ⟨Nat.le_of_ble_eq_true rfl, Nat.le_of_ble_eq_true rfl⟩).run (fun r3 hr3 => ?_)
    rcases hr3 with ⟨rfl, fr3_0_0⟩ | ⟨rfl, fr3_1_0⟩
    · refine lv_if_ne (tgt := 37) hx hb dX3_bring_28 (by decide) (fun c4 => ?_) (fun c4 => absurd c4 (by decide))
      refine lv_aload_n hx hb dX3_bring_37 rfl (lv_at hl 0 rfl) ?_
      refine va_get (D := (dC, dI)) (ci := 3) (v := .ref bn) (C := RX3) (T := TX3) (N := 10) hx hb hts (by decide +kernel) hown hK hP 0 rfl rfl 7 (by decide) (hts (.fieldLink RX3 25 "ThatchRoofModel" "barn" "[I") (by decide +kernel)) (fun _ h9 => h9) rfl dX3_bring_38 ?_
      refine lv_iload_n hx hb dX3_bring_41 rfl (lv_at hl 1 rfl) ?_
      refine va_iald hx hb hK hP 1 0 rfl rfl (zIn_in (hi := 2) (by assumption) (by decide)) dX3_bring_42 ?_
      refine lv_topi (fun x5 ex5 => ?_)
      obtain rfl : x5 = 0 := ex5
      refine lv_iload_n hx hb dX3_bring_43 rfl (lv_at hl 2 rfl) ?_
      refine lv_iadd hx hb dX3_bring_44 ?_
      refine lv_topi (fun x6 ex6 => ?_)
      refine lv_sipush (v := 500) hx hb dX3_bring_45 (by decide) ?_
      refine lv_icmp_le (tgt := 57) hx hb dX3_bring_48 (by decide) (fun c7 => ?_) (fun c7 => absurd (show x6 ≤ 500 by rw [ex6, Int32.zero_add]; exact Int32.not_lt.mp (show zIn a2 1 500 by assumption).2) c7)
      refine lv_aload_n hx hb dX3_bring_57 rfl (lv_at hl 0 rfl) ?_
      refine va_get (D := (dC, dI)) (ci := 3) (v := .ref bn) (C := RX3) (T := TX3) (N := 10) hx hb hts (by decide +kernel) hown hK hP 0 rfl rfl 7 (by decide) (hts (.fieldLink RX3 25 "ThatchRoofModel" "barn" "[I") (by decide +kernel)) (fun _ h9 => h9) rfl dX3_bring_58 ?_
      refine lv_iload_n hx hb dX3_bring_61 rfl (lv_at hl 1 rfl) ?_
      refine lv_dup2_11 hx hb dX3_bring_62 rfl rfl ?_
      refine va_iald hx hb hK hP 1 0 rfl rfl (zIn_in (hi := 2) (by assumption) (by decide)) dX3_bring_63 ?_
      refine lv_topi (fun x8 ex8 => ?_)
      obtain rfl : x8 = 0 := ex8
      refine lv_iload_n hx hb dX3_bring_64 rfl (lv_at hl 2 rfl) ?_
      refine lv_iadd hx hb dX3_bring_65 ?_
      refine lv_topi (fun x9 ex9 => ?_)
      refine va_iast hx hb hK hP hD hS 1 0 rfl rfl (zIn_in (hi := 2) (by assumption) (by decide)) dX3_bring_66 (fun H locs hP hD hS => ?_)
      have hP : va_P (dC, dI) vwCl [(hm, .inr (3, [.int 0, .int 0, .ref wi, .ref co, .ref sl, .ref rn, .ref so, .ref bn, .ref sm, .ref ah])), (bn, .inl (d5, 3, .inl (upd (fun _ => 0) a1.toNatClampNeg x9)))] H := hP
      have hD : va_D A [(hm, .inr (3, [.int 0, .int 0, .ref wi, .ref co, .ref sl, .ref rn, .ref so, .ref bn, .ref sm, .ref ah])), (bn, .inl (d5, 3, .inl (upd (fun _ => 0) a1.toNatClampNeg x9)))] := hD
      refine lv_aload_n hx hb dX3_bring_67 rfl (lv_at hl 0 rfl) ?_
      refine va_get (D := (dC, dI)) (ci := 3) (v := .ref bn) (C := RX3) (T := TX3) (N := 10) hx hb hts (by decide +kernel) hown hK hP 0 rfl rfl 7 (by decide) (hts (.fieldLink RX3 25 "ThatchRoofModel" "barn" "[I") (by decide +kernel)) (fun _ h9 => h9) rfl dX3_bring_68 ?_
      refine lv_iload_n hx hb dX3_bring_71 rfl (lv_at hl 1 rfl) ?_
      refine va_iald hx hb hK hP 1 0 rfl rfl (zIn_in (hi := 2) (by assumption) (by decide)) dX3_bring_72 ?_
      refine lv_topi (fun x10 ex10 => ?_)
      have hP9 := hP.sub (ws' := [(hm, .inr (3, [.int 0, .int 0, .ref wi, .ref co, .ref sl, .ref rn, .ref so, .ref bn, .ref sm, .ref ah]))]) [0] rfl
      have hD9 := hD.sub (ws' := [(hm, .inr (3, [.int 0, .int 0, .ref wi, .ref co, .ref sl, .ref rn, .ref so, .ref bn, .ref sm, .ref ah]))]) [0] (by decide) rfl
      have hK9 := hK.sub (tys' := []) [] rfl
      refine W.widen (k := 0) (n := 0) (Nat.le_of_ble_eq_true rfl) (Nat.le_of_ble_eq_true rfl) ?_
      exact W.iret (v := x10) hx hb hr (fun t ht hW => ⟨⟨x10, (0, 0), rfl, Or.inl ⟨by rw [ex10, pk_us, ex9, Int32.zero_add], rfl, by assumption, by assumption⟩, ⟨by rw [ht]; exact hP9, va_K.moved hW.alike hK9, hD9⟩⟩, hS.F ht⟩) hS.2.2 dX3_bring_73
    · refine lv_if_ne (tgt := 37) hx hb dX3_bring_28 (by decide) (fun c11 => absurd c11 (by decide)) (fun c11 => ?_)
      refine lv_aload_n hx hb dX3_bring_31 rfl (lv_at hl 0 rfl) ?_
      refine lv_iconst (v := 2) hx hb dX3_bring_32 (by decide) ?_
      have hPc := hP.sub (ws' := [(hm, .inr (3, [.int 0, .int 0, .ref wi, .ref co, .ref sl, .ref rn, .ref so, .ref bn, .ref sm, .ref ah]))]) [0] rfl
      have hKc := hK.sub (tys' := []) [] rfl
      have hDc := hD.sub (ws' := [(hm, .inr (3, [.int 0, .int 0, .ref wi, .ref co, .ref sl, .ref rn, .ref so, .ref bn, .ref sm, .ref ah]))]) [0] (by decide) rfl
      have hFc := va_free (wc := [(hm, .inr (3, [.int 0, .int 0, .ref wi, .ref co, .ref sl, .ref rn, .ref so, .ref bn, .ref sm, .ref ah]))]) hD hS hA [0] rfl
      refine va_calli (va_runV (As := [.int 2]) (rest := []) ⟨hx, hb, hml, hown, hts⟩ (k3_no l dC dI H.size hm wi co sl rn so bn sm ah 0 0 2 ) (cwV 1 hts gX3_bring_X3_no rfl rfl rfl (by decide +kernel) ⟨Nat.le_of_ble_eq_true rfl, Nat.le_of_ble_eq_true rfl⟩) ⟨fun a U g mk q => by obtain ⟨q0, q1, qP, qK, qD⟩ := q; exact ⟨q0, q1, qP, va_K.moved (u := U) (U := U.calling g mk a) (Vm.Alike.refl U.vm) qK, qD⟩, va_recv hKc hPc (ci := 3) (q0 := 0) rfl rfl, fun U hU hW => ⟨rfl, by rw [hU], by rw [hU]; exact hPc, va_K.moved hW.alike hKc, hDc.weaken (fun _ _ _ _ => trivial)⟩⟩ rfl rfl hl.1 rfl (lv_room (Nat.le_of_ble_eq_true rfl)) dX3_bring_33 ⟨Nat.le_of_ble_eq_true rfl, Nat.le_of_ble_eq_true rfl⟩) hS (fun q _ h => hFc q h) hFc (fun r12 u t H1 locs ht hvm hr12 hB hz1 hk1 hS => ?_)
      obtain ⟨hP1, hK1, hD1⟩ := hB
      rw [ht] at hP1
      have hK1 := va_K.moved hvm.symm hK1
      try dsimp only at hr12
      obtain ⟨hP, hD⟩ := va_join (wr := [(bn, .inl (d5, 3, .inl (fun _ => 0)))]) (w1 := [(hm, .inr (3, [.int 2, .int 0, .ref wi, .ref co, .ref sl, .ref rn, .ref so, .ref bn, .ref sm, .ref ah]))]) hP hD [0] [1] rfl rfl (by decide) (by decide) hk1 hFc hP1 hD1
      generalize H1 = H at hP hS ⊢
      have hP : va_P (dC, dI) vwCl [(bn, .inl (d5, 3, .inl (fun _ => 0))), (hm, .inr (3, [.int 2, .int 0, .ref wi, .ref co, .ref sl, .ref rn, .ref so, .ref bn, .ref sm, .ref ah]))] H := hP
      have hD : va_D A [(bn, .inl (d5, 3, .inl (fun _ => 0))), (hm, .inr (3, [.int 2, .int 0, .ref wi, .ref co, .ref sl, .ref rn, .ref so, .ref bn, .ref sm, .ref ah]))] := hD
      obtain rfl := hr12
      have hP9 := hP.sub (ws' := [(hm, .inr (3, [.int 2, .int 0, .ref wi, .ref co, .ref sl, .ref rn, .ref so, .ref bn, .ref sm, .ref ah]))]) [1] rfl
      have hD9 := hD.sub (ws' := [(hm, .inr (3, [.int 2, .int 0, .ref wi, .ref co, .ref sl, .ref rn, .ref so, .ref bn, .ref sm, .ref ah]))]) [1] (by decide) rfl
      have hK9 := hK.sub (tys' := []) [] rfl
      refine W.widen (k := 0) (n := 0) (Nat.le_of_ble_eq_true rfl) (Nat.le_of_ble_eq_true rfl) ?_
      exact W.iret (v := 0) hx hb hr (fun t ht hW => ⟨⟨0, (2, 0), rfl, by first | (refine Or.inl ?_; (refine ⟨?_, ?_, ?_, ?_⟩ <;> (first | rfl | assumption | decide | (simp_all; done) | grind)); done) | (refine Or.inr ?_; refine Or.inl ?_; (refine ⟨?_, ?_, ?_⟩ <;> (first | rfl | assumption | decide | (simp_all; done) | grind)); done) | (refine Or.inr ?_; refine Or.inr ?_; (refine ⟨?_, ?_, ?_, ?_⟩ <;> (first | rfl | assumption | decide | (simp_all; done) | grind)); done), ⟨by rw [ht]; exact hP9, va_K.moved hW.alike hK9, hD9⟩⟩, hS.F ht⟩) hS.2.2 dX3_bring_36
  · refine lv_if_ne (tgt := 20) hx hb dX3_bring_11 (by decide) (fun c13 => absurd c13 (by decide)) (fun c13 => ?_)
    refine lv_aload_n hx hb dX3_bring_14 rfl (lv_at hl 0 rfl) ?_
    refine lv_iconst (v := 1) hx hb dX3_bring_15 (by decide) ?_
    have hPc := hP.sub (ws' := [(hm, .inr (3, [.int 0, .int 0, .ref wi, .ref co, .ref sl, .ref rn, .ref so, .ref bn, .ref sm, .ref ah]))]) [0] rfl
    have hKc := hK.sub (tys' := []) [] rfl
    have hDc := hD.sub (ws' := [(hm, .inr (3, [.int 0, .int 0, .ref wi, .ref co, .ref sl, .ref rn, .ref so, .ref bn, .ref sm, .ref ah]))]) [0] (by decide) rfl
    have hFc := va_free (wc := [(hm, .inr (3, [.int 0, .int 0, .ref wi, .ref co, .ref sl, .ref rn, .ref so, .ref bn, .ref sm, .ref ah]))]) hD hS hA [0] rfl
    refine va_calli (va_runV (As := [.int 1]) (rest := []) ⟨hx, hb, hml, hown, hts⟩ (k3_no l dC dI H.size hm wi co sl rn so bn sm ah 0 0 1 ) (cwV 1 hts gX3_bring_X3_no rfl rfl rfl (by decide +kernel) ⟨Nat.le_of_ble_eq_true rfl, Nat.le_of_ble_eq_true rfl⟩) ⟨fun a U g mk q => by obtain ⟨q0, q1, qP, qK, qD⟩ := q; exact ⟨q0, q1, qP, va_K.moved (u := U) (U := U.calling g mk a) (Vm.Alike.refl U.vm) qK, qD⟩, va_recv hKc hPc (ci := 3) (q0 := 0) rfl rfl, fun U hU hW => ⟨rfl, by rw [hU], by rw [hU]; exact hPc, va_K.moved hW.alike hKc, hDc.weaken (fun _ _ _ _ => trivial)⟩⟩ rfl rfl hl.1 rfl (lv_room (Nat.le_of_ble_eq_true rfl)) dX3_bring_16 ⟨Nat.le_of_ble_eq_true rfl, Nat.le_of_ble_eq_true rfl⟩) hS (fun q _ h => hFc q h) hFc (fun r14 u t H1 locs ht hvm hr14 hB hz1 hk1 hS => ?_)
    obtain ⟨hP1, hK1, hD1⟩ := hB
    rw [ht] at hP1
    have hK1 := va_K.moved hvm.symm hK1
    try dsimp only at hr14
    obtain ⟨hP, hD⟩ := va_join (wr := [(bn, .inl (d5, 3, .inl (fun _ => 0)))]) (w1 := [(hm, .inr (3, [.int 1, .int 0, .ref wi, .ref co, .ref sl, .ref rn, .ref so, .ref bn, .ref sm, .ref ah]))]) hP hD [0] [1] rfl rfl (by decide) (by decide) hk1 hFc hP1 hD1
    generalize H1 = H at hP hS ⊢
    have hP : va_P (dC, dI) vwCl [(bn, .inl (d5, 3, .inl (fun _ => 0))), (hm, .inr (3, [.int 1, .int 0, .ref wi, .ref co, .ref sl, .ref rn, .ref so, .ref bn, .ref sm, .ref ah]))] H := hP
    have hD : va_D A [(bn, .inl (d5, 3, .inl (fun _ => 0))), (hm, .inr (3, [.int 1, .int 0, .ref wi, .ref co, .ref sl, .ref rn, .ref so, .ref bn, .ref sm, .ref ah]))] := hD
    obtain rfl := hr14
    have hP9 := hP.sub (ws' := [(hm, .inr (3, [.int 1, .int 0, .ref wi, .ref co, .ref sl, .ref rn, .ref so, .ref bn, .ref sm, .ref ah]))]) [1] rfl
    have hD9 := hD.sub (ws' := [(hm, .inr (3, [.int 1, .int 0, .ref wi, .ref co, .ref sl, .ref rn, .ref so, .ref bn, .ref sm, .ref ah]))]) [1] (by decide) rfl
    have hK9 := hK.sub (tys' := []) [] rfl
    refine W.widen (k := 0) (n := 0) (Nat.le_of_ble_eq_true rfl) (Nat.le_of_ble_eq_true rfl) ?_
    exact W.iret (v := 0) hx hb hr (fun t ht hW => ⟨⟨0, (1, 0), rfl, by first | (refine Or.inl ?_; (refine ⟨?_, ?_, ?_, ?_⟩ <;> (first | rfl | assumption | decide | (simp_all; done) | grind)); done) | (refine Or.inr ?_; refine Or.inl ?_; (refine ⟨?_, ?_, ?_⟩ <;> (first | rfl | assumption | decide | (simp_all; done) | grind)); done) | (refine Or.inr ?_; refine Or.inr ?_; (refine ⟨?_, ?_, ?_, ?_⟩ <;> (first | rfl | assumption | decide | (simp_all; done) | grind)); done), ⟨by rw [ht]; exact hP9, va_K.moved hW.alike hK9, hD9⟩⟩, hS.F ht⟩) hS.2.2 dX3_bring_19

set_option maxHeartbeats 4000000 in
set_option maxRecDepth 100000 in
theorem k3_setWeather (l : Launch) (dC : Nat → ClassId) (dI : Nat → Nat → Nat) (sz : Nat) (hm : Nat) (wi : Nat) (co : Nat) (sl : Nat) (rn : Nat) (so : Nat) (bn : Nat) (sm : Nat) (ah : Nat) (th : Int32) (d6 : ClassId) (d7 : ClassId) (fn : Nat → Int32) (a1 : Int32) (a2 : Int32) (a3 : Int32) (hrn : ∀ j : Nat, j < 12 → fn j = 4) : Met l yX3_setWeather wsX3_setWeather ({ frames := 1, cells := 0, slots := 0, locals := 22 }) (va_Pc [.ref hm, .int a1, .int a2, .int a3] (fun U => U.heap.size = sz ∧ va_P (dC, dI) vwCl [(hm, .inr (3, [.int th, .int 0, .ref wi, .ref co, .ref sl, .ref rn, .ref so, .ref bn, .ref sm, .ref ah])), (rn, .inl (d6, 12, .inl fn)), (so, .inl (d7, 12, .inl (fun _ => 0)))] U.heap ∧ va_K (dC, dI) vwCl [(d6, .int), (d7, .int)] U ∧ va_D (fun _ => True) [(hm, .inr (3, [.int th, .int 0, .ref wi, .ref co, .ref sl, .ref rn, .ref so, .ref bn, .ref sm, .ref ah])), (rn, .inl (d6, 12, .inl fn)), (so, .inl (d7, 12, .inl (fun _ => 0)))])) (va_Qi (fun (r : Int32) (u : Int32 × Int32) => (r = 40 ∧ u.1 = 0 ∧ zIn a1 0 11 ∧ (zIn a2 0 9 ∧ zIn a3 0 9)) ∨ (r = 0 ∧ u.1 = 1 ∧ ¬ zIn a1 0 11) ∨ (r = 0 ∧ u.1 = 2 ∧ zIn a1 0 11 ∧ (¬ (zIn a2 0 9 ∧ zIn a3 0 9)))) (fun (u : Int32 × Int32) (t : State) => va_P (dC, dI) vwCl [(hm, .inr (3, [.int u.1, .int u.2, .ref wi, .ref co, .ref sl, .ref rn, .ref so, .ref bn, .ref sm, .ref ah]))] t.heap ∧ va_K (dC, dI) vwCl [] t ∧ va_D (va_A [(hm, .inr (3, [.int th, .int 0, .ref wi, .ref co, .ref sl, .ref rn, .ref so, .ref bn, .ref sm, .ref ah])), (rn, .inl (d6, 12, .inl fn)), (so, .inl (d7, 12, .inl (fun _ => 0)))] sz) [(hm, .inr (3, [.int u.1, .int u.2, .ref wi, .ref co, .ref sl, .ref rn, .ref so, .ref bn, .ref sm, .ref ah]))]) (va_A [(hm, .inr (3, [.int th, .int 0, .ref wi, .ref co, .ref sl, .ref rn, .ref so, .ref bn, .ref sm, .ref ah])), (rn, .inl (d6, 12, .inl fn)), (so, .inl (d7, 12, .inl (fun _ => 0)))] sz)) 0 0 (va_A [(hm, .inr (3, [.int th, .int 0, .ref wi, .ref co, .ref sl, .ref rn, .ref so, .ref bn, .ref sm, .ref ah])), (rn, .inl (d6, 12, .inl fn)), (so, .inl (d7, 12, .inl (fun _ => 0)))] sz) := by
  refine Met.ofW (cc := cX3_setWeather) (maxL := 5) (ret := (some .int)) (by decide) rfl ?_
  intro p e s m args below meth c s₁ B hml hv
  obtain ⟨rfl, hsz, hP, hK, hD0⟩ := hv
  have hx := B.exec
  have hb := B.bytes
  have hr := B.returns
  have hts := atoms_spec (ws := wsX3_setWeather) B.pre
  have hown : s.vm.findClass RX3 = some m.cls := findClass_of_methodNamed B.named
  have hlocks := B.notSynchronized
  subst hsz
  have hD := hD0.self (sz := s.heap.size)
  generalize hAe : va_A [(hm, .inr (3, [.int th, .int 0, .ref wi, .ref co, .ref sl, .ref rn, .ref so, .ref bn, .ref sm, .ref ah])), (rn, .inl (d6, 12, .inl fn)), (so, .inl (d7, 12, .inl (fun _ => 0)))] s.heap.size = A at hD ⊢
  have hA : ∀ q : Nat, s.heap.size ≤ q → A q := fun q h => by rw [← hAe]; exact Or.inr h
  have hS : va_S A s.heap s.heap [] := va_S.rf
  have hP : va_P (dC, dI) vwCl [(hm, .inr (3, [.int th, .int 0, .ref wi, .ref co, .ref sl, .ref rn, .ref so, .ref bn, .ref sm, .ref ah])), (rn, .inl (d6, 12, .inl fn)), (so, .inl (d7, 12, .inl (fun _ => 0)))] s.heap := hP
  have hl := lv_entry ([.ref hm, .int a1, .int a2, .int a3]) (n := 5) (Nat.le_of_ble_eq_true rfl)
  rw [lg_entry_eq]
  generalize (lg_sl ([.ref hm, .int a1, .int a2, .int a3]) ++ List.replicate (5 - (lg_sl ([.ref hm, .int a1, .int a2, .int a3])).length) Slot.unset).toArray = ls at hl ⊢
  have hl : lv_has ls 5 [(0, .ref hm), (1, .int a1), (2, .int a2), (3, .int a3)] := hl
  refine lv_aload_n hx hb dX3_setWeather_0 rfl (lv_at hl 0 rfl) ?_
  refine lv_iconst (v := 0) hx hb dX3_setWeather_1 (by decide) ?_
  refine va_put (D := (dC, dI)) (ci := 3) (v := .int 0) (ty := .int) (C := RX3) (T := TX3) (N := 10) hx hb hts (by decide +kernel) tyX3 tyX3_ok nmX3 hown hK hP hD hS 0 rfl rfl 0 (by decide) (hts (.fieldLink RX3 40 "ThatchRoofModel" "thrown" "I") (by decide +kernel)) (fun _ h9 => h9) rfl (by decide +kernel) rfl rfl (Nat.le_of_ble_eq_true rfl) dX3_setWeather_2 (fun H locs hP hD hS => ?_)
  have hP : va_P (dC, dI) vwCl [(hm, .inr (3, [.int 0, .int 0, .ref wi, .ref co, .ref sl, .ref rn, .ref so, .ref bn, .ref sm, .ref ah])), (rn, .inl (d6, 12, .inl fn)), (so, .inl (d7, 12, .inl (fun _ => 0)))] H := hP
  have hD : va_D A [(hm, .inr (3, [.int 0, .int 0, .ref wi, .ref co, .ref sl, .ref rn, .ref so, .ref bn, .ref sm, .ref ah])), (rn, .inl (d6, 12, .inl fn)), (so, .inl (d7, 12, .inl (fun _ => 0)))] := hD
  refine lv_iload_n hx hb dX3_setWeather_5 rfl (lv_at hl 1 rfl) ?_
  refine lv_iconst (v := 0) hx hb dX3_setWeather_6 (by decide) ?_
  refine lv_bipush (v := 11) hx hb dX3_setWeather_7 (by decide) ?_
  refine vp_callSi (va_runS (As := [.int a1, .int 0, .int 11]) (rest := []) ⟨hx, hb, hml, hown, hts⟩ (k3_isIn l dC dI a1 0 11 ) (va_cwS 3 hts gX3_setWeather_X3_isIn rfl rfl rfl (by decide +kernel) ⟨Nat.le_of_ble_eq_true rfl, Nat.le_of_ble_eq_true rfl⟩) ⟨fun a U g mk q => q, fun U hU hW => ⟨rfl, trivial⟩⟩ rfl rfl hl.1 rfl (lv_room (Nat.le_of_ble_eq_true rfl)) dX3_setWeather_9 ⟨Nat.le_of_ble_eq_true rfl, Nat.le_of_ble_eq_true rfl⟩).run (fun r1 hr1 => ?_)
  rcases hr1 with ⟨rfl, fr1_0_0⟩ | ⟨rfl, fr1_1_0⟩
  · refine lv_if_ne (tgt := 21) hx hb dX3_setWeather_12 (by decide) (fun c2 => ?_) (fun c2 => absurd c2 (by decide))
    refine lv_iload_n hx hb dX3_setWeather_21 rfl (lv_at hl 2 rfl) ?_
    refine lv_iconst (v := 0) hx hb dX3_setWeather_22 (by decide) ?_
    refine lv_bipush (v := 9) hx hb dX3_setWeather_23 (by decide) ?_
    refine vp_callSi (va_runS (As := [.int a2, .int 0, .int 9]) (rest := []) ⟨hx, hb, hml, hown, hts⟩ (k3_isIn l dC dI a2 0 9 ) (va_cwS 3 hts gX3_setWeather_X3_isIn rfl rfl rfl (by decide +kernel) ⟨Nat.le_of_ble_eq_true rfl, Nat.le_of_ble_eq_true rfl⟩) ⟨fun a U g mk q => q, fun U hU hW => ⟨rfl, trivial⟩⟩ rfl rfl hl.1 rfl (lv_room (Nat.le_of_ble_eq_true rfl)) dX3_setWeather_25 ⟨Nat.le_of_ble_eq_true rfl, Nat.le_of_ble_eq_true rfl⟩).run (fun r3 hr3 => ?_)
    rcases hr3 with ⟨rfl, fr3_0_0⟩ | ⟨rfl, fr3_1_0⟩
    · refine lv_if_eq (tgt := 41) hx hb dX3_setWeather_28 (by decide) (fun c4 => absurd c4 (by decide)) (fun c4 => ?_)
      refine lv_iload_n hx hb dX3_setWeather_31 rfl (lv_at hl 3 rfl) ?_
      refine lv_iconst (v := 0) hx hb dX3_setWeather_32 (by decide) ?_
      refine lv_bipush (v := 9) hx hb dX3_setWeather_33 (by decide) ?_
      refine vp_callSi (va_runS (As := [.int a3, .int 0, .int 9]) (rest := []) ⟨hx, hb, hml, hown, hts⟩ (k3_isIn l dC dI a3 0 9 ) (va_cwS 3 hts gX3_setWeather_X3_isIn rfl rfl rfl (by decide +kernel) ⟨Nat.le_of_ble_eq_true rfl, Nat.le_of_ble_eq_true rfl⟩) ⟨fun a U g mk q => q, fun U hU hW => ⟨rfl, trivial⟩⟩ rfl rfl hl.1 rfl (lv_room (Nat.le_of_ble_eq_true rfl)) dX3_setWeather_35 ⟨Nat.le_of_ble_eq_true rfl, Nat.le_of_ble_eq_true rfl⟩).run (fun r5 hr5 => ?_)
      rcases hr5 with ⟨rfl, fr5_0_0⟩ | ⟨rfl, fr5_1_0⟩
      · refine lv_if_ne (tgt := 47) hx hb dX3_setWeather_38 (by decide) (fun c6 => ?_) (fun c6 => absurd c6 (by decide))
        refine lv_bipush (v := 10) hx hb dX3_setWeather_47 (by decide) ?_
        refine lv_aload_n hx hb dX3_setWeather_49 rfl (lv_at hl 0 rfl) ?_
        refine va_get (D := (dC, dI)) (ci := 3) (v := .ref rn) (C := RX3) (T := TX3) (N := 10) hx hb hts (by decide +kernel) hown hK hP 0 rfl rfl 5 (by decide) (hts (.fieldLink RX3 19 "ThatchRoofModel" "rain" "[I") (by decide +kernel)) (fun _ h9 => h9) rfl dX3_setWeather_50 ?_
        refine lv_iload_n hx hb dX3_setWeather_53 rfl (lv_at hl 1 rfl) ?_
        refine va_iald hx hb hK hP 1 0 rfl rfl (zIn_in (hi := 11) (by assumption) (by decide)) dX3_setWeather_54 ?_
        refine lv_topi (fun x7 ex7 => ?_)
        obtain rfl : x7 = 4 := ex7.trans (hrn _ (zIn_cl (hi := 11) (by assumption) (by decide)))
        refine lv_imul hx hb dX3_setWeather_55 ?_
        refine W.eq (g2 := F0 m 56 ls [.int 40]) rfl ?_
        refine lv_aload_n hx hb dX3_setWeather_56 rfl (lv_at hl 0 rfl) ?_
        refine va_get (D := (dC, dI)) (ci := 3) (v := .ref so) (C := RX3) (T := TX3) (N := 10) hx hb hts (by decide +kernel) hown hK hP 0 rfl rfl 6 (by decide) (hts (.fieldLink RX3 22 "ThatchRoofModel" "storm" "[I") (by decide +kernel)) (fun _ h9 => h9) rfl dX3_setWeather_57 ?_
        refine lv_iload_n hx hb dX3_setWeather_60 rfl (lv_at hl 1 rfl) ?_
        refine va_iald hx hb hK hP 2 1 rfl rfl (zIn_in (hi := 11) (by assumption) (by decide)) dX3_setWeather_61 ?_
        refine lv_topi (fun x8 ex8 => ?_)
        obtain rfl : x8 = 0 := ex8
        refine lv_iadd hx hb dX3_setWeather_62 ?_
        refine W.eq (g2 := F0 m 63 ls [.int 40]) rfl ?_
        refine lv_istore (lv' := [(4, .int 40), (0, .ref hm), (1, .int a1), (2, .int a2), (3, .int a3)]) hx hb dX3_setWeather_63 hl (by decide) rfl (fun ls hl => ?_)
        refine lv_aload_n hx hb dX3_setWeather_65 rfl (lv_at hl 1 rfl) ?_
        refine va_get (D := (dC, dI)) (ci := 3) (v := .ref rn) (C := RX3) (T := TX3) (N := 10) hx hb hts (by decide +kernel) hown hK hP 0 rfl rfl 5 (by decide) (hts (.fieldLink RX3 19 "ThatchRoofModel" "rain" "[I") (by decide +kernel)) (fun _ h9 => h9) rfl dX3_setWeather_66 ?_
        refine lv_iload_n hx hb dX3_setWeather_69 rfl (lv_at hl 2 rfl) ?_
        refine lv_iload_n hx hb dX3_setWeather_70 rfl (lv_at hl 3 rfl) ?_
        refine va_iast hx hb hK hP hD hS 1 0 rfl rfl (zIn_in (hi := 11) (by assumption) (by decide)) dX3_setWeather_71 (fun H locs hP hD hS => ?_)
        have hP : va_P (dC, dI) vwCl [(hm, .inr (3, [.int 0, .int 0, .ref wi, .ref co, .ref sl, .ref rn, .ref so, .ref bn, .ref sm, .ref ah])), (rn, .inl (d6, 12, .inl (upd fn a1.toNatClampNeg a2))), (so, .inl (d7, 12, .inl (fun _ => 0)))] H := hP
        have hD : va_D A [(hm, .inr (3, [.int 0, .int 0, .ref wi, .ref co, .ref sl, .ref rn, .ref so, .ref bn, .ref sm, .ref ah])), (rn, .inl (d6, 12, .inl (upd fn a1.toNatClampNeg a2))), (so, .inl (d7, 12, .inl (fun _ => 0)))] := hD
        refine lv_aload_n hx hb dX3_setWeather_72 rfl (lv_at hl 1 rfl) ?_
        refine va_get (D := (dC, dI)) (ci := 3) (v := .ref so) (C := RX3) (T := TX3) (N := 10) hx hb hts (by decide +kernel) hown hK hP 0 rfl rfl 6 (by decide) (hts (.fieldLink RX3 22 "ThatchRoofModel" "storm" "[I") (by decide +kernel)) (fun _ h9 => h9) rfl dX3_setWeather_73 ?_
        refine lv_iload_n hx hb dX3_setWeather_76 rfl (lv_at hl 2 rfl) ?_
        refine lv_iload_n hx hb dX3_setWeather_77 rfl (lv_at hl 4 rfl) ?_
        refine va_iast hx hb hK hP hD hS 2 1 rfl rfl (zIn_in (hi := 11) (by assumption) (by decide)) dX3_setWeather_78 (fun H locs hP hD hS => ?_)
        have hP : va_P (dC, dI) vwCl [(hm, .inr (3, [.int 0, .int 0, .ref wi, .ref co, .ref sl, .ref rn, .ref so, .ref bn, .ref sm, .ref ah])), (rn, .inl (d6, 12, .inl (upd fn a1.toNatClampNeg a2))), (so, .inl (d7, 12, .inl (upd (fun _ => 0) a1.toNatClampNeg a3)))] H := hP
        have hD : va_D A [(hm, .inr (3, [.int 0, .int 0, .ref wi, .ref co, .ref sl, .ref rn, .ref so, .ref bn, .ref sm, .ref ah])), (rn, .inl (d6, 12, .inl (upd fn a1.toNatClampNeg a2))), (so, .inl (d7, 12, .inl (upd (fun _ => 0) a1.toNatClampNeg a3)))] := hD
        refine lv_iload hx hb dX3_setWeather_79 (lv_at hl 0 rfl) ?_
        have hP9 := hP.sub (ws' := [(hm, .inr (3, [.int 0, .int 0, .ref wi, .ref co, .ref sl, .ref rn, .ref so, .ref bn, .ref sm, .ref ah]))]) [0] rfl
        have hD9 := hD.sub (ws' := [(hm, .inr (3, [.int 0, .int 0, .ref wi, .ref co, .ref sl, .ref rn, .ref so, .ref bn, .ref sm, .ref ah]))]) [0] (by decide) rfl
        have hK9 := hK.sub (tys' := []) [] rfl
        refine W.widen (k := 0) (n := 0) (Nat.le_of_ble_eq_true rfl) (Nat.le_of_ble_eq_true rfl) ?_
        exact W.iret (v := 40) hx hb hr (fun t ht hW => ⟨⟨40, (0, 0), rfl, by first | (refine Or.inl ?_; (refine ⟨?_, ?_, ?_, ?_⟩ <;> (first | rfl | assumption | decide | (simp_all; done) | grind)); done) | (refine Or.inr ?_; refine Or.inl ?_; (refine ⟨?_, ?_, ?_⟩ <;> (first | rfl | assumption | decide | (simp_all; done) | grind)); done) | (refine Or.inr ?_; refine Or.inr ?_; (refine ⟨?_, ?_, ?_, ?_⟩ <;> (first | rfl | assumption | decide | (simp_all; done) | grind)); done), ⟨by rw [ht]; exact hP9, va_K.moved hW.alike hK9, hD9⟩⟩, hS.F ht⟩) hS.2.2 dX3_setWeather_81
      · refine lv_if_ne (tgt := 47) hx hb dX3_setWeather_38 (by decide) (fun c9 => absurd c9 (by decide)) (fun c9 => ?_)
        refine lv_aload_n hx hb dX3_setWeather_41 rfl (lv_at hl 0 rfl) ?_
        refine lv_iconst (v := 2) hx hb dX3_setWeather_42 (by decide) ?_
        have hPc := hP.sub (ws' := [(hm, .inr (3, [.int 0, .int 0, .ref wi, .ref co, .ref sl, .ref rn, .ref so, .ref bn, .ref sm, .ref ah]))]) [0] rfl
        have hKc := hK.sub (tys' := []) [] rfl
        have hDc := hD.sub (ws' := [(hm, .inr (3, [.int 0, .int 0, .ref wi, .ref co, .ref sl, .ref rn, .ref so, .ref bn, .ref sm, .ref ah]))]) [0] (by decide) rfl
        have hFc := va_free (wc := [(hm, .inr (3, [.int 0, .int 0, .ref wi, .ref co, .ref sl, .ref rn, .ref so, .ref bn, .ref sm, .ref ah]))]) hD hS hA [0] rfl
        refine va_calli (va_runV (As := [.int 2]) (rest := []) ⟨hx, hb, hml, hown, hts⟩ (k3_no l dC dI H.size hm wi co sl rn so bn sm ah 0 0 2 ) (cwV 1 hts gX3_setWeather_X3_no rfl rfl rfl (by decide +kernel) ⟨Nat.le_of_ble_eq_true rfl, Nat.le_of_ble_eq_true rfl⟩) ⟨fun a U g mk q => by obtain ⟨q0, q1, qP, qK, qD⟩ := q; exact ⟨q0, q1, qP, va_K.moved (u := U) (U := U.calling g mk a) (Vm.Alike.refl U.vm) qK, qD⟩, va_recv hKc hPc (ci := 3) (q0 := 0) rfl rfl, fun U hU hW => ⟨rfl, by rw [hU], by rw [hU]; exact hPc, va_K.moved hW.alike hKc, hDc.weaken (fun _ _ _ _ => trivial)⟩⟩ rfl rfl hl.1 rfl (lv_room (Nat.le_of_ble_eq_true rfl)) dX3_setWeather_43 ⟨Nat.le_of_ble_eq_true rfl, Nat.le_of_ble_eq_true rfl⟩) hS (fun q _ h => hFc q h) hFc (fun r10 u t H1 locs ht hvm hr10 hB hz1 hk1 hS => ?_)
        obtain ⟨hP1, hK1, hD1⟩ := hB
        rw [ht] at hP1
        have hK1 := va_K.moved hvm.symm hK1
        try dsimp only at hr10
        obtain ⟨hP, hD⟩ := va_join (wr := [(rn, .inl (d6, 12, .inl fn)), (so, .inl (d7, 12, .inl (fun _ => 0)))]) (w1 := [(hm, .inr (3, [.int 2, .int 0, .ref wi, .ref co, .ref sl, .ref rn, .ref so, .ref bn, .ref sm, .ref ah]))]) hP hD [0] [1, 2] rfl rfl (by decide) (by decide) hk1 hFc hP1 hD1
        generalize H1 = H at hP hS ⊢
        have hP : va_P (dC, dI) vwCl [(rn, .inl (d6, 12, .inl fn)), (so, .inl (d7, 12, .inl (fun _ => 0))), (hm, .inr (3, [.int 2, .int 0, .ref wi, .ref co, .ref sl, .ref rn, .ref so, .ref bn, .ref sm, .ref ah]))] H := hP
        have hD : va_D A [(rn, .inl (d6, 12, .inl fn)), (so, .inl (d7, 12, .inl (fun _ => 0))), (hm, .inr (3, [.int 2, .int 0, .ref wi, .ref co, .ref sl, .ref rn, .ref so, .ref bn, .ref sm, .ref ah]))] := hD
        obtain rfl := hr10
        have hP9 := hP.sub (ws' := [(hm, .inr (3, [.int 2, .int 0, .ref wi, .ref co, .ref sl, .ref rn, .ref so, .ref bn, .ref sm, .ref ah]))]) [2] rfl
        have hD9 := hD.sub (ws' := [(hm, .inr (3, [.int 2, .int 0, .ref wi, .ref co, .ref sl, .ref rn, .ref so, .ref bn, .ref sm, .ref ah]))]) [2] (by decide) rfl
        have hK9 := hK.sub (tys' := []) [] rfl
        refine W.widen (k := 0) (n := 0) (Nat.le_of_ble_eq_true rfl) (Nat.le_of_ble_eq_true rfl) ?_
        exact W.iret (v := 0) hx hb hr (fun t ht hW => ⟨⟨0, (2, 0), rfl, by first | (refine Or.inl ?_; (refine ⟨?_, ?_, ?_, ?_⟩ <;> (first | rfl | assumption | decide | (simp_all; done) | grind)); done) | (refine Or.inr ?_; refine Or.inl ?_; (refine ⟨?_, ?_, ?_⟩ <;> (first | rfl | assumption | decide | (simp_all; done) | grind)); done) | (refine Or.inr ?_; refine Or.inr ?_; (refine ⟨?_, ?_, ?_, ?_⟩ <;> (first | rfl | assumption | decide | (simp_all; done) | grind)); done), ⟨by rw [ht]; exact hP9, va_K.moved hW.alike hK9, hD9⟩⟩, hS.F ht⟩) hS.2.2 dX3_setWeather_46
    · refine lv_if_eq (tgt := 41) hx hb dX3_setWeather_28 (by decide) (fun c11 => ?_) (fun c11 => absurd c11 (by decide))
      refine lv_aload_n hx hb dX3_setWeather_41 rfl (lv_at hl 0 rfl) ?_
      refine lv_iconst (v := 2) hx hb dX3_setWeather_42 (by decide) ?_
      have hPc := hP.sub (ws' := [(hm, .inr (3, [.int 0, .int 0, .ref wi, .ref co, .ref sl, .ref rn, .ref so, .ref bn, .ref sm, .ref ah]))]) [0] rfl
      have hKc := hK.sub (tys' := []) [] rfl
      have hDc := hD.sub (ws' := [(hm, .inr (3, [.int 0, .int 0, .ref wi, .ref co, .ref sl, .ref rn, .ref so, .ref bn, .ref sm, .ref ah]))]) [0] (by decide) rfl
      have hFc := va_free (wc := [(hm, .inr (3, [.int 0, .int 0, .ref wi, .ref co, .ref sl, .ref rn, .ref so, .ref bn, .ref sm, .ref ah]))]) hD hS hA [0] rfl
      refine va_calli (va_runV (As := [.int 2]) (rest := []) ⟨hx, hb, hml, hown, hts⟩ (k3_no l dC dI H.size hm wi co sl rn so bn sm ah 0 0 2 ) (cwV 1 hts gX3_setWeather_X3_no rfl rfl rfl (by decide +kernel) ⟨Nat.le_of_ble_eq_true rfl, Nat.le_of_ble_eq_true rfl⟩) ⟨fun a U g mk q => by obtain ⟨q0, q1, qP, qK, qD⟩ := q; exact ⟨q0, q1, qP, va_K.moved (u := U) (U := U.calling g mk a) (Vm.Alike.refl U.vm) qK, qD⟩, va_recv hKc hPc (ci := 3) (q0 := 0) rfl rfl, fun U hU hW => ⟨rfl, by rw [hU], by rw [hU]; exact hPc, va_K.moved hW.alike hKc, hDc.weaken (fun _ _ _ _ => trivial)⟩⟩ rfl rfl hl.1 rfl (lv_room (Nat.le_of_ble_eq_true rfl)) dX3_setWeather_43 ⟨Nat.le_of_ble_eq_true rfl, Nat.le_of_ble_eq_true rfl⟩) hS (fun q _ h => hFc q h) hFc (fun r12 u t H1 locs ht hvm hr12 hB hz1 hk1 hS => ?_)
      obtain ⟨hP1, hK1, hD1⟩ := hB
      rw [ht] at hP1
      have hK1 := va_K.moved hvm.symm hK1
      try dsimp only at hr12
      obtain ⟨hP, hD⟩ := va_join (wr := [(rn, .inl (d6, 12, .inl fn)), (so, .inl (d7, 12, .inl (fun _ => 0)))]) (w1 := [(hm, .inr (3, [.int 2, .int 0, .ref wi, .ref co, .ref sl, .ref rn, .ref so, .ref bn, .ref sm, .ref ah]))]) hP hD [0] [1, 2] rfl rfl (by decide) (by decide) hk1 hFc hP1 hD1
      generalize H1 = H at hP hS ⊢
      have hP : va_P (dC, dI) vwCl [(rn, .inl (d6, 12, .inl fn)), (so, .inl (d7, 12, .inl (fun _ => 0))), (hm, .inr (3, [.int 2, .int 0, .ref wi, .ref co, .ref sl, .ref rn, .ref so, .ref bn, .ref sm, .ref ah]))] H := hP
      have hD : va_D A [(rn, .inl (d6, 12, .inl fn)), (so, .inl (d7, 12, .inl (fun _ => 0))), (hm, .inr (3, [.int 2, .int 0, .ref wi, .ref co, .ref sl, .ref rn, .ref so, .ref bn, .ref sm, .ref ah]))] := hD
      obtain rfl := hr12
      have hP9 := hP.sub (ws' := [(hm, .inr (3, [.int 2, .int 0, .ref wi, .ref co, .ref sl, .ref rn, .ref so, .ref bn, .ref sm, .ref ah]))]) [2] rfl
      have hD9 := hD.sub (ws' := [(hm, .inr (3, [.int 2, .int 0, .ref wi, .ref co, .ref sl, .ref rn, .ref so, .ref bn, .ref sm, .ref ah]))]) [2] (by decide) rfl
      have hK9 := hK.sub (tys' := []) [] rfl
      refine W.widen (k := 0) (n := 0) (Nat.le_of_ble_eq_true rfl) (Nat.le_of_ble_eq_true rfl) ?_
      exact W.iret (v := 0) hx hb hr (fun t ht hW => ⟨⟨0, (2, 0), rfl, by first | (refine Or.inl ?_; (refine ⟨?_, ?_, ?_, ?_⟩ <;> (first | rfl | assumption | decide | (simp_all; done) | grind)); done) | (refine Or.inr ?_; refine Or.inl ?_; (refine ⟨?_, ?_, ?_⟩ <;> (first | rfl | assumption | decide | (simp_all; done) | grind)); done) | (refine Or.inr ?_; refine Or.inr ?_; (refine ⟨?_, ?_, ?_, ?_⟩ <;> (first | rfl | assumption | decide | (simp_all; done) | grind)); done), ⟨by rw [ht]; exact hP9, va_K.moved hW.alike hK9, hD9⟩⟩, hS.F ht⟩) hS.2.2 dX3_setWeather_46
  · refine lv_if_ne (tgt := 21) hx hb dX3_setWeather_12 (by decide) (fun c13 => absurd c13 (by decide)) (fun c13 => ?_)
    refine lv_aload_n hx hb dX3_setWeather_15 rfl (lv_at hl 0 rfl) ?_
    refine lv_iconst (v := 1) hx hb dX3_setWeather_16 (by decide) ?_
    have hPc := hP.sub (ws' := [(hm, .inr (3, [.int 0, .int 0, .ref wi, .ref co, .ref sl, .ref rn, .ref so, .ref bn, .ref sm, .ref ah]))]) [0] rfl
    have hKc := hK.sub (tys' := []) [] rfl
    have hDc := hD.sub (ws' := [(hm, .inr (3, [.int 0, .int 0, .ref wi, .ref co, .ref sl, .ref rn, .ref so, .ref bn, .ref sm, .ref ah]))]) [0] (by decide) rfl
    have hFc := va_free (wc := [(hm, .inr (3, [.int 0, .int 0, .ref wi, .ref co, .ref sl, .ref rn, .ref so, .ref bn, .ref sm, .ref ah]))]) hD hS hA [0] rfl
    refine va_calli (va_runV (As := [.int 1]) (rest := []) ⟨hx, hb, hml, hown, hts⟩ (k3_no l dC dI H.size hm wi co sl rn so bn sm ah 0 0 1 ) (cwV 1 hts gX3_setWeather_X3_no rfl rfl rfl (by decide +kernel) ⟨Nat.le_of_ble_eq_true rfl, Nat.le_of_ble_eq_true rfl⟩) ⟨fun a U g mk q => by obtain ⟨q0, q1, qP, qK, qD⟩ := q; exact ⟨q0, q1, qP, va_K.moved (u := U) (U := U.calling g mk a) (Vm.Alike.refl U.vm) qK, qD⟩, va_recv hKc hPc (ci := 3) (q0 := 0) rfl rfl, fun U hU hW => ⟨rfl, by rw [hU], by rw [hU]; exact hPc, va_K.moved hW.alike hKc, hDc.weaken (fun _ _ _ _ => trivial)⟩⟩ rfl rfl hl.1 rfl (lv_room (Nat.le_of_ble_eq_true rfl)) dX3_setWeather_17 ⟨Nat.le_of_ble_eq_true rfl, Nat.le_of_ble_eq_true rfl⟩) hS (fun q _ h => hFc q h) hFc (fun r14 u t H1 locs ht hvm hr14 hB hz1 hk1 hS => ?_)
    obtain ⟨hP1, hK1, hD1⟩ := hB
    rw [ht] at hP1
    have hK1 := va_K.moved hvm.symm hK1
    try dsimp only at hr14
    obtain ⟨hP, hD⟩ := va_join (wr := [(rn, .inl (d6, 12, .inl fn)), (so, .inl (d7, 12, .inl (fun _ => 0)))]) (w1 := [(hm, .inr (3, [.int 1, .int 0, .ref wi, .ref co, .ref sl, .ref rn, .ref so, .ref bn, .ref sm, .ref ah]))]) hP hD [0] [1, 2] rfl rfl (by decide) (by decide) hk1 hFc hP1 hD1
    generalize H1 = H at hP hS ⊢
    have hP : va_P (dC, dI) vwCl [(rn, .inl (d6, 12, .inl fn)), (so, .inl (d7, 12, .inl (fun _ => 0))), (hm, .inr (3, [.int 1, .int 0, .ref wi, .ref co, .ref sl, .ref rn, .ref so, .ref bn, .ref sm, .ref ah]))] H := hP
    have hD : va_D A [(rn, .inl (d6, 12, .inl fn)), (so, .inl (d7, 12, .inl (fun _ => 0))), (hm, .inr (3, [.int 1, .int 0, .ref wi, .ref co, .ref sl, .ref rn, .ref so, .ref bn, .ref sm, .ref ah]))] := hD
    obtain rfl := hr14
    have hP9 := hP.sub (ws' := [(hm, .inr (3, [.int 1, .int 0, .ref wi, .ref co, .ref sl, .ref rn, .ref so, .ref bn, .ref sm, .ref ah]))]) [2] rfl
    have hD9 := hD.sub (ws' := [(hm, .inr (3, [.int 1, .int 0, .ref wi, .ref co, .ref sl, .ref rn, .ref so, .ref bn, .ref sm, .ref ah]))]) [2] (by decide) rfl
    have hK9 := hK.sub (tys' := []) [] rfl
    refine W.widen (k := 0) (n := 0) (Nat.le_of_ble_eq_true rfl) (Nat.le_of_ble_eq_true rfl) ?_
    exact W.iret (v := 0) hx hb hr (fun t ht hW => ⟨⟨0, (1, 0), rfl, by first | (refine Or.inl ?_; (refine ⟨?_, ?_, ?_, ?_⟩ <;> (first | rfl | assumption | decide | (simp_all; done) | grind)); done) | (refine Or.inr ?_; refine Or.inl ?_; (refine ⟨?_, ?_, ?_⟩ <;> (first | rfl | assumption | decide | (simp_all; done) | grind)); done) | (refine Or.inr ?_; refine Or.inr ?_; (refine ⟨?_, ?_, ?_, ?_⟩ <;> (first | rfl | assumption | decide | (simp_all; done) | grind)); done), ⟨by rw [ht]; exact hP9, va_K.moved hW.alike hK9, hD9⟩⟩, hS.F ht⟩) hS.2.2 dX3_setWeather_20

set_option maxHeartbeats 4000000 in
set_option maxRecDepth 100000 in
theorem k3_counted0 (l : Launch) (dC : Nat → ClassId) (dI : Nat → Nat → Nat) (sz : Nat) (hm : Nat) (wi : Nat) (co : Nat) (sl : Nat) (rn : Nat) (so : Nat) (bn : Nat) (sm : Nat) (ah : Nat) (th : Int32) (gr : Nat) (gt : Nat) (gw : Nat) (gk : Nat) (gi : Nat) (gp : Nat) (go : Nat) (gg : Nat) (gh : Nat) (d5 : ClassId) (d6 : ClassId) (d7 : ClassId) (fn : Nat → Int32) (hrn : ∀ j : Nat, j < 12 → fn j = 4) : Met l yX3_counted wsX3_counted ({ frames := 0, cells := 1, slots := 9, locals := 0 }) (va_Pc [.ref hm, .int 0] (fun U => U.heap.size = sz ∧ va_P (dC, dI) vwCl [(hm, .inr (3, [.int th, .int 0, .ref wi, .ref co, .ref sl, .ref rn, .ref so, .ref bn, .ref sm, .ref ah])), (sm, .inr (2, [.int 0, .ref gr, .ref gt, .ref gw, .ref gk, .ref gi, .ref gp, .ref go, .ref gg, .ref gh])), (bn, .inl (d5, 3, .inl (fun _ => 0))), (rn, .inl (d6, 12, .inl fn)), (so, .inl (d7, 12, .inl (fun _ => 0)))] U.heap ∧ va_K (dC, dI) vwCl [(d5, .int), (d6, .int), (d7, .int)] U ∧ va_D (fun _ => True) [(hm, .inr (3, [.int th, .int 0, .ref wi, .ref co, .ref sl, .ref rn, .ref so, .ref bn, .ref sm, .ref ah])), (sm, .inr (2, [.int 0, .ref gr, .ref gt, .ref gw, .ref gk, .ref gi, .ref gp, .ref go, .ref gg, .ref gh])), (bn, .inl (d5, 3, .inl (fun _ => 0))), (rn, .inl (d6, 12, .inl fn)), (so, .inl (d7, 12, .inl (fun _ => 0)))] ∧ zNs U)) (va_Qi (fun (r : Int32) (u : Unit) => r = 0) (fun (u : Unit) (t : State) => va_P (dC, dI) vwCl [(hm, .inr (3, [.int th, .int 0, .ref wi, .ref co, .ref sl, .ref rn, .ref so, .ref bn, .ref sm, .ref ah])), (sm, .inr (2, [.int 0, .ref gr, .ref gt, .ref gw, .ref gk, .ref gi, .ref gp, .ref go, .ref gg, .ref gh])), (bn, .inl (d5, 3, .inl (fun _ => 0))), (rn, .inl (d6, 12, .inl fn)), (so, .inl (d7, 12, .inl (fun _ => 0)))] t.heap ∧ va_K (dC, dI) vwCl [] t ∧ va_D (va_A [(hm, .inr (3, [.int th, .int 0, .ref wi, .ref co, .ref sl, .ref rn, .ref so, .ref bn, .ref sm, .ref ah])), (sm, .inr (2, [.int 0, .ref gr, .ref gt, .ref gw, .ref gk, .ref gi, .ref gp, .ref go, .ref gg, .ref gh])), (bn, .inl (d5, 3, .inl (fun _ => 0))), (rn, .inl (d6, 12, .inl fn)), (so, .inl (d7, 12, .inl (fun _ => 0)))] sz) [(hm, .inr (3, [.int th, .int 0, .ref wi, .ref co, .ref sl, .ref rn, .ref so, .ref bn, .ref sm, .ref ah])), (sm, .inr (2, [.int 0, .ref gr, .ref gt, .ref gw, .ref gk, .ref gi, .ref gp, .ref go, .ref gg, .ref gh])), (bn, .inl (d5, 3, .inl (fun _ => 0))), (rn, .inl (d6, 12, .inl fn)), (so, .inl (d7, 12, .inl (fun _ => 0)))]) (va_A [(hm, .inr (3, [.int th, .int 0, .ref wi, .ref co, .ref sl, .ref rn, .ref so, .ref bn, .ref sm, .ref ah])), (sm, .inr (2, [.int 0, .ref gr, .ref gt, .ref gw, .ref gk, .ref gi, .ref gp, .ref go, .ref gg, .ref gh])), (bn, .inl (d5, 3, .inl (fun _ => 0))), (rn, .inl (d6, 12, .inl fn)), (so, .inl (d7, 12, .inl (fun _ => 0)))] sz)) 1 9 (va_A [(hm, .inr (3, [.int th, .int 0, .ref wi, .ref co, .ref sl, .ref rn, .ref so, .ref bn, .ref sm, .ref ah])), (sm, .inr (2, [.int 0, .ref gr, .ref gt, .ref gw, .ref gk, .ref gi, .ref gp, .ref go, .ref gg, .ref gh])), (bn, .inl (d5, 3, .inl (fun _ => 0))), (rn, .inl (d6, 12, .inl fn)), (so, .inl (d7, 12, .inl (fun _ => 0)))] sz) := by
  refine Met.ofW (cc := cX3_counted) (maxL := 5) (ret := (some .int)) (by decide) rfl ?_
  intro p e s m args below meth c s₁ B hml hv
  obtain ⟨rfl, hsz, hP, hK, hD0, hZN⟩ := hv
  have hx := B.exec
  have hb := B.bytes
  have hr := B.returns
  have hts := atoms_spec (ws := wsX3_counted) B.pre
  have hown : s.vm.findClass RX3 = some m.cls := findClass_of_methodNamed B.named
  have hlocks := B.notSynchronized
  subst hsz
  have hD := hD0.self (sz := s.heap.size)
  generalize hAe : va_A [(hm, .inr (3, [.int th, .int 0, .ref wi, .ref co, .ref sl, .ref rn, .ref so, .ref bn, .ref sm, .ref ah])), (sm, .inr (2, [.int 0, .ref gr, .ref gt, .ref gw, .ref gk, .ref gi, .ref gp, .ref go, .ref gg, .ref gh])), (bn, .inl (d5, 3, .inl (fun _ => 0))), (rn, .inl (d6, 12, .inl fn)), (so, .inl (d7, 12, .inl (fun _ => 0)))] s.heap.size = A at hD ⊢
  have hA : ∀ q : Nat, s.heap.size ≤ q → A q := fun q h => by rw [← hAe]; exact Or.inr h
  have hS : va_S A s.heap s.heap [] := va_S.rf
  have hP : va_P (dC, dI) vwCl [(hm, .inr (3, [.int th, .int 0, .ref wi, .ref co, .ref sl, .ref rn, .ref so, .ref bn, .ref sm, .ref ah])), (sm, .inr (2, [.int 0, .ref gr, .ref gt, .ref gw, .ref gk, .ref gi, .ref gp, .ref go, .ref gg, .ref gh])), (bn, .inl (d5, 3, .inl (fun _ => 0))), (rn, .inl (d6, 12, .inl fn)), (so, .inl (d7, 12, .inl (fun _ => 0)))] s.heap := hP
  have hl := lv_entry ([.ref hm, .int 0]) (n := 5) (Nat.le_of_ble_eq_true rfl)
  rw [lg_entry_eq]
  generalize (lg_sl ([.ref hm, .int 0]) ++ List.replicate (5 - (lg_sl ([.ref hm, .int 0])).length) Slot.unset).toArray = ls at hl ⊢
  have hl : lv_has ls 5 [(0, .ref hm), (1, .int 0)] := hl
  refine lv_iconst (v := 0) hx hb dX3_counted_0 (by decide) ?_
  refine lv_istore_n (lv' := [(2, .int 0), (0, .ref hm), (1, .int 0)]) hx hb dX3_counted_1 rfl hl (by decide) rfl (fun ls hl => ?_)
  refine lv_iconst (v := 0) hx hb dX3_counted_2 (by decide) ?_
  refine lv_istore_n (lv' := [(3, .int 0), (2, .int 0), (0, .ref hm), (1, .int 0)]) hx hb dX3_counted_3 rfl hl (by decide) rfl (fun ls hl => ?_)
  refine lv_iconst (v := 0) hx hb dX3_counted_4 (by decide) ?_
  refine lv_istore (lv' := [(4, .int 0), (3, .int 0), (2, .int 0), (0, .ref hm), (1, .int 0)]) hx hb dX3_counted_5 hl (by decide) rfl (fun ls hl => ?_)
  refine lv_iload hx hb dX3_counted_7 (lv_at hl 0 rfl) ?_
  refine lv_aload_n hx hb dX3_counted_9 rfl (lv_at hl 3 rfl) ?_
  refine va_get (D := (dC, dI)) (ci := 3) (v := .int 0) (C := RX3) (T := TX3) (N := 10) hx hb hts (by decide +kernel) hown hK hP 0 rfl rfl 1 (by decide) (hts (.fieldLink RX3 44 "ThatchRoofModel" "roofs" "I") (by decide +kernel)) (fun _ h9 => h9) rfl dX3_counted_10 ?_
  refine lv_icmp_ge (tgt := 46) hx hb dX3_counted_13 (by decide) (fun c1 => ?_) (fun c1 => absurd c1 (by decide))
  refine lv_bipush (v := 9) hx hb dX3_counted_46 (by decide) ?_
  refine va_newa (atype := .int) (ty := .int) (N' := 9) (a0 := (9, .inl (fun _ => 0))) hx hb (hts (.arrayClass .int) (by decide +kernel)) rfl hK hP hD hS hA (fun _ => rfl) (by decide) (by decide) (by decide) (Nat.le_of_ble_eq_true rfl) (Nat.le_of_ble_eq_true rfl) dX3_counted_48 (fun q2 cA3 H hK hP hD hS => ?_)
  refine W.widen (k := 1) (n := 9) (Nat.le_of_ble_eq_true rfl) (Nat.le_of_ble_eq_true rfl) ?_
  have hK : va_K (dC, dI) vwCl [(d5, .int), (d6, .int), (d7, .int), (cA3, .int)] s := hK
  have hP : va_P (dC, dI) vwCl [(hm, .inr (3, [.int th, .int 0, .ref wi, .ref co, .ref sl, .ref rn, .ref so, .ref bn, .ref sm, .ref ah])), (sm, .inr (2, [.int 0, .ref gr, .ref gt, .ref gw, .ref gk, .ref gi, .ref gp, .ref go, .ref gg, .ref gh])), (bn, .inl (d5, 3, .inl (fun _ => 0))), (rn, .inl (d6, 12, .inl fn)), (so, .inl (d7, 12, .inl (fun _ => 0))), (q2, .inl (cA3, 9, .inl (fun _ => 0)))] H := hP
  have hD : va_D A [(hm, .inr (3, [.int th, .int 0, .ref wi, .ref co, .ref sl, .ref rn, .ref so, .ref bn, .ref sm, .ref ah])), (sm, .inr (2, [.int 0, .ref gr, .ref gt, .ref gw, .ref gk, .ref gi, .ref gp, .ref go, .ref gg, .ref gh])), (bn, .inl (d5, 3, .inl (fun _ => 0))), (rn, .inl (d6, 12, .inl fn)), (so, .inl (d7, 12, .inl (fun _ => 0))), (q2, .inl (cA3, 9, .inl (fun _ => 0)))] := hD
  refine lv_dup hx hb dX3_counted_50 rfl ?_
  refine lv_iconst (v := 0) hx hb dX3_counted_51 (by decide) ?_
  refine lv_aload_n hx hb dX3_counted_52 rfl (lv_at hl 3 rfl) ?_
  refine va_get (D := (dC, dI)) (ci := 3) (v := .ref sm) (C := RX3) (T := TX3) (N := 10) hx hb hts (by decide +kernel) hown hK hP 0 rfl rfl 8 (by decide) (hts (.fieldLink RX3 33 "ThatchRoofModel" "s" "LThatchRoofModel$State;") (by decide +kernel)) (fun _ h9 => h9) rfl dX3_counted_53 ?_
  refine va_getN (D := (dC, dI)) (ci := 2) (v := .int 0) (C := RX2) (T := TX2) (N := 10) hx hb hts (by decide +kernel) hown hK hP 1 rfl rfl 0 (by decide) (va_Nw.use rfl (zN_RX3_128 hZN)) (fun _ h9 => h9) rfl dX3_counted_56 ?_
  refine va_iast hx hb hK hP hD hS 5 3 rfl rfl (vp_in_nI (n := 0) (by decide) (by decide)) dX3_counted_59 (fun H locs hP hD hS => ?_)
  have hP : va_P (dC, dI) vwCl [(hm, .inr (3, [.int th, .int 0, .ref wi, .ref co, .ref sl, .ref rn, .ref so, .ref bn, .ref sm, .ref ah])), (sm, .inr (2, [.int 0, .ref gr, .ref gt, .ref gw, .ref gk, .ref gi, .ref gp, .ref go, .ref gg, .ref gh])), (bn, .inl (d5, 3, .inl (fun _ => 0))), (rn, .inl (d6, 12, .inl fn)), (so, .inl (d7, 12, .inl (fun _ => 0))), (q2, .inl (cA3, 9, .inl (upd (fun _ => 0) 0 0)))] H := hP
  have hD : va_D A [(hm, .inr (3, [.int th, .int 0, .ref wi, .ref co, .ref sl, .ref rn, .ref so, .ref bn, .ref sm, .ref ah])), (sm, .inr (2, [.int 0, .ref gr, .ref gt, .ref gw, .ref gk, .ref gi, .ref gp, .ref go, .ref gg, .ref gh])), (bn, .inl (d5, 3, .inl (fun _ => 0))), (rn, .inl (d6, 12, .inl fn)), (so, .inl (d7, 12, .inl (fun _ => 0))), (q2, .inl (cA3, 9, .inl (upd (fun _ => 0) 0 0)))] := hD
  refine lv_dup hx hb dX3_counted_60 rfl ?_
  refine lv_iconst (v := 1) hx hb dX3_counted_61 (by decide) ?_
  refine lv_aload_n hx hb dX3_counted_62 rfl (lv_at hl 3 rfl) ?_
  refine va_get (D := (dC, dI)) (ci := 3) (v := .int 0) (C := RX3) (T := TX3) (N := 10) hx hb hts (by decide +kernel) hown hK hP 0 rfl rfl 1 (by decide) (hts (.fieldLink RX3 44 "ThatchRoofModel" "roofs" "I") (by decide +kernel)) (fun _ h9 => h9) rfl dX3_counted_63 ?_
  refine va_iast hx hb hK hP hD hS 5 3 rfl rfl (vp_in_nI (n := 1) (by decide) (by decide)) dX3_counted_66 (fun H locs hP hD hS => ?_)
  have hP : va_P (dC, dI) vwCl [(hm, .inr (3, [.int th, .int 0, .ref wi, .ref co, .ref sl, .ref rn, .ref so, .ref bn, .ref sm, .ref ah])), (sm, .inr (2, [.int 0, .ref gr, .ref gt, .ref gw, .ref gk, .ref gi, .ref gp, .ref go, .ref gg, .ref gh])), (bn, .inl (d5, 3, .inl (fun _ => 0))), (rn, .inl (d6, 12, .inl fn)), (so, .inl (d7, 12, .inl (fun _ => 0))), (q2, .inl (cA3, 9, .inl (upd (upd (fun _ => 0) 0 0) 1 0)))] H := hP
  have hD : va_D A [(hm, .inr (3, [.int th, .int 0, .ref wi, .ref co, .ref sl, .ref rn, .ref so, .ref bn, .ref sm, .ref ah])), (sm, .inr (2, [.int 0, .ref gr, .ref gt, .ref gw, .ref gk, .ref gi, .ref gp, .ref go, .ref gg, .ref gh])), (bn, .inl (d5, 3, .inl (fun _ => 0))), (rn, .inl (d6, 12, .inl fn)), (so, .inl (d7, 12, .inl (fun _ => 0))), (q2, .inl (cA3, 9, .inl (upd (upd (fun _ => 0) 0 0) 1 0)))] := hD
  refine lv_dup hx hb dX3_counted_67 rfl ?_
  refine lv_iconst (v := 2) hx hb dX3_counted_68 (by decide) ?_
  refine lv_aload_n hx hb dX3_counted_69 rfl (lv_at hl 3 rfl) ?_
  refine va_get (D := (dC, dI)) (ci := 3) (v := .ref bn) (C := RX3) (T := TX3) (N := 10) hx hb hts (by decide +kernel) hown hK hP 0 rfl rfl 7 (by decide) (hts (.fieldLink RX3 25 "ThatchRoofModel" "barn" "[I") (by decide +kernel)) (fun _ h9 => h9) rfl dX3_counted_70 ?_
  refine lv_iconst (v := 0) hx hb dX3_counted_73 (by decide) ?_
  refine va_iald hx hb hK hP 2 0 rfl rfl (vp_in_nI (n := 0) (by decide) (by decide)) dX3_counted_74 ?_
  refine lv_topi (fun x4 ex4 => ?_)
  obtain rfl : x4 = 0 := ex4
  refine va_iast hx hb hK hP hD hS 5 3 rfl rfl (vp_in_nI (n := 2) (by decide) (by decide)) dX3_counted_75 (fun H locs hP hD hS => ?_)
  have hP : va_P (dC, dI) vwCl [(hm, .inr (3, [.int th, .int 0, .ref wi, .ref co, .ref sl, .ref rn, .ref so, .ref bn, .ref sm, .ref ah])), (sm, .inr (2, [.int 0, .ref gr, .ref gt, .ref gw, .ref gk, .ref gi, .ref gp, .ref go, .ref gg, .ref gh])), (bn, .inl (d5, 3, .inl (fun _ => 0))), (rn, .inl (d6, 12, .inl fn)), (so, .inl (d7, 12, .inl (fun _ => 0))), (q2, .inl (cA3, 9, .inl (upd (upd (upd (fun _ => 0) 0 0) 1 0) 2 0)))] H := hP
  have hD : va_D A [(hm, .inr (3, [.int th, .int 0, .ref wi, .ref co, .ref sl, .ref rn, .ref so, .ref bn, .ref sm, .ref ah])), (sm, .inr (2, [.int 0, .ref gr, .ref gt, .ref gw, .ref gk, .ref gi, .ref gp, .ref go, .ref gg, .ref gh])), (bn, .inl (d5, 3, .inl (fun _ => 0))), (rn, .inl (d6, 12, .inl fn)), (so, .inl (d7, 12, .inl (fun _ => 0))), (q2, .inl (cA3, 9, .inl (upd (upd (upd (fun _ => 0) 0 0) 1 0) 2 0)))] := hD
  refine lv_dup hx hb dX3_counted_76 rfl ?_
  refine lv_iconst (v := 3) hx hb dX3_counted_77 (by decide) ?_
  refine lv_aload_n hx hb dX3_counted_78 rfl (lv_at hl 3 rfl) ?_
  refine va_get (D := (dC, dI)) (ci := 3) (v := .ref bn) (C := RX3) (T := TX3) (N := 10) hx hb hts (by decide +kernel) hown hK hP 0 rfl rfl 7 (by decide) (hts (.fieldLink RX3 25 "ThatchRoofModel" "barn" "[I") (by decide +kernel)) (fun _ h9 => h9) rfl dX3_counted_79 ?_
  refine lv_iconst (v := 1) hx hb dX3_counted_82 (by decide) ?_
  refine va_iald hx hb hK hP 2 0 rfl rfl (vp_in_nI (n := 1) (by decide) (by decide)) dX3_counted_83 ?_
  refine lv_topi (fun x5 ex5 => ?_)
  obtain rfl : x5 = 0 := ex5
  refine va_iast hx hb hK hP hD hS 5 3 rfl rfl (vp_in_nI (n := 3) (by decide) (by decide)) dX3_counted_84 (fun H locs hP hD hS => ?_)
  have hP : va_P (dC, dI) vwCl [(hm, .inr (3, [.int th, .int 0, .ref wi, .ref co, .ref sl, .ref rn, .ref so, .ref bn, .ref sm, .ref ah])), (sm, .inr (2, [.int 0, .ref gr, .ref gt, .ref gw, .ref gk, .ref gi, .ref gp, .ref go, .ref gg, .ref gh])), (bn, .inl (d5, 3, .inl (fun _ => 0))), (rn, .inl (d6, 12, .inl fn)), (so, .inl (d7, 12, .inl (fun _ => 0))), (q2, .inl (cA3, 9, .inl (upd (upd (upd (upd (fun _ => 0) 0 0) 1 0) 2 0) 3 0)))] H := hP
  have hD : va_D A [(hm, .inr (3, [.int th, .int 0, .ref wi, .ref co, .ref sl, .ref rn, .ref so, .ref bn, .ref sm, .ref ah])), (sm, .inr (2, [.int 0, .ref gr, .ref gt, .ref gw, .ref gk, .ref gi, .ref gp, .ref go, .ref gg, .ref gh])), (bn, .inl (d5, 3, .inl (fun _ => 0))), (rn, .inl (d6, 12, .inl fn)), (so, .inl (d7, 12, .inl (fun _ => 0))), (q2, .inl (cA3, 9, .inl (upd (upd (upd (upd (fun _ => 0) 0 0) 1 0) 2 0) 3 0)))] := hD
  refine lv_dup hx hb dX3_counted_85 rfl ?_
  refine lv_iconst (v := 4) hx hb dX3_counted_86 (by decide) ?_
  refine lv_aload_n hx hb dX3_counted_87 rfl (lv_at hl 3 rfl) ?_
  refine va_get (D := (dC, dI)) (ci := 3) (v := .ref bn) (C := RX3) (T := TX3) (N := 10) hx hb hts (by decide +kernel) hown hK hP 0 rfl rfl 7 (by decide) (hts (.fieldLink RX3 25 "ThatchRoofModel" "barn" "[I") (by decide +kernel)) (fun _ h9 => h9) rfl dX3_counted_88 ?_
  refine lv_iconst (v := 2) hx hb dX3_counted_91 (by decide) ?_
  refine va_iald hx hb hK hP 2 0 rfl rfl (vp_in_nI (n := 2) (by decide) (by decide)) dX3_counted_92 ?_
  refine lv_topi (fun x6 ex6 => ?_)
  obtain rfl : x6 = 0 := ex6
  refine va_iast hx hb hK hP hD hS 5 3 rfl rfl (vp_in_nI (n := 4) (by decide) (by decide)) dX3_counted_93 (fun H locs hP hD hS => ?_)
  have hP : va_P (dC, dI) vwCl [(hm, .inr (3, [.int th, .int 0, .ref wi, .ref co, .ref sl, .ref rn, .ref so, .ref bn, .ref sm, .ref ah])), (sm, .inr (2, [.int 0, .ref gr, .ref gt, .ref gw, .ref gk, .ref gi, .ref gp, .ref go, .ref gg, .ref gh])), (bn, .inl (d5, 3, .inl (fun _ => 0))), (rn, .inl (d6, 12, .inl fn)), (so, .inl (d7, 12, .inl (fun _ => 0))), (q2, .inl (cA3, 9, .inl (upd (upd (upd (upd (upd (fun _ => 0) 0 0) 1 0) 2 0) 3 0) 4 0)))] H := hP
  have hD : va_D A [(hm, .inr (3, [.int th, .int 0, .ref wi, .ref co, .ref sl, .ref rn, .ref so, .ref bn, .ref sm, .ref ah])), (sm, .inr (2, [.int 0, .ref gr, .ref gt, .ref gw, .ref gk, .ref gi, .ref gp, .ref go, .ref gg, .ref gh])), (bn, .inl (d5, 3, .inl (fun _ => 0))), (rn, .inl (d6, 12, .inl fn)), (so, .inl (d7, 12, .inl (fun _ => 0))), (q2, .inl (cA3, 9, .inl (upd (upd (upd (upd (upd (fun _ => 0) 0 0) 1 0) 2 0) 3 0) 4 0)))] := hD
  refine lv_dup hx hb dX3_counted_94 rfl ?_
  refine lv_iconst (v := 5) hx hb dX3_counted_95 (by decide) ?_
  refine lv_iload_n hx hb dX3_counted_96 rfl (lv_at hl 2 rfl) ?_
  refine va_iast hx hb hK hP hD hS 5 3 rfl rfl (vp_in_nI (n := 5) (by decide) (by decide)) dX3_counted_97 (fun H locs hP hD hS => ?_)
  have hP : va_P (dC, dI) vwCl [(hm, .inr (3, [.int th, .int 0, .ref wi, .ref co, .ref sl, .ref rn, .ref so, .ref bn, .ref sm, .ref ah])), (sm, .inr (2, [.int 0, .ref gr, .ref gt, .ref gw, .ref gk, .ref gi, .ref gp, .ref go, .ref gg, .ref gh])), (bn, .inl (d5, 3, .inl (fun _ => 0))), (rn, .inl (d6, 12, .inl fn)), (so, .inl (d7, 12, .inl (fun _ => 0))), (q2, .inl (cA3, 9, .inl (upd (upd (upd (upd (upd (upd (fun _ => 0) 0 0) 1 0) 2 0) 3 0) 4 0) 5 0)))] H := hP
  have hD : va_D A [(hm, .inr (3, [.int th, .int 0, .ref wi, .ref co, .ref sl, .ref rn, .ref so, .ref bn, .ref sm, .ref ah])), (sm, .inr (2, [.int 0, .ref gr, .ref gt, .ref gw, .ref gk, .ref gi, .ref gp, .ref go, .ref gg, .ref gh])), (bn, .inl (d5, 3, .inl (fun _ => 0))), (rn, .inl (d6, 12, .inl fn)), (so, .inl (d7, 12, .inl (fun _ => 0))), (q2, .inl (cA3, 9, .inl (upd (upd (upd (upd (upd (upd (fun _ => 0) 0 0) 1 0) 2 0) 3 0) 4 0) 5 0)))] := hD
  refine lv_dup hx hb dX3_counted_98 rfl ?_
  refine lv_bipush (v := 6) hx hb dX3_counted_99 (by decide) ?_
  refine lv_iload_n hx hb dX3_counted_101 rfl (lv_at hl 1 rfl) ?_
  refine va_iast hx hb hK hP hD hS 5 3 rfl rfl (vp_in_nI (n := 6) (by decide) (by decide)) dX3_counted_102 (fun H locs hP hD hS => ?_)
  have hP : va_P (dC, dI) vwCl [(hm, .inr (3, [.int th, .int 0, .ref wi, .ref co, .ref sl, .ref rn, .ref so, .ref bn, .ref sm, .ref ah])), (sm, .inr (2, [.int 0, .ref gr, .ref gt, .ref gw, .ref gk, .ref gi, .ref gp, .ref go, .ref gg, .ref gh])), (bn, .inl (d5, 3, .inl (fun _ => 0))), (rn, .inl (d6, 12, .inl fn)), (so, .inl (d7, 12, .inl (fun _ => 0))), (q2, .inl (cA3, 9, .inl (upd (upd (upd (upd (upd (upd (upd (fun _ => 0) 0 0) 1 0) 2 0) 3 0) 4 0) 5 0) 6 0)))] H := hP
  have hD : va_D A [(hm, .inr (3, [.int th, .int 0, .ref wi, .ref co, .ref sl, .ref rn, .ref so, .ref bn, .ref sm, .ref ah])), (sm, .inr (2, [.int 0, .ref gr, .ref gt, .ref gw, .ref gk, .ref gi, .ref gp, .ref go, .ref gg, .ref gh])), (bn, .inl (d5, 3, .inl (fun _ => 0))), (rn, .inl (d6, 12, .inl fn)), (so, .inl (d7, 12, .inl (fun _ => 0))), (q2, .inl (cA3, 9, .inl (upd (upd (upd (upd (upd (upd (upd (fun _ => 0) 0 0) 1 0) 2 0) 3 0) 4 0) 5 0) 6 0)))] := hD
  refine lv_dup hx hb dX3_counted_103 rfl ?_
  refine lv_bipush (v := 7) hx hb dX3_counted_104 (by decide) ?_
  refine lv_aload_n hx hb dX3_counted_106 rfl (lv_at hl 3 rfl) ?_
  refine va_get (D := (dC, dI)) (ci := 3) (v := .ref rn) (C := RX3) (T := TX3) (N := 10) hx hb hts (by decide +kernel) hown hK hP 0 rfl rfl 5 (by decide) (hts (.fieldLink RX3 19 "ThatchRoofModel" "rain" "[I") (by decide +kernel)) (fun _ h9 => h9) rfl dX3_counted_107 ?_
  refine lv_aload_n hx hb dX3_counted_110 rfl (lv_at hl 3 rfl) ?_
  refine va_get (D := (dC, dI)) (ci := 3) (v := .ref sm) (C := RX3) (T := TX3) (N := 10) hx hb hts (by decide +kernel) hown hK hP 0 rfl rfl 8 (by decide) (hts (.fieldLink RX3 33 "ThatchRoofModel" "s" "LThatchRoofModel$State;") (by decide +kernel)) (fun _ h9 => h9) rfl dX3_counted_111 ?_
  refine va_getN (D := (dC, dI)) (ci := 2) (v := .int 0) (C := RX2) (T := TX2) (N := 10) hx hb hts (by decide +kernel) hown hK hP 1 rfl rfl 0 (by decide) (va_Nw.use rfl (zN_RX3_128 hZN)) (fun _ h9 => h9) rfl dX3_counted_114 ?_
  refine lv_bipush (v := 12) hx hb dX3_counted_117 (by decide) ?_
  refine lv_irem hx hb dX3_counted_119 (by decide) ?_
  refine W.eq (g2 := F0 m 120 ls [.int 0, .ref rn, .int 7, .ref q2, .ref q2]) rfl ?_
  refine va_iald hx hb hK hP 3 1 rfl rfl (vp_in_nI (n := 0) (by decide) (by decide)) dX3_counted_120 ?_
  refine lv_topi (fun x7 ex7 => ?_)
  obtain rfl : x7 = 4 := ex7.trans (hrn 0 (by decide))
  refine va_iast hx hb hK hP hD hS 5 3 rfl rfl (vp_in_nI (n := 7) (by decide) (by decide)) dX3_counted_121 (fun H locs hP hD hS => ?_)
  have hP : va_P (dC, dI) vwCl [(hm, .inr (3, [.int th, .int 0, .ref wi, .ref co, .ref sl, .ref rn, .ref so, .ref bn, .ref sm, .ref ah])), (sm, .inr (2, [.int 0, .ref gr, .ref gt, .ref gw, .ref gk, .ref gi, .ref gp, .ref go, .ref gg, .ref gh])), (bn, .inl (d5, 3, .inl (fun _ => 0))), (rn, .inl (d6, 12, .inl fn)), (so, .inl (d7, 12, .inl (fun _ => 0))), (q2, .inl (cA3, 9, .inl (upd (upd (upd (upd (upd (upd (upd (upd (fun _ => 0) 0 0) 1 0) 2 0) 3 0) 4 0) 5 0) 6 0) 7 4)))] H := hP
  have hD : va_D A [(hm, .inr (3, [.int th, .int 0, .ref wi, .ref co, .ref sl, .ref rn, .ref so, .ref bn, .ref sm, .ref ah])), (sm, .inr (2, [.int 0, .ref gr, .ref gt, .ref gw, .ref gk, .ref gi, .ref gp, .ref go, .ref gg, .ref gh])), (bn, .inl (d5, 3, .inl (fun _ => 0))), (rn, .inl (d6, 12, .inl fn)), (so, .inl (d7, 12, .inl (fun _ => 0))), (q2, .inl (cA3, 9, .inl (upd (upd (upd (upd (upd (upd (upd (upd (fun _ => 0) 0 0) 1 0) 2 0) 3 0) 4 0) 5 0) 6 0) 7 4)))] := hD
  refine lv_dup hx hb dX3_counted_122 rfl ?_
  refine lv_bipush (v := 8) hx hb dX3_counted_123 (by decide) ?_
  refine lv_aload_n hx hb dX3_counted_125 rfl (lv_at hl 3 rfl) ?_
  refine va_get (D := (dC, dI)) (ci := 3) (v := .ref so) (C := RX3) (T := TX3) (N := 10) hx hb hts (by decide +kernel) hown hK hP 0 rfl rfl 6 (by decide) (hts (.fieldLink RX3 22 "ThatchRoofModel" "storm" "[I") (by decide +kernel)) (fun _ h9 => h9) rfl dX3_counted_126 ?_
  refine lv_aload_n hx hb dX3_counted_129 rfl (lv_at hl 3 rfl) ?_
  refine va_get (D := (dC, dI)) (ci := 3) (v := .ref sm) (C := RX3) (T := TX3) (N := 10) hx hb hts (by decide +kernel) hown hK hP 0 rfl rfl 8 (by decide) (hts (.fieldLink RX3 33 "ThatchRoofModel" "s" "LThatchRoofModel$State;") (by decide +kernel)) (fun _ h9 => h9) rfl dX3_counted_130 ?_
  refine va_getN (D := (dC, dI)) (ci := 2) (v := .int 0) (C := RX2) (T := TX2) (N := 10) hx hb hts (by decide +kernel) hown hK hP 1 rfl rfl 0 (by decide) (va_Nw.use rfl (zN_RX3_128 hZN)) (fun _ h9 => h9) rfl dX3_counted_133 ?_
  refine lv_bipush (v := 12) hx hb dX3_counted_136 (by decide) ?_
  refine lv_irem hx hb dX3_counted_138 (by decide) ?_
  refine W.eq (g2 := F0 m 139 ls [.int 0, .ref so, .int 8, .ref q2, .ref q2]) rfl ?_
  refine va_iald hx hb hK hP 4 2 rfl rfl (vp_in_nI (n := 0) (by decide) (by decide)) dX3_counted_139 ?_
  refine lv_topi (fun x8 ex8 => ?_)
  obtain rfl : x8 = 0 := ex8
  refine va_iast hx hb hK hP hD hS 5 3 rfl rfl (vp_in_nI (n := 8) (by decide) (by decide)) dX3_counted_140 (fun H locs hP hD hS => ?_)
  have hP : va_P (dC, dI) vwCl [(hm, .inr (3, [.int th, .int 0, .ref wi, .ref co, .ref sl, .ref rn, .ref so, .ref bn, .ref sm, .ref ah])), (sm, .inr (2, [.int 0, .ref gr, .ref gt, .ref gw, .ref gk, .ref gi, .ref gp, .ref go, .ref gg, .ref gh])), (bn, .inl (d5, 3, .inl (fun _ => 0))), (rn, .inl (d6, 12, .inl fn)), (so, .inl (d7, 12, .inl (fun _ => 0))), (q2, .inl (cA3, 9, .inl (upd (upd (upd (upd (upd (upd (upd (upd (upd (fun _ => 0) 0 0) 1 0) 2 0) 3 0) 4 0) 5 0) 6 0) 7 4) 8 0)))] H := hP
  have hD : va_D A [(hm, .inr (3, [.int th, .int 0, .ref wi, .ref co, .ref sl, .ref rn, .ref so, .ref bn, .ref sm, .ref ah])), (sm, .inr (2, [.int 0, .ref gr, .ref gt, .ref gw, .ref gk, .ref gi, .ref gp, .ref go, .ref gg, .ref gh])), (bn, .inl (d5, 3, .inl (fun _ => 0))), (rn, .inl (d6, 12, .inl fn)), (so, .inl (d7, 12, .inl (fun _ => 0))), (q2, .inl (cA3, 9, .inl (upd (upd (upd (upd (upd (upd (upd (upd (upd (fun _ => 0) 0 0) 1 0) 2 0) 3 0) 4 0) 5 0) 6 0) 7 4) 8 0)))] := hD
  refine lv_astore (lv' := [(4, .ref q2), (3, .int 0), (2, .int 0), (0, .ref hm), (1, .int 0)]) hx hb dX3_counted_141 hl (by decide) rfl (fun ls hl => ?_)
  refine lv_aload hx hb dX3_counted_143 (lv_at hl 0 rfl) ?_
  refine lv_iload_n hx hb dX3_counted_145 rfl (lv_at hl 4 rfl) ?_
  refine va_iald hx hb hK hP 5 3 rfl rfl (vp_in_nI (n := 0) (by decide) (by decide)) dX3_counted_146 ?_
  refine lv_topi (fun x9 ex9 => ?_)
  obtain rfl : x9 = 0 := ex9
  have hP9 := hP.sub (ws' := [(hm, .inr (3, [.int th, .int 0, .ref wi, .ref co, .ref sl, .ref rn, .ref so, .ref bn, .ref sm, .ref ah])), (sm, .inr (2, [.int 0, .ref gr, .ref gt, .ref gw, .ref gk, .ref gi, .ref gp, .ref go, .ref gg, .ref gh])), (bn, .inl (d5, 3, .inl (fun _ => 0))), (rn, .inl (d6, 12, .inl fn)), (so, .inl (d7, 12, .inl (fun _ => 0)))]) [0, 1, 2, 3, 4] rfl
  have hD9 := hD.sub (ws' := [(hm, .inr (3, [.int th, .int 0, .ref wi, .ref co, .ref sl, .ref rn, .ref so, .ref bn, .ref sm, .ref ah])), (sm, .inr (2, [.int 0, .ref gr, .ref gt, .ref gw, .ref gk, .ref gi, .ref gp, .ref go, .ref gg, .ref gh])), (bn, .inl (d5, 3, .inl (fun _ => 0))), (rn, .inl (d6, 12, .inl fn)), (so, .inl (d7, 12, .inl (fun _ => 0)))]) [0, 1, 2, 3, 4] (by decide) rfl
  have hK9 := hK.sub (tys' := []) [] rfl
  refine W.widen (k := 1) (n := 9) (Nat.le_of_ble_eq_true rfl) (Nat.le_of_ble_eq_true rfl) ?_
  exact W.iret (v := 0) hx hb hr (fun t ht hW => ⟨⟨0, (), rfl, by (first | rfl | assumption | decide | (simp_all; done) | grind), ⟨by rw [ht]; exact hP9, va_K.moved hW.alike hK9, hD9⟩⟩, hS.F ht⟩) hS.2.2 dX3_counted_147

set_option maxHeartbeats 4000000 in
set_option maxRecDepth 100000 in
theorem k3_counted1 (l : Launch) (dC : Nat → ClassId) (dI : Nat → Nat → Nat) (sz : Nat) (hm : Nat) (wi : Nat) (co : Nat) (sl : Nat) (rn : Nat) (so : Nat) (bn : Nat) (sm : Nat) (ah : Nat) (th : Int32) (gr : Nat) (gt : Nat) (gw : Nat) (gk : Nat) (gi : Nat) (gp : Nat) (go : Nat) (gg : Nat) (gh : Nat) (d5 : ClassId) (d6 : ClassId) (d7 : ClassId) (fn : Nat → Int32) (hrn : ∀ j : Nat, j < 12 → fn j = 4) : Met l yX3_counted wsX3_counted ({ frames := 0, cells := 1, slots := 9, locals := 0 }) (va_Pc [.ref hm, .int 1] (fun U => U.heap.size = sz ∧ va_P (dC, dI) vwCl [(hm, .inr (3, [.int th, .int 0, .ref wi, .ref co, .ref sl, .ref rn, .ref so, .ref bn, .ref sm, .ref ah])), (sm, .inr (2, [.int 0, .ref gr, .ref gt, .ref gw, .ref gk, .ref gi, .ref gp, .ref go, .ref gg, .ref gh])), (bn, .inl (d5, 3, .inl (fun _ => 0))), (rn, .inl (d6, 12, .inl fn)), (so, .inl (d7, 12, .inl (fun _ => 0)))] U.heap ∧ va_K (dC, dI) vwCl [(d5, .int), (d6, .int), (d7, .int)] U ∧ va_D (fun _ => True) [(hm, .inr (3, [.int th, .int 0, .ref wi, .ref co, .ref sl, .ref rn, .ref so, .ref bn, .ref sm, .ref ah])), (sm, .inr (2, [.int 0, .ref gr, .ref gt, .ref gw, .ref gk, .ref gi, .ref gp, .ref go, .ref gg, .ref gh])), (bn, .inl (d5, 3, .inl (fun _ => 0))), (rn, .inl (d6, 12, .inl fn)), (so, .inl (d7, 12, .inl (fun _ => 0)))] ∧ zNs U)) (va_Qi (fun (r : Int32) (u : Unit) => r = 0) (fun (u : Unit) (t : State) => va_P (dC, dI) vwCl [(hm, .inr (3, [.int th, .int 0, .ref wi, .ref co, .ref sl, .ref rn, .ref so, .ref bn, .ref sm, .ref ah])), (sm, .inr (2, [.int 0, .ref gr, .ref gt, .ref gw, .ref gk, .ref gi, .ref gp, .ref go, .ref gg, .ref gh])), (bn, .inl (d5, 3, .inl (fun _ => 0))), (rn, .inl (d6, 12, .inl fn)), (so, .inl (d7, 12, .inl (fun _ => 0)))] t.heap ∧ va_K (dC, dI) vwCl [] t ∧ va_D (va_A [(hm, .inr (3, [.int th, .int 0, .ref wi, .ref co, .ref sl, .ref rn, .ref so, .ref bn, .ref sm, .ref ah])), (sm, .inr (2, [.int 0, .ref gr, .ref gt, .ref gw, .ref gk, .ref gi, .ref gp, .ref go, .ref gg, .ref gh])), (bn, .inl (d5, 3, .inl (fun _ => 0))), (rn, .inl (d6, 12, .inl fn)), (so, .inl (d7, 12, .inl (fun _ => 0)))] sz) [(hm, .inr (3, [.int th, .int 0, .ref wi, .ref co, .ref sl, .ref rn, .ref so, .ref bn, .ref sm, .ref ah])), (sm, .inr (2, [.int 0, .ref gr, .ref gt, .ref gw, .ref gk, .ref gi, .ref gp, .ref go, .ref gg, .ref gh])), (bn, .inl (d5, 3, .inl (fun _ => 0))), (rn, .inl (d6, 12, .inl fn)), (so, .inl (d7, 12, .inl (fun _ => 0)))]) (va_A [(hm, .inr (3, [.int th, .int 0, .ref wi, .ref co, .ref sl, .ref rn, .ref so, .ref bn, .ref sm, .ref ah])), (sm, .inr (2, [.int 0, .ref gr, .ref gt, .ref gw, .ref gk, .ref gi, .ref gp, .ref go, .ref gg, .ref gh])), (bn, .inl (d5, 3, .inl (fun _ => 0))), (rn, .inl (d6, 12, .inl fn)), (so, .inl (d7, 12, .inl (fun _ => 0)))] sz)) 1 9 (va_A [(hm, .inr (3, [.int th, .int 0, .ref wi, .ref co, .ref sl, .ref rn, .ref so, .ref bn, .ref sm, .ref ah])), (sm, .inr (2, [.int 0, .ref gr, .ref gt, .ref gw, .ref gk, .ref gi, .ref gp, .ref go, .ref gg, .ref gh])), (bn, .inl (d5, 3, .inl (fun _ => 0))), (rn, .inl (d6, 12, .inl fn)), (so, .inl (d7, 12, .inl (fun _ => 0)))] sz) := by
  refine Met.ofW (cc := cX3_counted) (maxL := 5) (ret := (some .int)) (by decide) rfl ?_
  intro p e s m args below meth c s₁ B hml hv
  obtain ⟨rfl, hsz, hP, hK, hD0, hZN⟩ := hv
  have hx := B.exec
  have hb := B.bytes
  have hr := B.returns
  have hts := atoms_spec (ws := wsX3_counted) B.pre
  have hown : s.vm.findClass RX3 = some m.cls := findClass_of_methodNamed B.named
  have hlocks := B.notSynchronized
  subst hsz
  have hD := hD0.self (sz := s.heap.size)
  generalize hAe : va_A [(hm, .inr (3, [.int th, .int 0, .ref wi, .ref co, .ref sl, .ref rn, .ref so, .ref bn, .ref sm, .ref ah])), (sm, .inr (2, [.int 0, .ref gr, .ref gt, .ref gw, .ref gk, .ref gi, .ref gp, .ref go, .ref gg, .ref gh])), (bn, .inl (d5, 3, .inl (fun _ => 0))), (rn, .inl (d6, 12, .inl fn)), (so, .inl (d7, 12, .inl (fun _ => 0)))] s.heap.size = A at hD ⊢
  have hA : ∀ q : Nat, s.heap.size ≤ q → A q := fun q h => by rw [← hAe]; exact Or.inr h
  have hS : va_S A s.heap s.heap [] := va_S.rf
  have hP : va_P (dC, dI) vwCl [(hm, .inr (3, [.int th, .int 0, .ref wi, .ref co, .ref sl, .ref rn, .ref so, .ref bn, .ref sm, .ref ah])), (sm, .inr (2, [.int 0, .ref gr, .ref gt, .ref gw, .ref gk, .ref gi, .ref gp, .ref go, .ref gg, .ref gh])), (bn, .inl (d5, 3, .inl (fun _ => 0))), (rn, .inl (d6, 12, .inl fn)), (so, .inl (d7, 12, .inl (fun _ => 0)))] s.heap := hP
  have hl := lv_entry ([.ref hm, .int 1]) (n := 5) (Nat.le_of_ble_eq_true rfl)
  rw [lg_entry_eq]
  generalize (lg_sl ([.ref hm, .int 1]) ++ List.replicate (5 - (lg_sl ([.ref hm, .int 1])).length) Slot.unset).toArray = ls at hl ⊢
  have hl : lv_has ls 5 [(0, .ref hm), (1, .int 1)] := hl
  refine lv_iconst (v := 0) hx hb dX3_counted_0 (by decide) ?_
  refine lv_istore_n (lv' := [(2, .int 0), (0, .ref hm), (1, .int 1)]) hx hb dX3_counted_1 rfl hl (by decide) rfl (fun ls hl => ?_)
  refine lv_iconst (v := 0) hx hb dX3_counted_2 (by decide) ?_
  refine lv_istore_n (lv' := [(3, .int 0), (2, .int 0), (0, .ref hm), (1, .int 1)]) hx hb dX3_counted_3 rfl hl (by decide) rfl (fun ls hl => ?_)
  refine lv_iconst (v := 0) hx hb dX3_counted_4 (by decide) ?_
  refine lv_istore (lv' := [(4, .int 0), (3, .int 0), (2, .int 0), (0, .ref hm), (1, .int 1)]) hx hb dX3_counted_5 hl (by decide) rfl (fun ls hl => ?_)
  refine lv_iload hx hb dX3_counted_7 (lv_at hl 0 rfl) ?_
  refine lv_aload_n hx hb dX3_counted_9 rfl (lv_at hl 3 rfl) ?_
  refine va_get (D := (dC, dI)) (ci := 3) (v := .int 0) (C := RX3) (T := TX3) (N := 10) hx hb hts (by decide +kernel) hown hK hP 0 rfl rfl 1 (by decide) (hts (.fieldLink RX3 44 "ThatchRoofModel" "roofs" "I") (by decide +kernel)) (fun _ h9 => h9) rfl dX3_counted_10 ?_
  refine lv_icmp_ge (tgt := 46) hx hb dX3_counted_13 (by decide) (fun c1 => ?_) (fun c1 => absurd c1 (by decide))
  refine lv_bipush (v := 9) hx hb dX3_counted_46 (by decide) ?_
  refine va_newa (atype := .int) (ty := .int) (N' := 9) (a0 := (9, .inl (fun _ => 0))) hx hb (hts (.arrayClass .int) (by decide +kernel)) rfl hK hP hD hS hA (fun _ => rfl) (by decide) (by decide) (by decide) (Nat.le_of_ble_eq_true rfl) (Nat.le_of_ble_eq_true rfl) dX3_counted_48 (fun q2 cA3 H hK hP hD hS => ?_)
  refine W.widen (k := 1) (n := 9) (Nat.le_of_ble_eq_true rfl) (Nat.le_of_ble_eq_true rfl) ?_
  have hK : va_K (dC, dI) vwCl [(d5, .int), (d6, .int), (d7, .int), (cA3, .int)] s := hK
  have hP : va_P (dC, dI) vwCl [(hm, .inr (3, [.int th, .int 0, .ref wi, .ref co, .ref sl, .ref rn, .ref so, .ref bn, .ref sm, .ref ah])), (sm, .inr (2, [.int 0, .ref gr, .ref gt, .ref gw, .ref gk, .ref gi, .ref gp, .ref go, .ref gg, .ref gh])), (bn, .inl (d5, 3, .inl (fun _ => 0))), (rn, .inl (d6, 12, .inl fn)), (so, .inl (d7, 12, .inl (fun _ => 0))), (q2, .inl (cA3, 9, .inl (fun _ => 0)))] H := hP
  have hD : va_D A [(hm, .inr (3, [.int th, .int 0, .ref wi, .ref co, .ref sl, .ref rn, .ref so, .ref bn, .ref sm, .ref ah])), (sm, .inr (2, [.int 0, .ref gr, .ref gt, .ref gw, .ref gk, .ref gi, .ref gp, .ref go, .ref gg, .ref gh])), (bn, .inl (d5, 3, .inl (fun _ => 0))), (rn, .inl (d6, 12, .inl fn)), (so, .inl (d7, 12, .inl (fun _ => 0))), (q2, .inl (cA3, 9, .inl (fun _ => 0)))] := hD
  refine lv_dup hx hb dX3_counted_50 rfl ?_
  refine lv_iconst (v := 0) hx hb dX3_counted_51 (by decide) ?_
  refine lv_aload_n hx hb dX3_counted_52 rfl (lv_at hl 3 rfl) ?_
  refine va_get (D := (dC, dI)) (ci := 3) (v := .ref sm) (C := RX3) (T := TX3) (N := 10) hx hb hts (by decide +kernel) hown hK hP 0 rfl rfl 8 (by decide) (hts (.fieldLink RX3 33 "ThatchRoofModel" "s" "LThatchRoofModel$State;") (by decide +kernel)) (fun _ h9 => h9) rfl dX3_counted_53 ?_
  refine va_getN (D := (dC, dI)) (ci := 2) (v := .int 0) (C := RX2) (T := TX2) (N := 10) hx hb hts (by decide +kernel) hown hK hP 1 rfl rfl 0 (by decide) (va_Nw.use rfl (zN_RX3_128 hZN)) (fun _ h9 => h9) rfl dX3_counted_56 ?_
  refine va_iast hx hb hK hP hD hS 5 3 rfl rfl (vp_in_nI (n := 0) (by decide) (by decide)) dX3_counted_59 (fun H locs hP hD hS => ?_)
  have hP : va_P (dC, dI) vwCl [(hm, .inr (3, [.int th, .int 0, .ref wi, .ref co, .ref sl, .ref rn, .ref so, .ref bn, .ref sm, .ref ah])), (sm, .inr (2, [.int 0, .ref gr, .ref gt, .ref gw, .ref gk, .ref gi, .ref gp, .ref go, .ref gg, .ref gh])), (bn, .inl (d5, 3, .inl (fun _ => 0))), (rn, .inl (d6, 12, .inl fn)), (so, .inl (d7, 12, .inl (fun _ => 0))), (q2, .inl (cA3, 9, .inl (upd (fun _ => 0) 0 0)))] H := hP
  have hD : va_D A [(hm, .inr (3, [.int th, .int 0, .ref wi, .ref co, .ref sl, .ref rn, .ref so, .ref bn, .ref sm, .ref ah])), (sm, .inr (2, [.int 0, .ref gr, .ref gt, .ref gw, .ref gk, .ref gi, .ref gp, .ref go, .ref gg, .ref gh])), (bn, .inl (d5, 3, .inl (fun _ => 0))), (rn, .inl (d6, 12, .inl fn)), (so, .inl (d7, 12, .inl (fun _ => 0))), (q2, .inl (cA3, 9, .inl (upd (fun _ => 0) 0 0)))] := hD
  refine lv_dup hx hb dX3_counted_60 rfl ?_
  refine lv_iconst (v := 1) hx hb dX3_counted_61 (by decide) ?_
  refine lv_aload_n hx hb dX3_counted_62 rfl (lv_at hl 3 rfl) ?_
  refine va_get (D := (dC, dI)) (ci := 3) (v := .int 0) (C := RX3) (T := TX3) (N := 10) hx hb hts (by decide +kernel) hown hK hP 0 rfl rfl 1 (by decide) (hts (.fieldLink RX3 44 "ThatchRoofModel" "roofs" "I") (by decide +kernel)) (fun _ h9 => h9) rfl dX3_counted_63 ?_
  refine va_iast hx hb hK hP hD hS 5 3 rfl rfl (vp_in_nI (n := 1) (by decide) (by decide)) dX3_counted_66 (fun H locs hP hD hS => ?_)
  have hP : va_P (dC, dI) vwCl [(hm, .inr (3, [.int th, .int 0, .ref wi, .ref co, .ref sl, .ref rn, .ref so, .ref bn, .ref sm, .ref ah])), (sm, .inr (2, [.int 0, .ref gr, .ref gt, .ref gw, .ref gk, .ref gi, .ref gp, .ref go, .ref gg, .ref gh])), (bn, .inl (d5, 3, .inl (fun _ => 0))), (rn, .inl (d6, 12, .inl fn)), (so, .inl (d7, 12, .inl (fun _ => 0))), (q2, .inl (cA3, 9, .inl (upd (upd (fun _ => 0) 0 0) 1 0)))] H := hP
  have hD : va_D A [(hm, .inr (3, [.int th, .int 0, .ref wi, .ref co, .ref sl, .ref rn, .ref so, .ref bn, .ref sm, .ref ah])), (sm, .inr (2, [.int 0, .ref gr, .ref gt, .ref gw, .ref gk, .ref gi, .ref gp, .ref go, .ref gg, .ref gh])), (bn, .inl (d5, 3, .inl (fun _ => 0))), (rn, .inl (d6, 12, .inl fn)), (so, .inl (d7, 12, .inl (fun _ => 0))), (q2, .inl (cA3, 9, .inl (upd (upd (fun _ => 0) 0 0) 1 0)))] := hD
  refine lv_dup hx hb dX3_counted_67 rfl ?_
  refine lv_iconst (v := 2) hx hb dX3_counted_68 (by decide) ?_
  refine lv_aload_n hx hb dX3_counted_69 rfl (lv_at hl 3 rfl) ?_
  refine va_get (D := (dC, dI)) (ci := 3) (v := .ref bn) (C := RX3) (T := TX3) (N := 10) hx hb hts (by decide +kernel) hown hK hP 0 rfl rfl 7 (by decide) (hts (.fieldLink RX3 25 "ThatchRoofModel" "barn" "[I") (by decide +kernel)) (fun _ h9 => h9) rfl dX3_counted_70 ?_
  refine lv_iconst (v := 0) hx hb dX3_counted_73 (by decide) ?_
  refine va_iald hx hb hK hP 2 0 rfl rfl (vp_in_nI (n := 0) (by decide) (by decide)) dX3_counted_74 ?_
  refine lv_topi (fun x4 ex4 => ?_)
  obtain rfl : x4 = 0 := ex4
  refine va_iast hx hb hK hP hD hS 5 3 rfl rfl (vp_in_nI (n := 2) (by decide) (by decide)) dX3_counted_75 (fun H locs hP hD hS => ?_)
  have hP : va_P (dC, dI) vwCl [(hm, .inr (3, [.int th, .int 0, .ref wi, .ref co, .ref sl, .ref rn, .ref so, .ref bn, .ref sm, .ref ah])), (sm, .inr (2, [.int 0, .ref gr, .ref gt, .ref gw, .ref gk, .ref gi, .ref gp, .ref go, .ref gg, .ref gh])), (bn, .inl (d5, 3, .inl (fun _ => 0))), (rn, .inl (d6, 12, .inl fn)), (so, .inl (d7, 12, .inl (fun _ => 0))), (q2, .inl (cA3, 9, .inl (upd (upd (upd (fun _ => 0) 0 0) 1 0) 2 0)))] H := hP
  have hD : va_D A [(hm, .inr (3, [.int th, .int 0, .ref wi, .ref co, .ref sl, .ref rn, .ref so, .ref bn, .ref sm, .ref ah])), (sm, .inr (2, [.int 0, .ref gr, .ref gt, .ref gw, .ref gk, .ref gi, .ref gp, .ref go, .ref gg, .ref gh])), (bn, .inl (d5, 3, .inl (fun _ => 0))), (rn, .inl (d6, 12, .inl fn)), (so, .inl (d7, 12, .inl (fun _ => 0))), (q2, .inl (cA3, 9, .inl (upd (upd (upd (fun _ => 0) 0 0) 1 0) 2 0)))] := hD
  refine lv_dup hx hb dX3_counted_76 rfl ?_
  refine lv_iconst (v := 3) hx hb dX3_counted_77 (by decide) ?_
  refine lv_aload_n hx hb dX3_counted_78 rfl (lv_at hl 3 rfl) ?_
  refine va_get (D := (dC, dI)) (ci := 3) (v := .ref bn) (C := RX3) (T := TX3) (N := 10) hx hb hts (by decide +kernel) hown hK hP 0 rfl rfl 7 (by decide) (hts (.fieldLink RX3 25 "ThatchRoofModel" "barn" "[I") (by decide +kernel)) (fun _ h9 => h9) rfl dX3_counted_79 ?_
  refine lv_iconst (v := 1) hx hb dX3_counted_82 (by decide) ?_
  refine va_iald hx hb hK hP 2 0 rfl rfl (vp_in_nI (n := 1) (by decide) (by decide)) dX3_counted_83 ?_
  refine lv_topi (fun x5 ex5 => ?_)
  obtain rfl : x5 = 0 := ex5
  refine va_iast hx hb hK hP hD hS 5 3 rfl rfl (vp_in_nI (n := 3) (by decide) (by decide)) dX3_counted_84 (fun H locs hP hD hS => ?_)
  have hP : va_P (dC, dI) vwCl [(hm, .inr (3, [.int th, .int 0, .ref wi, .ref co, .ref sl, .ref rn, .ref so, .ref bn, .ref sm, .ref ah])), (sm, .inr (2, [.int 0, .ref gr, .ref gt, .ref gw, .ref gk, .ref gi, .ref gp, .ref go, .ref gg, .ref gh])), (bn, .inl (d5, 3, .inl (fun _ => 0))), (rn, .inl (d6, 12, .inl fn)), (so, .inl (d7, 12, .inl (fun _ => 0))), (q2, .inl (cA3, 9, .inl (upd (upd (upd (upd (fun _ => 0) 0 0) 1 0) 2 0) 3 0)))] H := hP
  have hD : va_D A [(hm, .inr (3, [.int th, .int 0, .ref wi, .ref co, .ref sl, .ref rn, .ref so, .ref bn, .ref sm, .ref ah])), (sm, .inr (2, [.int 0, .ref gr, .ref gt, .ref gw, .ref gk, .ref gi, .ref gp, .ref go, .ref gg, .ref gh])), (bn, .inl (d5, 3, .inl (fun _ => 0))), (rn, .inl (d6, 12, .inl fn)), (so, .inl (d7, 12, .inl (fun _ => 0))), (q2, .inl (cA3, 9, .inl (upd (upd (upd (upd (fun _ => 0) 0 0) 1 0) 2 0) 3 0)))] := hD
  refine lv_dup hx hb dX3_counted_85 rfl ?_
  refine lv_iconst (v := 4) hx hb dX3_counted_86 (by decide) ?_
  refine lv_aload_n hx hb dX3_counted_87 rfl (lv_at hl 3 rfl) ?_
  refine va_get (D := (dC, dI)) (ci := 3) (v := .ref bn) (C := RX3) (T := TX3) (N := 10) hx hb hts (by decide +kernel) hown hK hP 0 rfl rfl 7 (by decide) (hts (.fieldLink RX3 25 "ThatchRoofModel" "barn" "[I") (by decide +kernel)) (fun _ h9 => h9) rfl dX3_counted_88 ?_
  refine lv_iconst (v := 2) hx hb dX3_counted_91 (by decide) ?_
  refine va_iald hx hb hK hP 2 0 rfl rfl (vp_in_nI (n := 2) (by decide) (by decide)) dX3_counted_92 ?_
  refine lv_topi (fun x6 ex6 => ?_)
  obtain rfl : x6 = 0 := ex6
  refine va_iast hx hb hK hP hD hS 5 3 rfl rfl (vp_in_nI (n := 4) (by decide) (by decide)) dX3_counted_93 (fun H locs hP hD hS => ?_)
  have hP : va_P (dC, dI) vwCl [(hm, .inr (3, [.int th, .int 0, .ref wi, .ref co, .ref sl, .ref rn, .ref so, .ref bn, .ref sm, .ref ah])), (sm, .inr (2, [.int 0, .ref gr, .ref gt, .ref gw, .ref gk, .ref gi, .ref gp, .ref go, .ref gg, .ref gh])), (bn, .inl (d5, 3, .inl (fun _ => 0))), (rn, .inl (d6, 12, .inl fn)), (so, .inl (d7, 12, .inl (fun _ => 0))), (q2, .inl (cA3, 9, .inl (upd (upd (upd (upd (upd (fun _ => 0) 0 0) 1 0) 2 0) 3 0) 4 0)))] H := hP
  have hD : va_D A [(hm, .inr (3, [.int th, .int 0, .ref wi, .ref co, .ref sl, .ref rn, .ref so, .ref bn, .ref sm, .ref ah])), (sm, .inr (2, [.int 0, .ref gr, .ref gt, .ref gw, .ref gk, .ref gi, .ref gp, .ref go, .ref gg, .ref gh])), (bn, .inl (d5, 3, .inl (fun _ => 0))), (rn, .inl (d6, 12, .inl fn)), (so, .inl (d7, 12, .inl (fun _ => 0))), (q2, .inl (cA3, 9, .inl (upd (upd (upd (upd (upd (fun _ => 0) 0 0) 1 0) 2 0) 3 0) 4 0)))] := hD
  refine lv_dup hx hb dX3_counted_94 rfl ?_
  refine lv_iconst (v := 5) hx hb dX3_counted_95 (by decide) ?_
  refine lv_iload_n hx hb dX3_counted_96 rfl (lv_at hl 2 rfl) ?_
  refine va_iast hx hb hK hP hD hS 5 3 rfl rfl (vp_in_nI (n := 5) (by decide) (by decide)) dX3_counted_97 (fun H locs hP hD hS => ?_)
  have hP : va_P (dC, dI) vwCl [(hm, .inr (3, [.int th, .int 0, .ref wi, .ref co, .ref sl, .ref rn, .ref so, .ref bn, .ref sm, .ref ah])), (sm, .inr (2, [.int 0, .ref gr, .ref gt, .ref gw, .ref gk, .ref gi, .ref gp, .ref go, .ref gg, .ref gh])), (bn, .inl (d5, 3, .inl (fun _ => 0))), (rn, .inl (d6, 12, .inl fn)), (so, .inl (d7, 12, .inl (fun _ => 0))), (q2, .inl (cA3, 9, .inl (upd (upd (upd (upd (upd (upd (fun _ => 0) 0 0) 1 0) 2 0) 3 0) 4 0) 5 0)))] H := hP
  have hD : va_D A [(hm, .inr (3, [.int th, .int 0, .ref wi, .ref co, .ref sl, .ref rn, .ref so, .ref bn, .ref sm, .ref ah])), (sm, .inr (2, [.int 0, .ref gr, .ref gt, .ref gw, .ref gk, .ref gi, .ref gp, .ref go, .ref gg, .ref gh])), (bn, .inl (d5, 3, .inl (fun _ => 0))), (rn, .inl (d6, 12, .inl fn)), (so, .inl (d7, 12, .inl (fun _ => 0))), (q2, .inl (cA3, 9, .inl (upd (upd (upd (upd (upd (upd (fun _ => 0) 0 0) 1 0) 2 0) 3 0) 4 0) 5 0)))] := hD
  refine lv_dup hx hb dX3_counted_98 rfl ?_
  refine lv_bipush (v := 6) hx hb dX3_counted_99 (by decide) ?_
  refine lv_iload_n hx hb dX3_counted_101 rfl (lv_at hl 1 rfl) ?_
  refine va_iast hx hb hK hP hD hS 5 3 rfl rfl (vp_in_nI (n := 6) (by decide) (by decide)) dX3_counted_102 (fun H locs hP hD hS => ?_)
  have hP : va_P (dC, dI) vwCl [(hm, .inr (3, [.int th, .int 0, .ref wi, .ref co, .ref sl, .ref rn, .ref so, .ref bn, .ref sm, .ref ah])), (sm, .inr (2, [.int 0, .ref gr, .ref gt, .ref gw, .ref gk, .ref gi, .ref gp, .ref go, .ref gg, .ref gh])), (bn, .inl (d5, 3, .inl (fun _ => 0))), (rn, .inl (d6, 12, .inl fn)), (so, .inl (d7, 12, .inl (fun _ => 0))), (q2, .inl (cA3, 9, .inl (upd (upd (upd (upd (upd (upd (upd (fun _ => 0) 0 0) 1 0) 2 0) 3 0) 4 0) 5 0) 6 0)))] H := hP
  have hD : va_D A [(hm, .inr (3, [.int th, .int 0, .ref wi, .ref co, .ref sl, .ref rn, .ref so, .ref bn, .ref sm, .ref ah])), (sm, .inr (2, [.int 0, .ref gr, .ref gt, .ref gw, .ref gk, .ref gi, .ref gp, .ref go, .ref gg, .ref gh])), (bn, .inl (d5, 3, .inl (fun _ => 0))), (rn, .inl (d6, 12, .inl fn)), (so, .inl (d7, 12, .inl (fun _ => 0))), (q2, .inl (cA3, 9, .inl (upd (upd (upd (upd (upd (upd (upd (fun _ => 0) 0 0) 1 0) 2 0) 3 0) 4 0) 5 0) 6 0)))] := hD
  refine lv_dup hx hb dX3_counted_103 rfl ?_
  refine lv_bipush (v := 7) hx hb dX3_counted_104 (by decide) ?_
  refine lv_aload_n hx hb dX3_counted_106 rfl (lv_at hl 3 rfl) ?_
  refine va_get (D := (dC, dI)) (ci := 3) (v := .ref rn) (C := RX3) (T := TX3) (N := 10) hx hb hts (by decide +kernel) hown hK hP 0 rfl rfl 5 (by decide) (hts (.fieldLink RX3 19 "ThatchRoofModel" "rain" "[I") (by decide +kernel)) (fun _ h9 => h9) rfl dX3_counted_107 ?_
  refine lv_aload_n hx hb dX3_counted_110 rfl (lv_at hl 3 rfl) ?_
  refine va_get (D := (dC, dI)) (ci := 3) (v := .ref sm) (C := RX3) (T := TX3) (N := 10) hx hb hts (by decide +kernel) hown hK hP 0 rfl rfl 8 (by decide) (hts (.fieldLink RX3 33 "ThatchRoofModel" "s" "LThatchRoofModel$State;") (by decide +kernel)) (fun _ h9 => h9) rfl dX3_counted_111 ?_
  refine va_getN (D := (dC, dI)) (ci := 2) (v := .int 0) (C := RX2) (T := TX2) (N := 10) hx hb hts (by decide +kernel) hown hK hP 1 rfl rfl 0 (by decide) (va_Nw.use rfl (zN_RX3_128 hZN)) (fun _ h9 => h9) rfl dX3_counted_114 ?_
  refine lv_bipush (v := 12) hx hb dX3_counted_117 (by decide) ?_
  refine lv_irem hx hb dX3_counted_119 (by decide) ?_
  refine W.eq (g2 := F0 m 120 ls [.int 0, .ref rn, .int 7, .ref q2, .ref q2]) rfl ?_
  refine va_iald hx hb hK hP 3 1 rfl rfl (vp_in_nI (n := 0) (by decide) (by decide)) dX3_counted_120 ?_
  refine lv_topi (fun x7 ex7 => ?_)
  obtain rfl : x7 = 4 := ex7.trans (hrn 0 (by decide))
  refine va_iast hx hb hK hP hD hS 5 3 rfl rfl (vp_in_nI (n := 7) (by decide) (by decide)) dX3_counted_121 (fun H locs hP hD hS => ?_)
  have hP : va_P (dC, dI) vwCl [(hm, .inr (3, [.int th, .int 0, .ref wi, .ref co, .ref sl, .ref rn, .ref so, .ref bn, .ref sm, .ref ah])), (sm, .inr (2, [.int 0, .ref gr, .ref gt, .ref gw, .ref gk, .ref gi, .ref gp, .ref go, .ref gg, .ref gh])), (bn, .inl (d5, 3, .inl (fun _ => 0))), (rn, .inl (d6, 12, .inl fn)), (so, .inl (d7, 12, .inl (fun _ => 0))), (q2, .inl (cA3, 9, .inl (upd (upd (upd (upd (upd (upd (upd (upd (fun _ => 0) 0 0) 1 0) 2 0) 3 0) 4 0) 5 0) 6 0) 7 4)))] H := hP
  have hD : va_D A [(hm, .inr (3, [.int th, .int 0, .ref wi, .ref co, .ref sl, .ref rn, .ref so, .ref bn, .ref sm, .ref ah])), (sm, .inr (2, [.int 0, .ref gr, .ref gt, .ref gw, .ref gk, .ref gi, .ref gp, .ref go, .ref gg, .ref gh])), (bn, .inl (d5, 3, .inl (fun _ => 0))), (rn, .inl (d6, 12, .inl fn)), (so, .inl (d7, 12, .inl (fun _ => 0))), (q2, .inl (cA3, 9, .inl (upd (upd (upd (upd (upd (upd (upd (upd (fun _ => 0) 0 0) 1 0) 2 0) 3 0) 4 0) 5 0) 6 0) 7 4)))] := hD
  refine lv_dup hx hb dX3_counted_122 rfl ?_
  refine lv_bipush (v := 8) hx hb dX3_counted_123 (by decide) ?_
  refine lv_aload_n hx hb dX3_counted_125 rfl (lv_at hl 3 rfl) ?_
  refine va_get (D := (dC, dI)) (ci := 3) (v := .ref so) (C := RX3) (T := TX3) (N := 10) hx hb hts (by decide +kernel) hown hK hP 0 rfl rfl 6 (by decide) (hts (.fieldLink RX3 22 "ThatchRoofModel" "storm" "[I") (by decide +kernel)) (fun _ h9 => h9) rfl dX3_counted_126 ?_
  refine lv_aload_n hx hb dX3_counted_129 rfl (lv_at hl 3 rfl) ?_
  refine va_get (D := (dC, dI)) (ci := 3) (v := .ref sm) (C := RX3) (T := TX3) (N := 10) hx hb hts (by decide +kernel) hown hK hP 0 rfl rfl 8 (by decide) (hts (.fieldLink RX3 33 "ThatchRoofModel" "s" "LThatchRoofModel$State;") (by decide +kernel)) (fun _ h9 => h9) rfl dX3_counted_130 ?_
  refine va_getN (D := (dC, dI)) (ci := 2) (v := .int 0) (C := RX2) (T := TX2) (N := 10) hx hb hts (by decide +kernel) hown hK hP 1 rfl rfl 0 (by decide) (va_Nw.use rfl (zN_RX3_128 hZN)) (fun _ h9 => h9) rfl dX3_counted_133 ?_
  refine lv_bipush (v := 12) hx hb dX3_counted_136 (by decide) ?_
  refine lv_irem hx hb dX3_counted_138 (by decide) ?_
  refine W.eq (g2 := F0 m 139 ls [.int 0, .ref so, .int 8, .ref q2, .ref q2]) rfl ?_
  refine va_iald hx hb hK hP 4 2 rfl rfl (vp_in_nI (n := 0) (by decide) (by decide)) dX3_counted_139 ?_
  refine lv_topi (fun x8 ex8 => ?_)
  obtain rfl : x8 = 0 := ex8
  refine va_iast hx hb hK hP hD hS 5 3 rfl rfl (vp_in_nI (n := 8) (by decide) (by decide)) dX3_counted_140 (fun H locs hP hD hS => ?_)
  have hP : va_P (dC, dI) vwCl [(hm, .inr (3, [.int th, .int 0, .ref wi, .ref co, .ref sl, .ref rn, .ref so, .ref bn, .ref sm, .ref ah])), (sm, .inr (2, [.int 0, .ref gr, .ref gt, .ref gw, .ref gk, .ref gi, .ref gp, .ref go, .ref gg, .ref gh])), (bn, .inl (d5, 3, .inl (fun _ => 0))), (rn, .inl (d6, 12, .inl fn)), (so, .inl (d7, 12, .inl (fun _ => 0))), (q2, .inl (cA3, 9, .inl (upd (upd (upd (upd (upd (upd (upd (upd (upd (fun _ => 0) 0 0) 1 0) 2 0) 3 0) 4 0) 5 0) 6 0) 7 4) 8 0)))] H := hP
  have hD : va_D A [(hm, .inr (3, [.int th, .int 0, .ref wi, .ref co, .ref sl, .ref rn, .ref so, .ref bn, .ref sm, .ref ah])), (sm, .inr (2, [.int 0, .ref gr, .ref gt, .ref gw, .ref gk, .ref gi, .ref gp, .ref go, .ref gg, .ref gh])), (bn, .inl (d5, 3, .inl (fun _ => 0))), (rn, .inl (d6, 12, .inl fn)), (so, .inl (d7, 12, .inl (fun _ => 0))), (q2, .inl (cA3, 9, .inl (upd (upd (upd (upd (upd (upd (upd (upd (upd (fun _ => 0) 0 0) 1 0) 2 0) 3 0) 4 0) 5 0) 6 0) 7 4) 8 0)))] := hD
  refine lv_astore (lv' := [(4, .ref q2), (3, .int 0), (2, .int 0), (0, .ref hm), (1, .int 1)]) hx hb dX3_counted_141 hl (by decide) rfl (fun ls hl => ?_)
  refine lv_aload hx hb dX3_counted_143 (lv_at hl 0 rfl) ?_
  refine lv_iload_n hx hb dX3_counted_145 rfl (lv_at hl 4 rfl) ?_
  refine va_iald hx hb hK hP 5 3 rfl rfl (vp_in_nI (n := 1) (by decide) (by decide)) dX3_counted_146 ?_
  refine lv_topi (fun x9 ex9 => ?_)
  obtain rfl : x9 = 0 := ex9
  have hP9 := hP.sub (ws' := [(hm, .inr (3, [.int th, .int 0, .ref wi, .ref co, .ref sl, .ref rn, .ref so, .ref bn, .ref sm, .ref ah])), (sm, .inr (2, [.int 0, .ref gr, .ref gt, .ref gw, .ref gk, .ref gi, .ref gp, .ref go, .ref gg, .ref gh])), (bn, .inl (d5, 3, .inl (fun _ => 0))), (rn, .inl (d6, 12, .inl fn)), (so, .inl (d7, 12, .inl (fun _ => 0)))]) [0, 1, 2, 3, 4] rfl
  have hD9 := hD.sub (ws' := [(hm, .inr (3, [.int th, .int 0, .ref wi, .ref co, .ref sl, .ref rn, .ref so, .ref bn, .ref sm, .ref ah])), (sm, .inr (2, [.int 0, .ref gr, .ref gt, .ref gw, .ref gk, .ref gi, .ref gp, .ref go, .ref gg, .ref gh])), (bn, .inl (d5, 3, .inl (fun _ => 0))), (rn, .inl (d6, 12, .inl fn)), (so, .inl (d7, 12, .inl (fun _ => 0)))]) [0, 1, 2, 3, 4] (by decide) rfl
  have hK9 := hK.sub (tys' := []) [] rfl
  refine W.widen (k := 1) (n := 9) (Nat.le_of_ble_eq_true rfl) (Nat.le_of_ble_eq_true rfl) ?_
  exact W.iret (v := 0) hx hb hr (fun t ht hW => ⟨⟨0, (), rfl, by (first | rfl | assumption | decide | (simp_all; done) | grind), ⟨by rw [ht]; exact hP9, va_K.moved hW.alike hK9, hD9⟩⟩, hS.F ht⟩) hS.2.2 dX3_counted_147

set_option maxHeartbeats 4000000 in
set_option maxRecDepth 100000 in
theorem k3_counted2 (l : Launch) (dC : Nat → ClassId) (dI : Nat → Nat → Nat) (sz : Nat) (hm : Nat) (wi : Nat) (co : Nat) (sl : Nat) (rn : Nat) (so : Nat) (bn : Nat) (sm : Nat) (ah : Nat) (th : Int32) (gr : Nat) (gt : Nat) (gw : Nat) (gk : Nat) (gi : Nat) (gp : Nat) (go : Nat) (gg : Nat) (gh : Nat) (d5 : ClassId) (d6 : ClassId) (d7 : ClassId) (fn : Nat → Int32) (hrn : ∀ j : Nat, j < 12 → fn j = 4) : Met l yX3_counted wsX3_counted ({ frames := 0, cells := 1, slots := 9, locals := 0 }) (va_Pc [.ref hm, .int 2] (fun U => U.heap.size = sz ∧ va_P (dC, dI) vwCl [(hm, .inr (3, [.int th, .int 0, .ref wi, .ref co, .ref sl, .ref rn, .ref so, .ref bn, .ref sm, .ref ah])), (sm, .inr (2, [.int 0, .ref gr, .ref gt, .ref gw, .ref gk, .ref gi, .ref gp, .ref go, .ref gg, .ref gh])), (bn, .inl (d5, 3, .inl (fun _ => 0))), (rn, .inl (d6, 12, .inl fn)), (so, .inl (d7, 12, .inl (fun _ => 0)))] U.heap ∧ va_K (dC, dI) vwCl [(d5, .int), (d6, .int), (d7, .int)] U ∧ va_D (fun _ => True) [(hm, .inr (3, [.int th, .int 0, .ref wi, .ref co, .ref sl, .ref rn, .ref so, .ref bn, .ref sm, .ref ah])), (sm, .inr (2, [.int 0, .ref gr, .ref gt, .ref gw, .ref gk, .ref gi, .ref gp, .ref go, .ref gg, .ref gh])), (bn, .inl (d5, 3, .inl (fun _ => 0))), (rn, .inl (d6, 12, .inl fn)), (so, .inl (d7, 12, .inl (fun _ => 0)))] ∧ zNs U)) (va_Qi (fun (r : Int32) (u : Unit) => r = 0) (fun (u : Unit) (t : State) => va_P (dC, dI) vwCl [(hm, .inr (3, [.int th, .int 0, .ref wi, .ref co, .ref sl, .ref rn, .ref so, .ref bn, .ref sm, .ref ah])), (sm, .inr (2, [.int 0, .ref gr, .ref gt, .ref gw, .ref gk, .ref gi, .ref gp, .ref go, .ref gg, .ref gh])), (bn, .inl (d5, 3, .inl (fun _ => 0))), (rn, .inl (d6, 12, .inl fn)), (so, .inl (d7, 12, .inl (fun _ => 0)))] t.heap ∧ va_K (dC, dI) vwCl [] t ∧ va_D (va_A [(hm, .inr (3, [.int th, .int 0, .ref wi, .ref co, .ref sl, .ref rn, .ref so, .ref bn, .ref sm, .ref ah])), (sm, .inr (2, [.int 0, .ref gr, .ref gt, .ref gw, .ref gk, .ref gi, .ref gp, .ref go, .ref gg, .ref gh])), (bn, .inl (d5, 3, .inl (fun _ => 0))), (rn, .inl (d6, 12, .inl fn)), (so, .inl (d7, 12, .inl (fun _ => 0)))] sz) [(hm, .inr (3, [.int th, .int 0, .ref wi, .ref co, .ref sl, .ref rn, .ref so, .ref bn, .ref sm, .ref ah])), (sm, .inr (2, [.int 0, .ref gr, .ref gt, .ref gw, .ref gk, .ref gi, .ref gp, .ref go, .ref gg, .ref gh])), (bn, .inl (d5, 3, .inl (fun _ => 0))), (rn, .inl (d6, 12, .inl fn)), (so, .inl (d7, 12, .inl (fun _ => 0)))]) (va_A [(hm, .inr (3, [.int th, .int 0, .ref wi, .ref co, .ref sl, .ref rn, .ref so, .ref bn, .ref sm, .ref ah])), (sm, .inr (2, [.int 0, .ref gr, .ref gt, .ref gw, .ref gk, .ref gi, .ref gp, .ref go, .ref gg, .ref gh])), (bn, .inl (d5, 3, .inl (fun _ => 0))), (rn, .inl (d6, 12, .inl fn)), (so, .inl (d7, 12, .inl (fun _ => 0)))] sz)) 1 9 (va_A [(hm, .inr (3, [.int th, .int 0, .ref wi, .ref co, .ref sl, .ref rn, .ref so, .ref bn, .ref sm, .ref ah])), (sm, .inr (2, [.int 0, .ref gr, .ref gt, .ref gw, .ref gk, .ref gi, .ref gp, .ref go, .ref gg, .ref gh])), (bn, .inl (d5, 3, .inl (fun _ => 0))), (rn, .inl (d6, 12, .inl fn)), (so, .inl (d7, 12, .inl (fun _ => 0)))] sz) := by
  refine Met.ofW (cc := cX3_counted) (maxL := 5) (ret := (some .int)) (by decide) rfl ?_
  intro p e s m args below meth c s₁ B hml hv
  obtain ⟨rfl, hsz, hP, hK, hD0, hZN⟩ := hv
  have hx := B.exec
  have hb := B.bytes
  have hr := B.returns
  have hts := atoms_spec (ws := wsX3_counted) B.pre
  have hown : s.vm.findClass RX3 = some m.cls := findClass_of_methodNamed B.named
  have hlocks := B.notSynchronized
  subst hsz
  have hD := hD0.self (sz := s.heap.size)
  generalize hAe : va_A [(hm, .inr (3, [.int th, .int 0, .ref wi, .ref co, .ref sl, .ref rn, .ref so, .ref bn, .ref sm, .ref ah])), (sm, .inr (2, [.int 0, .ref gr, .ref gt, .ref gw, .ref gk, .ref gi, .ref gp, .ref go, .ref gg, .ref gh])), (bn, .inl (d5, 3, .inl (fun _ => 0))), (rn, .inl (d6, 12, .inl fn)), (so, .inl (d7, 12, .inl (fun _ => 0)))] s.heap.size = A at hD ⊢
  have hA : ∀ q : Nat, s.heap.size ≤ q → A q := fun q h => by rw [← hAe]; exact Or.inr h
  have hS : va_S A s.heap s.heap [] := va_S.rf
  have hP : va_P (dC, dI) vwCl [(hm, .inr (3, [.int th, .int 0, .ref wi, .ref co, .ref sl, .ref rn, .ref so, .ref bn, .ref sm, .ref ah])), (sm, .inr (2, [.int 0, .ref gr, .ref gt, .ref gw, .ref gk, .ref gi, .ref gp, .ref go, .ref gg, .ref gh])), (bn, .inl (d5, 3, .inl (fun _ => 0))), (rn, .inl (d6, 12, .inl fn)), (so, .inl (d7, 12, .inl (fun _ => 0)))] s.heap := hP
  have hl := lv_entry ([.ref hm, .int 2]) (n := 5) (Nat.le_of_ble_eq_true rfl)
  rw [lg_entry_eq]
  generalize (lg_sl ([.ref hm, .int 2]) ++ List.replicate (5 - (lg_sl ([.ref hm, .int 2])).length) Slot.unset).toArray = ls at hl ⊢
  have hl : lv_has ls 5 [(0, .ref hm), (1, .int 2)] := hl
  refine lv_iconst (v := 0) hx hb dX3_counted_0 (by decide) ?_
  refine lv_istore_n (lv' := [(2, .int 0), (0, .ref hm), (1, .int 2)]) hx hb dX3_counted_1 rfl hl (by decide) rfl (fun ls hl => ?_)
  refine lv_iconst (v := 0) hx hb dX3_counted_2 (by decide) ?_
  refine lv_istore_n (lv' := [(3, .int 0), (2, .int 0), (0, .ref hm), (1, .int 2)]) hx hb dX3_counted_3 rfl hl (by decide) rfl (fun ls hl => ?_)
  refine lv_iconst (v := 0) hx hb dX3_counted_4 (by decide) ?_
  refine lv_istore (lv' := [(4, .int 0), (3, .int 0), (2, .int 0), (0, .ref hm), (1, .int 2)]) hx hb dX3_counted_5 hl (by decide) rfl (fun ls hl => ?_)
  refine lv_iload hx hb dX3_counted_7 (lv_at hl 0 rfl) ?_
  refine lv_aload_n hx hb dX3_counted_9 rfl (lv_at hl 3 rfl) ?_
  refine va_get (D := (dC, dI)) (ci := 3) (v := .int 0) (C := RX3) (T := TX3) (N := 10) hx hb hts (by decide +kernel) hown hK hP 0 rfl rfl 1 (by decide) (hts (.fieldLink RX3 44 "ThatchRoofModel" "roofs" "I") (by decide +kernel)) (fun _ h9 => h9) rfl dX3_counted_10 ?_
  refine lv_icmp_ge (tgt := 46) hx hb dX3_counted_13 (by decide) (fun c1 => ?_) (fun c1 => absurd c1 (by decide))
  refine lv_bipush (v := 9) hx hb dX3_counted_46 (by decide) ?_
  refine va_newa (atype := .int) (ty := .int) (N' := 9) (a0 := (9, .inl (fun _ => 0))) hx hb (hts (.arrayClass .int) (by decide +kernel)) rfl hK hP hD hS hA (fun _ => rfl) (by decide) (by decide) (by decide) (Nat.le_of_ble_eq_true rfl) (Nat.le_of_ble_eq_true rfl) dX3_counted_48 (fun q2 cA3 H hK hP hD hS => ?_)
  refine W.widen (k := 1) (n := 9) (Nat.le_of_ble_eq_true rfl) (Nat.le_of_ble_eq_true rfl) ?_
  have hK : va_K (dC, dI) vwCl [(d5, .int), (d6, .int), (d7, .int), (cA3, .int)] s := hK
  have hP : va_P (dC, dI) vwCl [(hm, .inr (3, [.int th, .int 0, .ref wi, .ref co, .ref sl, .ref rn, .ref so, .ref bn, .ref sm, .ref ah])), (sm, .inr (2, [.int 0, .ref gr, .ref gt, .ref gw, .ref gk, .ref gi, .ref gp, .ref go, .ref gg, .ref gh])), (bn, .inl (d5, 3, .inl (fun _ => 0))), (rn, .inl (d6, 12, .inl fn)), (so, .inl (d7, 12, .inl (fun _ => 0))), (q2, .inl (cA3, 9, .inl (fun _ => 0)))] H := hP
  have hD : va_D A [(hm, .inr (3, [.int th, .int 0, .ref wi, .ref co, .ref sl, .ref rn, .ref so, .ref bn, .ref sm, .ref ah])), (sm, .inr (2, [.int 0, .ref gr, .ref gt, .ref gw, .ref gk, .ref gi, .ref gp, .ref go, .ref gg, .ref gh])), (bn, .inl (d5, 3, .inl (fun _ => 0))), (rn, .inl (d6, 12, .inl fn)), (so, .inl (d7, 12, .inl (fun _ => 0))), (q2, .inl (cA3, 9, .inl (fun _ => 0)))] := hD
  refine lv_dup hx hb dX3_counted_50 rfl ?_
  refine lv_iconst (v := 0) hx hb dX3_counted_51 (by decide) ?_
  refine lv_aload_n hx hb dX3_counted_52 rfl (lv_at hl 3 rfl) ?_
  refine va_get (D := (dC, dI)) (ci := 3) (v := .ref sm) (C := RX3) (T := TX3) (N := 10) hx hb hts (by decide +kernel) hown hK hP 0 rfl rfl 8 (by decide) (hts (.fieldLink RX3 33 "ThatchRoofModel" "s" "LThatchRoofModel$State;") (by decide +kernel)) (fun _ h9 => h9) rfl dX3_counted_53 ?_
  refine va_getN (D := (dC, dI)) (ci := 2) (v := .int 0) (C := RX2) (T := TX2) (N := 10) hx hb hts (by decide +kernel) hown hK hP 1 rfl rfl 0 (by decide) (va_Nw.use rfl (zN_RX3_128 hZN)) (fun _ h9 => h9) rfl dX3_counted_56 ?_
  refine va_iast hx hb hK hP hD hS 5 3 rfl rfl (vp_in_nI (n := 0) (by decide) (by decide)) dX3_counted_59 (fun H locs hP hD hS => ?_)
  have hP : va_P (dC, dI) vwCl [(hm, .inr (3, [.int th, .int 0, .ref wi, .ref co, .ref sl, .ref rn, .ref so, .ref bn, .ref sm, .ref ah])), (sm, .inr (2, [.int 0, .ref gr, .ref gt, .ref gw, .ref gk, .ref gi, .ref gp, .ref go, .ref gg, .ref gh])), (bn, .inl (d5, 3, .inl (fun _ => 0))), (rn, .inl (d6, 12, .inl fn)), (so, .inl (d7, 12, .inl (fun _ => 0))), (q2, .inl (cA3, 9, .inl (upd (fun _ => 0) 0 0)))] H := hP
  have hD : va_D A [(hm, .inr (3, [.int th, .int 0, .ref wi, .ref co, .ref sl, .ref rn, .ref so, .ref bn, .ref sm, .ref ah])), (sm, .inr (2, [.int 0, .ref gr, .ref gt, .ref gw, .ref gk, .ref gi, .ref gp, .ref go, .ref gg, .ref gh])), (bn, .inl (d5, 3, .inl (fun _ => 0))), (rn, .inl (d6, 12, .inl fn)), (so, .inl (d7, 12, .inl (fun _ => 0))), (q2, .inl (cA3, 9, .inl (upd (fun _ => 0) 0 0)))] := hD
  refine lv_dup hx hb dX3_counted_60 rfl ?_
  refine lv_iconst (v := 1) hx hb dX3_counted_61 (by decide) ?_
  refine lv_aload_n hx hb dX3_counted_62 rfl (lv_at hl 3 rfl) ?_
  refine va_get (D := (dC, dI)) (ci := 3) (v := .int 0) (C := RX3) (T := TX3) (N := 10) hx hb hts (by decide +kernel) hown hK hP 0 rfl rfl 1 (by decide) (hts (.fieldLink RX3 44 "ThatchRoofModel" "roofs" "I") (by decide +kernel)) (fun _ h9 => h9) rfl dX3_counted_63 ?_
  refine va_iast hx hb hK hP hD hS 5 3 rfl rfl (vp_in_nI (n := 1) (by decide) (by decide)) dX3_counted_66 (fun H locs hP hD hS => ?_)
  have hP : va_P (dC, dI) vwCl [(hm, .inr (3, [.int th, .int 0, .ref wi, .ref co, .ref sl, .ref rn, .ref so, .ref bn, .ref sm, .ref ah])), (sm, .inr (2, [.int 0, .ref gr, .ref gt, .ref gw, .ref gk, .ref gi, .ref gp, .ref go, .ref gg, .ref gh])), (bn, .inl (d5, 3, .inl (fun _ => 0))), (rn, .inl (d6, 12, .inl fn)), (so, .inl (d7, 12, .inl (fun _ => 0))), (q2, .inl (cA3, 9, .inl (upd (upd (fun _ => 0) 0 0) 1 0)))] H := hP
  have hD : va_D A [(hm, .inr (3, [.int th, .int 0, .ref wi, .ref co, .ref sl, .ref rn, .ref so, .ref bn, .ref sm, .ref ah])), (sm, .inr (2, [.int 0, .ref gr, .ref gt, .ref gw, .ref gk, .ref gi, .ref gp, .ref go, .ref gg, .ref gh])), (bn, .inl (d5, 3, .inl (fun _ => 0))), (rn, .inl (d6, 12, .inl fn)), (so, .inl (d7, 12, .inl (fun _ => 0))), (q2, .inl (cA3, 9, .inl (upd (upd (fun _ => 0) 0 0) 1 0)))] := hD
  refine lv_dup hx hb dX3_counted_67 rfl ?_
  refine lv_iconst (v := 2) hx hb dX3_counted_68 (by decide) ?_
  refine lv_aload_n hx hb dX3_counted_69 rfl (lv_at hl 3 rfl) ?_
  refine va_get (D := (dC, dI)) (ci := 3) (v := .ref bn) (C := RX3) (T := TX3) (N := 10) hx hb hts (by decide +kernel) hown hK hP 0 rfl rfl 7 (by decide) (hts (.fieldLink RX3 25 "ThatchRoofModel" "barn" "[I") (by decide +kernel)) (fun _ h9 => h9) rfl dX3_counted_70 ?_
  refine lv_iconst (v := 0) hx hb dX3_counted_73 (by decide) ?_
  refine va_iald hx hb hK hP 2 0 rfl rfl (vp_in_nI (n := 0) (by decide) (by decide)) dX3_counted_74 ?_
  refine lv_topi (fun x4 ex4 => ?_)
  obtain rfl : x4 = 0 := ex4
  refine va_iast hx hb hK hP hD hS 5 3 rfl rfl (vp_in_nI (n := 2) (by decide) (by decide)) dX3_counted_75 (fun H locs hP hD hS => ?_)
  have hP : va_P (dC, dI) vwCl [(hm, .inr (3, [.int th, .int 0, .ref wi, .ref co, .ref sl, .ref rn, .ref so, .ref bn, .ref sm, .ref ah])), (sm, .inr (2, [.int 0, .ref gr, .ref gt, .ref gw, .ref gk, .ref gi, .ref gp, .ref go, .ref gg, .ref gh])), (bn, .inl (d5, 3, .inl (fun _ => 0))), (rn, .inl (d6, 12, .inl fn)), (so, .inl (d7, 12, .inl (fun _ => 0))), (q2, .inl (cA3, 9, .inl (upd (upd (upd (fun _ => 0) 0 0) 1 0) 2 0)))] H := hP
  have hD : va_D A [(hm, .inr (3, [.int th, .int 0, .ref wi, .ref co, .ref sl, .ref rn, .ref so, .ref bn, .ref sm, .ref ah])), (sm, .inr (2, [.int 0, .ref gr, .ref gt, .ref gw, .ref gk, .ref gi, .ref gp, .ref go, .ref gg, .ref gh])), (bn, .inl (d5, 3, .inl (fun _ => 0))), (rn, .inl (d6, 12, .inl fn)), (so, .inl (d7, 12, .inl (fun _ => 0))), (q2, .inl (cA3, 9, .inl (upd (upd (upd (fun _ => 0) 0 0) 1 0) 2 0)))] := hD
  refine lv_dup hx hb dX3_counted_76 rfl ?_
  refine lv_iconst (v := 3) hx hb dX3_counted_77 (by decide) ?_
  refine lv_aload_n hx hb dX3_counted_78 rfl (lv_at hl 3 rfl) ?_
  refine va_get (D := (dC, dI)) (ci := 3) (v := .ref bn) (C := RX3) (T := TX3) (N := 10) hx hb hts (by decide +kernel) hown hK hP 0 rfl rfl 7 (by decide) (hts (.fieldLink RX3 25 "ThatchRoofModel" "barn" "[I") (by decide +kernel)) (fun _ h9 => h9) rfl dX3_counted_79 ?_
  refine lv_iconst (v := 1) hx hb dX3_counted_82 (by decide) ?_
  refine va_iald hx hb hK hP 2 0 rfl rfl (vp_in_nI (n := 1) (by decide) (by decide)) dX3_counted_83 ?_
  refine lv_topi (fun x5 ex5 => ?_)
  obtain rfl : x5 = 0 := ex5
  refine va_iast hx hb hK hP hD hS 5 3 rfl rfl (vp_in_nI (n := 3) (by decide) (by decide)) dX3_counted_84 (fun H locs hP hD hS => ?_)
  have hP : va_P (dC, dI) vwCl [(hm, .inr (3, [.int th, .int 0, .ref wi, .ref co, .ref sl, .ref rn, .ref so, .ref bn, .ref sm, .ref ah])), (sm, .inr (2, [.int 0, .ref gr, .ref gt, .ref gw, .ref gk, .ref gi, .ref gp, .ref go, .ref gg, .ref gh])), (bn, .inl (d5, 3, .inl (fun _ => 0))), (rn, .inl (d6, 12, .inl fn)), (so, .inl (d7, 12, .inl (fun _ => 0))), (q2, .inl (cA3, 9, .inl (upd (upd (upd (upd (fun _ => 0) 0 0) 1 0) 2 0) 3 0)))] H := hP
  have hD : va_D A [(hm, .inr (3, [.int th, .int 0, .ref wi, .ref co, .ref sl, .ref rn, .ref so, .ref bn, .ref sm, .ref ah])), (sm, .inr (2, [.int 0, .ref gr, .ref gt, .ref gw, .ref gk, .ref gi, .ref gp, .ref go, .ref gg, .ref gh])), (bn, .inl (d5, 3, .inl (fun _ => 0))), (rn, .inl (d6, 12, .inl fn)), (so, .inl (d7, 12, .inl (fun _ => 0))), (q2, .inl (cA3, 9, .inl (upd (upd (upd (upd (fun _ => 0) 0 0) 1 0) 2 0) 3 0)))] := hD
  refine lv_dup hx hb dX3_counted_85 rfl ?_
  refine lv_iconst (v := 4) hx hb dX3_counted_86 (by decide) ?_
  refine lv_aload_n hx hb dX3_counted_87 rfl (lv_at hl 3 rfl) ?_
  refine va_get (D := (dC, dI)) (ci := 3) (v := .ref bn) (C := RX3) (T := TX3) (N := 10) hx hb hts (by decide +kernel) hown hK hP 0 rfl rfl 7 (by decide) (hts (.fieldLink RX3 25 "ThatchRoofModel" "barn" "[I") (by decide +kernel)) (fun _ h9 => h9) rfl dX3_counted_88 ?_
  refine lv_iconst (v := 2) hx hb dX3_counted_91 (by decide) ?_
  refine va_iald hx hb hK hP 2 0 rfl rfl (vp_in_nI (n := 2) (by decide) (by decide)) dX3_counted_92 ?_
  refine lv_topi (fun x6 ex6 => ?_)
  obtain rfl : x6 = 0 := ex6
  refine va_iast hx hb hK hP hD hS 5 3 rfl rfl (vp_in_nI (n := 4) (by decide) (by decide)) dX3_counted_93 (fun H locs hP hD hS => ?_)
  have hP : va_P (dC, dI) vwCl [(hm, .inr (3, [.int th, .int 0, .ref wi, .ref co, .ref sl, .ref rn, .ref so, .ref bn, .ref sm, .ref ah])), (sm, .inr (2, [.int 0, .ref gr, .ref gt, .ref gw, .ref gk, .ref gi, .ref gp, .ref go, .ref gg, .ref gh])), (bn, .inl (d5, 3, .inl (fun _ => 0))), (rn, .inl (d6, 12, .inl fn)), (so, .inl (d7, 12, .inl (fun _ => 0))), (q2, .inl (cA3, 9, .inl (upd (upd (upd (upd (upd (fun _ => 0) 0 0) 1 0) 2 0) 3 0) 4 0)))] H := hP
  have hD : va_D A [(hm, .inr (3, [.int th, .int 0, .ref wi, .ref co, .ref sl, .ref rn, .ref so, .ref bn, .ref sm, .ref ah])), (sm, .inr (2, [.int 0, .ref gr, .ref gt, .ref gw, .ref gk, .ref gi, .ref gp, .ref go, .ref gg, .ref gh])), (bn, .inl (d5, 3, .inl (fun _ => 0))), (rn, .inl (d6, 12, .inl fn)), (so, .inl (d7, 12, .inl (fun _ => 0))), (q2, .inl (cA3, 9, .inl (upd (upd (upd (upd (upd (fun _ => 0) 0 0) 1 0) 2 0) 3 0) 4 0)))] := hD
  refine lv_dup hx hb dX3_counted_94 rfl ?_
  refine lv_iconst (v := 5) hx hb dX3_counted_95 (by decide) ?_
  refine lv_iload_n hx hb dX3_counted_96 rfl (lv_at hl 2 rfl) ?_
  refine va_iast hx hb hK hP hD hS 5 3 rfl rfl (vp_in_nI (n := 5) (by decide) (by decide)) dX3_counted_97 (fun H locs hP hD hS => ?_)
  have hP : va_P (dC, dI) vwCl [(hm, .inr (3, [.int th, .int 0, .ref wi, .ref co, .ref sl, .ref rn, .ref so, .ref bn, .ref sm, .ref ah])), (sm, .inr (2, [.int 0, .ref gr, .ref gt, .ref gw, .ref gk, .ref gi, .ref gp, .ref go, .ref gg, .ref gh])), (bn, .inl (d5, 3, .inl (fun _ => 0))), (rn, .inl (d6, 12, .inl fn)), (so, .inl (d7, 12, .inl (fun _ => 0))), (q2, .inl (cA3, 9, .inl (upd (upd (upd (upd (upd (upd (fun _ => 0) 0 0) 1 0) 2 0) 3 0) 4 0) 5 0)))] H := hP
  have hD : va_D A [(hm, .inr (3, [.int th, .int 0, .ref wi, .ref co, .ref sl, .ref rn, .ref so, .ref bn, .ref sm, .ref ah])), (sm, .inr (2, [.int 0, .ref gr, .ref gt, .ref gw, .ref gk, .ref gi, .ref gp, .ref go, .ref gg, .ref gh])), (bn, .inl (d5, 3, .inl (fun _ => 0))), (rn, .inl (d6, 12, .inl fn)), (so, .inl (d7, 12, .inl (fun _ => 0))), (q2, .inl (cA3, 9, .inl (upd (upd (upd (upd (upd (upd (fun _ => 0) 0 0) 1 0) 2 0) 3 0) 4 0) 5 0)))] := hD
  refine lv_dup hx hb dX3_counted_98 rfl ?_
  refine lv_bipush (v := 6) hx hb dX3_counted_99 (by decide) ?_
  refine lv_iload_n hx hb dX3_counted_101 rfl (lv_at hl 1 rfl) ?_
  refine va_iast hx hb hK hP hD hS 5 3 rfl rfl (vp_in_nI (n := 6) (by decide) (by decide)) dX3_counted_102 (fun H locs hP hD hS => ?_)
  have hP : va_P (dC, dI) vwCl [(hm, .inr (3, [.int th, .int 0, .ref wi, .ref co, .ref sl, .ref rn, .ref so, .ref bn, .ref sm, .ref ah])), (sm, .inr (2, [.int 0, .ref gr, .ref gt, .ref gw, .ref gk, .ref gi, .ref gp, .ref go, .ref gg, .ref gh])), (bn, .inl (d5, 3, .inl (fun _ => 0))), (rn, .inl (d6, 12, .inl fn)), (so, .inl (d7, 12, .inl (fun _ => 0))), (q2, .inl (cA3, 9, .inl (upd (upd (upd (upd (upd (upd (upd (fun _ => 0) 0 0) 1 0) 2 0) 3 0) 4 0) 5 0) 6 0)))] H := hP
  have hD : va_D A [(hm, .inr (3, [.int th, .int 0, .ref wi, .ref co, .ref sl, .ref rn, .ref so, .ref bn, .ref sm, .ref ah])), (sm, .inr (2, [.int 0, .ref gr, .ref gt, .ref gw, .ref gk, .ref gi, .ref gp, .ref go, .ref gg, .ref gh])), (bn, .inl (d5, 3, .inl (fun _ => 0))), (rn, .inl (d6, 12, .inl fn)), (so, .inl (d7, 12, .inl (fun _ => 0))), (q2, .inl (cA3, 9, .inl (upd (upd (upd (upd (upd (upd (upd (fun _ => 0) 0 0) 1 0) 2 0) 3 0) 4 0) 5 0) 6 0)))] := hD
  refine lv_dup hx hb dX3_counted_103 rfl ?_
  refine lv_bipush (v := 7) hx hb dX3_counted_104 (by decide) ?_
  refine lv_aload_n hx hb dX3_counted_106 rfl (lv_at hl 3 rfl) ?_
  refine va_get (D := (dC, dI)) (ci := 3) (v := .ref rn) (C := RX3) (T := TX3) (N := 10) hx hb hts (by decide +kernel) hown hK hP 0 rfl rfl 5 (by decide) (hts (.fieldLink RX3 19 "ThatchRoofModel" "rain" "[I") (by decide +kernel)) (fun _ h9 => h9) rfl dX3_counted_107 ?_
  refine lv_aload_n hx hb dX3_counted_110 rfl (lv_at hl 3 rfl) ?_
  refine va_get (D := (dC, dI)) (ci := 3) (v := .ref sm) (C := RX3) (T := TX3) (N := 10) hx hb hts (by decide +kernel) hown hK hP 0 rfl rfl 8 (by decide) (hts (.fieldLink RX3 33 "ThatchRoofModel" "s" "LThatchRoofModel$State;") (by decide +kernel)) (fun _ h9 => h9) rfl dX3_counted_111 ?_
  refine va_getN (D := (dC, dI)) (ci := 2) (v := .int 0) (C := RX2) (T := TX2) (N := 10) hx hb hts (by decide +kernel) hown hK hP 1 rfl rfl 0 (by decide) (va_Nw.use rfl (zN_RX3_128 hZN)) (fun _ h9 => h9) rfl dX3_counted_114 ?_
  refine lv_bipush (v := 12) hx hb dX3_counted_117 (by decide) ?_
  refine lv_irem hx hb dX3_counted_119 (by decide) ?_
  refine W.eq (g2 := F0 m 120 ls [.int 0, .ref rn, .int 7, .ref q2, .ref q2]) rfl ?_
  refine va_iald hx hb hK hP 3 1 rfl rfl (vp_in_nI (n := 0) (by decide) (by decide)) dX3_counted_120 ?_
  refine lv_topi (fun x7 ex7 => ?_)
  obtain rfl : x7 = 4 := ex7.trans (hrn 0 (by decide))
  refine va_iast hx hb hK hP hD hS 5 3 rfl rfl (vp_in_nI (n := 7) (by decide) (by decide)) dX3_counted_121 (fun H locs hP hD hS => ?_)
  have hP : va_P (dC, dI) vwCl [(hm, .inr (3, [.int th, .int 0, .ref wi, .ref co, .ref sl, .ref rn, .ref so, .ref bn, .ref sm, .ref ah])), (sm, .inr (2, [.int 0, .ref gr, .ref gt, .ref gw, .ref gk, .ref gi, .ref gp, .ref go, .ref gg, .ref gh])), (bn, .inl (d5, 3, .inl (fun _ => 0))), (rn, .inl (d6, 12, .inl fn)), (so, .inl (d7, 12, .inl (fun _ => 0))), (q2, .inl (cA3, 9, .inl (upd (upd (upd (upd (upd (upd (upd (upd (fun _ => 0) 0 0) 1 0) 2 0) 3 0) 4 0) 5 0) 6 0) 7 4)))] H := hP
  have hD : va_D A [(hm, .inr (3, [.int th, .int 0, .ref wi, .ref co, .ref sl, .ref rn, .ref so, .ref bn, .ref sm, .ref ah])), (sm, .inr (2, [.int 0, .ref gr, .ref gt, .ref gw, .ref gk, .ref gi, .ref gp, .ref go, .ref gg, .ref gh])), (bn, .inl (d5, 3, .inl (fun _ => 0))), (rn, .inl (d6, 12, .inl fn)), (so, .inl (d7, 12, .inl (fun _ => 0))), (q2, .inl (cA3, 9, .inl (upd (upd (upd (upd (upd (upd (upd (upd (fun _ => 0) 0 0) 1 0) 2 0) 3 0) 4 0) 5 0) 6 0) 7 4)))] := hD
  refine lv_dup hx hb dX3_counted_122 rfl ?_
  refine lv_bipush (v := 8) hx hb dX3_counted_123 (by decide) ?_
  refine lv_aload_n hx hb dX3_counted_125 rfl (lv_at hl 3 rfl) ?_
  refine va_get (D := (dC, dI)) (ci := 3) (v := .ref so) (C := RX3) (T := TX3) (N := 10) hx hb hts (by decide +kernel) hown hK hP 0 rfl rfl 6 (by decide) (hts (.fieldLink RX3 22 "ThatchRoofModel" "storm" "[I") (by decide +kernel)) (fun _ h9 => h9) rfl dX3_counted_126 ?_
  refine lv_aload_n hx hb dX3_counted_129 rfl (lv_at hl 3 rfl) ?_
  refine va_get (D := (dC, dI)) (ci := 3) (v := .ref sm) (C := RX3) (T := TX3) (N := 10) hx hb hts (by decide +kernel) hown hK hP 0 rfl rfl 8 (by decide) (hts (.fieldLink RX3 33 "ThatchRoofModel" "s" "LThatchRoofModel$State;") (by decide +kernel)) (fun _ h9 => h9) rfl dX3_counted_130 ?_
  refine va_getN (D := (dC, dI)) (ci := 2) (v := .int 0) (C := RX2) (T := TX2) (N := 10) hx hb hts (by decide +kernel) hown hK hP 1 rfl rfl 0 (by decide) (va_Nw.use rfl (zN_RX3_128 hZN)) (fun _ h9 => h9) rfl dX3_counted_133 ?_
  refine lv_bipush (v := 12) hx hb dX3_counted_136 (by decide) ?_
  refine lv_irem hx hb dX3_counted_138 (by decide) ?_
  refine W.eq (g2 := F0 m 139 ls [.int 0, .ref so, .int 8, .ref q2, .ref q2]) rfl ?_
  refine va_iald hx hb hK hP 4 2 rfl rfl (vp_in_nI (n := 0) (by decide) (by decide)) dX3_counted_139 ?_
  refine lv_topi (fun x8 ex8 => ?_)
  obtain rfl : x8 = 0 := ex8
  refine va_iast hx hb hK hP hD hS 5 3 rfl rfl (vp_in_nI (n := 8) (by decide) (by decide)) dX3_counted_140 (fun H locs hP hD hS => ?_)
  have hP : va_P (dC, dI) vwCl [(hm, .inr (3, [.int th, .int 0, .ref wi, .ref co, .ref sl, .ref rn, .ref so, .ref bn, .ref sm, .ref ah])), (sm, .inr (2, [.int 0, .ref gr, .ref gt, .ref gw, .ref gk, .ref gi, .ref gp, .ref go, .ref gg, .ref gh])), (bn, .inl (d5, 3, .inl (fun _ => 0))), (rn, .inl (d6, 12, .inl fn)), (so, .inl (d7, 12, .inl (fun _ => 0))), (q2, .inl (cA3, 9, .inl (upd (upd (upd (upd (upd (upd (upd (upd (upd (fun _ => 0) 0 0) 1 0) 2 0) 3 0) 4 0) 5 0) 6 0) 7 4) 8 0)))] H := hP
  have hD : va_D A [(hm, .inr (3, [.int th, .int 0, .ref wi, .ref co, .ref sl, .ref rn, .ref so, .ref bn, .ref sm, .ref ah])), (sm, .inr (2, [.int 0, .ref gr, .ref gt, .ref gw, .ref gk, .ref gi, .ref gp, .ref go, .ref gg, .ref gh])), (bn, .inl (d5, 3, .inl (fun _ => 0))), (rn, .inl (d6, 12, .inl fn)), (so, .inl (d7, 12, .inl (fun _ => 0))), (q2, .inl (cA3, 9, .inl (upd (upd (upd (upd (upd (upd (upd (upd (upd (fun _ => 0) 0 0) 1 0) 2 0) 3 0) 4 0) 5 0) 6 0) 7 4) 8 0)))] := hD
  refine lv_astore (lv' := [(4, .ref q2), (3, .int 0), (2, .int 0), (0, .ref hm), (1, .int 2)]) hx hb dX3_counted_141 hl (by decide) rfl (fun ls hl => ?_)
  refine lv_aload hx hb dX3_counted_143 (lv_at hl 0 rfl) ?_
  refine lv_iload_n hx hb dX3_counted_145 rfl (lv_at hl 4 rfl) ?_
  refine va_iald hx hb hK hP 5 3 rfl rfl (vp_in_nI (n := 2) (by decide) (by decide)) dX3_counted_146 ?_
  refine lv_topi (fun x9 ex9 => ?_)
  obtain rfl : x9 = 0 := ex9
  have hP9 := hP.sub (ws' := [(hm, .inr (3, [.int th, .int 0, .ref wi, .ref co, .ref sl, .ref rn, .ref so, .ref bn, .ref sm, .ref ah])), (sm, .inr (2, [.int 0, .ref gr, .ref gt, .ref gw, .ref gk, .ref gi, .ref gp, .ref go, .ref gg, .ref gh])), (bn, .inl (d5, 3, .inl (fun _ => 0))), (rn, .inl (d6, 12, .inl fn)), (so, .inl (d7, 12, .inl (fun _ => 0)))]) [0, 1, 2, 3, 4] rfl
  have hD9 := hD.sub (ws' := [(hm, .inr (3, [.int th, .int 0, .ref wi, .ref co, .ref sl, .ref rn, .ref so, .ref bn, .ref sm, .ref ah])), (sm, .inr (2, [.int 0, .ref gr, .ref gt, .ref gw, .ref gk, .ref gi, .ref gp, .ref go, .ref gg, .ref gh])), (bn, .inl (d5, 3, .inl (fun _ => 0))), (rn, .inl (d6, 12, .inl fn)), (so, .inl (d7, 12, .inl (fun _ => 0)))]) [0, 1, 2, 3, 4] (by decide) rfl
  have hK9 := hK.sub (tys' := []) [] rfl
  refine W.widen (k := 1) (n := 9) (Nat.le_of_ble_eq_true rfl) (Nat.le_of_ble_eq_true rfl) ?_
  exact W.iret (v := 0) hx hb hr (fun t ht hW => ⟨⟨0, (), rfl, by (first | rfl | assumption | decide | (simp_all; done) | grind), ⟨by rw [ht]; exact hP9, va_K.moved hW.alike hK9, hD9⟩⟩, hS.F ht⟩) hS.2.2 dX3_counted_147

set_option maxHeartbeats 4000000 in
set_option maxRecDepth 100000 in
theorem k3_counted3 (l : Launch) (dC : Nat → ClassId) (dI : Nat → Nat → Nat) (sz : Nat) (hm : Nat) (wi : Nat) (co : Nat) (sl : Nat) (rn : Nat) (so : Nat) (bn : Nat) (sm : Nat) (ah : Nat) (th : Int32) (gr : Nat) (gt : Nat) (gw : Nat) (gk : Nat) (gi : Nat) (gp : Nat) (go : Nat) (gg : Nat) (gh : Nat) (d5 : ClassId) (d6 : ClassId) (d7 : ClassId) (fn : Nat → Int32) (hrn : ∀ j : Nat, j < 12 → fn j = 4) : Met l yX3_counted wsX3_counted ({ frames := 0, cells := 1, slots := 9, locals := 0 }) (va_Pc [.ref hm, .int 3] (fun U => U.heap.size = sz ∧ va_P (dC, dI) vwCl [(hm, .inr (3, [.int th, .int 0, .ref wi, .ref co, .ref sl, .ref rn, .ref so, .ref bn, .ref sm, .ref ah])), (sm, .inr (2, [.int 0, .ref gr, .ref gt, .ref gw, .ref gk, .ref gi, .ref gp, .ref go, .ref gg, .ref gh])), (bn, .inl (d5, 3, .inl (fun _ => 0))), (rn, .inl (d6, 12, .inl fn)), (so, .inl (d7, 12, .inl (fun _ => 0)))] U.heap ∧ va_K (dC, dI) vwCl [(d5, .int), (d6, .int), (d7, .int)] U ∧ va_D (fun _ => True) [(hm, .inr (3, [.int th, .int 0, .ref wi, .ref co, .ref sl, .ref rn, .ref so, .ref bn, .ref sm, .ref ah])), (sm, .inr (2, [.int 0, .ref gr, .ref gt, .ref gw, .ref gk, .ref gi, .ref gp, .ref go, .ref gg, .ref gh])), (bn, .inl (d5, 3, .inl (fun _ => 0))), (rn, .inl (d6, 12, .inl fn)), (so, .inl (d7, 12, .inl (fun _ => 0)))] ∧ zNs U)) (va_Qi (fun (r : Int32) (u : Unit) => r = 0) (fun (u : Unit) (t : State) => va_P (dC, dI) vwCl [(hm, .inr (3, [.int th, .int 0, .ref wi, .ref co, .ref sl, .ref rn, .ref so, .ref bn, .ref sm, .ref ah])), (sm, .inr (2, [.int 0, .ref gr, .ref gt, .ref gw, .ref gk, .ref gi, .ref gp, .ref go, .ref gg, .ref gh])), (bn, .inl (d5, 3, .inl (fun _ => 0))), (rn, .inl (d6, 12, .inl fn)), (so, .inl (d7, 12, .inl (fun _ => 0)))] t.heap ∧ va_K (dC, dI) vwCl [] t ∧ va_D (va_A [(hm, .inr (3, [.int th, .int 0, .ref wi, .ref co, .ref sl, .ref rn, .ref so, .ref bn, .ref sm, .ref ah])), (sm, .inr (2, [.int 0, .ref gr, .ref gt, .ref gw, .ref gk, .ref gi, .ref gp, .ref go, .ref gg, .ref gh])), (bn, .inl (d5, 3, .inl (fun _ => 0))), (rn, .inl (d6, 12, .inl fn)), (so, .inl (d7, 12, .inl (fun _ => 0)))] sz) [(hm, .inr (3, [.int th, .int 0, .ref wi, .ref co, .ref sl, .ref rn, .ref so, .ref bn, .ref sm, .ref ah])), (sm, .inr (2, [.int 0, .ref gr, .ref gt, .ref gw, .ref gk, .ref gi, .ref gp, .ref go, .ref gg, .ref gh])), (bn, .inl (d5, 3, .inl (fun _ => 0))), (rn, .inl (d6, 12, .inl fn)), (so, .inl (d7, 12, .inl (fun _ => 0)))]) (va_A [(hm, .inr (3, [.int th, .int 0, .ref wi, .ref co, .ref sl, .ref rn, .ref so, .ref bn, .ref sm, .ref ah])), (sm, .inr (2, [.int 0, .ref gr, .ref gt, .ref gw, .ref gk, .ref gi, .ref gp, .ref go, .ref gg, .ref gh])), (bn, .inl (d5, 3, .inl (fun _ => 0))), (rn, .inl (d6, 12, .inl fn)), (so, .inl (d7, 12, .inl (fun _ => 0)))] sz)) 1 9 (va_A [(hm, .inr (3, [.int th, .int 0, .ref wi, .ref co, .ref sl, .ref rn, .ref so, .ref bn, .ref sm, .ref ah])), (sm, .inr (2, [.int 0, .ref gr, .ref gt, .ref gw, .ref gk, .ref gi, .ref gp, .ref go, .ref gg, .ref gh])), (bn, .inl (d5, 3, .inl (fun _ => 0))), (rn, .inl (d6, 12, .inl fn)), (so, .inl (d7, 12, .inl (fun _ => 0)))] sz) := by
  refine Met.ofW (cc := cX3_counted) (maxL := 5) (ret := (some .int)) (by decide) rfl ?_
  intro p e s m args below meth c s₁ B hml hv
  obtain ⟨rfl, hsz, hP, hK, hD0, hZN⟩ := hv
  have hx := B.exec
  have hb := B.bytes
  have hr := B.returns
  have hts := atoms_spec (ws := wsX3_counted) B.pre
  have hown : s.vm.findClass RX3 = some m.cls := findClass_of_methodNamed B.named
  have hlocks := B.notSynchronized
  subst hsz
  have hD := hD0.self (sz := s.heap.size)
  generalize hAe : va_A [(hm, .inr (3, [.int th, .int 0, .ref wi, .ref co, .ref sl, .ref rn, .ref so, .ref bn, .ref sm, .ref ah])), (sm, .inr (2, [.int 0, .ref gr, .ref gt, .ref gw, .ref gk, .ref gi, .ref gp, .ref go, .ref gg, .ref gh])), (bn, .inl (d5, 3, .inl (fun _ => 0))), (rn, .inl (d6, 12, .inl fn)), (so, .inl (d7, 12, .inl (fun _ => 0)))] s.heap.size = A at hD ⊢
  have hA : ∀ q : Nat, s.heap.size ≤ q → A q := fun q h => by rw [← hAe]; exact Or.inr h
  have hS : va_S A s.heap s.heap [] := va_S.rf
  have hP : va_P (dC, dI) vwCl [(hm, .inr (3, [.int th, .int 0, .ref wi, .ref co, .ref sl, .ref rn, .ref so, .ref bn, .ref sm, .ref ah])), (sm, .inr (2, [.int 0, .ref gr, .ref gt, .ref gw, .ref gk, .ref gi, .ref gp, .ref go, .ref gg, .ref gh])), (bn, .inl (d5, 3, .inl (fun _ => 0))), (rn, .inl (d6, 12, .inl fn)), (so, .inl (d7, 12, .inl (fun _ => 0)))] s.heap := hP
  have hl := lv_entry ([.ref hm, .int 3]) (n := 5) (Nat.le_of_ble_eq_true rfl)
  rw [lg_entry_eq]
  generalize (lg_sl ([.ref hm, .int 3]) ++ List.replicate (5 - (lg_sl ([.ref hm, .int 3])).length) Slot.unset).toArray = ls at hl ⊢
  have hl : lv_has ls 5 [(0, .ref hm), (1, .int 3)] := hl
  refine lv_iconst (v := 0) hx hb dX3_counted_0 (by decide) ?_
  refine lv_istore_n (lv' := [(2, .int 0), (0, .ref hm), (1, .int 3)]) hx hb dX3_counted_1 rfl hl (by decide) rfl (fun ls hl => ?_)
  refine lv_iconst (v := 0) hx hb dX3_counted_2 (by decide) ?_
  refine lv_istore_n (lv' := [(3, .int 0), (2, .int 0), (0, .ref hm), (1, .int 3)]) hx hb dX3_counted_3 rfl hl (by decide) rfl (fun ls hl => ?_)
  refine lv_iconst (v := 0) hx hb dX3_counted_4 (by decide) ?_
  refine lv_istore (lv' := [(4, .int 0), (3, .int 0), (2, .int 0), (0, .ref hm), (1, .int 3)]) hx hb dX3_counted_5 hl (by decide) rfl (fun ls hl => ?_)
  refine lv_iload hx hb dX3_counted_7 (lv_at hl 0 rfl) ?_
  refine lv_aload_n hx hb dX3_counted_9 rfl (lv_at hl 3 rfl) ?_
  refine va_get (D := (dC, dI)) (ci := 3) (v := .int 0) (C := RX3) (T := TX3) (N := 10) hx hb hts (by decide +kernel) hown hK hP 0 rfl rfl 1 (by decide) (hts (.fieldLink RX3 44 "ThatchRoofModel" "roofs" "I") (by decide +kernel)) (fun _ h9 => h9) rfl dX3_counted_10 ?_
  refine lv_icmp_ge (tgt := 46) hx hb dX3_counted_13 (by decide) (fun c1 => ?_) (fun c1 => absurd c1 (by decide))
  refine lv_bipush (v := 9) hx hb dX3_counted_46 (by decide) ?_
  refine va_newa (atype := .int) (ty := .int) (N' := 9) (a0 := (9, .inl (fun _ => 0))) hx hb (hts (.arrayClass .int) (by decide +kernel)) rfl hK hP hD hS hA (fun _ => rfl) (by decide) (by decide) (by decide) (Nat.le_of_ble_eq_true rfl) (Nat.le_of_ble_eq_true rfl) dX3_counted_48 (fun q2 cA3 H hK hP hD hS => ?_)
  refine W.widen (k := 1) (n := 9) (Nat.le_of_ble_eq_true rfl) (Nat.le_of_ble_eq_true rfl) ?_
  have hK : va_K (dC, dI) vwCl [(d5, .int), (d6, .int), (d7, .int), (cA3, .int)] s := hK
  have hP : va_P (dC, dI) vwCl [(hm, .inr (3, [.int th, .int 0, .ref wi, .ref co, .ref sl, .ref rn, .ref so, .ref bn, .ref sm, .ref ah])), (sm, .inr (2, [.int 0, .ref gr, .ref gt, .ref gw, .ref gk, .ref gi, .ref gp, .ref go, .ref gg, .ref gh])), (bn, .inl (d5, 3, .inl (fun _ => 0))), (rn, .inl (d6, 12, .inl fn)), (so, .inl (d7, 12, .inl (fun _ => 0))), (q2, .inl (cA3, 9, .inl (fun _ => 0)))] H := hP
  have hD : va_D A [(hm, .inr (3, [.int th, .int 0, .ref wi, .ref co, .ref sl, .ref rn, .ref so, .ref bn, .ref sm, .ref ah])), (sm, .inr (2, [.int 0, .ref gr, .ref gt, .ref gw, .ref gk, .ref gi, .ref gp, .ref go, .ref gg, .ref gh])), (bn, .inl (d5, 3, .inl (fun _ => 0))), (rn, .inl (d6, 12, .inl fn)), (so, .inl (d7, 12, .inl (fun _ => 0))), (q2, .inl (cA3, 9, .inl (fun _ => 0)))] := hD
  refine lv_dup hx hb dX3_counted_50 rfl ?_
  refine lv_iconst (v := 0) hx hb dX3_counted_51 (by decide) ?_
  refine lv_aload_n hx hb dX3_counted_52 rfl (lv_at hl 3 rfl) ?_
  refine va_get (D := (dC, dI)) (ci := 3) (v := .ref sm) (C := RX3) (T := TX3) (N := 10) hx hb hts (by decide +kernel) hown hK hP 0 rfl rfl 8 (by decide) (hts (.fieldLink RX3 33 "ThatchRoofModel" "s" "LThatchRoofModel$State;") (by decide +kernel)) (fun _ h9 => h9) rfl dX3_counted_53 ?_
  refine va_getN (D := (dC, dI)) (ci := 2) (v := .int 0) (C := RX2) (T := TX2) (N := 10) hx hb hts (by decide +kernel) hown hK hP 1 rfl rfl 0 (by decide) (va_Nw.use rfl (zN_RX3_128 hZN)) (fun _ h9 => h9) rfl dX3_counted_56 ?_
  refine va_iast hx hb hK hP hD hS 5 3 rfl rfl (vp_in_nI (n := 0) (by decide) (by decide)) dX3_counted_59 (fun H locs hP hD hS => ?_)
  have hP : va_P (dC, dI) vwCl [(hm, .inr (3, [.int th, .int 0, .ref wi, .ref co, .ref sl, .ref rn, .ref so, .ref bn, .ref sm, .ref ah])), (sm, .inr (2, [.int 0, .ref gr, .ref gt, .ref gw, .ref gk, .ref gi, .ref gp, .ref go, .ref gg, .ref gh])), (bn, .inl (d5, 3, .inl (fun _ => 0))), (rn, .inl (d6, 12, .inl fn)), (so, .inl (d7, 12, .inl (fun _ => 0))), (q2, .inl (cA3, 9, .inl (upd (fun _ => 0) 0 0)))] H := hP
  have hD : va_D A [(hm, .inr (3, [.int th, .int 0, .ref wi, .ref co, .ref sl, .ref rn, .ref so, .ref bn, .ref sm, .ref ah])), (sm, .inr (2, [.int 0, .ref gr, .ref gt, .ref gw, .ref gk, .ref gi, .ref gp, .ref go, .ref gg, .ref gh])), (bn, .inl (d5, 3, .inl (fun _ => 0))), (rn, .inl (d6, 12, .inl fn)), (so, .inl (d7, 12, .inl (fun _ => 0))), (q2, .inl (cA3, 9, .inl (upd (fun _ => 0) 0 0)))] := hD
  refine lv_dup hx hb dX3_counted_60 rfl ?_
  refine lv_iconst (v := 1) hx hb dX3_counted_61 (by decide) ?_
  refine lv_aload_n hx hb dX3_counted_62 rfl (lv_at hl 3 rfl) ?_
  refine va_get (D := (dC, dI)) (ci := 3) (v := .int 0) (C := RX3) (T := TX3) (N := 10) hx hb hts (by decide +kernel) hown hK hP 0 rfl rfl 1 (by decide) (hts (.fieldLink RX3 44 "ThatchRoofModel" "roofs" "I") (by decide +kernel)) (fun _ h9 => h9) rfl dX3_counted_63 ?_
  refine va_iast hx hb hK hP hD hS 5 3 rfl rfl (vp_in_nI (n := 1) (by decide) (by decide)) dX3_counted_66 (fun H locs hP hD hS => ?_)
  have hP : va_P (dC, dI) vwCl [(hm, .inr (3, [.int th, .int 0, .ref wi, .ref co, .ref sl, .ref rn, .ref so, .ref bn, .ref sm, .ref ah])), (sm, .inr (2, [.int 0, .ref gr, .ref gt, .ref gw, .ref gk, .ref gi, .ref gp, .ref go, .ref gg, .ref gh])), (bn, .inl (d5, 3, .inl (fun _ => 0))), (rn, .inl (d6, 12, .inl fn)), (so, .inl (d7, 12, .inl (fun _ => 0))), (q2, .inl (cA3, 9, .inl (upd (upd (fun _ => 0) 0 0) 1 0)))] H := hP
  have hD : va_D A [(hm, .inr (3, [.int th, .int 0, .ref wi, .ref co, .ref sl, .ref rn, .ref so, .ref bn, .ref sm, .ref ah])), (sm, .inr (2, [.int 0, .ref gr, .ref gt, .ref gw, .ref gk, .ref gi, .ref gp, .ref go, .ref gg, .ref gh])), (bn, .inl (d5, 3, .inl (fun _ => 0))), (rn, .inl (d6, 12, .inl fn)), (so, .inl (d7, 12, .inl (fun _ => 0))), (q2, .inl (cA3, 9, .inl (upd (upd (fun _ => 0) 0 0) 1 0)))] := hD
  refine lv_dup hx hb dX3_counted_67 rfl ?_
  refine lv_iconst (v := 2) hx hb dX3_counted_68 (by decide) ?_
  refine lv_aload_n hx hb dX3_counted_69 rfl (lv_at hl 3 rfl) ?_
  refine va_get (D := (dC, dI)) (ci := 3) (v := .ref bn) (C := RX3) (T := TX3) (N := 10) hx hb hts (by decide +kernel) hown hK hP 0 rfl rfl 7 (by decide) (hts (.fieldLink RX3 25 "ThatchRoofModel" "barn" "[I") (by decide +kernel)) (fun _ h9 => h9) rfl dX3_counted_70 ?_
  refine lv_iconst (v := 0) hx hb dX3_counted_73 (by decide) ?_
  refine va_iald hx hb hK hP 2 0 rfl rfl (vp_in_nI (n := 0) (by decide) (by decide)) dX3_counted_74 ?_
  refine lv_topi (fun x4 ex4 => ?_)
  obtain rfl : x4 = 0 := ex4
  refine va_iast hx hb hK hP hD hS 5 3 rfl rfl (vp_in_nI (n := 2) (by decide) (by decide)) dX3_counted_75 (fun H locs hP hD hS => ?_)
  have hP : va_P (dC, dI) vwCl [(hm, .inr (3, [.int th, .int 0, .ref wi, .ref co, .ref sl, .ref rn, .ref so, .ref bn, .ref sm, .ref ah])), (sm, .inr (2, [.int 0, .ref gr, .ref gt, .ref gw, .ref gk, .ref gi, .ref gp, .ref go, .ref gg, .ref gh])), (bn, .inl (d5, 3, .inl (fun _ => 0))), (rn, .inl (d6, 12, .inl fn)), (so, .inl (d7, 12, .inl (fun _ => 0))), (q2, .inl (cA3, 9, .inl (upd (upd (upd (fun _ => 0) 0 0) 1 0) 2 0)))] H := hP
  have hD : va_D A [(hm, .inr (3, [.int th, .int 0, .ref wi, .ref co, .ref sl, .ref rn, .ref so, .ref bn, .ref sm, .ref ah])), (sm, .inr (2, [.int 0, .ref gr, .ref gt, .ref gw, .ref gk, .ref gi, .ref gp, .ref go, .ref gg, .ref gh])), (bn, .inl (d5, 3, .inl (fun _ => 0))), (rn, .inl (d6, 12, .inl fn)), (so, .inl (d7, 12, .inl (fun _ => 0))), (q2, .inl (cA3, 9, .inl (upd (upd (upd (fun _ => 0) 0 0) 1 0) 2 0)))] := hD
  refine lv_dup hx hb dX3_counted_76 rfl ?_
  refine lv_iconst (v := 3) hx hb dX3_counted_77 (by decide) ?_
  refine lv_aload_n hx hb dX3_counted_78 rfl (lv_at hl 3 rfl) ?_
  refine va_get (D := (dC, dI)) (ci := 3) (v := .ref bn) (C := RX3) (T := TX3) (N := 10) hx hb hts (by decide +kernel) hown hK hP 0 rfl rfl 7 (by decide) (hts (.fieldLink RX3 25 "ThatchRoofModel" "barn" "[I") (by decide +kernel)) (fun _ h9 => h9) rfl dX3_counted_79 ?_
  refine lv_iconst (v := 1) hx hb dX3_counted_82 (by decide) ?_
  refine va_iald hx hb hK hP 2 0 rfl rfl (vp_in_nI (n := 1) (by decide) (by decide)) dX3_counted_83 ?_
  refine lv_topi (fun x5 ex5 => ?_)
  obtain rfl : x5 = 0 := ex5
  refine va_iast hx hb hK hP hD hS 5 3 rfl rfl (vp_in_nI (n := 3) (by decide) (by decide)) dX3_counted_84 (fun H locs hP hD hS => ?_)
  have hP : va_P (dC, dI) vwCl [(hm, .inr (3, [.int th, .int 0, .ref wi, .ref co, .ref sl, .ref rn, .ref so, .ref bn, .ref sm, .ref ah])), (sm, .inr (2, [.int 0, .ref gr, .ref gt, .ref gw, .ref gk, .ref gi, .ref gp, .ref go, .ref gg, .ref gh])), (bn, .inl (d5, 3, .inl (fun _ => 0))), (rn, .inl (d6, 12, .inl fn)), (so, .inl (d7, 12, .inl (fun _ => 0))), (q2, .inl (cA3, 9, .inl (upd (upd (upd (upd (fun _ => 0) 0 0) 1 0) 2 0) 3 0)))] H := hP
  have hD : va_D A [(hm, .inr (3, [.int th, .int 0, .ref wi, .ref co, .ref sl, .ref rn, .ref so, .ref bn, .ref sm, .ref ah])), (sm, .inr (2, [.int 0, .ref gr, .ref gt, .ref gw, .ref gk, .ref gi, .ref gp, .ref go, .ref gg, .ref gh])), (bn, .inl (d5, 3, .inl (fun _ => 0))), (rn, .inl (d6, 12, .inl fn)), (so, .inl (d7, 12, .inl (fun _ => 0))), (q2, .inl (cA3, 9, .inl (upd (upd (upd (upd (fun _ => 0) 0 0) 1 0) 2 0) 3 0)))] := hD
  refine lv_dup hx hb dX3_counted_85 rfl ?_
  refine lv_iconst (v := 4) hx hb dX3_counted_86 (by decide) ?_
  refine lv_aload_n hx hb dX3_counted_87 rfl (lv_at hl 3 rfl) ?_
  refine va_get (D := (dC, dI)) (ci := 3) (v := .ref bn) (C := RX3) (T := TX3) (N := 10) hx hb hts (by decide +kernel) hown hK hP 0 rfl rfl 7 (by decide) (hts (.fieldLink RX3 25 "ThatchRoofModel" "barn" "[I") (by decide +kernel)) (fun _ h9 => h9) rfl dX3_counted_88 ?_
  refine lv_iconst (v := 2) hx hb dX3_counted_91 (by decide) ?_
  refine va_iald hx hb hK hP 2 0 rfl rfl (vp_in_nI (n := 2) (by decide) (by decide)) dX3_counted_92 ?_
  refine lv_topi (fun x6 ex6 => ?_)
  obtain rfl : x6 = 0 := ex6
  refine va_iast hx hb hK hP hD hS 5 3 rfl rfl (vp_in_nI (n := 4) (by decide) (by decide)) dX3_counted_93 (fun H locs hP hD hS => ?_)
  have hP : va_P (dC, dI) vwCl [(hm, .inr (3, [.int th, .int 0, .ref wi, .ref co, .ref sl, .ref rn, .ref so, .ref bn, .ref sm, .ref ah])), (sm, .inr (2, [.int 0, .ref gr, .ref gt, .ref gw, .ref gk, .ref gi, .ref gp, .ref go, .ref gg, .ref gh])), (bn, .inl (d5, 3, .inl (fun _ => 0))), (rn, .inl (d6, 12, .inl fn)), (so, .inl (d7, 12, .inl (fun _ => 0))), (q2, .inl (cA3, 9, .inl (upd (upd (upd (upd (upd (fun _ => 0) 0 0) 1 0) 2 0) 3 0) 4 0)))] H := hP
  have hD : va_D A [(hm, .inr (3, [.int th, .int 0, .ref wi, .ref co, .ref sl, .ref rn, .ref so, .ref bn, .ref sm, .ref ah])), (sm, .inr (2, [.int 0, .ref gr, .ref gt, .ref gw, .ref gk, .ref gi, .ref gp, .ref go, .ref gg, .ref gh])), (bn, .inl (d5, 3, .inl (fun _ => 0))), (rn, .inl (d6, 12, .inl fn)), (so, .inl (d7, 12, .inl (fun _ => 0))), (q2, .inl (cA3, 9, .inl (upd (upd (upd (upd (upd (fun _ => 0) 0 0) 1 0) 2 0) 3 0) 4 0)))] := hD
  refine lv_dup hx hb dX3_counted_94 rfl ?_
  refine lv_iconst (v := 5) hx hb dX3_counted_95 (by decide) ?_
  refine lv_iload_n hx hb dX3_counted_96 rfl (lv_at hl 2 rfl) ?_
  refine va_iast hx hb hK hP hD hS 5 3 rfl rfl (vp_in_nI (n := 5) (by decide) (by decide)) dX3_counted_97 (fun H locs hP hD hS => ?_)
  have hP : va_P (dC, dI) vwCl [(hm, .inr (3, [.int th, .int 0, .ref wi, .ref co, .ref sl, .ref rn, .ref so, .ref bn, .ref sm, .ref ah])), (sm, .inr (2, [.int 0, .ref gr, .ref gt, .ref gw, .ref gk, .ref gi, .ref gp, .ref go, .ref gg, .ref gh])), (bn, .inl (d5, 3, .inl (fun _ => 0))), (rn, .inl (d6, 12, .inl fn)), (so, .inl (d7, 12, .inl (fun _ => 0))), (q2, .inl (cA3, 9, .inl (upd (upd (upd (upd (upd (upd (fun _ => 0) 0 0) 1 0) 2 0) 3 0) 4 0) 5 0)))] H := hP
  have hD : va_D A [(hm, .inr (3, [.int th, .int 0, .ref wi, .ref co, .ref sl, .ref rn, .ref so, .ref bn, .ref sm, .ref ah])), (sm, .inr (2, [.int 0, .ref gr, .ref gt, .ref gw, .ref gk, .ref gi, .ref gp, .ref go, .ref gg, .ref gh])), (bn, .inl (d5, 3, .inl (fun _ => 0))), (rn, .inl (d6, 12, .inl fn)), (so, .inl (d7, 12, .inl (fun _ => 0))), (q2, .inl (cA3, 9, .inl (upd (upd (upd (upd (upd (upd (fun _ => 0) 0 0) 1 0) 2 0) 3 0) 4 0) 5 0)))] := hD
  refine lv_dup hx hb dX3_counted_98 rfl ?_
  refine lv_bipush (v := 6) hx hb dX3_counted_99 (by decide) ?_
  refine lv_iload_n hx hb dX3_counted_101 rfl (lv_at hl 1 rfl) ?_
  refine va_iast hx hb hK hP hD hS 5 3 rfl rfl (vp_in_nI (n := 6) (by decide) (by decide)) dX3_counted_102 (fun H locs hP hD hS => ?_)
  have hP : va_P (dC, dI) vwCl [(hm, .inr (3, [.int th, .int 0, .ref wi, .ref co, .ref sl, .ref rn, .ref so, .ref bn, .ref sm, .ref ah])), (sm, .inr (2, [.int 0, .ref gr, .ref gt, .ref gw, .ref gk, .ref gi, .ref gp, .ref go, .ref gg, .ref gh])), (bn, .inl (d5, 3, .inl (fun _ => 0))), (rn, .inl (d6, 12, .inl fn)), (so, .inl (d7, 12, .inl (fun _ => 0))), (q2, .inl (cA3, 9, .inl (upd (upd (upd (upd (upd (upd (upd (fun _ => 0) 0 0) 1 0) 2 0) 3 0) 4 0) 5 0) 6 0)))] H := hP
  have hD : va_D A [(hm, .inr (3, [.int th, .int 0, .ref wi, .ref co, .ref sl, .ref rn, .ref so, .ref bn, .ref sm, .ref ah])), (sm, .inr (2, [.int 0, .ref gr, .ref gt, .ref gw, .ref gk, .ref gi, .ref gp, .ref go, .ref gg, .ref gh])), (bn, .inl (d5, 3, .inl (fun _ => 0))), (rn, .inl (d6, 12, .inl fn)), (so, .inl (d7, 12, .inl (fun _ => 0))), (q2, .inl (cA3, 9, .inl (upd (upd (upd (upd (upd (upd (upd (fun _ => 0) 0 0) 1 0) 2 0) 3 0) 4 0) 5 0) 6 0)))] := hD
  refine lv_dup hx hb dX3_counted_103 rfl ?_
  refine lv_bipush (v := 7) hx hb dX3_counted_104 (by decide) ?_
  refine lv_aload_n hx hb dX3_counted_106 rfl (lv_at hl 3 rfl) ?_
  refine va_get (D := (dC, dI)) (ci := 3) (v := .ref rn) (C := RX3) (T := TX3) (N := 10) hx hb hts (by decide +kernel) hown hK hP 0 rfl rfl 5 (by decide) (hts (.fieldLink RX3 19 "ThatchRoofModel" "rain" "[I") (by decide +kernel)) (fun _ h9 => h9) rfl dX3_counted_107 ?_
  refine lv_aload_n hx hb dX3_counted_110 rfl (lv_at hl 3 rfl) ?_
  refine va_get (D := (dC, dI)) (ci := 3) (v := .ref sm) (C := RX3) (T := TX3) (N := 10) hx hb hts (by decide +kernel) hown hK hP 0 rfl rfl 8 (by decide) (hts (.fieldLink RX3 33 "ThatchRoofModel" "s" "LThatchRoofModel$State;") (by decide +kernel)) (fun _ h9 => h9) rfl dX3_counted_111 ?_
  refine va_getN (D := (dC, dI)) (ci := 2) (v := .int 0) (C := RX2) (T := TX2) (N := 10) hx hb hts (by decide +kernel) hown hK hP 1 rfl rfl 0 (by decide) (va_Nw.use rfl (zN_RX3_128 hZN)) (fun _ h9 => h9) rfl dX3_counted_114 ?_
  refine lv_bipush (v := 12) hx hb dX3_counted_117 (by decide) ?_
  refine lv_irem hx hb dX3_counted_119 (by decide) ?_
  refine W.eq (g2 := F0 m 120 ls [.int 0, .ref rn, .int 7, .ref q2, .ref q2]) rfl ?_
  refine va_iald hx hb hK hP 3 1 rfl rfl (vp_in_nI (n := 0) (by decide) (by decide)) dX3_counted_120 ?_
  refine lv_topi (fun x7 ex7 => ?_)
  obtain rfl : x7 = 4 := ex7.trans (hrn 0 (by decide))
  refine va_iast hx hb hK hP hD hS 5 3 rfl rfl (vp_in_nI (n := 7) (by decide) (by decide)) dX3_counted_121 (fun H locs hP hD hS => ?_)
  have hP : va_P (dC, dI) vwCl [(hm, .inr (3, [.int th, .int 0, .ref wi, .ref co, .ref sl, .ref rn, .ref so, .ref bn, .ref sm, .ref ah])), (sm, .inr (2, [.int 0, .ref gr, .ref gt, .ref gw, .ref gk, .ref gi, .ref gp, .ref go, .ref gg, .ref gh])), (bn, .inl (d5, 3, .inl (fun _ => 0))), (rn, .inl (d6, 12, .inl fn)), (so, .inl (d7, 12, .inl (fun _ => 0))), (q2, .inl (cA3, 9, .inl (upd (upd (upd (upd (upd (upd (upd (upd (fun _ => 0) 0 0) 1 0) 2 0) 3 0) 4 0) 5 0) 6 0) 7 4)))] H := hP
  have hD : va_D A [(hm, .inr (3, [.int th, .int 0, .ref wi, .ref co, .ref sl, .ref rn, .ref so, .ref bn, .ref sm, .ref ah])), (sm, .inr (2, [.int 0, .ref gr, .ref gt, .ref gw, .ref gk, .ref gi, .ref gp, .ref go, .ref gg, .ref gh])), (bn, .inl (d5, 3, .inl (fun _ => 0))), (rn, .inl (d6, 12, .inl fn)), (so, .inl (d7, 12, .inl (fun _ => 0))), (q2, .inl (cA3, 9, .inl (upd (upd (upd (upd (upd (upd (upd (upd (fun _ => 0) 0 0) 1 0) 2 0) 3 0) 4 0) 5 0) 6 0) 7 4)))] := hD
  refine lv_dup hx hb dX3_counted_122 rfl ?_
  refine lv_bipush (v := 8) hx hb dX3_counted_123 (by decide) ?_
  refine lv_aload_n hx hb dX3_counted_125 rfl (lv_at hl 3 rfl) ?_
  refine va_get (D := (dC, dI)) (ci := 3) (v := .ref so) (C := RX3) (T := TX3) (N := 10) hx hb hts (by decide +kernel) hown hK hP 0 rfl rfl 6 (by decide) (hts (.fieldLink RX3 22 "ThatchRoofModel" "storm" "[I") (by decide +kernel)) (fun _ h9 => h9) rfl dX3_counted_126 ?_
  refine lv_aload_n hx hb dX3_counted_129 rfl (lv_at hl 3 rfl) ?_
  refine va_get (D := (dC, dI)) (ci := 3) (v := .ref sm) (C := RX3) (T := TX3) (N := 10) hx hb hts (by decide +kernel) hown hK hP 0 rfl rfl 8 (by decide) (hts (.fieldLink RX3 33 "ThatchRoofModel" "s" "LThatchRoofModel$State;") (by decide +kernel)) (fun _ h9 => h9) rfl dX3_counted_130 ?_
  refine va_getN (D := (dC, dI)) (ci := 2) (v := .int 0) (C := RX2) (T := TX2) (N := 10) hx hb hts (by decide +kernel) hown hK hP 1 rfl rfl 0 (by decide) (va_Nw.use rfl (zN_RX3_128 hZN)) (fun _ h9 => h9) rfl dX3_counted_133 ?_
  refine lv_bipush (v := 12) hx hb dX3_counted_136 (by decide) ?_
  refine lv_irem hx hb dX3_counted_138 (by decide) ?_
  refine W.eq (g2 := F0 m 139 ls [.int 0, .ref so, .int 8, .ref q2, .ref q2]) rfl ?_
  refine va_iald hx hb hK hP 4 2 rfl rfl (vp_in_nI (n := 0) (by decide) (by decide)) dX3_counted_139 ?_
  refine lv_topi (fun x8 ex8 => ?_)
  obtain rfl : x8 = 0 := ex8
  refine va_iast hx hb hK hP hD hS 5 3 rfl rfl (vp_in_nI (n := 8) (by decide) (by decide)) dX3_counted_140 (fun H locs hP hD hS => ?_)
  have hP : va_P (dC, dI) vwCl [(hm, .inr (3, [.int th, .int 0, .ref wi, .ref co, .ref sl, .ref rn, .ref so, .ref bn, .ref sm, .ref ah])), (sm, .inr (2, [.int 0, .ref gr, .ref gt, .ref gw, .ref gk, .ref gi, .ref gp, .ref go, .ref gg, .ref gh])), (bn, .inl (d5, 3, .inl (fun _ => 0))), (rn, .inl (d6, 12, .inl fn)), (so, .inl (d7, 12, .inl (fun _ => 0))), (q2, .inl (cA3, 9, .inl (upd (upd (upd (upd (upd (upd (upd (upd (upd (fun _ => 0) 0 0) 1 0) 2 0) 3 0) 4 0) 5 0) 6 0) 7 4) 8 0)))] H := hP
  have hD : va_D A [(hm, .inr (3, [.int th, .int 0, .ref wi, .ref co, .ref sl, .ref rn, .ref so, .ref bn, .ref sm, .ref ah])), (sm, .inr (2, [.int 0, .ref gr, .ref gt, .ref gw, .ref gk, .ref gi, .ref gp, .ref go, .ref gg, .ref gh])), (bn, .inl (d5, 3, .inl (fun _ => 0))), (rn, .inl (d6, 12, .inl fn)), (so, .inl (d7, 12, .inl (fun _ => 0))), (q2, .inl (cA3, 9, .inl (upd (upd (upd (upd (upd (upd (upd (upd (upd (fun _ => 0) 0 0) 1 0) 2 0) 3 0) 4 0) 5 0) 6 0) 7 4) 8 0)))] := hD
  refine lv_astore (lv' := [(4, .ref q2), (3, .int 0), (2, .int 0), (0, .ref hm), (1, .int 3)]) hx hb dX3_counted_141 hl (by decide) rfl (fun ls hl => ?_)
  refine lv_aload hx hb dX3_counted_143 (lv_at hl 0 rfl) ?_
  refine lv_iload_n hx hb dX3_counted_145 rfl (lv_at hl 4 rfl) ?_
  refine va_iald hx hb hK hP 5 3 rfl rfl (vp_in_nI (n := 3) (by decide) (by decide)) dX3_counted_146 ?_
  refine lv_topi (fun x9 ex9 => ?_)
  obtain rfl : x9 = 0 := ex9
  have hP9 := hP.sub (ws' := [(hm, .inr (3, [.int th, .int 0, .ref wi, .ref co, .ref sl, .ref rn, .ref so, .ref bn, .ref sm, .ref ah])), (sm, .inr (2, [.int 0, .ref gr, .ref gt, .ref gw, .ref gk, .ref gi, .ref gp, .ref go, .ref gg, .ref gh])), (bn, .inl (d5, 3, .inl (fun _ => 0))), (rn, .inl (d6, 12, .inl fn)), (so, .inl (d7, 12, .inl (fun _ => 0)))]) [0, 1, 2, 3, 4] rfl
  have hD9 := hD.sub (ws' := [(hm, .inr (3, [.int th, .int 0, .ref wi, .ref co, .ref sl, .ref rn, .ref so, .ref bn, .ref sm, .ref ah])), (sm, .inr (2, [.int 0, .ref gr, .ref gt, .ref gw, .ref gk, .ref gi, .ref gp, .ref go, .ref gg, .ref gh])), (bn, .inl (d5, 3, .inl (fun _ => 0))), (rn, .inl (d6, 12, .inl fn)), (so, .inl (d7, 12, .inl (fun _ => 0)))]) [0, 1, 2, 3, 4] (by decide) rfl
  have hK9 := hK.sub (tys' := []) [] rfl
  refine W.widen (k := 1) (n := 9) (Nat.le_of_ble_eq_true rfl) (Nat.le_of_ble_eq_true rfl) ?_
  exact W.iret (v := 0) hx hb hr (fun t ht hW => ⟨⟨0, (), rfl, by (first | rfl | assumption | decide | (simp_all; done) | grind), ⟨by rw [ht]; exact hP9, va_K.moved hW.alike hK9, hD9⟩⟩, hS.F ht⟩) hS.2.2 dX3_counted_147

set_option maxHeartbeats 4000000 in
set_option maxRecDepth 100000 in
theorem k3_counted4 (l : Launch) (dC : Nat → ClassId) (dI : Nat → Nat → Nat) (sz : Nat) (hm : Nat) (wi : Nat) (co : Nat) (sl : Nat) (rn : Nat) (so : Nat) (bn : Nat) (sm : Nat) (ah : Nat) (th : Int32) (gr : Nat) (gt : Nat) (gw : Nat) (gk : Nat) (gi : Nat) (gp : Nat) (go : Nat) (gg : Nat) (gh : Nat) (d5 : ClassId) (d6 : ClassId) (d7 : ClassId) (fn : Nat → Int32) (hrn : ∀ j : Nat, j < 12 → fn j = 4) : Met l yX3_counted wsX3_counted ({ frames := 0, cells := 1, slots := 9, locals := 0 }) (va_Pc [.ref hm, .int 4] (fun U => U.heap.size = sz ∧ va_P (dC, dI) vwCl [(hm, .inr (3, [.int th, .int 0, .ref wi, .ref co, .ref sl, .ref rn, .ref so, .ref bn, .ref sm, .ref ah])), (sm, .inr (2, [.int 0, .ref gr, .ref gt, .ref gw, .ref gk, .ref gi, .ref gp, .ref go, .ref gg, .ref gh])), (bn, .inl (d5, 3, .inl (fun _ => 0))), (rn, .inl (d6, 12, .inl fn)), (so, .inl (d7, 12, .inl (fun _ => 0)))] U.heap ∧ va_K (dC, dI) vwCl [(d5, .int), (d6, .int), (d7, .int)] U ∧ va_D (fun _ => True) [(hm, .inr (3, [.int th, .int 0, .ref wi, .ref co, .ref sl, .ref rn, .ref so, .ref bn, .ref sm, .ref ah])), (sm, .inr (2, [.int 0, .ref gr, .ref gt, .ref gw, .ref gk, .ref gi, .ref gp, .ref go, .ref gg, .ref gh])), (bn, .inl (d5, 3, .inl (fun _ => 0))), (rn, .inl (d6, 12, .inl fn)), (so, .inl (d7, 12, .inl (fun _ => 0)))] ∧ zNs U)) (va_Qi (fun (r : Int32) (u : Unit) => r = 0) (fun (u : Unit) (t : State) => va_P (dC, dI) vwCl [(hm, .inr (3, [.int th, .int 0, .ref wi, .ref co, .ref sl, .ref rn, .ref so, .ref bn, .ref sm, .ref ah])), (sm, .inr (2, [.int 0, .ref gr, .ref gt, .ref gw, .ref gk, .ref gi, .ref gp, .ref go, .ref gg, .ref gh])), (bn, .inl (d5, 3, .inl (fun _ => 0))), (rn, .inl (d6, 12, .inl fn)), (so, .inl (d7, 12, .inl (fun _ => 0)))] t.heap ∧ va_K (dC, dI) vwCl [] t ∧ va_D (va_A [(hm, .inr (3, [.int th, .int 0, .ref wi, .ref co, .ref sl, .ref rn, .ref so, .ref bn, .ref sm, .ref ah])), (sm, .inr (2, [.int 0, .ref gr, .ref gt, .ref gw, .ref gk, .ref gi, .ref gp, .ref go, .ref gg, .ref gh])), (bn, .inl (d5, 3, .inl (fun _ => 0))), (rn, .inl (d6, 12, .inl fn)), (so, .inl (d7, 12, .inl (fun _ => 0)))] sz) [(hm, .inr (3, [.int th, .int 0, .ref wi, .ref co, .ref sl, .ref rn, .ref so, .ref bn, .ref sm, .ref ah])), (sm, .inr (2, [.int 0, .ref gr, .ref gt, .ref gw, .ref gk, .ref gi, .ref gp, .ref go, .ref gg, .ref gh])), (bn, .inl (d5, 3, .inl (fun _ => 0))), (rn, .inl (d6, 12, .inl fn)), (so, .inl (d7, 12, .inl (fun _ => 0)))]) (va_A [(hm, .inr (3, [.int th, .int 0, .ref wi, .ref co, .ref sl, .ref rn, .ref so, .ref bn, .ref sm, .ref ah])), (sm, .inr (2, [.int 0, .ref gr, .ref gt, .ref gw, .ref gk, .ref gi, .ref gp, .ref go, .ref gg, .ref gh])), (bn, .inl (d5, 3, .inl (fun _ => 0))), (rn, .inl (d6, 12, .inl fn)), (so, .inl (d7, 12, .inl (fun _ => 0)))] sz)) 1 9 (va_A [(hm, .inr (3, [.int th, .int 0, .ref wi, .ref co, .ref sl, .ref rn, .ref so, .ref bn, .ref sm, .ref ah])), (sm, .inr (2, [.int 0, .ref gr, .ref gt, .ref gw, .ref gk, .ref gi, .ref gp, .ref go, .ref gg, .ref gh])), (bn, .inl (d5, 3, .inl (fun _ => 0))), (rn, .inl (d6, 12, .inl fn)), (so, .inl (d7, 12, .inl (fun _ => 0)))] sz) := by
  refine Met.ofW (cc := cX3_counted) (maxL := 5) (ret := (some .int)) (by decide) rfl ?_
  intro p e s m args below meth c s₁ B hml hv
  obtain ⟨rfl, hsz, hP, hK, hD0, hZN⟩ := hv
  have hx := B.exec
  have hb := B.bytes
  have hr := B.returns
  have hts := atoms_spec (ws := wsX3_counted) B.pre
  have hown : s.vm.findClass RX3 = some m.cls := findClass_of_methodNamed B.named
  have hlocks := B.notSynchronized
  subst hsz
  have hD := hD0.self (sz := s.heap.size)
  generalize hAe : va_A [(hm, .inr (3, [.int th, .int 0, .ref wi, .ref co, .ref sl, .ref rn, .ref so, .ref bn, .ref sm, .ref ah])), (sm, .inr (2, [.int 0, .ref gr, .ref gt, .ref gw, .ref gk, .ref gi, .ref gp, .ref go, .ref gg, .ref gh])), (bn, .inl (d5, 3, .inl (fun _ => 0))), (rn, .inl (d6, 12, .inl fn)), (so, .inl (d7, 12, .inl (fun _ => 0)))] s.heap.size = A at hD ⊢
  have hA : ∀ q : Nat, s.heap.size ≤ q → A q := fun q h => by rw [← hAe]; exact Or.inr h
  have hS : va_S A s.heap s.heap [] := va_S.rf
  have hP : va_P (dC, dI) vwCl [(hm, .inr (3, [.int th, .int 0, .ref wi, .ref co, .ref sl, .ref rn, .ref so, .ref bn, .ref sm, .ref ah])), (sm, .inr (2, [.int 0, .ref gr, .ref gt, .ref gw, .ref gk, .ref gi, .ref gp, .ref go, .ref gg, .ref gh])), (bn, .inl (d5, 3, .inl (fun _ => 0))), (rn, .inl (d6, 12, .inl fn)), (so, .inl (d7, 12, .inl (fun _ => 0)))] s.heap := hP
  have hl := lv_entry ([.ref hm, .int 4]) (n := 5) (Nat.le_of_ble_eq_true rfl)
  rw [lg_entry_eq]
  generalize (lg_sl ([.ref hm, .int 4]) ++ List.replicate (5 - (lg_sl ([.ref hm, .int 4])).length) Slot.unset).toArray = ls at hl ⊢
  have hl : lv_has ls 5 [(0, .ref hm), (1, .int 4)] := hl
  refine lv_iconst (v := 0) hx hb dX3_counted_0 (by decide) ?_
  refine lv_istore_n (lv' := [(2, .int 0), (0, .ref hm), (1, .int 4)]) hx hb dX3_counted_1 rfl hl (by decide) rfl (fun ls hl => ?_)
  refine lv_iconst (v := 0) hx hb dX3_counted_2 (by decide) ?_
  refine lv_istore_n (lv' := [(3, .int 0), (2, .int 0), (0, .ref hm), (1, .int 4)]) hx hb dX3_counted_3 rfl hl (by decide) rfl (fun ls hl => ?_)
  refine lv_iconst (v := 0) hx hb dX3_counted_4 (by decide) ?_
  refine lv_istore (lv' := [(4, .int 0), (3, .int 0), (2, .int 0), (0, .ref hm), (1, .int 4)]) hx hb dX3_counted_5 hl (by decide) rfl (fun ls hl => ?_)
  refine lv_iload hx hb dX3_counted_7 (lv_at hl 0 rfl) ?_
  refine lv_aload_n hx hb dX3_counted_9 rfl (lv_at hl 3 rfl) ?_
  refine va_get (D := (dC, dI)) (ci := 3) (v := .int 0) (C := RX3) (T := TX3) (N := 10) hx hb hts (by decide +kernel) hown hK hP 0 rfl rfl 1 (by decide) (hts (.fieldLink RX3 44 "ThatchRoofModel" "roofs" "I") (by decide +kernel)) (fun _ h9 => h9) rfl dX3_counted_10 ?_
  refine lv_icmp_ge (tgt := 46) hx hb dX3_counted_13 (by decide) (fun c1 => ?_) (fun c1 => absurd c1 (by decide))
  refine lv_bipush (v := 9) hx hb dX3_counted_46 (by decide) ?_
  refine va_newa (atype := .int) (ty := .int) (N' := 9) (a0 := (9, .inl (fun _ => 0))) hx hb (hts (.arrayClass .int) (by decide +kernel)) rfl hK hP hD hS hA (fun _ => rfl) (by decide) (by decide) (by decide) (Nat.le_of_ble_eq_true rfl) (Nat.le_of_ble_eq_true rfl) dX3_counted_48 (fun q2 cA3 H hK hP hD hS => ?_)
  refine W.widen (k := 1) (n := 9) (Nat.le_of_ble_eq_true rfl) (Nat.le_of_ble_eq_true rfl) ?_
  have hK : va_K (dC, dI) vwCl [(d5, .int), (d6, .int), (d7, .int), (cA3, .int)] s := hK
  have hP : va_P (dC, dI) vwCl [(hm, .inr (3, [.int th, .int 0, .ref wi, .ref co, .ref sl, .ref rn, .ref so, .ref bn, .ref sm, .ref ah])), (sm, .inr (2, [.int 0, .ref gr, .ref gt, .ref gw, .ref gk, .ref gi, .ref gp, .ref go, .ref gg, .ref gh])), (bn, .inl (d5, 3, .inl (fun _ => 0))), (rn, .inl (d6, 12, .inl fn)), (so, .inl (d7, 12, .inl (fun _ => 0))), (q2, .inl (cA3, 9, .inl (fun _ => 0)))] H := hP
  have hD : va_D A [(hm, .inr (3, [.int th, .int 0, .ref wi, .ref co, .ref sl, .ref rn, .ref so, .ref bn, .ref sm, .ref ah])), (sm, .inr (2, [.int 0, .ref gr, .ref gt, .ref gw, .ref gk, .ref gi, .ref gp, .ref go, .ref gg, .ref gh])), (bn, .inl (d5, 3, .inl (fun _ => 0))), (rn, .inl (d6, 12, .inl fn)), (so, .inl (d7, 12, .inl (fun _ => 0))), (q2, .inl (cA3, 9, .inl (fun _ => 0)))] := hD
  refine lv_dup hx hb dX3_counted_50 rfl ?_
  refine lv_iconst (v := 0) hx hb dX3_counted_51 (by decide) ?_
  refine lv_aload_n hx hb dX3_counted_52 rfl (lv_at hl 3 rfl) ?_
  refine va_get (D := (dC, dI)) (ci := 3) (v := .ref sm) (C := RX3) (T := TX3) (N := 10) hx hb hts (by decide +kernel) hown hK hP 0 rfl rfl 8 (by decide) (hts (.fieldLink RX3 33 "ThatchRoofModel" "s" "LThatchRoofModel$State;") (by decide +kernel)) (fun _ h9 => h9) rfl dX3_counted_53 ?_
  refine va_getN (D := (dC, dI)) (ci := 2) (v := .int 0) (C := RX2) (T := TX2) (N := 10) hx hb hts (by decide +kernel) hown hK hP 1 rfl rfl 0 (by decide) (va_Nw.use rfl (zN_RX3_128 hZN)) (fun _ h9 => h9) rfl dX3_counted_56 ?_
  refine va_iast hx hb hK hP hD hS 5 3 rfl rfl (vp_in_nI (n := 0) (by decide) (by decide)) dX3_counted_59 (fun H locs hP hD hS => ?_)
  have hP : va_P (dC, dI) vwCl [(hm, .inr (3, [.int th, .int 0, .ref wi, .ref co, .ref sl, .ref rn, .ref so, .ref bn, .ref sm, .ref ah])), (sm, .inr (2, [.int 0, .ref gr, .ref gt, .ref gw, .ref gk, .ref gi, .ref gp, .ref go, .ref gg, .ref gh])), (bn, .inl (d5, 3, .inl (fun _ => 0))), (rn, .inl (d6, 12, .inl fn)), (so, .inl (d7, 12, .inl (fun _ => 0))), (q2, .inl (cA3, 9, .inl (upd (fun _ => 0) 0 0)))] H := hP
  have hD : va_D A [(hm, .inr (3, [.int th, .int 0, .ref wi, .ref co, .ref sl, .ref rn, .ref so, .ref bn, .ref sm, .ref ah])), (sm, .inr (2, [.int 0, .ref gr, .ref gt, .ref gw, .ref gk, .ref gi, .ref gp, .ref go, .ref gg, .ref gh])), (bn, .inl (d5, 3, .inl (fun _ => 0))), (rn, .inl (d6, 12, .inl fn)), (so, .inl (d7, 12, .inl (fun _ => 0))), (q2, .inl (cA3, 9, .inl (upd (fun _ => 0) 0 0)))] := hD
  refine lv_dup hx hb dX3_counted_60 rfl ?_
  refine lv_iconst (v := 1) hx hb dX3_counted_61 (by decide) ?_
  refine lv_aload_n hx hb dX3_counted_62 rfl (lv_at hl 3 rfl) ?_
  refine va_get (D := (dC, dI)) (ci := 3) (v := .int 0) (C := RX3) (T := TX3) (N := 10) hx hb hts (by decide +kernel) hown hK hP 0 rfl rfl 1 (by decide) (hts (.fieldLink RX3 44 "ThatchRoofModel" "roofs" "I") (by decide +kernel)) (fun _ h9 => h9) rfl dX3_counted_63 ?_
  refine va_iast hx hb hK hP hD hS 5 3 rfl rfl (vp_in_nI (n := 1) (by decide) (by decide)) dX3_counted_66 (fun H locs hP hD hS => ?_)
  have hP : va_P (dC, dI) vwCl [(hm, .inr (3, [.int th, .int 0, .ref wi, .ref co, .ref sl, .ref rn, .ref so, .ref bn, .ref sm, .ref ah])), (sm, .inr (2, [.int 0, .ref gr, .ref gt, .ref gw, .ref gk, .ref gi, .ref gp, .ref go, .ref gg, .ref gh])), (bn, .inl (d5, 3, .inl (fun _ => 0))), (rn, .inl (d6, 12, .inl fn)), (so, .inl (d7, 12, .inl (fun _ => 0))), (q2, .inl (cA3, 9, .inl (upd (upd (fun _ => 0) 0 0) 1 0)))] H := hP
  have hD : va_D A [(hm, .inr (3, [.int th, .int 0, .ref wi, .ref co, .ref sl, .ref rn, .ref so, .ref bn, .ref sm, .ref ah])), (sm, .inr (2, [.int 0, .ref gr, .ref gt, .ref gw, .ref gk, .ref gi, .ref gp, .ref go, .ref gg, .ref gh])), (bn, .inl (d5, 3, .inl (fun _ => 0))), (rn, .inl (d6, 12, .inl fn)), (so, .inl (d7, 12, .inl (fun _ => 0))), (q2, .inl (cA3, 9, .inl (upd (upd (fun _ => 0) 0 0) 1 0)))] := hD
  refine lv_dup hx hb dX3_counted_67 rfl ?_
  refine lv_iconst (v := 2) hx hb dX3_counted_68 (by decide) ?_
  refine lv_aload_n hx hb dX3_counted_69 rfl (lv_at hl 3 rfl) ?_
  refine va_get (D := (dC, dI)) (ci := 3) (v := .ref bn) (C := RX3) (T := TX3) (N := 10) hx hb hts (by decide +kernel) hown hK hP 0 rfl rfl 7 (by decide) (hts (.fieldLink RX3 25 "ThatchRoofModel" "barn" "[I") (by decide +kernel)) (fun _ h9 => h9) rfl dX3_counted_70 ?_
  refine lv_iconst (v := 0) hx hb dX3_counted_73 (by decide) ?_
  refine va_iald hx hb hK hP 2 0 rfl rfl (vp_in_nI (n := 0) (by decide) (by decide)) dX3_counted_74 ?_
  refine lv_topi (fun x4 ex4 => ?_)
  obtain rfl : x4 = 0 := ex4
  refine va_iast hx hb hK hP hD hS 5 3 rfl rfl (vp_in_nI (n := 2) (by decide) (by decide)) dX3_counted_75 (fun H locs hP hD hS => ?_)
  have hP : va_P (dC, dI) vwCl [(hm, .inr (3, [.int th, .int 0, .ref wi, .ref co, .ref sl, .ref rn, .ref so, .ref bn, .ref sm, .ref ah])), (sm, .inr (2, [.int 0, .ref gr, .ref gt, .ref gw, .ref gk, .ref gi, .ref gp, .ref go, .ref gg, .ref gh])), (bn, .inl (d5, 3, .inl (fun _ => 0))), (rn, .inl (d6, 12, .inl fn)), (so, .inl (d7, 12, .inl (fun _ => 0))), (q2, .inl (cA3, 9, .inl (upd (upd (upd (fun _ => 0) 0 0) 1 0) 2 0)))] H := hP
  have hD : va_D A [(hm, .inr (3, [.int th, .int 0, .ref wi, .ref co, .ref sl, .ref rn, .ref so, .ref bn, .ref sm, .ref ah])), (sm, .inr (2, [.int 0, .ref gr, .ref gt, .ref gw, .ref gk, .ref gi, .ref gp, .ref go, .ref gg, .ref gh])), (bn, .inl (d5, 3, .inl (fun _ => 0))), (rn, .inl (d6, 12, .inl fn)), (so, .inl (d7, 12, .inl (fun _ => 0))), (q2, .inl (cA3, 9, .inl (upd (upd (upd (fun _ => 0) 0 0) 1 0) 2 0)))] := hD
  refine lv_dup hx hb dX3_counted_76 rfl ?_
  refine lv_iconst (v := 3) hx hb dX3_counted_77 (by decide) ?_
  refine lv_aload_n hx hb dX3_counted_78 rfl (lv_at hl 3 rfl) ?_
  refine va_get (D := (dC, dI)) (ci := 3) (v := .ref bn) (C := RX3) (T := TX3) (N := 10) hx hb hts (by decide +kernel) hown hK hP 0 rfl rfl 7 (by decide) (hts (.fieldLink RX3 25 "ThatchRoofModel" "barn" "[I") (by decide +kernel)) (fun _ h9 => h9) rfl dX3_counted_79 ?_
  refine lv_iconst (v := 1) hx hb dX3_counted_82 (by decide) ?_
  refine va_iald hx hb hK hP 2 0 rfl rfl (vp_in_nI (n := 1) (by decide) (by decide)) dX3_counted_83 ?_
  refine lv_topi (fun x5 ex5 => ?_)
  obtain rfl : x5 = 0 := ex5
  refine va_iast hx hb hK hP hD hS 5 3 rfl rfl (vp_in_nI (n := 3) (by decide) (by decide)) dX3_counted_84 (fun H locs hP hD hS => ?_)
  have hP : va_P (dC, dI) vwCl [(hm, .inr (3, [.int th, .int 0, .ref wi, .ref co, .ref sl, .ref rn, .ref so, .ref bn, .ref sm, .ref ah])), (sm, .inr (2, [.int 0, .ref gr, .ref gt, .ref gw, .ref gk, .ref gi, .ref gp, .ref go, .ref gg, .ref gh])), (bn, .inl (d5, 3, .inl (fun _ => 0))), (rn, .inl (d6, 12, .inl fn)), (so, .inl (d7, 12, .inl (fun _ => 0))), (q2, .inl (cA3, 9, .inl (upd (upd (upd (upd (fun _ => 0) 0 0) 1 0) 2 0) 3 0)))] H := hP
  have hD : va_D A [(hm, .inr (3, [.int th, .int 0, .ref wi, .ref co, .ref sl, .ref rn, .ref so, .ref bn, .ref sm, .ref ah])), (sm, .inr (2, [.int 0, .ref gr, .ref gt, .ref gw, .ref gk, .ref gi, .ref gp, .ref go, .ref gg, .ref gh])), (bn, .inl (d5, 3, .inl (fun _ => 0))), (rn, .inl (d6, 12, .inl fn)), (so, .inl (d7, 12, .inl (fun _ => 0))), (q2, .inl (cA3, 9, .inl (upd (upd (upd (upd (fun _ => 0) 0 0) 1 0) 2 0) 3 0)))] := hD
  refine lv_dup hx hb dX3_counted_85 rfl ?_
  refine lv_iconst (v := 4) hx hb dX3_counted_86 (by decide) ?_
  refine lv_aload_n hx hb dX3_counted_87 rfl (lv_at hl 3 rfl) ?_
  refine va_get (D := (dC, dI)) (ci := 3) (v := .ref bn) (C := RX3) (T := TX3) (N := 10) hx hb hts (by decide +kernel) hown hK hP 0 rfl rfl 7 (by decide) (hts (.fieldLink RX3 25 "ThatchRoofModel" "barn" "[I") (by decide +kernel)) (fun _ h9 => h9) rfl dX3_counted_88 ?_
  refine lv_iconst (v := 2) hx hb dX3_counted_91 (by decide) ?_
  refine va_iald hx hb hK hP 2 0 rfl rfl (vp_in_nI (n := 2) (by decide) (by decide)) dX3_counted_92 ?_
  refine lv_topi (fun x6 ex6 => ?_)
  obtain rfl : x6 = 0 := ex6
  refine va_iast hx hb hK hP hD hS 5 3 rfl rfl (vp_in_nI (n := 4) (by decide) (by decide)) dX3_counted_93 (fun H locs hP hD hS => ?_)
  have hP : va_P (dC, dI) vwCl [(hm, .inr (3, [.int th, .int 0, .ref wi, .ref co, .ref sl, .ref rn, .ref so, .ref bn, .ref sm, .ref ah])), (sm, .inr (2, [.int 0, .ref gr, .ref gt, .ref gw, .ref gk, .ref gi, .ref gp, .ref go, .ref gg, .ref gh])), (bn, .inl (d5, 3, .inl (fun _ => 0))), (rn, .inl (d6, 12, .inl fn)), (so, .inl (d7, 12, .inl (fun _ => 0))), (q2, .inl (cA3, 9, .inl (upd (upd (upd (upd (upd (fun _ => 0) 0 0) 1 0) 2 0) 3 0) 4 0)))] H := hP
  have hD : va_D A [(hm, .inr (3, [.int th, .int 0, .ref wi, .ref co, .ref sl, .ref rn, .ref so, .ref bn, .ref sm, .ref ah])), (sm, .inr (2, [.int 0, .ref gr, .ref gt, .ref gw, .ref gk, .ref gi, .ref gp, .ref go, .ref gg, .ref gh])), (bn, .inl (d5, 3, .inl (fun _ => 0))), (rn, .inl (d6, 12, .inl fn)), (so, .inl (d7, 12, .inl (fun _ => 0))), (q2, .inl (cA3, 9, .inl (upd (upd (upd (upd (upd (fun _ => 0) 0 0) 1 0) 2 0) 3 0) 4 0)))] := hD
  refine lv_dup hx hb dX3_counted_94 rfl ?_
  refine lv_iconst (v := 5) hx hb dX3_counted_95 (by decide) ?_
  refine lv_iload_n hx hb dX3_counted_96 rfl (lv_at hl 2 rfl) ?_
  refine va_iast hx hb hK hP hD hS 5 3 rfl rfl (vp_in_nI (n := 5) (by decide) (by decide)) dX3_counted_97 (fun H locs hP hD hS => ?_)
  have hP : va_P (dC, dI) vwCl [(hm, .inr (3, [.int th, .int 0, .ref wi, .ref co, .ref sl, .ref rn, .ref so, .ref bn, .ref sm, .ref ah])), (sm, .inr (2, [.int 0, .ref gr, .ref gt, .ref gw, .ref gk, .ref gi, .ref gp, .ref go, .ref gg, .ref gh])), (bn, .inl (d5, 3, .inl (fun _ => 0))), (rn, .inl (d6, 12, .inl fn)), (so, .inl (d7, 12, .inl (fun _ => 0))), (q2, .inl (cA3, 9, .inl (upd (upd (upd (upd (upd (upd (fun _ => 0) 0 0) 1 0) 2 0) 3 0) 4 0) 5 0)))] H := hP
  have hD : va_D A [(hm, .inr (3, [.int th, .int 0, .ref wi, .ref co, .ref sl, .ref rn, .ref so, .ref bn, .ref sm, .ref ah])), (sm, .inr (2, [.int 0, .ref gr, .ref gt, .ref gw, .ref gk, .ref gi, .ref gp, .ref go, .ref gg, .ref gh])), (bn, .inl (d5, 3, .inl (fun _ => 0))), (rn, .inl (d6, 12, .inl fn)), (so, .inl (d7, 12, .inl (fun _ => 0))), (q2, .inl (cA3, 9, .inl (upd (upd (upd (upd (upd (upd (fun _ => 0) 0 0) 1 0) 2 0) 3 0) 4 0) 5 0)))] := hD
  refine lv_dup hx hb dX3_counted_98 rfl ?_
  refine lv_bipush (v := 6) hx hb dX3_counted_99 (by decide) ?_
  refine lv_iload_n hx hb dX3_counted_101 rfl (lv_at hl 1 rfl) ?_
  refine va_iast hx hb hK hP hD hS 5 3 rfl rfl (vp_in_nI (n := 6) (by decide) (by decide)) dX3_counted_102 (fun H locs hP hD hS => ?_)
  have hP : va_P (dC, dI) vwCl [(hm, .inr (3, [.int th, .int 0, .ref wi, .ref co, .ref sl, .ref rn, .ref so, .ref bn, .ref sm, .ref ah])), (sm, .inr (2, [.int 0, .ref gr, .ref gt, .ref gw, .ref gk, .ref gi, .ref gp, .ref go, .ref gg, .ref gh])), (bn, .inl (d5, 3, .inl (fun _ => 0))), (rn, .inl (d6, 12, .inl fn)), (so, .inl (d7, 12, .inl (fun _ => 0))), (q2, .inl (cA3, 9, .inl (upd (upd (upd (upd (upd (upd (upd (fun _ => 0) 0 0) 1 0) 2 0) 3 0) 4 0) 5 0) 6 0)))] H := hP
  have hD : va_D A [(hm, .inr (3, [.int th, .int 0, .ref wi, .ref co, .ref sl, .ref rn, .ref so, .ref bn, .ref sm, .ref ah])), (sm, .inr (2, [.int 0, .ref gr, .ref gt, .ref gw, .ref gk, .ref gi, .ref gp, .ref go, .ref gg, .ref gh])), (bn, .inl (d5, 3, .inl (fun _ => 0))), (rn, .inl (d6, 12, .inl fn)), (so, .inl (d7, 12, .inl (fun _ => 0))), (q2, .inl (cA3, 9, .inl (upd (upd (upd (upd (upd (upd (upd (fun _ => 0) 0 0) 1 0) 2 0) 3 0) 4 0) 5 0) 6 0)))] := hD
  refine lv_dup hx hb dX3_counted_103 rfl ?_
  refine lv_bipush (v := 7) hx hb dX3_counted_104 (by decide) ?_
  refine lv_aload_n hx hb dX3_counted_106 rfl (lv_at hl 3 rfl) ?_
  refine va_get (D := (dC, dI)) (ci := 3) (v := .ref rn) (C := RX3) (T := TX3) (N := 10) hx hb hts (by decide +kernel) hown hK hP 0 rfl rfl 5 (by decide) (hts (.fieldLink RX3 19 "ThatchRoofModel" "rain" "[I") (by decide +kernel)) (fun _ h9 => h9) rfl dX3_counted_107 ?_
  refine lv_aload_n hx hb dX3_counted_110 rfl (lv_at hl 3 rfl) ?_
  refine va_get (D := (dC, dI)) (ci := 3) (v := .ref sm) (C := RX3) (T := TX3) (N := 10) hx hb hts (by decide +kernel) hown hK hP 0 rfl rfl 8 (by decide) (hts (.fieldLink RX3 33 "ThatchRoofModel" "s" "LThatchRoofModel$State;") (by decide +kernel)) (fun _ h9 => h9) rfl dX3_counted_111 ?_
  refine va_getN (D := (dC, dI)) (ci := 2) (v := .int 0) (C := RX2) (T := TX2) (N := 10) hx hb hts (by decide +kernel) hown hK hP 1 rfl rfl 0 (by decide) (va_Nw.use rfl (zN_RX3_128 hZN)) (fun _ h9 => h9) rfl dX3_counted_114 ?_
  refine lv_bipush (v := 12) hx hb dX3_counted_117 (by decide) ?_
  refine lv_irem hx hb dX3_counted_119 (by decide) ?_
  refine W.eq (g2 := F0 m 120 ls [.int 0, .ref rn, .int 7, .ref q2, .ref q2]) rfl ?_
  refine va_iald hx hb hK hP 3 1 rfl rfl (vp_in_nI (n := 0) (by decide) (by decide)) dX3_counted_120 ?_
  refine lv_topi (fun x7 ex7 => ?_)
  obtain rfl : x7 = 4 := ex7.trans (hrn 0 (by decide))
  refine va_iast hx hb hK hP hD hS 5 3 rfl rfl (vp_in_nI (n := 7) (by decide) (by decide)) dX3_counted_121 (fun H locs hP hD hS => ?_)
  have hP : va_P (dC, dI) vwCl [(hm, .inr (3, [.int th, .int 0, .ref wi, .ref co, .ref sl, .ref rn, .ref so, .ref bn, .ref sm, .ref ah])), (sm, .inr (2, [.int 0, .ref gr, .ref gt, .ref gw, .ref gk, .ref gi, .ref gp, .ref go, .ref gg, .ref gh])), (bn, .inl (d5, 3, .inl (fun _ => 0))), (rn, .inl (d6, 12, .inl fn)), (so, .inl (d7, 12, .inl (fun _ => 0))), (q2, .inl (cA3, 9, .inl (upd (upd (upd (upd (upd (upd (upd (upd (fun _ => 0) 0 0) 1 0) 2 0) 3 0) 4 0) 5 0) 6 0) 7 4)))] H := hP
  have hD : va_D A [(hm, .inr (3, [.int th, .int 0, .ref wi, .ref co, .ref sl, .ref rn, .ref so, .ref bn, .ref sm, .ref ah])), (sm, .inr (2, [.int 0, .ref gr, .ref gt, .ref gw, .ref gk, .ref gi, .ref gp, .ref go, .ref gg, .ref gh])), (bn, .inl (d5, 3, .inl (fun _ => 0))), (rn, .inl (d6, 12, .inl fn)), (so, .inl (d7, 12, .inl (fun _ => 0))), (q2, .inl (cA3, 9, .inl (upd (upd (upd (upd (upd (upd (upd (upd (fun _ => 0) 0 0) 1 0) 2 0) 3 0) 4 0) 5 0) 6 0) 7 4)))] := hD
  refine lv_dup hx hb dX3_counted_122 rfl ?_
  refine lv_bipush (v := 8) hx hb dX3_counted_123 (by decide) ?_
  refine lv_aload_n hx hb dX3_counted_125 rfl (lv_at hl 3 rfl) ?_
  refine va_get (D := (dC, dI)) (ci := 3) (v := .ref so) (C := RX3) (T := TX3) (N := 10) hx hb hts (by decide +kernel) hown hK hP 0 rfl rfl 6 (by decide) (hts (.fieldLink RX3 22 "ThatchRoofModel" "storm" "[I") (by decide +kernel)) (fun _ h9 => h9) rfl dX3_counted_126 ?_
  refine lv_aload_n hx hb dX3_counted_129 rfl (lv_at hl 3 rfl) ?_
  refine va_get (D := (dC, dI)) (ci := 3) (v := .ref sm) (C := RX3) (T := TX3) (N := 10) hx hb hts (by decide +kernel) hown hK hP 0 rfl rfl 8 (by decide) (hts (.fieldLink RX3 33 "ThatchRoofModel" "s" "LThatchRoofModel$State;") (by decide +kernel)) (fun _ h9 => h9) rfl dX3_counted_130 ?_
  refine va_getN (D := (dC, dI)) (ci := 2) (v := .int 0) (C := RX2) (T := TX2) (N := 10) hx hb hts (by decide +kernel) hown hK hP 1 rfl rfl 0 (by decide) (va_Nw.use rfl (zN_RX3_128 hZN)) (fun _ h9 => h9) rfl dX3_counted_133 ?_
  refine lv_bipush (v := 12) hx hb dX3_counted_136 (by decide) ?_
  refine lv_irem hx hb dX3_counted_138 (by decide) ?_
  refine W.eq (g2 := F0 m 139 ls [.int 0, .ref so, .int 8, .ref q2, .ref q2]) rfl ?_
  refine va_iald hx hb hK hP 4 2 rfl rfl (vp_in_nI (n := 0) (by decide) (by decide)) dX3_counted_139 ?_
  refine lv_topi (fun x8 ex8 => ?_)
  obtain rfl : x8 = 0 := ex8
  refine va_iast hx hb hK hP hD hS 5 3 rfl rfl (vp_in_nI (n := 8) (by decide) (by decide)) dX3_counted_140 (fun H locs hP hD hS => ?_)
  have hP : va_P (dC, dI) vwCl [(hm, .inr (3, [.int th, .int 0, .ref wi, .ref co, .ref sl, .ref rn, .ref so, .ref bn, .ref sm, .ref ah])), (sm, .inr (2, [.int 0, .ref gr, .ref gt, .ref gw, .ref gk, .ref gi, .ref gp, .ref go, .ref gg, .ref gh])), (bn, .inl (d5, 3, .inl (fun _ => 0))), (rn, .inl (d6, 12, .inl fn)), (so, .inl (d7, 12, .inl (fun _ => 0))), (q2, .inl (cA3, 9, .inl (upd (upd (upd (upd (upd (upd (upd (upd (upd (fun _ => 0) 0 0) 1 0) 2 0) 3 0) 4 0) 5 0) 6 0) 7 4) 8 0)))] H := hP
  have hD : va_D A [(hm, .inr (3, [.int th, .int 0, .ref wi, .ref co, .ref sl, .ref rn, .ref so, .ref bn, .ref sm, .ref ah])), (sm, .inr (2, [.int 0, .ref gr, .ref gt, .ref gw, .ref gk, .ref gi, .ref gp, .ref go, .ref gg, .ref gh])), (bn, .inl (d5, 3, .inl (fun _ => 0))), (rn, .inl (d6, 12, .inl fn)), (so, .inl (d7, 12, .inl (fun _ => 0))), (q2, .inl (cA3, 9, .inl (upd (upd (upd (upd (upd (upd (upd (upd (upd (fun _ => 0) 0 0) 1 0) 2 0) 3 0) 4 0) 5 0) 6 0) 7 4) 8 0)))] := hD
  refine lv_astore (lv' := [(4, .ref q2), (3, .int 0), (2, .int 0), (0, .ref hm), (1, .int 4)]) hx hb dX3_counted_141 hl (by decide) rfl (fun ls hl => ?_)
  refine lv_aload hx hb dX3_counted_143 (lv_at hl 0 rfl) ?_
  refine lv_iload_n hx hb dX3_counted_145 rfl (lv_at hl 4 rfl) ?_
  refine va_iald hx hb hK hP 5 3 rfl rfl (vp_in_nI (n := 4) (by decide) (by decide)) dX3_counted_146 ?_
  refine lv_topi (fun x9 ex9 => ?_)
  obtain rfl : x9 = 0 := ex9
  have hP9 := hP.sub (ws' := [(hm, .inr (3, [.int th, .int 0, .ref wi, .ref co, .ref sl, .ref rn, .ref so, .ref bn, .ref sm, .ref ah])), (sm, .inr (2, [.int 0, .ref gr, .ref gt, .ref gw, .ref gk, .ref gi, .ref gp, .ref go, .ref gg, .ref gh])), (bn, .inl (d5, 3, .inl (fun _ => 0))), (rn, .inl (d6, 12, .inl fn)), (so, .inl (d7, 12, .inl (fun _ => 0)))]) [0, 1, 2, 3, 4] rfl
  have hD9 := hD.sub (ws' := [(hm, .inr (3, [.int th, .int 0, .ref wi, .ref co, .ref sl, .ref rn, .ref so, .ref bn, .ref sm, .ref ah])), (sm, .inr (2, [.int 0, .ref gr, .ref gt, .ref gw, .ref gk, .ref gi, .ref gp, .ref go, .ref gg, .ref gh])), (bn, .inl (d5, 3, .inl (fun _ => 0))), (rn, .inl (d6, 12, .inl fn)), (so, .inl (d7, 12, .inl (fun _ => 0)))]) [0, 1, 2, 3, 4] (by decide) rfl
  have hK9 := hK.sub (tys' := []) [] rfl
  refine W.widen (k := 1) (n := 9) (Nat.le_of_ble_eq_true rfl) (Nat.le_of_ble_eq_true rfl) ?_
  exact W.iret (v := 0) hx hb hr (fun t ht hW => ⟨⟨0, (), rfl, by (first | rfl | assumption | decide | (simp_all; done) | grind), ⟨by rw [ht]; exact hP9, va_K.moved hW.alike hK9, hD9⟩⟩, hS.F ht⟩) hS.2.2 dX3_counted_147

set_option maxHeartbeats 4000000 in
set_option maxRecDepth 100000 in
theorem k3_counted5 (l : Launch) (dC : Nat → ClassId) (dI : Nat → Nat → Nat) (sz : Nat) (hm : Nat) (wi : Nat) (co : Nat) (sl : Nat) (rn : Nat) (so : Nat) (bn : Nat) (sm : Nat) (ah : Nat) (th : Int32) (gr : Nat) (gt : Nat) (gw : Nat) (gk : Nat) (gi : Nat) (gp : Nat) (go : Nat) (gg : Nat) (gh : Nat) (d5 : ClassId) (d6 : ClassId) (d7 : ClassId) (fn : Nat → Int32) (hrn : ∀ j : Nat, j < 12 → fn j = 4) : Met l yX3_counted wsX3_counted ({ frames := 0, cells := 1, slots := 9, locals := 0 }) (va_Pc [.ref hm, .int 5] (fun U => U.heap.size = sz ∧ va_P (dC, dI) vwCl [(hm, .inr (3, [.int th, .int 0, .ref wi, .ref co, .ref sl, .ref rn, .ref so, .ref bn, .ref sm, .ref ah])), (sm, .inr (2, [.int 0, .ref gr, .ref gt, .ref gw, .ref gk, .ref gi, .ref gp, .ref go, .ref gg, .ref gh])), (bn, .inl (d5, 3, .inl (fun _ => 0))), (rn, .inl (d6, 12, .inl fn)), (so, .inl (d7, 12, .inl (fun _ => 0)))] U.heap ∧ va_K (dC, dI) vwCl [(d5, .int), (d6, .int), (d7, .int)] U ∧ va_D (fun _ => True) [(hm, .inr (3, [.int th, .int 0, .ref wi, .ref co, .ref sl, .ref rn, .ref so, .ref bn, .ref sm, .ref ah])), (sm, .inr (2, [.int 0, .ref gr, .ref gt, .ref gw, .ref gk, .ref gi, .ref gp, .ref go, .ref gg, .ref gh])), (bn, .inl (d5, 3, .inl (fun _ => 0))), (rn, .inl (d6, 12, .inl fn)), (so, .inl (d7, 12, .inl (fun _ => 0)))] ∧ zNs U)) (va_Qi (fun (r : Int32) (u : Unit) => r = 0) (fun (u : Unit) (t : State) => va_P (dC, dI) vwCl [(hm, .inr (3, [.int th, .int 0, .ref wi, .ref co, .ref sl, .ref rn, .ref so, .ref bn, .ref sm, .ref ah])), (sm, .inr (2, [.int 0, .ref gr, .ref gt, .ref gw, .ref gk, .ref gi, .ref gp, .ref go, .ref gg, .ref gh])), (bn, .inl (d5, 3, .inl (fun _ => 0))), (rn, .inl (d6, 12, .inl fn)), (so, .inl (d7, 12, .inl (fun _ => 0)))] t.heap ∧ va_K (dC, dI) vwCl [] t ∧ va_D (va_A [(hm, .inr (3, [.int th, .int 0, .ref wi, .ref co, .ref sl, .ref rn, .ref so, .ref bn, .ref sm, .ref ah])), (sm, .inr (2, [.int 0, .ref gr, .ref gt, .ref gw, .ref gk, .ref gi, .ref gp, .ref go, .ref gg, .ref gh])), (bn, .inl (d5, 3, .inl (fun _ => 0))), (rn, .inl (d6, 12, .inl fn)), (so, .inl (d7, 12, .inl (fun _ => 0)))] sz) [(hm, .inr (3, [.int th, .int 0, .ref wi, .ref co, .ref sl, .ref rn, .ref so, .ref bn, .ref sm, .ref ah])), (sm, .inr (2, [.int 0, .ref gr, .ref gt, .ref gw, .ref gk, .ref gi, .ref gp, .ref go, .ref gg, .ref gh])), (bn, .inl (d5, 3, .inl (fun _ => 0))), (rn, .inl (d6, 12, .inl fn)), (so, .inl (d7, 12, .inl (fun _ => 0)))]) (va_A [(hm, .inr (3, [.int th, .int 0, .ref wi, .ref co, .ref sl, .ref rn, .ref so, .ref bn, .ref sm, .ref ah])), (sm, .inr (2, [.int 0, .ref gr, .ref gt, .ref gw, .ref gk, .ref gi, .ref gp, .ref go, .ref gg, .ref gh])), (bn, .inl (d5, 3, .inl (fun _ => 0))), (rn, .inl (d6, 12, .inl fn)), (so, .inl (d7, 12, .inl (fun _ => 0)))] sz)) 1 9 (va_A [(hm, .inr (3, [.int th, .int 0, .ref wi, .ref co, .ref sl, .ref rn, .ref so, .ref bn, .ref sm, .ref ah])), (sm, .inr (2, [.int 0, .ref gr, .ref gt, .ref gw, .ref gk, .ref gi, .ref gp, .ref go, .ref gg, .ref gh])), (bn, .inl (d5, 3, .inl (fun _ => 0))), (rn, .inl (d6, 12, .inl fn)), (so, .inl (d7, 12, .inl (fun _ => 0)))] sz) := by
  refine Met.ofW (cc := cX3_counted) (maxL := 5) (ret := (some .int)) (by decide) rfl ?_
  intro p e s m args below meth c s₁ B hml hv
  obtain ⟨rfl, hsz, hP, hK, hD0, hZN⟩ := hv
  have hx := B.exec
  have hb := B.bytes
  have hr := B.returns
  have hts := atoms_spec (ws := wsX3_counted) B.pre
  have hown : s.vm.findClass RX3 = some m.cls := findClass_of_methodNamed B.named
  have hlocks := B.notSynchronized
  subst hsz
  have hD := hD0.self (sz := s.heap.size)
  generalize hAe : va_A [(hm, .inr (3, [.int th, .int 0, .ref wi, .ref co, .ref sl, .ref rn, .ref so, .ref bn, .ref sm, .ref ah])), (sm, .inr (2, [.int 0, .ref gr, .ref gt, .ref gw, .ref gk, .ref gi, .ref gp, .ref go, .ref gg, .ref gh])), (bn, .inl (d5, 3, .inl (fun _ => 0))), (rn, .inl (d6, 12, .inl fn)), (so, .inl (d7, 12, .inl (fun _ => 0)))] s.heap.size = A at hD ⊢
  have hA : ∀ q : Nat, s.heap.size ≤ q → A q := fun q h => by rw [← hAe]; exact Or.inr h
  have hS : va_S A s.heap s.heap [] := va_S.rf
  have hP : va_P (dC, dI) vwCl [(hm, .inr (3, [.int th, .int 0, .ref wi, .ref co, .ref sl, .ref rn, .ref so, .ref bn, .ref sm, .ref ah])), (sm, .inr (2, [.int 0, .ref gr, .ref gt, .ref gw, .ref gk, .ref gi, .ref gp, .ref go, .ref gg, .ref gh])), (bn, .inl (d5, 3, .inl (fun _ => 0))), (rn, .inl (d6, 12, .inl fn)), (so, .inl (d7, 12, .inl (fun _ => 0)))] s.heap := hP
  have hl := lv_entry ([.ref hm, .int 5]) (n := 5) (Nat.le_of_ble_eq_true rfl)
  rw [lg_entry_eq]
  generalize (lg_sl ([.ref hm, .int 5]) ++ List.replicate (5 - (lg_sl ([.ref hm, .int 5])).length) Slot.unset).toArray = ls at hl ⊢
  have hl : lv_has ls 5 [(0, .ref hm), (1, .int 5)] := hl
  refine lv_iconst (v := 0) hx hb dX3_counted_0 (by decide) ?_
  refine lv_istore_n (lv' := [(2, .int 0), (0, .ref hm), (1, .int 5)]) hx hb dX3_counted_1 rfl hl (by decide) rfl (fun ls hl => ?_)
  refine lv_iconst (v := 0) hx hb dX3_counted_2 (by decide) ?_
  refine lv_istore_n (lv' := [(3, .int 0), (2, .int 0), (0, .ref hm), (1, .int 5)]) hx hb dX3_counted_3 rfl hl (by decide) rfl (fun ls hl => ?_)
  refine lv_iconst (v := 0) hx hb dX3_counted_4 (by decide) ?_
  refine lv_istore (lv' := [(4, .int 0), (3, .int 0), (2, .int 0), (0, .ref hm), (1, .int 5)]) hx hb dX3_counted_5 hl (by decide) rfl (fun ls hl => ?_)
  refine lv_iload hx hb dX3_counted_7 (lv_at hl 0 rfl) ?_
  refine lv_aload_n hx hb dX3_counted_9 rfl (lv_at hl 3 rfl) ?_
  refine va_get (D := (dC, dI)) (ci := 3) (v := .int 0) (C := RX3) (T := TX3) (N := 10) hx hb hts (by decide +kernel) hown hK hP 0 rfl rfl 1 (by decide) (hts (.fieldLink RX3 44 "ThatchRoofModel" "roofs" "I") (by decide +kernel)) (fun _ h9 => h9) rfl dX3_counted_10 ?_
  refine lv_icmp_ge (tgt := 46) hx hb dX3_counted_13 (by decide) (fun c1 => ?_) (fun c1 => absurd c1 (by decide))
  refine lv_bipush (v := 9) hx hb dX3_counted_46 (by decide) ?_
  refine va_newa (atype := .int) (ty := .int) (N' := 9) (a0 := (9, .inl (fun _ => 0))) hx hb (hts (.arrayClass .int) (by decide +kernel)) rfl hK hP hD hS hA (fun _ => rfl) (by decide) (by decide) (by decide) (Nat.le_of_ble_eq_true rfl) (Nat.le_of_ble_eq_true rfl) dX3_counted_48 (fun q2 cA3 H hK hP hD hS => ?_)
  refine W.widen (k := 1) (n := 9) (Nat.le_of_ble_eq_true rfl) (Nat.le_of_ble_eq_true rfl) ?_
  have hK : va_K (dC, dI) vwCl [(d5, .int), (d6, .int), (d7, .int), (cA3, .int)] s := hK
  have hP : va_P (dC, dI) vwCl [(hm, .inr (3, [.int th, .int 0, .ref wi, .ref co, .ref sl, .ref rn, .ref so, .ref bn, .ref sm, .ref ah])), (sm, .inr (2, [.int 0, .ref gr, .ref gt, .ref gw, .ref gk, .ref gi, .ref gp, .ref go, .ref gg, .ref gh])), (bn, .inl (d5, 3, .inl (fun _ => 0))), (rn, .inl (d6, 12, .inl fn)), (so, .inl (d7, 12, .inl (fun _ => 0))), (q2, .inl (cA3, 9, .inl (fun _ => 0)))] H := hP
  have hD : va_D A [(hm, .inr (3, [.int th, .int 0, .ref wi, .ref co, .ref sl, .ref rn, .ref so, .ref bn, .ref sm, .ref ah])), (sm, .inr (2, [.int 0, .ref gr, .ref gt, .ref gw, .ref gk, .ref gi, .ref gp, .ref go, .ref gg, .ref gh])), (bn, .inl (d5, 3, .inl (fun _ => 0))), (rn, .inl (d6, 12, .inl fn)), (so, .inl (d7, 12, .inl (fun _ => 0))), (q2, .inl (cA3, 9, .inl (fun _ => 0)))] := hD
  refine lv_dup hx hb dX3_counted_50 rfl ?_
  refine lv_iconst (v := 0) hx hb dX3_counted_51 (by decide) ?_
  refine lv_aload_n hx hb dX3_counted_52 rfl (lv_at hl 3 rfl) ?_
  refine va_get (D := (dC, dI)) (ci := 3) (v := .ref sm) (C := RX3) (T := TX3) (N := 10) hx hb hts (by decide +kernel) hown hK hP 0 rfl rfl 8 (by decide) (hts (.fieldLink RX3 33 "ThatchRoofModel" "s" "LThatchRoofModel$State;") (by decide +kernel)) (fun _ h9 => h9) rfl dX3_counted_53 ?_
  refine va_getN (D := (dC, dI)) (ci := 2) (v := .int 0) (C := RX2) (T := TX2) (N := 10) hx hb hts (by decide +kernel) hown hK hP 1 rfl rfl 0 (by decide) (va_Nw.use rfl (zN_RX3_128 hZN)) (fun _ h9 => h9) rfl dX3_counted_56 ?_
  refine va_iast hx hb hK hP hD hS 5 3 rfl rfl (vp_in_nI (n := 0) (by decide) (by decide)) dX3_counted_59 (fun H locs hP hD hS => ?_)
  have hP : va_P (dC, dI) vwCl [(hm, .inr (3, [.int th, .int 0, .ref wi, .ref co, .ref sl, .ref rn, .ref so, .ref bn, .ref sm, .ref ah])), (sm, .inr (2, [.int 0, .ref gr, .ref gt, .ref gw, .ref gk, .ref gi, .ref gp, .ref go, .ref gg, .ref gh])), (bn, .inl (d5, 3, .inl (fun _ => 0))), (rn, .inl (d6, 12, .inl fn)), (so, .inl (d7, 12, .inl (fun _ => 0))), (q2, .inl (cA3, 9, .inl (upd (fun _ => 0) 0 0)))] H := hP
  have hD : va_D A [(hm, .inr (3, [.int th, .int 0, .ref wi, .ref co, .ref sl, .ref rn, .ref so, .ref bn, .ref sm, .ref ah])), (sm, .inr (2, [.int 0, .ref gr, .ref gt, .ref gw, .ref gk, .ref gi, .ref gp, .ref go, .ref gg, .ref gh])), (bn, .inl (d5, 3, .inl (fun _ => 0))), (rn, .inl (d6, 12, .inl fn)), (so, .inl (d7, 12, .inl (fun _ => 0))), (q2, .inl (cA3, 9, .inl (upd (fun _ => 0) 0 0)))] := hD
  refine lv_dup hx hb dX3_counted_60 rfl ?_
  refine lv_iconst (v := 1) hx hb dX3_counted_61 (by decide) ?_
  refine lv_aload_n hx hb dX3_counted_62 rfl (lv_at hl 3 rfl) ?_
  refine va_get (D := (dC, dI)) (ci := 3) (v := .int 0) (C := RX3) (T := TX3) (N := 10) hx hb hts (by decide +kernel) hown hK hP 0 rfl rfl 1 (by decide) (hts (.fieldLink RX3 44 "ThatchRoofModel" "roofs" "I") (by decide +kernel)) (fun _ h9 => h9) rfl dX3_counted_63 ?_
  refine va_iast hx hb hK hP hD hS 5 3 rfl rfl (vp_in_nI (n := 1) (by decide) (by decide)) dX3_counted_66 (fun H locs hP hD hS => ?_)
  have hP : va_P (dC, dI) vwCl [(hm, .inr (3, [.int th, .int 0, .ref wi, .ref co, .ref sl, .ref rn, .ref so, .ref bn, .ref sm, .ref ah])), (sm, .inr (2, [.int 0, .ref gr, .ref gt, .ref gw, .ref gk, .ref gi, .ref gp, .ref go, .ref gg, .ref gh])), (bn, .inl (d5, 3, .inl (fun _ => 0))), (rn, .inl (d6, 12, .inl fn)), (so, .inl (d7, 12, .inl (fun _ => 0))), (q2, .inl (cA3, 9, .inl (upd (upd (fun _ => 0) 0 0) 1 0)))] H := hP
  have hD : va_D A [(hm, .inr (3, [.int th, .int 0, .ref wi, .ref co, .ref sl, .ref rn, .ref so, .ref bn, .ref sm, .ref ah])), (sm, .inr (2, [.int 0, .ref gr, .ref gt, .ref gw, .ref gk, .ref gi, .ref gp, .ref go, .ref gg, .ref gh])), (bn, .inl (d5, 3, .inl (fun _ => 0))), (rn, .inl (d6, 12, .inl fn)), (so, .inl (d7, 12, .inl (fun _ => 0))), (q2, .inl (cA3, 9, .inl (upd (upd (fun _ => 0) 0 0) 1 0)))] := hD
  refine lv_dup hx hb dX3_counted_67 rfl ?_
  refine lv_iconst (v := 2) hx hb dX3_counted_68 (by decide) ?_
  refine lv_aload_n hx hb dX3_counted_69 rfl (lv_at hl 3 rfl) ?_
  refine va_get (D := (dC, dI)) (ci := 3) (v := .ref bn) (C := RX3) (T := TX3) (N := 10) hx hb hts (by decide +kernel) hown hK hP 0 rfl rfl 7 (by decide) (hts (.fieldLink RX3 25 "ThatchRoofModel" "barn" "[I") (by decide +kernel)) (fun _ h9 => h9) rfl dX3_counted_70 ?_
  refine lv_iconst (v := 0) hx hb dX3_counted_73 (by decide) ?_
  refine va_iald hx hb hK hP 2 0 rfl rfl (vp_in_nI (n := 0) (by decide) (by decide)) dX3_counted_74 ?_
  refine lv_topi (fun x4 ex4 => ?_)
  obtain rfl : x4 = 0 := ex4
  refine va_iast hx hb hK hP hD hS 5 3 rfl rfl (vp_in_nI (n := 2) (by decide) (by decide)) dX3_counted_75 (fun H locs hP hD hS => ?_)
  have hP : va_P (dC, dI) vwCl [(hm, .inr (3, [.int th, .int 0, .ref wi, .ref co, .ref sl, .ref rn, .ref so, .ref bn, .ref sm, .ref ah])), (sm, .inr (2, [.int 0, .ref gr, .ref gt, .ref gw, .ref gk, .ref gi, .ref gp, .ref go, .ref gg, .ref gh])), (bn, .inl (d5, 3, .inl (fun _ => 0))), (rn, .inl (d6, 12, .inl fn)), (so, .inl (d7, 12, .inl (fun _ => 0))), (q2, .inl (cA3, 9, .inl (upd (upd (upd (fun _ => 0) 0 0) 1 0) 2 0)))] H := hP
  have hD : va_D A [(hm, .inr (3, [.int th, .int 0, .ref wi, .ref co, .ref sl, .ref rn, .ref so, .ref bn, .ref sm, .ref ah])), (sm, .inr (2, [.int 0, .ref gr, .ref gt, .ref gw, .ref gk, .ref gi, .ref gp, .ref go, .ref gg, .ref gh])), (bn, .inl (d5, 3, .inl (fun _ => 0))), (rn, .inl (d6, 12, .inl fn)), (so, .inl (d7, 12, .inl (fun _ => 0))), (q2, .inl (cA3, 9, .inl (upd (upd (upd (fun _ => 0) 0 0) 1 0) 2 0)))] := hD
  refine lv_dup hx hb dX3_counted_76 rfl ?_
  refine lv_iconst (v := 3) hx hb dX3_counted_77 (by decide) ?_
  refine lv_aload_n hx hb dX3_counted_78 rfl (lv_at hl 3 rfl) ?_
  refine va_get (D := (dC, dI)) (ci := 3) (v := .ref bn) (C := RX3) (T := TX3) (N := 10) hx hb hts (by decide +kernel) hown hK hP 0 rfl rfl 7 (by decide) (hts (.fieldLink RX3 25 "ThatchRoofModel" "barn" "[I") (by decide +kernel)) (fun _ h9 => h9) rfl dX3_counted_79 ?_
  refine lv_iconst (v := 1) hx hb dX3_counted_82 (by decide) ?_
  refine va_iald hx hb hK hP 2 0 rfl rfl (vp_in_nI (n := 1) (by decide) (by decide)) dX3_counted_83 ?_
  refine lv_topi (fun x5 ex5 => ?_)
  obtain rfl : x5 = 0 := ex5
  refine va_iast hx hb hK hP hD hS 5 3 rfl rfl (vp_in_nI (n := 3) (by decide) (by decide)) dX3_counted_84 (fun H locs hP hD hS => ?_)
  have hP : va_P (dC, dI) vwCl [(hm, .inr (3, [.int th, .int 0, .ref wi, .ref co, .ref sl, .ref rn, .ref so, .ref bn, .ref sm, .ref ah])), (sm, .inr (2, [.int 0, .ref gr, .ref gt, .ref gw, .ref gk, .ref gi, .ref gp, .ref go, .ref gg, .ref gh])), (bn, .inl (d5, 3, .inl (fun _ => 0))), (rn, .inl (d6, 12, .inl fn)), (so, .inl (d7, 12, .inl (fun _ => 0))), (q2, .inl (cA3, 9, .inl (upd (upd (upd (upd (fun _ => 0) 0 0) 1 0) 2 0) 3 0)))] H := hP
  have hD : va_D A [(hm, .inr (3, [.int th, .int 0, .ref wi, .ref co, .ref sl, .ref rn, .ref so, .ref bn, .ref sm, .ref ah])), (sm, .inr (2, [.int 0, .ref gr, .ref gt, .ref gw, .ref gk, .ref gi, .ref gp, .ref go, .ref gg, .ref gh])), (bn, .inl (d5, 3, .inl (fun _ => 0))), (rn, .inl (d6, 12, .inl fn)), (so, .inl (d7, 12, .inl (fun _ => 0))), (q2, .inl (cA3, 9, .inl (upd (upd (upd (upd (fun _ => 0) 0 0) 1 0) 2 0) 3 0)))] := hD
  refine lv_dup hx hb dX3_counted_85 rfl ?_
  refine lv_iconst (v := 4) hx hb dX3_counted_86 (by decide) ?_
  refine lv_aload_n hx hb dX3_counted_87 rfl (lv_at hl 3 rfl) ?_
  refine va_get (D := (dC, dI)) (ci := 3) (v := .ref bn) (C := RX3) (T := TX3) (N := 10) hx hb hts (by decide +kernel) hown hK hP 0 rfl rfl 7 (by decide) (hts (.fieldLink RX3 25 "ThatchRoofModel" "barn" "[I") (by decide +kernel)) (fun _ h9 => h9) rfl dX3_counted_88 ?_
  refine lv_iconst (v := 2) hx hb dX3_counted_91 (by decide) ?_
  refine va_iald hx hb hK hP 2 0 rfl rfl (vp_in_nI (n := 2) (by decide) (by decide)) dX3_counted_92 ?_
  refine lv_topi (fun x6 ex6 => ?_)
  obtain rfl : x6 = 0 := ex6
  refine va_iast hx hb hK hP hD hS 5 3 rfl rfl (vp_in_nI (n := 4) (by decide) (by decide)) dX3_counted_93 (fun H locs hP hD hS => ?_)
  have hP : va_P (dC, dI) vwCl [(hm, .inr (3, [.int th, .int 0, .ref wi, .ref co, .ref sl, .ref rn, .ref so, .ref bn, .ref sm, .ref ah])), (sm, .inr (2, [.int 0, .ref gr, .ref gt, .ref gw, .ref gk, .ref gi, .ref gp, .ref go, .ref gg, .ref gh])), (bn, .inl (d5, 3, .inl (fun _ => 0))), (rn, .inl (d6, 12, .inl fn)), (so, .inl (d7, 12, .inl (fun _ => 0))), (q2, .inl (cA3, 9, .inl (upd (upd (upd (upd (upd (fun _ => 0) 0 0) 1 0) 2 0) 3 0) 4 0)))] H := hP
  have hD : va_D A [(hm, .inr (3, [.int th, .int 0, .ref wi, .ref co, .ref sl, .ref rn, .ref so, .ref bn, .ref sm, .ref ah])), (sm, .inr (2, [.int 0, .ref gr, .ref gt, .ref gw, .ref gk, .ref gi, .ref gp, .ref go, .ref gg, .ref gh])), (bn, .inl (d5, 3, .inl (fun _ => 0))), (rn, .inl (d6, 12, .inl fn)), (so, .inl (d7, 12, .inl (fun _ => 0))), (q2, .inl (cA3, 9, .inl (upd (upd (upd (upd (upd (fun _ => 0) 0 0) 1 0) 2 0) 3 0) 4 0)))] := hD
  refine lv_dup hx hb dX3_counted_94 rfl ?_
  refine lv_iconst (v := 5) hx hb dX3_counted_95 (by decide) ?_
  refine lv_iload_n hx hb dX3_counted_96 rfl (lv_at hl 2 rfl) ?_
  refine va_iast hx hb hK hP hD hS 5 3 rfl rfl (vp_in_nI (n := 5) (by decide) (by decide)) dX3_counted_97 (fun H locs hP hD hS => ?_)
  have hP : va_P (dC, dI) vwCl [(hm, .inr (3, [.int th, .int 0, .ref wi, .ref co, .ref sl, .ref rn, .ref so, .ref bn, .ref sm, .ref ah])), (sm, .inr (2, [.int 0, .ref gr, .ref gt, .ref gw, .ref gk, .ref gi, .ref gp, .ref go, .ref gg, .ref gh])), (bn, .inl (d5, 3, .inl (fun _ => 0))), (rn, .inl (d6, 12, .inl fn)), (so, .inl (d7, 12, .inl (fun _ => 0))), (q2, .inl (cA3, 9, .inl (upd (upd (upd (upd (upd (upd (fun _ => 0) 0 0) 1 0) 2 0) 3 0) 4 0) 5 0)))] H := hP
  have hD : va_D A [(hm, .inr (3, [.int th, .int 0, .ref wi, .ref co, .ref sl, .ref rn, .ref so, .ref bn, .ref sm, .ref ah])), (sm, .inr (2, [.int 0, .ref gr, .ref gt, .ref gw, .ref gk, .ref gi, .ref gp, .ref go, .ref gg, .ref gh])), (bn, .inl (d5, 3, .inl (fun _ => 0))), (rn, .inl (d6, 12, .inl fn)), (so, .inl (d7, 12, .inl (fun _ => 0))), (q2, .inl (cA3, 9, .inl (upd (upd (upd (upd (upd (upd (fun _ => 0) 0 0) 1 0) 2 0) 3 0) 4 0) 5 0)))] := hD
  refine lv_dup hx hb dX3_counted_98 rfl ?_
  refine lv_bipush (v := 6) hx hb dX3_counted_99 (by decide) ?_
  refine lv_iload_n hx hb dX3_counted_101 rfl (lv_at hl 1 rfl) ?_
  refine va_iast hx hb hK hP hD hS 5 3 rfl rfl (vp_in_nI (n := 6) (by decide) (by decide)) dX3_counted_102 (fun H locs hP hD hS => ?_)
  have hP : va_P (dC, dI) vwCl [(hm, .inr (3, [.int th, .int 0, .ref wi, .ref co, .ref sl, .ref rn, .ref so, .ref bn, .ref sm, .ref ah])), (sm, .inr (2, [.int 0, .ref gr, .ref gt, .ref gw, .ref gk, .ref gi, .ref gp, .ref go, .ref gg, .ref gh])), (bn, .inl (d5, 3, .inl (fun _ => 0))), (rn, .inl (d6, 12, .inl fn)), (so, .inl (d7, 12, .inl (fun _ => 0))), (q2, .inl (cA3, 9, .inl (upd (upd (upd (upd (upd (upd (upd (fun _ => 0) 0 0) 1 0) 2 0) 3 0) 4 0) 5 0) 6 0)))] H := hP
  have hD : va_D A [(hm, .inr (3, [.int th, .int 0, .ref wi, .ref co, .ref sl, .ref rn, .ref so, .ref bn, .ref sm, .ref ah])), (sm, .inr (2, [.int 0, .ref gr, .ref gt, .ref gw, .ref gk, .ref gi, .ref gp, .ref go, .ref gg, .ref gh])), (bn, .inl (d5, 3, .inl (fun _ => 0))), (rn, .inl (d6, 12, .inl fn)), (so, .inl (d7, 12, .inl (fun _ => 0))), (q2, .inl (cA3, 9, .inl (upd (upd (upd (upd (upd (upd (upd (fun _ => 0) 0 0) 1 0) 2 0) 3 0) 4 0) 5 0) 6 0)))] := hD
  refine lv_dup hx hb dX3_counted_103 rfl ?_
  refine lv_bipush (v := 7) hx hb dX3_counted_104 (by decide) ?_
  refine lv_aload_n hx hb dX3_counted_106 rfl (lv_at hl 3 rfl) ?_
  refine va_get (D := (dC, dI)) (ci := 3) (v := .ref rn) (C := RX3) (T := TX3) (N := 10) hx hb hts (by decide +kernel) hown hK hP 0 rfl rfl 5 (by decide) (hts (.fieldLink RX3 19 "ThatchRoofModel" "rain" "[I") (by decide +kernel)) (fun _ h9 => h9) rfl dX3_counted_107 ?_
  refine lv_aload_n hx hb dX3_counted_110 rfl (lv_at hl 3 rfl) ?_
  refine va_get (D := (dC, dI)) (ci := 3) (v := .ref sm) (C := RX3) (T := TX3) (N := 10) hx hb hts (by decide +kernel) hown hK hP 0 rfl rfl 8 (by decide) (hts (.fieldLink RX3 33 "ThatchRoofModel" "s" "LThatchRoofModel$State;") (by decide +kernel)) (fun _ h9 => h9) rfl dX3_counted_111 ?_
  refine va_getN (D := (dC, dI)) (ci := 2) (v := .int 0) (C := RX2) (T := TX2) (N := 10) hx hb hts (by decide +kernel) hown hK hP 1 rfl rfl 0 (by decide) (va_Nw.use rfl (zN_RX3_128 hZN)) (fun _ h9 => h9) rfl dX3_counted_114 ?_
  refine lv_bipush (v := 12) hx hb dX3_counted_117 (by decide) ?_
  refine lv_irem hx hb dX3_counted_119 (by decide) ?_
  refine W.eq (g2 := F0 m 120 ls [.int 0, .ref rn, .int 7, .ref q2, .ref q2]) rfl ?_
  refine va_iald hx hb hK hP 3 1 rfl rfl (vp_in_nI (n := 0) (by decide) (by decide)) dX3_counted_120 ?_
  refine lv_topi (fun x7 ex7 => ?_)
  obtain rfl : x7 = 4 := ex7.trans (hrn 0 (by decide))
  refine va_iast hx hb hK hP hD hS 5 3 rfl rfl (vp_in_nI (n := 7) (by decide) (by decide)) dX3_counted_121 (fun H locs hP hD hS => ?_)
  have hP : va_P (dC, dI) vwCl [(hm, .inr (3, [.int th, .int 0, .ref wi, .ref co, .ref sl, .ref rn, .ref so, .ref bn, .ref sm, .ref ah])), (sm, .inr (2, [.int 0, .ref gr, .ref gt, .ref gw, .ref gk, .ref gi, .ref gp, .ref go, .ref gg, .ref gh])), (bn, .inl (d5, 3, .inl (fun _ => 0))), (rn, .inl (d6, 12, .inl fn)), (so, .inl (d7, 12, .inl (fun _ => 0))), (q2, .inl (cA3, 9, .inl (upd (upd (upd (upd (upd (upd (upd (upd (fun _ => 0) 0 0) 1 0) 2 0) 3 0) 4 0) 5 0) 6 0) 7 4)))] H := hP
  have hD : va_D A [(hm, .inr (3, [.int th, .int 0, .ref wi, .ref co, .ref sl, .ref rn, .ref so, .ref bn, .ref sm, .ref ah])), (sm, .inr (2, [.int 0, .ref gr, .ref gt, .ref gw, .ref gk, .ref gi, .ref gp, .ref go, .ref gg, .ref gh])), (bn, .inl (d5, 3, .inl (fun _ => 0))), (rn, .inl (d6, 12, .inl fn)), (so, .inl (d7, 12, .inl (fun _ => 0))), (q2, .inl (cA3, 9, .inl (upd (upd (upd (upd (upd (upd (upd (upd (fun _ => 0) 0 0) 1 0) 2 0) 3 0) 4 0) 5 0) 6 0) 7 4)))] := hD
  refine lv_dup hx hb dX3_counted_122 rfl ?_
  refine lv_bipush (v := 8) hx hb dX3_counted_123 (by decide) ?_
  refine lv_aload_n hx hb dX3_counted_125 rfl (lv_at hl 3 rfl) ?_
  refine va_get (D := (dC, dI)) (ci := 3) (v := .ref so) (C := RX3) (T := TX3) (N := 10) hx hb hts (by decide +kernel) hown hK hP 0 rfl rfl 6 (by decide) (hts (.fieldLink RX3 22 "ThatchRoofModel" "storm" "[I") (by decide +kernel)) (fun _ h9 => h9) rfl dX3_counted_126 ?_
  refine lv_aload_n hx hb dX3_counted_129 rfl (lv_at hl 3 rfl) ?_
  refine va_get (D := (dC, dI)) (ci := 3) (v := .ref sm) (C := RX3) (T := TX3) (N := 10) hx hb hts (by decide +kernel) hown hK hP 0 rfl rfl 8 (by decide) (hts (.fieldLink RX3 33 "ThatchRoofModel" "s" "LThatchRoofModel$State;") (by decide +kernel)) (fun _ h9 => h9) rfl dX3_counted_130 ?_
  refine va_getN (D := (dC, dI)) (ci := 2) (v := .int 0) (C := RX2) (T := TX2) (N := 10) hx hb hts (by decide +kernel) hown hK hP 1 rfl rfl 0 (by decide) (va_Nw.use rfl (zN_RX3_128 hZN)) (fun _ h9 => h9) rfl dX3_counted_133 ?_
  refine lv_bipush (v := 12) hx hb dX3_counted_136 (by decide) ?_
  refine lv_irem hx hb dX3_counted_138 (by decide) ?_
  refine W.eq (g2 := F0 m 139 ls [.int 0, .ref so, .int 8, .ref q2, .ref q2]) rfl ?_
  refine va_iald hx hb hK hP 4 2 rfl rfl (vp_in_nI (n := 0) (by decide) (by decide)) dX3_counted_139 ?_
  refine lv_topi (fun x8 ex8 => ?_)
  obtain rfl : x8 = 0 := ex8
  refine va_iast hx hb hK hP hD hS 5 3 rfl rfl (vp_in_nI (n := 8) (by decide) (by decide)) dX3_counted_140 (fun H locs hP hD hS => ?_)
  have hP : va_P (dC, dI) vwCl [(hm, .inr (3, [.int th, .int 0, .ref wi, .ref co, .ref sl, .ref rn, .ref so, .ref bn, .ref sm, .ref ah])), (sm, .inr (2, [.int 0, .ref gr, .ref gt, .ref gw, .ref gk, .ref gi, .ref gp, .ref go, .ref gg, .ref gh])), (bn, .inl (d5, 3, .inl (fun _ => 0))), (rn, .inl (d6, 12, .inl fn)), (so, .inl (d7, 12, .inl (fun _ => 0))), (q2, .inl (cA3, 9, .inl (upd (upd (upd (upd (upd (upd (upd (upd (upd (fun _ => 0) 0 0) 1 0) 2 0) 3 0) 4 0) 5 0) 6 0) 7 4) 8 0)))] H := hP
  have hD : va_D A [(hm, .inr (3, [.int th, .int 0, .ref wi, .ref co, .ref sl, .ref rn, .ref so, .ref bn, .ref sm, .ref ah])), (sm, .inr (2, [.int 0, .ref gr, .ref gt, .ref gw, .ref gk, .ref gi, .ref gp, .ref go, .ref gg, .ref gh])), (bn, .inl (d5, 3, .inl (fun _ => 0))), (rn, .inl (d6, 12, .inl fn)), (so, .inl (d7, 12, .inl (fun _ => 0))), (q2, .inl (cA3, 9, .inl (upd (upd (upd (upd (upd (upd (upd (upd (upd (fun _ => 0) 0 0) 1 0) 2 0) 3 0) 4 0) 5 0) 6 0) 7 4) 8 0)))] := hD
  refine lv_astore (lv' := [(4, .ref q2), (3, .int 0), (2, .int 0), (0, .ref hm), (1, .int 5)]) hx hb dX3_counted_141 hl (by decide) rfl (fun ls hl => ?_)
  refine lv_aload hx hb dX3_counted_143 (lv_at hl 0 rfl) ?_
  refine lv_iload_n hx hb dX3_counted_145 rfl (lv_at hl 4 rfl) ?_
  refine va_iald hx hb hK hP 5 3 rfl rfl (vp_in_nI (n := 5) (by decide) (by decide)) dX3_counted_146 ?_
  refine lv_topi (fun x9 ex9 => ?_)
  obtain rfl : x9 = 0 := ex9
  have hP9 := hP.sub (ws' := [(hm, .inr (3, [.int th, .int 0, .ref wi, .ref co, .ref sl, .ref rn, .ref so, .ref bn, .ref sm, .ref ah])), (sm, .inr (2, [.int 0, .ref gr, .ref gt, .ref gw, .ref gk, .ref gi, .ref gp, .ref go, .ref gg, .ref gh])), (bn, .inl (d5, 3, .inl (fun _ => 0))), (rn, .inl (d6, 12, .inl fn)), (so, .inl (d7, 12, .inl (fun _ => 0)))]) [0, 1, 2, 3, 4] rfl
  have hD9 := hD.sub (ws' := [(hm, .inr (3, [.int th, .int 0, .ref wi, .ref co, .ref sl, .ref rn, .ref so, .ref bn, .ref sm, .ref ah])), (sm, .inr (2, [.int 0, .ref gr, .ref gt, .ref gw, .ref gk, .ref gi, .ref gp, .ref go, .ref gg, .ref gh])), (bn, .inl (d5, 3, .inl (fun _ => 0))), (rn, .inl (d6, 12, .inl fn)), (so, .inl (d7, 12, .inl (fun _ => 0)))]) [0, 1, 2, 3, 4] (by decide) rfl
  have hK9 := hK.sub (tys' := []) [] rfl
  refine W.widen (k := 1) (n := 9) (Nat.le_of_ble_eq_true rfl) (Nat.le_of_ble_eq_true rfl) ?_
  exact W.iret (v := 0) hx hb hr (fun t ht hW => ⟨⟨0, (), rfl, by (first | rfl | assumption | decide | (simp_all; done) | grind), ⟨by rw [ht]; exact hP9, va_K.moved hW.alike hK9, hD9⟩⟩, hS.F ht⟩) hS.2.2 dX3_counted_147

set_option maxHeartbeats 4000000 in
set_option maxRecDepth 100000 in
theorem k3_counted6 (l : Launch) (dC : Nat → ClassId) (dI : Nat → Nat → Nat) (sz : Nat) (hm : Nat) (wi : Nat) (co : Nat) (sl : Nat) (rn : Nat) (so : Nat) (bn : Nat) (sm : Nat) (ah : Nat) (th : Int32) (gr : Nat) (gt : Nat) (gw : Nat) (gk : Nat) (gi : Nat) (gp : Nat) (go : Nat) (gg : Nat) (gh : Nat) (d5 : ClassId) (d6 : ClassId) (d7 : ClassId) (fn : Nat → Int32) (hrn : ∀ j : Nat, j < 12 → fn j = 4) : Met l yX3_counted wsX3_counted ({ frames := 0, cells := 1, slots := 9, locals := 0 }) (va_Pc [.ref hm, .int 6] (fun U => U.heap.size = sz ∧ va_P (dC, dI) vwCl [(hm, .inr (3, [.int th, .int 0, .ref wi, .ref co, .ref sl, .ref rn, .ref so, .ref bn, .ref sm, .ref ah])), (sm, .inr (2, [.int 0, .ref gr, .ref gt, .ref gw, .ref gk, .ref gi, .ref gp, .ref go, .ref gg, .ref gh])), (bn, .inl (d5, 3, .inl (fun _ => 0))), (rn, .inl (d6, 12, .inl fn)), (so, .inl (d7, 12, .inl (fun _ => 0)))] U.heap ∧ va_K (dC, dI) vwCl [(d5, .int), (d6, .int), (d7, .int)] U ∧ va_D (fun _ => True) [(hm, .inr (3, [.int th, .int 0, .ref wi, .ref co, .ref sl, .ref rn, .ref so, .ref bn, .ref sm, .ref ah])), (sm, .inr (2, [.int 0, .ref gr, .ref gt, .ref gw, .ref gk, .ref gi, .ref gp, .ref go, .ref gg, .ref gh])), (bn, .inl (d5, 3, .inl (fun _ => 0))), (rn, .inl (d6, 12, .inl fn)), (so, .inl (d7, 12, .inl (fun _ => 0)))] ∧ zNs U)) (va_Qi (fun (r : Int32) (u : Unit) => r = 0) (fun (u : Unit) (t : State) => va_P (dC, dI) vwCl [(hm, .inr (3, [.int th, .int 0, .ref wi, .ref co, .ref sl, .ref rn, .ref so, .ref bn, .ref sm, .ref ah])), (sm, .inr (2, [.int 0, .ref gr, .ref gt, .ref gw, .ref gk, .ref gi, .ref gp, .ref go, .ref gg, .ref gh])), (bn, .inl (d5, 3, .inl (fun _ => 0))), (rn, .inl (d6, 12, .inl fn)), (so, .inl (d7, 12, .inl (fun _ => 0)))] t.heap ∧ va_K (dC, dI) vwCl [] t ∧ va_D (va_A [(hm, .inr (3, [.int th, .int 0, .ref wi, .ref co, .ref sl, .ref rn, .ref so, .ref bn, .ref sm, .ref ah])), (sm, .inr (2, [.int 0, .ref gr, .ref gt, .ref gw, .ref gk, .ref gi, .ref gp, .ref go, .ref gg, .ref gh])), (bn, .inl (d5, 3, .inl (fun _ => 0))), (rn, .inl (d6, 12, .inl fn)), (so, .inl (d7, 12, .inl (fun _ => 0)))] sz) [(hm, .inr (3, [.int th, .int 0, .ref wi, .ref co, .ref sl, .ref rn, .ref so, .ref bn, .ref sm, .ref ah])), (sm, .inr (2, [.int 0, .ref gr, .ref gt, .ref gw, .ref gk, .ref gi, .ref gp, .ref go, .ref gg, .ref gh])), (bn, .inl (d5, 3, .inl (fun _ => 0))), (rn, .inl (d6, 12, .inl fn)), (so, .inl (d7, 12, .inl (fun _ => 0)))]) (va_A [(hm, .inr (3, [.int th, .int 0, .ref wi, .ref co, .ref sl, .ref rn, .ref so, .ref bn, .ref sm, .ref ah])), (sm, .inr (2, [.int 0, .ref gr, .ref gt, .ref gw, .ref gk, .ref gi, .ref gp, .ref go, .ref gg, .ref gh])), (bn, .inl (d5, 3, .inl (fun _ => 0))), (rn, .inl (d6, 12, .inl fn)), (so, .inl (d7, 12, .inl (fun _ => 0)))] sz)) 1 9 (va_A [(hm, .inr (3, [.int th, .int 0, .ref wi, .ref co, .ref sl, .ref rn, .ref so, .ref bn, .ref sm, .ref ah])), (sm, .inr (2, [.int 0, .ref gr, .ref gt, .ref gw, .ref gk, .ref gi, .ref gp, .ref go, .ref gg, .ref gh])), (bn, .inl (d5, 3, .inl (fun _ => 0))), (rn, .inl (d6, 12, .inl fn)), (so, .inl (d7, 12, .inl (fun _ => 0)))] sz) := by
  refine Met.ofW (cc := cX3_counted) (maxL := 5) (ret := (some .int)) (by decide) rfl ?_
  intro p e s m args below meth c s₁ B hml hv
  obtain ⟨rfl, hsz, hP, hK, hD0, hZN⟩ := hv
  have hx := B.exec
  have hb := B.bytes
  have hr := B.returns
  have hts := atoms_spec (ws := wsX3_counted) B.pre
  have hown : s.vm.findClass RX3 = some m.cls := findClass_of_methodNamed B.named
  have hlocks := B.notSynchronized
  subst hsz
  have hD := hD0.self (sz := s.heap.size)
  generalize hAe : va_A [(hm, .inr (3, [.int th, .int 0, .ref wi, .ref co, .ref sl, .ref rn, .ref so, .ref bn, .ref sm, .ref ah])), (sm, .inr (2, [.int 0, .ref gr, .ref gt, .ref gw, .ref gk, .ref gi, .ref gp, .ref go, .ref gg, .ref gh])), (bn, .inl (d5, 3, .inl (fun _ => 0))), (rn, .inl (d6, 12, .inl fn)), (so, .inl (d7, 12, .inl (fun _ => 0)))] s.heap.size = A at hD ⊢
  have hA : ∀ q : Nat, s.heap.size ≤ q → A q := fun q h => by rw [← hAe]; exact Or.inr h
  have hS : va_S A s.heap s.heap [] := va_S.rf
  have hP : va_P (dC, dI) vwCl [(hm, .inr (3, [.int th, .int 0, .ref wi, .ref co, .ref sl, .ref rn, .ref so, .ref bn, .ref sm, .ref ah])), (sm, .inr (2, [.int 0, .ref gr, .ref gt, .ref gw, .ref gk, .ref gi, .ref gp, .ref go, .ref gg, .ref gh])), (bn, .inl (d5, 3, .inl (fun _ => 0))), (rn, .inl (d6, 12, .inl fn)), (so, .inl (d7, 12, .inl (fun _ => 0)))] s.heap := hP
  have hl := lv_entry ([.ref hm, .int 6]) (n := 5) (Nat.le_of_ble_eq_true rfl)
  rw [lg_entry_eq]
  generalize (lg_sl ([.ref hm, .int 6]) ++ List.replicate (5 - (lg_sl ([.ref hm, .int 6])).length) Slot.unset).toArray = ls at hl ⊢
  have hl : lv_has ls 5 [(0, .ref hm), (1, .int 6)] := hl
  refine lv_iconst (v := 0) hx hb dX3_counted_0 (by decide) ?_
  refine lv_istore_n (lv' := [(2, .int 0), (0, .ref hm), (1, .int 6)]) hx hb dX3_counted_1 rfl hl (by decide) rfl (fun ls hl => ?_)
  refine lv_iconst (v := 0) hx hb dX3_counted_2 (by decide) ?_
  refine lv_istore_n (lv' := [(3, .int 0), (2, .int 0), (0, .ref hm), (1, .int 6)]) hx hb dX3_counted_3 rfl hl (by decide) rfl (fun ls hl => ?_)
  refine lv_iconst (v := 0) hx hb dX3_counted_4 (by decide) ?_
  refine lv_istore (lv' := [(4, .int 0), (3, .int 0), (2, .int 0), (0, .ref hm), (1, .int 6)]) hx hb dX3_counted_5 hl (by decide) rfl (fun ls hl => ?_)
  refine lv_iload hx hb dX3_counted_7 (lv_at hl 0 rfl) ?_
  refine lv_aload_n hx hb dX3_counted_9 rfl (lv_at hl 3 rfl) ?_
  refine va_get (D := (dC, dI)) (ci := 3) (v := .int 0) (C := RX3) (T := TX3) (N := 10) hx hb hts (by decide +kernel) hown hK hP 0 rfl rfl 1 (by decide) (hts (.fieldLink RX3 44 "ThatchRoofModel" "roofs" "I") (by decide +kernel)) (fun _ h9 => h9) rfl dX3_counted_10 ?_
  refine lv_icmp_ge (tgt := 46) hx hb dX3_counted_13 (by decide) (fun c1 => ?_) (fun c1 => absurd c1 (by decide))
  refine lv_bipush (v := 9) hx hb dX3_counted_46 (by decide) ?_
  refine va_newa (atype := .int) (ty := .int) (N' := 9) (a0 := (9, .inl (fun _ => 0))) hx hb (hts (.arrayClass .int) (by decide +kernel)) rfl hK hP hD hS hA (fun _ => rfl) (by decide) (by decide) (by decide) (Nat.le_of_ble_eq_true rfl) (Nat.le_of_ble_eq_true rfl) dX3_counted_48 (fun q2 cA3 H hK hP hD hS => ?_)
  refine W.widen (k := 1) (n := 9) (Nat.le_of_ble_eq_true rfl) (Nat.le_of_ble_eq_true rfl) ?_
  have hK : va_K (dC, dI) vwCl [(d5, .int), (d6, .int), (d7, .int), (cA3, .int)] s := hK
  have hP : va_P (dC, dI) vwCl [(hm, .inr (3, [.int th, .int 0, .ref wi, .ref co, .ref sl, .ref rn, .ref so, .ref bn, .ref sm, .ref ah])), (sm, .inr (2, [.int 0, .ref gr, .ref gt, .ref gw, .ref gk, .ref gi, .ref gp, .ref go, .ref gg, .ref gh])), (bn, .inl (d5, 3, .inl (fun _ => 0))), (rn, .inl (d6, 12, .inl fn)), (so, .inl (d7, 12, .inl (fun _ => 0))), (q2, .inl (cA3, 9, .inl (fun _ => 0)))] H := hP
  have hD : va_D A [(hm, .inr (3, [.int th, .int 0, .ref wi, .ref co, .ref sl, .ref rn, .ref so, .ref bn, .ref sm, .ref ah])), (sm, .inr (2, [.int 0, .ref gr, .ref gt, .ref gw, .ref gk, .ref gi, .ref gp, .ref go, .ref gg, .ref gh])), (bn, .inl (d5, 3, .inl (fun _ => 0))), (rn, .inl (d6, 12, .inl fn)), (so, .inl (d7, 12, .inl (fun _ => 0))), (q2, .inl (cA3, 9, .inl (fun _ => 0)))] := hD
  refine lv_dup hx hb dX3_counted_50 rfl ?_
  refine lv_iconst (v := 0) hx hb dX3_counted_51 (by decide) ?_
  refine lv_aload_n hx hb dX3_counted_52 rfl (lv_at hl 3 rfl) ?_
  refine va_get (D := (dC, dI)) (ci := 3) (v := .ref sm) (C := RX3) (T := TX3) (N := 10) hx hb hts (by decide +kernel) hown hK hP 0 rfl rfl 8 (by decide) (hts (.fieldLink RX3 33 "ThatchRoofModel" "s" "LThatchRoofModel$State;") (by decide +kernel)) (fun _ h9 => h9) rfl dX3_counted_53 ?_
  refine va_getN (D := (dC, dI)) (ci := 2) (v := .int 0) (C := RX2) (T := TX2) (N := 10) hx hb hts (by decide +kernel) hown hK hP 1 rfl rfl 0 (by decide) (va_Nw.use rfl (zN_RX3_128 hZN)) (fun _ h9 => h9) rfl dX3_counted_56 ?_
  refine va_iast hx hb hK hP hD hS 5 3 rfl rfl (vp_in_nI (n := 0) (by decide) (by decide)) dX3_counted_59 (fun H locs hP hD hS => ?_)
  have hP : va_P (dC, dI) vwCl [(hm, .inr (3, [.int th, .int 0, .ref wi, .ref co, .ref sl, .ref rn, .ref so, .ref bn, .ref sm, .ref ah])), (sm, .inr (2, [.int 0, .ref gr, .ref gt, .ref gw, .ref gk, .ref gi, .ref gp, .ref go, .ref gg, .ref gh])), (bn, .inl (d5, 3, .inl (fun _ => 0))), (rn, .inl (d6, 12, .inl fn)), (so, .inl (d7, 12, .inl (fun _ => 0))), (q2, .inl (cA3, 9, .inl (upd (fun _ => 0) 0 0)))] H := hP
  have hD : va_D A [(hm, .inr (3, [.int th, .int 0, .ref wi, .ref co, .ref sl, .ref rn, .ref so, .ref bn, .ref sm, .ref ah])), (sm, .inr (2, [.int 0, .ref gr, .ref gt, .ref gw, .ref gk, .ref gi, .ref gp, .ref go, .ref gg, .ref gh])), (bn, .inl (d5, 3, .inl (fun _ => 0))), (rn, .inl (d6, 12, .inl fn)), (so, .inl (d7, 12, .inl (fun _ => 0))), (q2, .inl (cA3, 9, .inl (upd (fun _ => 0) 0 0)))] := hD
  refine lv_dup hx hb dX3_counted_60 rfl ?_
  refine lv_iconst (v := 1) hx hb dX3_counted_61 (by decide) ?_
  refine lv_aload_n hx hb dX3_counted_62 rfl (lv_at hl 3 rfl) ?_
  refine va_get (D := (dC, dI)) (ci := 3) (v := .int 0) (C := RX3) (T := TX3) (N := 10) hx hb hts (by decide +kernel) hown hK hP 0 rfl rfl 1 (by decide) (hts (.fieldLink RX3 44 "ThatchRoofModel" "roofs" "I") (by decide +kernel)) (fun _ h9 => h9) rfl dX3_counted_63 ?_
  refine va_iast hx hb hK hP hD hS 5 3 rfl rfl (vp_in_nI (n := 1) (by decide) (by decide)) dX3_counted_66 (fun H locs hP hD hS => ?_)
  have hP : va_P (dC, dI) vwCl [(hm, .inr (3, [.int th, .int 0, .ref wi, .ref co, .ref sl, .ref rn, .ref so, .ref bn, .ref sm, .ref ah])), (sm, .inr (2, [.int 0, .ref gr, .ref gt, .ref gw, .ref gk, .ref gi, .ref gp, .ref go, .ref gg, .ref gh])), (bn, .inl (d5, 3, .inl (fun _ => 0))), (rn, .inl (d6, 12, .inl fn)), (so, .inl (d7, 12, .inl (fun _ => 0))), (q2, .inl (cA3, 9, .inl (upd (upd (fun _ => 0) 0 0) 1 0)))] H := hP
  have hD : va_D A [(hm, .inr (3, [.int th, .int 0, .ref wi, .ref co, .ref sl, .ref rn, .ref so, .ref bn, .ref sm, .ref ah])), (sm, .inr (2, [.int 0, .ref gr, .ref gt, .ref gw, .ref gk, .ref gi, .ref gp, .ref go, .ref gg, .ref gh])), (bn, .inl (d5, 3, .inl (fun _ => 0))), (rn, .inl (d6, 12, .inl fn)), (so, .inl (d7, 12, .inl (fun _ => 0))), (q2, .inl (cA3, 9, .inl (upd (upd (fun _ => 0) 0 0) 1 0)))] := hD
  refine lv_dup hx hb dX3_counted_67 rfl ?_
  refine lv_iconst (v := 2) hx hb dX3_counted_68 (by decide) ?_
  refine lv_aload_n hx hb dX3_counted_69 rfl (lv_at hl 3 rfl) ?_
  refine va_get (D := (dC, dI)) (ci := 3) (v := .ref bn) (C := RX3) (T := TX3) (N := 10) hx hb hts (by decide +kernel) hown hK hP 0 rfl rfl 7 (by decide) (hts (.fieldLink RX3 25 "ThatchRoofModel" "barn" "[I") (by decide +kernel)) (fun _ h9 => h9) rfl dX3_counted_70 ?_
  refine lv_iconst (v := 0) hx hb dX3_counted_73 (by decide) ?_
  refine va_iald hx hb hK hP 2 0 rfl rfl (vp_in_nI (n := 0) (by decide) (by decide)) dX3_counted_74 ?_
  refine lv_topi (fun x4 ex4 => ?_)
  obtain rfl : x4 = 0 := ex4
  refine va_iast hx hb hK hP hD hS 5 3 rfl rfl (vp_in_nI (n := 2) (by decide) (by decide)) dX3_counted_75 (fun H locs hP hD hS => ?_)
  have hP : va_P (dC, dI) vwCl [(hm, .inr (3, [.int th, .int 0, .ref wi, .ref co, .ref sl, .ref rn, .ref so, .ref bn, .ref sm, .ref ah])), (sm, .inr (2, [.int 0, .ref gr, .ref gt, .ref gw, .ref gk, .ref gi, .ref gp, .ref go, .ref gg, .ref gh])), (bn, .inl (d5, 3, .inl (fun _ => 0))), (rn, .inl (d6, 12, .inl fn)), (so, .inl (d7, 12, .inl (fun _ => 0))), (q2, .inl (cA3, 9, .inl (upd (upd (upd (fun _ => 0) 0 0) 1 0) 2 0)))] H := hP
  have hD : va_D A [(hm, .inr (3, [.int th, .int 0, .ref wi, .ref co, .ref sl, .ref rn, .ref so, .ref bn, .ref sm, .ref ah])), (sm, .inr (2, [.int 0, .ref gr, .ref gt, .ref gw, .ref gk, .ref gi, .ref gp, .ref go, .ref gg, .ref gh])), (bn, .inl (d5, 3, .inl (fun _ => 0))), (rn, .inl (d6, 12, .inl fn)), (so, .inl (d7, 12, .inl (fun _ => 0))), (q2, .inl (cA3, 9, .inl (upd (upd (upd (fun _ => 0) 0 0) 1 0) 2 0)))] := hD
  refine lv_dup hx hb dX3_counted_76 rfl ?_
  refine lv_iconst (v := 3) hx hb dX3_counted_77 (by decide) ?_
  refine lv_aload_n hx hb dX3_counted_78 rfl (lv_at hl 3 rfl) ?_
  refine va_get (D := (dC, dI)) (ci := 3) (v := .ref bn) (C := RX3) (T := TX3) (N := 10) hx hb hts (by decide +kernel) hown hK hP 0 rfl rfl 7 (by decide) (hts (.fieldLink RX3 25 "ThatchRoofModel" "barn" "[I") (by decide +kernel)) (fun _ h9 => h9) rfl dX3_counted_79 ?_
  refine lv_iconst (v := 1) hx hb dX3_counted_82 (by decide) ?_
  refine va_iald hx hb hK hP 2 0 rfl rfl (vp_in_nI (n := 1) (by decide) (by decide)) dX3_counted_83 ?_
  refine lv_topi (fun x5 ex5 => ?_)
  obtain rfl : x5 = 0 := ex5
  refine va_iast hx hb hK hP hD hS 5 3 rfl rfl (vp_in_nI (n := 3) (by decide) (by decide)) dX3_counted_84 (fun H locs hP hD hS => ?_)
  have hP : va_P (dC, dI) vwCl [(hm, .inr (3, [.int th, .int 0, .ref wi, .ref co, .ref sl, .ref rn, .ref so, .ref bn, .ref sm, .ref ah])), (sm, .inr (2, [.int 0, .ref gr, .ref gt, .ref gw, .ref gk, .ref gi, .ref gp, .ref go, .ref gg, .ref gh])), (bn, .inl (d5, 3, .inl (fun _ => 0))), (rn, .inl (d6, 12, .inl fn)), (so, .inl (d7, 12, .inl (fun _ => 0))), (q2, .inl (cA3, 9, .inl (upd (upd (upd (upd (fun _ => 0) 0 0) 1 0) 2 0) 3 0)))] H := hP
  have hD : va_D A [(hm, .inr (3, [.int th, .int 0, .ref wi, .ref co, .ref sl, .ref rn, .ref so, .ref bn, .ref sm, .ref ah])), (sm, .inr (2, [.int 0, .ref gr, .ref gt, .ref gw, .ref gk, .ref gi, .ref gp, .ref go, .ref gg, .ref gh])), (bn, .inl (d5, 3, .inl (fun _ => 0))), (rn, .inl (d6, 12, .inl fn)), (so, .inl (d7, 12, .inl (fun _ => 0))), (q2, .inl (cA3, 9, .inl (upd (upd (upd (upd (fun _ => 0) 0 0) 1 0) 2 0) 3 0)))] := hD
  refine lv_dup hx hb dX3_counted_85 rfl ?_
  refine lv_iconst (v := 4) hx hb dX3_counted_86 (by decide) ?_
  refine lv_aload_n hx hb dX3_counted_87 rfl (lv_at hl 3 rfl) ?_
  refine va_get (D := (dC, dI)) (ci := 3) (v := .ref bn) (C := RX3) (T := TX3) (N := 10) hx hb hts (by decide +kernel) hown hK hP 0 rfl rfl 7 (by decide) (hts (.fieldLink RX3 25 "ThatchRoofModel" "barn" "[I") (by decide +kernel)) (fun _ h9 => h9) rfl dX3_counted_88 ?_
  refine lv_iconst (v := 2) hx hb dX3_counted_91 (by decide) ?_
  refine va_iald hx hb hK hP 2 0 rfl rfl (vp_in_nI (n := 2) (by decide) (by decide)) dX3_counted_92 ?_
  refine lv_topi (fun x6 ex6 => ?_)
  obtain rfl : x6 = 0 := ex6
  refine va_iast hx hb hK hP hD hS 5 3 rfl rfl (vp_in_nI (n := 4) (by decide) (by decide)) dX3_counted_93 (fun H locs hP hD hS => ?_)
  have hP : va_P (dC, dI) vwCl [(hm, .inr (3, [.int th, .int 0, .ref wi, .ref co, .ref sl, .ref rn, .ref so, .ref bn, .ref sm, .ref ah])), (sm, .inr (2, [.int 0, .ref gr, .ref gt, .ref gw, .ref gk, .ref gi, .ref gp, .ref go, .ref gg, .ref gh])), (bn, .inl (d5, 3, .inl (fun _ => 0))), (rn, .inl (d6, 12, .inl fn)), (so, .inl (d7, 12, .inl (fun _ => 0))), (q2, .inl (cA3, 9, .inl (upd (upd (upd (upd (upd (fun _ => 0) 0 0) 1 0) 2 0) 3 0) 4 0)))] H := hP
  have hD : va_D A [(hm, .inr (3, [.int th, .int 0, .ref wi, .ref co, .ref sl, .ref rn, .ref so, .ref bn, .ref sm, .ref ah])), (sm, .inr (2, [.int 0, .ref gr, .ref gt, .ref gw, .ref gk, .ref gi, .ref gp, .ref go, .ref gg, .ref gh])), (bn, .inl (d5, 3, .inl (fun _ => 0))), (rn, .inl (d6, 12, .inl fn)), (so, .inl (d7, 12, .inl (fun _ => 0))), (q2, .inl (cA3, 9, .inl (upd (upd (upd (upd (upd (fun _ => 0) 0 0) 1 0) 2 0) 3 0) 4 0)))] := hD
  refine lv_dup hx hb dX3_counted_94 rfl ?_
  refine lv_iconst (v := 5) hx hb dX3_counted_95 (by decide) ?_
  refine lv_iload_n hx hb dX3_counted_96 rfl (lv_at hl 2 rfl) ?_
  refine va_iast hx hb hK hP hD hS 5 3 rfl rfl (vp_in_nI (n := 5) (by decide) (by decide)) dX3_counted_97 (fun H locs hP hD hS => ?_)
  have hP : va_P (dC, dI) vwCl [(hm, .inr (3, [.int th, .int 0, .ref wi, .ref co, .ref sl, .ref rn, .ref so, .ref bn, .ref sm, .ref ah])), (sm, .inr (2, [.int 0, .ref gr, .ref gt, .ref gw, .ref gk, .ref gi, .ref gp, .ref go, .ref gg, .ref gh])), (bn, .inl (d5, 3, .inl (fun _ => 0))), (rn, .inl (d6, 12, .inl fn)), (so, .inl (d7, 12, .inl (fun _ => 0))), (q2, .inl (cA3, 9, .inl (upd (upd (upd (upd (upd (upd (fun _ => 0) 0 0) 1 0) 2 0) 3 0) 4 0) 5 0)))] H := hP
  have hD : va_D A [(hm, .inr (3, [.int th, .int 0, .ref wi, .ref co, .ref sl, .ref rn, .ref so, .ref bn, .ref sm, .ref ah])), (sm, .inr (2, [.int 0, .ref gr, .ref gt, .ref gw, .ref gk, .ref gi, .ref gp, .ref go, .ref gg, .ref gh])), (bn, .inl (d5, 3, .inl (fun _ => 0))), (rn, .inl (d6, 12, .inl fn)), (so, .inl (d7, 12, .inl (fun _ => 0))), (q2, .inl (cA3, 9, .inl (upd (upd (upd (upd (upd (upd (fun _ => 0) 0 0) 1 0) 2 0) 3 0) 4 0) 5 0)))] := hD
  refine lv_dup hx hb dX3_counted_98 rfl ?_
  refine lv_bipush (v := 6) hx hb dX3_counted_99 (by decide) ?_
  refine lv_iload_n hx hb dX3_counted_101 rfl (lv_at hl 1 rfl) ?_
  refine va_iast hx hb hK hP hD hS 5 3 rfl rfl (vp_in_nI (n := 6) (by decide) (by decide)) dX3_counted_102 (fun H locs hP hD hS => ?_)
  have hP : va_P (dC, dI) vwCl [(hm, .inr (3, [.int th, .int 0, .ref wi, .ref co, .ref sl, .ref rn, .ref so, .ref bn, .ref sm, .ref ah])), (sm, .inr (2, [.int 0, .ref gr, .ref gt, .ref gw, .ref gk, .ref gi, .ref gp, .ref go, .ref gg, .ref gh])), (bn, .inl (d5, 3, .inl (fun _ => 0))), (rn, .inl (d6, 12, .inl fn)), (so, .inl (d7, 12, .inl (fun _ => 0))), (q2, .inl (cA3, 9, .inl (upd (upd (upd (upd (upd (upd (upd (fun _ => 0) 0 0) 1 0) 2 0) 3 0) 4 0) 5 0) 6 0)))] H := hP
  have hD : va_D A [(hm, .inr (3, [.int th, .int 0, .ref wi, .ref co, .ref sl, .ref rn, .ref so, .ref bn, .ref sm, .ref ah])), (sm, .inr (2, [.int 0, .ref gr, .ref gt, .ref gw, .ref gk, .ref gi, .ref gp, .ref go, .ref gg, .ref gh])), (bn, .inl (d5, 3, .inl (fun _ => 0))), (rn, .inl (d6, 12, .inl fn)), (so, .inl (d7, 12, .inl (fun _ => 0))), (q2, .inl (cA3, 9, .inl (upd (upd (upd (upd (upd (upd (upd (fun _ => 0) 0 0) 1 0) 2 0) 3 0) 4 0) 5 0) 6 0)))] := hD
  refine lv_dup hx hb dX3_counted_103 rfl ?_
  refine lv_bipush (v := 7) hx hb dX3_counted_104 (by decide) ?_
  refine lv_aload_n hx hb dX3_counted_106 rfl (lv_at hl 3 rfl) ?_
  refine va_get (D := (dC, dI)) (ci := 3) (v := .ref rn) (C := RX3) (T := TX3) (N := 10) hx hb hts (by decide +kernel) hown hK hP 0 rfl rfl 5 (by decide) (hts (.fieldLink RX3 19 "ThatchRoofModel" "rain" "[I") (by decide +kernel)) (fun _ h9 => h9) rfl dX3_counted_107 ?_
  refine lv_aload_n hx hb dX3_counted_110 rfl (lv_at hl 3 rfl) ?_
  refine va_get (D := (dC, dI)) (ci := 3) (v := .ref sm) (C := RX3) (T := TX3) (N := 10) hx hb hts (by decide +kernel) hown hK hP 0 rfl rfl 8 (by decide) (hts (.fieldLink RX3 33 "ThatchRoofModel" "s" "LThatchRoofModel$State;") (by decide +kernel)) (fun _ h9 => h9) rfl dX3_counted_111 ?_
  refine va_getN (D := (dC, dI)) (ci := 2) (v := .int 0) (C := RX2) (T := TX2) (N := 10) hx hb hts (by decide +kernel) hown hK hP 1 rfl rfl 0 (by decide) (va_Nw.use rfl (zN_RX3_128 hZN)) (fun _ h9 => h9) rfl dX3_counted_114 ?_
  refine lv_bipush (v := 12) hx hb dX3_counted_117 (by decide) ?_
  refine lv_irem hx hb dX3_counted_119 (by decide) ?_
  refine W.eq (g2 := F0 m 120 ls [.int 0, .ref rn, .int 7, .ref q2, .ref q2]) rfl ?_
  refine va_iald hx hb hK hP 3 1 rfl rfl (vp_in_nI (n := 0) (by decide) (by decide)) dX3_counted_120 ?_
  refine lv_topi (fun x7 ex7 => ?_)
  obtain rfl : x7 = 4 := ex7.trans (hrn 0 (by decide))
  refine va_iast hx hb hK hP hD hS 5 3 rfl rfl (vp_in_nI (n := 7) (by decide) (by decide)) dX3_counted_121 (fun H locs hP hD hS => ?_)
  have hP : va_P (dC, dI) vwCl [(hm, .inr (3, [.int th, .int 0, .ref wi, .ref co, .ref sl, .ref rn, .ref so, .ref bn, .ref sm, .ref ah])), (sm, .inr (2, [.int 0, .ref gr, .ref gt, .ref gw, .ref gk, .ref gi, .ref gp, .ref go, .ref gg, .ref gh])), (bn, .inl (d5, 3, .inl (fun _ => 0))), (rn, .inl (d6, 12, .inl fn)), (so, .inl (d7, 12, .inl (fun _ => 0))), (q2, .inl (cA3, 9, .inl (upd (upd (upd (upd (upd (upd (upd (upd (fun _ => 0) 0 0) 1 0) 2 0) 3 0) 4 0) 5 0) 6 0) 7 4)))] H := hP
  have hD : va_D A [(hm, .inr (3, [.int th, .int 0, .ref wi, .ref co, .ref sl, .ref rn, .ref so, .ref bn, .ref sm, .ref ah])), (sm, .inr (2, [.int 0, .ref gr, .ref gt, .ref gw, .ref gk, .ref gi, .ref gp, .ref go, .ref gg, .ref gh])), (bn, .inl (d5, 3, .inl (fun _ => 0))), (rn, .inl (d6, 12, .inl fn)), (so, .inl (d7, 12, .inl (fun _ => 0))), (q2, .inl (cA3, 9, .inl (upd (upd (upd (upd (upd (upd (upd (upd (fun _ => 0) 0 0) 1 0) 2 0) 3 0) 4 0) 5 0) 6 0) 7 4)))] := hD
  refine lv_dup hx hb dX3_counted_122 rfl ?_
  refine lv_bipush (v := 8) hx hb dX3_counted_123 (by decide) ?_
  refine lv_aload_n hx hb dX3_counted_125 rfl (lv_at hl 3 rfl) ?_
  refine va_get (D := (dC, dI)) (ci := 3) (v := .ref so) (C := RX3) (T := TX3) (N := 10) hx hb hts (by decide +kernel) hown hK hP 0 rfl rfl 6 (by decide) (hts (.fieldLink RX3 22 "ThatchRoofModel" "storm" "[I") (by decide +kernel)) (fun _ h9 => h9) rfl dX3_counted_126 ?_
  refine lv_aload_n hx hb dX3_counted_129 rfl (lv_at hl 3 rfl) ?_
  refine va_get (D := (dC, dI)) (ci := 3) (v := .ref sm) (C := RX3) (T := TX3) (N := 10) hx hb hts (by decide +kernel) hown hK hP 0 rfl rfl 8 (by decide) (hts (.fieldLink RX3 33 "ThatchRoofModel" "s" "LThatchRoofModel$State;") (by decide +kernel)) (fun _ h9 => h9) rfl dX3_counted_130 ?_
  refine va_getN (D := (dC, dI)) (ci := 2) (v := .int 0) (C := RX2) (T := TX2) (N := 10) hx hb hts (by decide +kernel) hown hK hP 1 rfl rfl 0 (by decide) (va_Nw.use rfl (zN_RX3_128 hZN)) (fun _ h9 => h9) rfl dX3_counted_133 ?_
  refine lv_bipush (v := 12) hx hb dX3_counted_136 (by decide) ?_
  refine lv_irem hx hb dX3_counted_138 (by decide) ?_
  refine W.eq (g2 := F0 m 139 ls [.int 0, .ref so, .int 8, .ref q2, .ref q2]) rfl ?_
  refine va_iald hx hb hK hP 4 2 rfl rfl (vp_in_nI (n := 0) (by decide) (by decide)) dX3_counted_139 ?_
  refine lv_topi (fun x8 ex8 => ?_)
  obtain rfl : x8 = 0 := ex8
  refine va_iast hx hb hK hP hD hS 5 3 rfl rfl (vp_in_nI (n := 8) (by decide) (by decide)) dX3_counted_140 (fun H locs hP hD hS => ?_)
  have hP : va_P (dC, dI) vwCl [(hm, .inr (3, [.int th, .int 0, .ref wi, .ref co, .ref sl, .ref rn, .ref so, .ref bn, .ref sm, .ref ah])), (sm, .inr (2, [.int 0, .ref gr, .ref gt, .ref gw, .ref gk, .ref gi, .ref gp, .ref go, .ref gg, .ref gh])), (bn, .inl (d5, 3, .inl (fun _ => 0))), (rn, .inl (d6, 12, .inl fn)), (so, .inl (d7, 12, .inl (fun _ => 0))), (q2, .inl (cA3, 9, .inl (upd (upd (upd (upd (upd (upd (upd (upd (upd (fun _ => 0) 0 0) 1 0) 2 0) 3 0) 4 0) 5 0) 6 0) 7 4) 8 0)))] H := hP
  have hD : va_D A [(hm, .inr (3, [.int th, .int 0, .ref wi, .ref co, .ref sl, .ref rn, .ref so, .ref bn, .ref sm, .ref ah])), (sm, .inr (2, [.int 0, .ref gr, .ref gt, .ref gw, .ref gk, .ref gi, .ref gp, .ref go, .ref gg, .ref gh])), (bn, .inl (d5, 3, .inl (fun _ => 0))), (rn, .inl (d6, 12, .inl fn)), (so, .inl (d7, 12, .inl (fun _ => 0))), (q2, .inl (cA3, 9, .inl (upd (upd (upd (upd (upd (upd (upd (upd (upd (fun _ => 0) 0 0) 1 0) 2 0) 3 0) 4 0) 5 0) 6 0) 7 4) 8 0)))] := hD
  refine lv_astore (lv' := [(4, .ref q2), (3, .int 0), (2, .int 0), (0, .ref hm), (1, .int 6)]) hx hb dX3_counted_141 hl (by decide) rfl (fun ls hl => ?_)
  refine lv_aload hx hb dX3_counted_143 (lv_at hl 0 rfl) ?_
  refine lv_iload_n hx hb dX3_counted_145 rfl (lv_at hl 4 rfl) ?_
  refine va_iald hx hb hK hP 5 3 rfl rfl (vp_in_nI (n := 6) (by decide) (by decide)) dX3_counted_146 ?_
  refine lv_topi (fun x9 ex9 => ?_)
  obtain rfl : x9 = 0 := ex9
  have hP9 := hP.sub (ws' := [(hm, .inr (3, [.int th, .int 0, .ref wi, .ref co, .ref sl, .ref rn, .ref so, .ref bn, .ref sm, .ref ah])), (sm, .inr (2, [.int 0, .ref gr, .ref gt, .ref gw, .ref gk, .ref gi, .ref gp, .ref go, .ref gg, .ref gh])), (bn, .inl (d5, 3, .inl (fun _ => 0))), (rn, .inl (d6, 12, .inl fn)), (so, .inl (d7, 12, .inl (fun _ => 0)))]) [0, 1, 2, 3, 4] rfl
  have hD9 := hD.sub (ws' := [(hm, .inr (3, [.int th, .int 0, .ref wi, .ref co, .ref sl, .ref rn, .ref so, .ref bn, .ref sm, .ref ah])), (sm, .inr (2, [.int 0, .ref gr, .ref gt, .ref gw, .ref gk, .ref gi, .ref gp, .ref go, .ref gg, .ref gh])), (bn, .inl (d5, 3, .inl (fun _ => 0))), (rn, .inl (d6, 12, .inl fn)), (so, .inl (d7, 12, .inl (fun _ => 0)))]) [0, 1, 2, 3, 4] (by decide) rfl
  have hK9 := hK.sub (tys' := []) [] rfl
  refine W.widen (k := 1) (n := 9) (Nat.le_of_ble_eq_true rfl) (Nat.le_of_ble_eq_true rfl) ?_
  exact W.iret (v := 0) hx hb hr (fun t ht hW => ⟨⟨0, (), rfl, by (first | rfl | assumption | decide | (simp_all; done) | grind), ⟨by rw [ht]; exact hP9, va_K.moved hW.alike hK9, hD9⟩⟩, hS.F ht⟩) hS.2.2 dX3_counted_147

set_option maxHeartbeats 4000000 in
set_option maxRecDepth 100000 in
theorem k3_counted7 (l : Launch) (dC : Nat → ClassId) (dI : Nat → Nat → Nat) (sz : Nat) (hm : Nat) (wi : Nat) (co : Nat) (sl : Nat) (rn : Nat) (so : Nat) (bn : Nat) (sm : Nat) (ah : Nat) (th : Int32) (gr : Nat) (gt : Nat) (gw : Nat) (gk : Nat) (gi : Nat) (gp : Nat) (go : Nat) (gg : Nat) (gh : Nat) (d5 : ClassId) (d6 : ClassId) (d7 : ClassId) (fn : Nat → Int32) (hrn : ∀ j : Nat, j < 12 → fn j = 4) : Met l yX3_counted wsX3_counted ({ frames := 0, cells := 1, slots := 9, locals := 0 }) (va_Pc [.ref hm, .int 7] (fun U => U.heap.size = sz ∧ va_P (dC, dI) vwCl [(hm, .inr (3, [.int th, .int 0, .ref wi, .ref co, .ref sl, .ref rn, .ref so, .ref bn, .ref sm, .ref ah])), (sm, .inr (2, [.int 0, .ref gr, .ref gt, .ref gw, .ref gk, .ref gi, .ref gp, .ref go, .ref gg, .ref gh])), (bn, .inl (d5, 3, .inl (fun _ => 0))), (rn, .inl (d6, 12, .inl fn)), (so, .inl (d7, 12, .inl (fun _ => 0)))] U.heap ∧ va_K (dC, dI) vwCl [(d5, .int), (d6, .int), (d7, .int)] U ∧ va_D (fun _ => True) [(hm, .inr (3, [.int th, .int 0, .ref wi, .ref co, .ref sl, .ref rn, .ref so, .ref bn, .ref sm, .ref ah])), (sm, .inr (2, [.int 0, .ref gr, .ref gt, .ref gw, .ref gk, .ref gi, .ref gp, .ref go, .ref gg, .ref gh])), (bn, .inl (d5, 3, .inl (fun _ => 0))), (rn, .inl (d6, 12, .inl fn)), (so, .inl (d7, 12, .inl (fun _ => 0)))] ∧ zNs U)) (va_Qi (fun (r : Int32) (u : Unit) => r = 4) (fun (u : Unit) (t : State) => va_P (dC, dI) vwCl [(hm, .inr (3, [.int th, .int 0, .ref wi, .ref co, .ref sl, .ref rn, .ref so, .ref bn, .ref sm, .ref ah])), (sm, .inr (2, [.int 0, .ref gr, .ref gt, .ref gw, .ref gk, .ref gi, .ref gp, .ref go, .ref gg, .ref gh])), (bn, .inl (d5, 3, .inl (fun _ => 0))), (rn, .inl (d6, 12, .inl fn)), (so, .inl (d7, 12, .inl (fun _ => 0)))] t.heap ∧ va_K (dC, dI) vwCl [] t ∧ va_D (va_A [(hm, .inr (3, [.int th, .int 0, .ref wi, .ref co, .ref sl, .ref rn, .ref so, .ref bn, .ref sm, .ref ah])), (sm, .inr (2, [.int 0, .ref gr, .ref gt, .ref gw, .ref gk, .ref gi, .ref gp, .ref go, .ref gg, .ref gh])), (bn, .inl (d5, 3, .inl (fun _ => 0))), (rn, .inl (d6, 12, .inl fn)), (so, .inl (d7, 12, .inl (fun _ => 0)))] sz) [(hm, .inr (3, [.int th, .int 0, .ref wi, .ref co, .ref sl, .ref rn, .ref so, .ref bn, .ref sm, .ref ah])), (sm, .inr (2, [.int 0, .ref gr, .ref gt, .ref gw, .ref gk, .ref gi, .ref gp, .ref go, .ref gg, .ref gh])), (bn, .inl (d5, 3, .inl (fun _ => 0))), (rn, .inl (d6, 12, .inl fn)), (so, .inl (d7, 12, .inl (fun _ => 0)))]) (va_A [(hm, .inr (3, [.int th, .int 0, .ref wi, .ref co, .ref sl, .ref rn, .ref so, .ref bn, .ref sm, .ref ah])), (sm, .inr (2, [.int 0, .ref gr, .ref gt, .ref gw, .ref gk, .ref gi, .ref gp, .ref go, .ref gg, .ref gh])), (bn, .inl (d5, 3, .inl (fun _ => 0))), (rn, .inl (d6, 12, .inl fn)), (so, .inl (d7, 12, .inl (fun _ => 0)))] sz)) 1 9 (va_A [(hm, .inr (3, [.int th, .int 0, .ref wi, .ref co, .ref sl, .ref rn, .ref so, .ref bn, .ref sm, .ref ah])), (sm, .inr (2, [.int 0, .ref gr, .ref gt, .ref gw, .ref gk, .ref gi, .ref gp, .ref go, .ref gg, .ref gh])), (bn, .inl (d5, 3, .inl (fun _ => 0))), (rn, .inl (d6, 12, .inl fn)), (so, .inl (d7, 12, .inl (fun _ => 0)))] sz) := by
  refine Met.ofW (cc := cX3_counted) (maxL := 5) (ret := (some .int)) (by decide) rfl ?_
  intro p e s m args below meth c s₁ B hml hv
  obtain ⟨rfl, hsz, hP, hK, hD0, hZN⟩ := hv
  have hx := B.exec
  have hb := B.bytes
  have hr := B.returns
  have hts := atoms_spec (ws := wsX3_counted) B.pre
  have hown : s.vm.findClass RX3 = some m.cls := findClass_of_methodNamed B.named
  have hlocks := B.notSynchronized
  subst hsz
  have hD := hD0.self (sz := s.heap.size)
  generalize hAe : va_A [(hm, .inr (3, [.int th, .int 0, .ref wi, .ref co, .ref sl, .ref rn, .ref so, .ref bn, .ref sm, .ref ah])), (sm, .inr (2, [.int 0, .ref gr, .ref gt, .ref gw, .ref gk, .ref gi, .ref gp, .ref go, .ref gg, .ref gh])), (bn, .inl (d5, 3, .inl (fun _ => 0))), (rn, .inl (d6, 12, .inl fn)), (so, .inl (d7, 12, .inl (fun _ => 0)))] s.heap.size = A at hD ⊢
  have hA : ∀ q : Nat, s.heap.size ≤ q → A q := fun q h => by rw [← hAe]; exact Or.inr h
  have hS : va_S A s.heap s.heap [] := va_S.rf
  have hP : va_P (dC, dI) vwCl [(hm, .inr (3, [.int th, .int 0, .ref wi, .ref co, .ref sl, .ref rn, .ref so, .ref bn, .ref sm, .ref ah])), (sm, .inr (2, [.int 0, .ref gr, .ref gt, .ref gw, .ref gk, .ref gi, .ref gp, .ref go, .ref gg, .ref gh])), (bn, .inl (d5, 3, .inl (fun _ => 0))), (rn, .inl (d6, 12, .inl fn)), (so, .inl (d7, 12, .inl (fun _ => 0)))] s.heap := hP
  have hl := lv_entry ([.ref hm, .int 7]) (n := 5) (Nat.le_of_ble_eq_true rfl)
  rw [lg_entry_eq]
  generalize (lg_sl ([.ref hm, .int 7]) ++ List.replicate (5 - (lg_sl ([.ref hm, .int 7])).length) Slot.unset).toArray = ls at hl ⊢
  have hl : lv_has ls 5 [(0, .ref hm), (1, .int 7)] := hl
  refine lv_iconst (v := 0) hx hb dX3_counted_0 (by decide) ?_
  refine lv_istore_n (lv' := [(2, .int 0), (0, .ref hm), (1, .int 7)]) hx hb dX3_counted_1 rfl hl (by decide) rfl (fun ls hl => ?_)
  refine lv_iconst (v := 0) hx hb dX3_counted_2 (by decide) ?_
  refine lv_istore_n (lv' := [(3, .int 0), (2, .int 0), (0, .ref hm), (1, .int 7)]) hx hb dX3_counted_3 rfl hl (by decide) rfl (fun ls hl => ?_)
  refine lv_iconst (v := 0) hx hb dX3_counted_4 (by decide) ?_
  refine lv_istore (lv' := [(4, .int 0), (3, .int 0), (2, .int 0), (0, .ref hm), (1, .int 7)]) hx hb dX3_counted_5 hl (by decide) rfl (fun ls hl => ?_)
  refine lv_iload hx hb dX3_counted_7 (lv_at hl 0 rfl) ?_
  refine lv_aload_n hx hb dX3_counted_9 rfl (lv_at hl 3 rfl) ?_
  refine va_get (D := (dC, dI)) (ci := 3) (v := .int 0) (C := RX3) (T := TX3) (N := 10) hx hb hts (by decide +kernel) hown hK hP 0 rfl rfl 1 (by decide) (hts (.fieldLink RX3 44 "ThatchRoofModel" "roofs" "I") (by decide +kernel)) (fun _ h9 => h9) rfl dX3_counted_10 ?_
  refine lv_icmp_ge (tgt := 46) hx hb dX3_counted_13 (by decide) (fun c1 => ?_) (fun c1 => absurd c1 (by decide))
  refine lv_bipush (v := 9) hx hb dX3_counted_46 (by decide) ?_
  refine va_newa (atype := .int) (ty := .int) (N' := 9) (a0 := (9, .inl (fun _ => 0))) hx hb (hts (.arrayClass .int) (by decide +kernel)) rfl hK hP hD hS hA (fun _ => rfl) (by decide) (by decide) (by decide) (Nat.le_of_ble_eq_true rfl) (Nat.le_of_ble_eq_true rfl) dX3_counted_48 (fun q2 cA3 H hK hP hD hS => ?_)
  refine W.widen (k := 1) (n := 9) (Nat.le_of_ble_eq_true rfl) (Nat.le_of_ble_eq_true rfl) ?_
  have hK : va_K (dC, dI) vwCl [(d5, .int), (d6, .int), (d7, .int), (cA3, .int)] s := hK
  have hP : va_P (dC, dI) vwCl [(hm, .inr (3, [.int th, .int 0, .ref wi, .ref co, .ref sl, .ref rn, .ref so, .ref bn, .ref sm, .ref ah])), (sm, .inr (2, [.int 0, .ref gr, .ref gt, .ref gw, .ref gk, .ref gi, .ref gp, .ref go, .ref gg, .ref gh])), (bn, .inl (d5, 3, .inl (fun _ => 0))), (rn, .inl (d6, 12, .inl fn)), (so, .inl (d7, 12, .inl (fun _ => 0))), (q2, .inl (cA3, 9, .inl (fun _ => 0)))] H := hP
  have hD : va_D A [(hm, .inr (3, [.int th, .int 0, .ref wi, .ref co, .ref sl, .ref rn, .ref so, .ref bn, .ref sm, .ref ah])), (sm, .inr (2, [.int 0, .ref gr, .ref gt, .ref gw, .ref gk, .ref gi, .ref gp, .ref go, .ref gg, .ref gh])), (bn, .inl (d5, 3, .inl (fun _ => 0))), (rn, .inl (d6, 12, .inl fn)), (so, .inl (d7, 12, .inl (fun _ => 0))), (q2, .inl (cA3, 9, .inl (fun _ => 0)))] := hD
  refine lv_dup hx hb dX3_counted_50 rfl ?_
  refine lv_iconst (v := 0) hx hb dX3_counted_51 (by decide) ?_
  refine lv_aload_n hx hb dX3_counted_52 rfl (lv_at hl 3 rfl) ?_
  refine va_get (D := (dC, dI)) (ci := 3) (v := .ref sm) (C := RX3) (T := TX3) (N := 10) hx hb hts (by decide +kernel) hown hK hP 0 rfl rfl 8 (by decide) (hts (.fieldLink RX3 33 "ThatchRoofModel" "s" "LThatchRoofModel$State;") (by decide +kernel)) (fun _ h9 => h9) rfl dX3_counted_53 ?_
  refine va_getN (D := (dC, dI)) (ci := 2) (v := .int 0) (C := RX2) (T := TX2) (N := 10) hx hb hts (by decide +kernel) hown hK hP 1 rfl rfl 0 (by decide) (va_Nw.use rfl (zN_RX3_128 hZN)) (fun _ h9 => h9) rfl dX3_counted_56 ?_
  refine va_iast hx hb hK hP hD hS 5 3 rfl rfl (vp_in_nI (n := 0) (by decide) (by decide)) dX3_counted_59 (fun H locs hP hD hS => ?_)
  have hP : va_P (dC, dI) vwCl [(hm, .inr (3, [.int th, .int 0, .ref wi, .ref co, .ref sl, .ref rn, .ref so, .ref bn, .ref sm, .ref ah])), (sm, .inr (2, [.int 0, .ref gr, .ref gt, .ref gw, .ref gk, .ref gi, .ref gp, .ref go, .ref gg, .ref gh])), (bn, .inl (d5, 3, .inl (fun _ => 0))), (rn, .inl (d6, 12, .inl fn)), (so, .inl (d7, 12, .inl (fun _ => 0))), (q2, .inl (cA3, 9, .inl (upd (fun _ => 0) 0 0)))] H := hP
  have hD : va_D A [(hm, .inr (3, [.int th, .int 0, .ref wi, .ref co, .ref sl, .ref rn, .ref so, .ref bn, .ref sm, .ref ah])), (sm, .inr (2, [.int 0, .ref gr, .ref gt, .ref gw, .ref gk, .ref gi, .ref gp, .ref go, .ref gg, .ref gh])), (bn, .inl (d5, 3, .inl (fun _ => 0))), (rn, .inl (d6, 12, .inl fn)), (so, .inl (d7, 12, .inl (fun _ => 0))), (q2, .inl (cA3, 9, .inl (upd (fun _ => 0) 0 0)))] := hD
  refine lv_dup hx hb dX3_counted_60 rfl ?_
  refine lv_iconst (v := 1) hx hb dX3_counted_61 (by decide) ?_
  refine lv_aload_n hx hb dX3_counted_62 rfl (lv_at hl 3 rfl) ?_
  refine va_get (D := (dC, dI)) (ci := 3) (v := .int 0) (C := RX3) (T := TX3) (N := 10) hx hb hts (by decide +kernel) hown hK hP 0 rfl rfl 1 (by decide) (hts (.fieldLink RX3 44 "ThatchRoofModel" "roofs" "I") (by decide +kernel)) (fun _ h9 => h9) rfl dX3_counted_63 ?_
  refine va_iast hx hb hK hP hD hS 5 3 rfl rfl (vp_in_nI (n := 1) (by decide) (by decide)) dX3_counted_66 (fun H locs hP hD hS => ?_)
  have hP : va_P (dC, dI) vwCl [(hm, .inr (3, [.int th, .int 0, .ref wi, .ref co, .ref sl, .ref rn, .ref so, .ref bn, .ref sm, .ref ah])), (sm, .inr (2, [.int 0, .ref gr, .ref gt, .ref gw, .ref gk, .ref gi, .ref gp, .ref go, .ref gg, .ref gh])), (bn, .inl (d5, 3, .inl (fun _ => 0))), (rn, .inl (d6, 12, .inl fn)), (so, .inl (d7, 12, .inl (fun _ => 0))), (q2, .inl (cA3, 9, .inl (upd (upd (fun _ => 0) 0 0) 1 0)))] H := hP
  have hD : va_D A [(hm, .inr (3, [.int th, .int 0, .ref wi, .ref co, .ref sl, .ref rn, .ref so, .ref bn, .ref sm, .ref ah])), (sm, .inr (2, [.int 0, .ref gr, .ref gt, .ref gw, .ref gk, .ref gi, .ref gp, .ref go, .ref gg, .ref gh])), (bn, .inl (d5, 3, .inl (fun _ => 0))), (rn, .inl (d6, 12, .inl fn)), (so, .inl (d7, 12, .inl (fun _ => 0))), (q2, .inl (cA3, 9, .inl (upd (upd (fun _ => 0) 0 0) 1 0)))] := hD
  refine lv_dup hx hb dX3_counted_67 rfl ?_
  refine lv_iconst (v := 2) hx hb dX3_counted_68 (by decide) ?_
  refine lv_aload_n hx hb dX3_counted_69 rfl (lv_at hl 3 rfl) ?_
  refine va_get (D := (dC, dI)) (ci := 3) (v := .ref bn) (C := RX3) (T := TX3) (N := 10) hx hb hts (by decide +kernel) hown hK hP 0 rfl rfl 7 (by decide) (hts (.fieldLink RX3 25 "ThatchRoofModel" "barn" "[I") (by decide +kernel)) (fun _ h9 => h9) rfl dX3_counted_70 ?_
  refine lv_iconst (v := 0) hx hb dX3_counted_73 (by decide) ?_
  refine va_iald hx hb hK hP 2 0 rfl rfl (vp_in_nI (n := 0) (by decide) (by decide)) dX3_counted_74 ?_
  refine lv_topi (fun x4 ex4 => ?_)
  obtain rfl : x4 = 0 := ex4
  refine va_iast hx hb hK hP hD hS 5 3 rfl rfl (vp_in_nI (n := 2) (by decide) (by decide)) dX3_counted_75 (fun H locs hP hD hS => ?_)
  have hP : va_P (dC, dI) vwCl [(hm, .inr (3, [.int th, .int 0, .ref wi, .ref co, .ref sl, .ref rn, .ref so, .ref bn, .ref sm, .ref ah])), (sm, .inr (2, [.int 0, .ref gr, .ref gt, .ref gw, .ref gk, .ref gi, .ref gp, .ref go, .ref gg, .ref gh])), (bn, .inl (d5, 3, .inl (fun _ => 0))), (rn, .inl (d6, 12, .inl fn)), (so, .inl (d7, 12, .inl (fun _ => 0))), (q2, .inl (cA3, 9, .inl (upd (upd (upd (fun _ => 0) 0 0) 1 0) 2 0)))] H := hP
  have hD : va_D A [(hm, .inr (3, [.int th, .int 0, .ref wi, .ref co, .ref sl, .ref rn, .ref so, .ref bn, .ref sm, .ref ah])), (sm, .inr (2, [.int 0, .ref gr, .ref gt, .ref gw, .ref gk, .ref gi, .ref gp, .ref go, .ref gg, .ref gh])), (bn, .inl (d5, 3, .inl (fun _ => 0))), (rn, .inl (d6, 12, .inl fn)), (so, .inl (d7, 12, .inl (fun _ => 0))), (q2, .inl (cA3, 9, .inl (upd (upd (upd (fun _ => 0) 0 0) 1 0) 2 0)))] := hD
  refine lv_dup hx hb dX3_counted_76 rfl ?_
  refine lv_iconst (v := 3) hx hb dX3_counted_77 (by decide) ?_
  refine lv_aload_n hx hb dX3_counted_78 rfl (lv_at hl 3 rfl) ?_
  refine va_get (D := (dC, dI)) (ci := 3) (v := .ref bn) (C := RX3) (T := TX3) (N := 10) hx hb hts (by decide +kernel) hown hK hP 0 rfl rfl 7 (by decide) (hts (.fieldLink RX3 25 "ThatchRoofModel" "barn" "[I") (by decide +kernel)) (fun _ h9 => h9) rfl dX3_counted_79 ?_
  refine lv_iconst (v := 1) hx hb dX3_counted_82 (by decide) ?_
  refine va_iald hx hb hK hP 2 0 rfl rfl (vp_in_nI (n := 1) (by decide) (by decide)) dX3_counted_83 ?_
  refine lv_topi (fun x5 ex5 => ?_)
  obtain rfl : x5 = 0 := ex5
  refine va_iast hx hb hK hP hD hS 5 3 rfl rfl (vp_in_nI (n := 3) (by decide) (by decide)) dX3_counted_84 (fun H locs hP hD hS => ?_)
  have hP : va_P (dC, dI) vwCl [(hm, .inr (3, [.int th, .int 0, .ref wi, .ref co, .ref sl, .ref rn, .ref so, .ref bn, .ref sm, .ref ah])), (sm, .inr (2, [.int 0, .ref gr, .ref gt, .ref gw, .ref gk, .ref gi, .ref gp, .ref go, .ref gg, .ref gh])), (bn, .inl (d5, 3, .inl (fun _ => 0))), (rn, .inl (d6, 12, .inl fn)), (so, .inl (d7, 12, .inl (fun _ => 0))), (q2, .inl (cA3, 9, .inl (upd (upd (upd (upd (fun _ => 0) 0 0) 1 0) 2 0) 3 0)))] H := hP
  have hD : va_D A [(hm, .inr (3, [.int th, .int 0, .ref wi, .ref co, .ref sl, .ref rn, .ref so, .ref bn, .ref sm, .ref ah])), (sm, .inr (2, [.int 0, .ref gr, .ref gt, .ref gw, .ref gk, .ref gi, .ref gp, .ref go, .ref gg, .ref gh])), (bn, .inl (d5, 3, .inl (fun _ => 0))), (rn, .inl (d6, 12, .inl fn)), (so, .inl (d7, 12, .inl (fun _ => 0))), (q2, .inl (cA3, 9, .inl (upd (upd (upd (upd (fun _ => 0) 0 0) 1 0) 2 0) 3 0)))] := hD
  refine lv_dup hx hb dX3_counted_85 rfl ?_
  refine lv_iconst (v := 4) hx hb dX3_counted_86 (by decide) ?_
  refine lv_aload_n hx hb dX3_counted_87 rfl (lv_at hl 3 rfl) ?_
  refine va_get (D := (dC, dI)) (ci := 3) (v := .ref bn) (C := RX3) (T := TX3) (N := 10) hx hb hts (by decide +kernel) hown hK hP 0 rfl rfl 7 (by decide) (hts (.fieldLink RX3 25 "ThatchRoofModel" "barn" "[I") (by decide +kernel)) (fun _ h9 => h9) rfl dX3_counted_88 ?_
  refine lv_iconst (v := 2) hx hb dX3_counted_91 (by decide) ?_
  refine va_iald hx hb hK hP 2 0 rfl rfl (vp_in_nI (n := 2) (by decide) (by decide)) dX3_counted_92 ?_
  refine lv_topi (fun x6 ex6 => ?_)
  obtain rfl : x6 = 0 := ex6
  refine va_iast hx hb hK hP hD hS 5 3 rfl rfl (vp_in_nI (n := 4) (by decide) (by decide)) dX3_counted_93 (fun H locs hP hD hS => ?_)
  have hP : va_P (dC, dI) vwCl [(hm, .inr (3, [.int th, .int 0, .ref wi, .ref co, .ref sl, .ref rn, .ref so, .ref bn, .ref sm, .ref ah])), (sm, .inr (2, [.int 0, .ref gr, .ref gt, .ref gw, .ref gk, .ref gi, .ref gp, .ref go, .ref gg, .ref gh])), (bn, .inl (d5, 3, .inl (fun _ => 0))), (rn, .inl (d6, 12, .inl fn)), (so, .inl (d7, 12, .inl (fun _ => 0))), (q2, .inl (cA3, 9, .inl (upd (upd (upd (upd (upd (fun _ => 0) 0 0) 1 0) 2 0) 3 0) 4 0)))] H := hP
  have hD : va_D A [(hm, .inr (3, [.int th, .int 0, .ref wi, .ref co, .ref sl, .ref rn, .ref so, .ref bn, .ref sm, .ref ah])), (sm, .inr (2, [.int 0, .ref gr, .ref gt, .ref gw, .ref gk, .ref gi, .ref gp, .ref go, .ref gg, .ref gh])), (bn, .inl (d5, 3, .inl (fun _ => 0))), (rn, .inl (d6, 12, .inl fn)), (so, .inl (d7, 12, .inl (fun _ => 0))), (q2, .inl (cA3, 9, .inl (upd (upd (upd (upd (upd (fun _ => 0) 0 0) 1 0) 2 0) 3 0) 4 0)))] := hD
  refine lv_dup hx hb dX3_counted_94 rfl ?_
  refine lv_iconst (v := 5) hx hb dX3_counted_95 (by decide) ?_
  refine lv_iload_n hx hb dX3_counted_96 rfl (lv_at hl 2 rfl) ?_
  refine va_iast hx hb hK hP hD hS 5 3 rfl rfl (vp_in_nI (n := 5) (by decide) (by decide)) dX3_counted_97 (fun H locs hP hD hS => ?_)
  have hP : va_P (dC, dI) vwCl [(hm, .inr (3, [.int th, .int 0, .ref wi, .ref co, .ref sl, .ref rn, .ref so, .ref bn, .ref sm, .ref ah])), (sm, .inr (2, [.int 0, .ref gr, .ref gt, .ref gw, .ref gk, .ref gi, .ref gp, .ref go, .ref gg, .ref gh])), (bn, .inl (d5, 3, .inl (fun _ => 0))), (rn, .inl (d6, 12, .inl fn)), (so, .inl (d7, 12, .inl (fun _ => 0))), (q2, .inl (cA3, 9, .inl (upd (upd (upd (upd (upd (upd (fun _ => 0) 0 0) 1 0) 2 0) 3 0) 4 0) 5 0)))] H := hP
  have hD : va_D A [(hm, .inr (3, [.int th, .int 0, .ref wi, .ref co, .ref sl, .ref rn, .ref so, .ref bn, .ref sm, .ref ah])), (sm, .inr (2, [.int 0, .ref gr, .ref gt, .ref gw, .ref gk, .ref gi, .ref gp, .ref go, .ref gg, .ref gh])), (bn, .inl (d5, 3, .inl (fun _ => 0))), (rn, .inl (d6, 12, .inl fn)), (so, .inl (d7, 12, .inl (fun _ => 0))), (q2, .inl (cA3, 9, .inl (upd (upd (upd (upd (upd (upd (fun _ => 0) 0 0) 1 0) 2 0) 3 0) 4 0) 5 0)))] := hD
  refine lv_dup hx hb dX3_counted_98 rfl ?_
  refine lv_bipush (v := 6) hx hb dX3_counted_99 (by decide) ?_
  refine lv_iload_n hx hb dX3_counted_101 rfl (lv_at hl 1 rfl) ?_
  refine va_iast hx hb hK hP hD hS 5 3 rfl rfl (vp_in_nI (n := 6) (by decide) (by decide)) dX3_counted_102 (fun H locs hP hD hS => ?_)
  have hP : va_P (dC, dI) vwCl [(hm, .inr (3, [.int th, .int 0, .ref wi, .ref co, .ref sl, .ref rn, .ref so, .ref bn, .ref sm, .ref ah])), (sm, .inr (2, [.int 0, .ref gr, .ref gt, .ref gw, .ref gk, .ref gi, .ref gp, .ref go, .ref gg, .ref gh])), (bn, .inl (d5, 3, .inl (fun _ => 0))), (rn, .inl (d6, 12, .inl fn)), (so, .inl (d7, 12, .inl (fun _ => 0))), (q2, .inl (cA3, 9, .inl (upd (upd (upd (upd (upd (upd (upd (fun _ => 0) 0 0) 1 0) 2 0) 3 0) 4 0) 5 0) 6 0)))] H := hP
  have hD : va_D A [(hm, .inr (3, [.int th, .int 0, .ref wi, .ref co, .ref sl, .ref rn, .ref so, .ref bn, .ref sm, .ref ah])), (sm, .inr (2, [.int 0, .ref gr, .ref gt, .ref gw, .ref gk, .ref gi, .ref gp, .ref go, .ref gg, .ref gh])), (bn, .inl (d5, 3, .inl (fun _ => 0))), (rn, .inl (d6, 12, .inl fn)), (so, .inl (d7, 12, .inl (fun _ => 0))), (q2, .inl (cA3, 9, .inl (upd (upd (upd (upd (upd (upd (upd (fun _ => 0) 0 0) 1 0) 2 0) 3 0) 4 0) 5 0) 6 0)))] := hD
  refine lv_dup hx hb dX3_counted_103 rfl ?_
  refine lv_bipush (v := 7) hx hb dX3_counted_104 (by decide) ?_
  refine lv_aload_n hx hb dX3_counted_106 rfl (lv_at hl 3 rfl) ?_
  refine va_get (D := (dC, dI)) (ci := 3) (v := .ref rn) (C := RX3) (T := TX3) (N := 10) hx hb hts (by decide +kernel) hown hK hP 0 rfl rfl 5 (by decide) (hts (.fieldLink RX3 19 "ThatchRoofModel" "rain" "[I") (by decide +kernel)) (fun _ h9 => h9) rfl dX3_counted_107 ?_
  refine lv_aload_n hx hb dX3_counted_110 rfl (lv_at hl 3 rfl) ?_
  refine va_get (D := (dC, dI)) (ci := 3) (v := .ref sm) (C := RX3) (T := TX3) (N := 10) hx hb hts (by decide +kernel) hown hK hP 0 rfl rfl 8 (by decide) (hts (.fieldLink RX3 33 "ThatchRoofModel" "s" "LThatchRoofModel$State;") (by decide +kernel)) (fun _ h9 => h9) rfl dX3_counted_111 ?_
  refine va_getN (D := (dC, dI)) (ci := 2) (v := .int 0) (C := RX2) (T := TX2) (N := 10) hx hb hts (by decide +kernel) hown hK hP 1 rfl rfl 0 (by decide) (va_Nw.use rfl (zN_RX3_128 hZN)) (fun _ h9 => h9) rfl dX3_counted_114 ?_
  refine lv_bipush (v := 12) hx hb dX3_counted_117 (by decide) ?_
  refine lv_irem hx hb dX3_counted_119 (by decide) ?_
  refine W.eq (g2 := F0 m 120 ls [.int 0, .ref rn, .int 7, .ref q2, .ref q2]) rfl ?_
  refine va_iald hx hb hK hP 3 1 rfl rfl (vp_in_nI (n := 0) (by decide) (by decide)) dX3_counted_120 ?_
  refine lv_topi (fun x7 ex7 => ?_)
  obtain rfl : x7 = 4 := ex7.trans (hrn 0 (by decide))
  refine va_iast hx hb hK hP hD hS 5 3 rfl rfl (vp_in_nI (n := 7) (by decide) (by decide)) dX3_counted_121 (fun H locs hP hD hS => ?_)
  have hP : va_P (dC, dI) vwCl [(hm, .inr (3, [.int th, .int 0, .ref wi, .ref co, .ref sl, .ref rn, .ref so, .ref bn, .ref sm, .ref ah])), (sm, .inr (2, [.int 0, .ref gr, .ref gt, .ref gw, .ref gk, .ref gi, .ref gp, .ref go, .ref gg, .ref gh])), (bn, .inl (d5, 3, .inl (fun _ => 0))), (rn, .inl (d6, 12, .inl fn)), (so, .inl (d7, 12, .inl (fun _ => 0))), (q2, .inl (cA3, 9, .inl (upd (upd (upd (upd (upd (upd (upd (upd (fun _ => 0) 0 0) 1 0) 2 0) 3 0) 4 0) 5 0) 6 0) 7 4)))] H := hP
  have hD : va_D A [(hm, .inr (3, [.int th, .int 0, .ref wi, .ref co, .ref sl, .ref rn, .ref so, .ref bn, .ref sm, .ref ah])), (sm, .inr (2, [.int 0, .ref gr, .ref gt, .ref gw, .ref gk, .ref gi, .ref gp, .ref go, .ref gg, .ref gh])), (bn, .inl (d5, 3, .inl (fun _ => 0))), (rn, .inl (d6, 12, .inl fn)), (so, .inl (d7, 12, .inl (fun _ => 0))), (q2, .inl (cA3, 9, .inl (upd (upd (upd (upd (upd (upd (upd (upd (fun _ => 0) 0 0) 1 0) 2 0) 3 0) 4 0) 5 0) 6 0) 7 4)))] := hD
  refine lv_dup hx hb dX3_counted_122 rfl ?_
  refine lv_bipush (v := 8) hx hb dX3_counted_123 (by decide) ?_
  refine lv_aload_n hx hb dX3_counted_125 rfl (lv_at hl 3 rfl) ?_
  refine va_get (D := (dC, dI)) (ci := 3) (v := .ref so) (C := RX3) (T := TX3) (N := 10) hx hb hts (by decide +kernel) hown hK hP 0 rfl rfl 6 (by decide) (hts (.fieldLink RX3 22 "ThatchRoofModel" "storm" "[I") (by decide +kernel)) (fun _ h9 => h9) rfl dX3_counted_126 ?_
  refine lv_aload_n hx hb dX3_counted_129 rfl (lv_at hl 3 rfl) ?_
  refine va_get (D := (dC, dI)) (ci := 3) (v := .ref sm) (C := RX3) (T := TX3) (N := 10) hx hb hts (by decide +kernel) hown hK hP 0 rfl rfl 8 (by decide) (hts (.fieldLink RX3 33 "ThatchRoofModel" "s" "LThatchRoofModel$State;") (by decide +kernel)) (fun _ h9 => h9) rfl dX3_counted_130 ?_
  refine va_getN (D := (dC, dI)) (ci := 2) (v := .int 0) (C := RX2) (T := TX2) (N := 10) hx hb hts (by decide +kernel) hown hK hP 1 rfl rfl 0 (by decide) (va_Nw.use rfl (zN_RX3_128 hZN)) (fun _ h9 => h9) rfl dX3_counted_133 ?_
  refine lv_bipush (v := 12) hx hb dX3_counted_136 (by decide) ?_
  refine lv_irem hx hb dX3_counted_138 (by decide) ?_
  refine W.eq (g2 := F0 m 139 ls [.int 0, .ref so, .int 8, .ref q2, .ref q2]) rfl ?_
  refine va_iald hx hb hK hP 4 2 rfl rfl (vp_in_nI (n := 0) (by decide) (by decide)) dX3_counted_139 ?_
  refine lv_topi (fun x8 ex8 => ?_)
  obtain rfl : x8 = 0 := ex8
  refine va_iast hx hb hK hP hD hS 5 3 rfl rfl (vp_in_nI (n := 8) (by decide) (by decide)) dX3_counted_140 (fun H locs hP hD hS => ?_)
  have hP : va_P (dC, dI) vwCl [(hm, .inr (3, [.int th, .int 0, .ref wi, .ref co, .ref sl, .ref rn, .ref so, .ref bn, .ref sm, .ref ah])), (sm, .inr (2, [.int 0, .ref gr, .ref gt, .ref gw, .ref gk, .ref gi, .ref gp, .ref go, .ref gg, .ref gh])), (bn, .inl (d5, 3, .inl (fun _ => 0))), (rn, .inl (d6, 12, .inl fn)), (so, .inl (d7, 12, .inl (fun _ => 0))), (q2, .inl (cA3, 9, .inl (upd (upd (upd (upd (upd (upd (upd (upd (upd (fun _ => 0) 0 0) 1 0) 2 0) 3 0) 4 0) 5 0) 6 0) 7 4) 8 0)))] H := hP
  have hD : va_D A [(hm, .inr (3, [.int th, .int 0, .ref wi, .ref co, .ref sl, .ref rn, .ref so, .ref bn, .ref sm, .ref ah])), (sm, .inr (2, [.int 0, .ref gr, .ref gt, .ref gw, .ref gk, .ref gi, .ref gp, .ref go, .ref gg, .ref gh])), (bn, .inl (d5, 3, .inl (fun _ => 0))), (rn, .inl (d6, 12, .inl fn)), (so, .inl (d7, 12, .inl (fun _ => 0))), (q2, .inl (cA3, 9, .inl (upd (upd (upd (upd (upd (upd (upd (upd (upd (fun _ => 0) 0 0) 1 0) 2 0) 3 0) 4 0) 5 0) 6 0) 7 4) 8 0)))] := hD
  refine lv_astore (lv' := [(4, .ref q2), (3, .int 0), (2, .int 0), (0, .ref hm), (1, .int 7)]) hx hb dX3_counted_141 hl (by decide) rfl (fun ls hl => ?_)
  refine lv_aload hx hb dX3_counted_143 (lv_at hl 0 rfl) ?_
  refine lv_iload_n hx hb dX3_counted_145 rfl (lv_at hl 4 rfl) ?_
  refine va_iald hx hb hK hP 5 3 rfl rfl (vp_in_nI (n := 7) (by decide) (by decide)) dX3_counted_146 ?_
  refine lv_topi (fun x9 ex9 => ?_)
  obtain rfl : x9 = 4 := ex9
  have hP9 := hP.sub (ws' := [(hm, .inr (3, [.int th, .int 0, .ref wi, .ref co, .ref sl, .ref rn, .ref so, .ref bn, .ref sm, .ref ah])), (sm, .inr (2, [.int 0, .ref gr, .ref gt, .ref gw, .ref gk, .ref gi, .ref gp, .ref go, .ref gg, .ref gh])), (bn, .inl (d5, 3, .inl (fun _ => 0))), (rn, .inl (d6, 12, .inl fn)), (so, .inl (d7, 12, .inl (fun _ => 0)))]) [0, 1, 2, 3, 4] rfl
  have hD9 := hD.sub (ws' := [(hm, .inr (3, [.int th, .int 0, .ref wi, .ref co, .ref sl, .ref rn, .ref so, .ref bn, .ref sm, .ref ah])), (sm, .inr (2, [.int 0, .ref gr, .ref gt, .ref gw, .ref gk, .ref gi, .ref gp, .ref go, .ref gg, .ref gh])), (bn, .inl (d5, 3, .inl (fun _ => 0))), (rn, .inl (d6, 12, .inl fn)), (so, .inl (d7, 12, .inl (fun _ => 0)))]) [0, 1, 2, 3, 4] (by decide) rfl
  have hK9 := hK.sub (tys' := []) [] rfl
  refine W.widen (k := 1) (n := 9) (Nat.le_of_ble_eq_true rfl) (Nat.le_of_ble_eq_true rfl) ?_
  exact W.iret (v := 4) hx hb hr (fun t ht hW => ⟨⟨4, (), rfl, by (first | rfl | assumption | decide | (simp_all; done) | grind), ⟨by rw [ht]; exact hP9, va_K.moved hW.alike hK9, hD9⟩⟩, hS.F ht⟩) hS.2.2 dX3_counted_147

set_option maxHeartbeats 4000000 in
set_option maxRecDepth 100000 in
theorem k3_counted8 (l : Launch) (dC : Nat → ClassId) (dI : Nat → Nat → Nat) (sz : Nat) (hm : Nat) (wi : Nat) (co : Nat) (sl : Nat) (rn : Nat) (so : Nat) (bn : Nat) (sm : Nat) (ah : Nat) (th : Int32) (gr : Nat) (gt : Nat) (gw : Nat) (gk : Nat) (gi : Nat) (gp : Nat) (go : Nat) (gg : Nat) (gh : Nat) (d5 : ClassId) (d6 : ClassId) (d7 : ClassId) (fn : Nat → Int32) (hrn : ∀ j : Nat, j < 12 → fn j = 4) : Met l yX3_counted wsX3_counted ({ frames := 0, cells := 1, slots := 9, locals := 0 }) (va_Pc [.ref hm, .int 8] (fun U => U.heap.size = sz ∧ va_P (dC, dI) vwCl [(hm, .inr (3, [.int th, .int 0, .ref wi, .ref co, .ref sl, .ref rn, .ref so, .ref bn, .ref sm, .ref ah])), (sm, .inr (2, [.int 0, .ref gr, .ref gt, .ref gw, .ref gk, .ref gi, .ref gp, .ref go, .ref gg, .ref gh])), (bn, .inl (d5, 3, .inl (fun _ => 0))), (rn, .inl (d6, 12, .inl fn)), (so, .inl (d7, 12, .inl (fun _ => 0)))] U.heap ∧ va_K (dC, dI) vwCl [(d5, .int), (d6, .int), (d7, .int)] U ∧ va_D (fun _ => True) [(hm, .inr (3, [.int th, .int 0, .ref wi, .ref co, .ref sl, .ref rn, .ref so, .ref bn, .ref sm, .ref ah])), (sm, .inr (2, [.int 0, .ref gr, .ref gt, .ref gw, .ref gk, .ref gi, .ref gp, .ref go, .ref gg, .ref gh])), (bn, .inl (d5, 3, .inl (fun _ => 0))), (rn, .inl (d6, 12, .inl fn)), (so, .inl (d7, 12, .inl (fun _ => 0)))] ∧ zNs U)) (va_Qi (fun (r : Int32) (u : Unit) => r = 0) (fun (u : Unit) (t : State) => va_P (dC, dI) vwCl [(hm, .inr (3, [.int th, .int 0, .ref wi, .ref co, .ref sl, .ref rn, .ref so, .ref bn, .ref sm, .ref ah])), (sm, .inr (2, [.int 0, .ref gr, .ref gt, .ref gw, .ref gk, .ref gi, .ref gp, .ref go, .ref gg, .ref gh])), (bn, .inl (d5, 3, .inl (fun _ => 0))), (rn, .inl (d6, 12, .inl fn)), (so, .inl (d7, 12, .inl (fun _ => 0)))] t.heap ∧ va_K (dC, dI) vwCl [] t ∧ va_D (va_A [(hm, .inr (3, [.int th, .int 0, .ref wi, .ref co, .ref sl, .ref rn, .ref so, .ref bn, .ref sm, .ref ah])), (sm, .inr (2, [.int 0, .ref gr, .ref gt, .ref gw, .ref gk, .ref gi, .ref gp, .ref go, .ref gg, .ref gh])), (bn, .inl (d5, 3, .inl (fun _ => 0))), (rn, .inl (d6, 12, .inl fn)), (so, .inl (d7, 12, .inl (fun _ => 0)))] sz) [(hm, .inr (3, [.int th, .int 0, .ref wi, .ref co, .ref sl, .ref rn, .ref so, .ref bn, .ref sm, .ref ah])), (sm, .inr (2, [.int 0, .ref gr, .ref gt, .ref gw, .ref gk, .ref gi, .ref gp, .ref go, .ref gg, .ref gh])), (bn, .inl (d5, 3, .inl (fun _ => 0))), (rn, .inl (d6, 12, .inl fn)), (so, .inl (d7, 12, .inl (fun _ => 0)))]) (va_A [(hm, .inr (3, [.int th, .int 0, .ref wi, .ref co, .ref sl, .ref rn, .ref so, .ref bn, .ref sm, .ref ah])), (sm, .inr (2, [.int 0, .ref gr, .ref gt, .ref gw, .ref gk, .ref gi, .ref gp, .ref go, .ref gg, .ref gh])), (bn, .inl (d5, 3, .inl (fun _ => 0))), (rn, .inl (d6, 12, .inl fn)), (so, .inl (d7, 12, .inl (fun _ => 0)))] sz)) 1 9 (va_A [(hm, .inr (3, [.int th, .int 0, .ref wi, .ref co, .ref sl, .ref rn, .ref so, .ref bn, .ref sm, .ref ah])), (sm, .inr (2, [.int 0, .ref gr, .ref gt, .ref gw, .ref gk, .ref gi, .ref gp, .ref go, .ref gg, .ref gh])), (bn, .inl (d5, 3, .inl (fun _ => 0))), (rn, .inl (d6, 12, .inl fn)), (so, .inl (d7, 12, .inl (fun _ => 0)))] sz) := by
  refine Met.ofW (cc := cX3_counted) (maxL := 5) (ret := (some .int)) (by decide) rfl ?_
  intro p e s m args below meth c s₁ B hml hv
  obtain ⟨rfl, hsz, hP, hK, hD0, hZN⟩ := hv
  have hx := B.exec
  have hb := B.bytes
  have hr := B.returns
  have hts := atoms_spec (ws := wsX3_counted) B.pre
  have hown : s.vm.findClass RX3 = some m.cls := findClass_of_methodNamed B.named
  have hlocks := B.notSynchronized
  subst hsz
  have hD := hD0.self (sz := s.heap.size)
  generalize hAe : va_A [(hm, .inr (3, [.int th, .int 0, .ref wi, .ref co, .ref sl, .ref rn, .ref so, .ref bn, .ref sm, .ref ah])), (sm, .inr (2, [.int 0, .ref gr, .ref gt, .ref gw, .ref gk, .ref gi, .ref gp, .ref go, .ref gg, .ref gh])), (bn, .inl (d5, 3, .inl (fun _ => 0))), (rn, .inl (d6, 12, .inl fn)), (so, .inl (d7, 12, .inl (fun _ => 0)))] s.heap.size = A at hD ⊢
  have hA : ∀ q : Nat, s.heap.size ≤ q → A q := fun q h => by rw [← hAe]; exact Or.inr h
  have hS : va_S A s.heap s.heap [] := va_S.rf
  have hP : va_P (dC, dI) vwCl [(hm, .inr (3, [.int th, .int 0, .ref wi, .ref co, .ref sl, .ref rn, .ref so, .ref bn, .ref sm, .ref ah])), (sm, .inr (2, [.int 0, .ref gr, .ref gt, .ref gw, .ref gk, .ref gi, .ref gp, .ref go, .ref gg, .ref gh])), (bn, .inl (d5, 3, .inl (fun _ => 0))), (rn, .inl (d6, 12, .inl fn)), (so, .inl (d7, 12, .inl (fun _ => 0)))] s.heap := hP
  have hl := lv_entry ([.ref hm, .int 8]) (n := 5) (Nat.le_of_ble_eq_true rfl)
  rw [lg_entry_eq]
  generalize (lg_sl ([.ref hm, .int 8]) ++ List.replicate (5 - (lg_sl ([.ref hm, .int 8])).length) Slot.unset).toArray = ls at hl ⊢
  have hl : lv_has ls 5 [(0, .ref hm), (1, .int 8)] := hl
  refine lv_iconst (v := 0) hx hb dX3_counted_0 (by decide) ?_
  refine lv_istore_n (lv' := [(2, .int 0), (0, .ref hm), (1, .int 8)]) hx hb dX3_counted_1 rfl hl (by decide) rfl (fun ls hl => ?_)
  refine lv_iconst (v := 0) hx hb dX3_counted_2 (by decide) ?_
  refine lv_istore_n (lv' := [(3, .int 0), (2, .int 0), (0, .ref hm), (1, .int 8)]) hx hb dX3_counted_3 rfl hl (by decide) rfl (fun ls hl => ?_)
  refine lv_iconst (v := 0) hx hb dX3_counted_4 (by decide) ?_
  refine lv_istore (lv' := [(4, .int 0), (3, .int 0), (2, .int 0), (0, .ref hm), (1, .int 8)]) hx hb dX3_counted_5 hl (by decide) rfl (fun ls hl => ?_)
  refine lv_iload hx hb dX3_counted_7 (lv_at hl 0 rfl) ?_
  refine lv_aload_n hx hb dX3_counted_9 rfl (lv_at hl 3 rfl) ?_
  refine va_get (D := (dC, dI)) (ci := 3) (v := .int 0) (C := RX3) (T := TX3) (N := 10) hx hb hts (by decide +kernel) hown hK hP 0 rfl rfl 1 (by decide) (hts (.fieldLink RX3 44 "ThatchRoofModel" "roofs" "I") (by decide +kernel)) (fun _ h9 => h9) rfl dX3_counted_10 ?_
  refine lv_icmp_ge (tgt := 46) hx hb dX3_counted_13 (by decide) (fun c1 => ?_) (fun c1 => absurd c1 (by decide))
  refine lv_bipush (v := 9) hx hb dX3_counted_46 (by decide) ?_
  refine va_newa (atype := .int) (ty := .int) (N' := 9) (a0 := (9, .inl (fun _ => 0))) hx hb (hts (.arrayClass .int) (by decide +kernel)) rfl hK hP hD hS hA (fun _ => rfl) (by decide) (by decide) (by decide) (Nat.le_of_ble_eq_true rfl) (Nat.le_of_ble_eq_true rfl) dX3_counted_48 (fun q2 cA3 H hK hP hD hS => ?_)
  refine W.widen (k := 1) (n := 9) (Nat.le_of_ble_eq_true rfl) (Nat.le_of_ble_eq_true rfl) ?_
  have hK : va_K (dC, dI) vwCl [(d5, .int), (d6, .int), (d7, .int), (cA3, .int)] s := hK
  have hP : va_P (dC, dI) vwCl [(hm, .inr (3, [.int th, .int 0, .ref wi, .ref co, .ref sl, .ref rn, .ref so, .ref bn, .ref sm, .ref ah])), (sm, .inr (2, [.int 0, .ref gr, .ref gt, .ref gw, .ref gk, .ref gi, .ref gp, .ref go, .ref gg, .ref gh])), (bn, .inl (d5, 3, .inl (fun _ => 0))), (rn, .inl (d6, 12, .inl fn)), (so, .inl (d7, 12, .inl (fun _ => 0))), (q2, .inl (cA3, 9, .inl (fun _ => 0)))] H := hP
  have hD : va_D A [(hm, .inr (3, [.int th, .int 0, .ref wi, .ref co, .ref sl, .ref rn, .ref so, .ref bn, .ref sm, .ref ah])), (sm, .inr (2, [.int 0, .ref gr, .ref gt, .ref gw, .ref gk, .ref gi, .ref gp, .ref go, .ref gg, .ref gh])), (bn, .inl (d5, 3, .inl (fun _ => 0))), (rn, .inl (d6, 12, .inl fn)), (so, .inl (d7, 12, .inl (fun _ => 0))), (q2, .inl (cA3, 9, .inl (fun _ => 0)))] := hD
  refine lv_dup hx hb dX3_counted_50 rfl ?_
  refine lv_iconst (v := 0) hx hb dX3_counted_51 (by decide) ?_
  refine lv_aload_n hx hb dX3_counted_52 rfl (lv_at hl 3 rfl) ?_
  refine va_get (D := (dC, dI)) (ci := 3) (v := .ref sm) (C := RX3) (T := TX3) (N := 10) hx hb hts (by decide +kernel) hown hK hP 0 rfl rfl 8 (by decide) (hts (.fieldLink RX3 33 "ThatchRoofModel" "s" "LThatchRoofModel$State;") (by decide +kernel)) (fun _ h9 => h9) rfl dX3_counted_53 ?_
  refine va_getN (D := (dC, dI)) (ci := 2) (v := .int 0) (C := RX2) (T := TX2) (N := 10) hx hb hts (by decide +kernel) hown hK hP 1 rfl rfl 0 (by decide) (va_Nw.use rfl (zN_RX3_128 hZN)) (fun _ h9 => h9) rfl dX3_counted_56 ?_
  refine va_iast hx hb hK hP hD hS 5 3 rfl rfl (vp_in_nI (n := 0) (by decide) (by decide)) dX3_counted_59 (fun H locs hP hD hS => ?_)
  have hP : va_P (dC, dI) vwCl [(hm, .inr (3, [.int th, .int 0, .ref wi, .ref co, .ref sl, .ref rn, .ref so, .ref bn, .ref sm, .ref ah])), (sm, .inr (2, [.int 0, .ref gr, .ref gt, .ref gw, .ref gk, .ref gi, .ref gp, .ref go, .ref gg, .ref gh])), (bn, .inl (d5, 3, .inl (fun _ => 0))), (rn, .inl (d6, 12, .inl fn)), (so, .inl (d7, 12, .inl (fun _ => 0))), (q2, .inl (cA3, 9, .inl (upd (fun _ => 0) 0 0)))] H := hP
  have hD : va_D A [(hm, .inr (3, [.int th, .int 0, .ref wi, .ref co, .ref sl, .ref rn, .ref so, .ref bn, .ref sm, .ref ah])), (sm, .inr (2, [.int 0, .ref gr, .ref gt, .ref gw, .ref gk, .ref gi, .ref gp, .ref go, .ref gg, .ref gh])), (bn, .inl (d5, 3, .inl (fun _ => 0))), (rn, .inl (d6, 12, .inl fn)), (so, .inl (d7, 12, .inl (fun _ => 0))), (q2, .inl (cA3, 9, .inl (upd (fun _ => 0) 0 0)))] := hD
  refine lv_dup hx hb dX3_counted_60 rfl ?_
  refine lv_iconst (v := 1) hx hb dX3_counted_61 (by decide) ?_
  refine lv_aload_n hx hb dX3_counted_62 rfl (lv_at hl 3 rfl) ?_
  refine va_get (D := (dC, dI)) (ci := 3) (v := .int 0) (C := RX3) (T := TX3) (N := 10) hx hb hts (by decide +kernel) hown hK hP 0 rfl rfl 1 (by decide) (hts (.fieldLink RX3 44 "ThatchRoofModel" "roofs" "I") (by decide +kernel)) (fun _ h9 => h9) rfl dX3_counted_63 ?_
  refine va_iast hx hb hK hP hD hS 5 3 rfl rfl (vp_in_nI (n := 1) (by decide) (by decide)) dX3_counted_66 (fun H locs hP hD hS => ?_)
  have hP : va_P (dC, dI) vwCl [(hm, .inr (3, [.int th, .int 0, .ref wi, .ref co, .ref sl, .ref rn, .ref so, .ref bn, .ref sm, .ref ah])), (sm, .inr (2, [.int 0, .ref gr, .ref gt, .ref gw, .ref gk, .ref gi, .ref gp, .ref go, .ref gg, .ref gh])), (bn, .inl (d5, 3, .inl (fun _ => 0))), (rn, .inl (d6, 12, .inl fn)), (so, .inl (d7, 12, .inl (fun _ => 0))), (q2, .inl (cA3, 9, .inl (upd (upd (fun _ => 0) 0 0) 1 0)))] H := hP
  have hD : va_D A [(hm, .inr (3, [.int th, .int 0, .ref wi, .ref co, .ref sl, .ref rn, .ref so, .ref bn, .ref sm, .ref ah])), (sm, .inr (2, [.int 0, .ref gr, .ref gt, .ref gw, .ref gk, .ref gi, .ref gp, .ref go, .ref gg, .ref gh])), (bn, .inl (d5, 3, .inl (fun _ => 0))), (rn, .inl (d6, 12, .inl fn)), (so, .inl (d7, 12, .inl (fun _ => 0))), (q2, .inl (cA3, 9, .inl (upd (upd (fun _ => 0) 0 0) 1 0)))] := hD
  refine lv_dup hx hb dX3_counted_67 rfl ?_
  refine lv_iconst (v := 2) hx hb dX3_counted_68 (by decide) ?_
  refine lv_aload_n hx hb dX3_counted_69 rfl (lv_at hl 3 rfl) ?_
  refine va_get (D := (dC, dI)) (ci := 3) (v := .ref bn) (C := RX3) (T := TX3) (N := 10) hx hb hts (by decide +kernel) hown hK hP 0 rfl rfl 7 (by decide) (hts (.fieldLink RX3 25 "ThatchRoofModel" "barn" "[I") (by decide +kernel)) (fun _ h9 => h9) rfl dX3_counted_70 ?_
  refine lv_iconst (v := 0) hx hb dX3_counted_73 (by decide) ?_
  refine va_iald hx hb hK hP 2 0 rfl rfl (vp_in_nI (n := 0) (by decide) (by decide)) dX3_counted_74 ?_
  refine lv_topi (fun x4 ex4 => ?_)
  obtain rfl : x4 = 0 := ex4
  refine va_iast hx hb hK hP hD hS 5 3 rfl rfl (vp_in_nI (n := 2) (by decide) (by decide)) dX3_counted_75 (fun H locs hP hD hS => ?_)
  have hP : va_P (dC, dI) vwCl [(hm, .inr (3, [.int th, .int 0, .ref wi, .ref co, .ref sl, .ref rn, .ref so, .ref bn, .ref sm, .ref ah])), (sm, .inr (2, [.int 0, .ref gr, .ref gt, .ref gw, .ref gk, .ref gi, .ref gp, .ref go, .ref gg, .ref gh])), (bn, .inl (d5, 3, .inl (fun _ => 0))), (rn, .inl (d6, 12, .inl fn)), (so, .inl (d7, 12, .inl (fun _ => 0))), (q2, .inl (cA3, 9, .inl (upd (upd (upd (fun _ => 0) 0 0) 1 0) 2 0)))] H := hP
  have hD : va_D A [(hm, .inr (3, [.int th, .int 0, .ref wi, .ref co, .ref sl, .ref rn, .ref so, .ref bn, .ref sm, .ref ah])), (sm, .inr (2, [.int 0, .ref gr, .ref gt, .ref gw, .ref gk, .ref gi, .ref gp, .ref go, .ref gg, .ref gh])), (bn, .inl (d5, 3, .inl (fun _ => 0))), (rn, .inl (d6, 12, .inl fn)), (so, .inl (d7, 12, .inl (fun _ => 0))), (q2, .inl (cA3, 9, .inl (upd (upd (upd (fun _ => 0) 0 0) 1 0) 2 0)))] := hD
  refine lv_dup hx hb dX3_counted_76 rfl ?_
  refine lv_iconst (v := 3) hx hb dX3_counted_77 (by decide) ?_
  refine lv_aload_n hx hb dX3_counted_78 rfl (lv_at hl 3 rfl) ?_
  refine va_get (D := (dC, dI)) (ci := 3) (v := .ref bn) (C := RX3) (T := TX3) (N := 10) hx hb hts (by decide +kernel) hown hK hP 0 rfl rfl 7 (by decide) (hts (.fieldLink RX3 25 "ThatchRoofModel" "barn" "[I") (by decide +kernel)) (fun _ h9 => h9) rfl dX3_counted_79 ?_
  refine lv_iconst (v := 1) hx hb dX3_counted_82 (by decide) ?_
  refine va_iald hx hb hK hP 2 0 rfl rfl (vp_in_nI (n := 1) (by decide) (by decide)) dX3_counted_83 ?_
  refine lv_topi (fun x5 ex5 => ?_)
  obtain rfl : x5 = 0 := ex5
  refine va_iast hx hb hK hP hD hS 5 3 rfl rfl (vp_in_nI (n := 3) (by decide) (by decide)) dX3_counted_84 (fun H locs hP hD hS => ?_)
  have hP : va_P (dC, dI) vwCl [(hm, .inr (3, [.int th, .int 0, .ref wi, .ref co, .ref sl, .ref rn, .ref so, .ref bn, .ref sm, .ref ah])), (sm, .inr (2, [.int 0, .ref gr, .ref gt, .ref gw, .ref gk, .ref gi, .ref gp, .ref go, .ref gg, .ref gh])), (bn, .inl (d5, 3, .inl (fun _ => 0))), (rn, .inl (d6, 12, .inl fn)), (so, .inl (d7, 12, .inl (fun _ => 0))), (q2, .inl (cA3, 9, .inl (upd (upd (upd (upd (fun _ => 0) 0 0) 1 0) 2 0) 3 0)))] H := hP
  have hD : va_D A [(hm, .inr (3, [.int th, .int 0, .ref wi, .ref co, .ref sl, .ref rn, .ref so, .ref bn, .ref sm, .ref ah])), (sm, .inr (2, [.int 0, .ref gr, .ref gt, .ref gw, .ref gk, .ref gi, .ref gp, .ref go, .ref gg, .ref gh])), (bn, .inl (d5, 3, .inl (fun _ => 0))), (rn, .inl (d6, 12, .inl fn)), (so, .inl (d7, 12, .inl (fun _ => 0))), (q2, .inl (cA3, 9, .inl (upd (upd (upd (upd (fun _ => 0) 0 0) 1 0) 2 0) 3 0)))] := hD
  refine lv_dup hx hb dX3_counted_85 rfl ?_
  refine lv_iconst (v := 4) hx hb dX3_counted_86 (by decide) ?_
  refine lv_aload_n hx hb dX3_counted_87 rfl (lv_at hl 3 rfl) ?_
  refine va_get (D := (dC, dI)) (ci := 3) (v := .ref bn) (C := RX3) (T := TX3) (N := 10) hx hb hts (by decide +kernel) hown hK hP 0 rfl rfl 7 (by decide) (hts (.fieldLink RX3 25 "ThatchRoofModel" "barn" "[I") (by decide +kernel)) (fun _ h9 => h9) rfl dX3_counted_88 ?_
  refine lv_iconst (v := 2) hx hb dX3_counted_91 (by decide) ?_
  refine va_iald hx hb hK hP 2 0 rfl rfl (vp_in_nI (n := 2) (by decide) (by decide)) dX3_counted_92 ?_
  refine lv_topi (fun x6 ex6 => ?_)
  obtain rfl : x6 = 0 := ex6
  refine va_iast hx hb hK hP hD hS 5 3 rfl rfl (vp_in_nI (n := 4) (by decide) (by decide)) dX3_counted_93 (fun H locs hP hD hS => ?_)
  have hP : va_P (dC, dI) vwCl [(hm, .inr (3, [.int th, .int 0, .ref wi, .ref co, .ref sl, .ref rn, .ref so, .ref bn, .ref sm, .ref ah])), (sm, .inr (2, [.int 0, .ref gr, .ref gt, .ref gw, .ref gk, .ref gi, .ref gp, .ref go, .ref gg, .ref gh])), (bn, .inl (d5, 3, .inl (fun _ => 0))), (rn, .inl (d6, 12, .inl fn)), (so, .inl (d7, 12, .inl (fun _ => 0))), (q2, .inl (cA3, 9, .inl (upd (upd (upd (upd (upd (fun _ => 0) 0 0) 1 0) 2 0) 3 0) 4 0)))] H := hP
  have hD : va_D A [(hm, .inr (3, [.int th, .int 0, .ref wi, .ref co, .ref sl, .ref rn, .ref so, .ref bn, .ref sm, .ref ah])), (sm, .inr (2, [.int 0, .ref gr, .ref gt, .ref gw, .ref gk, .ref gi, .ref gp, .ref go, .ref gg, .ref gh])), (bn, .inl (d5, 3, .inl (fun _ => 0))), (rn, .inl (d6, 12, .inl fn)), (so, .inl (d7, 12, .inl (fun _ => 0))), (q2, .inl (cA3, 9, .inl (upd (upd (upd (upd (upd (fun _ => 0) 0 0) 1 0) 2 0) 3 0) 4 0)))] := hD
  refine lv_dup hx hb dX3_counted_94 rfl ?_
  refine lv_iconst (v := 5) hx hb dX3_counted_95 (by decide) ?_
  refine lv_iload_n hx hb dX3_counted_96 rfl (lv_at hl 2 rfl) ?_
  refine va_iast hx hb hK hP hD hS 5 3 rfl rfl (vp_in_nI (n := 5) (by decide) (by decide)) dX3_counted_97 (fun H locs hP hD hS => ?_)
  have hP : va_P (dC, dI) vwCl [(hm, .inr (3, [.int th, .int 0, .ref wi, .ref co, .ref sl, .ref rn, .ref so, .ref bn, .ref sm, .ref ah])), (sm, .inr (2, [.int 0, .ref gr, .ref gt, .ref gw, .ref gk, .ref gi, .ref gp, .ref go, .ref gg, .ref gh])), (bn, .inl (d5, 3, .inl (fun _ => 0))), (rn, .inl (d6, 12, .inl fn)), (so, .inl (d7, 12, .inl (fun _ => 0))), (q2, .inl (cA3, 9, .inl (upd (upd (upd (upd (upd (upd (fun _ => 0) 0 0) 1 0) 2 0) 3 0) 4 0) 5 0)))] H := hP
  have hD : va_D A [(hm, .inr (3, [.int th, .int 0, .ref wi, .ref co, .ref sl, .ref rn, .ref so, .ref bn, .ref sm, .ref ah])), (sm, .inr (2, [.int 0, .ref gr, .ref gt, .ref gw, .ref gk, .ref gi, .ref gp, .ref go, .ref gg, .ref gh])), (bn, .inl (d5, 3, .inl (fun _ => 0))), (rn, .inl (d6, 12, .inl fn)), (so, .inl (d7, 12, .inl (fun _ => 0))), (q2, .inl (cA3, 9, .inl (upd (upd (upd (upd (upd (upd (fun _ => 0) 0 0) 1 0) 2 0) 3 0) 4 0) 5 0)))] := hD
  refine lv_dup hx hb dX3_counted_98 rfl ?_
  refine lv_bipush (v := 6) hx hb dX3_counted_99 (by decide) ?_
  refine lv_iload_n hx hb dX3_counted_101 rfl (lv_at hl 1 rfl) ?_
  refine va_iast hx hb hK hP hD hS 5 3 rfl rfl (vp_in_nI (n := 6) (by decide) (by decide)) dX3_counted_102 (fun H locs hP hD hS => ?_)
  have hP : va_P (dC, dI) vwCl [(hm, .inr (3, [.int th, .int 0, .ref wi, .ref co, .ref sl, .ref rn, .ref so, .ref bn, .ref sm, .ref ah])), (sm, .inr (2, [.int 0, .ref gr, .ref gt, .ref gw, .ref gk, .ref gi, .ref gp, .ref go, .ref gg, .ref gh])), (bn, .inl (d5, 3, .inl (fun _ => 0))), (rn, .inl (d6, 12, .inl fn)), (so, .inl (d7, 12, .inl (fun _ => 0))), (q2, .inl (cA3, 9, .inl (upd (upd (upd (upd (upd (upd (upd (fun _ => 0) 0 0) 1 0) 2 0) 3 0) 4 0) 5 0) 6 0)))] H := hP
  have hD : va_D A [(hm, .inr (3, [.int th, .int 0, .ref wi, .ref co, .ref sl, .ref rn, .ref so, .ref bn, .ref sm, .ref ah])), (sm, .inr (2, [.int 0, .ref gr, .ref gt, .ref gw, .ref gk, .ref gi, .ref gp, .ref go, .ref gg, .ref gh])), (bn, .inl (d5, 3, .inl (fun _ => 0))), (rn, .inl (d6, 12, .inl fn)), (so, .inl (d7, 12, .inl (fun _ => 0))), (q2, .inl (cA3, 9, .inl (upd (upd (upd (upd (upd (upd (upd (fun _ => 0) 0 0) 1 0) 2 0) 3 0) 4 0) 5 0) 6 0)))] := hD
  refine lv_dup hx hb dX3_counted_103 rfl ?_
  refine lv_bipush (v := 7) hx hb dX3_counted_104 (by decide) ?_
  refine lv_aload_n hx hb dX3_counted_106 rfl (lv_at hl 3 rfl) ?_
  refine va_get (D := (dC, dI)) (ci := 3) (v := .ref rn) (C := RX3) (T := TX3) (N := 10) hx hb hts (by decide +kernel) hown hK hP 0 rfl rfl 5 (by decide) (hts (.fieldLink RX3 19 "ThatchRoofModel" "rain" "[I") (by decide +kernel)) (fun _ h9 => h9) rfl dX3_counted_107 ?_
  refine lv_aload_n hx hb dX3_counted_110 rfl (lv_at hl 3 rfl) ?_
  refine va_get (D := (dC, dI)) (ci := 3) (v := .ref sm) (C := RX3) (T := TX3) (N := 10) hx hb hts (by decide +kernel) hown hK hP 0 rfl rfl 8 (by decide) (hts (.fieldLink RX3 33 "ThatchRoofModel" "s" "LThatchRoofModel$State;") (by decide +kernel)) (fun _ h9 => h9) rfl dX3_counted_111 ?_
  refine va_getN (D := (dC, dI)) (ci := 2) (v := .int 0) (C := RX2) (T := TX2) (N := 10) hx hb hts (by decide +kernel) hown hK hP 1 rfl rfl 0 (by decide) (va_Nw.use rfl (zN_RX3_128 hZN)) (fun _ h9 => h9) rfl dX3_counted_114 ?_
  refine lv_bipush (v := 12) hx hb dX3_counted_117 (by decide) ?_
  refine lv_irem hx hb dX3_counted_119 (by decide) ?_
  refine W.eq (g2 := F0 m 120 ls [.int 0, .ref rn, .int 7, .ref q2, .ref q2]) rfl ?_
  refine va_iald hx hb hK hP 3 1 rfl rfl (vp_in_nI (n := 0) (by decide) (by decide)) dX3_counted_120 ?_
  refine lv_topi (fun x7 ex7 => ?_)
  obtain rfl : x7 = 4 := ex7.trans (hrn 0 (by decide))
  refine va_iast hx hb hK hP hD hS 5 3 rfl rfl (vp_in_nI (n := 7) (by decide) (by decide)) dX3_counted_121 (fun H locs hP hD hS => ?_)
  have hP : va_P (dC, dI) vwCl [(hm, .inr (3, [.int th, .int 0, .ref wi, .ref co, .ref sl, .ref rn, .ref so, .ref bn, .ref sm, .ref ah])), (sm, .inr (2, [.int 0, .ref gr, .ref gt, .ref gw, .ref gk, .ref gi, .ref gp, .ref go, .ref gg, .ref gh])), (bn, .inl (d5, 3, .inl (fun _ => 0))), (rn, .inl (d6, 12, .inl fn)), (so, .inl (d7, 12, .inl (fun _ => 0))), (q2, .inl (cA3, 9, .inl (upd (upd (upd (upd (upd (upd (upd (upd (fun _ => 0) 0 0) 1 0) 2 0) 3 0) 4 0) 5 0) 6 0) 7 4)))] H := hP
  have hD : va_D A [(hm, .inr (3, [.int th, .int 0, .ref wi, .ref co, .ref sl, .ref rn, .ref so, .ref bn, .ref sm, .ref ah])), (sm, .inr (2, [.int 0, .ref gr, .ref gt, .ref gw, .ref gk, .ref gi, .ref gp, .ref go, .ref gg, .ref gh])), (bn, .inl (d5, 3, .inl (fun _ => 0))), (rn, .inl (d6, 12, .inl fn)), (so, .inl (d7, 12, .inl (fun _ => 0))), (q2, .inl (cA3, 9, .inl (upd (upd (upd (upd (upd (upd (upd (upd (fun _ => 0) 0 0) 1 0) 2 0) 3 0) 4 0) 5 0) 6 0) 7 4)))] := hD
  refine lv_dup hx hb dX3_counted_122 rfl ?_
  refine lv_bipush (v := 8) hx hb dX3_counted_123 (by decide) ?_
  refine lv_aload_n hx hb dX3_counted_125 rfl (lv_at hl 3 rfl) ?_
  refine va_get (D := (dC, dI)) (ci := 3) (v := .ref so) (C := RX3) (T := TX3) (N := 10) hx hb hts (by decide +kernel) hown hK hP 0 rfl rfl 6 (by decide) (hts (.fieldLink RX3 22 "ThatchRoofModel" "storm" "[I") (by decide +kernel)) (fun _ h9 => h9) rfl dX3_counted_126 ?_
  refine lv_aload_n hx hb dX3_counted_129 rfl (lv_at hl 3 rfl) ?_
  refine va_get (D := (dC, dI)) (ci := 3) (v := .ref sm) (C := RX3) (T := TX3) (N := 10) hx hb hts (by decide +kernel) hown hK hP 0 rfl rfl 8 (by decide) (hts (.fieldLink RX3 33 "ThatchRoofModel" "s" "LThatchRoofModel$State;") (by decide +kernel)) (fun _ h9 => h9) rfl dX3_counted_130 ?_
  refine va_getN (D := (dC, dI)) (ci := 2) (v := .int 0) (C := RX2) (T := TX2) (N := 10) hx hb hts (by decide +kernel) hown hK hP 1 rfl rfl 0 (by decide) (va_Nw.use rfl (zN_RX3_128 hZN)) (fun _ h9 => h9) rfl dX3_counted_133 ?_
  refine lv_bipush (v := 12) hx hb dX3_counted_136 (by decide) ?_
  refine lv_irem hx hb dX3_counted_138 (by decide) ?_
  refine W.eq (g2 := F0 m 139 ls [.int 0, .ref so, .int 8, .ref q2, .ref q2]) rfl ?_
  refine va_iald hx hb hK hP 4 2 rfl rfl (vp_in_nI (n := 0) (by decide) (by decide)) dX3_counted_139 ?_
  refine lv_topi (fun x8 ex8 => ?_)
  obtain rfl : x8 = 0 := ex8
  refine va_iast hx hb hK hP hD hS 5 3 rfl rfl (vp_in_nI (n := 8) (by decide) (by decide)) dX3_counted_140 (fun H locs hP hD hS => ?_)
  have hP : va_P (dC, dI) vwCl [(hm, .inr (3, [.int th, .int 0, .ref wi, .ref co, .ref sl, .ref rn, .ref so, .ref bn, .ref sm, .ref ah])), (sm, .inr (2, [.int 0, .ref gr, .ref gt, .ref gw, .ref gk, .ref gi, .ref gp, .ref go, .ref gg, .ref gh])), (bn, .inl (d5, 3, .inl (fun _ => 0))), (rn, .inl (d6, 12, .inl fn)), (so, .inl (d7, 12, .inl (fun _ => 0))), (q2, .inl (cA3, 9, .inl (upd (upd (upd (upd (upd (upd (upd (upd (upd (fun _ => 0) 0 0) 1 0) 2 0) 3 0) 4 0) 5 0) 6 0) 7 4) 8 0)))] H := hP
  have hD : va_D A [(hm, .inr (3, [.int th, .int 0, .ref wi, .ref co, .ref sl, .ref rn, .ref so, .ref bn, .ref sm, .ref ah])), (sm, .inr (2, [.int 0, .ref gr, .ref gt, .ref gw, .ref gk, .ref gi, .ref gp, .ref go, .ref gg, .ref gh])), (bn, .inl (d5, 3, .inl (fun _ => 0))), (rn, .inl (d6, 12, .inl fn)), (so, .inl (d7, 12, .inl (fun _ => 0))), (q2, .inl (cA3, 9, .inl (upd (upd (upd (upd (upd (upd (upd (upd (upd (fun _ => 0) 0 0) 1 0) 2 0) 3 0) 4 0) 5 0) 6 0) 7 4) 8 0)))] := hD
  refine lv_astore (lv' := [(4, .ref q2), (3, .int 0), (2, .int 0), (0, .ref hm), (1, .int 8)]) hx hb dX3_counted_141 hl (by decide) rfl (fun ls hl => ?_)
  refine lv_aload hx hb dX3_counted_143 (lv_at hl 0 rfl) ?_
  refine lv_iload_n hx hb dX3_counted_145 rfl (lv_at hl 4 rfl) ?_
  refine va_iald hx hb hK hP 5 3 rfl rfl (vp_in_nI (n := 8) (by decide) (by decide)) dX3_counted_146 ?_
  refine lv_topi (fun x9 ex9 => ?_)
  obtain rfl : x9 = 0 := ex9
  have hP9 := hP.sub (ws' := [(hm, .inr (3, [.int th, .int 0, .ref wi, .ref co, .ref sl, .ref rn, .ref so, .ref bn, .ref sm, .ref ah])), (sm, .inr (2, [.int 0, .ref gr, .ref gt, .ref gw, .ref gk, .ref gi, .ref gp, .ref go, .ref gg, .ref gh])), (bn, .inl (d5, 3, .inl (fun _ => 0))), (rn, .inl (d6, 12, .inl fn)), (so, .inl (d7, 12, .inl (fun _ => 0)))]) [0, 1, 2, 3, 4] rfl
  have hD9 := hD.sub (ws' := [(hm, .inr (3, [.int th, .int 0, .ref wi, .ref co, .ref sl, .ref rn, .ref so, .ref bn, .ref sm, .ref ah])), (sm, .inr (2, [.int 0, .ref gr, .ref gt, .ref gw, .ref gk, .ref gi, .ref gp, .ref go, .ref gg, .ref gh])), (bn, .inl (d5, 3, .inl (fun _ => 0))), (rn, .inl (d6, 12, .inl fn)), (so, .inl (d7, 12, .inl (fun _ => 0)))]) [0, 1, 2, 3, 4] (by decide) rfl
  have hK9 := hK.sub (tys' := []) [] rfl
  refine W.widen (k := 1) (n := 9) (Nat.le_of_ble_eq_true rfl) (Nat.le_of_ble_eq_true rfl) ?_
  exact W.iret (v := 0) hx hb hr (fun t ht hW => ⟨⟨0, (), rfl, by (first | rfl | assumption | decide | (simp_all; done) | grind), ⟨by rw [ht]; exact hP9, va_K.moved hW.alike hK9, hD9⟩⟩, hS.F ht⟩) hS.2.2 dX3_counted_147

set_option maxHeartbeats 4000000 in
set_option maxRecDepth 100000 in
theorem k3_count (l : Launch) (dC : Nat → ClassId) (dI : Nat → Nat → Nat) (sz : Nat) (hm : Nat) (wi : Nat) (co : Nat) (sl : Nat) (rn : Nat) (so : Nat) (bn : Nat) (sm : Nat) (ah : Nat) (th : Int32) (gr : Nat) (gt : Nat) (gw : Nat) (gk : Nat) (gi : Nat) (gp : Nat) (go : Nat) (gg : Nat) (gh : Nat) (d5 : ClassId) (d6 : ClassId) (d7 : ClassId) (fn : Nat → Int32) (a1 : Int32) (hrn : ∀ j : Nat, j < 12 → fn j = 4) : Met l yX3_count wsX3_count ({ frames := 1, cells := 1, slots := 9, locals := 24 }) (va_Pc [.ref hm, .int a1] (fun U => U.heap.size = sz ∧ va_P (dC, dI) vwCl [(hm, .inr (3, [.int th, .int 0, .ref wi, .ref co, .ref sl, .ref rn, .ref so, .ref bn, .ref sm, .ref ah])), (sm, .inr (2, [.int 0, .ref gr, .ref gt, .ref gw, .ref gk, .ref gi, .ref gp, .ref go, .ref gg, .ref gh])), (bn, .inl (d5, 3, .inl (fun _ => 0))), (rn, .inl (d6, 12, .inl fn)), (so, .inl (d7, 12, .inl (fun _ => 0)))] U.heap ∧ va_K (dC, dI) vwCl [(d5, .int), (d6, .int), (d7, .int)] U ∧ va_D (fun _ => True) [(hm, .inr (3, [.int th, .int 0, .ref wi, .ref co, .ref sl, .ref rn, .ref so, .ref bn, .ref sm, .ref ah])), (sm, .inr (2, [.int 0, .ref gr, .ref gt, .ref gw, .ref gk, .ref gi, .ref gp, .ref go, .ref gg, .ref gh])), (bn, .inl (d5, 3, .inl (fun _ => 0))), (rn, .inl (d6, 12, .inl fn)), (so, .inl (d7, 12, .inl (fun _ => 0)))] ∧ zNs U)) (va_Qi (fun (r : Int32) (u : Int32 × Int32) => (r = zTal a1 ∧ u.1 = 0 ∧ zIn a1 0 8) ∨ (r = 0 ∧ u.1 = 1 ∧ ¬ zIn a1 0 8)) (fun (u : Int32 × Int32) (t : State) => va_P (dC, dI) vwCl [(hm, .inr (3, [.int u.1, .int u.2, .ref wi, .ref co, .ref sl, .ref rn, .ref so, .ref bn, .ref sm, .ref ah]))] t.heap ∧ va_K (dC, dI) vwCl [] t ∧ va_D (va_A [(hm, .inr (3, [.int th, .int 0, .ref wi, .ref co, .ref sl, .ref rn, .ref so, .ref bn, .ref sm, .ref ah])), (sm, .inr (2, [.int 0, .ref gr, .ref gt, .ref gw, .ref gk, .ref gi, .ref gp, .ref go, .ref gg, .ref gh])), (bn, .inl (d5, 3, .inl (fun _ => 0))), (rn, .inl (d6, 12, .inl fn)), (so, .inl (d7, 12, .inl (fun _ => 0)))] sz) [(hm, .inr (3, [.int u.1, .int u.2, .ref wi, .ref co, .ref sl, .ref rn, .ref so, .ref bn, .ref sm, .ref ah]))]) (va_A [(hm, .inr (3, [.int th, .int 0, .ref wi, .ref co, .ref sl, .ref rn, .ref so, .ref bn, .ref sm, .ref ah])), (sm, .inr (2, [.int 0, .ref gr, .ref gt, .ref gw, .ref gk, .ref gi, .ref gp, .ref go, .ref gg, .ref gh])), (bn, .inl (d5, 3, .inl (fun _ => 0))), (rn, .inl (d6, 12, .inl fn)), (so, .inl (d7, 12, .inl (fun _ => 0)))] sz)) 1 9 (va_A [(hm, .inr (3, [.int th, .int 0, .ref wi, .ref co, .ref sl, .ref rn, .ref so, .ref bn, .ref sm, .ref ah])), (sm, .inr (2, [.int 0, .ref gr, .ref gt, .ref gw, .ref gk, .ref gi, .ref gp, .ref go, .ref gg, .ref gh])), (bn, .inl (d5, 3, .inl (fun _ => 0))), (rn, .inl (d6, 12, .inl fn)), (so, .inl (d7, 12, .inl (fun _ => 0)))] sz) := by
  refine Met.ofW (cc := cX3_count) (maxL := 2) (ret := (some .int)) (by decide) rfl ?_
  intro p e s m args below meth c s₁ B hml hv
  obtain ⟨rfl, hsz, hP, hK, hD0, hZN⟩ := hv
  have hx := B.exec
  have hb := B.bytes
  have hr := B.returns
  have hts := atoms_spec (ws := wsX3_count) B.pre
  have hown : s.vm.findClass RX3 = some m.cls := findClass_of_methodNamed B.named
  have hlocks := B.notSynchronized
  subst hsz
  have hD := hD0.self (sz := s.heap.size)
  generalize hAe : va_A [(hm, .inr (3, [.int th, .int 0, .ref wi, .ref co, .ref sl, .ref rn, .ref so, .ref bn, .ref sm, .ref ah])), (sm, .inr (2, [.int 0, .ref gr, .ref gt, .ref gw, .ref gk, .ref gi, .ref gp, .ref go, .ref gg, .ref gh])), (bn, .inl (d5, 3, .inl (fun _ => 0))), (rn, .inl (d6, 12, .inl fn)), (so, .inl (d7, 12, .inl (fun _ => 0)))] s.heap.size = A at hD ⊢
  have hA : ∀ q : Nat, s.heap.size ≤ q → A q := fun q h => by rw [← hAe]; exact Or.inr h
  have hS : va_S A s.heap s.heap [] := va_S.rf
  have hP : va_P (dC, dI) vwCl [(hm, .inr (3, [.int th, .int 0, .ref wi, .ref co, .ref sl, .ref rn, .ref so, .ref bn, .ref sm, .ref ah])), (sm, .inr (2, [.int 0, .ref gr, .ref gt, .ref gw, .ref gk, .ref gi, .ref gp, .ref go, .ref gg, .ref gh])), (bn, .inl (d5, 3, .inl (fun _ => 0))), (rn, .inl (d6, 12, .inl fn)), (so, .inl (d7, 12, .inl (fun _ => 0)))] s.heap := hP
  have hl := lv_entry ([.ref hm, .int a1]) (n := 2) (Nat.le_of_ble_eq_true rfl)
  rw [lg_entry_eq]
  generalize (lg_sl ([.ref hm, .int a1]) ++ List.replicate (2 - (lg_sl ([.ref hm, .int a1])).length) Slot.unset).toArray = ls at hl ⊢
  have hl : lv_has ls 2 [(0, .ref hm), (1, .int a1)] := hl
  refine lv_aload_n hx hb dX3_count_0 rfl (lv_at hl 0 rfl) ?_
  refine lv_iconst (v := 0) hx hb dX3_count_1 (by decide) ?_
  refine va_put (D := (dC, dI)) (ci := 3) (v := .int 0) (ty := .int) (C := RX3) (T := TX3) (N := 10) hx hb hts (by decide +kernel) tyX3 tyX3_ok nmX3 hown hK hP hD hS 0 rfl rfl 0 (by decide) (hts (.fieldLink RX3 40 "ThatchRoofModel" "thrown" "I") (by decide +kernel)) (fun _ h9 => h9) rfl (by decide +kernel) rfl rfl (Nat.le_of_ble_eq_true rfl) dX3_count_2 (fun H locs hP hD hS => ?_)
  have hP : va_P (dC, dI) vwCl [(hm, .inr (3, [.int 0, .int 0, .ref wi, .ref co, .ref sl, .ref rn, .ref so, .ref bn, .ref sm, .ref ah])), (sm, .inr (2, [.int 0, .ref gr, .ref gt, .ref gw, .ref gk, .ref gi, .ref gp, .ref go, .ref gg, .ref gh])), (bn, .inl (d5, 3, .inl (fun _ => 0))), (rn, .inl (d6, 12, .inl fn)), (so, .inl (d7, 12, .inl (fun _ => 0)))] H := hP
  have hD : va_D A [(hm, .inr (3, [.int 0, .int 0, .ref wi, .ref co, .ref sl, .ref rn, .ref so, .ref bn, .ref sm, .ref ah])), (sm, .inr (2, [.int 0, .ref gr, .ref gt, .ref gw, .ref gk, .ref gi, .ref gp, .ref go, .ref gg, .ref gh])), (bn, .inl (d5, 3, .inl (fun _ => 0))), (rn, .inl (d6, 12, .inl fn)), (so, .inl (d7, 12, .inl (fun _ => 0)))] := hD
  refine lv_iload_n hx hb dX3_count_5 rfl (lv_at hl 1 rfl) ?_
  refine lv_iconst (v := 0) hx hb dX3_count_6 (by decide) ?_
  refine lv_bipush (v := 8) hx hb dX3_count_7 (by decide) ?_
  refine vp_callSi (va_runS (As := [.int a1, .int 0, .int 8]) (rest := []) ⟨hx, hb, hml, hown, hts⟩ (k3_isIn l dC dI a1 0 8 ) (va_cwS 3 hts gX3_count_X3_isIn rfl rfl rfl (by decide +kernel) ⟨Nat.le_of_ble_eq_true rfl, Nat.le_of_ble_eq_true rfl⟩) ⟨fun a U g mk q => q, fun U hU hW => ⟨rfl, trivial⟩⟩ rfl rfl hl.1 rfl (lv_room (Nat.le_of_ble_eq_true rfl)) dX3_count_9 ⟨Nat.le_of_ble_eq_true rfl, Nat.le_of_ble_eq_true rfl⟩).run (fun r1 hr1 => ?_)
  rcases hr1 with ⟨rfl, fr1_0_0⟩ | ⟨rfl, fr1_1_0⟩
  · refine lv_if_eq (tgt := 23) hx hb dX3_count_12 (by decide) (fun c2 => absurd c2 (by decide)) (fun c2 => ?_)
    have hsp : a1 = 0 ∨ a1 = 1 ∨ a1 = 2 ∨ a1 = 3 ∨ a1 = 4 ∨ a1 = 5 ∨ a1 = 6 ∨ a1 = 7 ∨ a1 = 8 := by have hz := zIn_toInt (show zIn a1 0 8 by assumption); have e1 : (0 : Int32).toInt = 0 := (by decide); have e2 : (8 : Int32).toInt = 8 := (by decide); rw [e1, e2] at hz; simp only [← Int32.toInt_inj]; have e3 : (0 : Int32).toInt = 0 ∧ (1 : Int32).toInt = 1 ∧ (2 : Int32).toInt = 2 ∧ (3 : Int32).toInt = 3 ∧ (4 : Int32).toInt = 4 ∧ (5 : Int32).toInt = 5 ∧ (6 : Int32).toInt = 6 ∧ (7 : Int32).toInt = 7 ∧ (8 : Int32).toInt = 8 := (by decide); omega
    rcases hsp with rfl | rfl | rfl | rfl | rfl | rfl | rfl | rfl | rfl
    · refine lv_aload_n hx hb dX3_count_15 rfl (lv_at hl 0 rfl) ?_
      refine lv_iload_n hx hb dX3_count_16 rfl (lv_at hl 1 rfl) ?_
      have hPc := hP.sub (ws' := [(hm, .inr (3, [.int 0, .int 0, .ref wi, .ref co, .ref sl, .ref rn, .ref so, .ref bn, .ref sm, .ref ah])), (sm, .inr (2, [.int 0, .ref gr, .ref gt, .ref gw, .ref gk, .ref gi, .ref gp, .ref go, .ref gg, .ref gh])), (bn, .inl (d5, 3, .inl (fun _ => 0))), (rn, .inl (d6, 12, .inl fn)), (so, .inl (d7, 12, .inl (fun _ => 0)))]) [0, 1, 2, 3, 4] rfl
      have hKc := hK.sub (tys' := [(d5, .int), (d6, .int), (d7, .int)]) [0, 1, 2] rfl
      have hDc := hD.sub (ws' := [(hm, .inr (3, [.int 0, .int 0, .ref wi, .ref co, .ref sl, .ref rn, .ref so, .ref bn, .ref sm, .ref ah])), (sm, .inr (2, [.int 0, .ref gr, .ref gt, .ref gw, .ref gk, .ref gi, .ref gp, .ref go, .ref gg, .ref gh])), (bn, .inl (d5, 3, .inl (fun _ => 0))), (rn, .inl (d6, 12, .inl fn)), (so, .inl (d7, 12, .inl (fun _ => 0)))]) [0, 1, 2, 3, 4] (by decide) rfl
      have hFc := va_free (wc := [(hm, .inr (3, [.int 0, .int 0, .ref wi, .ref co, .ref sl, .ref rn, .ref so, .ref bn, .ref sm, .ref ah])), (sm, .inr (2, [.int 0, .ref gr, .ref gt, .ref gw, .ref gk, .ref gi, .ref gp, .ref go, .ref gg, .ref gh])), (bn, .inl (d5, 3, .inl (fun _ => 0))), (rn, .inl (d6, 12, .inl fn)), (so, .inl (d7, 12, .inl (fun _ => 0)))]) hD hS hA [0, 1, 2, 3, 4] rfl
      refine va_calli (va_runV (As := [.int 0]) (rest := []) ⟨hx, hb, hml, hown, hts⟩ (k3_counted0 l dC dI H.size hm wi co sl rn so bn sm ah 0 gr gt gw gk gi gp go gg gh d5 d6 d7 fn (by first | assumption | decide | omega)) (cwV 1 hts gX3_count_X3_counted rfl rfl rfl (by decide +kernel) ⟨Nat.le_of_ble_eq_true rfl, Nat.le_of_ble_eq_true rfl⟩) ⟨fun a U g mk q => by obtain ⟨q0, q1, qP, qK, qD, qN⟩ := q; exact ⟨q0, q1, qP, va_K.moved (u := U) (U := U.calling g mk a) (Vm.Alike.refl U.vm) qK, qD, zNs.calling qN⟩, va_recv hKc hPc (ci := 3) (q0 := 0) rfl rfl, fun U hU hW => ⟨rfl, by rw [hU], by rw [hU]; exact hPc, va_K.moved hW.alike hKc, hDc.weaken (fun _ _ _ _ => trivial), zNs.warm hW hZN⟩⟩ rfl rfl hl.1 rfl (lv_room (Nat.le_of_ble_eq_true rfl)) dX3_count_17 ⟨Nat.le_of_ble_eq_true rfl, Nat.le_of_ble_eq_true rfl⟩) hS (fun q _ h => hFc q h) hFc (fun r3 u t H1 locs ht hvm hr3 hB hz1 hk1 hS => ?_)
      obtain ⟨hP1, hK1, hD1⟩ := hB
      rw [ht] at hP1
      have hK1 := va_K.moved hvm.symm hK1
      try dsimp only at hr3
      obtain ⟨hP, hD⟩ := va_join (wr := []) (w1 := [(hm, .inr (3, [.int 0, .int 0, .ref wi, .ref co, .ref sl, .ref rn, .ref so, .ref bn, .ref sm, .ref ah])), (sm, .inr (2, [.int 0, .ref gr, .ref gt, .ref gw, .ref gk, .ref gi, .ref gp, .ref go, .ref gg, .ref gh])), (bn, .inl (d5, 3, .inl (fun _ => 0))), (rn, .inl (d6, 12, .inl fn)), (so, .inl (d7, 12, .inl (fun _ => 0)))]) hP hD [0, 1, 2, 3, 4] [] rfl rfl (by decide) (by decide) hk1 hFc hP1 hD1
      generalize H1 = H at hP hS ⊢
      have hP : va_P (dC, dI) vwCl [(hm, .inr (3, [.int 0, .int 0, .ref wi, .ref co, .ref sl, .ref rn, .ref so, .ref bn, .ref sm, .ref ah])), (sm, .inr (2, [.int 0, .ref gr, .ref gt, .ref gw, .ref gk, .ref gi, .ref gp, .ref go, .ref gg, .ref gh])), (bn, .inl (d5, 3, .inl (fun _ => 0))), (rn, .inl (d6, 12, .inl fn)), (so, .inl (d7, 12, .inl (fun _ => 0)))] H := hP
      have hD : va_D A [(hm, .inr (3, [.int 0, .int 0, .ref wi, .ref co, .ref sl, .ref rn, .ref so, .ref bn, .ref sm, .ref ah])), (sm, .inr (2, [.int 0, .ref gr, .ref gt, .ref gw, .ref gk, .ref gi, .ref gp, .ref go, .ref gg, .ref gh])), (bn, .inl (d5, 3, .inl (fun _ => 0))), (rn, .inl (d6, 12, .inl fn)), (so, .inl (d7, 12, .inl (fun _ => 0)))] := hD
      refine W.widen (k := 1) (n := 9) (Nat.le_of_ble_eq_true rfl) (Nat.le_of_ble_eq_true rfl) ?_
      obtain rfl := hr3
      refine lv_goto (tgt := 28) hx hb dX3_count_20 (by decide) ?_
      have hP9 := hP.sub (ws' := [(hm, .inr (3, [.int 0, .int 0, .ref wi, .ref co, .ref sl, .ref rn, .ref so, .ref bn, .ref sm, .ref ah]))]) [0] rfl
      have hD9 := hD.sub (ws' := [(hm, .inr (3, [.int 0, .int 0, .ref wi, .ref co, .ref sl, .ref rn, .ref so, .ref bn, .ref sm, .ref ah]))]) [0] (by decide) rfl
      have hK9 := hK.sub (tys' := []) [] rfl
      refine W.widen (k := 1) (n := 9) (Nat.le_of_ble_eq_true rfl) (Nat.le_of_ble_eq_true rfl) ?_
      exact W.iret (v := 0) hx hb hr (fun t ht hW => ⟨⟨0, (0, 0), rfl, by first | (refine Or.inl ?_; (refine ⟨?_, ?_, ?_⟩ <;> (first | rfl | assumption | decide | (simp_all; done) | grind)); done) | (refine Or.inr ?_; (refine ⟨?_, ?_, ?_⟩ <;> (first | rfl | assumption | decide | (simp_all; done) | grind)); done), ⟨by rw [ht]; exact hP9, va_K.moved hW.alike hK9, hD9⟩⟩, hS.F ht⟩) hS.2.2 dX3_count_28
    · refine lv_aload_n hx hb dX3_count_15 rfl (lv_at hl 0 rfl) ?_
      refine lv_iload_n hx hb dX3_count_16 rfl (lv_at hl 1 rfl) ?_
      have hPc := hP.sub (ws' := [(hm, .inr (3, [.int 0, .int 0, .ref wi, .ref co, .ref sl, .ref rn, .ref so, .ref bn, .ref sm, .ref ah])), (sm, .inr (2, [.int 0, .ref gr, .ref gt, .ref gw, .ref gk, .ref gi, .ref gp, .ref go, .ref gg, .ref gh])), (bn, .inl (d5, 3, .inl (fun _ => 0))), (rn, .inl (d6, 12, .inl fn)), (so, .inl (d7, 12, .inl (fun _ => 0)))]) [0, 1, 2, 3, 4] rfl
      have hKc := hK.sub (tys' := [(d5, .int), (d6, .int), (d7, .int)]) [0, 1, 2] rfl
      have hDc := hD.sub (ws' := [(hm, .inr (3, [.int 0, .int 0, .ref wi, .ref co, .ref sl, .ref rn, .ref so, .ref bn, .ref sm, .ref ah])), (sm, .inr (2, [.int 0, .ref gr, .ref gt, .ref gw, .ref gk, .ref gi, .ref gp, .ref go, .ref gg, .ref gh])), (bn, .inl (d5, 3, .inl (fun _ => 0))), (rn, .inl (d6, 12, .inl fn)), (so, .inl (d7, 12, .inl (fun _ => 0)))]) [0, 1, 2, 3, 4] (by decide) rfl
      have hFc := va_free (wc := [(hm, .inr (3, [.int 0, .int 0, .ref wi, .ref co, .ref sl, .ref rn, .ref so, .ref bn, .ref sm, .ref ah])), (sm, .inr (2, [.int 0, .ref gr, .ref gt, .ref gw, .ref gk, .ref gi, .ref gp, .ref go, .ref gg, .ref gh])), (bn, .inl (d5, 3, .inl (fun _ => 0))), (rn, .inl (d6, 12, .inl fn)), (so, .inl (d7, 12, .inl (fun _ => 0)))]) hD hS hA [0, 1, 2, 3, 4] rfl
      refine va_calli (va_runV (As := [.int 1]) (rest := []) ⟨hx, hb, hml, hown, hts⟩ (k3_counted1 l dC dI H.size hm wi co sl rn so bn sm ah 0 gr gt gw gk gi gp go gg gh d5 d6 d7 fn (by first | assumption | decide | omega)) (cwV 1 hts gX3_count_X3_counted rfl rfl rfl (by decide +kernel) ⟨Nat.le_of_ble_eq_true rfl, Nat.le_of_ble_eq_true rfl⟩) ⟨fun a U g mk q => by obtain ⟨q0, q1, qP, qK, qD, qN⟩ := q; exact ⟨q0, q1, qP, va_K.moved (u := U) (U := U.calling g mk a) (Vm.Alike.refl U.vm) qK, qD, zNs.calling qN⟩, va_recv hKc hPc (ci := 3) (q0 := 0) rfl rfl, fun U hU hW => ⟨rfl, by rw [hU], by rw [hU]; exact hPc, va_K.moved hW.alike hKc, hDc.weaken (fun _ _ _ _ => trivial), zNs.warm hW hZN⟩⟩ rfl rfl hl.1 rfl (lv_room (Nat.le_of_ble_eq_true rfl)) dX3_count_17 ⟨Nat.le_of_ble_eq_true rfl, Nat.le_of_ble_eq_true rfl⟩) hS (fun q _ h => hFc q h) hFc (fun r4 u t H1 locs ht hvm hr4 hB hz1 hk1 hS => ?_)
      obtain ⟨hP1, hK1, hD1⟩ := hB
      rw [ht] at hP1
      have hK1 := va_K.moved hvm.symm hK1
      try dsimp only at hr4
      obtain ⟨hP, hD⟩ := va_join (wr := []) (w1 := [(hm, .inr (3, [.int 0, .int 0, .ref wi, .ref co, .ref sl, .ref rn, .ref so, .ref bn, .ref sm, .ref ah])), (sm, .inr (2, [.int 0, .ref gr, .ref gt, .ref gw, .ref gk, .ref gi, .ref gp, .ref go, .ref gg, .ref gh])), (bn, .inl (d5, 3, .inl (fun _ => 0))), (rn, .inl (d6, 12, .inl fn)), (so, .inl (d7, 12, .inl (fun _ => 0)))]) hP hD [0, 1, 2, 3, 4] [] rfl rfl (by decide) (by decide) hk1 hFc hP1 hD1
      generalize H1 = H at hP hS ⊢
      have hP : va_P (dC, dI) vwCl [(hm, .inr (3, [.int 0, .int 0, .ref wi, .ref co, .ref sl, .ref rn, .ref so, .ref bn, .ref sm, .ref ah])), (sm, .inr (2, [.int 0, .ref gr, .ref gt, .ref gw, .ref gk, .ref gi, .ref gp, .ref go, .ref gg, .ref gh])), (bn, .inl (d5, 3, .inl (fun _ => 0))), (rn, .inl (d6, 12, .inl fn)), (so, .inl (d7, 12, .inl (fun _ => 0)))] H := hP
      have hD : va_D A [(hm, .inr (3, [.int 0, .int 0, .ref wi, .ref co, .ref sl, .ref rn, .ref so, .ref bn, .ref sm, .ref ah])), (sm, .inr (2, [.int 0, .ref gr, .ref gt, .ref gw, .ref gk, .ref gi, .ref gp, .ref go, .ref gg, .ref gh])), (bn, .inl (d5, 3, .inl (fun _ => 0))), (rn, .inl (d6, 12, .inl fn)), (so, .inl (d7, 12, .inl (fun _ => 0)))] := hD
      refine W.widen (k := 1) (n := 9) (Nat.le_of_ble_eq_true rfl) (Nat.le_of_ble_eq_true rfl) ?_
      obtain rfl := hr4
      refine lv_goto (tgt := 28) hx hb dX3_count_20 (by decide) ?_
      have hP9 := hP.sub (ws' := [(hm, .inr (3, [.int 0, .int 0, .ref wi, .ref co, .ref sl, .ref rn, .ref so, .ref bn, .ref sm, .ref ah]))]) [0] rfl
      have hD9 := hD.sub (ws' := [(hm, .inr (3, [.int 0, .int 0, .ref wi, .ref co, .ref sl, .ref rn, .ref so, .ref bn, .ref sm, .ref ah]))]) [0] (by decide) rfl
      have hK9 := hK.sub (tys' := []) [] rfl
      refine W.widen (k := 1) (n := 9) (Nat.le_of_ble_eq_true rfl) (Nat.le_of_ble_eq_true rfl) ?_
      exact W.iret (v := 0) hx hb hr (fun t ht hW => ⟨⟨0, (0, 0), rfl, by first | (refine Or.inl ?_; (refine ⟨?_, ?_, ?_⟩ <;> (first | rfl | assumption | decide | (simp_all; done) | grind)); done) | (refine Or.inr ?_; (refine ⟨?_, ?_, ?_⟩ <;> (first | rfl | assumption | decide | (simp_all; done) | grind)); done), ⟨by rw [ht]; exact hP9, va_K.moved hW.alike hK9, hD9⟩⟩, hS.F ht⟩) hS.2.2 dX3_count_28
    · refine lv_aload_n hx hb dX3_count_15 rfl (lv_at hl 0 rfl) ?_
      refine lv_iload_n hx hb dX3_count_16 rfl (lv_at hl 1 rfl) ?_
      have hPc := hP.sub (ws' := [(hm, .inr (3, [.int 0, .int 0, .ref wi, .ref co, .ref sl, .ref rn, .ref so, .ref bn, .ref sm, .ref ah])), (sm, .inr (2, [.int 0, .ref gr, .ref gt, .ref gw, .ref gk, .ref gi, .ref gp, .ref go, .ref gg, .ref gh])), (bn, .inl (d5, 3, .inl (fun _ => 0))), (rn, .inl (d6, 12, .inl fn)), (so, .inl (d7, 12, .inl (fun _ => 0)))]) [0, 1, 2, 3, 4] rfl
      have hKc := hK.sub (tys' := [(d5, .int), (d6, .int), (d7, .int)]) [0, 1, 2] rfl
      have hDc := hD.sub (ws' := [(hm, .inr (3, [.int 0, .int 0, .ref wi, .ref co, .ref sl, .ref rn, .ref so, .ref bn, .ref sm, .ref ah])), (sm, .inr (2, [.int 0, .ref gr, .ref gt, .ref gw, .ref gk, .ref gi, .ref gp, .ref go, .ref gg, .ref gh])), (bn, .inl (d5, 3, .inl (fun _ => 0))), (rn, .inl (d6, 12, .inl fn)), (so, .inl (d7, 12, .inl (fun _ => 0)))]) [0, 1, 2, 3, 4] (by decide) rfl
      have hFc := va_free (wc := [(hm, .inr (3, [.int 0, .int 0, .ref wi, .ref co, .ref sl, .ref rn, .ref so, .ref bn, .ref sm, .ref ah])), (sm, .inr (2, [.int 0, .ref gr, .ref gt, .ref gw, .ref gk, .ref gi, .ref gp, .ref go, .ref gg, .ref gh])), (bn, .inl (d5, 3, .inl (fun _ => 0))), (rn, .inl (d6, 12, .inl fn)), (so, .inl (d7, 12, .inl (fun _ => 0)))]) hD hS hA [0, 1, 2, 3, 4] rfl
      refine va_calli (va_runV (As := [.int 2]) (rest := []) ⟨hx, hb, hml, hown, hts⟩ (k3_counted2 l dC dI H.size hm wi co sl rn so bn sm ah 0 gr gt gw gk gi gp go gg gh d5 d6 d7 fn (by first | assumption | decide | omega)) (cwV 1 hts gX3_count_X3_counted rfl rfl rfl (by decide +kernel) ⟨Nat.le_of_ble_eq_true rfl, Nat.le_of_ble_eq_true rfl⟩) ⟨fun a U g mk q => by obtain ⟨q0, q1, qP, qK, qD, qN⟩ := q; exact ⟨q0, q1, qP, va_K.moved (u := U) (U := U.calling g mk a) (Vm.Alike.refl U.vm) qK, qD, zNs.calling qN⟩, va_recv hKc hPc (ci := 3) (q0 := 0) rfl rfl, fun U hU hW => ⟨rfl, by rw [hU], by rw [hU]; exact hPc, va_K.moved hW.alike hKc, hDc.weaken (fun _ _ _ _ => trivial), zNs.warm hW hZN⟩⟩ rfl rfl hl.1 rfl (lv_room (Nat.le_of_ble_eq_true rfl)) dX3_count_17 ⟨Nat.le_of_ble_eq_true rfl, Nat.le_of_ble_eq_true rfl⟩) hS (fun q _ h => hFc q h) hFc (fun r5 u t H1 locs ht hvm hr5 hB hz1 hk1 hS => ?_)
      obtain ⟨hP1, hK1, hD1⟩ := hB
      rw [ht] at hP1
      have hK1 := va_K.moved hvm.symm hK1
      try dsimp only at hr5
      obtain ⟨hP, hD⟩ := va_join (wr := []) (w1 := [(hm, .inr (3, [.int 0, .int 0, .ref wi, .ref co, .ref sl, .ref rn, .ref so, .ref bn, .ref sm, .ref ah])), (sm, .inr (2, [.int 0, .ref gr, .ref gt, .ref gw, .ref gk, .ref gi, .ref gp, .ref go, .ref gg, .ref gh])), (bn, .inl (d5, 3, .inl (fun _ => 0))), (rn, .inl (d6, 12, .inl fn)), (so, .inl (d7, 12, .inl (fun _ => 0)))]) hP hD [0, 1, 2, 3, 4] [] rfl rfl (by decide) (by decide) hk1 hFc hP1 hD1
      generalize H1 = H at hP hS ⊢
      have hP : va_P (dC, dI) vwCl [(hm, .inr (3, [.int 0, .int 0, .ref wi, .ref co, .ref sl, .ref rn, .ref so, .ref bn, .ref sm, .ref ah])), (sm, .inr (2, [.int 0, .ref gr, .ref gt, .ref gw, .ref gk, .ref gi, .ref gp, .ref go, .ref gg, .ref gh])), (bn, .inl (d5, 3, .inl (fun _ => 0))), (rn, .inl (d6, 12, .inl fn)), (so, .inl (d7, 12, .inl (fun _ => 0)))] H := hP
      have hD : va_D A [(hm, .inr (3, [.int 0, .int 0, .ref wi, .ref co, .ref sl, .ref rn, .ref so, .ref bn, .ref sm, .ref ah])), (sm, .inr (2, [.int 0, .ref gr, .ref gt, .ref gw, .ref gk, .ref gi, .ref gp, .ref go, .ref gg, .ref gh])), (bn, .inl (d5, 3, .inl (fun _ => 0))), (rn, .inl (d6, 12, .inl fn)), (so, .inl (d7, 12, .inl (fun _ => 0)))] := hD
      refine W.widen (k := 1) (n := 9) (Nat.le_of_ble_eq_true rfl) (Nat.le_of_ble_eq_true rfl) ?_
      obtain rfl := hr5
      refine lv_goto (tgt := 28) hx hb dX3_count_20 (by decide) ?_
      have hP9 := hP.sub (ws' := [(hm, .inr (3, [.int 0, .int 0, .ref wi, .ref co, .ref sl, .ref rn, .ref so, .ref bn, .ref sm, .ref ah]))]) [0] rfl
      have hD9 := hD.sub (ws' := [(hm, .inr (3, [.int 0, .int 0, .ref wi, .ref co, .ref sl, .ref rn, .ref so, .ref bn, .ref sm, .ref ah]))]) [0] (by decide) rfl
      have hK9 := hK.sub (tys' := []) [] rfl
      refine W.widen (k := 1) (n := 9) (Nat.le_of_ble_eq_true rfl) (Nat.le_of_ble_eq_true rfl) ?_
      exact W.iret (v := 0) hx hb hr (fun t ht hW => ⟨⟨0, (0, 0), rfl, by first | (refine Or.inl ?_; (refine ⟨?_, ?_, ?_⟩ <;> (first | rfl | assumption | decide | (simp_all; done) | grind)); done) | (refine Or.inr ?_; (refine ⟨?_, ?_, ?_⟩ <;> (first | rfl | assumption | decide | (simp_all; done) | grind)); done), ⟨by rw [ht]; exact hP9, va_K.moved hW.alike hK9, hD9⟩⟩, hS.F ht⟩) hS.2.2 dX3_count_28
    · refine lv_aload_n hx hb dX3_count_15 rfl (lv_at hl 0 rfl) ?_
      refine lv_iload_n hx hb dX3_count_16 rfl (lv_at hl 1 rfl) ?_
      have hPc := hP.sub (ws' := [(hm, .inr (3, [.int 0, .int 0, .ref wi, .ref co, .ref sl, .ref rn, .ref so, .ref bn, .ref sm, .ref ah])), (sm, .inr (2, [.int 0, .ref gr, .ref gt, .ref gw, .ref gk, .ref gi, .ref gp, .ref go, .ref gg, .ref gh])), (bn, .inl (d5, 3, .inl (fun _ => 0))), (rn, .inl (d6, 12, .inl fn)), (so, .inl (d7, 12, .inl (fun _ => 0)))]) [0, 1, 2, 3, 4] rfl
      have hKc := hK.sub (tys' := [(d5, .int), (d6, .int), (d7, .int)]) [0, 1, 2] rfl
      have hDc := hD.sub (ws' := [(hm, .inr (3, [.int 0, .int 0, .ref wi, .ref co, .ref sl, .ref rn, .ref so, .ref bn, .ref sm, .ref ah])), (sm, .inr (2, [.int 0, .ref gr, .ref gt, .ref gw, .ref gk, .ref gi, .ref gp, .ref go, .ref gg, .ref gh])), (bn, .inl (d5, 3, .inl (fun _ => 0))), (rn, .inl (d6, 12, .inl fn)), (so, .inl (d7, 12, .inl (fun _ => 0)))]) [0, 1, 2, 3, 4] (by decide) rfl
      have hFc := va_free (wc := [(hm, .inr (3, [.int 0, .int 0, .ref wi, .ref co, .ref sl, .ref rn, .ref so, .ref bn, .ref sm, .ref ah])), (sm, .inr (2, [.int 0, .ref gr, .ref gt, .ref gw, .ref gk, .ref gi, .ref gp, .ref go, .ref gg, .ref gh])), (bn, .inl (d5, 3, .inl (fun _ => 0))), (rn, .inl (d6, 12, .inl fn)), (so, .inl (d7, 12, .inl (fun _ => 0)))]) hD hS hA [0, 1, 2, 3, 4] rfl
      refine va_calli (va_runV (As := [.int 3]) (rest := []) ⟨hx, hb, hml, hown, hts⟩ (k3_counted3 l dC dI H.size hm wi co sl rn so bn sm ah 0 gr gt gw gk gi gp go gg gh d5 d6 d7 fn (by first | assumption | decide | omega)) (cwV 1 hts gX3_count_X3_counted rfl rfl rfl (by decide +kernel) ⟨Nat.le_of_ble_eq_true rfl, Nat.le_of_ble_eq_true rfl⟩) ⟨fun a U g mk q => by obtain ⟨q0, q1, qP, qK, qD, qN⟩ := q; exact ⟨q0, q1, qP, va_K.moved (u := U) (U := U.calling g mk a) (Vm.Alike.refl U.vm) qK, qD, zNs.calling qN⟩, va_recv hKc hPc (ci := 3) (q0 := 0) rfl rfl, fun U hU hW => ⟨rfl, by rw [hU], by rw [hU]; exact hPc, va_K.moved hW.alike hKc, hDc.weaken (fun _ _ _ _ => trivial), zNs.warm hW hZN⟩⟩ rfl rfl hl.1 rfl (lv_room (Nat.le_of_ble_eq_true rfl)) dX3_count_17 ⟨Nat.le_of_ble_eq_true rfl, Nat.le_of_ble_eq_true rfl⟩) hS (fun q _ h => hFc q h) hFc (fun r6 u t H1 locs ht hvm hr6 hB hz1 hk1 hS => ?_)
      obtain ⟨hP1, hK1, hD1⟩ := hB
      rw [ht] at hP1
      have hK1 := va_K.moved hvm.symm hK1
      try dsimp only at hr6
      obtain ⟨hP, hD⟩ := va_join (wr := []) (w1 := [(hm, .inr (3, [.int 0, .int 0, .ref wi, .ref co, .ref sl, .ref rn, .ref so, .ref bn, .ref sm, .ref ah])), (sm, .inr (2, [.int 0, .ref gr, .ref gt, .ref gw, .ref gk, .ref gi, .ref gp, .ref go, .ref gg, .ref gh])), (bn, .inl (d5, 3, .inl (fun _ => 0))), (rn, .inl (d6, 12, .inl fn)), (so, .inl (d7, 12, .inl (fun _ => 0)))]) hP hD [0, 1, 2, 3, 4] [] rfl rfl (by decide) (by decide) hk1 hFc hP1 hD1
      generalize H1 = H at hP hS ⊢
      have hP : va_P (dC, dI) vwCl [(hm, .inr (3, [.int 0, .int 0, .ref wi, .ref co, .ref sl, .ref rn, .ref so, .ref bn, .ref sm, .ref ah])), (sm, .inr (2, [.int 0, .ref gr, .ref gt, .ref gw, .ref gk, .ref gi, .ref gp, .ref go, .ref gg, .ref gh])), (bn, .inl (d5, 3, .inl (fun _ => 0))), (rn, .inl (d6, 12, .inl fn)), (so, .inl (d7, 12, .inl (fun _ => 0)))] H := hP
      have hD : va_D A [(hm, .inr (3, [.int 0, .int 0, .ref wi, .ref co, .ref sl, .ref rn, .ref so, .ref bn, .ref sm, .ref ah])), (sm, .inr (2, [.int 0, .ref gr, .ref gt, .ref gw, .ref gk, .ref gi, .ref gp, .ref go, .ref gg, .ref gh])), (bn, .inl (d5, 3, .inl (fun _ => 0))), (rn, .inl (d6, 12, .inl fn)), (so, .inl (d7, 12, .inl (fun _ => 0)))] := hD
      refine W.widen (k := 1) (n := 9) (Nat.le_of_ble_eq_true rfl) (Nat.le_of_ble_eq_true rfl) ?_
      obtain rfl := hr6
      refine lv_goto (tgt := 28) hx hb dX3_count_20 (by decide) ?_
      have hP9 := hP.sub (ws' := [(hm, .inr (3, [.int 0, .int 0, .ref wi, .ref co, .ref sl, .ref rn, .ref so, .ref bn, .ref sm, .ref ah]))]) [0] rfl
      have hD9 := hD.sub (ws' := [(hm, .inr (3, [.int 0, .int 0, .ref wi, .ref co, .ref sl, .ref rn, .ref so, .ref bn, .ref sm, .ref ah]))]) [0] (by decide) rfl
      have hK9 := hK.sub (tys' := []) [] rfl
      refine W.widen (k := 1) (n := 9) (Nat.le_of_ble_eq_true rfl) (Nat.le_of_ble_eq_true rfl) ?_
      exact W.iret (v := 0) hx hb hr (fun t ht hW => ⟨⟨0, (0, 0), rfl, by first | (refine Or.inl ?_; (refine ⟨?_, ?_, ?_⟩ <;> (first | rfl | assumption | decide | (simp_all; done) | grind)); done) | (refine Or.inr ?_; (refine ⟨?_, ?_, ?_⟩ <;> (first | rfl | assumption | decide | (simp_all; done) | grind)); done), ⟨by rw [ht]; exact hP9, va_K.moved hW.alike hK9, hD9⟩⟩, hS.F ht⟩) hS.2.2 dX3_count_28
    · refine lv_aload_n hx hb dX3_count_15 rfl (lv_at hl 0 rfl) ?_
      refine lv_iload_n hx hb dX3_count_16 rfl (lv_at hl 1 rfl) ?_
      have hPc := hP.sub (ws' := [(hm, .inr (3, [.int 0, .int 0, .ref wi, .ref co, .ref sl, .ref rn, .ref so, .ref bn, .ref sm, .ref ah])), (sm, .inr (2, [.int 0, .ref gr, .ref gt, .ref gw, .ref gk, .ref gi, .ref gp, .ref go, .ref gg, .ref gh])), (bn, .inl (d5, 3, .inl (fun _ => 0))), (rn, .inl (d6, 12, .inl fn)), (so, .inl (d7, 12, .inl (fun _ => 0)))]) [0, 1, 2, 3, 4] rfl
      have hKc := hK.sub (tys' := [(d5, .int), (d6, .int), (d7, .int)]) [0, 1, 2] rfl
      have hDc := hD.sub (ws' := [(hm, .inr (3, [.int 0, .int 0, .ref wi, .ref co, .ref sl, .ref rn, .ref so, .ref bn, .ref sm, .ref ah])), (sm, .inr (2, [.int 0, .ref gr, .ref gt, .ref gw, .ref gk, .ref gi, .ref gp, .ref go, .ref gg, .ref gh])), (bn, .inl (d5, 3, .inl (fun _ => 0))), (rn, .inl (d6, 12, .inl fn)), (so, .inl (d7, 12, .inl (fun _ => 0)))]) [0, 1, 2, 3, 4] (by decide) rfl
      have hFc := va_free (wc := [(hm, .inr (3, [.int 0, .int 0, .ref wi, .ref co, .ref sl, .ref rn, .ref so, .ref bn, .ref sm, .ref ah])), (sm, .inr (2, [.int 0, .ref gr, .ref gt, .ref gw, .ref gk, .ref gi, .ref gp, .ref go, .ref gg, .ref gh])), (bn, .inl (d5, 3, .inl (fun _ => 0))), (rn, .inl (d6, 12, .inl fn)), (so, .inl (d7, 12, .inl (fun _ => 0)))]) hD hS hA [0, 1, 2, 3, 4] rfl
      refine va_calli (va_runV (As := [.int 4]) (rest := []) ⟨hx, hb, hml, hown, hts⟩ (k3_counted4 l dC dI H.size hm wi co sl rn so bn sm ah 0 gr gt gw gk gi gp go gg gh d5 d6 d7 fn (by first | assumption | decide | omega)) (cwV 1 hts gX3_count_X3_counted rfl rfl rfl (by decide +kernel) ⟨Nat.le_of_ble_eq_true rfl, Nat.le_of_ble_eq_true rfl⟩) ⟨fun a U g mk q => by obtain ⟨q0, q1, qP, qK, qD, qN⟩ := q; exact ⟨q0, q1, qP, va_K.moved (u := U) (U := U.calling g mk a) (Vm.Alike.refl U.vm) qK, qD, zNs.calling qN⟩, va_recv hKc hPc (ci := 3) (q0 := 0) rfl rfl, fun U hU hW => ⟨rfl, by rw [hU], by rw [hU]; exact hPc, va_K.moved hW.alike hKc, hDc.weaken (fun _ _ _ _ => trivial), zNs.warm hW hZN⟩⟩ rfl rfl hl.1 rfl (lv_room (Nat.le_of_ble_eq_true rfl)) dX3_count_17 ⟨Nat.le_of_ble_eq_true rfl, Nat.le_of_ble_eq_true rfl⟩) hS (fun q _ h => hFc q h) hFc (fun r7 u t H1 locs ht hvm hr7 hB hz1 hk1 hS => ?_)
      obtain ⟨hP1, hK1, hD1⟩ := hB
      rw [ht] at hP1
      have hK1 := va_K.moved hvm.symm hK1
      try dsimp only at hr7
      obtain ⟨hP, hD⟩ := va_join (wr := []) (w1 := [(hm, .inr (3, [.int 0, .int 0, .ref wi, .ref co, .ref sl, .ref rn, .ref so, .ref bn, .ref sm, .ref ah])), (sm, .inr (2, [.int 0, .ref gr, .ref gt, .ref gw, .ref gk, .ref gi, .ref gp, .ref go, .ref gg, .ref gh])), (bn, .inl (d5, 3, .inl (fun _ => 0))), (rn, .inl (d6, 12, .inl fn)), (so, .inl (d7, 12, .inl (fun _ => 0)))]) hP hD [0, 1, 2, 3, 4] [] rfl rfl (by decide) (by decide) hk1 hFc hP1 hD1
      generalize H1 = H at hP hS ⊢
      have hP : va_P (dC, dI) vwCl [(hm, .inr (3, [.int 0, .int 0, .ref wi, .ref co, .ref sl, .ref rn, .ref so, .ref bn, .ref sm, .ref ah])), (sm, .inr (2, [.int 0, .ref gr, .ref gt, .ref gw, .ref gk, .ref gi, .ref gp, .ref go, .ref gg, .ref gh])), (bn, .inl (d5, 3, .inl (fun _ => 0))), (rn, .inl (d6, 12, .inl fn)), (so, .inl (d7, 12, .inl (fun _ => 0)))] H := hP
      have hD : va_D A [(hm, .inr (3, [.int 0, .int 0, .ref wi, .ref co, .ref sl, .ref rn, .ref so, .ref bn, .ref sm, .ref ah])), (sm, .inr (2, [.int 0, .ref gr, .ref gt, .ref gw, .ref gk, .ref gi, .ref gp, .ref go, .ref gg, .ref gh])), (bn, .inl (d5, 3, .inl (fun _ => 0))), (rn, .inl (d6, 12, .inl fn)), (so, .inl (d7, 12, .inl (fun _ => 0)))] := hD
      refine W.widen (k := 1) (n := 9) (Nat.le_of_ble_eq_true rfl) (Nat.le_of_ble_eq_true rfl) ?_
      obtain rfl := hr7
      refine lv_goto (tgt := 28) hx hb dX3_count_20 (by decide) ?_
      have hP9 := hP.sub (ws' := [(hm, .inr (3, [.int 0, .int 0, .ref wi, .ref co, .ref sl, .ref rn, .ref so, .ref bn, .ref sm, .ref ah]))]) [0] rfl
      have hD9 := hD.sub (ws' := [(hm, .inr (3, [.int 0, .int 0, .ref wi, .ref co, .ref sl, .ref rn, .ref so, .ref bn, .ref sm, .ref ah]))]) [0] (by decide) rfl
      have hK9 := hK.sub (tys' := []) [] rfl
      refine W.widen (k := 1) (n := 9) (Nat.le_of_ble_eq_true rfl) (Nat.le_of_ble_eq_true rfl) ?_
      exact W.iret (v := 0) hx hb hr (fun t ht hW => ⟨⟨0, (0, 0), rfl, by first | (refine Or.inl ?_; (refine ⟨?_, ?_, ?_⟩ <;> (first | rfl | assumption | decide | (simp_all; done) | grind)); done) | (refine Or.inr ?_; (refine ⟨?_, ?_, ?_⟩ <;> (first | rfl | assumption | decide | (simp_all; done) | grind)); done), ⟨by rw [ht]; exact hP9, va_K.moved hW.alike hK9, hD9⟩⟩, hS.F ht⟩) hS.2.2 dX3_count_28
    · refine lv_aload_n hx hb dX3_count_15 rfl (lv_at hl 0 rfl) ?_
      refine lv_iload_n hx hb dX3_count_16 rfl (lv_at hl 1 rfl) ?_
      have hPc := hP.sub (ws' := [(hm, .inr (3, [.int 0, .int 0, .ref wi, .ref co, .ref sl, .ref rn, .ref so, .ref bn, .ref sm, .ref ah])), (sm, .inr (2, [.int 0, .ref gr, .ref gt, .ref gw, .ref gk, .ref gi, .ref gp, .ref go, .ref gg, .ref gh])), (bn, .inl (d5, 3, .inl (fun _ => 0))), (rn, .inl (d6, 12, .inl fn)), (so, .inl (d7, 12, .inl (fun _ => 0)))]) [0, 1, 2, 3, 4] rfl
      have hKc := hK.sub (tys' := [(d5, .int), (d6, .int), (d7, .int)]) [0, 1, 2] rfl
      have hDc := hD.sub (ws' := [(hm, .inr (3, [.int 0, .int 0, .ref wi, .ref co, .ref sl, .ref rn, .ref so, .ref bn, .ref sm, .ref ah])), (sm, .inr (2, [.int 0, .ref gr, .ref gt, .ref gw, .ref gk, .ref gi, .ref gp, .ref go, .ref gg, .ref gh])), (bn, .inl (d5, 3, .inl (fun _ => 0))), (rn, .inl (d6, 12, .inl fn)), (so, .inl (d7, 12, .inl (fun _ => 0)))]) [0, 1, 2, 3, 4] (by decide) rfl
      have hFc := va_free (wc := [(hm, .inr (3, [.int 0, .int 0, .ref wi, .ref co, .ref sl, .ref rn, .ref so, .ref bn, .ref sm, .ref ah])), (sm, .inr (2, [.int 0, .ref gr, .ref gt, .ref gw, .ref gk, .ref gi, .ref gp, .ref go, .ref gg, .ref gh])), (bn, .inl (d5, 3, .inl (fun _ => 0))), (rn, .inl (d6, 12, .inl fn)), (so, .inl (d7, 12, .inl (fun _ => 0)))]) hD hS hA [0, 1, 2, 3, 4] rfl
      refine va_calli (va_runV (As := [.int 5]) (rest := []) ⟨hx, hb, hml, hown, hts⟩ (k3_counted5 l dC dI H.size hm wi co sl rn so bn sm ah 0 gr gt gw gk gi gp go gg gh d5 d6 d7 fn (by first | assumption | decide | omega)) (cwV 1 hts gX3_count_X3_counted rfl rfl rfl (by decide +kernel) ⟨Nat.le_of_ble_eq_true rfl, Nat.le_of_ble_eq_true rfl⟩) ⟨fun a U g mk q => by obtain ⟨q0, q1, qP, qK, qD, qN⟩ := q; exact ⟨q0, q1, qP, va_K.moved (u := U) (U := U.calling g mk a) (Vm.Alike.refl U.vm) qK, qD, zNs.calling qN⟩, va_recv hKc hPc (ci := 3) (q0 := 0) rfl rfl, fun U hU hW => ⟨rfl, by rw [hU], by rw [hU]; exact hPc, va_K.moved hW.alike hKc, hDc.weaken (fun _ _ _ _ => trivial), zNs.warm hW hZN⟩⟩ rfl rfl hl.1 rfl (lv_room (Nat.le_of_ble_eq_true rfl)) dX3_count_17 ⟨Nat.le_of_ble_eq_true rfl, Nat.le_of_ble_eq_true rfl⟩) hS (fun q _ h => hFc q h) hFc (fun r8 u t H1 locs ht hvm hr8 hB hz1 hk1 hS => ?_)
      obtain ⟨hP1, hK1, hD1⟩ := hB
      rw [ht] at hP1
      have hK1 := va_K.moved hvm.symm hK1
      try dsimp only at hr8
      obtain ⟨hP, hD⟩ := va_join (wr := []) (w1 := [(hm, .inr (3, [.int 0, .int 0, .ref wi, .ref co, .ref sl, .ref rn, .ref so, .ref bn, .ref sm, .ref ah])), (sm, .inr (2, [.int 0, .ref gr, .ref gt, .ref gw, .ref gk, .ref gi, .ref gp, .ref go, .ref gg, .ref gh])), (bn, .inl (d5, 3, .inl (fun _ => 0))), (rn, .inl (d6, 12, .inl fn)), (so, .inl (d7, 12, .inl (fun _ => 0)))]) hP hD [0, 1, 2, 3, 4] [] rfl rfl (by decide) (by decide) hk1 hFc hP1 hD1
      generalize H1 = H at hP hS ⊢
      have hP : va_P (dC, dI) vwCl [(hm, .inr (3, [.int 0, .int 0, .ref wi, .ref co, .ref sl, .ref rn, .ref so, .ref bn, .ref sm, .ref ah])), (sm, .inr (2, [.int 0, .ref gr, .ref gt, .ref gw, .ref gk, .ref gi, .ref gp, .ref go, .ref gg, .ref gh])), (bn, .inl (d5, 3, .inl (fun _ => 0))), (rn, .inl (d6, 12, .inl fn)), (so, .inl (d7, 12, .inl (fun _ => 0)))] H := hP
      have hD : va_D A [(hm, .inr (3, [.int 0, .int 0, .ref wi, .ref co, .ref sl, .ref rn, .ref so, .ref bn, .ref sm, .ref ah])), (sm, .inr (2, [.int 0, .ref gr, .ref gt, .ref gw, .ref gk, .ref gi, .ref gp, .ref go, .ref gg, .ref gh])), (bn, .inl (d5, 3, .inl (fun _ => 0))), (rn, .inl (d6, 12, .inl fn)), (so, .inl (d7, 12, .inl (fun _ => 0)))] := hD
      refine W.widen (k := 1) (n := 9) (Nat.le_of_ble_eq_true rfl) (Nat.le_of_ble_eq_true rfl) ?_
      obtain rfl := hr8
      refine lv_goto (tgt := 28) hx hb dX3_count_20 (by decide) ?_
      have hP9 := hP.sub (ws' := [(hm, .inr (3, [.int 0, .int 0, .ref wi, .ref co, .ref sl, .ref rn, .ref so, .ref bn, .ref sm, .ref ah]))]) [0] rfl
      have hD9 := hD.sub (ws' := [(hm, .inr (3, [.int 0, .int 0, .ref wi, .ref co, .ref sl, .ref rn, .ref so, .ref bn, .ref sm, .ref ah]))]) [0] (by decide) rfl
      have hK9 := hK.sub (tys' := []) [] rfl
      refine W.widen (k := 1) (n := 9) (Nat.le_of_ble_eq_true rfl) (Nat.le_of_ble_eq_true rfl) ?_
      exact W.iret (v := 0) hx hb hr (fun t ht hW => ⟨⟨0, (0, 0), rfl, by first | (refine Or.inl ?_; (refine ⟨?_, ?_, ?_⟩ <;> (first | rfl | assumption | decide | (simp_all; done) | grind)); done) | (refine Or.inr ?_; (refine ⟨?_, ?_, ?_⟩ <;> (first | rfl | assumption | decide | (simp_all; done) | grind)); done), ⟨by rw [ht]; exact hP9, va_K.moved hW.alike hK9, hD9⟩⟩, hS.F ht⟩) hS.2.2 dX3_count_28
    · refine lv_aload_n hx hb dX3_count_15 rfl (lv_at hl 0 rfl) ?_
      refine lv_iload_n hx hb dX3_count_16 rfl (lv_at hl 1 rfl) ?_
      have hPc := hP.sub (ws' := [(hm, .inr (3, [.int 0, .int 0, .ref wi, .ref co, .ref sl, .ref rn, .ref so, .ref bn, .ref sm, .ref ah])), (sm, .inr (2, [.int 0, .ref gr, .ref gt, .ref gw, .ref gk, .ref gi, .ref gp, .ref go, .ref gg, .ref gh])), (bn, .inl (d5, 3, .inl (fun _ => 0))), (rn, .inl (d6, 12, .inl fn)), (so, .inl (d7, 12, .inl (fun _ => 0)))]) [0, 1, 2, 3, 4] rfl
      have hKc := hK.sub (tys' := [(d5, .int), (d6, .int), (d7, .int)]) [0, 1, 2] rfl
      have hDc := hD.sub (ws' := [(hm, .inr (3, [.int 0, .int 0, .ref wi, .ref co, .ref sl, .ref rn, .ref so, .ref bn, .ref sm, .ref ah])), (sm, .inr (2, [.int 0, .ref gr, .ref gt, .ref gw, .ref gk, .ref gi, .ref gp, .ref go, .ref gg, .ref gh])), (bn, .inl (d5, 3, .inl (fun _ => 0))), (rn, .inl (d6, 12, .inl fn)), (so, .inl (d7, 12, .inl (fun _ => 0)))]) [0, 1, 2, 3, 4] (by decide) rfl
      have hFc := va_free (wc := [(hm, .inr (3, [.int 0, .int 0, .ref wi, .ref co, .ref sl, .ref rn, .ref so, .ref bn, .ref sm, .ref ah])), (sm, .inr (2, [.int 0, .ref gr, .ref gt, .ref gw, .ref gk, .ref gi, .ref gp, .ref go, .ref gg, .ref gh])), (bn, .inl (d5, 3, .inl (fun _ => 0))), (rn, .inl (d6, 12, .inl fn)), (so, .inl (d7, 12, .inl (fun _ => 0)))]) hD hS hA [0, 1, 2, 3, 4] rfl
      refine va_calli (va_runV (As := [.int 6]) (rest := []) ⟨hx, hb, hml, hown, hts⟩ (k3_counted6 l dC dI H.size hm wi co sl rn so bn sm ah 0 gr gt gw gk gi gp go gg gh d5 d6 d7 fn (by first | assumption | decide | omega)) (cwV 1 hts gX3_count_X3_counted rfl rfl rfl (by decide +kernel) ⟨Nat.le_of_ble_eq_true rfl, Nat.le_of_ble_eq_true rfl⟩) ⟨fun a U g mk q => by obtain ⟨q0, q1, qP, qK, qD, qN⟩ := q; exact ⟨q0, q1, qP, va_K.moved (u := U) (U := U.calling g mk a) (Vm.Alike.refl U.vm) qK, qD, zNs.calling qN⟩, va_recv hKc hPc (ci := 3) (q0 := 0) rfl rfl, fun U hU hW => ⟨rfl, by rw [hU], by rw [hU]; exact hPc, va_K.moved hW.alike hKc, hDc.weaken (fun _ _ _ _ => trivial), zNs.warm hW hZN⟩⟩ rfl rfl hl.1 rfl (lv_room (Nat.le_of_ble_eq_true rfl)) dX3_count_17 ⟨Nat.le_of_ble_eq_true rfl, Nat.le_of_ble_eq_true rfl⟩) hS (fun q _ h => hFc q h) hFc (fun r9 u t H1 locs ht hvm hr9 hB hz1 hk1 hS => ?_)
      obtain ⟨hP1, hK1, hD1⟩ := hB
      rw [ht] at hP1
      have hK1 := va_K.moved hvm.symm hK1
      try dsimp only at hr9
      obtain ⟨hP, hD⟩ := va_join (wr := []) (w1 := [(hm, .inr (3, [.int 0, .int 0, .ref wi, .ref co, .ref sl, .ref rn, .ref so, .ref bn, .ref sm, .ref ah])), (sm, .inr (2, [.int 0, .ref gr, .ref gt, .ref gw, .ref gk, .ref gi, .ref gp, .ref go, .ref gg, .ref gh])), (bn, .inl (d5, 3, .inl (fun _ => 0))), (rn, .inl (d6, 12, .inl fn)), (so, .inl (d7, 12, .inl (fun _ => 0)))]) hP hD [0, 1, 2, 3, 4] [] rfl rfl (by decide) (by decide) hk1 hFc hP1 hD1
      generalize H1 = H at hP hS ⊢
      have hP : va_P (dC, dI) vwCl [(hm, .inr (3, [.int 0, .int 0, .ref wi, .ref co, .ref sl, .ref rn, .ref so, .ref bn, .ref sm, .ref ah])), (sm, .inr (2, [.int 0, .ref gr, .ref gt, .ref gw, .ref gk, .ref gi, .ref gp, .ref go, .ref gg, .ref gh])), (bn, .inl (d5, 3, .inl (fun _ => 0))), (rn, .inl (d6, 12, .inl fn)), (so, .inl (d7, 12, .inl (fun _ => 0)))] H := hP
      have hD : va_D A [(hm, .inr (3, [.int 0, .int 0, .ref wi, .ref co, .ref sl, .ref rn, .ref so, .ref bn, .ref sm, .ref ah])), (sm, .inr (2, [.int 0, .ref gr, .ref gt, .ref gw, .ref gk, .ref gi, .ref gp, .ref go, .ref gg, .ref gh])), (bn, .inl (d5, 3, .inl (fun _ => 0))), (rn, .inl (d6, 12, .inl fn)), (so, .inl (d7, 12, .inl (fun _ => 0)))] := hD
      refine W.widen (k := 1) (n := 9) (Nat.le_of_ble_eq_true rfl) (Nat.le_of_ble_eq_true rfl) ?_
      obtain rfl := hr9
      refine lv_goto (tgt := 28) hx hb dX3_count_20 (by decide) ?_
      have hP9 := hP.sub (ws' := [(hm, .inr (3, [.int 0, .int 0, .ref wi, .ref co, .ref sl, .ref rn, .ref so, .ref bn, .ref sm, .ref ah]))]) [0] rfl
      have hD9 := hD.sub (ws' := [(hm, .inr (3, [.int 0, .int 0, .ref wi, .ref co, .ref sl, .ref rn, .ref so, .ref bn, .ref sm, .ref ah]))]) [0] (by decide) rfl
      have hK9 := hK.sub (tys' := []) [] rfl
      refine W.widen (k := 1) (n := 9) (Nat.le_of_ble_eq_true rfl) (Nat.le_of_ble_eq_true rfl) ?_
      exact W.iret (v := 0) hx hb hr (fun t ht hW => ⟨⟨0, (0, 0), rfl, by first | (refine Or.inl ?_; (refine ⟨?_, ?_, ?_⟩ <;> (first | rfl | assumption | decide | (simp_all; done) | grind)); done) | (refine Or.inr ?_; (refine ⟨?_, ?_, ?_⟩ <;> (first | rfl | assumption | decide | (simp_all; done) | grind)); done), ⟨by rw [ht]; exact hP9, va_K.moved hW.alike hK9, hD9⟩⟩, hS.F ht⟩) hS.2.2 dX3_count_28
    · refine lv_aload_n hx hb dX3_count_15 rfl (lv_at hl 0 rfl) ?_
      refine lv_iload_n hx hb dX3_count_16 rfl (lv_at hl 1 rfl) ?_
      have hPc := hP.sub (ws' := [(hm, .inr (3, [.int 0, .int 0, .ref wi, .ref co, .ref sl, .ref rn, .ref so, .ref bn, .ref sm, .ref ah])), (sm, .inr (2, [.int 0, .ref gr, .ref gt, .ref gw, .ref gk, .ref gi, .ref gp, .ref go, .ref gg, .ref gh])), (bn, .inl (d5, 3, .inl (fun _ => 0))), (rn, .inl (d6, 12, .inl fn)), (so, .inl (d7, 12, .inl (fun _ => 0)))]) [0, 1, 2, 3, 4] rfl
      have hKc := hK.sub (tys' := [(d5, .int), (d6, .int), (d7, .int)]) [0, 1, 2] rfl
      have hDc := hD.sub (ws' := [(hm, .inr (3, [.int 0, .int 0, .ref wi, .ref co, .ref sl, .ref rn, .ref so, .ref bn, .ref sm, .ref ah])), (sm, .inr (2, [.int 0, .ref gr, .ref gt, .ref gw, .ref gk, .ref gi, .ref gp, .ref go, .ref gg, .ref gh])), (bn, .inl (d5, 3, .inl (fun _ => 0))), (rn, .inl (d6, 12, .inl fn)), (so, .inl (d7, 12, .inl (fun _ => 0)))]) [0, 1, 2, 3, 4] (by decide) rfl
      have hFc := va_free (wc := [(hm, .inr (3, [.int 0, .int 0, .ref wi, .ref co, .ref sl, .ref rn, .ref so, .ref bn, .ref sm, .ref ah])), (sm, .inr (2, [.int 0, .ref gr, .ref gt, .ref gw, .ref gk, .ref gi, .ref gp, .ref go, .ref gg, .ref gh])), (bn, .inl (d5, 3, .inl (fun _ => 0))), (rn, .inl (d6, 12, .inl fn)), (so, .inl (d7, 12, .inl (fun _ => 0)))]) hD hS hA [0, 1, 2, 3, 4] rfl
      refine va_calli (va_runV (As := [.int 7]) (rest := []) ⟨hx, hb, hml, hown, hts⟩ (k3_counted7 l dC dI H.size hm wi co sl rn so bn sm ah 0 gr gt gw gk gi gp go gg gh d5 d6 d7 fn (by first | assumption | decide | omega)) (cwV 1 hts gX3_count_X3_counted rfl rfl rfl (by decide +kernel) ⟨Nat.le_of_ble_eq_true rfl, Nat.le_of_ble_eq_true rfl⟩) ⟨fun a U g mk q => by obtain ⟨q0, q1, qP, qK, qD, qN⟩ := q; exact ⟨q0, q1, qP, va_K.moved (u := U) (U := U.calling g mk a) (Vm.Alike.refl U.vm) qK, qD, zNs.calling qN⟩, va_recv hKc hPc (ci := 3) (q0 := 0) rfl rfl, fun U hU hW => ⟨rfl, by rw [hU], by rw [hU]; exact hPc, va_K.moved hW.alike hKc, hDc.weaken (fun _ _ _ _ => trivial), zNs.warm hW hZN⟩⟩ rfl rfl hl.1 rfl (lv_room (Nat.le_of_ble_eq_true rfl)) dX3_count_17 ⟨Nat.le_of_ble_eq_true rfl, Nat.le_of_ble_eq_true rfl⟩) hS (fun q _ h => hFc q h) hFc (fun r10 u t H1 locs ht hvm hr10 hB hz1 hk1 hS => ?_)
      obtain ⟨hP1, hK1, hD1⟩ := hB
      rw [ht] at hP1
      have hK1 := va_K.moved hvm.symm hK1
      try dsimp only at hr10
      obtain ⟨hP, hD⟩ := va_join (wr := []) (w1 := [(hm, .inr (3, [.int 0, .int 0, .ref wi, .ref co, .ref sl, .ref rn, .ref so, .ref bn, .ref sm, .ref ah])), (sm, .inr (2, [.int 0, .ref gr, .ref gt, .ref gw, .ref gk, .ref gi, .ref gp, .ref go, .ref gg, .ref gh])), (bn, .inl (d5, 3, .inl (fun _ => 0))), (rn, .inl (d6, 12, .inl fn)), (so, .inl (d7, 12, .inl (fun _ => 0)))]) hP hD [0, 1, 2, 3, 4] [] rfl rfl (by decide) (by decide) hk1 hFc hP1 hD1
      generalize H1 = H at hP hS ⊢
      have hP : va_P (dC, dI) vwCl [(hm, .inr (3, [.int 0, .int 0, .ref wi, .ref co, .ref sl, .ref rn, .ref so, .ref bn, .ref sm, .ref ah])), (sm, .inr (2, [.int 0, .ref gr, .ref gt, .ref gw, .ref gk, .ref gi, .ref gp, .ref go, .ref gg, .ref gh])), (bn, .inl (d5, 3, .inl (fun _ => 0))), (rn, .inl (d6, 12, .inl fn)), (so, .inl (d7, 12, .inl (fun _ => 0)))] H := hP
      have hD : va_D A [(hm, .inr (3, [.int 0, .int 0, .ref wi, .ref co, .ref sl, .ref rn, .ref so, .ref bn, .ref sm, .ref ah])), (sm, .inr (2, [.int 0, .ref gr, .ref gt, .ref gw, .ref gk, .ref gi, .ref gp, .ref go, .ref gg, .ref gh])), (bn, .inl (d5, 3, .inl (fun _ => 0))), (rn, .inl (d6, 12, .inl fn)), (so, .inl (d7, 12, .inl (fun _ => 0)))] := hD
      refine W.widen (k := 1) (n := 9) (Nat.le_of_ble_eq_true rfl) (Nat.le_of_ble_eq_true rfl) ?_
      obtain rfl := hr10
      refine lv_goto (tgt := 28) hx hb dX3_count_20 (by decide) ?_
      have hP9 := hP.sub (ws' := [(hm, .inr (3, [.int 0, .int 0, .ref wi, .ref co, .ref sl, .ref rn, .ref so, .ref bn, .ref sm, .ref ah]))]) [0] rfl
      have hD9 := hD.sub (ws' := [(hm, .inr (3, [.int 0, .int 0, .ref wi, .ref co, .ref sl, .ref rn, .ref so, .ref bn, .ref sm, .ref ah]))]) [0] (by decide) rfl
      have hK9 := hK.sub (tys' := []) [] rfl
      refine W.widen (k := 1) (n := 9) (Nat.le_of_ble_eq_true rfl) (Nat.le_of_ble_eq_true rfl) ?_
      exact W.iret (v := 4) hx hb hr (fun t ht hW => ⟨⟨4, (0, 0), rfl, by first | (refine Or.inl ?_; (refine ⟨?_, ?_, ?_⟩ <;> (first | rfl | assumption | decide | (simp_all; done) | grind)); done) | (refine Or.inr ?_; (refine ⟨?_, ?_, ?_⟩ <;> (first | rfl | assumption | decide | (simp_all; done) | grind)); done), ⟨by rw [ht]; exact hP9, va_K.moved hW.alike hK9, hD9⟩⟩, hS.F ht⟩) hS.2.2 dX3_count_28
    · refine lv_aload_n hx hb dX3_count_15 rfl (lv_at hl 0 rfl) ?_
      refine lv_iload_n hx hb dX3_count_16 rfl (lv_at hl 1 rfl) ?_
      have hPc := hP.sub (ws' := [(hm, .inr (3, [.int 0, .int 0, .ref wi, .ref co, .ref sl, .ref rn, .ref so, .ref bn, .ref sm, .ref ah])), (sm, .inr (2, [.int 0, .ref gr, .ref gt, .ref gw, .ref gk, .ref gi, .ref gp, .ref go, .ref gg, .ref gh])), (bn, .inl (d5, 3, .inl (fun _ => 0))), (rn, .inl (d6, 12, .inl fn)), (so, .inl (d7, 12, .inl (fun _ => 0)))]) [0, 1, 2, 3, 4] rfl
      have hKc := hK.sub (tys' := [(d5, .int), (d6, .int), (d7, .int)]) [0, 1, 2] rfl
      have hDc := hD.sub (ws' := [(hm, .inr (3, [.int 0, .int 0, .ref wi, .ref co, .ref sl, .ref rn, .ref so, .ref bn, .ref sm, .ref ah])), (sm, .inr (2, [.int 0, .ref gr, .ref gt, .ref gw, .ref gk, .ref gi, .ref gp, .ref go, .ref gg, .ref gh])), (bn, .inl (d5, 3, .inl (fun _ => 0))), (rn, .inl (d6, 12, .inl fn)), (so, .inl (d7, 12, .inl (fun _ => 0)))]) [0, 1, 2, 3, 4] (by decide) rfl
      have hFc := va_free (wc := [(hm, .inr (3, [.int 0, .int 0, .ref wi, .ref co, .ref sl, .ref rn, .ref so, .ref bn, .ref sm, .ref ah])), (sm, .inr (2, [.int 0, .ref gr, .ref gt, .ref gw, .ref gk, .ref gi, .ref gp, .ref go, .ref gg, .ref gh])), (bn, .inl (d5, 3, .inl (fun _ => 0))), (rn, .inl (d6, 12, .inl fn)), (so, .inl (d7, 12, .inl (fun _ => 0)))]) hD hS hA [0, 1, 2, 3, 4] rfl
      refine va_calli (va_runV (As := [.int 8]) (rest := []) ⟨hx, hb, hml, hown, hts⟩ (k3_counted8 l dC dI H.size hm wi co sl rn so bn sm ah 0 gr gt gw gk gi gp go gg gh d5 d6 d7 fn (by first | assumption | decide | omega)) (cwV 1 hts gX3_count_X3_counted rfl rfl rfl (by decide +kernel) ⟨Nat.le_of_ble_eq_true rfl, Nat.le_of_ble_eq_true rfl⟩) ⟨fun a U g mk q => by obtain ⟨q0, q1, qP, qK, qD, qN⟩ := q; exact ⟨q0, q1, qP, va_K.moved (u := U) (U := U.calling g mk a) (Vm.Alike.refl U.vm) qK, qD, zNs.calling qN⟩, va_recv hKc hPc (ci := 3) (q0 := 0) rfl rfl, fun U hU hW => ⟨rfl, by rw [hU], by rw [hU]; exact hPc, va_K.moved hW.alike hKc, hDc.weaken (fun _ _ _ _ => trivial), zNs.warm hW hZN⟩⟩ rfl rfl hl.1 rfl (lv_room (Nat.le_of_ble_eq_true rfl)) dX3_count_17 ⟨Nat.le_of_ble_eq_true rfl, Nat.le_of_ble_eq_true rfl⟩) hS (fun q _ h => hFc q h) hFc (fun r11 u t H1 locs ht hvm hr11 hB hz1 hk1 hS => ?_)
      obtain ⟨hP1, hK1, hD1⟩ := hB
      rw [ht] at hP1
      have hK1 := va_K.moved hvm.symm hK1
      try dsimp only at hr11
      obtain ⟨hP, hD⟩ := va_join (wr := []) (w1 := [(hm, .inr (3, [.int 0, .int 0, .ref wi, .ref co, .ref sl, .ref rn, .ref so, .ref bn, .ref sm, .ref ah])), (sm, .inr (2, [.int 0, .ref gr, .ref gt, .ref gw, .ref gk, .ref gi, .ref gp, .ref go, .ref gg, .ref gh])), (bn, .inl (d5, 3, .inl (fun _ => 0))), (rn, .inl (d6, 12, .inl fn)), (so, .inl (d7, 12, .inl (fun _ => 0)))]) hP hD [0, 1, 2, 3, 4] [] rfl rfl (by decide) (by decide) hk1 hFc hP1 hD1
      generalize H1 = H at hP hS ⊢
      have hP : va_P (dC, dI) vwCl [(hm, .inr (3, [.int 0, .int 0, .ref wi, .ref co, .ref sl, .ref rn, .ref so, .ref bn, .ref sm, .ref ah])), (sm, .inr (2, [.int 0, .ref gr, .ref gt, .ref gw, .ref gk, .ref gi, .ref gp, .ref go, .ref gg, .ref gh])), (bn, .inl (d5, 3, .inl (fun _ => 0))), (rn, .inl (d6, 12, .inl fn)), (so, .inl (d7, 12, .inl (fun _ => 0)))] H := hP
      have hD : va_D A [(hm, .inr (3, [.int 0, .int 0, .ref wi, .ref co, .ref sl, .ref rn, .ref so, .ref bn, .ref sm, .ref ah])), (sm, .inr (2, [.int 0, .ref gr, .ref gt, .ref gw, .ref gk, .ref gi, .ref gp, .ref go, .ref gg, .ref gh])), (bn, .inl (d5, 3, .inl (fun _ => 0))), (rn, .inl (d6, 12, .inl fn)), (so, .inl (d7, 12, .inl (fun _ => 0)))] := hD
      refine W.widen (k := 1) (n := 9) (Nat.le_of_ble_eq_true rfl) (Nat.le_of_ble_eq_true rfl) ?_
      obtain rfl := hr11
      refine lv_goto (tgt := 28) hx hb dX3_count_20 (by decide) ?_
      have hP9 := hP.sub (ws' := [(hm, .inr (3, [.int 0, .int 0, .ref wi, .ref co, .ref sl, .ref rn, .ref so, .ref bn, .ref sm, .ref ah]))]) [0] rfl
      have hD9 := hD.sub (ws' := [(hm, .inr (3, [.int 0, .int 0, .ref wi, .ref co, .ref sl, .ref rn, .ref so, .ref bn, .ref sm, .ref ah]))]) [0] (by decide) rfl
      have hK9 := hK.sub (tys' := []) [] rfl
      refine W.widen (k := 1) (n := 9) (Nat.le_of_ble_eq_true rfl) (Nat.le_of_ble_eq_true rfl) ?_
      exact W.iret (v := 0) hx hb hr (fun t ht hW => ⟨⟨0, (0, 0), rfl, by first | (refine Or.inl ?_; (refine ⟨?_, ?_, ?_⟩ <;> (first | rfl | assumption | decide | (simp_all; done) | grind)); done) | (refine Or.inr ?_; (refine ⟨?_, ?_, ?_⟩ <;> (first | rfl | assumption | decide | (simp_all; done) | grind)); done), ⟨by rw [ht]; exact hP9, va_K.moved hW.alike hK9, hD9⟩⟩, hS.F ht⟩) hS.2.2 dX3_count_28
  · refine lv_if_eq (tgt := 23) hx hb dX3_count_12 (by decide) (fun c12 => ?_) (fun c12 => absurd c12 (by decide))
    refine lv_aload_n hx hb dX3_count_23 rfl (lv_at hl 0 rfl) ?_
    refine lv_iconst (v := 1) hx hb dX3_count_24 (by decide) ?_
    have hPc := hP.sub (ws' := [(hm, .inr (3, [.int 0, .int 0, .ref wi, .ref co, .ref sl, .ref rn, .ref so, .ref bn, .ref sm, .ref ah]))]) [0] rfl
    have hKc := hK.sub (tys' := []) [] rfl
    have hDc := hD.sub (ws' := [(hm, .inr (3, [.int 0, .int 0, .ref wi, .ref co, .ref sl, .ref rn, .ref so, .ref bn, .ref sm, .ref ah]))]) [0] (by decide) rfl
    have hFc := va_free (wc := [(hm, .inr (3, [.int 0, .int 0, .ref wi, .ref co, .ref sl, .ref rn, .ref so, .ref bn, .ref sm, .ref ah]))]) hD hS hA [0] rfl
    refine va_calli (va_runV (As := [.int 1]) (rest := []) ⟨hx, hb, hml, hown, hts⟩ (k3_no l dC dI H.size hm wi co sl rn so bn sm ah 0 0 1 ) (cwV 1 hts gX3_count_X3_no rfl rfl rfl (by decide +kernel) ⟨Nat.le_of_ble_eq_true rfl, Nat.le_of_ble_eq_true rfl⟩) ⟨fun a U g mk q => by obtain ⟨q0, q1, qP, qK, qD⟩ := q; exact ⟨q0, q1, qP, va_K.moved (u := U) (U := U.calling g mk a) (Vm.Alike.refl U.vm) qK, qD⟩, va_recv hKc hPc (ci := 3) (q0 := 0) rfl rfl, fun U hU hW => ⟨rfl, by rw [hU], by rw [hU]; exact hPc, va_K.moved hW.alike hKc, hDc.weaken (fun _ _ _ _ => trivial)⟩⟩ rfl rfl hl.1 rfl (lv_room (Nat.le_of_ble_eq_true rfl)) dX3_count_25 ⟨Nat.le_of_ble_eq_true rfl, Nat.le_of_ble_eq_true rfl⟩) hS (fun q _ h => hFc q h) hFc (fun r13 u t H1 locs ht hvm hr13 hB hz1 hk1 hS => ?_)
    obtain ⟨hP1, hK1, hD1⟩ := hB
    rw [ht] at hP1
    have hK1 := va_K.moved hvm.symm hK1
    try dsimp only at hr13
    obtain ⟨hP, hD⟩ := va_join (wr := [(sm, .inr (2, [.int 0, .ref gr, .ref gt, .ref gw, .ref gk, .ref gi, .ref gp, .ref go, .ref gg, .ref gh])), (bn, .inl (d5, 3, .inl (fun _ => 0))), (rn, .inl (d6, 12, .inl fn)), (so, .inl (d7, 12, .inl (fun _ => 0)))]) (w1 := [(hm, .inr (3, [.int 1, .int 0, .ref wi, .ref co, .ref sl, .ref rn, .ref so, .ref bn, .ref sm, .ref ah]))]) hP hD [0] [1, 2, 3, 4] rfl rfl (by decide) (by decide) hk1 hFc hP1 hD1
    generalize H1 = H at hP hS ⊢
    have hP : va_P (dC, dI) vwCl [(sm, .inr (2, [.int 0, .ref gr, .ref gt, .ref gw, .ref gk, .ref gi, .ref gp, .ref go, .ref gg, .ref gh])), (bn, .inl (d5, 3, .inl (fun _ => 0))), (rn, .inl (d6, 12, .inl fn)), (so, .inl (d7, 12, .inl (fun _ => 0))), (hm, .inr (3, [.int 1, .int 0, .ref wi, .ref co, .ref sl, .ref rn, .ref so, .ref bn, .ref sm, .ref ah]))] H := hP
    have hD : va_D A [(sm, .inr (2, [.int 0, .ref gr, .ref gt, .ref gw, .ref gk, .ref gi, .ref gp, .ref go, .ref gg, .ref gh])), (bn, .inl (d5, 3, .inl (fun _ => 0))), (rn, .inl (d6, 12, .inl fn)), (so, .inl (d7, 12, .inl (fun _ => 0))), (hm, .inr (3, [.int 1, .int 0, .ref wi, .ref co, .ref sl, .ref rn, .ref so, .ref bn, .ref sm, .ref ah]))] := hD
    obtain rfl := hr13
    have hP9 := hP.sub (ws' := [(hm, .inr (3, [.int 1, .int 0, .ref wi, .ref co, .ref sl, .ref rn, .ref so, .ref bn, .ref sm, .ref ah]))]) [4] rfl
    have hD9 := hD.sub (ws' := [(hm, .inr (3, [.int 1, .int 0, .ref wi, .ref co, .ref sl, .ref rn, .ref so, .ref bn, .ref sm, .ref ah]))]) [4] (by decide) rfl
    have hK9 := hK.sub (tys' := []) [] rfl
    refine W.widen (k := 1) (n := 9) (Nat.le_of_ble_eq_true rfl) (Nat.le_of_ble_eq_true rfl) ?_
    exact W.iret (v := 0) hx hb hr (fun t ht hW => ⟨⟨0, (1, 0), rfl, by first | (refine Or.inl ?_; (refine ⟨?_, ?_, ?_⟩ <;> (first | rfl | assumption | decide | (simp_all; done) | grind)); done) | (refine Or.inr ?_; (refine ⟨?_, ?_, ?_⟩ <;> (first | rfl | assumption | decide | (simp_all; done) | grind)); done), ⟨by rw [ht]; exact hP9, va_K.moved hW.alike hK9, hD9⟩⟩, hS.F ht⟩) hS.2.2 dX3_count_28

set_option maxHeartbeats 4000000 in
set_option maxRecDepth 100000 in
theorem k3_pass (l : Launch) (dC : Nat → ClassId) (dI : Nat → Nat → Nat) (sz : Nat) (hm : Nat) (wi : Nat) (co : Nat) (sl : Nat) (rn : Nat) (so : Nat) (bn : Nat) (sm : Nat) (ah : Nat) (th : Int32) (gr : Nat) (gt : Nat) (gw : Nat) (gk : Nat) (gi : Nat) (gp : Nat) (go : Nat) (gg : Nat) (gh : Nat) (a1 : Int32) : Met l yX3_pass wsX3_pass ({ frames := 1, cells := 0, slots := 0, locals := 22 }) (va_Pc [.ref hm, .int a1] (fun U => U.heap.size = sz ∧ va_P (dC, dI) vwCl [(hm, .inr (3, [.int th, .int 0, .ref wi, .ref co, .ref sl, .ref rn, .ref so, .ref bn, .ref sm, .ref ah])), (sm, .inr (2, [.int 0, .ref gr, .ref gt, .ref gw, .ref gk, .ref gi, .ref gp, .ref go, .ref gg, .ref gh]))] U.heap ∧ va_K (dC, dI) vwCl [] U ∧ va_D (fun _ => True) [(hm, .inr (3, [.int th, .int 0, .ref wi, .ref co, .ref sl, .ref rn, .ref so, .ref bn, .ref sm, .ref ah])), (sm, .inr (2, [.int 0, .ref gr, .ref gt, .ref gw, .ref gk, .ref gi, .ref gp, .ref go, .ref gg, .ref gh]))] ∧ zNs U)) (va_Qi (fun (r : Int32) (u : Int32 × Int32) => (r = 0 ∧ u.1 = 0 ∧ zIn a1 1 120) ∨ (r = 0 ∧ u.1 = 1 ∧ ¬ zIn a1 1 120)) (fun (u : Int32 × Int32) (t : State) => va_P (dC, dI) vwCl [(hm, .inr (3, [.int u.1, .int u.2, .ref wi, .ref co, .ref sl, .ref rn, .ref so, .ref bn, .ref sm, .ref ah]))] t.heap ∧ va_K (dC, dI) vwCl [] t ∧ va_D (va_A [(hm, .inr (3, [.int th, .int 0, .ref wi, .ref co, .ref sl, .ref rn, .ref so, .ref bn, .ref sm, .ref ah])), (sm, .inr (2, [.int 0, .ref gr, .ref gt, .ref gw, .ref gk, .ref gi, .ref gp, .ref go, .ref gg, .ref gh]))] sz) [(hm, .inr (3, [.int u.1, .int u.2, .ref wi, .ref co, .ref sl, .ref rn, .ref so, .ref bn, .ref sm, .ref ah]))]) (va_A [(hm, .inr (3, [.int th, .int 0, .ref wi, .ref co, .ref sl, .ref rn, .ref so, .ref bn, .ref sm, .ref ah])), (sm, .inr (2, [.int 0, .ref gr, .ref gt, .ref gw, .ref gk, .ref gi, .ref gp, .ref go, .ref gg, .ref gh]))] sz)) 0 0 (va_A [(hm, .inr (3, [.int th, .int 0, .ref wi, .ref co, .ref sl, .ref rn, .ref so, .ref bn, .ref sm, .ref ah])), (sm, .inr (2, [.int 0, .ref gr, .ref gt, .ref gw, .ref gk, .ref gi, .ref gp, .ref go, .ref gg, .ref gh]))] sz) := by
  refine Met.ofW (cc := cX3_pass) (maxL := 6) (ret := (some .int)) (by decide) rfl ?_
  intro p e s m args below meth c s₁ B hml hv
  obtain ⟨rfl, hsz, hP, hK, hD0, hZN⟩ := hv
  have hx := B.exec
  have hb := B.bytes
  have hr := B.returns
  have hts := atoms_spec (ws := wsX3_pass) B.pre
  have hown : s.vm.findClass RX3 = some m.cls := findClass_of_methodNamed B.named
  have hlocks := B.notSynchronized
  subst hsz
  have hD := hD0.self (sz := s.heap.size)
  generalize hAe : va_A [(hm, .inr (3, [.int th, .int 0, .ref wi, .ref co, .ref sl, .ref rn, .ref so, .ref bn, .ref sm, .ref ah])), (sm, .inr (2, [.int 0, .ref gr, .ref gt, .ref gw, .ref gk, .ref gi, .ref gp, .ref go, .ref gg, .ref gh]))] s.heap.size = A at hD ⊢
  have hA : ∀ q : Nat, s.heap.size ≤ q → A q := fun q h => by rw [← hAe]; exact Or.inr h
  have hS : va_S A s.heap s.heap [] := va_S.rf
  have hP : va_P (dC, dI) vwCl [(hm, .inr (3, [.int th, .int 0, .ref wi, .ref co, .ref sl, .ref rn, .ref so, .ref bn, .ref sm, .ref ah])), (sm, .inr (2, [.int 0, .ref gr, .ref gt, .ref gw, .ref gk, .ref gi, .ref gp, .ref go, .ref gg, .ref gh]))] s.heap := hP
  have hl := lv_entry ([.ref hm, .int a1]) (n := 6) (Nat.le_of_ble_eq_true rfl)
  rw [lg_entry_eq]
  generalize (lg_sl ([.ref hm, .int a1]) ++ List.replicate (6 - (lg_sl ([.ref hm, .int a1])).length) Slot.unset).toArray = ls at hl ⊢
  have hl : lv_has ls 6 [(0, .ref hm), (1, .int a1)] := hl
  refine lv_aload_n hx hb dX3_pass_0 rfl (lv_at hl 0 rfl) ?_
  refine lv_iconst (v := 0) hx hb dX3_pass_1 (by decide) ?_
  refine va_put (D := (dC, dI)) (ci := 3) (v := .int 0) (ty := .int) (C := RX3) (T := TX3) (N := 10) hx hb hts (by decide +kernel) tyX3 tyX3_ok nmX3 hown hK hP hD hS 0 rfl rfl 0 (by decide) (hts (.fieldLink RX3 40 "ThatchRoofModel" "thrown" "I") (by decide +kernel)) (fun _ h9 => h9) rfl (by decide +kernel) rfl rfl (Nat.le_of_ble_eq_true rfl) dX3_pass_2 (fun H locs hP hD hS => ?_)
  have hP : va_P (dC, dI) vwCl [(hm, .inr (3, [.int 0, .int 0, .ref wi, .ref co, .ref sl, .ref rn, .ref so, .ref bn, .ref sm, .ref ah])), (sm, .inr (2, [.int 0, .ref gr, .ref gt, .ref gw, .ref gk, .ref gi, .ref gp, .ref go, .ref gg, .ref gh]))] H := hP
  have hD : va_D A [(hm, .inr (3, [.int 0, .int 0, .ref wi, .ref co, .ref sl, .ref rn, .ref so, .ref bn, .ref sm, .ref ah])), (sm, .inr (2, [.int 0, .ref gr, .ref gt, .ref gw, .ref gk, .ref gi, .ref gp, .ref go, .ref gg, .ref gh]))] := hD
  refine lv_iload_n hx hb dX3_pass_5 rfl (lv_at hl 1 rfl) ?_
  refine lv_iconst (v := 1) hx hb dX3_pass_6 (by decide) ?_
  refine lv_bipush (v := 120) hx hb dX3_pass_7 (by decide) ?_
  refine vp_callSi (va_runS (As := [.int a1, .int 1, .int 120]) (rest := []) ⟨hx, hb, hml, hown, hts⟩ (k3_isIn l dC dI a1 1 120 ) (va_cwS 3 hts gX3_pass_X3_isIn rfl rfl rfl (by decide +kernel) ⟨Nat.le_of_ble_eq_true rfl, Nat.le_of_ble_eq_true rfl⟩) ⟨fun a U g mk q => q, fun U hU hW => ⟨rfl, trivial⟩⟩ rfl rfl hl.1 rfl (lv_room (Nat.le_of_ble_eq_true rfl)) dX3_pass_9 ⟨Nat.le_of_ble_eq_true rfl, Nat.le_of_ble_eq_true rfl⟩).run (fun r1 hr1 => ?_)
  rcases hr1 with ⟨rfl, fr1_0_0⟩ | ⟨rfl, fr1_1_0⟩
  · refine lv_if_ne (tgt := 21) hx hb dX3_pass_12 (by decide) (fun c2 => ?_) (fun c2 => absurd c2 (by decide))
    obtain ⟨N, hN1, hN2, hNe⟩ := zIn_nat 120 (show zIn a1 1 120 by assumption) (by decide) (by decide)
    rw [hNe] at hl
    refine lv_iconst (v := 0) hx hb dX3_pass_21 (by decide) ?_
    refine lv_istore_n (lv' := [(2, .int 0), (0, .ref hm), (1, .int (nI N))]) hx hb dX3_pass_22 rfl hl (by decide) rfl (fun ls hl => ?_)
    refine lv_iconst (v := 0) hx hb dX3_pass_23 (by decide) ?_
    refine lv_istore_n (lv' := [(3, .int 0), (2, .int 0), (0, .ref hm), (1, .int (nI N))]) hx hb dX3_pass_24 rfl hl (by decide) rfl (fun ls hl => ?_)
    refine lv_iconst (v := 0) hx hb dX3_pass_25 (by decide) ?_
    refine lv_istore (lv' := [(4, .int 0), (3, .int 0), (2, .int 0), (0, .ref hm), (1, .int (nI N))]) hx hb dX3_pass_26 hl (by decide) rfl (fun ls hl => ?_)
    refine lv_iload hx hb dX3_pass_28 (lv_at hl 0 rfl) ?_
    refine lv_aload_n hx hb dX3_pass_30 rfl (lv_at hl 3 rfl) ?_
    refine va_get (D := (dC, dI)) (ci := 3) (v := .int 0) (C := RX3) (T := TX3) (N := 10) hx hb hts (by decide +kernel) hown hK hP 0 rfl rfl 1 (by decide) (hts (.fieldLink RX3 44 "ThatchRoofModel" "roofs" "I") (by decide +kernel)) (fun _ h9 => h9) rfl dX3_pass_31 ?_
    refine lv_icmp_ge (tgt := 67) hx hb dX3_pass_34 (by decide) (fun c3 => ?_) (fun c3 => absurd c3 (by decide))
    refine lv_iconst (v := 0) hx hb dX3_pass_67 (by decide) ?_
    refine lv_istore (lv' := [(4, .int 0), (3, .int 0), (2, .int 0), (0, .ref hm), (1, .int (nI N))]) hx hb dX3_pass_68 hl (by decide) rfl (fun ls hl => ?_)
    suffices K70 : ∀ (n : Nat) (i : Nat) (mo : Int32), (i ≤ N) → N - i < n → ∀ (H : Heap) (locs : List Loc), va_P (dC, dI) vwCl [(hm, .inr (3, [.int 0, .int 0, .ref wi, .ref co, .ref sl, .ref rn, .ref so, .ref bn, .ref sm, .ref ah])), (sm, .inr (2, [.int mo, .ref gr, .ref gt, .ref gw, .ref gk, .ref gi, .ref gp, .ref go, .ref gg, .ref gh]))] H → va_D A [(hm, .inr (3, [.int 0, .int 0, .ref wi, .ref co, .ref sl, .ref rn, .ref so, .ref bn, .ref sm, .ref ah])), (sm, .inr (2, [.int mo, .ref gr, .ref gt, .ref gw, .ref gk, .ref gi, .ref gp, .ref go, .ref gg, .ref gh]))] → va_S A s.heap H locs → ∀ ls : Array Slot, lv_has ls 6 [(0, .ref hm), (1, .int (nI N)), (2, .int 0), (3, .int 0), (4, .int (nI i))] → W p l e ({ frames := 1, cells := 0, slots := 0, locals := 22 } : Room) s m (([.ref hm, .int a1] : List Value).toArray) below meth c H locs 0 0 (MQ below (va_Qi (fun (r : Int32) (u : Int32 × Int32) => (r = 0 ∧ u.1 = 0 ∧ zIn a1 1 120) ∨ (r = 0 ∧ u.1 = 1 ∧ ¬ zIn a1 1 120)) (fun (u : Int32 × Int32) (t : State) => va_P (dC, dI) vwCl [(hm, .inr (3, [.int u.1, .int u.2, .ref wi, .ref co, .ref sl, .ref rn, .ref so, .ref bn, .ref sm, .ref ah]))] t.heap ∧ va_K (dC, dI) vwCl [] t ∧ va_D A [(hm, .inr (3, [.int u.1, .int u.2, .ref wi, .ref co, .ref sl, .ref rn, .ref so, .ref bn, .ref sm, .ref ah]))]) A) (([.ref hm, .int a1] : List Value).toArray) s 0 0 A) (F0 m 70 ls []) from
      K70 _ 0 0 (by omega) (Nat.lt_succ_self _) _ _ hP hD hS _ (lv_sub hl [3, 4, 2, 1, 0] rfl)
    intro n
    induction n with
    | zero =>
      intro i mo hi hn
      exact absurd hn (Nat.not_lt_zero _)
    | succ n ih70 =>
      intro i mo hi hn70 H locs hP hD hS ls hl
      refine lv_iload hx hb dX3_pass_70 (lv_at hl 4 rfl) ?_
      refine lv_iload_n hx hb dX3_pass_72 rfl (lv_at hl 1 rfl) ?_
      refine lv_icmp_ge (tgt := 129) hx hb dX3_pass_73 (by decide) (fun c4 => ?_) (fun c4 => ?_)
      · have nc4 : N ≤ i := (nI_leI (a := N) (b := i) (by omega) (by omega)).mp c4
        refine lv_iconst (v := 0) hx hb dX3_pass_129 (by decide) ?_
        refine lv_istore (lv' := [(4, .int 0), (0, .ref hm), (1, .int (nI N)), (2, .int 0), (3, .int 0)]) hx hb dX3_pass_130 hl (by decide) rfl (fun ls hl => ?_)
        refine lv_iload hx hb dX3_pass_132 (lv_at hl 0 rfl) ?_
        refine lv_aload_n hx hb dX3_pass_134 rfl (lv_at hl 1 rfl) ?_
        refine va_get (D := (dC, dI)) (ci := 3) (v := .int 0) (C := RX3) (T := TX3) (N := 10) hx hb hts (by decide +kernel) hown hK hP 0 rfl rfl 1 (by decide) (hts (.fieldLink RX3 44 "ThatchRoofModel" "roofs" "I") (by decide +kernel)) (fun _ h9 => h9) rfl dX3_pass_135 ?_
        refine lv_icmp_ge (tgt := 171) hx hb dX3_pass_138 (by decide) (fun c5 => ?_) (fun c5 => absurd c5 (by decide))
        refine lv_iload_n hx hb dX3_pass_171 rfl (lv_at hl 4 rfl) ?_
        refine lv_iload_n hx hb dX3_pass_172 rfl (lv_at hl 3 rfl) ?_
        refine lv_isub hx hb dX3_pass_173 ?_
        refine W.eq (g2 := F0 m 174 ls [.int 0]) rfl ?_
        have hP9 := hP.sub (ws' := [(hm, .inr (3, [.int 0, .int 0, .ref wi, .ref co, .ref sl, .ref rn, .ref so, .ref bn, .ref sm, .ref ah]))]) [0] rfl
        have hD9 := hD.sub (ws' := [(hm, .inr (3, [.int 0, .int 0, .ref wi, .ref co, .ref sl, .ref rn, .ref so, .ref bn, .ref sm, .ref ah]))]) [0] (by decide) rfl
        have hK9 := hK.sub (tys' := []) [] rfl
        refine W.widen (k := 0) (n := 0) (Nat.le_of_ble_eq_true rfl) (Nat.le_of_ble_eq_true rfl) ?_
        exact W.iret (v := 0) hx hb hr (fun t ht hW => ⟨⟨0, (0, 0), rfl, by first | (refine Or.inl ?_; (refine ⟨?_, ?_, ?_⟩ <;> (first | rfl | assumption | decide | (simp_all; done) | grind)); done) | (refine Or.inr ?_; (refine ⟨?_, ?_, ?_⟩ <;> (first | rfl | assumption | decide | (simp_all; done) | grind)); done), ⟨by rw [ht]; exact hP9, va_K.moved hW.alike hK9, hD9⟩⟩, hS.F ht⟩) hS.2.2 dX3_pass_174
      · have nc4 : i < N := Nat.lt_of_not_le (fun q => c4 ((nI_leI (a := N) (b := i) (by omega) (by omega)).mpr q))
        refine lv_iconst (v := 0) hx hb dX3_pass_76 (by decide) ?_
        refine lv_istore (lv' := [(5, .int 0), (0, .ref hm), (1, .int (nI N)), (2, .int 0), (3, .int 0), (4, .int (nI i))]) hx hb dX3_pass_77 hl (by decide) rfl (fun ls hl => ?_)
        refine lv_iload hx hb dX3_pass_79 (lv_at hl 0 rfl) ?_
        refine lv_aload_n hx hb dX3_pass_81 rfl (lv_at hl 1 rfl) ?_
        refine va_get (D := (dC, dI)) (ci := 3) (v := .int 0) (C := RX3) (T := TX3) (N := 10) hx hb hts (by decide +kernel) hown hK hP 0 rfl rfl 1 (by decide) (hts (.fieldLink RX3 44 "ThatchRoofModel" "roofs" "I") (by decide +kernel)) (fun _ h9 => h9) rfl dX3_pass_82 ?_
        refine lv_icmp_ge (tgt := 110) hx hb dX3_pass_85 (by decide) (fun c6 => ?_) (fun c6 => absurd c6 (by decide))
        refine lv_aload_n hx hb dX3_pass_110 rfl (lv_at hl 1 rfl) ?_
        refine va_get (D := (dC, dI)) (ci := 3) (v := .ref sm) (C := RX3) (T := TX3) (N := 10) hx hb hts (by decide +kernel) hown hK hP 0 rfl rfl 8 (by decide) (hts (.fieldLink RX3 33 "ThatchRoofModel" "s" "LThatchRoofModel$State;") (by decide +kernel)) (fun _ h9 => h9) rfl dX3_pass_111 ?_
        refine lv_dup hx hb dX3_pass_114 rfl ?_
        refine va_getN (D := (dC, dI)) (ci := 2) (v := .int mo) (C := RX2) (T := TX2) (N := 10) hx hb hts (by decide +kernel) hown hK hP 1 rfl rfl 0 (by decide) (va_Nw.use rfl (zN_RX3_128 hZN)) (fun _ h9 => h9) rfl dX3_pass_115 ?_
        refine lv_iconst (v := 1) hx hb dX3_pass_118 (by decide) ?_
        refine lv_iadd hx hb dX3_pass_119 ?_
        refine lv_topi (fun x7 ex7 => ?_)
        refine va_putN (D := (dC, dI)) (ci := 2) (v := .int x7) (ty := .int) (C := RX2) (T := TX2) (N := 10) hx hb hts (by decide +kernel) tyX2 tyX2_ok nmX2 hown hK hP hD hS 1 rfl rfl 0 (by decide) (va_Nw.use rfl (zN_RX3_128 hZN)) (fun _ h9 => h9) rfl (by decide +kernel) rfl rfl (Nat.le_of_ble_eq_true rfl) dX3_pass_120 (fun H locs hP hD hS => ?_)
        have hP : va_P (dC, dI) vwCl [(hm, .inr (3, [.int 0, .int 0, .ref wi, .ref co, .ref sl, .ref rn, .ref so, .ref bn, .ref sm, .ref ah])), (sm, .inr (2, [.int x7, .ref gr, .ref gt, .ref gw, .ref gk, .ref gi, .ref gp, .ref go, .ref gg, .ref gh]))] H := hP
        have hD : va_D A [(hm, .inr (3, [.int 0, .int 0, .ref wi, .ref co, .ref sl, .ref rn, .ref so, .ref bn, .ref sm, .ref ah])), (sm, .inr (2, [.int x7, .ref gr, .ref gt, .ref gw, .ref gk, .ref gi, .ref gp, .ref go, .ref gg, .ref gh]))] := hD
        refine lv_iinc (v := nI (i + 1)) (lv' := [(4, .int (nI (i + 1))), (5, .int 0), (0, .ref hm), (1, .int (nI N)), (2, .int 0), (3, .int 0)]) hx hb dX3_pass_123 hl (k := 5) rfl (by exact nI_1 i) (by decide) rfl (fun ls hl => ?_)
        refine lv_goto (tgt := 70) hx hb dX3_pass_126 (by decide) ?_
        exact ih70 (i + 1) x7 (by omega) (by omega) _ _ (hP.sub [0, 1] rfl) (hD.sub [0, 1] (by decide) rfl) hS _ (lv_sub hl [2, 3, 4, 5, 0] rfl)
  · refine lv_if_ne (tgt := 21) hx hb dX3_pass_12 (by decide) (fun c8 => absurd c8 (by decide)) (fun c8 => ?_)
    refine lv_aload_n hx hb dX3_pass_15 rfl (lv_at hl 0 rfl) ?_
    refine lv_iconst (v := 1) hx hb dX3_pass_16 (by decide) ?_
    have hPc := hP.sub (ws' := [(hm, .inr (3, [.int 0, .int 0, .ref wi, .ref co, .ref sl, .ref rn, .ref so, .ref bn, .ref sm, .ref ah]))]) [0] rfl
    have hKc := hK.sub (tys' := []) [] rfl
    have hDc := hD.sub (ws' := [(hm, .inr (3, [.int 0, .int 0, .ref wi, .ref co, .ref sl, .ref rn, .ref so, .ref bn, .ref sm, .ref ah]))]) [0] (by decide) rfl
    have hFc := va_free (wc := [(hm, .inr (3, [.int 0, .int 0, .ref wi, .ref co, .ref sl, .ref rn, .ref so, .ref bn, .ref sm, .ref ah]))]) hD hS hA [0] rfl
    refine va_calli (va_runV (As := [.int 1]) (rest := []) ⟨hx, hb, hml, hown, hts⟩ (k3_no l dC dI H.size hm wi co sl rn so bn sm ah 0 0 1 ) (cwV 1 hts gX3_pass_X3_no rfl rfl rfl (by decide +kernel) ⟨Nat.le_of_ble_eq_true rfl, Nat.le_of_ble_eq_true rfl⟩) ⟨fun a U g mk q => by obtain ⟨q0, q1, qP, qK, qD⟩ := q; exact ⟨q0, q1, qP, va_K.moved (u := U) (U := U.calling g mk a) (Vm.Alike.refl U.vm) qK, qD⟩, va_recv hKc hPc (ci := 3) (q0 := 0) rfl rfl, fun U hU hW => ⟨rfl, by rw [hU], by rw [hU]; exact hPc, va_K.moved hW.alike hKc, hDc.weaken (fun _ _ _ _ => trivial)⟩⟩ rfl rfl hl.1 rfl (lv_room (Nat.le_of_ble_eq_true rfl)) dX3_pass_17 ⟨Nat.le_of_ble_eq_true rfl, Nat.le_of_ble_eq_true rfl⟩) hS (fun q _ h => hFc q h) hFc (fun r9 u t H1 locs ht hvm hr9 hB hz1 hk1 hS => ?_)
    obtain ⟨hP1, hK1, hD1⟩ := hB
    rw [ht] at hP1
    have hK1 := va_K.moved hvm.symm hK1
    try dsimp only at hr9
    obtain ⟨hP, hD⟩ := va_join (wr := [(sm, .inr (2, [.int 0, .ref gr, .ref gt, .ref gw, .ref gk, .ref gi, .ref gp, .ref go, .ref gg, .ref gh]))]) (w1 := [(hm, .inr (3, [.int 1, .int 0, .ref wi, .ref co, .ref sl, .ref rn, .ref so, .ref bn, .ref sm, .ref ah]))]) hP hD [0] [1] rfl rfl (by decide) (by decide) hk1 hFc hP1 hD1
    generalize H1 = H at hP hS ⊢
    have hP : va_P (dC, dI) vwCl [(sm, .inr (2, [.int 0, .ref gr, .ref gt, .ref gw, .ref gk, .ref gi, .ref gp, .ref go, .ref gg, .ref gh])), (hm, .inr (3, [.int 1, .int 0, .ref wi, .ref co, .ref sl, .ref rn, .ref so, .ref bn, .ref sm, .ref ah]))] H := hP
    have hD : va_D A [(sm, .inr (2, [.int 0, .ref gr, .ref gt, .ref gw, .ref gk, .ref gi, .ref gp, .ref go, .ref gg, .ref gh])), (hm, .inr (3, [.int 1, .int 0, .ref wi, .ref co, .ref sl, .ref rn, .ref so, .ref bn, .ref sm, .ref ah]))] := hD
    obtain rfl := hr9
    have hP9 := hP.sub (ws' := [(hm, .inr (3, [.int 1, .int 0, .ref wi, .ref co, .ref sl, .ref rn, .ref so, .ref bn, .ref sm, .ref ah]))]) [1] rfl
    have hD9 := hD.sub (ws' := [(hm, .inr (3, [.int 1, .int 0, .ref wi, .ref co, .ref sl, .ref rn, .ref so, .ref bn, .ref sm, .ref ah]))]) [1] (by decide) rfl
    have hK9 := hK.sub (tys' := []) [] rfl
    refine W.widen (k := 0) (n := 0) (Nat.le_of_ble_eq_true rfl) (Nat.le_of_ble_eq_true rfl) ?_
    exact W.iret (v := 0) hx hb hr (fun t ht hW => ⟨⟨0, (1, 0), rfl, by first | (refine Or.inl ?_; (refine ⟨?_, ?_, ?_⟩ <;> (first | rfl | assumption | decide | (simp_all; done) | grind)); done) | (refine Or.inr ?_; (refine ⟨?_, ?_, ?_⟩ <;> (first | rfl | assumption | decide | (simp_all; done) | grind)); done), ⟨by rw [ht]; exact hP9, va_K.moved hW.alike hK9, hD9⟩⟩, hS.F ht⟩) hS.2.2 dX3_pass_20

set_option maxHeartbeats 4000000 in
set_option maxRecDepth 100000 in
theorem k3_mean (l : Launch) (dC : Nat → ClassId) (dI : Nat → Nat → Nat) (sz : Nat) (hm : Nat) (wi : Nat) (co : Nat) (sl : Nat) (rn : Nat) (so : Nat) (bn : Nat) (sm : Nat) (ah : Nat) (th : Int32) : Met l yX3_mean wsX3_mean ({ frames := 0, cells := 0, slots := 0, locals := 0 }) (va_Pc [.ref hm] (fun U => U.heap.size = sz ∧ va_P (dC, dI) vwCl [(hm, .inr (3, [.int th, .int 0, .ref wi, .ref co, .ref sl, .ref rn, .ref so, .ref bn, .ref sm, .ref ah]))] U.heap ∧ va_K (dC, dI) vwCl [] U ∧ va_D (fun _ => True) [(hm, .inr (3, [.int th, .int 0, .ref wi, .ref co, .ref sl, .ref rn, .ref so, .ref bn, .ref sm, .ref ah]))])) (va_Qd (fun (r : UInt64) (u : Unit) => r = 0) (fun (u : Unit) (t : State) => va_P (dC, dI) vwCl [(hm, .inr (3, [.int 0, .int 0, .ref wi, .ref co, .ref sl, .ref rn, .ref so, .ref bn, .ref sm, .ref ah]))] t.heap ∧ va_K (dC, dI) vwCl [] t ∧ va_D (va_A [(hm, .inr (3, [.int th, .int 0, .ref wi, .ref co, .ref sl, .ref rn, .ref so, .ref bn, .ref sm, .ref ah]))] sz) [(hm, .inr (3, [.int 0, .int 0, .ref wi, .ref co, .ref sl, .ref rn, .ref so, .ref bn, .ref sm, .ref ah]))]) (va_A [(hm, .inr (3, [.int th, .int 0, .ref wi, .ref co, .ref sl, .ref rn, .ref so, .ref bn, .ref sm, .ref ah]))] sz)) 0 0 (va_A [(hm, .inr (3, [.int th, .int 0, .ref wi, .ref co, .ref sl, .ref rn, .ref so, .ref bn, .ref sm, .ref ah]))] sz) := by
  refine Met.ofW (cc := cX3_mean) (maxL := 4) (ret := (some .double)) (by decide) rfl ?_
  intro p e s m args below meth c s₁ B hml hv
  obtain ⟨rfl, hsz, hP, hK, hD0⟩ := hv
  have hx := B.exec
  have hb := B.bytes
  have hr := B.returns
  have hts := atoms_spec (ws := wsX3_mean) B.pre
  have hown : s.vm.findClass RX3 = some m.cls := findClass_of_methodNamed B.named
  have hlocks := B.notSynchronized
  subst hsz
  have hD := hD0.self (sz := s.heap.size)
  generalize hAe : va_A [(hm, .inr (3, [.int th, .int 0, .ref wi, .ref co, .ref sl, .ref rn, .ref so, .ref bn, .ref sm, .ref ah]))] s.heap.size = A at hD ⊢
  have hA : ∀ q : Nat, s.heap.size ≤ q → A q := fun q h => by rw [← hAe]; exact Or.inr h
  have hS : va_S A s.heap s.heap [] := va_S.rf
  have hP : va_P (dC, dI) vwCl [(hm, .inr (3, [.int th, .int 0, .ref wi, .ref co, .ref sl, .ref rn, .ref so, .ref bn, .ref sm, .ref ah]))] s.heap := hP
  have hl := lv_entry ([.ref hm]) (n := 4) (Nat.le_of_ble_eq_true rfl)
  rw [lg_entry_eq]
  generalize (lg_sl ([.ref hm]) ++ List.replicate (4 - (lg_sl ([.ref hm])).length) Slot.unset).toArray = ls at hl ⊢
  have hl : lv_has ls 4 [(0, .ref hm)] := hl
  refine lv_aload_n hx hb dX3_mean_0 rfl (lv_at hl 0 rfl) ?_
  refine lv_iconst (v := 0) hx hb dX3_mean_1 (by decide) ?_
  refine va_put (D := (dC, dI)) (ci := 3) (v := .int 0) (ty := .int) (C := RX3) (T := TX3) (N := 10) hx hb hts (by decide +kernel) tyX3 tyX3_ok nmX3 hown hK hP hD hS 0 rfl rfl 0 (by decide) (hts (.fieldLink RX3 40 "ThatchRoofModel" "thrown" "I") (by decide +kernel)) (fun _ h9 => h9) rfl (by decide +kernel) rfl rfl (Nat.le_of_ble_eq_true rfl) dX3_mean_2 (fun H locs hP hD hS => ?_)
  have hP : va_P (dC, dI) vwCl [(hm, .inr (3, [.int 0, .int 0, .ref wi, .ref co, .ref sl, .ref rn, .ref so, .ref bn, .ref sm, .ref ah]))] H := hP
  have hD : va_D A [(hm, .inr (3, [.int 0, .int 0, .ref wi, .ref co, .ref sl, .ref rn, .ref so, .ref bn, .ref sm, .ref ah]))] := hD
  refine lv_iconst (v := 0) hx hb dX3_mean_5 (by decide) ?_
  refine lv_istore_n (lv' := [(1, .int 0), (0, .ref hm)]) hx hb dX3_mean_6 rfl hl (by decide) rfl (fun ls hl => ?_)
  refine lv_iconst (v := 0) hx hb dX3_mean_7 (by decide) ?_
  refine lv_istore_n (lv' := [(2, .int 0), (1, .int 0), (0, .ref hm)]) hx hb dX3_mean_8 rfl hl (by decide) rfl (fun ls hl => ?_)
  refine lv_iconst (v := 0) hx hb dX3_mean_9 (by decide) ?_
  refine lv_istore_n (lv' := [(3, .int 0), (2, .int 0), (1, .int 0), (0, .ref hm)]) hx hb dX3_mean_10 rfl hl (by decide) rfl (fun ls hl => ?_)
  refine lv_iload_n hx hb dX3_mean_11 rfl (lv_at hl 0 rfl) ?_
  refine lv_aload_n hx hb dX3_mean_12 rfl (lv_at hl 3 rfl) ?_
  refine va_get (D := (dC, dI)) (ci := 3) (v := .int 0) (C := RX3) (T := TX3) (N := 10) hx hb hts (by decide +kernel) hown hK hP 0 rfl rfl 1 (by decide) (hts (.fieldLink RX3 44 "ThatchRoofModel" "roofs" "I") (by decide +kernel)) (fun _ h9 => h9) rfl dX3_mean_13 ?_
  refine lv_icmp_ge (tgt := 47) hx hb dX3_mean_16 (by decide) (fun c1 => ?_) (fun c1 => absurd c1 (by decide))
  refine lv_iload_n hx hb dX3_mean_47 rfl (lv_at hl 1 rfl) ?_
  refine lv_if_ne (tgt := 55) hx hb dX3_mean_48 (by decide) (fun c2 => absurd c2 (by decide)) (fun c2 => ?_)
  refine lv_dconst0 hx hb dX3_mean_51 ?_
  refine lv_goto (tgt := 60) hx hb dX3_mean_52 (by decide) ?_
  have hP9 := hP.sub (ws' := [(hm, .inr (3, [.int 0, .int 0, .ref wi, .ref co, .ref sl, .ref rn, .ref so, .ref bn, .ref sm, .ref ah]))]) [0] rfl
  have hD9 := hD.sub (ws' := [(hm, .inr (3, [.int 0, .int 0, .ref wi, .ref co, .ref sl, .ref rn, .ref so, .ref bn, .ref sm, .ref ah]))]) [0] (by decide) rfl
  have hK9 := hK.sub (tys' := []) [] rfl
  refine W.widen (k := 0) (n := 0) (Nat.le_of_ble_eq_true rfl) (Nat.le_of_ble_eq_true rfl) ?_
  exact W.dret (v := 0) hx hb hr (fun t ht hW => ⟨⟨0, (), rfl, by (first | rfl | assumption | decide | (simp_all; done) | grind), ⟨by rw [ht]; exact hP9, va_K.moved hW.alike hK9, hD9⟩⟩, hS.F ht⟩) hS.2.2 dX3_mean_60

set_option maxHeartbeats 4000000 in
set_option maxRecDepth 100000 in
theorem k3_digest (l : Launch) (dC : Nat → ClassId) (dI : Nat → Nat → Nat) (sz : Nat) (hm : Nat) (wi : Nat) (co : Nat) (sl : Nat) (rn : Nat) (so : Nat) (bn : Nat) (sm : Nat) (ah : Nat) (th : Int32) (gr : Nat) (gt : Nat) (gw : Nat) (gk : Nat) (gi : Nat) (gp : Nat) (go : Nat) (gg : Nat) (gh : Nat) (d5 : ClassId) (d6 : ClassId) (d7 : ClassId) (fn : Nat → Int32) (hrn : ∀ j : Nat, j < 12 → fn j = 4) : Met l yX3_digest wsX3_digest ({ frames := 1, cells := 9, slots := 81, locals := 24 }) (va_Pc [.ref hm] (fun U => U.heap.size = sz ∧ va_P (dC, dI) vwCl [(hm, .inr (3, [.int th, .int 0, .ref wi, .ref co, .ref sl, .ref rn, .ref so, .ref bn, .ref sm, .ref ah])), (sm, .inr (2, [.int 0, .ref gr, .ref gt, .ref gw, .ref gk, .ref gi, .ref gp, .ref go, .ref gg, .ref gh])), (bn, .inl (d5, 3, .inl (fun _ => 0))), (rn, .inl (d6, 12, .inl fn)), (so, .inl (d7, 12, .inl (fun _ => 0)))] U.heap ∧ va_K (dC, dI) vwCl [(d5, .int), (d6, .int), (d7, .int)] U ∧ va_D (fun _ => True) [(hm, .inr (3, [.int th, .int 0, .ref wi, .ref co, .ref sl, .ref rn, .ref so, .ref bn, .ref sm, .ref ah])), (sm, .inr (2, [.int 0, .ref gr, .ref gt, .ref gw, .ref gk, .ref gi, .ref gp, .ref go, .ref gg, .ref gh])), (bn, .inl (d5, 3, .inl (fun _ => 0))), (rn, .inl (d6, 12, .inl fn)), (so, .inl (d7, 12, .inl (fun _ => 0)))] ∧ zNs U)) (va_Ql (fun (r : Int64) (u : Unit) => r = (-6060411835929444999)) (fun (u : Unit) (t : State) => va_P (dC, dI) vwCl [(hm, .inr (3, [.int 0, .int 0, .ref wi, .ref co, .ref sl, .ref rn, .ref so, .ref bn, .ref sm, .ref ah]))] t.heap ∧ va_K (dC, dI) vwCl [] t ∧ va_D (va_A [(hm, .inr (3, [.int th, .int 0, .ref wi, .ref co, .ref sl, .ref rn, .ref so, .ref bn, .ref sm, .ref ah])), (sm, .inr (2, [.int 0, .ref gr, .ref gt, .ref gw, .ref gk, .ref gi, .ref gp, .ref go, .ref gg, .ref gh])), (bn, .inl (d5, 3, .inl (fun _ => 0))), (rn, .inl (d6, 12, .inl fn)), (so, .inl (d7, 12, .inl (fun _ => 0)))] sz) [(hm, .inr (3, [.int 0, .int 0, .ref wi, .ref co, .ref sl, .ref rn, .ref so, .ref bn, .ref sm, .ref ah]))]) (va_A [(hm, .inr (3, [.int th, .int 0, .ref wi, .ref co, .ref sl, .ref rn, .ref so, .ref bn, .ref sm, .ref ah])), (sm, .inr (2, [.int 0, .ref gr, .ref gt, .ref gw, .ref gk, .ref gi, .ref gp, .ref go, .ref gg, .ref gh])), (bn, .inl (d5, 3, .inl (fun _ => 0))), (rn, .inl (d6, 12, .inl fn)), (so, .inl (d7, 12, .inl (fun _ => 0)))] sz)) 9 81 (va_A [(hm, .inr (3, [.int th, .int 0, .ref wi, .ref co, .ref sl, .ref rn, .ref so, .ref bn, .ref sm, .ref ah])), (sm, .inr (2, [.int 0, .ref gr, .ref gt, .ref gw, .ref gk, .ref gi, .ref gp, .ref go, .ref gg, .ref gh])), (bn, .inl (d5, 3, .inl (fun _ => 0))), (rn, .inl (d6, 12, .inl fn)), (so, .inl (d7, 12, .inl (fun _ => 0)))] sz) := by
  refine Met.ofW (cc := cX3_digest) (maxL := 7) (ret := (some .long)) (by decide) rfl ?_
  intro p e s m args below meth c s₁ B hml hv
  obtain ⟨rfl, hsz, hP, hK, hD0, hZN⟩ := hv
  have hx := B.exec
  have hb := B.bytes
  have hr := B.returns
  have hts := atoms_spec (ws := wsX3_digest) B.pre
  have hown : s.vm.findClass RX3 = some m.cls := findClass_of_methodNamed B.named
  have hlocks := B.notSynchronized
  subst hsz
  have hD := hD0.self (sz := s.heap.size)
  generalize hAe : va_A [(hm, .inr (3, [.int th, .int 0, .ref wi, .ref co, .ref sl, .ref rn, .ref so, .ref bn, .ref sm, .ref ah])), (sm, .inr (2, [.int 0, .ref gr, .ref gt, .ref gw, .ref gk, .ref gi, .ref gp, .ref go, .ref gg, .ref gh])), (bn, .inl (d5, 3, .inl (fun _ => 0))), (rn, .inl (d6, 12, .inl fn)), (so, .inl (d7, 12, .inl (fun _ => 0)))] s.heap.size = A at hD ⊢
  have hA : ∀ q : Nat, s.heap.size ≤ q → A q := fun q h => by rw [← hAe]; exact Or.inr h
  have hS : va_S A s.heap s.heap [] := va_S.rf
  have hP : va_P (dC, dI) vwCl [(hm, .inr (3, [.int th, .int 0, .ref wi, .ref co, .ref sl, .ref rn, .ref so, .ref bn, .ref sm, .ref ah])), (sm, .inr (2, [.int 0, .ref gr, .ref gt, .ref gw, .ref gk, .ref gi, .ref gp, .ref go, .ref gg, .ref gh])), (bn, .inl (d5, 3, .inl (fun _ => 0))), (rn, .inl (d6, 12, .inl fn)), (so, .inl (d7, 12, .inl (fun _ => 0)))] s.heap := hP
  have hl := lv_entry ([.ref hm]) (n := 7) (Nat.le_of_ble_eq_true rfl)
  rw [lg_entry_eq]
  generalize (lg_sl ([.ref hm]) ++ List.replicate (7 - (lg_sl ([.ref hm])).length) Slot.unset).toArray = ls at hl ⊢
  have hl : lv_has ls 7 [(0, .ref hm)] := hl
  refine lv_aload_n hx hb dX3_digest_0 rfl (lv_at hl 0 rfl) ?_
  refine lv_iconst (v := 0) hx hb dX3_digest_1 (by decide) ?_
  refine va_put (D := (dC, dI)) (ci := 3) (v := .int 0) (ty := .int) (C := RX3) (T := TX3) (N := 10) hx hb hts (by decide +kernel) tyX3 tyX3_ok nmX3 hown hK hP hD hS 0 rfl rfl 0 (by decide) (hts (.fieldLink RX3 40 "ThatchRoofModel" "thrown" "I") (by decide +kernel)) (fun _ h9 => h9) rfl (by decide +kernel) rfl rfl (Nat.le_of_ble_eq_true rfl) dX3_digest_2 (fun H locs hP hD hS => ?_)
  have hP : va_P (dC, dI) vwCl [(hm, .inr (3, [.int 0, .int 0, .ref wi, .ref co, .ref sl, .ref rn, .ref so, .ref bn, .ref sm, .ref ah])), (sm, .inr (2, [.int 0, .ref gr, .ref gt, .ref gw, .ref gk, .ref gi, .ref gp, .ref go, .ref gg, .ref gh])), (bn, .inl (d5, 3, .inl (fun _ => 0))), (rn, .inl (d6, 12, .inl fn)), (so, .inl (d7, 12, .inl (fun _ => 0)))] H := hP
  have hD : va_D A [(hm, .inr (3, [.int 0, .int 0, .ref wi, .ref co, .ref sl, .ref rn, .ref so, .ref bn, .ref sm, .ref ah])), (sm, .inr (2, [.int 0, .ref gr, .ref gt, .ref gw, .ref gk, .ref gi, .ref gp, .ref go, .ref gg, .ref gh])), (bn, .inl (d5, 3, .inl (fun _ => 0))), (rn, .inl (d6, 12, .inl fn)), (so, .inl (d7, 12, .inl (fun _ => 0)))] := hD
  refine lv_ldc2 (v := 739) hx hb hown (hts (.constantLong RX3 149 739) (by decide +kernel)) dX3_digest_5 ?_
  refine lv_lstore_n (lv' := [(1, .long 739), (0, .ref hm)]) hx hb dX3_digest_8 rfl hl (by decide) rfl (fun ls hl => ?_)
  refine lv_iconst (v := 0) hx hb dX3_digest_9 (by decide) ?_
  refine lv_istore_n (lv' := [(3, .int 0), (1, .long 739), (0, .ref hm)]) hx hb dX3_digest_10 rfl hl (by decide) rfl (fun ls hl => ?_)
  refine lv_iload_n hx hb dX3_digest_11 rfl (lv_at hl 0 rfl) ?_
  refine lv_bipush (v := 8) hx hb dX3_digest_12 (by decide) ?_
  refine lv_icmp_gt (tgt := 36) hx hb dX3_digest_14 (by decide) (fun c1 => absurd c1 (by decide)) (fun c1 => ?_)
  refine lv_lload_n hx hb dX3_digest_17 rfl (lv_at hl 1 rfl) ?_
  refine lv_ldc2 (v := 31) hx hb hown (hts (.constantLong RX3 151 31) (by decide +kernel)) dX3_digest_18 ?_
  refine lv_lmul hx hb dX3_digest_21 ?_
  refine W.eq (g2 := F0 m 22 ls [.long 22909]) rfl ?_
  refine lv_aload_n hx hb dX3_digest_22 rfl (lv_at hl 2 rfl) ?_
  refine lv_iload_n hx hb dX3_digest_23 rfl (lv_at hl 0 rfl) ?_
  have hPc := hP.sub (ws' := [(hm, .inr (3, [.int 0, .int 0, .ref wi, .ref co, .ref sl, .ref rn, .ref so, .ref bn, .ref sm, .ref ah])), (sm, .inr (2, [.int 0, .ref gr, .ref gt, .ref gw, .ref gk, .ref gi, .ref gp, .ref go, .ref gg, .ref gh])), (bn, .inl (d5, 3, .inl (fun _ => 0))), (rn, .inl (d6, 12, .inl fn)), (so, .inl (d7, 12, .inl (fun _ => 0)))]) [0, 1, 2, 3, 4] rfl
  have hKc := hK.sub (tys' := [(d5, .int), (d6, .int), (d7, .int)]) [0, 1, 2] rfl
  have hDc := hD.sub (ws' := [(hm, .inr (3, [.int 0, .int 0, .ref wi, .ref co, .ref sl, .ref rn, .ref so, .ref bn, .ref sm, .ref ah])), (sm, .inr (2, [.int 0, .ref gr, .ref gt, .ref gw, .ref gk, .ref gi, .ref gp, .ref go, .ref gg, .ref gh])), (bn, .inl (d5, 3, .inl (fun _ => 0))), (rn, .inl (d6, 12, .inl fn)), (so, .inl (d7, 12, .inl (fun _ => 0)))]) [0, 1, 2, 3, 4] (by decide) rfl
  have hFc := va_free (wc := [(hm, .inr (3, [.int 0, .int 0, .ref wi, .ref co, .ref sl, .ref rn, .ref so, .ref bn, .ref sm, .ref ah])), (sm, .inr (2, [.int 0, .ref gr, .ref gt, .ref gw, .ref gk, .ref gi, .ref gp, .ref go, .ref gg, .ref gh])), (bn, .inl (d5, 3, .inl (fun _ => 0))), (rn, .inl (d6, 12, .inl fn)), (so, .inl (d7, 12, .inl (fun _ => 0)))]) hD hS hA [0, 1, 2, 3, 4] rfl
  refine va_calli (va_runV (As := [.int 0]) (rest := [.long 22909]) ⟨hx, hb, hml, hown, hts⟩ (k3_counted0 l dC dI H.size hm wi co sl rn so bn sm ah 0 gr gt gw gk gi gp go gg gh d5 d6 d7 fn (by first | assumption | decide | omega)) (cwV 1 hts gX3_digest_X3_counted rfl rfl rfl (by decide +kernel) ⟨Nat.le_of_ble_eq_true rfl, Nat.le_of_ble_eq_true rfl⟩) ⟨fun a U g mk q => by obtain ⟨q0, q1, qP, qK, qD, qN⟩ := q; exact ⟨q0, q1, qP, va_K.moved (u := U) (U := U.calling g mk a) (Vm.Alike.refl U.vm) qK, qD, zNs.calling qN⟩, va_recv hKc hPc (ci := 3) (q0 := 0) rfl rfl, fun U hU hW => ⟨rfl, by rw [hU], by rw [hU]; exact hPc, va_K.moved hW.alike hKc, hDc.weaken (fun _ _ _ _ => trivial), zNs.warm hW hZN⟩⟩ rfl rfl hl.1 rfl (lv_room (Nat.le_of_ble_eq_true rfl)) dX3_digest_24 ⟨Nat.le_of_ble_eq_true rfl, Nat.le_of_ble_eq_true rfl⟩) hS (fun q _ h => hFc q h) hFc (fun r2 u t H1 locs ht hvm hr2 hB hz1 hk1 hS => ?_)
  obtain ⟨hP1, hK1, hD1⟩ := hB
  rw [ht] at hP1
  have hK1 := va_K.moved hvm.symm hK1
  try dsimp only at hr2
  obtain ⟨hP, hD⟩ := va_join (wr := []) (w1 := [(hm, .inr (3, [.int 0, .int 0, .ref wi, .ref co, .ref sl, .ref rn, .ref so, .ref bn, .ref sm, .ref ah])), (sm, .inr (2, [.int 0, .ref gr, .ref gt, .ref gw, .ref gk, .ref gi, .ref gp, .ref go, .ref gg, .ref gh])), (bn, .inl (d5, 3, .inl (fun _ => 0))), (rn, .inl (d6, 12, .inl fn)), (so, .inl (d7, 12, .inl (fun _ => 0)))]) hP hD [0, 1, 2, 3, 4] [] rfl rfl (by decide) (by decide) hk1 hFc hP1 hD1
  generalize H1 = H at hP hS ⊢
  have hP : va_P (dC, dI) vwCl [(hm, .inr (3, [.int 0, .int 0, .ref wi, .ref co, .ref sl, .ref rn, .ref so, .ref bn, .ref sm, .ref ah])), (sm, .inr (2, [.int 0, .ref gr, .ref gt, .ref gw, .ref gk, .ref gi, .ref gp, .ref go, .ref gg, .ref gh])), (bn, .inl (d5, 3, .inl (fun _ => 0))), (rn, .inl (d6, 12, .inl fn)), (so, .inl (d7, 12, .inl (fun _ => 0)))] H := hP
  have hD : va_D A [(hm, .inr (3, [.int 0, .int 0, .ref wi, .ref co, .ref sl, .ref rn, .ref so, .ref bn, .ref sm, .ref ah])), (sm, .inr (2, [.int 0, .ref gr, .ref gt, .ref gw, .ref gk, .ref gi, .ref gp, .ref go, .ref gg, .ref gh])), (bn, .inl (d5, 3, .inl (fun _ => 0))), (rn, .inl (d6, 12, .inl fn)), (so, .inl (d7, 12, .inl (fun _ => 0)))] := hD
  refine W.widen (k := 1) (n := 9) (Nat.le_of_ble_eq_true rfl) (Nat.le_of_ble_eq_true rfl) ?_
  obtain rfl := hr2
  refine lv_i2l (v := 0) hx hb dX3_digest_27 (by first | rfl | decide) ?_
  refine lv_ladd hx hb dX3_digest_28 ?_
  refine W.eq (g2 := F0 m 29 ls [.long 22909]) rfl ?_
  refine lv_lstore_n (lv' := [(1, .long 22909), (3, .int 0), (0, .ref hm)]) hx hb dX3_digest_29 rfl hl (by decide) rfl (fun ls hl => ?_)
  refine lv_iinc (v := 1) (lv' := [(3, .int 1), (1, .long 22909), (0, .ref hm)]) hx hb dX3_digest_30 hl (k := 1) rfl (by decide) (by decide) rfl (fun ls hl => ?_)
  refine lv_goto (tgt := 11) hx hb dX3_digest_33 (by decide) ?_
  refine lv_iload_n hx hb dX3_digest_11 rfl (lv_at hl 0 rfl) ?_
  refine lv_bipush (v := 8) hx hb dX3_digest_12 (by decide) ?_
  refine lv_icmp_gt (tgt := 36) hx hb dX3_digest_14 (by decide) (fun c3 => absurd c3 (by decide)) (fun c3 => ?_)
  refine lv_lload_n hx hb dX3_digest_17 rfl (lv_at hl 1 rfl) ?_
  refine lv_ldc2 (v := 31) hx hb hown (hts (.constantLong RX3 151 31) (by decide +kernel)) dX3_digest_18 ?_
  refine lv_lmul hx hb dX3_digest_21 ?_
  refine W.eq (g2 := F0 m 22 ls [.long 710179]) rfl ?_
  refine lv_aload_n hx hb dX3_digest_22 rfl (lv_at hl 2 rfl) ?_
  refine lv_iload_n hx hb dX3_digest_23 rfl (lv_at hl 0 rfl) ?_
  have hPc := hP.sub (ws' := [(hm, .inr (3, [.int 0, .int 0, .ref wi, .ref co, .ref sl, .ref rn, .ref so, .ref bn, .ref sm, .ref ah])), (sm, .inr (2, [.int 0, .ref gr, .ref gt, .ref gw, .ref gk, .ref gi, .ref gp, .ref go, .ref gg, .ref gh])), (bn, .inl (d5, 3, .inl (fun _ => 0))), (rn, .inl (d6, 12, .inl fn)), (so, .inl (d7, 12, .inl (fun _ => 0)))]) [0, 1, 2, 3, 4] rfl
  have hKc := hK.sub (tys' := [(d5, .int), (d6, .int), (d7, .int)]) [0, 1, 2] rfl
  have hDc := hD.sub (ws' := [(hm, .inr (3, [.int 0, .int 0, .ref wi, .ref co, .ref sl, .ref rn, .ref so, .ref bn, .ref sm, .ref ah])), (sm, .inr (2, [.int 0, .ref gr, .ref gt, .ref gw, .ref gk, .ref gi, .ref gp, .ref go, .ref gg, .ref gh])), (bn, .inl (d5, 3, .inl (fun _ => 0))), (rn, .inl (d6, 12, .inl fn)), (so, .inl (d7, 12, .inl (fun _ => 0)))]) [0, 1, 2, 3, 4] (by decide) rfl
  have hFc := va_free (wc := [(hm, .inr (3, [.int 0, .int 0, .ref wi, .ref co, .ref sl, .ref rn, .ref so, .ref bn, .ref sm, .ref ah])), (sm, .inr (2, [.int 0, .ref gr, .ref gt, .ref gw, .ref gk, .ref gi, .ref gp, .ref go, .ref gg, .ref gh])), (bn, .inl (d5, 3, .inl (fun _ => 0))), (rn, .inl (d6, 12, .inl fn)), (so, .inl (d7, 12, .inl (fun _ => 0)))]) hD hS hA [0, 1, 2, 3, 4] rfl
  refine va_calli (va_runV (As := [.int 1]) (rest := [.long 710179]) ⟨hx, hb, hml, hown, hts⟩ (k3_counted1 l dC dI H.size hm wi co sl rn so bn sm ah 0 gr gt gw gk gi gp go gg gh d5 d6 d7 fn (by first | assumption | decide | omega)) (cwV 1 hts gX3_digest_X3_counted rfl rfl rfl (by decide +kernel) ⟨Nat.le_of_ble_eq_true rfl, Nat.le_of_ble_eq_true rfl⟩) ⟨fun a U g mk q => by obtain ⟨q0, q1, qP, qK, qD, qN⟩ := q; exact ⟨q0, q1, qP, va_K.moved (u := U) (U := U.calling g mk a) (Vm.Alike.refl U.vm) qK, qD, zNs.calling qN⟩, va_recv hKc hPc (ci := 3) (q0 := 0) rfl rfl, fun U hU hW => ⟨rfl, by rw [hU], by rw [hU]; exact hPc, va_K.moved hW.alike hKc, hDc.weaken (fun _ _ _ _ => trivial), zNs.warm hW hZN⟩⟩ rfl rfl hl.1 rfl (lv_room (Nat.le_of_ble_eq_true rfl)) dX3_digest_24 ⟨Nat.le_of_ble_eq_true rfl, Nat.le_of_ble_eq_true rfl⟩) hS (fun q _ h => hFc q h) hFc (fun r4 u t H1 locs ht hvm hr4 hB hz1 hk1 hS => ?_)
  obtain ⟨hP1, hK1, hD1⟩ := hB
  rw [ht] at hP1
  have hK1 := va_K.moved hvm.symm hK1
  try dsimp only at hr4
  obtain ⟨hP, hD⟩ := va_join (wr := []) (w1 := [(hm, .inr (3, [.int 0, .int 0, .ref wi, .ref co, .ref sl, .ref rn, .ref so, .ref bn, .ref sm, .ref ah])), (sm, .inr (2, [.int 0, .ref gr, .ref gt, .ref gw, .ref gk, .ref gi, .ref gp, .ref go, .ref gg, .ref gh])), (bn, .inl (d5, 3, .inl (fun _ => 0))), (rn, .inl (d6, 12, .inl fn)), (so, .inl (d7, 12, .inl (fun _ => 0)))]) hP hD [0, 1, 2, 3, 4] [] rfl rfl (by decide) (by decide) hk1 hFc hP1 hD1
  generalize H1 = H at hP hS ⊢
  have hP : va_P (dC, dI) vwCl [(hm, .inr (3, [.int 0, .int 0, .ref wi, .ref co, .ref sl, .ref rn, .ref so, .ref bn, .ref sm, .ref ah])), (sm, .inr (2, [.int 0, .ref gr, .ref gt, .ref gw, .ref gk, .ref gi, .ref gp, .ref go, .ref gg, .ref gh])), (bn, .inl (d5, 3, .inl (fun _ => 0))), (rn, .inl (d6, 12, .inl fn)), (so, .inl (d7, 12, .inl (fun _ => 0)))] H := hP
  have hD : va_D A [(hm, .inr (3, [.int 0, .int 0, .ref wi, .ref co, .ref sl, .ref rn, .ref so, .ref bn, .ref sm, .ref ah])), (sm, .inr (2, [.int 0, .ref gr, .ref gt, .ref gw, .ref gk, .ref gi, .ref gp, .ref go, .ref gg, .ref gh])), (bn, .inl (d5, 3, .inl (fun _ => 0))), (rn, .inl (d6, 12, .inl fn)), (so, .inl (d7, 12, .inl (fun _ => 0)))] := hD
  refine W.widen (k := 2) (n := 18) (Nat.le_of_ble_eq_true rfl) (Nat.le_of_ble_eq_true rfl) ?_
  obtain rfl := hr4
  refine lv_i2l (v := 0) hx hb dX3_digest_27 (by first | rfl | decide) ?_
  refine lv_ladd hx hb dX3_digest_28 ?_
  refine W.eq (g2 := F0 m 29 ls [.long 710179]) rfl ?_
  refine lv_lstore_n (lv' := [(1, .long 710179), (3, .int 1), (0, .ref hm)]) hx hb dX3_digest_29 rfl hl (by decide) rfl (fun ls hl => ?_)
  refine lv_iinc (v := 2) (lv' := [(3, .int 2), (1, .long 710179), (0, .ref hm)]) hx hb dX3_digest_30 hl (k := 1) rfl (by decide) (by decide) rfl (fun ls hl => ?_)
  refine lv_goto (tgt := 11) hx hb dX3_digest_33 (by decide) ?_
  refine lv_iload_n hx hb dX3_digest_11 rfl (lv_at hl 0 rfl) ?_
  refine lv_bipush (v := 8) hx hb dX3_digest_12 (by decide) ?_
  refine lv_icmp_gt (tgt := 36) hx hb dX3_digest_14 (by decide) (fun c5 => absurd c5 (by decide)) (fun c5 => ?_)
  refine lv_lload_n hx hb dX3_digest_17 rfl (lv_at hl 1 rfl) ?_
  refine lv_ldc2 (v := 31) hx hb hown (hts (.constantLong RX3 151 31) (by decide +kernel)) dX3_digest_18 ?_
  refine lv_lmul hx hb dX3_digest_21 ?_
  refine W.eq (g2 := F0 m 22 ls [.long 22015549]) rfl ?_
  refine lv_aload_n hx hb dX3_digest_22 rfl (lv_at hl 2 rfl) ?_
  refine lv_iload_n hx hb dX3_digest_23 rfl (lv_at hl 0 rfl) ?_
  have hPc := hP.sub (ws' := [(hm, .inr (3, [.int 0, .int 0, .ref wi, .ref co, .ref sl, .ref rn, .ref so, .ref bn, .ref sm, .ref ah])), (sm, .inr (2, [.int 0, .ref gr, .ref gt, .ref gw, .ref gk, .ref gi, .ref gp, .ref go, .ref gg, .ref gh])), (bn, .inl (d5, 3, .inl (fun _ => 0))), (rn, .inl (d6, 12, .inl fn)), (so, .inl (d7, 12, .inl (fun _ => 0)))]) [0, 1, 2, 3, 4] rfl
  have hKc := hK.sub (tys' := [(d5, .int), (d6, .int), (d7, .int)]) [0, 1, 2] rfl
  have hDc := hD.sub (ws' := [(hm, .inr (3, [.int 0, .int 0, .ref wi, .ref co, .ref sl, .ref rn, .ref so, .ref bn, .ref sm, .ref ah])), (sm, .inr (2, [.int 0, .ref gr, .ref gt, .ref gw, .ref gk, .ref gi, .ref gp, .ref go, .ref gg, .ref gh])), (bn, .inl (d5, 3, .inl (fun _ => 0))), (rn, .inl (d6, 12, .inl fn)), (so, .inl (d7, 12, .inl (fun _ => 0)))]) [0, 1, 2, 3, 4] (by decide) rfl
  have hFc := va_free (wc := [(hm, .inr (3, [.int 0, .int 0, .ref wi, .ref co, .ref sl, .ref rn, .ref so, .ref bn, .ref sm, .ref ah])), (sm, .inr (2, [.int 0, .ref gr, .ref gt, .ref gw, .ref gk, .ref gi, .ref gp, .ref go, .ref gg, .ref gh])), (bn, .inl (d5, 3, .inl (fun _ => 0))), (rn, .inl (d6, 12, .inl fn)), (so, .inl (d7, 12, .inl (fun _ => 0)))]) hD hS hA [0, 1, 2, 3, 4] rfl
  refine va_calli (va_runV (As := [.int 2]) (rest := [.long 22015549]) ⟨hx, hb, hml, hown, hts⟩ (k3_counted2 l dC dI H.size hm wi co sl rn so bn sm ah 0 gr gt gw gk gi gp go gg gh d5 d6 d7 fn (by first | assumption | decide | omega)) (cwV 1 hts gX3_digest_X3_counted rfl rfl rfl (by decide +kernel) ⟨Nat.le_of_ble_eq_true rfl, Nat.le_of_ble_eq_true rfl⟩) ⟨fun a U g mk q => by obtain ⟨q0, q1, qP, qK, qD, qN⟩ := q; exact ⟨q0, q1, qP, va_K.moved (u := U) (U := U.calling g mk a) (Vm.Alike.refl U.vm) qK, qD, zNs.calling qN⟩, va_recv hKc hPc (ci := 3) (q0 := 0) rfl rfl, fun U hU hW => ⟨rfl, by rw [hU], by rw [hU]; exact hPc, va_K.moved hW.alike hKc, hDc.weaken (fun _ _ _ _ => trivial), zNs.warm hW hZN⟩⟩ rfl rfl hl.1 rfl (lv_room (Nat.le_of_ble_eq_true rfl)) dX3_digest_24 ⟨Nat.le_of_ble_eq_true rfl, Nat.le_of_ble_eq_true rfl⟩) hS (fun q _ h => hFc q h) hFc (fun r6 u t H1 locs ht hvm hr6 hB hz1 hk1 hS => ?_)
  obtain ⟨hP1, hK1, hD1⟩ := hB
  rw [ht] at hP1
  have hK1 := va_K.moved hvm.symm hK1
  try dsimp only at hr6
  obtain ⟨hP, hD⟩ := va_join (wr := []) (w1 := [(hm, .inr (3, [.int 0, .int 0, .ref wi, .ref co, .ref sl, .ref rn, .ref so, .ref bn, .ref sm, .ref ah])), (sm, .inr (2, [.int 0, .ref gr, .ref gt, .ref gw, .ref gk, .ref gi, .ref gp, .ref go, .ref gg, .ref gh])), (bn, .inl (d5, 3, .inl (fun _ => 0))), (rn, .inl (d6, 12, .inl fn)), (so, .inl (d7, 12, .inl (fun _ => 0)))]) hP hD [0, 1, 2, 3, 4] [] rfl rfl (by decide) (by decide) hk1 hFc hP1 hD1
  generalize H1 = H at hP hS ⊢
  have hP : va_P (dC, dI) vwCl [(hm, .inr (3, [.int 0, .int 0, .ref wi, .ref co, .ref sl, .ref rn, .ref so, .ref bn, .ref sm, .ref ah])), (sm, .inr (2, [.int 0, .ref gr, .ref gt, .ref gw, .ref gk, .ref gi, .ref gp, .ref go, .ref gg, .ref gh])), (bn, .inl (d5, 3, .inl (fun _ => 0))), (rn, .inl (d6, 12, .inl fn)), (so, .inl (d7, 12, .inl (fun _ => 0)))] H := hP
  have hD : va_D A [(hm, .inr (3, [.int 0, .int 0, .ref wi, .ref co, .ref sl, .ref rn, .ref so, .ref bn, .ref sm, .ref ah])), (sm, .inr (2, [.int 0, .ref gr, .ref gt, .ref gw, .ref gk, .ref gi, .ref gp, .ref go, .ref gg, .ref gh])), (bn, .inl (d5, 3, .inl (fun _ => 0))), (rn, .inl (d6, 12, .inl fn)), (so, .inl (d7, 12, .inl (fun _ => 0)))] := hD
  refine W.widen (k := 3) (n := 27) (Nat.le_of_ble_eq_true rfl) (Nat.le_of_ble_eq_true rfl) ?_
  obtain rfl := hr6
  refine lv_i2l (v := 0) hx hb dX3_digest_27 (by first | rfl | decide) ?_
  refine lv_ladd hx hb dX3_digest_28 ?_
  refine W.eq (g2 := F0 m 29 ls [.long 22015549]) rfl ?_
  refine lv_lstore_n (lv' := [(1, .long 22015549), (3, .int 2), (0, .ref hm)]) hx hb dX3_digest_29 rfl hl (by decide) rfl (fun ls hl => ?_)
  refine lv_iinc (v := 3) (lv' := [(3, .int 3), (1, .long 22015549), (0, .ref hm)]) hx hb dX3_digest_30 hl (k := 1) rfl (by decide) (by decide) rfl (fun ls hl => ?_)
  refine lv_goto (tgt := 11) hx hb dX3_digest_33 (by decide) ?_
  refine lv_iload_n hx hb dX3_digest_11 rfl (lv_at hl 0 rfl) ?_
  refine lv_bipush (v := 8) hx hb dX3_digest_12 (by decide) ?_
  refine lv_icmp_gt (tgt := 36) hx hb dX3_digest_14 (by decide) (fun c7 => absurd c7 (by decide)) (fun c7 => ?_)
  refine lv_lload_n hx hb dX3_digest_17 rfl (lv_at hl 1 rfl) ?_
  refine lv_ldc2 (v := 31) hx hb hown (hts (.constantLong RX3 151 31) (by decide +kernel)) dX3_digest_18 ?_
  refine lv_lmul hx hb dX3_digest_21 ?_
  refine W.eq (g2 := F0 m 22 ls [.long 682482019]) rfl ?_
  refine lv_aload_n hx hb dX3_digest_22 rfl (lv_at hl 2 rfl) ?_
  refine lv_iload_n hx hb dX3_digest_23 rfl (lv_at hl 0 rfl) ?_
  have hPc := hP.sub (ws' := [(hm, .inr (3, [.int 0, .int 0, .ref wi, .ref co, .ref sl, .ref rn, .ref so, .ref bn, .ref sm, .ref ah])), (sm, .inr (2, [.int 0, .ref gr, .ref gt, .ref gw, .ref gk, .ref gi, .ref gp, .ref go, .ref gg, .ref gh])), (bn, .inl (d5, 3, .inl (fun _ => 0))), (rn, .inl (d6, 12, .inl fn)), (so, .inl (d7, 12, .inl (fun _ => 0)))]) [0, 1, 2, 3, 4] rfl
  have hKc := hK.sub (tys' := [(d5, .int), (d6, .int), (d7, .int)]) [0, 1, 2] rfl
  have hDc := hD.sub (ws' := [(hm, .inr (3, [.int 0, .int 0, .ref wi, .ref co, .ref sl, .ref rn, .ref so, .ref bn, .ref sm, .ref ah])), (sm, .inr (2, [.int 0, .ref gr, .ref gt, .ref gw, .ref gk, .ref gi, .ref gp, .ref go, .ref gg, .ref gh])), (bn, .inl (d5, 3, .inl (fun _ => 0))), (rn, .inl (d6, 12, .inl fn)), (so, .inl (d7, 12, .inl (fun _ => 0)))]) [0, 1, 2, 3, 4] (by decide) rfl
  have hFc := va_free (wc := [(hm, .inr (3, [.int 0, .int 0, .ref wi, .ref co, .ref sl, .ref rn, .ref so, .ref bn, .ref sm, .ref ah])), (sm, .inr (2, [.int 0, .ref gr, .ref gt, .ref gw, .ref gk, .ref gi, .ref gp, .ref go, .ref gg, .ref gh])), (bn, .inl (d5, 3, .inl (fun _ => 0))), (rn, .inl (d6, 12, .inl fn)), (so, .inl (d7, 12, .inl (fun _ => 0)))]) hD hS hA [0, 1, 2, 3, 4] rfl
  refine va_calli (va_runV (As := [.int 3]) (rest := [.long 682482019]) ⟨hx, hb, hml, hown, hts⟩ (k3_counted3 l dC dI H.size hm wi co sl rn so bn sm ah 0 gr gt gw gk gi gp go gg gh d5 d6 d7 fn (by first | assumption | decide | omega)) (cwV 1 hts gX3_digest_X3_counted rfl rfl rfl (by decide +kernel) ⟨Nat.le_of_ble_eq_true rfl, Nat.le_of_ble_eq_true rfl⟩) ⟨fun a U g mk q => by obtain ⟨q0, q1, qP, qK, qD, qN⟩ := q; exact ⟨q0, q1, qP, va_K.moved (u := U) (U := U.calling g mk a) (Vm.Alike.refl U.vm) qK, qD, zNs.calling qN⟩, va_recv hKc hPc (ci := 3) (q0 := 0) rfl rfl, fun U hU hW => ⟨rfl, by rw [hU], by rw [hU]; exact hPc, va_K.moved hW.alike hKc, hDc.weaken (fun _ _ _ _ => trivial), zNs.warm hW hZN⟩⟩ rfl rfl hl.1 rfl (lv_room (Nat.le_of_ble_eq_true rfl)) dX3_digest_24 ⟨Nat.le_of_ble_eq_true rfl, Nat.le_of_ble_eq_true rfl⟩) hS (fun q _ h => hFc q h) hFc (fun r8 u t H1 locs ht hvm hr8 hB hz1 hk1 hS => ?_)
  obtain ⟨hP1, hK1, hD1⟩ := hB
  rw [ht] at hP1
  have hK1 := va_K.moved hvm.symm hK1
  try dsimp only at hr8
  obtain ⟨hP, hD⟩ := va_join (wr := []) (w1 := [(hm, .inr (3, [.int 0, .int 0, .ref wi, .ref co, .ref sl, .ref rn, .ref so, .ref bn, .ref sm, .ref ah])), (sm, .inr (2, [.int 0, .ref gr, .ref gt, .ref gw, .ref gk, .ref gi, .ref gp, .ref go, .ref gg, .ref gh])), (bn, .inl (d5, 3, .inl (fun _ => 0))), (rn, .inl (d6, 12, .inl fn)), (so, .inl (d7, 12, .inl (fun _ => 0)))]) hP hD [0, 1, 2, 3, 4] [] rfl rfl (by decide) (by decide) hk1 hFc hP1 hD1
  generalize H1 = H at hP hS ⊢
  have hP : va_P (dC, dI) vwCl [(hm, .inr (3, [.int 0, .int 0, .ref wi, .ref co, .ref sl, .ref rn, .ref so, .ref bn, .ref sm, .ref ah])), (sm, .inr (2, [.int 0, .ref gr, .ref gt, .ref gw, .ref gk, .ref gi, .ref gp, .ref go, .ref gg, .ref gh])), (bn, .inl (d5, 3, .inl (fun _ => 0))), (rn, .inl (d6, 12, .inl fn)), (so, .inl (d7, 12, .inl (fun _ => 0)))] H := hP
  have hD : va_D A [(hm, .inr (3, [.int 0, .int 0, .ref wi, .ref co, .ref sl, .ref rn, .ref so, .ref bn, .ref sm, .ref ah])), (sm, .inr (2, [.int 0, .ref gr, .ref gt, .ref gw, .ref gk, .ref gi, .ref gp, .ref go, .ref gg, .ref gh])), (bn, .inl (d5, 3, .inl (fun _ => 0))), (rn, .inl (d6, 12, .inl fn)), (so, .inl (d7, 12, .inl (fun _ => 0)))] := hD
  refine W.widen (k := 4) (n := 36) (Nat.le_of_ble_eq_true rfl) (Nat.le_of_ble_eq_true rfl) ?_
  obtain rfl := hr8
  refine lv_i2l (v := 0) hx hb dX3_digest_27 (by first | rfl | decide) ?_
  refine lv_ladd hx hb dX3_digest_28 ?_
  refine W.eq (g2 := F0 m 29 ls [.long 682482019]) rfl ?_
  refine lv_lstore_n (lv' := [(1, .long 682482019), (3, .int 3), (0, .ref hm)]) hx hb dX3_digest_29 rfl hl (by decide) rfl (fun ls hl => ?_)
  refine lv_iinc (v := 4) (lv' := [(3, .int 4), (1, .long 682482019), (0, .ref hm)]) hx hb dX3_digest_30 hl (k := 1) rfl (by decide) (by decide) rfl (fun ls hl => ?_)
  refine lv_goto (tgt := 11) hx hb dX3_digest_33 (by decide) ?_
  refine lv_iload_n hx hb dX3_digest_11 rfl (lv_at hl 0 rfl) ?_
  refine lv_bipush (v := 8) hx hb dX3_digest_12 (by decide) ?_
  refine lv_icmp_gt (tgt := 36) hx hb dX3_digest_14 (by decide) (fun c9 => absurd c9 (by decide)) (fun c9 => ?_)
  refine lv_lload_n hx hb dX3_digest_17 rfl (lv_at hl 1 rfl) ?_
  refine lv_ldc2 (v := 31) hx hb hown (hts (.constantLong RX3 151 31) (by decide +kernel)) dX3_digest_18 ?_
  refine lv_lmul hx hb dX3_digest_21 ?_
  refine W.eq (g2 := F0 m 22 ls [.long 21156942589]) rfl ?_
  refine lv_aload_n hx hb dX3_digest_22 rfl (lv_at hl 2 rfl) ?_
  refine lv_iload_n hx hb dX3_digest_23 rfl (lv_at hl 0 rfl) ?_
  have hPc := hP.sub (ws' := [(hm, .inr (3, [.int 0, .int 0, .ref wi, .ref co, .ref sl, .ref rn, .ref so, .ref bn, .ref sm, .ref ah])), (sm, .inr (2, [.int 0, .ref gr, .ref gt, .ref gw, .ref gk, .ref gi, .ref gp, .ref go, .ref gg, .ref gh])), (bn, .inl (d5, 3, .inl (fun _ => 0))), (rn, .inl (d6, 12, .inl fn)), (so, .inl (d7, 12, .inl (fun _ => 0)))]) [0, 1, 2, 3, 4] rfl
  have hKc := hK.sub (tys' := [(d5, .int), (d6, .int), (d7, .int)]) [0, 1, 2] rfl
  have hDc := hD.sub (ws' := [(hm, .inr (3, [.int 0, .int 0, .ref wi, .ref co, .ref sl, .ref rn, .ref so, .ref bn, .ref sm, .ref ah])), (sm, .inr (2, [.int 0, .ref gr, .ref gt, .ref gw, .ref gk, .ref gi, .ref gp, .ref go, .ref gg, .ref gh])), (bn, .inl (d5, 3, .inl (fun _ => 0))), (rn, .inl (d6, 12, .inl fn)), (so, .inl (d7, 12, .inl (fun _ => 0)))]) [0, 1, 2, 3, 4] (by decide) rfl
  have hFc := va_free (wc := [(hm, .inr (3, [.int 0, .int 0, .ref wi, .ref co, .ref sl, .ref rn, .ref so, .ref bn, .ref sm, .ref ah])), (sm, .inr (2, [.int 0, .ref gr, .ref gt, .ref gw, .ref gk, .ref gi, .ref gp, .ref go, .ref gg, .ref gh])), (bn, .inl (d5, 3, .inl (fun _ => 0))), (rn, .inl (d6, 12, .inl fn)), (so, .inl (d7, 12, .inl (fun _ => 0)))]) hD hS hA [0, 1, 2, 3, 4] rfl
  refine va_calli (va_runV (As := [.int 4]) (rest := [.long 21156942589]) ⟨hx, hb, hml, hown, hts⟩ (k3_counted4 l dC dI H.size hm wi co sl rn so bn sm ah 0 gr gt gw gk gi gp go gg gh d5 d6 d7 fn (by first | assumption | decide | omega)) (cwV 1 hts gX3_digest_X3_counted rfl rfl rfl (by decide +kernel) ⟨Nat.le_of_ble_eq_true rfl, Nat.le_of_ble_eq_true rfl⟩) ⟨fun a U g mk q => by obtain ⟨q0, q1, qP, qK, qD, qN⟩ := q; exact ⟨q0, q1, qP, va_K.moved (u := U) (U := U.calling g mk a) (Vm.Alike.refl U.vm) qK, qD, zNs.calling qN⟩, va_recv hKc hPc (ci := 3) (q0 := 0) rfl rfl, fun U hU hW => ⟨rfl, by rw [hU], by rw [hU]; exact hPc, va_K.moved hW.alike hKc, hDc.weaken (fun _ _ _ _ => trivial), zNs.warm hW hZN⟩⟩ rfl rfl hl.1 rfl (lv_room (Nat.le_of_ble_eq_true rfl)) dX3_digest_24 ⟨Nat.le_of_ble_eq_true rfl, Nat.le_of_ble_eq_true rfl⟩) hS (fun q _ h => hFc q h) hFc (fun r10 u t H1 locs ht hvm hr10 hB hz1 hk1 hS => ?_)
  obtain ⟨hP1, hK1, hD1⟩ := hB
  rw [ht] at hP1
  have hK1 := va_K.moved hvm.symm hK1
  try dsimp only at hr10
  obtain ⟨hP, hD⟩ := va_join (wr := []) (w1 := [(hm, .inr (3, [.int 0, .int 0, .ref wi, .ref co, .ref sl, .ref rn, .ref so, .ref bn, .ref sm, .ref ah])), (sm, .inr (2, [.int 0, .ref gr, .ref gt, .ref gw, .ref gk, .ref gi, .ref gp, .ref go, .ref gg, .ref gh])), (bn, .inl (d5, 3, .inl (fun _ => 0))), (rn, .inl (d6, 12, .inl fn)), (so, .inl (d7, 12, .inl (fun _ => 0)))]) hP hD [0, 1, 2, 3, 4] [] rfl rfl (by decide) (by decide) hk1 hFc hP1 hD1
  generalize H1 = H at hP hS ⊢
  have hP : va_P (dC, dI) vwCl [(hm, .inr (3, [.int 0, .int 0, .ref wi, .ref co, .ref sl, .ref rn, .ref so, .ref bn, .ref sm, .ref ah])), (sm, .inr (2, [.int 0, .ref gr, .ref gt, .ref gw, .ref gk, .ref gi, .ref gp, .ref go, .ref gg, .ref gh])), (bn, .inl (d5, 3, .inl (fun _ => 0))), (rn, .inl (d6, 12, .inl fn)), (so, .inl (d7, 12, .inl (fun _ => 0)))] H := hP
  have hD : va_D A [(hm, .inr (3, [.int 0, .int 0, .ref wi, .ref co, .ref sl, .ref rn, .ref so, .ref bn, .ref sm, .ref ah])), (sm, .inr (2, [.int 0, .ref gr, .ref gt, .ref gw, .ref gk, .ref gi, .ref gp, .ref go, .ref gg, .ref gh])), (bn, .inl (d5, 3, .inl (fun _ => 0))), (rn, .inl (d6, 12, .inl fn)), (so, .inl (d7, 12, .inl (fun _ => 0)))] := hD
  refine W.widen (k := 5) (n := 45) (Nat.le_of_ble_eq_true rfl) (Nat.le_of_ble_eq_true rfl) ?_
  obtain rfl := hr10
  refine lv_i2l (v := 0) hx hb dX3_digest_27 (by first | rfl | decide) ?_
  refine lv_ladd hx hb dX3_digest_28 ?_
  refine W.eq (g2 := F0 m 29 ls [.long 21156942589]) rfl ?_
  refine lv_lstore_n (lv' := [(1, .long 21156942589), (3, .int 4), (0, .ref hm)]) hx hb dX3_digest_29 rfl hl (by decide) rfl (fun ls hl => ?_)
  refine lv_iinc (v := 5) (lv' := [(3, .int 5), (1, .long 21156942589), (0, .ref hm)]) hx hb dX3_digest_30 hl (k := 1) rfl (by decide) (by decide) rfl (fun ls hl => ?_)
  refine lv_goto (tgt := 11) hx hb dX3_digest_33 (by decide) ?_
  refine lv_iload_n hx hb dX3_digest_11 rfl (lv_at hl 0 rfl) ?_
  refine lv_bipush (v := 8) hx hb dX3_digest_12 (by decide) ?_
  refine lv_icmp_gt (tgt := 36) hx hb dX3_digest_14 (by decide) (fun c11 => absurd c11 (by decide)) (fun c11 => ?_)
  refine lv_lload_n hx hb dX3_digest_17 rfl (lv_at hl 1 rfl) ?_
  refine lv_ldc2 (v := 31) hx hb hown (hts (.constantLong RX3 151 31) (by decide +kernel)) dX3_digest_18 ?_
  refine lv_lmul hx hb dX3_digest_21 ?_
  refine W.eq (g2 := F0 m 22 ls [.long 655865220259]) rfl ?_
  refine lv_aload_n hx hb dX3_digest_22 rfl (lv_at hl 2 rfl) ?_
  refine lv_iload_n hx hb dX3_digest_23 rfl (lv_at hl 0 rfl) ?_
  have hPc := hP.sub (ws' := [(hm, .inr (3, [.int 0, .int 0, .ref wi, .ref co, .ref sl, .ref rn, .ref so, .ref bn, .ref sm, .ref ah])), (sm, .inr (2, [.int 0, .ref gr, .ref gt, .ref gw, .ref gk, .ref gi, .ref gp, .ref go, .ref gg, .ref gh])), (bn, .inl (d5, 3, .inl (fun _ => 0))), (rn, .inl (d6, 12, .inl fn)), (so, .inl (d7, 12, .inl (fun _ => 0)))]) [0, 1, 2, 3, 4] rfl
  have hKc := hK.sub (tys' := [(d5, .int), (d6, .int), (d7, .int)]) [0, 1, 2] rfl
  have hDc := hD.sub (ws' := [(hm, .inr (3, [.int 0, .int 0, .ref wi, .ref co, .ref sl, .ref rn, .ref so, .ref bn, .ref sm, .ref ah])), (sm, .inr (2, [.int 0, .ref gr, .ref gt, .ref gw, .ref gk, .ref gi, .ref gp, .ref go, .ref gg, .ref gh])), (bn, .inl (d5, 3, .inl (fun _ => 0))), (rn, .inl (d6, 12, .inl fn)), (so, .inl (d7, 12, .inl (fun _ => 0)))]) [0, 1, 2, 3, 4] (by decide) rfl
  have hFc := va_free (wc := [(hm, .inr (3, [.int 0, .int 0, .ref wi, .ref co, .ref sl, .ref rn, .ref so, .ref bn, .ref sm, .ref ah])), (sm, .inr (2, [.int 0, .ref gr, .ref gt, .ref gw, .ref gk, .ref gi, .ref gp, .ref go, .ref gg, .ref gh])), (bn, .inl (d5, 3, .inl (fun _ => 0))), (rn, .inl (d6, 12, .inl fn)), (so, .inl (d7, 12, .inl (fun _ => 0)))]) hD hS hA [0, 1, 2, 3, 4] rfl
  refine va_calli (va_runV (As := [.int 5]) (rest := [.long 655865220259]) ⟨hx, hb, hml, hown, hts⟩ (k3_counted5 l dC dI H.size hm wi co sl rn so bn sm ah 0 gr gt gw gk gi gp go gg gh d5 d6 d7 fn (by first | assumption | decide | omega)) (cwV 1 hts gX3_digest_X3_counted rfl rfl rfl (by decide +kernel) ⟨Nat.le_of_ble_eq_true rfl, Nat.le_of_ble_eq_true rfl⟩) ⟨fun a U g mk q => by obtain ⟨q0, q1, qP, qK, qD, qN⟩ := q; exact ⟨q0, q1, qP, va_K.moved (u := U) (U := U.calling g mk a) (Vm.Alike.refl U.vm) qK, qD, zNs.calling qN⟩, va_recv hKc hPc (ci := 3) (q0 := 0) rfl rfl, fun U hU hW => ⟨rfl, by rw [hU], by rw [hU]; exact hPc, va_K.moved hW.alike hKc, hDc.weaken (fun _ _ _ _ => trivial), zNs.warm hW hZN⟩⟩ rfl rfl hl.1 rfl (lv_room (Nat.le_of_ble_eq_true rfl)) dX3_digest_24 ⟨Nat.le_of_ble_eq_true rfl, Nat.le_of_ble_eq_true rfl⟩) hS (fun q _ h => hFc q h) hFc (fun r12 u t H1 locs ht hvm hr12 hB hz1 hk1 hS => ?_)
  obtain ⟨hP1, hK1, hD1⟩ := hB
  rw [ht] at hP1
  have hK1 := va_K.moved hvm.symm hK1
  try dsimp only at hr12
  obtain ⟨hP, hD⟩ := va_join (wr := []) (w1 := [(hm, .inr (3, [.int 0, .int 0, .ref wi, .ref co, .ref sl, .ref rn, .ref so, .ref bn, .ref sm, .ref ah])), (sm, .inr (2, [.int 0, .ref gr, .ref gt, .ref gw, .ref gk, .ref gi, .ref gp, .ref go, .ref gg, .ref gh])), (bn, .inl (d5, 3, .inl (fun _ => 0))), (rn, .inl (d6, 12, .inl fn)), (so, .inl (d7, 12, .inl (fun _ => 0)))]) hP hD [0, 1, 2, 3, 4] [] rfl rfl (by decide) (by decide) hk1 hFc hP1 hD1
  generalize H1 = H at hP hS ⊢
  have hP : va_P (dC, dI) vwCl [(hm, .inr (3, [.int 0, .int 0, .ref wi, .ref co, .ref sl, .ref rn, .ref so, .ref bn, .ref sm, .ref ah])), (sm, .inr (2, [.int 0, .ref gr, .ref gt, .ref gw, .ref gk, .ref gi, .ref gp, .ref go, .ref gg, .ref gh])), (bn, .inl (d5, 3, .inl (fun _ => 0))), (rn, .inl (d6, 12, .inl fn)), (so, .inl (d7, 12, .inl (fun _ => 0)))] H := hP
  have hD : va_D A [(hm, .inr (3, [.int 0, .int 0, .ref wi, .ref co, .ref sl, .ref rn, .ref so, .ref bn, .ref sm, .ref ah])), (sm, .inr (2, [.int 0, .ref gr, .ref gt, .ref gw, .ref gk, .ref gi, .ref gp, .ref go, .ref gg, .ref gh])), (bn, .inl (d5, 3, .inl (fun _ => 0))), (rn, .inl (d6, 12, .inl fn)), (so, .inl (d7, 12, .inl (fun _ => 0)))] := hD
  refine W.widen (k := 6) (n := 54) (Nat.le_of_ble_eq_true rfl) (Nat.le_of_ble_eq_true rfl) ?_
  obtain rfl := hr12
  refine lv_i2l (v := 0) hx hb dX3_digest_27 (by first | rfl | decide) ?_
  refine lv_ladd hx hb dX3_digest_28 ?_
  refine W.eq (g2 := F0 m 29 ls [.long 655865220259]) rfl ?_
  refine lv_lstore_n (lv' := [(1, .long 655865220259), (3, .int 5), (0, .ref hm)]) hx hb dX3_digest_29 rfl hl (by decide) rfl (fun ls hl => ?_)
  refine lv_iinc (v := 6) (lv' := [(3, .int 6), (1, .long 655865220259), (0, .ref hm)]) hx hb dX3_digest_30 hl (k := 1) rfl (by decide) (by decide) rfl (fun ls hl => ?_)
  refine lv_goto (tgt := 11) hx hb dX3_digest_33 (by decide) ?_
  refine lv_iload_n hx hb dX3_digest_11 rfl (lv_at hl 0 rfl) ?_
  refine lv_bipush (v := 8) hx hb dX3_digest_12 (by decide) ?_
  refine lv_icmp_gt (tgt := 36) hx hb dX3_digest_14 (by decide) (fun c13 => absurd c13 (by decide)) (fun c13 => ?_)
  refine lv_lload_n hx hb dX3_digest_17 rfl (lv_at hl 1 rfl) ?_
  refine lv_ldc2 (v := 31) hx hb hown (hts (.constantLong RX3 151 31) (by decide +kernel)) dX3_digest_18 ?_
  refine lv_lmul hx hb dX3_digest_21 ?_
  refine W.eq (g2 := F0 m 22 ls [.long 20331821828029]) rfl ?_
  refine lv_aload_n hx hb dX3_digest_22 rfl (lv_at hl 2 rfl) ?_
  refine lv_iload_n hx hb dX3_digest_23 rfl (lv_at hl 0 rfl) ?_
  have hPc := hP.sub (ws' := [(hm, .inr (3, [.int 0, .int 0, .ref wi, .ref co, .ref sl, .ref rn, .ref so, .ref bn, .ref sm, .ref ah])), (sm, .inr (2, [.int 0, .ref gr, .ref gt, .ref gw, .ref gk, .ref gi, .ref gp, .ref go, .ref gg, .ref gh])), (bn, .inl (d5, 3, .inl (fun _ => 0))), (rn, .inl (d6, 12, .inl fn)), (so, .inl (d7, 12, .inl (fun _ => 0)))]) [0, 1, 2, 3, 4] rfl
  have hKc := hK.sub (tys' := [(d5, .int), (d6, .int), (d7, .int)]) [0, 1, 2] rfl
  have hDc := hD.sub (ws' := [(hm, .inr (3, [.int 0, .int 0, .ref wi, .ref co, .ref sl, .ref rn, .ref so, .ref bn, .ref sm, .ref ah])), (sm, .inr (2, [.int 0, .ref gr, .ref gt, .ref gw, .ref gk, .ref gi, .ref gp, .ref go, .ref gg, .ref gh])), (bn, .inl (d5, 3, .inl (fun _ => 0))), (rn, .inl (d6, 12, .inl fn)), (so, .inl (d7, 12, .inl (fun _ => 0)))]) [0, 1, 2, 3, 4] (by decide) rfl
  have hFc := va_free (wc := [(hm, .inr (3, [.int 0, .int 0, .ref wi, .ref co, .ref sl, .ref rn, .ref so, .ref bn, .ref sm, .ref ah])), (sm, .inr (2, [.int 0, .ref gr, .ref gt, .ref gw, .ref gk, .ref gi, .ref gp, .ref go, .ref gg, .ref gh])), (bn, .inl (d5, 3, .inl (fun _ => 0))), (rn, .inl (d6, 12, .inl fn)), (so, .inl (d7, 12, .inl (fun _ => 0)))]) hD hS hA [0, 1, 2, 3, 4] rfl
  refine va_calli (va_runV (As := [.int 6]) (rest := [.long 20331821828029]) ⟨hx, hb, hml, hown, hts⟩ (k3_counted6 l dC dI H.size hm wi co sl rn so bn sm ah 0 gr gt gw gk gi gp go gg gh d5 d6 d7 fn (by first | assumption | decide | omega)) (cwV 1 hts gX3_digest_X3_counted rfl rfl rfl (by decide +kernel) ⟨Nat.le_of_ble_eq_true rfl, Nat.le_of_ble_eq_true rfl⟩) ⟨fun a U g mk q => by obtain ⟨q0, q1, qP, qK, qD, qN⟩ := q; exact ⟨q0, q1, qP, va_K.moved (u := U) (U := U.calling g mk a) (Vm.Alike.refl U.vm) qK, qD, zNs.calling qN⟩, va_recv hKc hPc (ci := 3) (q0 := 0) rfl rfl, fun U hU hW => ⟨rfl, by rw [hU], by rw [hU]; exact hPc, va_K.moved hW.alike hKc, hDc.weaken (fun _ _ _ _ => trivial), zNs.warm hW hZN⟩⟩ rfl rfl hl.1 rfl (lv_room (Nat.le_of_ble_eq_true rfl)) dX3_digest_24 ⟨Nat.le_of_ble_eq_true rfl, Nat.le_of_ble_eq_true rfl⟩) hS (fun q _ h => hFc q h) hFc (fun r14 u t H1 locs ht hvm hr14 hB hz1 hk1 hS => ?_)
  obtain ⟨hP1, hK1, hD1⟩ := hB
  rw [ht] at hP1
  have hK1 := va_K.moved hvm.symm hK1
  try dsimp only at hr14
  obtain ⟨hP, hD⟩ := va_join (wr := []) (w1 := [(hm, .inr (3, [.int 0, .int 0, .ref wi, .ref co, .ref sl, .ref rn, .ref so, .ref bn, .ref sm, .ref ah])), (sm, .inr (2, [.int 0, .ref gr, .ref gt, .ref gw, .ref gk, .ref gi, .ref gp, .ref go, .ref gg, .ref gh])), (bn, .inl (d5, 3, .inl (fun _ => 0))), (rn, .inl (d6, 12, .inl fn)), (so, .inl (d7, 12, .inl (fun _ => 0)))]) hP hD [0, 1, 2, 3, 4] [] rfl rfl (by decide) (by decide) hk1 hFc hP1 hD1
  generalize H1 = H at hP hS ⊢
  have hP : va_P (dC, dI) vwCl [(hm, .inr (3, [.int 0, .int 0, .ref wi, .ref co, .ref sl, .ref rn, .ref so, .ref bn, .ref sm, .ref ah])), (sm, .inr (2, [.int 0, .ref gr, .ref gt, .ref gw, .ref gk, .ref gi, .ref gp, .ref go, .ref gg, .ref gh])), (bn, .inl (d5, 3, .inl (fun _ => 0))), (rn, .inl (d6, 12, .inl fn)), (so, .inl (d7, 12, .inl (fun _ => 0)))] H := hP
  have hD : va_D A [(hm, .inr (3, [.int 0, .int 0, .ref wi, .ref co, .ref sl, .ref rn, .ref so, .ref bn, .ref sm, .ref ah])), (sm, .inr (2, [.int 0, .ref gr, .ref gt, .ref gw, .ref gk, .ref gi, .ref gp, .ref go, .ref gg, .ref gh])), (bn, .inl (d5, 3, .inl (fun _ => 0))), (rn, .inl (d6, 12, .inl fn)), (so, .inl (d7, 12, .inl (fun _ => 0)))] := hD
  refine W.widen (k := 7) (n := 63) (Nat.le_of_ble_eq_true rfl) (Nat.le_of_ble_eq_true rfl) ?_
  obtain rfl := hr14
  refine lv_i2l (v := 0) hx hb dX3_digest_27 (by first | rfl | decide) ?_
  refine lv_ladd hx hb dX3_digest_28 ?_
  refine W.eq (g2 := F0 m 29 ls [.long 20331821828029]) rfl ?_
  refine lv_lstore_n (lv' := [(1, .long 20331821828029), (3, .int 6), (0, .ref hm)]) hx hb dX3_digest_29 rfl hl (by decide) rfl (fun ls hl => ?_)
  refine lv_iinc (v := 7) (lv' := [(3, .int 7), (1, .long 20331821828029), (0, .ref hm)]) hx hb dX3_digest_30 hl (k := 1) rfl (by decide) (by decide) rfl (fun ls hl => ?_)
  refine lv_goto (tgt := 11) hx hb dX3_digest_33 (by decide) ?_
  refine lv_iload_n hx hb dX3_digest_11 rfl (lv_at hl 0 rfl) ?_
  refine lv_bipush (v := 8) hx hb dX3_digest_12 (by decide) ?_
  refine lv_icmp_gt (tgt := 36) hx hb dX3_digest_14 (by decide) (fun c15 => absurd c15 (by decide)) (fun c15 => ?_)
  refine lv_lload_n hx hb dX3_digest_17 rfl (lv_at hl 1 rfl) ?_
  refine lv_ldc2 (v := 31) hx hb hown (hts (.constantLong RX3 151 31) (by decide +kernel)) dX3_digest_18 ?_
  refine lv_lmul hx hb dX3_digest_21 ?_
  refine W.eq (g2 := F0 m 22 ls [.long 630286476668899]) rfl ?_
  refine lv_aload_n hx hb dX3_digest_22 rfl (lv_at hl 2 rfl) ?_
  refine lv_iload_n hx hb dX3_digest_23 rfl (lv_at hl 0 rfl) ?_
  have hPc := hP.sub (ws' := [(hm, .inr (3, [.int 0, .int 0, .ref wi, .ref co, .ref sl, .ref rn, .ref so, .ref bn, .ref sm, .ref ah])), (sm, .inr (2, [.int 0, .ref gr, .ref gt, .ref gw, .ref gk, .ref gi, .ref gp, .ref go, .ref gg, .ref gh])), (bn, .inl (d5, 3, .inl (fun _ => 0))), (rn, .inl (d6, 12, .inl fn)), (so, .inl (d7, 12, .inl (fun _ => 0)))]) [0, 1, 2, 3, 4] rfl
  have hKc := hK.sub (tys' := [(d5, .int), (d6, .int), (d7, .int)]) [0, 1, 2] rfl
  have hDc := hD.sub (ws' := [(hm, .inr (3, [.int 0, .int 0, .ref wi, .ref co, .ref sl, .ref rn, .ref so, .ref bn, .ref sm, .ref ah])), (sm, .inr (2, [.int 0, .ref gr, .ref gt, .ref gw, .ref gk, .ref gi, .ref gp, .ref go, .ref gg, .ref gh])), (bn, .inl (d5, 3, .inl (fun _ => 0))), (rn, .inl (d6, 12, .inl fn)), (so, .inl (d7, 12, .inl (fun _ => 0)))]) [0, 1, 2, 3, 4] (by decide) rfl
  have hFc := va_free (wc := [(hm, .inr (3, [.int 0, .int 0, .ref wi, .ref co, .ref sl, .ref rn, .ref so, .ref bn, .ref sm, .ref ah])), (sm, .inr (2, [.int 0, .ref gr, .ref gt, .ref gw, .ref gk, .ref gi, .ref gp, .ref go, .ref gg, .ref gh])), (bn, .inl (d5, 3, .inl (fun _ => 0))), (rn, .inl (d6, 12, .inl fn)), (so, .inl (d7, 12, .inl (fun _ => 0)))]) hD hS hA [0, 1, 2, 3, 4] rfl
  refine va_calli (va_runV (As := [.int 7]) (rest := [.long 630286476668899]) ⟨hx, hb, hml, hown, hts⟩ (k3_counted7 l dC dI H.size hm wi co sl rn so bn sm ah 0 gr gt gw gk gi gp go gg gh d5 d6 d7 fn (by first | assumption | decide | omega)) (cwV 1 hts gX3_digest_X3_counted rfl rfl rfl (by decide +kernel) ⟨Nat.le_of_ble_eq_true rfl, Nat.le_of_ble_eq_true rfl⟩) ⟨fun a U g mk q => by obtain ⟨q0, q1, qP, qK, qD, qN⟩ := q; exact ⟨q0, q1, qP, va_K.moved (u := U) (U := U.calling g mk a) (Vm.Alike.refl U.vm) qK, qD, zNs.calling qN⟩, va_recv hKc hPc (ci := 3) (q0 := 0) rfl rfl, fun U hU hW => ⟨rfl, by rw [hU], by rw [hU]; exact hPc, va_K.moved hW.alike hKc, hDc.weaken (fun _ _ _ _ => trivial), zNs.warm hW hZN⟩⟩ rfl rfl hl.1 rfl (lv_room (Nat.le_of_ble_eq_true rfl)) dX3_digest_24 ⟨Nat.le_of_ble_eq_true rfl, Nat.le_of_ble_eq_true rfl⟩) hS (fun q _ h => hFc q h) hFc (fun r16 u t H1 locs ht hvm hr16 hB hz1 hk1 hS => ?_)
  obtain ⟨hP1, hK1, hD1⟩ := hB
  rw [ht] at hP1
  have hK1 := va_K.moved hvm.symm hK1
  try dsimp only at hr16
  obtain ⟨hP, hD⟩ := va_join (wr := []) (w1 := [(hm, .inr (3, [.int 0, .int 0, .ref wi, .ref co, .ref sl, .ref rn, .ref so, .ref bn, .ref sm, .ref ah])), (sm, .inr (2, [.int 0, .ref gr, .ref gt, .ref gw, .ref gk, .ref gi, .ref gp, .ref go, .ref gg, .ref gh])), (bn, .inl (d5, 3, .inl (fun _ => 0))), (rn, .inl (d6, 12, .inl fn)), (so, .inl (d7, 12, .inl (fun _ => 0)))]) hP hD [0, 1, 2, 3, 4] [] rfl rfl (by decide) (by decide) hk1 hFc hP1 hD1
  generalize H1 = H at hP hS ⊢
  have hP : va_P (dC, dI) vwCl [(hm, .inr (3, [.int 0, .int 0, .ref wi, .ref co, .ref sl, .ref rn, .ref so, .ref bn, .ref sm, .ref ah])), (sm, .inr (2, [.int 0, .ref gr, .ref gt, .ref gw, .ref gk, .ref gi, .ref gp, .ref go, .ref gg, .ref gh])), (bn, .inl (d5, 3, .inl (fun _ => 0))), (rn, .inl (d6, 12, .inl fn)), (so, .inl (d7, 12, .inl (fun _ => 0)))] H := hP
  have hD : va_D A [(hm, .inr (3, [.int 0, .int 0, .ref wi, .ref co, .ref sl, .ref rn, .ref so, .ref bn, .ref sm, .ref ah])), (sm, .inr (2, [.int 0, .ref gr, .ref gt, .ref gw, .ref gk, .ref gi, .ref gp, .ref go, .ref gg, .ref gh])), (bn, .inl (d5, 3, .inl (fun _ => 0))), (rn, .inl (d6, 12, .inl fn)), (so, .inl (d7, 12, .inl (fun _ => 0)))] := hD
  refine W.widen (k := 8) (n := 72) (Nat.le_of_ble_eq_true rfl) (Nat.le_of_ble_eq_true rfl) ?_
  obtain rfl := hr16
  refine lv_i2l (v := 4) hx hb dX3_digest_27 (by first | rfl | decide) ?_
  refine lv_ladd hx hb dX3_digest_28 ?_
  refine W.eq (g2 := F0 m 29 ls [.long 630286476668903]) rfl ?_
  refine lv_lstore_n (lv' := [(1, .long 630286476668903), (3, .int 7), (0, .ref hm)]) hx hb dX3_digest_29 rfl hl (by decide) rfl (fun ls hl => ?_)
  refine lv_iinc (v := 8) (lv' := [(3, .int 8), (1, .long 630286476668903), (0, .ref hm)]) hx hb dX3_digest_30 hl (k := 1) rfl (by decide) (by decide) rfl (fun ls hl => ?_)
  refine lv_goto (tgt := 11) hx hb dX3_digest_33 (by decide) ?_
  refine lv_iload_n hx hb dX3_digest_11 rfl (lv_at hl 0 rfl) ?_
  refine lv_bipush (v := 8) hx hb dX3_digest_12 (by decide) ?_
  refine lv_icmp_gt (tgt := 36) hx hb dX3_digest_14 (by decide) (fun c17 => absurd c17 (by decide)) (fun c17 => ?_)
  refine lv_lload_n hx hb dX3_digest_17 rfl (lv_at hl 1 rfl) ?_
  refine lv_ldc2 (v := 31) hx hb hown (hts (.constantLong RX3 151 31) (by decide +kernel)) dX3_digest_18 ?_
  refine lv_lmul hx hb dX3_digest_21 ?_
  refine W.eq (g2 := F0 m 22 ls [.long 19538880776735993]) rfl ?_
  refine lv_aload_n hx hb dX3_digest_22 rfl (lv_at hl 2 rfl) ?_
  refine lv_iload_n hx hb dX3_digest_23 rfl (lv_at hl 0 rfl) ?_
  have hPc := hP.sub (ws' := [(hm, .inr (3, [.int 0, .int 0, .ref wi, .ref co, .ref sl, .ref rn, .ref so, .ref bn, .ref sm, .ref ah])), (sm, .inr (2, [.int 0, .ref gr, .ref gt, .ref gw, .ref gk, .ref gi, .ref gp, .ref go, .ref gg, .ref gh])), (bn, .inl (d5, 3, .inl (fun _ => 0))), (rn, .inl (d6, 12, .inl fn)), (so, .inl (d7, 12, .inl (fun _ => 0)))]) [0, 1, 2, 3, 4] rfl
  have hKc := hK.sub (tys' := [(d5, .int), (d6, .int), (d7, .int)]) [0, 1, 2] rfl
  have hDc := hD.sub (ws' := [(hm, .inr (3, [.int 0, .int 0, .ref wi, .ref co, .ref sl, .ref rn, .ref so, .ref bn, .ref sm, .ref ah])), (sm, .inr (2, [.int 0, .ref gr, .ref gt, .ref gw, .ref gk, .ref gi, .ref gp, .ref go, .ref gg, .ref gh])), (bn, .inl (d5, 3, .inl (fun _ => 0))), (rn, .inl (d6, 12, .inl fn)), (so, .inl (d7, 12, .inl (fun _ => 0)))]) [0, 1, 2, 3, 4] (by decide) rfl
  have hFc := va_free (wc := [(hm, .inr (3, [.int 0, .int 0, .ref wi, .ref co, .ref sl, .ref rn, .ref so, .ref bn, .ref sm, .ref ah])), (sm, .inr (2, [.int 0, .ref gr, .ref gt, .ref gw, .ref gk, .ref gi, .ref gp, .ref go, .ref gg, .ref gh])), (bn, .inl (d5, 3, .inl (fun _ => 0))), (rn, .inl (d6, 12, .inl fn)), (so, .inl (d7, 12, .inl (fun _ => 0)))]) hD hS hA [0, 1, 2, 3, 4] rfl
  refine va_calli (va_runV (As := [.int 8]) (rest := [.long 19538880776735993]) ⟨hx, hb, hml, hown, hts⟩ (k3_counted8 l dC dI H.size hm wi co sl rn so bn sm ah 0 gr gt gw gk gi gp go gg gh d5 d6 d7 fn (by first | assumption | decide | omega)) (cwV 1 hts gX3_digest_X3_counted rfl rfl rfl (by decide +kernel) ⟨Nat.le_of_ble_eq_true rfl, Nat.le_of_ble_eq_true rfl⟩) ⟨fun a U g mk q => by obtain ⟨q0, q1, qP, qK, qD, qN⟩ := q; exact ⟨q0, q1, qP, va_K.moved (u := U) (U := U.calling g mk a) (Vm.Alike.refl U.vm) qK, qD, zNs.calling qN⟩, va_recv hKc hPc (ci := 3) (q0 := 0) rfl rfl, fun U hU hW => ⟨rfl, by rw [hU], by rw [hU]; exact hPc, va_K.moved hW.alike hKc, hDc.weaken (fun _ _ _ _ => trivial), zNs.warm hW hZN⟩⟩ rfl rfl hl.1 rfl (lv_room (Nat.le_of_ble_eq_true rfl)) dX3_digest_24 ⟨Nat.le_of_ble_eq_true rfl, Nat.le_of_ble_eq_true rfl⟩) hS (fun q _ h => hFc q h) hFc (fun r18 u t H1 locs ht hvm hr18 hB hz1 hk1 hS => ?_)
  obtain ⟨hP1, hK1, hD1⟩ := hB
  rw [ht] at hP1
  have hK1 := va_K.moved hvm.symm hK1
  try dsimp only at hr18
  obtain ⟨hP, hD⟩ := va_join (wr := []) (w1 := [(hm, .inr (3, [.int 0, .int 0, .ref wi, .ref co, .ref sl, .ref rn, .ref so, .ref bn, .ref sm, .ref ah])), (sm, .inr (2, [.int 0, .ref gr, .ref gt, .ref gw, .ref gk, .ref gi, .ref gp, .ref go, .ref gg, .ref gh])), (bn, .inl (d5, 3, .inl (fun _ => 0))), (rn, .inl (d6, 12, .inl fn)), (so, .inl (d7, 12, .inl (fun _ => 0)))]) hP hD [0, 1, 2, 3, 4] [] rfl rfl (by decide) (by decide) hk1 hFc hP1 hD1
  generalize H1 = H at hP hS ⊢
  have hP : va_P (dC, dI) vwCl [(hm, .inr (3, [.int 0, .int 0, .ref wi, .ref co, .ref sl, .ref rn, .ref so, .ref bn, .ref sm, .ref ah])), (sm, .inr (2, [.int 0, .ref gr, .ref gt, .ref gw, .ref gk, .ref gi, .ref gp, .ref go, .ref gg, .ref gh])), (bn, .inl (d5, 3, .inl (fun _ => 0))), (rn, .inl (d6, 12, .inl fn)), (so, .inl (d7, 12, .inl (fun _ => 0)))] H := hP
  have hD : va_D A [(hm, .inr (3, [.int 0, .int 0, .ref wi, .ref co, .ref sl, .ref rn, .ref so, .ref bn, .ref sm, .ref ah])), (sm, .inr (2, [.int 0, .ref gr, .ref gt, .ref gw, .ref gk, .ref gi, .ref gp, .ref go, .ref gg, .ref gh])), (bn, .inl (d5, 3, .inl (fun _ => 0))), (rn, .inl (d6, 12, .inl fn)), (so, .inl (d7, 12, .inl (fun _ => 0)))] := hD
  refine W.widen (k := 9) (n := 81) (Nat.le_of_ble_eq_true rfl) (Nat.le_of_ble_eq_true rfl) ?_
  obtain rfl := hr18
  refine lv_i2l (v := 0) hx hb dX3_digest_27 (by first | rfl | decide) ?_
  refine lv_ladd hx hb dX3_digest_28 ?_
  refine W.eq (g2 := F0 m 29 ls [.long 19538880776735993]) rfl ?_
  refine lv_lstore_n (lv' := [(1, .long 19538880776735993), (3, .int 8), (0, .ref hm)]) hx hb dX3_digest_29 rfl hl (by decide) rfl (fun ls hl => ?_)
  refine lv_iinc (v := 9) (lv' := [(3, .int 9), (1, .long 19538880776735993), (0, .ref hm)]) hx hb dX3_digest_30 hl (k := 1) rfl (by decide) (by decide) rfl (fun ls hl => ?_)
  refine lv_goto (tgt := 11) hx hb dX3_digest_33 (by decide) ?_
  refine lv_iload_n hx hb dX3_digest_11 rfl (lv_at hl 0 rfl) ?_
  refine lv_bipush (v := 8) hx hb dX3_digest_12 (by decide) ?_
  refine lv_icmp_gt (tgt := 36) hx hb dX3_digest_14 (by decide) (fun c19 => ?_) (fun c19 => absurd c19 (by decide))
  refine lv_iconst (v := 0) hx hb dX3_digest_36 (by decide) ?_
  refine lv_istore_n (lv' := [(3, .int 0), (1, .long 19538880776735993), (0, .ref hm)]) hx hb dX3_digest_37 rfl hl (by decide) rfl (fun ls hl => ?_)
  refine lv_iload_n hx hb dX3_digest_38 rfl (lv_at hl 0 rfl) ?_
  refine lv_bipush (v := 12) hx hb dX3_digest_39 (by decide) ?_
  refine lv_icmp_ge (tgt := 75) hx hb dX3_digest_41 (by decide) (fun c20 => absurd c20 (by decide)) (fun c20 => ?_)
  refine lv_lload_n hx hb dX3_digest_44 rfl (lv_at hl 1 rfl) ?_
  refine lv_ldc2 (v := 31) hx hb hown (hts (.constantLong RX3 151 31) (by decide +kernel)) dX3_digest_45 ?_
  refine lv_lmul hx hb dX3_digest_48 ?_
  refine W.eq (g2 := F0 m 49 ls [.long 605705304078815783]) rfl ?_
  refine lv_bipush (v := 10) hx hb dX3_digest_49 (by decide) ?_
  refine lv_aload_n hx hb dX3_digest_51 rfl (lv_at hl 2 rfl) ?_
  refine va_get (D := (dC, dI)) (ci := 3) (v := .ref rn) (C := RX3) (T := TX3) (N := 10) hx hb hts (by decide +kernel) hown hK hP 0 rfl rfl 5 (by decide) (hts (.fieldLink RX3 19 "ThatchRoofModel" "rain" "[I") (by decide +kernel)) (fun _ h9 => h9) rfl dX3_digest_52 ?_
  refine lv_iload_n hx hb dX3_digest_55 rfl (lv_at hl 0 rfl) ?_
  refine va_iald hx hb hK hP 3 1 rfl rfl (vp_in_nI (n := 0) (by decide) (by decide)) dX3_digest_56 ?_
  refine lv_topi (fun x21 ex21 => ?_)
  obtain rfl : x21 = 4 := ex21.trans (hrn _ (by decide))
  refine lv_imul hx hb dX3_digest_57 ?_
  refine W.eq (g2 := F0 m 58 ls [.int 40, .long 605705304078815783]) rfl ?_
  refine lv_i2l (v := 40) hx hb dX3_digest_58 (by first | rfl | decide) ?_
  refine lv_ladd hx hb dX3_digest_59 ?_
  refine W.eq (g2 := F0 m 60 ls [.long 605705304078815823]) rfl ?_
  refine lv_aload_n hx hb dX3_digest_60 rfl (lv_at hl 2 rfl) ?_
  refine va_get (D := (dC, dI)) (ci := 3) (v := .ref so) (C := RX3) (T := TX3) (N := 10) hx hb hts (by decide +kernel) hown hK hP 0 rfl rfl 6 (by decide) (hts (.fieldLink RX3 22 "ThatchRoofModel" "storm" "[I") (by decide +kernel)) (fun _ h9 => h9) rfl dX3_digest_61 ?_
  refine lv_iload_n hx hb dX3_digest_64 rfl (lv_at hl 0 rfl) ?_
  refine va_iald hx hb hK hP 4 2 rfl rfl (vp_in_nI (n := 0) (by decide) (by decide)) dX3_digest_65 ?_
  refine lv_topi (fun x22 ex22 => ?_)
  obtain rfl : x22 = 0 := ex22
  refine lv_i2l (v := 0) hx hb dX3_digest_66 (by first | rfl | decide) ?_
  refine lv_ladd hx hb dX3_digest_67 ?_
  refine W.eq (g2 := F0 m 68 ls [.long 605705304078815823]) rfl ?_
  refine lv_lstore_n (lv' := [(1, .long 605705304078815823), (3, .int 0), (0, .ref hm)]) hx hb dX3_digest_68 rfl hl (by decide) rfl (fun ls hl => ?_)
  refine lv_iinc (v := 1) (lv' := [(3, .int 1), (1, .long 605705304078815823), (0, .ref hm)]) hx hb dX3_digest_69 hl (k := 1) rfl (by decide) (by decide) rfl (fun ls hl => ?_)
  refine lv_goto (tgt := 38) hx hb dX3_digest_72 (by decide) ?_
  refine lv_iload_n hx hb dX3_digest_38 rfl (lv_at hl 0 rfl) ?_
  refine lv_bipush (v := 12) hx hb dX3_digest_39 (by decide) ?_
  refine lv_icmp_ge (tgt := 75) hx hb dX3_digest_41 (by decide) (fun c23 => absurd c23 (by decide)) (fun c23 => ?_)
  refine lv_lload_n hx hb dX3_digest_44 rfl (lv_at hl 1 rfl) ?_
  refine lv_ldc2 (v := 31) hx hb hown (hts (.constantLong RX3 151 31) (by decide +kernel)) dX3_digest_45 ?_
  refine lv_lmul hx hb dX3_digest_48 ?_
  refine W.eq (g2 := F0 m 49 ls [.long 330120352733738897]) rfl ?_
  refine lv_bipush (v := 10) hx hb dX3_digest_49 (by decide) ?_
  refine lv_aload_n hx hb dX3_digest_51 rfl (lv_at hl 2 rfl) ?_
  refine va_get (D := (dC, dI)) (ci := 3) (v := .ref rn) (C := RX3) (T := TX3) (N := 10) hx hb hts (by decide +kernel) hown hK hP 0 rfl rfl 5 (by decide) (hts (.fieldLink RX3 19 "ThatchRoofModel" "rain" "[I") (by decide +kernel)) (fun _ h9 => h9) rfl dX3_digest_52 ?_
  refine lv_iload_n hx hb dX3_digest_55 rfl (lv_at hl 0 rfl) ?_
  refine va_iald hx hb hK hP 3 1 rfl rfl (vp_in_nI (n := 1) (by decide) (by decide)) dX3_digest_56 ?_
  refine lv_topi (fun x24 ex24 => ?_)
  obtain rfl : x24 = 4 := ex24.trans (hrn _ (by decide))
  refine lv_imul hx hb dX3_digest_57 ?_
  refine W.eq (g2 := F0 m 58 ls [.int 40, .long 330120352733738897]) rfl ?_
  refine lv_i2l (v := 40) hx hb dX3_digest_58 (by first | rfl | decide) ?_
  refine lv_ladd hx hb dX3_digest_59 ?_
  refine W.eq (g2 := F0 m 60 ls [.long 330120352733738937]) rfl ?_
  refine lv_aload_n hx hb dX3_digest_60 rfl (lv_at hl 2 rfl) ?_
  refine va_get (D := (dC, dI)) (ci := 3) (v := .ref so) (C := RX3) (T := TX3) (N := 10) hx hb hts (by decide +kernel) hown hK hP 0 rfl rfl 6 (by decide) (hts (.fieldLink RX3 22 "ThatchRoofModel" "storm" "[I") (by decide +kernel)) (fun _ h9 => h9) rfl dX3_digest_61 ?_
  refine lv_iload_n hx hb dX3_digest_64 rfl (lv_at hl 0 rfl) ?_
  refine va_iald hx hb hK hP 4 2 rfl rfl (vp_in_nI (n := 1) (by decide) (by decide)) dX3_digest_65 ?_
  refine lv_topi (fun x25 ex25 => ?_)
  obtain rfl : x25 = 0 := ex25
  refine lv_i2l (v := 0) hx hb dX3_digest_66 (by first | rfl | decide) ?_
  refine lv_ladd hx hb dX3_digest_67 ?_
  refine W.eq (g2 := F0 m 68 ls [.long 330120352733738937]) rfl ?_
  refine lv_lstore_n (lv' := [(1, .long 330120352733738937), (3, .int 1), (0, .ref hm)]) hx hb dX3_digest_68 rfl hl (by decide) rfl (fun ls hl => ?_)
  refine lv_iinc (v := 2) (lv' := [(3, .int 2), (1, .long 330120352733738937), (0, .ref hm)]) hx hb dX3_digest_69 hl (k := 1) rfl (by decide) (by decide) rfl (fun ls hl => ?_)
  refine lv_goto (tgt := 38) hx hb dX3_digest_72 (by decide) ?_
  refine lv_iload_n hx hb dX3_digest_38 rfl (lv_at hl 0 rfl) ?_
  refine lv_bipush (v := 12) hx hb dX3_digest_39 (by decide) ?_
  refine lv_icmp_ge (tgt := 75) hx hb dX3_digest_41 (by decide) (fun c26 => absurd c26 (by decide)) (fun c26 => ?_)
  refine lv_lload_n hx hb dX3_digest_44 rfl (lv_at hl 1 rfl) ?_
  refine lv_ldc2 (v := 31) hx hb hown (hts (.constantLong RX3 151 31) (by decide +kernel)) dX3_digest_45 ?_
  refine lv_lmul hx hb dX3_digest_48 ?_
  refine W.eq (g2 := F0 m 49 ls [.long (-8213013138963644569)]) rfl ?_
  refine lv_bipush (v := 10) hx hb dX3_digest_49 (by decide) ?_
  refine lv_aload_n hx hb dX3_digest_51 rfl (lv_at hl 2 rfl) ?_
  refine va_get (D := (dC, dI)) (ci := 3) (v := .ref rn) (C := RX3) (T := TX3) (N := 10) hx hb hts (by decide +kernel) hown hK hP 0 rfl rfl 5 (by decide) (hts (.fieldLink RX3 19 "ThatchRoofModel" "rain" "[I") (by decide +kernel)) (fun _ h9 => h9) rfl dX3_digest_52 ?_
  refine lv_iload_n hx hb dX3_digest_55 rfl (lv_at hl 0 rfl) ?_
  refine va_iald hx hb hK hP 3 1 rfl rfl (vp_in_nI (n := 2) (by decide) (by decide)) dX3_digest_56 ?_
  refine lv_topi (fun x27 ex27 => ?_)
  obtain rfl : x27 = 4 := ex27.trans (hrn _ (by decide))
  refine lv_imul hx hb dX3_digest_57 ?_
  refine W.eq (g2 := F0 m 58 ls [.int 40, .long (-8213013138963644569)]) rfl ?_
  refine lv_i2l (v := 40) hx hb dX3_digest_58 (by first | rfl | decide) ?_
  refine lv_ladd hx hb dX3_digest_59 ?_
  refine W.eq (g2 := F0 m 60 ls [.long (-8213013138963644529)]) rfl ?_
  refine lv_aload_n hx hb dX3_digest_60 rfl (lv_at hl 2 rfl) ?_
  refine va_get (D := (dC, dI)) (ci := 3) (v := .ref so) (C := RX3) (T := TX3) (N := 10) hx hb hts (by decide +kernel) hown hK hP 0 rfl rfl 6 (by decide) (hts (.fieldLink RX3 22 "ThatchRoofModel" "storm" "[I") (by decide +kernel)) (fun _ h9 => h9) rfl dX3_digest_61 ?_
  refine lv_iload_n hx hb dX3_digest_64 rfl (lv_at hl 0 rfl) ?_
  refine va_iald hx hb hK hP 4 2 rfl rfl (vp_in_nI (n := 2) (by decide) (by decide)) dX3_digest_65 ?_
  refine lv_topi (fun x28 ex28 => ?_)
  obtain rfl : x28 = 0 := ex28
  refine lv_i2l (v := 0) hx hb dX3_digest_66 (by first | rfl | decide) ?_
  refine lv_ladd hx hb dX3_digest_67 ?_
  refine W.eq (g2 := F0 m 68 ls [.long (-8213013138963644529)]) rfl ?_
  refine lv_lstore_n (lv' := [(1, .long (-8213013138963644529)), (3, .int 2), (0, .ref hm)]) hx hb dX3_digest_68 rfl hl (by decide) rfl (fun ls hl => ?_)
  refine lv_iinc (v := 3) (lv' := [(3, .int 3), (1, .long (-8213013138963644529)), (0, .ref hm)]) hx hb dX3_digest_69 hl (k := 1) rfl (by decide) (by decide) rfl (fun ls hl => ?_)
  refine lv_goto (tgt := 38) hx hb dX3_digest_72 (by decide) ?_
  refine lv_iload_n hx hb dX3_digest_38 rfl (lv_at hl 0 rfl) ?_
  refine lv_bipush (v := 12) hx hb dX3_digest_39 (by decide) ?_
  refine lv_icmp_ge (tgt := 75) hx hb dX3_digest_41 (by decide) (fun c29 => absurd c29 (by decide)) (fun c29 => ?_)
  refine lv_lload_n hx hb dX3_digest_44 rfl (lv_at hl 1 rfl) ?_
  refine lv_ldc2 (v := 31) hx hb hown (hts (.constantLong RX3 151 31) (by decide +kernel)) dX3_digest_45 ?_
  refine lv_lmul hx hb dX3_digest_48 ?_
  refine W.eq (g2 := F0 m 49 ls [.long 3651009724060742225]) rfl ?_
  refine lv_bipush (v := 10) hx hb dX3_digest_49 (by decide) ?_
  refine lv_aload_n hx hb dX3_digest_51 rfl (lv_at hl 2 rfl) ?_
  refine va_get (D := (dC, dI)) (ci := 3) (v := .ref rn) (C := RX3) (T := TX3) (N := 10) hx hb hts (by decide +kernel) hown hK hP 0 rfl rfl 5 (by decide) (hts (.fieldLink RX3 19 "ThatchRoofModel" "rain" "[I") (by decide +kernel)) (fun _ h9 => h9) rfl dX3_digest_52 ?_
  refine lv_iload_n hx hb dX3_digest_55 rfl (lv_at hl 0 rfl) ?_
  refine va_iald hx hb hK hP 3 1 rfl rfl (vp_in_nI (n := 3) (by decide) (by decide)) dX3_digest_56 ?_
  refine lv_topi (fun x30 ex30 => ?_)
  obtain rfl : x30 = 4 := ex30.trans (hrn _ (by decide))
  refine lv_imul hx hb dX3_digest_57 ?_
  refine W.eq (g2 := F0 m 58 ls [.int 40, .long 3651009724060742225]) rfl ?_
  refine lv_i2l (v := 40) hx hb dX3_digest_58 (by first | rfl | decide) ?_
  refine lv_ladd hx hb dX3_digest_59 ?_
  refine W.eq (g2 := F0 m 60 ls [.long 3651009724060742265]) rfl ?_
  refine lv_aload_n hx hb dX3_digest_60 rfl (lv_at hl 2 rfl) ?_
  refine va_get (D := (dC, dI)) (ci := 3) (v := .ref so) (C := RX3) (T := TX3) (N := 10) hx hb hts (by decide +kernel) hown hK hP 0 rfl rfl 6 (by decide) (hts (.fieldLink RX3 22 "ThatchRoofModel" "storm" "[I") (by decide +kernel)) (fun _ h9 => h9) rfl dX3_digest_61 ?_
  refine lv_iload_n hx hb dX3_digest_64 rfl (lv_at hl 0 rfl) ?_
  refine va_iald hx hb hK hP 4 2 rfl rfl (vp_in_nI (n := 3) (by decide) (by decide)) dX3_digest_65 ?_
  refine lv_topi (fun x31 ex31 => ?_)
  obtain rfl : x31 = 0 := ex31
  refine lv_i2l (v := 0) hx hb dX3_digest_66 (by first | rfl | decide) ?_
  refine lv_ladd hx hb dX3_digest_67 ?_
  refine W.eq (g2 := F0 m 68 ls [.long 3651009724060742265]) rfl ?_
  refine lv_lstore_n (lv' := [(1, .long 3651009724060742265), (3, .int 3), (0, .ref hm)]) hx hb dX3_digest_68 rfl hl (by decide) rfl (fun ls hl => ?_)
  refine lv_iinc (v := 4) (lv' := [(3, .int 4), (1, .long 3651009724060742265), (0, .ref hm)]) hx hb dX3_digest_69 hl (k := 1) rfl (by decide) (by decide) rfl (fun ls hl => ?_)
  refine lv_goto (tgt := 38) hx hb dX3_digest_72 (by decide) ?_
  refine lv_iload_n hx hb dX3_digest_38 rfl (lv_at hl 0 rfl) ?_
  refine lv_bipush (v := 12) hx hb dX3_digest_39 (by decide) ?_
  refine lv_icmp_ge (tgt := 75) hx hb dX3_digest_41 (by decide) (fun c32 => absurd c32 (by decide)) (fun c32 => ?_)
  refine lv_lload_n hx hb dX3_digest_44 rfl (lv_at hl 1 rfl) ?_
  refine lv_ldc2 (v := 31) hx hb hown (hts (.constantLong RX3 151 31) (by decide +kernel)) dX3_digest_45 ?_
  refine lv_lmul hx hb dX3_digest_48 ?_
  refine W.eq (g2 := F0 m 49 ls [.long 2500837003625700519]) rfl ?_
  refine lv_bipush (v := 10) hx hb dX3_digest_49 (by decide) ?_
  refine lv_aload_n hx hb dX3_digest_51 rfl (lv_at hl 2 rfl) ?_
  refine va_get (D := (dC, dI)) (ci := 3) (v := .ref rn) (C := RX3) (T := TX3) (N := 10) hx hb hts (by decide +kernel) hown hK hP 0 rfl rfl 5 (by decide) (hts (.fieldLink RX3 19 "ThatchRoofModel" "rain" "[I") (by decide +kernel)) (fun _ h9 => h9) rfl dX3_digest_52 ?_
  refine lv_iload_n hx hb dX3_digest_55 rfl (lv_at hl 0 rfl) ?_
  refine va_iald hx hb hK hP 3 1 rfl rfl (vp_in_nI (n := 4) (by decide) (by decide)) dX3_digest_56 ?_
  refine lv_topi (fun x33 ex33 => ?_)
  obtain rfl : x33 = 4 := ex33.trans (hrn _ (by decide))
  refine lv_imul hx hb dX3_digest_57 ?_
  refine W.eq (g2 := F0 m 58 ls [.int 40, .long 2500837003625700519]) rfl ?_
  refine lv_i2l (v := 40) hx hb dX3_digest_58 (by first | rfl | decide) ?_
  refine lv_ladd hx hb dX3_digest_59 ?_
  refine W.eq (g2 := F0 m 60 ls [.long 2500837003625700559]) rfl ?_
  refine lv_aload_n hx hb dX3_digest_60 rfl (lv_at hl 2 rfl) ?_
  refine va_get (D := (dC, dI)) (ci := 3) (v := .ref so) (C := RX3) (T := TX3) (N := 10) hx hb hts (by decide +kernel) hown hK hP 0 rfl rfl 6 (by decide) (hts (.fieldLink RX3 22 "ThatchRoofModel" "storm" "[I") (by decide +kernel)) (fun _ h9 => h9) rfl dX3_digest_61 ?_
  refine lv_iload_n hx hb dX3_digest_64 rfl (lv_at hl 0 rfl) ?_
  refine va_iald hx hb hK hP 4 2 rfl rfl (vp_in_nI (n := 4) (by decide) (by decide)) dX3_digest_65 ?_
  refine lv_topi (fun x34 ex34 => ?_)
  obtain rfl : x34 = 0 := ex34
  refine lv_i2l (v := 0) hx hb dX3_digest_66 (by first | rfl | decide) ?_
  refine lv_ladd hx hb dX3_digest_67 ?_
  refine W.eq (g2 := F0 m 68 ls [.long 2500837003625700559]) rfl ?_
  refine lv_lstore_n (lv' := [(1, .long 2500837003625700559), (3, .int 4), (0, .ref hm)]) hx hb dX3_digest_68 rfl hl (by decide) rfl (fun ls hl => ?_)
  refine lv_iinc (v := 5) (lv' := [(3, .int 5), (1, .long 2500837003625700559), (0, .ref hm)]) hx hb dX3_digest_69 hl (k := 1) rfl (by decide) (by decide) rfl (fun ls hl => ?_)
  refine lv_goto (tgt := 38) hx hb dX3_digest_72 (by decide) ?_
  refine lv_iload_n hx hb dX3_digest_38 rfl (lv_at hl 0 rfl) ?_
  refine lv_bipush (v := 12) hx hb dX3_digest_39 (by decide) ?_
  refine lv_icmp_ge (tgt := 75) hx hb dX3_digest_41 (by decide) (fun c35 => absurd c35 (by decide)) (fun c35 => ?_)
  refine lv_lload_n hx hb dX3_digest_44 rfl (lv_at hl 1 rfl) ?_
  refine lv_ldc2 (v := 31) hx hb hown (hts (.constantLong RX3 151 31) (by decide +kernel)) dX3_digest_45 ?_
  refine lv_lmul hx hb dX3_digest_48 ?_
  refine W.eq (g2 := F0 m 49 ls [.long 3738970817558510865]) rfl ?_
  refine lv_bipush (v := 10) hx hb dX3_digest_49 (by decide) ?_
  refine lv_aload_n hx hb dX3_digest_51 rfl (lv_at hl 2 rfl) ?_
  refine va_get (D := (dC, dI)) (ci := 3) (v := .ref rn) (C := RX3) (T := TX3) (N := 10) hx hb hts (by decide +kernel) hown hK hP 0 rfl rfl 5 (by decide) (hts (.fieldLink RX3 19 "ThatchRoofModel" "rain" "[I") (by decide +kernel)) (fun _ h9 => h9) rfl dX3_digest_52 ?_
  refine lv_iload_n hx hb dX3_digest_55 rfl (lv_at hl 0 rfl) ?_
  refine va_iald hx hb hK hP 3 1 rfl rfl (vp_in_nI (n := 5) (by decide) (by decide)) dX3_digest_56 ?_
  refine lv_topi (fun x36 ex36 => ?_)
  obtain rfl : x36 = 4 := ex36.trans (hrn _ (by decide))
  refine lv_imul hx hb dX3_digest_57 ?_
  refine W.eq (g2 := F0 m 58 ls [.int 40, .long 3738970817558510865]) rfl ?_
  refine lv_i2l (v := 40) hx hb dX3_digest_58 (by first | rfl | decide) ?_
  refine lv_ladd hx hb dX3_digest_59 ?_
  refine W.eq (g2 := F0 m 60 ls [.long 3738970817558510905]) rfl ?_
  refine lv_aload_n hx hb dX3_digest_60 rfl (lv_at hl 2 rfl) ?_
  refine va_get (D := (dC, dI)) (ci := 3) (v := .ref so) (C := RX3) (T := TX3) (N := 10) hx hb hts (by decide +kernel) hown hK hP 0 rfl rfl 6 (by decide) (hts (.fieldLink RX3 22 "ThatchRoofModel" "storm" "[I") (by decide +kernel)) (fun _ h9 => h9) rfl dX3_digest_61 ?_
  refine lv_iload_n hx hb dX3_digest_64 rfl (lv_at hl 0 rfl) ?_
  refine va_iald hx hb hK hP 4 2 rfl rfl (vp_in_nI (n := 5) (by decide) (by decide)) dX3_digest_65 ?_
  refine lv_topi (fun x37 ex37 => ?_)
  obtain rfl : x37 = 0 := ex37
  refine lv_i2l (v := 0) hx hb dX3_digest_66 (by first | rfl | decide) ?_
  refine lv_ladd hx hb dX3_digest_67 ?_
  refine W.eq (g2 := F0 m 68 ls [.long 3738970817558510905]) rfl ?_
  refine lv_lstore_n (lv' := [(1, .long 3738970817558510905), (3, .int 5), (0, .ref hm)]) hx hb dX3_digest_68 rfl hl (by decide) rfl (fun ls hl => ?_)
  refine lv_iinc (v := 6) (lv' := [(3, .int 6), (1, .long 3738970817558510905), (0, .ref hm)]) hx hb dX3_digest_69 hl (k := 1) rfl (by decide) (by decide) rfl (fun ls hl => ?_)
  refine lv_goto (tgt := 38) hx hb dX3_digest_72 (by decide) ?_
  refine lv_iload_n hx hb dX3_digest_38 rfl (lv_at hl 0 rfl) ?_
  refine lv_bipush (v := 12) hx hb dX3_digest_39 (by decide) ?_
  refine lv_icmp_ge (tgt := 75) hx hb dX3_digest_41 (by decide) (fun c38 => absurd c38 (by decide)) (fun c38 => ?_)
  refine lv_lload_n hx hb dX3_digest_44 rfl (lv_at hl 1 rfl) ?_
  refine lv_ldc2 (v := 31) hx hb hown (hts (.constantLong RX3 151 31) (by decide +kernel)) dX3_digest_45 ?_
  refine lv_lmul hx hb dX3_digest_48 ?_
  refine W.eq (g2 := F0 m 49 ls [.long 5227630902056528359]) rfl ?_
  refine lv_bipush (v := 10) hx hb dX3_digest_49 (by decide) ?_
  refine lv_aload_n hx hb dX3_digest_51 rfl (lv_at hl 2 rfl) ?_
  refine va_get (D := (dC, dI)) (ci := 3) (v := .ref rn) (C := RX3) (T := TX3) (N := 10) hx hb hts (by decide +kernel) hown hK hP 0 rfl rfl 5 (by decide) (hts (.fieldLink RX3 19 "ThatchRoofModel" "rain" "[I") (by decide +kernel)) (fun _ h9 => h9) rfl dX3_digest_52 ?_
  refine lv_iload_n hx hb dX3_digest_55 rfl (lv_at hl 0 rfl) ?_
  refine va_iald hx hb hK hP 3 1 rfl rfl (vp_in_nI (n := 6) (by decide) (by decide)) dX3_digest_56 ?_
  refine lv_topi (fun x39 ex39 => ?_)
  obtain rfl : x39 = 4 := ex39.trans (hrn _ (by decide))
  refine lv_imul hx hb dX3_digest_57 ?_
  refine W.eq (g2 := F0 m 58 ls [.int 40, .long 5227630902056528359]) rfl ?_
  refine lv_i2l (v := 40) hx hb dX3_digest_58 (by first | rfl | decide) ?_
  refine lv_ladd hx hb dX3_digest_59 ?_
  refine W.eq (g2 := F0 m 60 ls [.long 5227630902056528399]) rfl ?_
  refine lv_aload_n hx hb dX3_digest_60 rfl (lv_at hl 2 rfl) ?_
  refine va_get (D := (dC, dI)) (ci := 3) (v := .ref so) (C := RX3) (T := TX3) (N := 10) hx hb hts (by decide +kernel) hown hK hP 0 rfl rfl 6 (by decide) (hts (.fieldLink RX3 22 "ThatchRoofModel" "storm" "[I") (by decide +kernel)) (fun _ h9 => h9) rfl dX3_digest_61 ?_
  refine lv_iload_n hx hb dX3_digest_64 rfl (lv_at hl 0 rfl) ?_
  refine va_iald hx hb hK hP 4 2 rfl rfl (vp_in_nI (n := 6) (by decide) (by decide)) dX3_digest_65 ?_
  refine lv_topi (fun x40 ex40 => ?_)
  obtain rfl : x40 = 0 := ex40
  refine lv_i2l (v := 0) hx hb dX3_digest_66 (by first | rfl | decide) ?_
  refine lv_ladd hx hb dX3_digest_67 ?_
  refine W.eq (g2 := F0 m 68 ls [.long 5227630902056528399]) rfl ?_
  refine lv_lstore_n (lv' := [(1, .long 5227630902056528399), (3, .int 6), (0, .ref hm)]) hx hb dX3_digest_68 rfl hl (by decide) rfl (fun ls hl => ?_)
  refine lv_iinc (v := 7) (lv' := [(3, .int 7), (1, .long 5227630902056528399), (0, .ref hm)]) hx hb dX3_digest_69 hl (k := 1) rfl (by decide) (by decide) rfl (fun ls hl => ?_)
  refine lv_goto (tgt := 38) hx hb dX3_digest_72 (by decide) ?_
  refine lv_iload_n hx hb dX3_digest_38 rfl (lv_at hl 0 rfl) ?_
  refine lv_bipush (v := 12) hx hb dX3_digest_39 (by decide) ?_
  refine lv_icmp_ge (tgt := 75) hx hb dX3_digest_41 (by decide) (fun c41 => absurd c41 (by decide)) (fun c41 => ?_)
  refine lv_lload_n hx hb dX3_digest_44 rfl (lv_at hl 1 rfl) ?_
  refine lv_ldc2 (v := 31) hx hb hown (hts (.constantLong RX3 151 31) (by decide +kernel)) dX3_digest_45 ?_
  refine lv_lmul hx hb dX3_digest_48 ?_
  refine W.eq (g2 := F0 m 49 ls [.long (-3964138699633584175)]) rfl ?_
  refine lv_bipush (v := 10) hx hb dX3_digest_49 (by decide) ?_
  refine lv_aload_n hx hb dX3_digest_51 rfl (lv_at hl 2 rfl) ?_
  refine va_get (D := (dC, dI)) (ci := 3) (v := .ref rn) (C := RX3) (T := TX3) (N := 10) hx hb hts (by decide +kernel) hown hK hP 0 rfl rfl 5 (by decide) (hts (.fieldLink RX3 19 "ThatchRoofModel" "rain" "[I") (by decide +kernel)) (fun _ h9 => h9) rfl dX3_digest_52 ?_
  refine lv_iload_n hx hb dX3_digest_55 rfl (lv_at hl 0 rfl) ?_
  refine va_iald hx hb hK hP 3 1 rfl rfl (vp_in_nI (n := 7) (by decide) (by decide)) dX3_digest_56 ?_
  refine lv_topi (fun x42 ex42 => ?_)
  obtain rfl : x42 = 4 := ex42.trans (hrn _ (by decide))
  refine lv_imul hx hb dX3_digest_57 ?_
  refine W.eq (g2 := F0 m 58 ls [.int 40, .long (-3964138699633584175)]) rfl ?_
  refine lv_i2l (v := 40) hx hb dX3_digest_58 (by first | rfl | decide) ?_
  refine lv_ladd hx hb dX3_digest_59 ?_
  refine W.eq (g2 := F0 m 60 ls [.long (-3964138699633584135)]) rfl ?_
  refine lv_aload_n hx hb dX3_digest_60 rfl (lv_at hl 2 rfl) ?_
  refine va_get (D := (dC, dI)) (ci := 3) (v := .ref so) (C := RX3) (T := TX3) (N := 10) hx hb hts (by decide +kernel) hown hK hP 0 rfl rfl 6 (by decide) (hts (.fieldLink RX3 22 "ThatchRoofModel" "storm" "[I") (by decide +kernel)) (fun _ h9 => h9) rfl dX3_digest_61 ?_
  refine lv_iload_n hx hb dX3_digest_64 rfl (lv_at hl 0 rfl) ?_
  refine va_iald hx hb hK hP 4 2 rfl rfl (vp_in_nI (n := 7) (by decide) (by decide)) dX3_digest_65 ?_
  refine lv_topi (fun x43 ex43 => ?_)
  obtain rfl : x43 = 0 := ex43
  refine lv_i2l (v := 0) hx hb dX3_digest_66 (by first | rfl | decide) ?_
  refine lv_ladd hx hb dX3_digest_67 ?_
  refine W.eq (g2 := F0 m 68 ls [.long (-3964138699633584135)]) rfl ?_
  refine lv_lstore_n (lv' := [(1, .long (-3964138699633584135)), (3, .int 7), (0, .ref hm)]) hx hb dX3_digest_68 rfl hl (by decide) rfl (fun ls hl => ?_)
  refine lv_iinc (v := 8) (lv' := [(3, .int 8), (1, .long (-3964138699633584135)), (0, .ref hm)]) hx hb dX3_digest_69 hl (k := 1) rfl (by decide) (by decide) rfl (fun ls hl => ?_)
  refine lv_goto (tgt := 38) hx hb dX3_digest_72 (by decide) ?_
  refine lv_iload_n hx hb dX3_digest_38 rfl (lv_at hl 0 rfl) ?_
  refine lv_bipush (v := 12) hx hb dX3_digest_39 (by decide) ?_
  refine lv_icmp_ge (tgt := 75) hx hb dX3_digest_41 (by decide) (fun c44 => absurd c44 (by decide)) (fun c44 => ?_)
  refine lv_lload_n hx hb dX3_digest_44 rfl (lv_at hl 1 rfl) ?_
  refine lv_ldc2 (v := 31) hx hb hown (hts (.constantLong RX3 151 31) (by decide +kernel)) dX3_digest_45 ?_
  refine lv_lmul hx hb dX3_digest_48 ?_
  refine W.eq (g2 := F0 m 49 ls [.long 6238908827325753127]) rfl ?_
  refine lv_bipush (v := 10) hx hb dX3_digest_49 (by decide) ?_
  refine lv_aload_n hx hb dX3_digest_51 rfl (lv_at hl 2 rfl) ?_
  refine va_get (D := (dC, dI)) (ci := 3) (v := .ref rn) (C := RX3) (T := TX3) (N := 10) hx hb hts (by decide +kernel) hown hK hP 0 rfl rfl 5 (by decide) (hts (.fieldLink RX3 19 "ThatchRoofModel" "rain" "[I") (by decide +kernel)) (fun _ h9 => h9) rfl dX3_digest_52 ?_
  refine lv_iload_n hx hb dX3_digest_55 rfl (lv_at hl 0 rfl) ?_
  refine va_iald hx hb hK hP 3 1 rfl rfl (vp_in_nI (n := 8) (by decide) (by decide)) dX3_digest_56 ?_
  refine lv_topi (fun x45 ex45 => ?_)
  obtain rfl : x45 = 4 := ex45.trans (hrn _ (by decide))
  refine lv_imul hx hb dX3_digest_57 ?_
  refine W.eq (g2 := F0 m 58 ls [.int 40, .long 6238908827325753127]) rfl ?_
  refine lv_i2l (v := 40) hx hb dX3_digest_58 (by first | rfl | decide) ?_
  refine lv_ladd hx hb dX3_digest_59 ?_
  refine W.eq (g2 := F0 m 60 ls [.long 6238908827325753167]) rfl ?_
  refine lv_aload_n hx hb dX3_digest_60 rfl (lv_at hl 2 rfl) ?_
  refine va_get (D := (dC, dI)) (ci := 3) (v := .ref so) (C := RX3) (T := TX3) (N := 10) hx hb hts (by decide +kernel) hown hK hP 0 rfl rfl 6 (by decide) (hts (.fieldLink RX3 22 "ThatchRoofModel" "storm" "[I") (by decide +kernel)) (fun _ h9 => h9) rfl dX3_digest_61 ?_
  refine lv_iload_n hx hb dX3_digest_64 rfl (lv_at hl 0 rfl) ?_
  refine va_iald hx hb hK hP 4 2 rfl rfl (vp_in_nI (n := 8) (by decide) (by decide)) dX3_digest_65 ?_
  refine lv_topi (fun x46 ex46 => ?_)
  obtain rfl : x46 = 0 := ex46
  refine lv_i2l (v := 0) hx hb dX3_digest_66 (by first | rfl | decide) ?_
  refine lv_ladd hx hb dX3_digest_67 ?_
  refine W.eq (g2 := F0 m 68 ls [.long 6238908827325753167]) rfl ?_
  refine lv_lstore_n (lv' := [(1, .long 6238908827325753167), (3, .int 8), (0, .ref hm)]) hx hb dX3_digest_68 rfl hl (by decide) rfl (fun ls hl => ?_)
  refine lv_iinc (v := 9) (lv' := [(3, .int 9), (1, .long 6238908827325753167), (0, .ref hm)]) hx hb dX3_digest_69 hl (k := 1) rfl (by decide) (by decide) rfl (fun ls hl => ?_)
  refine lv_goto (tgt := 38) hx hb dX3_digest_72 (by decide) ?_
  refine lv_iload_n hx hb dX3_digest_38 rfl (lv_at hl 0 rfl) ?_
  refine lv_bipush (v := 12) hx hb dX3_digest_39 (by decide) ?_
  refine lv_icmp_ge (tgt := 75) hx hb dX3_digest_41 (by decide) (fun c47 => absurd c47 (by decide)) (fun c47 => ?_)
  refine lv_lload_n hx hb dX3_digest_44 rfl (lv_at hl 1 rfl) ?_
  refine lv_ldc2 (v := 31) hx hb hown (hts (.constantLong RX3 151 31) (by decide +kernel)) dX3_digest_45 ?_
  refine lv_lmul hx hb dX3_digest_48 ?_
  refine W.eq (g2 := F0 m 49 ls [.long 8938732910002832017]) rfl ?_
  refine lv_bipush (v := 10) hx hb dX3_digest_49 (by decide) ?_
  refine lv_aload_n hx hb dX3_digest_51 rfl (lv_at hl 2 rfl) ?_
  refine va_get (D := (dC, dI)) (ci := 3) (v := .ref rn) (C := RX3) (T := TX3) (N := 10) hx hb hts (by decide +kernel) hown hK hP 0 rfl rfl 5 (by decide) (hts (.fieldLink RX3 19 "ThatchRoofModel" "rain" "[I") (by decide +kernel)) (fun _ h9 => h9) rfl dX3_digest_52 ?_
  refine lv_iload_n hx hb dX3_digest_55 rfl (lv_at hl 0 rfl) ?_
  refine va_iald hx hb hK hP 3 1 rfl rfl (vp_in_nI (n := 9) (by decide) (by decide)) dX3_digest_56 ?_
  refine lv_topi (fun x48 ex48 => ?_)
  obtain rfl : x48 = 4 := ex48.trans (hrn _ (by decide))
  refine lv_imul hx hb dX3_digest_57 ?_
  refine W.eq (g2 := F0 m 58 ls [.int 40, .long 8938732910002832017]) rfl ?_
  refine lv_i2l (v := 40) hx hb dX3_digest_58 (by first | rfl | decide) ?_
  refine lv_ladd hx hb dX3_digest_59 ?_
  refine W.eq (g2 := F0 m 60 ls [.long 8938732910002832057]) rfl ?_
  refine lv_aload_n hx hb dX3_digest_60 rfl (lv_at hl 2 rfl) ?_
  refine va_get (D := (dC, dI)) (ci := 3) (v := .ref so) (C := RX3) (T := TX3) (N := 10) hx hb hts (by decide +kernel) hown hK hP 0 rfl rfl 6 (by decide) (hts (.fieldLink RX3 22 "ThatchRoofModel" "storm" "[I") (by decide +kernel)) (fun _ h9 => h9) rfl dX3_digest_61 ?_
  refine lv_iload_n hx hb dX3_digest_64 rfl (lv_at hl 0 rfl) ?_
  refine va_iald hx hb hK hP 4 2 rfl rfl (vp_in_nI (n := 9) (by decide) (by decide)) dX3_digest_65 ?_
  refine lv_topi (fun x49 ex49 => ?_)
  obtain rfl : x49 = 0 := ex49
  refine lv_i2l (v := 0) hx hb dX3_digest_66 (by first | rfl | decide) ?_
  refine lv_ladd hx hb dX3_digest_67 ?_
  refine W.eq (g2 := F0 m 68 ls [.long 8938732910002832057]) rfl ?_
  refine lv_lstore_n (lv' := [(1, .long 8938732910002832057), (3, .int 9), (0, .ref hm)]) hx hb dX3_digest_68 rfl hl (by decide) rfl (fun ls hl => ?_)
  refine lv_iinc (v := 10) (lv' := [(3, .int 10), (1, .long 8938732910002832057), (0, .ref hm)]) hx hb dX3_digest_69 hl (k := 1) rfl (by decide) (by decide) rfl (fun ls hl => ?_)
  refine lv_goto (tgt := 38) hx hb dX3_digest_72 (by decide) ?_
  refine lv_iload_n hx hb dX3_digest_38 rfl (lv_at hl 0 rfl) ?_
  refine lv_bipush (v := 12) hx hb dX3_digest_39 (by decide) ?_
  refine lv_icmp_ge (tgt := 75) hx hb dX3_digest_41 (by decide) (fun c50 => absurd c50 (by decide)) (fun c50 => ?_)
  refine lv_lload_n hx hb dX3_digest_44 rfl (lv_at hl 1 rfl) ?_
  refine lv_ldc2 (v := 31) hx hb hown (hts (.constantLong RX3 151 31) (by decide +kernel)) dX3_digest_45 ?_
  refine lv_lmul hx hb dX3_digest_48 ?_
  refine W.eq (g2 := F0 m 49 ls [.long 399559104444519527]) rfl ?_
  refine lv_bipush (v := 10) hx hb dX3_digest_49 (by decide) ?_
  refine lv_aload_n hx hb dX3_digest_51 rfl (lv_at hl 2 rfl) ?_
  refine va_get (D := (dC, dI)) (ci := 3) (v := .ref rn) (C := RX3) (T := TX3) (N := 10) hx hb hts (by decide +kernel) hown hK hP 0 rfl rfl 5 (by decide) (hts (.fieldLink RX3 19 "ThatchRoofModel" "rain" "[I") (by decide +kernel)) (fun _ h9 => h9) rfl dX3_digest_52 ?_
  refine lv_iload_n hx hb dX3_digest_55 rfl (lv_at hl 0 rfl) ?_
  refine va_iald hx hb hK hP 3 1 rfl rfl (vp_in_nI (n := 10) (by decide) (by decide)) dX3_digest_56 ?_
  refine lv_topi (fun x51 ex51 => ?_)
  obtain rfl : x51 = 4 := ex51.trans (hrn _ (by decide))
  refine lv_imul hx hb dX3_digest_57 ?_
  refine W.eq (g2 := F0 m 58 ls [.int 40, .long 399559104444519527]) rfl ?_
  refine lv_i2l (v := 40) hx hb dX3_digest_58 (by first | rfl | decide) ?_
  refine lv_ladd hx hb dX3_digest_59 ?_
  refine W.eq (g2 := F0 m 60 ls [.long 399559104444519567]) rfl ?_
  refine lv_aload_n hx hb dX3_digest_60 rfl (lv_at hl 2 rfl) ?_
  refine va_get (D := (dC, dI)) (ci := 3) (v := .ref so) (C := RX3) (T := TX3) (N := 10) hx hb hts (by decide +kernel) hown hK hP 0 rfl rfl 6 (by decide) (hts (.fieldLink RX3 22 "ThatchRoofModel" "storm" "[I") (by decide +kernel)) (fun _ h9 => h9) rfl dX3_digest_61 ?_
  refine lv_iload_n hx hb dX3_digest_64 rfl (lv_at hl 0 rfl) ?_
  refine va_iald hx hb hK hP 4 2 rfl rfl (vp_in_nI (n := 10) (by decide) (by decide)) dX3_digest_65 ?_
  refine lv_topi (fun x52 ex52 => ?_)
  obtain rfl : x52 = 0 := ex52
  refine lv_i2l (v := 0) hx hb dX3_digest_66 (by first | rfl | decide) ?_
  refine lv_ladd hx hb dX3_digest_67 ?_
  refine W.eq (g2 := F0 m 68 ls [.long 399559104444519567]) rfl ?_
  refine lv_lstore_n (lv' := [(1, .long 399559104444519567), (3, .int 10), (0, .ref hm)]) hx hb dX3_digest_68 rfl hl (by decide) rfl (fun ls hl => ?_)
  refine lv_iinc (v := 11) (lv' := [(3, .int 11), (1, .long 399559104444519567), (0, .ref hm)]) hx hb dX3_digest_69 hl (k := 1) rfl (by decide) (by decide) rfl (fun ls hl => ?_)
  refine lv_goto (tgt := 38) hx hb dX3_digest_72 (by decide) ?_
  refine lv_iload_n hx hb dX3_digest_38 rfl (lv_at hl 0 rfl) ?_
  refine lv_bipush (v := 12) hx hb dX3_digest_39 (by decide) ?_
  refine lv_icmp_ge (tgt := 75) hx hb dX3_digest_41 (by decide) (fun c53 => absurd c53 (by decide)) (fun c53 => ?_)
  refine lv_lload_n hx hb dX3_digest_44 rfl (lv_at hl 1 rfl) ?_
  refine lv_ldc2 (v := 31) hx hb hown (hts (.constantLong RX3 151 31) (by decide +kernel)) dX3_digest_45 ?_
  refine lv_lmul hx hb dX3_digest_48 ?_
  refine W.eq (g2 := F0 m 49 ls [.long (-6060411835929445039)]) rfl ?_
  refine lv_bipush (v := 10) hx hb dX3_digest_49 (by decide) ?_
  refine lv_aload_n hx hb dX3_digest_51 rfl (lv_at hl 2 rfl) ?_
  refine va_get (D := (dC, dI)) (ci := 3) (v := .ref rn) (C := RX3) (T := TX3) (N := 10) hx hb hts (by decide +kernel) hown hK hP 0 rfl rfl 5 (by decide) (hts (.fieldLink RX3 19 "ThatchRoofModel" "rain" "[I") (by decide +kernel)) (fun _ h9 => h9) rfl dX3_digest_52 ?_
  refine lv_iload_n hx hb dX3_digest_55 rfl (lv_at hl 0 rfl) ?_
  refine va_iald hx hb hK hP 3 1 rfl rfl (vp_in_nI (n := 11) (by decide) (by decide)) dX3_digest_56 ?_
  refine lv_topi (fun x54 ex54 => ?_)
  obtain rfl : x54 = 4 := ex54.trans (hrn _ (by decide))
  refine lv_imul hx hb dX3_digest_57 ?_
  refine W.eq (g2 := F0 m 58 ls [.int 40, .long (-6060411835929445039)]) rfl ?_
  refine lv_i2l (v := 40) hx hb dX3_digest_58 (by first | rfl | decide) ?_
  refine lv_ladd hx hb dX3_digest_59 ?_
  refine W.eq (g2 := F0 m 60 ls [.long (-6060411835929444999)]) rfl ?_
  refine lv_aload_n hx hb dX3_digest_60 rfl (lv_at hl 2 rfl) ?_
  refine va_get (D := (dC, dI)) (ci := 3) (v := .ref so) (C := RX3) (T := TX3) (N := 10) hx hb hts (by decide +kernel) hown hK hP 0 rfl rfl 6 (by decide) (hts (.fieldLink RX3 22 "ThatchRoofModel" "storm" "[I") (by decide +kernel)) (fun _ h9 => h9) rfl dX3_digest_61 ?_
  refine lv_iload_n hx hb dX3_digest_64 rfl (lv_at hl 0 rfl) ?_
  refine va_iald hx hb hK hP 4 2 rfl rfl (vp_in_nI (n := 11) (by decide) (by decide)) dX3_digest_65 ?_
  refine lv_topi (fun x55 ex55 => ?_)
  obtain rfl : x55 = 0 := ex55
  refine lv_i2l (v := 0) hx hb dX3_digest_66 (by first | rfl | decide) ?_
  refine lv_ladd hx hb dX3_digest_67 ?_
  refine W.eq (g2 := F0 m 68 ls [.long (-6060411835929444999)]) rfl ?_
  refine lv_lstore_n (lv' := [(1, .long (-6060411835929444999)), (3, .int 11), (0, .ref hm)]) hx hb dX3_digest_68 rfl hl (by decide) rfl (fun ls hl => ?_)
  refine lv_iinc (v := 12) (lv' := [(3, .int 12), (1, .long (-6060411835929444999)), (0, .ref hm)]) hx hb dX3_digest_69 hl (k := 1) rfl (by decide) (by decide) rfl (fun ls hl => ?_)
  refine lv_goto (tgt := 38) hx hb dX3_digest_72 (by decide) ?_
  refine lv_iload_n hx hb dX3_digest_38 rfl (lv_at hl 0 rfl) ?_
  refine lv_bipush (v := 12) hx hb dX3_digest_39 (by decide) ?_
  refine lv_icmp_ge (tgt := 75) hx hb dX3_digest_41 (by decide) (fun c56 => ?_) (fun c56 => absurd c56 (by decide))
  refine lv_iconst (v := 0) hx hb dX3_digest_75 (by decide) ?_
  refine lv_istore_n (lv' := [(3, .int 0), (1, .long (-6060411835929444999)), (0, .ref hm)]) hx hb dX3_digest_76 rfl hl (by decide) rfl (fun ls hl => ?_)
  refine lv_iload_n hx hb dX3_digest_77 rfl (lv_at hl 0 rfl) ?_
  refine lv_aload_n hx hb dX3_digest_78 rfl (lv_at hl 2 rfl) ?_
  refine va_get (D := (dC, dI)) (ci := 3) (v := .int 0) (C := RX3) (T := TX3) (N := 10) hx hb hts (by decide +kernel) hown hK hP 0 rfl rfl 1 (by decide) (hts (.fieldLink RX3 44 "ThatchRoofModel" "roofs" "I") (by decide +kernel)) (fun _ h9 => h9) rfl dX3_digest_79 ?_
  refine lv_icmp_ge (tgt := 196) hx hb dX3_digest_82 (by decide) (fun c57 => ?_) (fun c57 => absurd c57 (by decide))
  refine lv_lload_n hx hb dX3_digest_196 rfl (lv_at hl 1 rfl) ?_
  have hP9 := hP.sub (ws' := [(hm, .inr (3, [.int 0, .int 0, .ref wi, .ref co, .ref sl, .ref rn, .ref so, .ref bn, .ref sm, .ref ah]))]) [0] rfl
  have hD9 := hD.sub (ws' := [(hm, .inr (3, [.int 0, .int 0, .ref wi, .ref co, .ref sl, .ref rn, .ref so, .ref bn, .ref sm, .ref ah]))]) [0] (by decide) rfl
  have hK9 := hK.sub (tys' := []) [] rfl
  refine W.widen (k := 9) (n := 81) (Nat.le_of_ble_eq_true rfl) (Nat.le_of_ble_eq_true rfl) ?_
  exact W.lret (v := (-6060411835929444999)) hx hb hr (fun t ht hW => ⟨⟨(-6060411835929444999), (), rfl, by (first | rfl | assumption | decide | (simp_all; done) | grind), ⟨by rw [ht]; exact hP9, va_K.moved hW.alike hK9, hD9⟩⟩, hS.F ht⟩) hS.2.2 dX3_digest_197

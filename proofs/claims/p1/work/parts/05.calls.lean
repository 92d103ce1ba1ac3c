set_option maxHeartbeats 4000000 in
set_option maxRecDepth 100000 in
theorem k1_count (l : Launch) (hst : l.stackTraces = false) (dC : Nat → ClassId) (dI : Nat → Nat → Nat) (sz : Nat) (h : Nat) (ro : Nat) (ba : Nat) (ra : Nat) (su : Nat) (tr : Nat) (cR : ClassId) (cB : ClassId) (cA : ClassId) (fr : Nat → Int32) (cS : ClassId) (a1 : Int32) (hra : ∀ j : Nat, j < 12 → fr j = 4) : vx_Met l yX1_count wsX1_count ({ frames := 6, cells := 1, slots := 6, locals := 85 }) (va_Pc [.ref h, .int a1] (fun U => U.heap.size = sz ∧ va_P (dC, dI) vwCl [(h, .inr (1, [.ref ro, .int 0, .ref ba, .ref ra, .ref su, .int 0, .ref tr])), (ro, .inl (cR, 6, .inr (.inr (.inr (.inr (fun _ => none)))))), (ba, .inl (cB, 3, .inl (fun _ => 0))), (ra, .inl (cA, 12, .inl fr)), (su, .inl (cS, 12, .inl (fun _ => 0)))] U.heap ∧ va_K (dC, dI) vwCl [(cR, .object RX0), (cB, .int), (cA, .int), (cS, .int)] U ∧ va_D (fun _ => True) [(h, .inr (1, [.ref ro, .int 0, .ref ba, .ref ra, .ref su, .int 0, .ref tr])), (ro, .inl (cR, 6, .inr (.inr (.inr (.inr (fun _ => none)))))), (ba, .inl (cB, 3, .inl (fun _ => 0))), (ra, .inl (cA, 12, .inl fr)), (su, .inl (cS, 12, .inl (fun _ => 0)))] ∧ zX U ∧ zTh (va_A [(h, .inr (1, [.ref ro, .int 0, .ref ba, .ref ra, .ref su, .int 0, .ref tr])), (ro, .inl (cR, 6, .inr (.inr (.inr (.inr (fun _ => none)))))), (ba, .inl (cB, 3, .inl (fun _ => 0))), (ra, .inl (cA, 12, .inl fr)), (su, .inl (cS, 12, .inl (fun _ => 0)))] sz) U U.heap)) (va_Qi (fun (r : Int32) (u : Unit) => r = zTal a1 ∧ zIn a1 0 8) (fun (u : Unit) (t : State) => va_P (dC, dI) vwCl [] t.heap ∧ va_K (dC, dI) vwCl [] t ∧ va_D (va_A [(h, .inr (1, [.ref ro, .int 0, .ref ba, .ref ra, .ref su, .int 0, .ref tr])), (ro, .inl (cR, 6, .inr (.inr (.inr (.inr (fun _ => none)))))), (ba, .inl (cB, 3, .inl (fun _ => 0))), (ra, .inl (cA, 12, .inl fr)), (su, .inl (cS, 12, .inl (fun _ => 0)))] sz) []) (va_A [(h, .inr (1, [.ref ro, .int 0, .ref ba, .ref ra, .ref su, .int 0, .ref tr])), (ro, .inl (cR, 6, .inr (.inr (.inr (.inr (fun _ => none)))))), (ba, .inl (cB, 3, .inl (fun _ => 0))), (ra, .inl (cA, 12, .inl fr)), (su, .inl (cS, 12, .inl (fun _ => 0)))] sz)) (vx_X (fun _ : Unit => True) (fun (E : String) (_ : Unit) (_ : State) => (E = "java/lang/IndexOutOfBoundsException" ∧ (¬ zIn a1 0 8))) (va_A [(h, .inr (1, [.ref ro, .int 0, .ref ba, .ref ra, .ref su, .int 0, .ref tr])), (ro, .inl (cR, 6, .inr (.inr (.inr (.inr (fun _ => none)))))), (ba, .inl (cB, 3, .inl (fun _ => 0))), (ra, .inl (cA, 12, .inl fr)), (su, .inl (cS, 12, .inl (fun _ => 0)))] sz)) 1 6 (va_A [(h, .inr (1, [.ref ro, .int 0, .ref ba, .ref ra, .ref su, .int 0, .ref tr])), (ro, .inl (cR, 6, .inr (.inr (.inr (.inr (fun _ => none)))))), (ba, .inl (cB, 3, .inl (fun _ => 0))), (ra, .inl (cA, 12, .inl fr)), (su, .inl (cS, 12, .inl (fun _ => 0)))] sz) := by
  refine vx_ofW (cc := cX1_count) (maxL := 2) (ret := (some .int)) (by decide) rfl ?_
  intro p e s m args below meth c s₁ B hml hnt hv
  obtain ⟨rfl, hsz, hP, hK, hD0, hZX, hZT⟩ := hv
  have hx := B.exec
  have hb := B.bytes
  have hr := B.returns
  have hts := atoms_spec (ws := wsX1_count) B.pre
  have hown : s.vm.findClass RX1 = some m.cls := findClass_of_methodNamed B.named
  have hlocks := B.notSynchronized
  subst hsz
  have hD := hD0.self (sz := s.heap.size)
  generalize hAe : va_A [(h, .inr (1, [.ref ro, .int 0, .ref ba, .ref ra, .ref su, .int 0, .ref tr])), (ro, .inl (cR, 6, .inr (.inr (.inr (.inr (fun _ => none)))))), (ba, .inl (cB, 3, .inl (fun _ => 0))), (ra, .inl (cA, 12, .inl fr)), (su, .inl (cS, 12, .inl (fun _ => 0)))] s.heap.size = A at hD hZT ⊢
  have hA : ∀ q : Nat, s.heap.size ≤ q → A q := fun q h => by rw [← hAe]; exact Or.inr h
  have hS : va_S A s.heap s.heap [] := va_S.rf
  have hP : va_P (dC, dI) vwCl [(h, .inr (1, [.ref ro, .int 0, .ref ba, .ref ra, .ref su, .int 0, .ref tr])), (ro, .inl (cR, 6, .inr (.inr (.inr (.inr (fun _ => none)))))), (ba, .inl (cB, 3, .inl (fun _ => 0))), (ra, .inl (cA, 12, .inl fr)), (su, .inl (cS, 12, .inl (fun _ => 0)))] s.heap := hP
  have hl := lv_entry ([.ref h, .int a1]) (n := 2) (Nat.le_of_ble_eq_true rfl)
  rw [lg_entry_eq]
  generalize (lg_sl ([.ref h, .int a1]) ++ List.replicate (2 - (lg_sl ([.ref h, .int a1])).length) Slot.unset).toArray = ls at hl ⊢
  have hl : lv_has ls 2 [(0, .ref h), (1, .int a1)] := hl
  refine lv_iload_n hx hb dX1_count_0 rfl (lv_at hl 1 rfl) ?_
  refine lv_iconst (v := 0) hx hb dX1_count_1 (by decide) ?_
  refine lv_bipush (v := 8) hx hb dX1_count_2 (by decide) ?_
  refine vp_callSi (va_runS (As := [.int a1, .int 0, .int 8]) (rest := []) ⟨hx, hb, hml, hown, hts⟩ (k1_isWithin l dC dI a1 0 8 ) (va_cwS 3 hts gX1_count_X1_isWithin rfl rfl rfl (by decide +kernel) ⟨Nat.le_of_ble_eq_true rfl, Nat.le_of_ble_eq_true rfl⟩) ⟨fun a U g mk q => q, fun U hU hW => ⟨rfl, trivial⟩⟩ rfl rfl hl.1 rfl (lv_room (Nat.le_of_ble_eq_true rfl)) dX1_count_4 ⟨Nat.le_of_ble_eq_true rfl, Nat.le_of_ble_eq_true rfl⟩).run (fun r1 hr1 => ?_)
  rcases hr1 with ⟨rfl, fr1_0_0⟩ | ⟨rfl, fr1_1_0⟩
  · refine lv_if_ne (tgt := 20) hx hb dX1_count_7 (by decide) (fun c2 => ?_) (fun c2 => absurd c2 (by decide))
    have hsp : a1 = 0 ∨ a1 = 1 ∨ a1 = 2 ∨ a1 = 3 ∨ a1 = 4 ∨ a1 = 5 ∨ a1 = 6 ∨ a1 = 7 ∨ a1 = 8 := by have hz := zIn_toInt (show zIn a1 0 8 by assumption); have e1 : (0 : Int32).toInt = 0 := (by decide); have e2 : (8 : Int32).toInt = 8 := (by decide); rw [e1, e2] at hz; simp only [← Int32.toInt_inj]; have e3 : (0 : Int32).toInt = 0 ∧ (1 : Int32).toInt = 1 ∧ (2 : Int32).toInt = 2 ∧ (3 : Int32).toInt = 3 ∧ (4 : Int32).toInt = 4 ∧ (5 : Int32).toInt = 5 ∧ (6 : Int32).toInt = 6 ∧ (7 : Int32).toInt = 7 ∧ (8 : Int32).toInt = 8 := (by decide); omega
    rcases hsp with rfl | rfl | rfl | rfl | rfl | rfl | rfl | rfl | rfl
    · refine lv_aload_n hx hb dX1_count_20 rfl (lv_at hl 0 rfl) ?_
      refine lv_iload_n hx hb dX1_count_21 rfl (lv_at hl 1 rfl) ?_
      have hPc := hP.sub (ws' := [(h, .inr (1, [.ref ro, .int 0, .ref ba, .ref ra, .ref su, .int 0, .ref tr])), (ro, .inl (cR, 6, .inr (.inr (.inr (.inr (fun _ => none)))))), (ba, .inl (cB, 3, .inl (fun _ => 0))), (ra, .inl (cA, 12, .inl fr)), (su, .inl (cS, 12, .inl (fun _ => 0)))]) [0, 1, 2, 3, 4] rfl
      have hKc := hK.sub (tys' := [(cR, .object RX0), (cB, .int), (cA, .int), (cS, .int)]) [0, 1, 2, 3] rfl
      refine vp_callSi (va_runV (As := [.int 0]) (rest := []) ⟨hx, hb, hml, hown, hts⟩ (k1_tally0 l dC dI h ro ba ra su tr cR cB cA fr cS (by first | assumption | decide | omega)) (cwV 1 hts gX1_count_X1_tally rfl rfl rfl (by decide +kernel) ⟨Nat.le_of_ble_eq_true rfl, Nat.le_of_ble_eq_true rfl⟩) ⟨fun a U g mk q => by obtain ⟨q0, qP, qK⟩ := q; exact ⟨q0, qP, va_K.moved (u := U) (U := U.calling g mk a) (Vm.Alike.refl U.vm) qK⟩, va_recv hKc hPc (ci := 1) (q0 := 0) rfl rfl, fun U hU hW => ⟨rfl, by rw [hU]; exact hPc, va_K.moved hW.alike hKc⟩⟩ rfl rfl hl.1 rfl (lv_room (Nat.le_of_ble_eq_true rfl)) dX1_count_22 ⟨Nat.le_of_ble_eq_true rfl, Nat.le_of_ble_eq_true rfl⟩).run (fun r3 hr3 => ?_)
      obtain rfl := hr3
      have hP9 := hP.sub (ws' := []) [] rfl
      have hD9 := hD.sub (ws' := []) [] (by decide) rfl
      have hK9 := hK.sub (tys' := []) [] rfl
      refine W.widen (k := 1) (n := 6) (Nat.le_of_ble_eq_true rfl) (Nat.le_of_ble_eq_true rfl) ?_
      refine vx_ret ?_
      exact W.iret (v := 0) hx hb hr (fun t ht hW => ⟨⟨0, (), rfl, by (refine ⟨?_, ?_⟩ <;> (first | rfl | assumption | decide | (simp_all; done) | grind)), ⟨by rw [ht]; exact hP9, va_K.moved hW.alike hK9, hD9⟩⟩, hS.F ht⟩) hS.2.2 dX1_count_25
    · refine lv_aload_n hx hb dX1_count_20 rfl (lv_at hl 0 rfl) ?_
      refine lv_iload_n hx hb dX1_count_21 rfl (lv_at hl 1 rfl) ?_
      have hPc := hP.sub (ws' := [(h, .inr (1, [.ref ro, .int 0, .ref ba, .ref ra, .ref su, .int 0, .ref tr])), (ro, .inl (cR, 6, .inr (.inr (.inr (.inr (fun _ => none)))))), (ba, .inl (cB, 3, .inl (fun _ => 0))), (ra, .inl (cA, 12, .inl fr)), (su, .inl (cS, 12, .inl (fun _ => 0)))]) [0, 1, 2, 3, 4] rfl
      have hKc := hK.sub (tys' := [(cR, .object RX0), (cB, .int), (cA, .int), (cS, .int)]) [0, 1, 2, 3] rfl
      refine vp_callSi (va_runV (As := [.int 1]) (rest := []) ⟨hx, hb, hml, hown, hts⟩ (k1_tally1 l dC dI h ro ba ra su tr cR cB cA fr cS (by first | assumption | decide | omega)) (cwV 1 hts gX1_count_X1_tally rfl rfl rfl (by decide +kernel) ⟨Nat.le_of_ble_eq_true rfl, Nat.le_of_ble_eq_true rfl⟩) ⟨fun a U g mk q => by obtain ⟨q0, qP, qK⟩ := q; exact ⟨q0, qP, va_K.moved (u := U) (U := U.calling g mk a) (Vm.Alike.refl U.vm) qK⟩, va_recv hKc hPc (ci := 1) (q0 := 0) rfl rfl, fun U hU hW => ⟨rfl, by rw [hU]; exact hPc, va_K.moved hW.alike hKc⟩⟩ rfl rfl hl.1 rfl (lv_room (Nat.le_of_ble_eq_true rfl)) dX1_count_22 ⟨Nat.le_of_ble_eq_true rfl, Nat.le_of_ble_eq_true rfl⟩).run (fun r4 hr4 => ?_)
      obtain rfl := hr4
      have hP9 := hP.sub (ws' := []) [] rfl
      have hD9 := hD.sub (ws' := []) [] (by decide) rfl
      have hK9 := hK.sub (tys' := []) [] rfl
      refine W.widen (k := 1) (n := 6) (Nat.le_of_ble_eq_true rfl) (Nat.le_of_ble_eq_true rfl) ?_
      refine vx_ret ?_
      exact W.iret (v := 0) hx hb hr (fun t ht hW => ⟨⟨0, (), rfl, by (refine ⟨?_, ?_⟩ <;> (first | rfl | assumption | decide | (simp_all; done) | grind)), ⟨by rw [ht]; exact hP9, va_K.moved hW.alike hK9, hD9⟩⟩, hS.F ht⟩) hS.2.2 dX1_count_25
    · refine lv_aload_n hx hb dX1_count_20 rfl (lv_at hl 0 rfl) ?_
      refine lv_iload_n hx hb dX1_count_21 rfl (lv_at hl 1 rfl) ?_
      have hPc := hP.sub (ws' := [(h, .inr (1, [.ref ro, .int 0, .ref ba, .ref ra, .ref su, .int 0, .ref tr])), (ro, .inl (cR, 6, .inr (.inr (.inr (.inr (fun _ => none)))))), (ba, .inl (cB, 3, .inl (fun _ => 0))), (ra, .inl (cA, 12, .inl fr)), (su, .inl (cS, 12, .inl (fun _ => 0)))]) [0, 1, 2, 3, 4] rfl
      have hKc := hK.sub (tys' := [(cR, .object RX0), (cB, .int), (cA, .int), (cS, .int)]) [0, 1, 2, 3] rfl
      refine vp_callSi (va_runV (As := [.int 2]) (rest := []) ⟨hx, hb, hml, hown, hts⟩ (k1_tally2 l dC dI h ro ba ra su tr cR cB cA fr cS (by first | assumption | decide | omega)) (cwV 1 hts gX1_count_X1_tally rfl rfl rfl (by decide +kernel) ⟨Nat.le_of_ble_eq_true rfl, Nat.le_of_ble_eq_true rfl⟩) ⟨fun a U g mk q => by obtain ⟨q0, qP, qK⟩ := q; exact ⟨q0, qP, va_K.moved (u := U) (U := U.calling g mk a) (Vm.Alike.refl U.vm) qK⟩, va_recv hKc hPc (ci := 1) (q0 := 0) rfl rfl, fun U hU hW => ⟨rfl, by rw [hU]; exact hPc, va_K.moved hW.alike hKc⟩⟩ rfl rfl hl.1 rfl (lv_room (Nat.le_of_ble_eq_true rfl)) dX1_count_22 ⟨Nat.le_of_ble_eq_true rfl, Nat.le_of_ble_eq_true rfl⟩).run (fun r5 hr5 => ?_)
      obtain rfl := hr5
      have hP9 := hP.sub (ws' := []) [] rfl
      have hD9 := hD.sub (ws' := []) [] (by decide) rfl
      have hK9 := hK.sub (tys' := []) [] rfl
      refine W.widen (k := 1) (n := 6) (Nat.le_of_ble_eq_true rfl) (Nat.le_of_ble_eq_true rfl) ?_
      refine vx_ret ?_
      exact W.iret (v := 0) hx hb hr (fun t ht hW => ⟨⟨0, (), rfl, by (refine ⟨?_, ?_⟩ <;> (first | rfl | assumption | decide | (simp_all; done) | grind)), ⟨by rw [ht]; exact hP9, va_K.moved hW.alike hK9, hD9⟩⟩, hS.F ht⟩) hS.2.2 dX1_count_25
    · refine lv_aload_n hx hb dX1_count_20 rfl (lv_at hl 0 rfl) ?_
      refine lv_iload_n hx hb dX1_count_21 rfl (lv_at hl 1 rfl) ?_
      have hPc := hP.sub (ws' := [(h, .inr (1, [.ref ro, .int 0, .ref ba, .ref ra, .ref su, .int 0, .ref tr])), (ro, .inl (cR, 6, .inr (.inr (.inr (.inr (fun _ => none)))))), (ba, .inl (cB, 3, .inl (fun _ => 0))), (ra, .inl (cA, 12, .inl fr)), (su, .inl (cS, 12, .inl (fun _ => 0)))]) [0, 1, 2, 3, 4] rfl
      have hKc := hK.sub (tys' := [(cR, .object RX0), (cB, .int), (cA, .int), (cS, .int)]) [0, 1, 2, 3] rfl
      refine vp_callSi (va_runV (As := [.int 3]) (rest := []) ⟨hx, hb, hml, hown, hts⟩ (k1_tally3 l dC dI h ro ba ra su tr cR cB cA fr cS (by first | assumption | decide | omega)) (cwV 1 hts gX1_count_X1_tally rfl rfl rfl (by decide +kernel) ⟨Nat.le_of_ble_eq_true rfl, Nat.le_of_ble_eq_true rfl⟩) ⟨fun a U g mk q => by obtain ⟨q0, qP, qK⟩ := q; exact ⟨q0, qP, va_K.moved (u := U) (U := U.calling g mk a) (Vm.Alike.refl U.vm) qK⟩, va_recv hKc hPc (ci := 1) (q0 := 0) rfl rfl, fun U hU hW => ⟨rfl, by rw [hU]; exact hPc, va_K.moved hW.alike hKc⟩⟩ rfl rfl hl.1 rfl (lv_room (Nat.le_of_ble_eq_true rfl)) dX1_count_22 ⟨Nat.le_of_ble_eq_true rfl, Nat.le_of_ble_eq_true rfl⟩).run (fun r6 hr6 => ?_)
      obtain rfl := hr6
      have hP9 := hP.sub (ws' := []) [] rfl
      have hD9 := hD.sub (ws' := []) [] (by decide) rfl
      have hK9 := hK.sub (tys' := []) [] rfl
      refine W.widen (k := 1) (n := 6) (Nat.le_of_ble_eq_true rfl) (Nat.le_of_ble_eq_true rfl) ?_
      refine vx_ret ?_
      exact W.iret (v := 0) hx hb hr (fun t ht hW => ⟨⟨0, (), rfl, by (refine ⟨?_, ?_⟩ <;> (first | rfl | assumption | decide | (simp_all; done) | grind)), ⟨by rw [ht]; exact hP9, va_K.moved hW.alike hK9, hD9⟩⟩, hS.F ht⟩) hS.2.2 dX1_count_25
    · refine lv_aload_n hx hb dX1_count_20 rfl (lv_at hl 0 rfl) ?_
      refine lv_iload_n hx hb dX1_count_21 rfl (lv_at hl 1 rfl) ?_
      have hPc := hP.sub (ws' := [(h, .inr (1, [.ref ro, .int 0, .ref ba, .ref ra, .ref su, .int 0, .ref tr])), (ro, .inl (cR, 6, .inr (.inr (.inr (.inr (fun _ => none)))))), (ba, .inl (cB, 3, .inl (fun _ => 0))), (ra, .inl (cA, 12, .inl fr)), (su, .inl (cS, 12, .inl (fun _ => 0)))]) [0, 1, 2, 3, 4] rfl
      have hKc := hK.sub (tys' := [(cR, .object RX0), (cB, .int), (cA, .int), (cS, .int)]) [0, 1, 2, 3] rfl
      refine vp_callSi (va_runV (As := [.int 4]) (rest := []) ⟨hx, hb, hml, hown, hts⟩ (k1_tally4 l dC dI h ro ba ra su tr cR cB cA fr cS (by first | assumption | decide | omega)) (cwV 1 hts gX1_count_X1_tally rfl rfl rfl (by decide +kernel) ⟨Nat.le_of_ble_eq_true rfl, Nat.le_of_ble_eq_true rfl⟩) ⟨fun a U g mk q => by obtain ⟨q0, qP, qK⟩ := q; exact ⟨q0, qP, va_K.moved (u := U) (U := U.calling g mk a) (Vm.Alike.refl U.vm) qK⟩, va_recv hKc hPc (ci := 1) (q0 := 0) rfl rfl, fun U hU hW => ⟨rfl, by rw [hU]; exact hPc, va_K.moved hW.alike hKc⟩⟩ rfl rfl hl.1 rfl (lv_room (Nat.le_of_ble_eq_true rfl)) dX1_count_22 ⟨Nat.le_of_ble_eq_true rfl, Nat.le_of_ble_eq_true rfl⟩).run (fun r7 hr7 => ?_)
      obtain rfl := hr7
      have hP9 := hP.sub (ws' := []) [] rfl
      have hD9 := hD.sub (ws' := []) [] (by decide) rfl
      have hK9 := hK.sub (tys' := []) [] rfl
      refine W.widen (k := 1) (n := 6) (Nat.le_of_ble_eq_true rfl) (Nat.le_of_ble_eq_true rfl) ?_
      refine vx_ret ?_
      exact W.iret (v := 0) hx hb hr (fun t ht hW => ⟨⟨0, (), rfl, by (refine ⟨?_, ?_⟩ <;> (first | rfl | assumption | decide | (simp_all; done) | grind)), ⟨by rw [ht]; exact hP9, va_K.moved hW.alike hK9, hD9⟩⟩, hS.F ht⟩) hS.2.2 dX1_count_25
    · refine lv_aload_n hx hb dX1_count_20 rfl (lv_at hl 0 rfl) ?_
      refine lv_iload_n hx hb dX1_count_21 rfl (lv_at hl 1 rfl) ?_
      have hPc := hP.sub (ws' := [(h, .inr (1, [.ref ro, .int 0, .ref ba, .ref ra, .ref su, .int 0, .ref tr])), (ro, .inl (cR, 6, .inr (.inr (.inr (.inr (fun _ => none)))))), (ba, .inl (cB, 3, .inl (fun _ => 0))), (ra, .inl (cA, 12, .inl fr)), (su, .inl (cS, 12, .inl (fun _ => 0)))]) [0, 1, 2, 3, 4] rfl
      have hKc := hK.sub (tys' := [(cR, .object RX0), (cB, .int), (cA, .int), (cS, .int)]) [0, 1, 2, 3] rfl
      refine vp_callSi (va_runV (As := [.int 5]) (rest := []) ⟨hx, hb, hml, hown, hts⟩ (k1_tally5 l dC dI h ro ba ra su tr cR cB cA fr cS (by first | assumption | decide | omega)) (cwV 1 hts gX1_count_X1_tally rfl rfl rfl (by decide +kernel) ⟨Nat.le_of_ble_eq_true rfl, Nat.le_of_ble_eq_true rfl⟩) ⟨fun a U g mk q => by obtain ⟨q0, qP, qK⟩ := q; exact ⟨q0, qP, va_K.moved (u := U) (U := U.calling g mk a) (Vm.Alike.refl U.vm) qK⟩, va_recv hKc hPc (ci := 1) (q0 := 0) rfl rfl, fun U hU hW => ⟨rfl, by rw [hU]; exact hPc, va_K.moved hW.alike hKc⟩⟩ rfl rfl hl.1 rfl (lv_room (Nat.le_of_ble_eq_true rfl)) dX1_count_22 ⟨Nat.le_of_ble_eq_true rfl, Nat.le_of_ble_eq_true rfl⟩).run (fun r8 hr8 => ?_)
      obtain rfl := hr8
      have hP9 := hP.sub (ws' := []) [] rfl
      have hD9 := hD.sub (ws' := []) [] (by decide) rfl
      have hK9 := hK.sub (tys' := []) [] rfl
      refine W.widen (k := 1) (n := 6) (Nat.le_of_ble_eq_true rfl) (Nat.le_of_ble_eq_true rfl) ?_
      refine vx_ret ?_
      exact W.iret (v := 0) hx hb hr (fun t ht hW => ⟨⟨0, (), rfl, by (refine ⟨?_, ?_⟩ <;> (first | rfl | assumption | decide | (simp_all; done) | grind)), ⟨by rw [ht]; exact hP9, va_K.moved hW.alike hK9, hD9⟩⟩, hS.F ht⟩) hS.2.2 dX1_count_25
    · refine lv_aload_n hx hb dX1_count_20 rfl (lv_at hl 0 rfl) ?_
      refine lv_iload_n hx hb dX1_count_21 rfl (lv_at hl 1 rfl) ?_
      have hPc := hP.sub (ws' := [(h, .inr (1, [.ref ro, .int 0, .ref ba, .ref ra, .ref su, .int 0, .ref tr])), (ro, .inl (cR, 6, .inr (.inr (.inr (.inr (fun _ => none)))))), (ba, .inl (cB, 3, .inl (fun _ => 0))), (ra, .inl (cA, 12, .inl fr)), (su, .inl (cS, 12, .inl (fun _ => 0)))]) [0, 1, 2, 3, 4] rfl
      have hKc := hK.sub (tys' := [(cR, .object RX0), (cB, .int), (cA, .int), (cS, .int)]) [0, 1, 2, 3] rfl
      refine vp_callSi (va_runV (As := [.int 6]) (rest := []) ⟨hx, hb, hml, hown, hts⟩ (k1_tally6 l dC dI h ro ba ra su tr cR cB cA fr cS (by first | assumption | decide | omega)) (cwV 1 hts gX1_count_X1_tally rfl rfl rfl (by decide +kernel) ⟨Nat.le_of_ble_eq_true rfl, Nat.le_of_ble_eq_true rfl⟩) ⟨fun a U g mk q => by obtain ⟨q0, qP, qK⟩ := q; exact ⟨q0, qP, va_K.moved (u := U) (U := U.calling g mk a) (Vm.Alike.refl U.vm) qK⟩, va_recv hKc hPc (ci := 1) (q0 := 0) rfl rfl, fun U hU hW => ⟨rfl, by rw [hU]; exact hPc, va_K.moved hW.alike hKc⟩⟩ rfl rfl hl.1 rfl (lv_room (Nat.le_of_ble_eq_true rfl)) dX1_count_22 ⟨Nat.le_of_ble_eq_true rfl, Nat.le_of_ble_eq_true rfl⟩).run (fun r9 hr9 => ?_)
      obtain rfl := hr9
      have hP9 := hP.sub (ws' := []) [] rfl
      have hD9 := hD.sub (ws' := []) [] (by decide) rfl
      have hK9 := hK.sub (tys' := []) [] rfl
      refine W.widen (k := 1) (n := 6) (Nat.le_of_ble_eq_true rfl) (Nat.le_of_ble_eq_true rfl) ?_
      refine vx_ret ?_
      exact W.iret (v := 0) hx hb hr (fun t ht hW => ⟨⟨0, (), rfl, by (refine ⟨?_, ?_⟩ <;> (first | rfl | assumption | decide | (simp_all; done) | grind)), ⟨by rw [ht]; exact hP9, va_K.moved hW.alike hK9, hD9⟩⟩, hS.F ht⟩) hS.2.2 dX1_count_25
    · refine lv_aload_n hx hb dX1_count_20 rfl (lv_at hl 0 rfl) ?_
      refine lv_iload_n hx hb dX1_count_21 rfl (lv_at hl 1 rfl) ?_
      have hPc := hP.sub (ws' := [(h, .inr (1, [.ref ro, .int 0, .ref ba, .ref ra, .ref su, .int 0, .ref tr])), (ro, .inl (cR, 6, .inr (.inr (.inr (.inr (fun _ => none)))))), (ba, .inl (cB, 3, .inl (fun _ => 0))), (ra, .inl (cA, 12, .inl fr)), (su, .inl (cS, 12, .inl (fun _ => 0)))]) [0, 1, 2, 3, 4] rfl
      have hKc := hK.sub (tys' := [(cR, .object RX0), (cB, .int), (cA, .int), (cS, .int)]) [0, 1, 2, 3] rfl
      refine vp_callSi (va_runV (As := [.int 7]) (rest := []) ⟨hx, hb, hml, hown, hts⟩ (k1_tally7 l dC dI h ro ba ra su tr cR cB cA fr cS (by first | assumption | decide | omega)) (cwV 1 hts gX1_count_X1_tally rfl rfl rfl (by decide +kernel) ⟨Nat.le_of_ble_eq_true rfl, Nat.le_of_ble_eq_true rfl⟩) ⟨fun a U g mk q => by obtain ⟨q0, qP, qK⟩ := q; exact ⟨q0, qP, va_K.moved (u := U) (U := U.calling g mk a) (Vm.Alike.refl U.vm) qK⟩, va_recv hKc hPc (ci := 1) (q0 := 0) rfl rfl, fun U hU hW => ⟨rfl, by rw [hU]; exact hPc, va_K.moved hW.alike hKc⟩⟩ rfl rfl hl.1 rfl (lv_room (Nat.le_of_ble_eq_true rfl)) dX1_count_22 ⟨Nat.le_of_ble_eq_true rfl, Nat.le_of_ble_eq_true rfl⟩).run (fun r10 hr10 => ?_)
      obtain rfl := hr10
      have hP9 := hP.sub (ws' := []) [] rfl
      have hD9 := hD.sub (ws' := []) [] (by decide) rfl
      have hK9 := hK.sub (tys' := []) [] rfl
      refine W.widen (k := 1) (n := 6) (Nat.le_of_ble_eq_true rfl) (Nat.le_of_ble_eq_true rfl) ?_
      refine vx_ret ?_
      exact W.iret (v := 4) hx hb hr (fun t ht hW => ⟨⟨4, (), rfl, by (refine ⟨?_, ?_⟩ <;> (first | rfl | assumption | decide | (simp_all; done) | grind)), ⟨by rw [ht]; exact hP9, va_K.moved hW.alike hK9, hD9⟩⟩, hS.F ht⟩) hS.2.2 dX1_count_25
    · refine lv_aload_n hx hb dX1_count_20 rfl (lv_at hl 0 rfl) ?_
      refine lv_iload_n hx hb dX1_count_21 rfl (lv_at hl 1 rfl) ?_
      have hPc := hP.sub (ws' := [(h, .inr (1, [.ref ro, .int 0, .ref ba, .ref ra, .ref su, .int 0, .ref tr])), (ro, .inl (cR, 6, .inr (.inr (.inr (.inr (fun _ => none)))))), (ba, .inl (cB, 3, .inl (fun _ => 0))), (ra, .inl (cA, 12, .inl fr)), (su, .inl (cS, 12, .inl (fun _ => 0)))]) [0, 1, 2, 3, 4] rfl
      have hKc := hK.sub (tys' := [(cR, .object RX0), (cB, .int), (cA, .int), (cS, .int)]) [0, 1, 2, 3] rfl
      refine vp_callSi (va_runV (As := [.int 8]) (rest := []) ⟨hx, hb, hml, hown, hts⟩ (k1_tally8 l dC dI h ro ba ra su tr cR cB cA fr cS (by first | assumption | decide | omega)) (cwV 1 hts gX1_count_X1_tally rfl rfl rfl (by decide +kernel) ⟨Nat.le_of_ble_eq_true rfl, Nat.le_of_ble_eq_true rfl⟩) ⟨fun a U g mk q => by obtain ⟨q0, qP, qK⟩ := q; exact ⟨q0, qP, va_K.moved (u := U) (U := U.calling g mk a) (Vm.Alike.refl U.vm) qK⟩, va_recv hKc hPc (ci := 1) (q0 := 0) rfl rfl, fun U hU hW => ⟨rfl, by rw [hU]; exact hPc, va_K.moved hW.alike hKc⟩⟩ rfl rfl hl.1 rfl (lv_room (Nat.le_of_ble_eq_true rfl)) dX1_count_22 ⟨Nat.le_of_ble_eq_true rfl, Nat.le_of_ble_eq_true rfl⟩).run (fun r11 hr11 => ?_)
      obtain rfl := hr11
      have hP9 := hP.sub (ws' := []) [] rfl
      have hD9 := hD.sub (ws' := []) [] (by decide) rfl
      have hK9 := hK.sub (tys' := []) [] rfl
      refine W.widen (k := 1) (n := 6) (Nat.le_of_ble_eq_true rfl) (Nat.le_of_ble_eq_true rfl) ?_
      refine vx_ret ?_
      exact W.iret (v := 0) hx hb hr (fun t ht hW => ⟨⟨0, (), rfl, by (refine ⟨?_, ?_⟩ <;> (first | rfl | assumption | decide | (simp_all; done) | grind)), ⟨by rw [ht]; exact hP9, va_K.moved hW.alike hK9, hD9⟩⟩, hS.F ht⟩) hS.2.2 dX1_count_25
  · refine lv_if_ne (tgt := 20) hx hb dX1_count_7 (by decide) (fun c12 => absurd c12 (by decide)) (fun c12 => ?_)
    obtain ⟨sa, hstr⟩ := zX_str_RX1_139 hZX
    exact vx_throwS (A := A) (names := ["java/lang/RuntimeException", "java/lang/Exception"]) (cls := "java/lang/IndexOutOfBoundsException") (sa := sa) hx hb hst hown (by decide +kernel) (by decide +kernel) (hts (.classLink RX1 56 "java/lang/IndexOutOfBoundsException") (by decide +kernel)) (hts (.initialized "java/lang/IndexOutOfBoundsException") (by decide +kernel)) hstr (vx_hat (fun w hw => hts w (by unfold wsX1_count; first | exact List.mem_cons_of_mem _ (List.mem_append_right _ hw) | exact List.mem_cons_of_mem _ (List.mem_append_left _ (List.mem_append_right _ hw)) | exact List.mem_cons_of_mem _ (List.mem_append_left _ (List.mem_append_left _ (List.mem_append_right _ hw))))) zAt_X1_60 (vx_c (va_Nw.use rfl (zX_cB hZX)) (vx_c (va_Nw.use rfl (zX_d0 hZX)) (vx_c (va_Nw.use rfl (zX_d1 hZX)) (vx_c (va_Nw.use rfl (zX_d2 hZX)) vx_n))))) (zGo_X1_60 56) hZT.1 hZT.2 hS (hl.1.trans hml.symm) dX1_count_10 dX1_count_13 dX1_count_14 dX1_count_16 dX1_count_19 (fun x hx => (hnt x hx).elim) (Nat.le_of_ble_eq_true rfl) (Nat.le_of_ble_eq_true rfl) (Nat.le_of_ble_eq_true rfl) (Nat.le_of_ble_eq_true rfl) hlocks (fun t h1 h2 h3 => ⟨(), trivial, by first | (refine ⟨rfl, ?_⟩ <;> (first | assumption | (simp_all; done) | grind); done), ⟨Nat.le_trans hS.1 h2, fun q hq hn => (h3 q (Nat.lt_of_lt_of_le hq hS.1)).trans (hS.2.1 q hq hn)⟩⟩) hS.2.2 (Nat.le_of_ble_eq_true rfl) (Nat.le_of_ble_eq_true rfl)

set_option maxHeartbeats 4000000 in
set_option maxRecDepth 100000 in
theorem k1_build (l : Launch) (hst : l.stackTraces = false) (dC : Nat → ClassId) (dI : Nat → Nat → Nat) (sz : Nat) (h : Nat) (ro : Nat) (ba : Nat) (ra : Nat) (su : Nat) (tr : Nat) (cR : ClassId) (a1 : Int32) (a2 : Int32) (a3 : Int32) : vx_Met l yX1_build wsX1_build ({ frames := 6, cells := 5, slots := 250, locals := 82 }) (va_Pc [.ref h, .int a1, .int a2, .int a3] (fun U => U.heap.size = sz ∧ va_P (dC, dI) vwCl [(h, .inr (1, [.ref ro, .int 0, .ref ba, .ref ra, .ref su, .int 0, .ref tr])), (ro, .inl (cR, 6, .inr (.inr (.inr (.inr (fun _ => none))))))] U.heap ∧ va_K (dC, dI) vwCl [(cR, .object RX0)] U ∧ va_D (fun _ => True) [(h, .inr (1, [.ref ro, .int 0, .ref ba, .ref ra, .ref su, .int 0, .ref tr])), (ro, .inl (cR, 6, .inr (.inr (.inr (.inr (fun _ => none))))))] ∧ zX U ∧ zTh (va_A [(h, .inr (1, [.ref ro, .int 0, .ref ba, .ref ra, .ref su, .int 0, .ref tr])), (ro, .inl (cR, 6, .inr (.inr (.inr (.inr (fun _ => none))))))] sz) U U.heap)) (va_Qi (fun (r : Int32) (u : Unit) => r = 0 ∧ (zIn a1 2 10 ∧ zIn a2 2 6 ∧ zIn a3 30 60)) (fun (u : Unit) (t : State) => va_P (dC, dI) vwCl [] t.heap ∧ va_K (dC, dI) vwCl [] t ∧ va_D (va_A [(h, .inr (1, [.ref ro, .int 0, .ref ba, .ref ra, .ref su, .int 0, .ref tr])), (ro, .inl (cR, 6, .inr (.inr (.inr (.inr (fun _ => none))))))] sz) []) (va_A [(h, .inr (1, [.ref ro, .int 0, .ref ba, .ref ra, .ref su, .int 0, .ref tr])), (ro, .inl (cR, 6, .inr (.inr (.inr (.inr (fun _ => none))))))] sz)) (vx_X (fun _ : Unit => True) (fun (E : String) (_ : Unit) (_ : State) => (E = "java/lang/IllegalArgumentException" ∧ (¬ (zIn a1 2 10 ∧ zIn a2 2 6 ∧ zIn a3 30 60)))) (va_A [(h, .inr (1, [.ref ro, .int 0, .ref ba, .ref ra, .ref su, .int 0, .ref tr])), (ro, .inl (cR, 6, .inr (.inr (.inr (.inr (fun _ => none))))))] sz)) 5 250 (va_A [(h, .inr (1, [.ref ro, .int 0, .ref ba, .ref ra, .ref su, .int 0, .ref tr])), (ro, .inl (cR, 6, .inr (.inr (.inr (.inr (fun _ => none))))))] sz) := by
  refine vx_ofW (cc := cX1_build) (maxL := 5) (ret := (some .int)) (by decide) rfl ?_
  intro p e s m args below meth c s₁ B hml hnt hv
  obtain ⟨rfl, hsz, hP, hK, hD0, hZX, hZT⟩ := hv
  have hx := B.exec
  have hb := B.bytes
  have hr := B.returns
  have hts := atoms_spec (ws := wsX1_build) B.pre
  have hown : s.vm.findClass RX1 = some m.cls := findClass_of_methodNamed B.named
  have hlocks := B.notSynchronized
  subst hsz
  have hD := hD0.self (sz := s.heap.size)
  generalize hAe : va_A [(h, .inr (1, [.ref ro, .int 0, .ref ba, .ref ra, .ref su, .int 0, .ref tr])), (ro, .inl (cR, 6, .inr (.inr (.inr (.inr (fun _ => none))))))] s.heap.size = A at hD hZT ⊢
  have hA : ∀ q : Nat, s.heap.size ≤ q → A q := fun q h => by rw [← hAe]; exact Or.inr h
  have hS : va_S A s.heap s.heap [] := va_S.rf
  have hP : va_P (dC, dI) vwCl [(h, .inr (1, [.ref ro, .int 0, .ref ba, .ref ra, .ref su, .int 0, .ref tr])), (ro, .inl (cR, 6, .inr (.inr (.inr (.inr (fun _ => none))))))] s.heap := hP
  have hl := lv_entry ([.ref h, .int a1, .int a2, .int a3]) (n := 5) (Nat.le_of_ble_eq_true rfl)
  rw [lg_entry_eq]
  generalize (lg_sl ([.ref h, .int a1, .int a2, .int a3]) ++ List.replicate (5 - (lg_sl ([.ref h, .int a1, .int a2, .int a3])).length) Slot.unset).toArray = ls at hl ⊢
  have hl : lv_has ls 5 [(0, .ref h), (1, .int a1), (2, .int a2), (3, .int a3)] := hl
  refine lv_iload_n hx hb dX1_build_0 rfl (lv_at hl 1 rfl) ?_
  refine lv_iconst (v := 2) hx hb dX1_build_1 (by decide) ?_
  refine lv_bipush (v := 10) hx hb dX1_build_2 (by decide) ?_
  refine vp_callSi (va_runS (As := [.int a1, .int 2, .int 10]) (rest := []) ⟨hx, hb, hml, hown, hts⟩ (k1_isWithin l dC dI a1 2 10 ) (va_cwS 3 hts gX1_build_X1_isWithin rfl rfl rfl (by decide +kernel) ⟨Nat.le_of_ble_eq_true rfl, Nat.le_of_ble_eq_true rfl⟩) ⟨fun a U g mk q => q, fun U hU hW => ⟨rfl, trivial⟩⟩ rfl rfl hl.1 rfl (lv_room (Nat.le_of_ble_eq_true rfl)) dX1_build_4 ⟨Nat.le_of_ble_eq_true rfl, Nat.le_of_ble_eq_true rfl⟩).run (fun r1 hr1 => ?_)
  rcases hr1 with ⟨rfl, fr1_0_0⟩ | ⟨rfl, fr1_1_0⟩
  · refine lv_if_eq (tgt := 31) hx hb dX1_build_7 (by decide) (fun c2 => absurd c2 (by decide)) (fun c2 => ?_)
    refine lv_iload_n hx hb dX1_build_10 rfl (lv_at hl 2 rfl) ?_
    refine lv_iconst (v := 2) hx hb dX1_build_11 (by decide) ?_
    refine lv_bipush (v := 6) hx hb dX1_build_12 (by decide) ?_
    refine vp_callSi (va_runS (As := [.int a2, .int 2, .int 6]) (rest := []) ⟨hx, hb, hml, hown, hts⟩ (k1_isWithin l dC dI a2 2 6 ) (va_cwS 3 hts gX1_build_X1_isWithin rfl rfl rfl (by decide +kernel) ⟨Nat.le_of_ble_eq_true rfl, Nat.le_of_ble_eq_true rfl⟩) ⟨fun a U g mk q => q, fun U hU hW => ⟨rfl, trivial⟩⟩ rfl rfl hl.1 rfl (lv_room (Nat.le_of_ble_eq_true rfl)) dX1_build_14 ⟨Nat.le_of_ble_eq_true rfl, Nat.le_of_ble_eq_true rfl⟩).run (fun r3 hr3 => ?_)
    rcases hr3 with ⟨rfl, fr3_0_0⟩ | ⟨rfl, fr3_1_0⟩
    · refine lv_if_eq (tgt := 31) hx hb dX1_build_17 (by decide) (fun c4 => absurd c4 (by decide)) (fun c4 => ?_)
      refine lv_iload_n hx hb dX1_build_20 rfl (lv_at hl 3 rfl) ?_
      refine lv_bipush (v := 30) hx hb dX1_build_21 (by decide) ?_
      refine lv_bipush (v := 60) hx hb dX1_build_23 (by decide) ?_
      refine vp_callSi (va_runS (As := [.int a3, .int 30, .int 60]) (rest := []) ⟨hx, hb, hml, hown, hts⟩ (k1_isWithin l dC dI a3 30 60 ) (va_cwS 3 hts gX1_build_X1_isWithin rfl rfl rfl (by decide +kernel) ⟨Nat.le_of_ble_eq_true rfl, Nat.le_of_ble_eq_true rfl⟩) ⟨fun a U g mk q => q, fun U hU hW => ⟨rfl, trivial⟩⟩ rfl rfl hl.1 rfl (lv_room (Nat.le_of_ble_eq_true rfl)) dX1_build_25 ⟨Nat.le_of_ble_eq_true rfl, Nat.le_of_ble_eq_true rfl⟩).run (fun r5 hr5 => ?_)
      rcases hr5 with ⟨rfl, fr5_0_0⟩ | ⟨rfl, fr5_1_0⟩
      · refine lv_if_ne (tgt := 41) hx hb dX1_build_28 (by decide) (fun c6 => ?_) (fun c6 => absurd c6 (by decide))
        refine lv_aload_n hx hb dX1_build_41 rfl (lv_at hl 0 rfl) ?_
        refine va_get (D := (dC, dI)) (ci := 1) (v := .int 0) (C := RX1) (T := TX1) (N := 7) hx hb hts (by decide +kernel) hown hK hP 0 rfl rfl 1 (by decide) (hts (.fieldLink RX1 43 "ThatchRoof" "built" "I") (by decide +kernel)) (fun _ h9 => h9) rfl dX1_build_42 ?_
        refine lv_bipush (v := 6) hx hb dX1_build_45 (by decide) ?_
        refine lv_icmp_lt (tgt := 60) hx hb dX1_build_47 (by decide) (fun c7 => ?_) (fun c7 => absurd c7 (by decide))
        refine lv_aload_n hx hb dX1_build_60 rfl (lv_at hl 0 rfl) ?_
        refine va_get (D := (dC, dI)) (ci := 1) (v := .int 0) (C := RX1) (T := TX1) (N := 7) hx hb hts (by decide +kernel) hown hK hP 0 rfl rfl 1 (by decide) (hts (.fieldLink RX1 43 "ThatchRoof" "built" "I") (by decide +kernel)) (fun _ h9 => h9) rfl dX1_build_61 ?_
        refine lv_istore (lv' := [(4, .int 0), (0, .ref h), (1, .int a1), (2, .int a2), (3, .int a3)]) hx hb dX1_build_64 hl (by decide) rfl (fun ls hl => ?_)
        refine lv_aload_n hx hb dX1_build_66 rfl (lv_at hl 1 rfl) ?_
        refine va_get (D := (dC, dI)) (ci := 1) (v := .ref ro) (C := RX1) (T := TX1) (N := 7) hx hb hts (by decide +kernel) hown hK hP 0 rfl rfl 0 (by decide) (hts (.fieldLink RX1 11 "ThatchRoof" "roofs" "[LThatchRoof$Roof;") (by decide +kernel)) (fun _ h9 => h9) rfl dX1_build_67 ?_
        refine lv_iload hx hb dX1_build_70 (lv_at hl 0 rfl) ?_
        refine va_new (ci := 0) (fs := [.int 0, .int 0, .int 0, .int 0, .int 0, .int 0, .null, .null, .null, .null]) (C := RX0) (T := TX0) (N := 10) hx hb hts (by decide +kernel) tyX0 tyX0_ok hown (hts (.classLink RX1 9 RX0) (by decide +kernel)) (hts (.instantiable RX0 10) (by decide +kernel)) (hts (.initialized RX0) (by decide +kernel)) hK hP hD hS hA rfl (fun j hj => by rcases (show j = 0 ∨ j = 1 ∨ j = 2 ∨ j = 3 ∨ j = 4 ∨ j = 5 ∨ j = 6 ∨ j = 7 ∨ j = 8 ∨ j = 9 by omega) with rfl | rfl | rfl | rfl | rfl | rfl | rfl | rfl | rfl | rfl <;> rfl) (Nat.le_of_ble_eq_true rfl) (Nat.le_of_ble_eq_true rfl) dX1_build_72 (fun q8 H hP hD hS => ?_)
        refine W.widen (k := 1) (n := 10) (Nat.le_of_ble_eq_true rfl) (Nat.le_of_ble_eq_true rfl) ?_
        have hP : va_P (dC, dI) vwCl [(h, .inr (1, [.ref ro, .int 0, .ref ba, .ref ra, .ref su, .int 0, .ref tr])), (ro, .inl (cR, 6, .inr (.inr (.inr (.inr (fun _ => none)))))), (q8, .inr (0, [.int 0, .int 0, .int 0, .int 0, .int 0, .int 0, .null, .null, .null, .null]))] H := hP
        have hD : va_D A [(h, .inr (1, [.ref ro, .int 0, .ref ba, .ref ra, .ref su, .int 0, .ref tr])), (ro, .inl (cR, 6, .inr (.inr (.inr (.inr (fun _ => none)))))), (q8, .inr (0, [.int 0, .int 0, .int 0, .int 0, .int 0, .int 0, .null, .null, .null, .null]))] := hD
        refine lv_dup hx hb dX1_build_75 rfl ?_
        refine lv_iload_n hx hb dX1_build_76 rfl (lv_at hl 2 rfl) ?_
        refine lv_iload_n hx hb dX1_build_77 rfl (lv_at hl 3 rfl) ?_
        refine lv_iload_n hx hb dX1_build_78 rfl (lv_at hl 4 rfl) ?_
        have hPc := hP.sub (ws' := [(q8, .inr (0, [.int 0, .int 0, .int 0, .int 0, .int 0, .int 0, .null, .null, .null, .null]))]) [2] rfl
        have hKc := hK.sub (tys' := []) [] rfl
        have hDc := hD.sub (ws' := [(q8, .inr (0, [.int 0, .int 0, .int 0, .int 0, .int 0, .int 0, .null, .null, .null, .null]))]) [2] (by decide) rfl
        have hFc := va_free (wc := [(q8, .inr (0, [.int 0, .int 0, .int 0, .int 0, .int 0, .int 0, .null, .null, .null, .null]))]) hD hS hA [2] rfl
        refine va_callv (va_runI (As := [.int a1, .int a2, .int a3]) (rest := [.ref q8, .int 0, .ref ro]) ⟨hx, hb, hml, hown, hts⟩ (k0_init l dC dI H.size q8 a1 a2 a3 ) (cwI 3 hts gX1_build_X0_init rfl rfl rfl (hts (.initialized RX0) (by decide +kernel)) (hts (.methodLink RX1 25 yX0_init) (by decide +kernel)) (hts (.instanceMethod yX0_init) (by decide +kernel)) rfl (by decide +kernel) ⟨Nat.le_of_ble_eq_true rfl, Nat.le_of_ble_eq_true rfl⟩) ⟨fun a U g mk q => by obtain ⟨q0, q1, qP, qK, qD⟩ := q; exact ⟨q0, q1, qP, va_K.moved (u := U) (U := U.calling g mk a) (Vm.Alike.refl U.vm) qK, qD⟩, fun U hU hW => ⟨rfl, by rw [hU], by rw [hU]; exact hPc, va_K.moved hW.alike hKc, hDc.weaken (fun _ _ _ _ => trivial)⟩⟩ rfl rfl hl.1 rfl (lv_room (Nat.le_of_ble_eq_true rfl)) dX1_build_79 ⟨Nat.le_of_ble_eq_true rfl, Nat.le_of_ble_eq_true rfl⟩) hS (fun q _ h => hFc q h) hFc (fun u t H1 locs ht hvm hr9 hB hz1 hk1 hS => ?_)
        obtain ⟨k__10, t__11, p__12, m__13, c1__14, c2__15, c3__16, c4__17⟩ := u
        obtain ⟨hP1, hK1, hD1⟩ := hB
        rw [ht] at hP1
        have hK1 := va_K.moved hvm.symm hK1
        try dsimp only at hr9
        obtain ⟨hP, hD⟩ := va_join (wr := [(h, .inr (1, [.ref ro, .int 0, .ref ba, .ref ra, .ref su, .int 0, .ref tr])), (ro, .inl (cR, 6, .inr (.inr (.inr (.inr (fun _ => none))))))]) (w1 := [(q8, .inr (0, [.int a1, .int a2, .int a3, .int 100, .int 0, .int 0, .ref k__10, .ref t__11, .ref p__12, .ref m__13])), (k__10, .inl (c1__14, 60, .inl (fun _ => 0))), (t__11, .inl (c2__15, 60, .inl (fun _ => 0))), (p__12, .inl (c3__16, 60, .inl (fun _ => 0))), (m__13, .inl (c4__17, 60, .inl (fun _ => 0)))]) hP hD [2] [0, 1] rfl rfl (by decide) (by decide) hk1 hFc hP1 hD1
        have hK := hK.app hK1
        have hK : va_K (dC, dI) vwCl [(cR, .object RX0), (c1__14, .int), (c2__15, .int), (c3__16, .int), (c4__17, .int)] s := hK
        generalize H1 = H at hP hS ⊢
        have hP : va_P (dC, dI) vwCl [(h, .inr (1, [.ref ro, .int 0, .ref ba, .ref ra, .ref su, .int 0, .ref tr])), (ro, .inl (cR, 6, .inr (.inr (.inr (.inr (fun _ => none)))))), (q8, .inr (0, [.int a1, .int a2, .int a3, .int 100, .int 0, .int 0, .ref k__10, .ref t__11, .ref p__12, .ref m__13])), (k__10, .inl (c1__14, 60, .inl (fun _ => 0))), (t__11, .inl (c2__15, 60, .inl (fun _ => 0))), (p__12, .inl (c3__16, 60, .inl (fun _ => 0))), (m__13, .inl (c4__17, 60, .inl (fun _ => 0)))] H := hP
        have hD : va_D A [(h, .inr (1, [.ref ro, .int 0, .ref ba, .ref ra, .ref su, .int 0, .ref tr])), (ro, .inl (cR, 6, .inr (.inr (.inr (.inr (fun _ => none)))))), (q8, .inr (0, [.int a1, .int a2, .int a3, .int 100, .int 0, .int 0, .ref k__10, .ref t__11, .ref p__12, .ref m__13])), (k__10, .inl (c1__14, 60, .inl (fun _ => 0))), (t__11, .inl (c2__15, 60, .inl (fun _ => 0))), (p__12, .inl (c3__16, 60, .inl (fun _ => 0))), (m__13, .inl (c4__17, 60, .inl (fun _ => 0)))] := hD
        refine W.widen (k := 5) (n := 250) (Nat.le_of_ble_eq_true rfl) (Nat.le_of_ble_eq_true rfl) ?_
        obtain - := hr9
        refine va_astq hx hb hK hP hD hS 1 0 2 0 rfl rfl rfl rfl (vp_in_nI (n := 0) (by decide) (by decide)) dX1_build_82 (fun H locs hP hD hS => ?_)
        have hP : va_P (dC, dI) vwCl [(h, .inr (1, [.ref ro, .int 0, .ref ba, .ref ra, .ref su, .int 0, .ref tr])), (ro, .inl (cR, 6, .inr (.inr (.inr (.inr (va_up (fun _ => none) 0 (some q8))))))), (q8, .inr (0, [.int a1, .int a2, .int a3, .int 100, .int 0, .int 0, .ref k__10, .ref t__11, .ref p__12, .ref m__13])), (k__10, .inl (c1__14, 60, .inl (fun _ => 0))), (t__11, .inl (c2__15, 60, .inl (fun _ => 0))), (p__12, .inl (c3__16, 60, .inl (fun _ => 0))), (m__13, .inl (c4__17, 60, .inl (fun _ => 0)))] H := hP
        have hD : va_D A [(h, .inr (1, [.ref ro, .int 0, .ref ba, .ref ra, .ref su, .int 0, .ref tr])), (ro, .inl (cR, 6, .inr (.inr (.inr (.inr (va_up (fun _ => none) 0 (some q8))))))), (q8, .inr (0, [.int a1, .int a2, .int a3, .int 100, .int 0, .int 0, .ref k__10, .ref t__11, .ref p__12, .ref m__13])), (k__10, .inl (c1__14, 60, .inl (fun _ => 0))), (t__11, .inl (c2__15, 60, .inl (fun _ => 0))), (p__12, .inl (c3__16, 60, .inl (fun _ => 0))), (m__13, .inl (c4__17, 60, .inl (fun _ => 0)))] := hD
        refine lv_aload_n hx hb dX1_build_83 rfl (lv_at hl 1 rfl) ?_
        refine lv_dup hx hb dX1_build_84 rfl ?_
        refine va_get (D := (dC, dI)) (ci := 1) (v := .int 0) (C := RX1) (T := TX1) (N := 7) hx hb hts (by decide +kernel) hown hK hP 0 rfl rfl 1 (by decide) (hts (.fieldLink RX1 43 "ThatchRoof" "built" "I") (by decide +kernel)) (fun _ h9 => h9) rfl dX1_build_85 ?_
        refine lv_iconst (v := 1) hx hb dX1_build_88 (by decide) ?_
        refine lv_iadd hx hb dX1_build_89 ?_
        refine W.eq (g2 := F0 m 90 ls [.int 1, .ref h]) rfl ?_
        refine va_put (D := (dC, dI)) (ci := 1) (v := .int 1) (ty := .int) (C := RX1) (T := TX1) (N := 7) hx hb hts (by decide +kernel) tyX1 tyX1_ok nmX1 hown hK hP hD hS 0 rfl rfl 1 (by decide) (hts (.fieldLink RX1 43 "ThatchRoof" "built" "I") (by decide +kernel)) (fun _ h9 => h9) rfl (by decide +kernel) rfl rfl (Nat.le_of_ble_eq_true rfl) dX1_build_90 (fun H locs hP hD hS => ?_)
        have hP : va_P (dC, dI) vwCl [(h, .inr (1, [.ref ro, .int 1, .ref ba, .ref ra, .ref su, .int 0, .ref tr])), (ro, .inl (cR, 6, .inr (.inr (.inr (.inr (va_up (fun _ => none) 0 (some q8))))))), (q8, .inr (0, [.int a1, .int a2, .int a3, .int 100, .int 0, .int 0, .ref k__10, .ref t__11, .ref p__12, .ref m__13])), (k__10, .inl (c1__14, 60, .inl (fun _ => 0))), (t__11, .inl (c2__15, 60, .inl (fun _ => 0))), (p__12, .inl (c3__16, 60, .inl (fun _ => 0))), (m__13, .inl (c4__17, 60, .inl (fun _ => 0)))] H := hP
        have hD : va_D A [(h, .inr (1, [.ref ro, .int 1, .ref ba, .ref ra, .ref su, .int 0, .ref tr])), (ro, .inl (cR, 6, .inr (.inr (.inr (.inr (va_up (fun _ => none) 0 (some q8))))))), (q8, .inr (0, [.int a1, .int a2, .int a3, .int 100, .int 0, .int 0, .ref k__10, .ref t__11, .ref p__12, .ref m__13])), (k__10, .inl (c1__14, 60, .inl (fun _ => 0))), (t__11, .inl (c2__15, 60, .inl (fun _ => 0))), (p__12, .inl (c3__16, 60, .inl (fun _ => 0))), (m__13, .inl (c4__17, 60, .inl (fun _ => 0)))] := hD
        refine lv_iload hx hb dX1_build_93 (lv_at hl 0 rfl) ?_
        have hP9 := hP.sub (ws' := []) [] rfl
        have hD9 := hD.sub (ws' := []) [] (by decide) rfl
        have hK9 := hK.sub (tys' := []) [] rfl
        refine W.widen (k := 5) (n := 250) (Nat.le_of_ble_eq_true rfl) (Nat.le_of_ble_eq_true rfl) ?_
        refine vx_ret ?_
        exact W.iret (v := 0) hx hb hr (fun t ht hW => ⟨⟨0, (), rfl, by (refine ⟨?_, ?_⟩ <;> (first | rfl | assumption | decide | (simp_all; done) | grind)), ⟨by rw [ht]; exact hP9, va_K.moved hW.alike hK9, hD9⟩⟩, hS.F ht⟩) hS.2.2 dX1_build_95
      · refine lv_if_ne (tgt := 41) hx hb dX1_build_28 (by decide) (fun c18 => absurd c18 (by decide)) (fun c18 => ?_)
        obtain ⟨sa, hstr⟩ := zX_str_RX1_38 hZX
        exact vx_throwS (A := A) (names := ["java/lang/RuntimeException", "java/lang/Exception"]) (cls := "java/lang/IllegalArgumentException") (sa := sa) hx hb hst hown (by decide +kernel) (by decide +kernel) (hts (.classLink RX1 36 "java/lang/IllegalArgumentException") (by decide +kernel)) (hts (.initialized "java/lang/IllegalArgumentException") (by decide +kernel)) hstr (vx_hat (fun w hw => hts w (by unfold wsX1_build; first | exact List.mem_cons_of_mem _ (List.mem_append_right _ hw) | exact List.mem_cons_of_mem _ (List.mem_append_left _ (List.mem_append_right _ hw)) | exact List.mem_cons_of_mem _ (List.mem_append_left _ (List.mem_append_left _ (List.mem_append_right _ hw))))) zAt_X1_40 (vx_c (va_Nw.use rfl (zX_cA hZX)) (vx_c (va_Nw.use rfl (zX_d0 hZX)) (vx_c (va_Nw.use rfl (zX_d1 hZX)) (vx_c (va_Nw.use rfl (zX_d2 hZX)) vx_n))))) (zGo_X1_40 36) hZT.1 hZT.2 hS (hl.1.trans hml.symm) dX1_build_31 dX1_build_34 dX1_build_35 dX1_build_37 dX1_build_40 (fun x hx => (hnt x hx).elim) (Nat.le_of_ble_eq_true rfl) (Nat.le_of_ble_eq_true rfl) (Nat.le_of_ble_eq_true rfl) (Nat.le_of_ble_eq_true rfl) hlocks (fun t h1 h2 h3 => ⟨(), trivial, by first | (refine ⟨rfl, ?_⟩ <;> (first | assumption | (simp_all; done) | grind); done), ⟨Nat.le_trans hS.1 h2, fun q hq hn => (h3 q (Nat.lt_of_lt_of_le hq hS.1)).trans (hS.2.1 q hq hn)⟩⟩) hS.2.2 (Nat.le_of_ble_eq_true rfl) (Nat.le_of_ble_eq_true rfl)
    · refine lv_if_eq (tgt := 31) hx hb dX1_build_17 (by decide) (fun c19 => ?_) (fun c19 => absurd c19 (by decide))
      obtain ⟨sa, hstr⟩ := zX_str_RX1_38 hZX
      exact vx_throwS (A := A) (names := ["java/lang/RuntimeException", "java/lang/Exception"]) (cls := "java/lang/IllegalArgumentException") (sa := sa) hx hb hst hown (by decide +kernel) (by decide +kernel) (hts (.classLink RX1 36 "java/lang/IllegalArgumentException") (by decide +kernel)) (hts (.initialized "java/lang/IllegalArgumentException") (by decide +kernel)) hstr (vx_hat (fun w hw => hts w (by unfold wsX1_build; first | exact List.mem_cons_of_mem _ (List.mem_append_right _ hw) | exact List.mem_cons_of_mem _ (List.mem_append_left _ (List.mem_append_right _ hw)) | exact List.mem_cons_of_mem _ (List.mem_append_left _ (List.mem_append_left _ (List.mem_append_right _ hw))))) zAt_X1_40 (vx_c (va_Nw.use rfl (zX_cA hZX)) (vx_c (va_Nw.use rfl (zX_d0 hZX)) (vx_c (va_Nw.use rfl (zX_d1 hZX)) (vx_c (va_Nw.use rfl (zX_d2 hZX)) vx_n))))) (zGo_X1_40 36) hZT.1 hZT.2 hS (hl.1.trans hml.symm) dX1_build_31 dX1_build_34 dX1_build_35 dX1_build_37 dX1_build_40 (fun x hx => (hnt x hx).elim) (Nat.le_of_ble_eq_true rfl) (Nat.le_of_ble_eq_true rfl) (Nat.le_of_ble_eq_true rfl) (Nat.le_of_ble_eq_true rfl) hlocks (fun t h1 h2 h3 => ⟨(), trivial, by first | (refine ⟨rfl, ?_⟩ <;> (first | assumption | (simp_all; done) | grind); done), ⟨Nat.le_trans hS.1 h2, fun q hq hn => (h3 q (Nat.lt_of_lt_of_le hq hS.1)).trans (hS.2.1 q hq hn)⟩⟩) hS.2.2 (Nat.le_of_ble_eq_true rfl) (Nat.le_of_ble_eq_true rfl)
  · refine lv_if_eq (tgt := 31) hx hb dX1_build_7 (by decide) (fun c20 => ?_) (fun c20 => absurd c20 (by decide))
    obtain ⟨sa, hstr⟩ := zX_str_RX1_38 hZX
    exact vx_throwS (A := A) (names := ["java/lang/RuntimeException", "java/lang/Exception"]) (cls := "java/lang/IllegalArgumentException") (sa := sa) hx hb hst hown (by decide +kernel) (by decide +kernel) (hts (.classLink RX1 36 "java/lang/IllegalArgumentException") (by decide +kernel)) (hts (.initialized "java/lang/IllegalArgumentException") (by decide +kernel)) hstr (vx_hat (fun w hw => hts w (by unfold wsX1_build; first | exact List.mem_cons_of_mem _ (List.mem_append_right _ hw) | exact List.mem_cons_of_mem _ (List.mem_append_left _ (List.mem_append_right _ hw)) | exact List.mem_cons_of_mem _ (List.mem_append_left _ (List.mem_append_left _ (List.mem_append_right _ hw))))) zAt_X1_40 (vx_c (va_Nw.use rfl (zX_cA hZX)) (vx_c (va_Nw.use rfl (zX_d0 hZX)) (vx_c (va_Nw.use rfl (zX_d1 hZX)) (vx_c (va_Nw.use rfl (zX_d2 hZX)) vx_n))))) (zGo_X1_40 36) hZT.1 hZT.2 hS (hl.1.trans hml.symm) dX1_build_31 dX1_build_34 dX1_build_35 dX1_build_37 dX1_build_40 (fun x hx => (hnt x hx).elim) (Nat.le_of_ble_eq_true rfl) (Nat.le_of_ble_eq_true rfl) (Nat.le_of_ble_eq_true rfl) (Nat.le_of_ble_eq_true rfl) hlocks (fun t h1 h2 h3 => ⟨(), trivial, by first | (refine ⟨rfl, ?_⟩ <;> (first | assumption | (simp_all; done) | grind); done), ⟨Nat.le_trans hS.1 h2, fun q hq hn => (h3 q (Nat.lt_of_lt_of_le hq hS.1)).trans (hS.2.1 q hq hn)⟩⟩) hS.2.2 (Nat.le_of_ble_eq_true rfl) (Nat.le_of_ble_eq_true rfl)

set_option maxHeartbeats 4000000 in
set_option maxRecDepth 100000 in
theorem k1_bring (l : Launch) (hst : l.stackTraces = false) (dC : Nat → ClassId) (dI : Nat → Nat → Nat) (sz : Nat) (h : Nat) (ro : Nat) (ba : Nat) (ra : Nat) (su : Nat) (tr : Nat) (cB : ClassId) (a1 : Int32) (a2 : Int32) : vx_Met l yX1_bring wsX1_bring ({ frames := 6, cells := 1, slots := 6, locals := 82 }) (va_Pc [.ref h, .int a1, .int a2] (fun U => U.heap.size = sz ∧ va_P (dC, dI) vwCl [(h, .inr (1, [.ref ro, .int 0, .ref ba, .ref ra, .ref su, .int 0, .ref tr])), (ba, .inl (cB, 3, .inl (fun _ => 0)))] U.heap ∧ va_K (dC, dI) vwCl [(cB, .int)] U ∧ va_D (fun _ => True) [(h, .inr (1, [.ref ro, .int 0, .ref ba, .ref ra, .ref su, .int 0, .ref tr])), (ba, .inl (cB, 3, .inl (fun _ => 0)))] ∧ zX U ∧ zTh (va_A [(h, .inr (1, [.ref ro, .int 0, .ref ba, .ref ra, .ref su, .int 0, .ref tr])), (ba, .inl (cB, 3, .inl (fun _ => 0)))] sz) U U.heap)) (va_Qi (fun (r : Int32) (u : Unit) => r = a2 ∧ zIn a1 0 2 ∧ zIn a2 1 500) (fun (u : Unit) (t : State) => va_P (dC, dI) vwCl [] t.heap ∧ va_K (dC, dI) vwCl [] t ∧ va_D (va_A [(h, .inr (1, [.ref ro, .int 0, .ref ba, .ref ra, .ref su, .int 0, .ref tr])), (ba, .inl (cB, 3, .inl (fun _ => 0)))] sz) []) (va_A [(h, .inr (1, [.ref ro, .int 0, .ref ba, .ref ra, .ref su, .int 0, .ref tr])), (ba, .inl (cB, 3, .inl (fun _ => 0)))] sz)) (vx_X (fun _ : Unit => True) (fun (E : String) (_ : Unit) (_ : State) => (E = "java/lang/IndexOutOfBoundsException" ∧ (¬ zIn a1 0 2)) ∨ (E = "java/lang/IllegalArgumentException" ∧ (zIn a1 0 2) ∧ (¬ zIn a2 1 500))) (va_A [(h, .inr (1, [.ref ro, .int 0, .ref ba, .ref ra, .ref su, .int 0, .ref tr])), (ba, .inl (cB, 3, .inl (fun _ => 0)))] sz)) 1 6 (va_A [(h, .inr (1, [.ref ro, .int 0, .ref ba, .ref ra, .ref su, .int 0, .ref tr])), (ba, .inl (cB, 3, .inl (fun _ => 0)))] sz) := by
  refine vx_ofW (cc := cX1_bring) (maxL := 3) (ret := (some .int)) (by decide) rfl ?_
  intro p e s m args below meth c s₁ B hml hnt hv
  obtain ⟨rfl, hsz, hP, hK, hD0, hZX, hZT⟩ := hv
  have hx := B.exec
  have hb := B.bytes
  have hr := B.returns
  have hts := atoms_spec (ws := wsX1_bring) B.pre
  have hown : s.vm.findClass RX1 = some m.cls := findClass_of_methodNamed B.named
  have hlocks := B.notSynchronized
  subst hsz
  have hD := hD0.self (sz := s.heap.size)
  generalize hAe : va_A [(h, .inr (1, [.ref ro, .int 0, .ref ba, .ref ra, .ref su, .int 0, .ref tr])), (ba, .inl (cB, 3, .inl (fun _ => 0)))] s.heap.size = A at hD hZT ⊢
  have hA : ∀ q : Nat, s.heap.size ≤ q → A q := fun q h => by rw [← hAe]; exact Or.inr h
  have hS : va_S A s.heap s.heap [] := va_S.rf
  have hP : va_P (dC, dI) vwCl [(h, .inr (1, [.ref ro, .int 0, .ref ba, .ref ra, .ref su, .int 0, .ref tr])), (ba, .inl (cB, 3, .inl (fun _ => 0)))] s.heap := hP
  have hl := lv_entry ([.ref h, .int a1, .int a2]) (n := 3) (Nat.le_of_ble_eq_true rfl)
  rw [lg_entry_eq]
  generalize (lg_sl ([.ref h, .int a1, .int a2]) ++ List.replicate (3 - (lg_sl ([.ref h, .int a1, .int a2])).length) Slot.unset).toArray = ls at hl ⊢
  have hl : lv_has ls 3 [(0, .ref h), (1, .int a1), (2, .int a2)] := hl
  refine lv_iload_n hx hb dX1_bring_0 rfl (lv_at hl 1 rfl) ?_
  refine vp_callSi (va_runS (As := [.int a1]) (rest := []) ⟨hx, hb, hml, hown, hts⟩ (k1_isKind l dC dI a1 ) (va_cwS 1 hts gX1_bring_X1_isKind rfl rfl rfl (by decide +kernel) ⟨Nat.le_of_ble_eq_true rfl, Nat.le_of_ble_eq_true rfl⟩) ⟨fun a U g mk q => q, fun U hU hW => ⟨rfl, trivial⟩⟩ rfl rfl hl.1 rfl (lv_room (Nat.le_of_ble_eq_true rfl)) dX1_bring_1 ⟨Nat.le_of_ble_eq_true rfl, Nat.le_of_ble_eq_true rfl⟩).run (fun r1 hr1 => ?_)
  rcases hr1 with ⟨rfl, fr1_0_0⟩ | ⟨rfl, fr1_1_0⟩
  · refine lv_if_ne (tgt := 17) hx hb dX1_bring_4 (by decide) (fun c2 => ?_) (fun c2 => absurd c2 (by decide))
    refine lv_iload_n hx hb dX1_bring_17 rfl (lv_at hl 2 rfl) ?_
    refine lv_iconst (v := 1) hx hb dX1_bring_18 (by decide) ?_
    refine lv_sipush (v := 500) hx hb dX1_bring_19 (by decide) ?_
    refine vp_callSi (va_runS (As := [.int a2, .int 1, .int 500]) (rest := []) ⟨hx, hb, hml, hown, hts⟩ (k1_isWithin l dC dI a2 1 500 ) (va_cwS 3 hts gX1_bring_X1_isWithin rfl rfl rfl (by decide +kernel) ⟨Nat.le_of_ble_eq_true rfl, Nat.le_of_ble_eq_true rfl⟩) ⟨fun a U g mk q => q, fun U hU hW => ⟨rfl, trivial⟩⟩ rfl rfl hl.1 rfl (lv_room (Nat.le_of_ble_eq_true rfl)) dX1_bring_22 ⟨Nat.le_of_ble_eq_true rfl, Nat.le_of_ble_eq_true rfl⟩).run (fun r3 hr3 => ?_)
    rcases hr3 with ⟨rfl, fr3_0_0⟩ | ⟨rfl, fr3_1_0⟩
    · refine lv_if_ne (tgt := 38) hx hb dX1_bring_25 (by decide) (fun c4 => ?_) (fun c4 => absurd c4 (by decide))
      refine lv_aload_n hx hb dX1_bring_38 rfl (lv_at hl 0 rfl) ?_
      refine va_get (D := (dC, dI)) (ci := 1) (v := .ref ba) (C := RX1) (T := TX1) (N := 7) hx hb hts (by decide +kernel) hown hK hP 0 rfl rfl 2 (by decide) (hts (.fieldLink RX1 15 "ThatchRoof" "barn" "[I") (by decide +kernel)) (fun _ h9 => h9) rfl dX1_bring_39 ?_
      refine lv_iload_n hx hb dX1_bring_42 rfl (lv_at hl 1 rfl) ?_
      refine va_iald hx hb hK hP 1 0 rfl rfl (zIn_in (hi := 2) (by assumption) (by decide)) dX1_bring_43 ?_
      refine lv_topi (fun x5 ex5 => ?_)
      obtain rfl : x5 = 0 := ex5
      refine lv_iload_n hx hb dX1_bring_44 rfl (lv_at hl 2 rfl) ?_
      refine lv_iadd hx hb dX1_bring_45 ?_
      refine lv_topi (fun x6 ex6 => ?_)
      refine lv_sipush (v := 500) hx hb dX1_bring_46 (by decide) ?_
      refine lv_icmp_le (tgt := 62) hx hb dX1_bring_49 (by decide) (fun c7 => ?_) (fun c7 => absurd (show x6 ≤ 500 by rw [ex6, Int32.zero_add]; exact Int32.not_lt.mp (show zIn a2 1 500 by assumption).2) c7)
      refine lv_aload_n hx hb dX1_bring_62 rfl (lv_at hl 0 rfl) ?_
      refine va_get (D := (dC, dI)) (ci := 1) (v := .ref ba) (C := RX1) (T := TX1) (N := 7) hx hb hts (by decide +kernel) hown hK hP 0 rfl rfl 2 (by decide) (hts (.fieldLink RX1 15 "ThatchRoof" "barn" "[I") (by decide +kernel)) (fun _ h9 => h9) rfl dX1_bring_63 ?_
      refine lv_iload_n hx hb dX1_bring_66 rfl (lv_at hl 1 rfl) ?_
      refine lv_dup2_11 hx hb dX1_bring_67 rfl rfl ?_
      refine va_iald hx hb hK hP 1 0 rfl rfl (zIn_in (hi := 2) (by assumption) (by decide)) dX1_bring_68 ?_
      refine lv_topi (fun x8 ex8 => ?_)
      obtain rfl : x8 = 0 := ex8
      refine lv_iload_n hx hb dX1_bring_69 rfl (lv_at hl 2 rfl) ?_
      refine lv_iadd hx hb dX1_bring_70 ?_
      refine lv_topi (fun x9 ex9 => ?_)
      refine va_iast hx hb hK hP hD hS 1 0 rfl rfl (zIn_in (hi := 2) (by assumption) (by decide)) dX1_bring_71 (fun H locs hP hD hS => ?_)
      have hP : va_P (dC, dI) vwCl [(h, .inr (1, [.ref ro, .int 0, .ref ba, .ref ra, .ref su, .int 0, .ref tr])), (ba, .inl (cB, 3, .inl (upd (fun _ => 0) a1.toNatClampNeg x9)))] H := hP
      have hD : va_D A [(h, .inr (1, [.ref ro, .int 0, .ref ba, .ref ra, .ref su, .int 0, .ref tr])), (ba, .inl (cB, 3, .inl (upd (fun _ => 0) a1.toNatClampNeg x9)))] := hD
      refine lv_aload_n hx hb dX1_bring_72 rfl (lv_at hl 0 rfl) ?_
      refine va_get (D := (dC, dI)) (ci := 1) (v := .ref ba) (C := RX1) (T := TX1) (N := 7) hx hb hts (by decide +kernel) hown hK hP 0 rfl rfl 2 (by decide) (hts (.fieldLink RX1 15 "ThatchRoof" "barn" "[I") (by decide +kernel)) (fun _ h9 => h9) rfl dX1_bring_73 ?_
      refine lv_iload_n hx hb dX1_bring_76 rfl (lv_at hl 1 rfl) ?_
      refine va_iald hx hb hK hP 1 0 rfl rfl (zIn_in (hi := 2) (by assumption) (by decide)) dX1_bring_77 ?_
      refine lv_topi (fun x10 ex10 => ?_)
      have hP9 := hP.sub (ws' := []) [] rfl
      have hD9 := hD.sub (ws' := []) [] (by decide) rfl
      have hK9 := hK.sub (tys' := []) [] rfl
      refine W.widen (k := 1) (n := 6) (Nat.le_of_ble_eq_true rfl) (Nat.le_of_ble_eq_true rfl) ?_
      refine vx_ret ?_
      exact W.iret (v := x10) hx hb hr (fun t ht hW => ⟨⟨x10, (), rfl, ⟨by rw [ex10, pk_us, ex9, Int32.zero_add], by assumption, by assumption⟩, ⟨by rw [ht]; exact hP9, va_K.moved hW.alike hK9, hD9⟩⟩, hS.F ht⟩) hS.2.2 dX1_bring_78
    · refine lv_if_ne (tgt := 38) hx hb dX1_bring_25 (by decide) (fun c11 => absurd c11 (by decide)) (fun c11 => ?_)
      obtain ⟨sa, hstr⟩ := zX_str_RX1_61 hZX
      exact vx_throwS (A := A) (names := ["java/lang/RuntimeException", "java/lang/Exception"]) (cls := "java/lang/IllegalArgumentException") (sa := sa) hx hb hst hown (by decide +kernel) (by decide +kernel) (hts (.classLink RX1 36 "java/lang/IllegalArgumentException") (by decide +kernel)) (hts (.initialized "java/lang/IllegalArgumentException") (by decide +kernel)) hstr (vx_hat (fun w hw => hts w (by unfold wsX1_bring; first | exact List.mem_cons_of_mem _ (List.mem_append_right _ hw) | exact List.mem_cons_of_mem _ (List.mem_append_left _ (List.mem_append_right _ hw)) | exact List.mem_cons_of_mem _ (List.mem_append_left _ (List.mem_append_left _ (List.mem_append_right _ hw))))) zAt_X1_40 (vx_c (va_Nw.use rfl (zX_cA hZX)) (vx_c (va_Nw.use rfl (zX_d0 hZX)) (vx_c (va_Nw.use rfl (zX_d1 hZX)) (vx_c (va_Nw.use rfl (zX_d2 hZX)) vx_n))))) (zGo_X1_40 36) hZT.1 hZT.2 hS (hl.1.trans hml.symm) dX1_bring_28 dX1_bring_31 dX1_bring_32 dX1_bring_34 dX1_bring_37 (fun x hx => (hnt x hx).elim) (Nat.le_of_ble_eq_true rfl) (Nat.le_of_ble_eq_true rfl) (Nat.le_of_ble_eq_true rfl) (Nat.le_of_ble_eq_true rfl) hlocks (fun t h1 h2 h3 => ⟨(), trivial, by first | (refine Or.inr ?_; refine ⟨rfl, ?_, ?_⟩ <;> (first | assumption | (simp_all; done) | grind); done), ⟨Nat.le_trans hS.1 h2, fun q hq hn => (h3 q (Nat.lt_of_lt_of_le hq hS.1)).trans (hS.2.1 q hq hn)⟩⟩) hS.2.2 (Nat.le_of_ble_eq_true rfl) (Nat.le_of_ble_eq_true rfl)
  · refine lv_if_ne (tgt := 17) hx hb dX1_bring_4 (by decide) (fun c12 => absurd c12 (by decide)) (fun c12 => ?_)
    obtain ⟨sa, hstr⟩ := zX_str_RX1_58 hZX
    exact vx_throwS (A := A) (names := ["java/lang/RuntimeException", "java/lang/Exception"]) (cls := "java/lang/IndexOutOfBoundsException") (sa := sa) hx hb hst hown (by decide +kernel) (by decide +kernel) (hts (.classLink RX1 56 "java/lang/IndexOutOfBoundsException") (by decide +kernel)) (hts (.initialized "java/lang/IndexOutOfBoundsException") (by decide +kernel)) hstr (vx_hat (fun w hw => hts w (by unfold wsX1_bring; first | exact List.mem_cons_of_mem _ (List.mem_append_right _ hw) | exact List.mem_cons_of_mem _ (List.mem_append_left _ (List.mem_append_right _ hw)) | exact List.mem_cons_of_mem _ (List.mem_append_left _ (List.mem_append_left _ (List.mem_append_right _ hw))))) zAt_X1_60 (vx_c (va_Nw.use rfl (zX_cB hZX)) (vx_c (va_Nw.use rfl (zX_d0 hZX)) (vx_c (va_Nw.use rfl (zX_d1 hZX)) (vx_c (va_Nw.use rfl (zX_d2 hZX)) vx_n))))) (zGo_X1_60 56) hZT.1 hZT.2 hS (hl.1.trans hml.symm) dX1_bring_7 dX1_bring_10 dX1_bring_11 dX1_bring_13 dX1_bring_16 (fun x hx => (hnt x hx).elim) (Nat.le_of_ble_eq_true rfl) (Nat.le_of_ble_eq_true rfl) (Nat.le_of_ble_eq_true rfl) (Nat.le_of_ble_eq_true rfl) hlocks (fun t h1 h2 h3 => ⟨(), trivial, by first | (refine Or.inl ?_; refine ⟨rfl, ?_⟩ <;> (first | assumption | (simp_all; done) | grind); done), ⟨Nat.le_trans hS.1 h2, fun q hq hn => (h3 q (Nat.lt_of_lt_of_le hq hS.1)).trans (hS.2.1 q hq hn)⟩⟩) hS.2.2 (Nat.le_of_ble_eq_true rfl) (Nat.le_of_ble_eq_true rfl)

set_option maxHeartbeats 4000000 in
set_option maxRecDepth 100000 in
theorem k1_setWeather (l : Launch) (hst : l.stackTraces = false) (dC : Nat → ClassId) (dI : Nat → Nat → Nat) (sz : Nat) (h : Nat) (ro : Nat) (ba : Nat) (ra : Nat) (su : Nat) (tr : Nat) (cA : ClassId) (fr : Nat → Int32) (cS : ClassId) (a1 : Int32) (a2 : Int32) (a3 : Int32) (hra : ∀ j : Nat, j < 12 → fr j = 4) : vx_Met l yX1_setWeather wsX1_setWeather ({ frames := 6, cells := 1, slots := 6, locals := 82 }) (va_Pc [.ref h, .int a1, .int a2, .int a3] (fun U => U.heap.size = sz ∧ va_P (dC, dI) vwCl [(h, .inr (1, [.ref ro, .int 0, .ref ba, .ref ra, .ref su, .int 0, .ref tr])), (ra, .inl (cA, 12, .inl fr)), (su, .inl (cS, 12, .inl (fun _ => 0)))] U.heap ∧ va_K (dC, dI) vwCl [(cA, .int), (cS, .int)] U ∧ va_D (fun _ => True) [(h, .inr (1, [.ref ro, .int 0, .ref ba, .ref ra, .ref su, .int 0, .ref tr])), (ra, .inl (cA, 12, .inl fr)), (su, .inl (cS, 12, .inl (fun _ => 0)))] ∧ zX U ∧ zTh (va_A [(h, .inr (1, [.ref ro, .int 0, .ref ba, .ref ra, .ref su, .int 0, .ref tr])), (ra, .inl (cA, 12, .inl fr)), (su, .inl (cS, 12, .inl (fun _ => 0)))] sz) U U.heap)) (va_Qi (fun (r : Int32) (u : Unit) => r = 40 ∧ zIn a1 0 11 ∧ (zIn a2 0 9 ∧ zIn a3 0 9)) (fun (u : Unit) (t : State) => va_P (dC, dI) vwCl [] t.heap ∧ va_K (dC, dI) vwCl [] t ∧ va_D (va_A [(h, .inr (1, [.ref ro, .int 0, .ref ba, .ref ra, .ref su, .int 0, .ref tr])), (ra, .inl (cA, 12, .inl fr)), (su, .inl (cS, 12, .inl (fun _ => 0)))] sz) []) (va_A [(h, .inr (1, [.ref ro, .int 0, .ref ba, .ref ra, .ref su, .int 0, .ref tr])), (ra, .inl (cA, 12, .inl fr)), (su, .inl (cS, 12, .inl (fun _ => 0)))] sz)) (vx_X (fun _ : Unit => True) (fun (E : String) (_ : Unit) (_ : State) => (E = "java/lang/IndexOutOfBoundsException" ∧ (¬ zIn a1 0 11)) ∨ (E = "java/lang/IllegalArgumentException" ∧ (zIn a1 0 11) ∧ (¬ (zIn a2 0 9 ∧ zIn a3 0 9)))) (va_A [(h, .inr (1, [.ref ro, .int 0, .ref ba, .ref ra, .ref su, .int 0, .ref tr])), (ra, .inl (cA, 12, .inl fr)), (su, .inl (cS, 12, .inl (fun _ => 0)))] sz)) 1 6 (va_A [(h, .inr (1, [.ref ro, .int 0, .ref ba, .ref ra, .ref su, .int 0, .ref tr])), (ra, .inl (cA, 12, .inl fr)), (su, .inl (cS, 12, .inl (fun _ => 0)))] sz) := by
  refine vx_ofW (cc := cX1_setWeather) (maxL := 5) (ret := (some .int)) (by decide) rfl ?_
  intro p e s m args below meth c s₁ B hml hnt hv
  obtain ⟨rfl, hsz, hP, hK, hD0, hZX, hZT⟩ := hv
  have hx := B.exec
  have hb := B.bytes
  have hr := B.returns
  have hts := atoms_spec (ws := wsX1_setWeather) B.pre
  have hown : s.vm.findClass RX1 = some m.cls := findClass_of_methodNamed B.named
  have hlocks := B.notSynchronized
  subst hsz
  have hD := hD0.self (sz := s.heap.size)
  generalize hAe : va_A [(h, .inr (1, [.ref ro, .int 0, .ref ba, .ref ra, .ref su, .int 0, .ref tr])), (ra, .inl (cA, 12, .inl fr)), (su, .inl (cS, 12, .inl (fun _ => 0)))] s.heap.size = A at hD hZT ⊢
  have hA : ∀ q : Nat, s.heap.size ≤ q → A q := fun q h => by rw [← hAe]; exact Or.inr h
  have hS : va_S A s.heap s.heap [] := va_S.rf
  have hP : va_P (dC, dI) vwCl [(h, .inr (1, [.ref ro, .int 0, .ref ba, .ref ra, .ref su, .int 0, .ref tr])), (ra, .inl (cA, 12, .inl fr)), (su, .inl (cS, 12, .inl (fun _ => 0)))] s.heap := hP
  have hl := lv_entry ([.ref h, .int a1, .int a2, .int a3]) (n := 5) (Nat.le_of_ble_eq_true rfl)
  rw [lg_entry_eq]
  generalize (lg_sl ([.ref h, .int a1, .int a2, .int a3]) ++ List.replicate (5 - (lg_sl ([.ref h, .int a1, .int a2, .int a3])).length) Slot.unset).toArray = ls at hl ⊢
  have hl : lv_has ls 5 [(0, .ref h), (1, .int a1), (2, .int a2), (3, .int a3)] := hl
  refine lv_iload_n hx hb dX1_setWeather_0 rfl (lv_at hl 1 rfl) ?_
  refine lv_iconst (v := 0) hx hb dX1_setWeather_1 (by decide) ?_
  refine lv_bipush (v := 11) hx hb dX1_setWeather_2 (by decide) ?_
  refine vp_callSi (va_runS (As := [.int a1, .int 0, .int 11]) (rest := []) ⟨hx, hb, hml, hown, hts⟩ (k1_isWithin l dC dI a1 0 11 ) (va_cwS 3 hts gX1_setWeather_X1_isWithin rfl rfl rfl (by decide +kernel) ⟨Nat.le_of_ble_eq_true rfl, Nat.le_of_ble_eq_true rfl⟩) ⟨fun a U g mk q => q, fun U hU hW => ⟨rfl, trivial⟩⟩ rfl rfl hl.1 rfl (lv_room (Nat.le_of_ble_eq_true rfl)) dX1_setWeather_4 ⟨Nat.le_of_ble_eq_true rfl, Nat.le_of_ble_eq_true rfl⟩).run (fun r1 hr1 => ?_)
  rcases hr1 with ⟨rfl, fr1_0_0⟩ | ⟨rfl, fr1_1_0⟩
  · refine lv_if_ne (tgt := 20) hx hb dX1_setWeather_7 (by decide) (fun c2 => ?_) (fun c2 => absurd c2 (by decide))
    refine lv_iload_n hx hb dX1_setWeather_20 rfl (lv_at hl 2 rfl) ?_
    refine lv_iconst (v := 0) hx hb dX1_setWeather_21 (by decide) ?_
    refine lv_bipush (v := 9) hx hb dX1_setWeather_22 (by decide) ?_
    refine vp_callSi (va_runS (As := [.int a2, .int 0, .int 9]) (rest := []) ⟨hx, hb, hml, hown, hts⟩ (k1_isWithin l dC dI a2 0 9 ) (va_cwS 3 hts gX1_setWeather_X1_isWithin rfl rfl rfl (by decide +kernel) ⟨Nat.le_of_ble_eq_true rfl, Nat.le_of_ble_eq_true rfl⟩) ⟨fun a U g mk q => q, fun U hU hW => ⟨rfl, trivial⟩⟩ rfl rfl hl.1 rfl (lv_room (Nat.le_of_ble_eq_true rfl)) dX1_setWeather_24 ⟨Nat.le_of_ble_eq_true rfl, Nat.le_of_ble_eq_true rfl⟩).run (fun r3 hr3 => ?_)
    rcases hr3 with ⟨rfl, fr3_0_0⟩ | ⟨rfl, fr3_1_0⟩
    · refine lv_if_eq (tgt := 40) hx hb dX1_setWeather_27 (by decide) (fun c4 => absurd c4 (by decide)) (fun c4 => ?_)
      refine lv_iload_n hx hb dX1_setWeather_30 rfl (lv_at hl 3 rfl) ?_
      refine lv_iconst (v := 0) hx hb dX1_setWeather_31 (by decide) ?_
      refine lv_bipush (v := 9) hx hb dX1_setWeather_32 (by decide) ?_
      refine vp_callSi (va_runS (As := [.int a3, .int 0, .int 9]) (rest := []) ⟨hx, hb, hml, hown, hts⟩ (k1_isWithin l dC dI a3 0 9 ) (va_cwS 3 hts gX1_setWeather_X1_isWithin rfl rfl rfl (by decide +kernel) ⟨Nat.le_of_ble_eq_true rfl, Nat.le_of_ble_eq_true rfl⟩) ⟨fun a U g mk q => q, fun U hU hW => ⟨rfl, trivial⟩⟩ rfl rfl hl.1 rfl (lv_room (Nat.le_of_ble_eq_true rfl)) dX1_setWeather_34 ⟨Nat.le_of_ble_eq_true rfl, Nat.le_of_ble_eq_true rfl⟩).run (fun r5 hr5 => ?_)
      rcases hr5 with ⟨rfl, fr5_0_0⟩ | ⟨rfl, fr5_1_0⟩
      · refine lv_if_ne (tgt := 50) hx hb dX1_setWeather_37 (by decide) (fun c6 => ?_) (fun c6 => absurd c6 (by decide))
        refine lv_bipush (v := 10) hx hb dX1_setWeather_50 (by decide) ?_
        refine lv_aload_n hx hb dX1_setWeather_52 rfl (lv_at hl 0 rfl) ?_
        refine va_get (D := (dC, dI)) (ci := 1) (v := .ref ra) (C := RX1) (T := TX1) (N := 7) hx hb hts (by decide +kernel) hown hK hP 0 rfl rfl 3 (by decide) (hts (.fieldLink RX1 19 "ThatchRoof" "rains" "[I") (by decide +kernel)) (fun _ h9 => h9) rfl dX1_setWeather_53 ?_
        refine lv_iload_n hx hb dX1_setWeather_56 rfl (lv_at hl 1 rfl) ?_
        refine va_iald hx hb hK hP 1 0 rfl rfl (zIn_in (hi := 11) (by assumption) (by decide)) dX1_setWeather_57 ?_
        refine lv_topi (fun x7 ex7 => ?_)
        obtain rfl : x7 = 4 := ex7.trans (hra _ (zIn_cl (hi := 11) (by assumption) (by decide)))
        refine lv_imul hx hb dX1_setWeather_58 ?_
        refine W.eq (g2 := F0 m 59 ls [.int 40]) rfl ?_
        refine lv_aload_n hx hb dX1_setWeather_59 rfl (lv_at hl 0 rfl) ?_
        refine va_get (D := (dC, dI)) (ci := 1) (v := .ref su) (C := RX1) (T := TX1) (N := 7) hx hb hts (by decide +kernel) hown hK hP 0 rfl rfl 4 (by decide) (hts (.fieldLink RX1 22 "ThatchRoof" "storms" "[I") (by decide +kernel)) (fun _ h9 => h9) rfl dX1_setWeather_60 ?_
        refine lv_iload_n hx hb dX1_setWeather_63 rfl (lv_at hl 1 rfl) ?_
        refine va_iald hx hb hK hP 2 1 rfl rfl (zIn_in (hi := 11) (by assumption) (by decide)) dX1_setWeather_64 ?_
        refine lv_topi (fun x8 ex8 => ?_)
        obtain rfl : x8 = 0 := ex8
        refine lv_iadd hx hb dX1_setWeather_65 ?_
        refine W.eq (g2 := F0 m 66 ls [.int 40]) rfl ?_
        refine lv_istore (lv' := [(4, .int 40), (0, .ref h), (1, .int a1), (2, .int a2), (3, .int a3)]) hx hb dX1_setWeather_66 hl (by decide) rfl (fun ls hl => ?_)
        refine lv_aload_n hx hb dX1_setWeather_68 rfl (lv_at hl 1 rfl) ?_
        refine va_get (D := (dC, dI)) (ci := 1) (v := .ref ra) (C := RX1) (T := TX1) (N := 7) hx hb hts (by decide +kernel) hown hK hP 0 rfl rfl 3 (by decide) (hts (.fieldLink RX1 19 "ThatchRoof" "rains" "[I") (by decide +kernel)) (fun _ h9 => h9) rfl dX1_setWeather_69 ?_
        refine lv_iload_n hx hb dX1_setWeather_72 rfl (lv_at hl 2 rfl) ?_
        refine lv_iload_n hx hb dX1_setWeather_73 rfl (lv_at hl 3 rfl) ?_
        refine va_iast hx hb hK hP hD hS 1 0 rfl rfl (zIn_in (hi := 11) (by assumption) (by decide)) dX1_setWeather_74 (fun H locs hP hD hS => ?_)
        have hP : va_P (dC, dI) vwCl [(h, .inr (1, [.ref ro, .int 0, .ref ba, .ref ra, .ref su, .int 0, .ref tr])), (ra, .inl (cA, 12, .inl (upd fr a1.toNatClampNeg a2))), (su, .inl (cS, 12, .inl (fun _ => 0)))] H := hP
        have hD : va_D A [(h, .inr (1, [.ref ro, .int 0, .ref ba, .ref ra, .ref su, .int 0, .ref tr])), (ra, .inl (cA, 12, .inl (upd fr a1.toNatClampNeg a2))), (su, .inl (cS, 12, .inl (fun _ => 0)))] := hD
        refine lv_aload_n hx hb dX1_setWeather_75 rfl (lv_at hl 1 rfl) ?_
        refine va_get (D := (dC, dI)) (ci := 1) (v := .ref su) (C := RX1) (T := TX1) (N := 7) hx hb hts (by decide +kernel) hown hK hP 0 rfl rfl 4 (by decide) (hts (.fieldLink RX1 22 "ThatchRoof" "storms" "[I") (by decide +kernel)) (fun _ h9 => h9) rfl dX1_setWeather_76 ?_
        refine lv_iload_n hx hb dX1_setWeather_79 rfl (lv_at hl 2 rfl) ?_
        refine lv_iload_n hx hb dX1_setWeather_80 rfl (lv_at hl 4 rfl) ?_
        refine va_iast hx hb hK hP hD hS 2 1 rfl rfl (zIn_in (hi := 11) (by assumption) (by decide)) dX1_setWeather_81 (fun H locs hP hD hS => ?_)
        have hP : va_P (dC, dI) vwCl [(h, .inr (1, [.ref ro, .int 0, .ref ba, .ref ra, .ref su, .int 0, .ref tr])), (ra, .inl (cA, 12, .inl (upd fr a1.toNatClampNeg a2))), (su, .inl (cS, 12, .inl (upd (fun _ => 0) a1.toNatClampNeg a3)))] H := hP
        have hD : va_D A [(h, .inr (1, [.ref ro, .int 0, .ref ba, .ref ra, .ref su, .int 0, .ref tr])), (ra, .inl (cA, 12, .inl (upd fr a1.toNatClampNeg a2))), (su, .inl (cS, 12, .inl (upd (fun _ => 0) a1.toNatClampNeg a3)))] := hD
        refine lv_iload hx hb dX1_setWeather_82 (lv_at hl 0 rfl) ?_
        have hP9 := hP.sub (ws' := []) [] rfl
        have hD9 := hD.sub (ws' := []) [] (by decide) rfl
        have hK9 := hK.sub (tys' := []) [] rfl
        refine W.widen (k := 1) (n := 6) (Nat.le_of_ble_eq_true rfl) (Nat.le_of_ble_eq_true rfl) ?_
        refine vx_ret ?_
        exact W.iret (v := 40) hx hb hr (fun t ht hW => ⟨⟨40, (), rfl, by (refine ⟨?_, ?_, ?_⟩ <;> (first | rfl | assumption | decide | (simp_all; done) | grind)), ⟨by rw [ht]; exact hP9, va_K.moved hW.alike hK9, hD9⟩⟩, hS.F ht⟩) hS.2.2 dX1_setWeather_84
      · refine lv_if_ne (tgt := 50) hx hb dX1_setWeather_37 (by decide) (fun c9 => absurd c9 (by decide)) (fun c9 => ?_)
        obtain ⟨sa, hstr⟩ := zX_str_RX1_67 hZX
        exact vx_throwS (A := A) (names := ["java/lang/RuntimeException", "java/lang/Exception"]) (cls := "java/lang/IllegalArgumentException") (sa := sa) hx hb hst hown (by decide +kernel) (by decide +kernel) (hts (.classLink RX1 36 "java/lang/IllegalArgumentException") (by decide +kernel)) (hts (.initialized "java/lang/IllegalArgumentException") (by decide +kernel)) hstr (vx_hat (fun w hw => hts w (by unfold wsX1_setWeather; first | exact List.mem_cons_of_mem _ (List.mem_append_right _ hw) | exact List.mem_cons_of_mem _ (List.mem_append_left _ (List.mem_append_right _ hw)) | exact List.mem_cons_of_mem _ (List.mem_append_left _ (List.mem_append_left _ (List.mem_append_right _ hw))))) zAt_X1_40 (vx_c (va_Nw.use rfl (zX_cA hZX)) (vx_c (va_Nw.use rfl (zX_d0 hZX)) (vx_c (va_Nw.use rfl (zX_d1 hZX)) (vx_c (va_Nw.use rfl (zX_d2 hZX)) vx_n))))) (zGo_X1_40 36) hZT.1 hZT.2 hS (hl.1.trans hml.symm) dX1_setWeather_40 dX1_setWeather_43 dX1_setWeather_44 dX1_setWeather_46 dX1_setWeather_49 (fun x hx => (hnt x hx).elim) (Nat.le_of_ble_eq_true rfl) (Nat.le_of_ble_eq_true rfl) (Nat.le_of_ble_eq_true rfl) (Nat.le_of_ble_eq_true rfl) hlocks (fun t h1 h2 h3 => ⟨(), trivial, by first | (refine Or.inr ?_; refine ⟨rfl, ?_, ?_⟩ <;> (first | assumption | (simp_all; done) | grind); done), ⟨Nat.le_trans hS.1 h2, fun q hq hn => (h3 q (Nat.lt_of_lt_of_le hq hS.1)).trans (hS.2.1 q hq hn)⟩⟩) hS.2.2 (Nat.le_of_ble_eq_true rfl) (Nat.le_of_ble_eq_true rfl)
    · refine lv_if_eq (tgt := 40) hx hb dX1_setWeather_27 (by decide) (fun c10 => ?_) (fun c10 => absurd c10 (by decide))
      obtain ⟨sa, hstr⟩ := zX_str_RX1_67 hZX
      exact vx_throwS (A := A) (names := ["java/lang/RuntimeException", "java/lang/Exception"]) (cls := "java/lang/IllegalArgumentException") (sa := sa) hx hb hst hown (by decide +kernel) (by decide +kernel) (hts (.classLink RX1 36 "java/lang/IllegalArgumentException") (by decide +kernel)) (hts (.initialized "java/lang/IllegalArgumentException") (by decide +kernel)) hstr (vx_hat (fun w hw => hts w (by unfold wsX1_setWeather; first | exact List.mem_cons_of_mem _ (List.mem_append_right _ hw) | exact List.mem_cons_of_mem _ (List.mem_append_left _ (List.mem_append_right _ hw)) | exact List.mem_cons_of_mem _ (List.mem_append_left _ (List.mem_append_left _ (List.mem_append_right _ hw))))) zAt_X1_40 (vx_c (va_Nw.use rfl (zX_cA hZX)) (vx_c (va_Nw.use rfl (zX_d0 hZX)) (vx_c (va_Nw.use rfl (zX_d1 hZX)) (vx_c (va_Nw.use rfl (zX_d2 hZX)) vx_n))))) (zGo_X1_40 36) hZT.1 hZT.2 hS (hl.1.trans hml.symm) dX1_setWeather_40 dX1_setWeather_43 dX1_setWeather_44 dX1_setWeather_46 dX1_setWeather_49 (fun x hx => (hnt x hx).elim) (Nat.le_of_ble_eq_true rfl) (Nat.le_of_ble_eq_true rfl) (Nat.le_of_ble_eq_true rfl) (Nat.le_of_ble_eq_true rfl) hlocks (fun t h1 h2 h3 => ⟨(), trivial, by first | (refine Or.inr ?_; refine ⟨rfl, ?_, ?_⟩ <;> (first | assumption | (simp_all; done) | grind); done), ⟨Nat.le_trans hS.1 h2, fun q hq hn => (h3 q (Nat.lt_of_lt_of_le hq hS.1)).trans (hS.2.1 q hq hn)⟩⟩) hS.2.2 (Nat.le_of_ble_eq_true rfl) (Nat.le_of_ble_eq_true rfl)
  · refine lv_if_ne (tgt := 20) hx hb dX1_setWeather_7 (by decide) (fun c11 => absurd c11 (by decide)) (fun c11 => ?_)
    obtain ⟨sa, hstr⟩ := zX_str_RX1_65 hZX
    exact vx_throwS (A := A) (names := ["java/lang/RuntimeException", "java/lang/Exception"]) (cls := "java/lang/IndexOutOfBoundsException") (sa := sa) hx hb hst hown (by decide +kernel) (by decide +kernel) (hts (.classLink RX1 56 "java/lang/IndexOutOfBoundsException") (by decide +kernel)) (hts (.initialized "java/lang/IndexOutOfBoundsException") (by decide +kernel)) hstr (vx_hat (fun w hw => hts w (by unfold wsX1_setWeather; first | exact List.mem_cons_of_mem _ (List.mem_append_right _ hw) | exact List.mem_cons_of_mem _ (List.mem_append_left _ (List.mem_append_right _ hw)) | exact List.mem_cons_of_mem _ (List.mem_append_left _ (List.mem_append_left _ (List.mem_append_right _ hw))))) zAt_X1_60 (vx_c (va_Nw.use rfl (zX_cB hZX)) (vx_c (va_Nw.use rfl (zX_d0 hZX)) (vx_c (va_Nw.use rfl (zX_d1 hZX)) (vx_c (va_Nw.use rfl (zX_d2 hZX)) vx_n))))) (zGo_X1_60 56) hZT.1 hZT.2 hS (hl.1.trans hml.symm) dX1_setWeather_10 dX1_setWeather_13 dX1_setWeather_14 dX1_setWeather_16 dX1_setWeather_19 (fun x hx => (hnt x hx).elim) (Nat.le_of_ble_eq_true rfl) (Nat.le_of_ble_eq_true rfl) (Nat.le_of_ble_eq_true rfl) (Nat.le_of_ble_eq_true rfl) hlocks (fun t h1 h2 h3 => ⟨(), trivial, by first | (refine Or.inl ?_; refine ⟨rfl, ?_⟩ <;> (first | assumption | (simp_all; done) | grind); done), ⟨Nat.le_trans hS.1 h2, fun q hq hn => (h3 q (Nat.lt_of_lt_of_le hq hS.1)).trans (hS.2.1 q hq hn)⟩⟩) hS.2.2 (Nat.le_of_ble_eq_true rfl) (Nat.le_of_ble_eq_true rfl)

set_option maxHeartbeats 4000000 in
set_option maxRecDepth 100000 in
theorem k1_lay (l : Launch) (hst : l.stackTraces = false) (dC : Nat → ClassId) (dI : Nat → Nat → Nat) (sz : Nat) (h : Nat) (ro : Nat) (ba : Nat) (ra : Nat) (su : Nat) (tr : Nat) (cR : ClassId) (a1 : Int32) (a2 : Int32) (a3 : Int32) (a4 : Int32) (a5 : Int32) (a6 : Int32) : vx_Met l yX1_lay wsX1_lay ({ frames := 6, cells := 1, slots := 6, locals := 82 }) (va_Pc [.ref h, .int a1, .int a2, .int a3, .int a4, .int a5, .int a6] (fun U => U.heap.size = sz ∧ va_P (dC, dI) vwCl [(h, .inr (1, [.ref ro, .int 0, .ref ba, .ref ra, .ref su, .int 0, .ref tr])), (ro, .inl (cR, 6, .inr (.inr (.inr (.inr (fun _ => none))))))] U.heap ∧ va_K (dC, dI) vwCl [(cR, .object RX0)] U ∧ va_D (fun _ => True) [(h, .inr (1, [.ref ro, .int 0, .ref ba, .ref ra, .ref su, .int 0, .ref tr])), (ro, .inl (cR, 6, .inr (.inr (.inr (.inr (fun _ => none))))))] ∧ zX U ∧ zTh (va_A [(h, .inr (1, [.ref ro, .int 0, .ref ba, .ref ra, .ref su, .int 0, .ref tr])), (ro, .inl (cR, 6, .inr (.inr (.inr (.inr (fun _ => none))))))] sz) U U.heap)) (va_Qi (fun (r : Int32) (u : Unit) => False) (fun (u : Unit) (t : State) => va_P (dC, dI) vwCl [] t.heap ∧ va_K (dC, dI) vwCl [] t ∧ va_D (va_A [(h, .inr (1, [.ref ro, .int 0, .ref ba, .ref ra, .ref su, .int 0, .ref tr])), (ro, .inl (cR, 6, .inr (.inr (.inr (.inr (fun _ => none))))))] sz) []) (va_A [(h, .inr (1, [.ref ro, .int 0, .ref ba, .ref ra, .ref su, .int 0, .ref tr])), (ro, .inl (cR, 6, .inr (.inr (.inr (.inr (fun _ => none))))))] sz)) (vx_X (fun _ : Unit => True) (fun (E : String) (_ : Unit) (_ : State) => (E = "java/lang/IndexOutOfBoundsException")) (va_A [(h, .inr (1, [.ref ro, .int 0, .ref ba, .ref ra, .ref su, .int 0, .ref tr])), (ro, .inl (cR, 6, .inr (.inr (.inr (.inr (fun _ => none))))))] sz)) 1 6 (va_A [(h, .inr (1, [.ref ro, .int 0, .ref ba, .ref ra, .ref su, .int 0, .ref tr])), (ro, .inl (cR, 6, .inr (.inr (.inr (.inr (fun _ => none))))))] sz) := by
  refine vx_ofW (cc := cX1_lay) (maxL := 8) (ret := (some .int)) (by decide) rfl ?_
  intro p e s m args below meth c s₁ B hml hnt hv
  obtain ⟨rfl, hsz, hP, hK, hD0, hZX, hZT⟩ := hv
  have hx := B.exec
  have hb := B.bytes
  have hr := B.returns
  have hts := atoms_spec (ws := wsX1_lay) B.pre
  have hown : s.vm.findClass RX1 = some m.cls := findClass_of_methodNamed B.named
  have hlocks := B.notSynchronized
  subst hsz
  have hD := hD0.self (sz := s.heap.size)
  generalize hAe : va_A [(h, .inr (1, [.ref ro, .int 0, .ref ba, .ref ra, .ref su, .int 0, .ref tr])), (ro, .inl (cR, 6, .inr (.inr (.inr (.inr (fun _ => none))))))] s.heap.size = A at hD hZT ⊢
  have hA : ∀ q : Nat, s.heap.size ≤ q → A q := fun q h => by rw [← hAe]; exact Or.inr h
  have hS : va_S A s.heap s.heap [] := va_S.rf
  have hP : va_P (dC, dI) vwCl [(h, .inr (1, [.ref ro, .int 0, .ref ba, .ref ra, .ref su, .int 0, .ref tr])), (ro, .inl (cR, 6, .inr (.inr (.inr (.inr (fun _ => none))))))] s.heap := hP
  have hl := lv_entry ([.ref h, .int a1, .int a2, .int a3, .int a4, .int a5, .int a6]) (n := 8) (Nat.le_of_ble_eq_true rfl)
  rw [lg_entry_eq]
  generalize (lg_sl ([.ref h, .int a1, .int a2, .int a3, .int a4, .int a5, .int a6]) ++ List.replicate (8 - (lg_sl ([.ref h, .int a1, .int a2, .int a3, .int a4, .int a5, .int a6])).length) Slot.unset).toArray = ls at hl ⊢
  have hl : lv_has ls 8 [(0, .ref h), (1, .int a1), (2, .int a2), (3, .int a3), (4, .int a4), (5, .int a5), (6, .int a6)] := hl
  refine lv_aload_n hx hb dX1_lay_0 rfl (lv_at hl 0 rfl) ?_
  refine lv_iload_n hx hb dX1_lay_1 rfl (lv_at hl 1 rfl) ?_
  have hPc := hP.sub (ws' := [(h, .inr (1, [.ref ro, .int 0, .ref ba, .ref ra, .ref su, .int 0, .ref tr])), (ro, .inl (cR, 6, .inr (.inr (.inr (.inr (fun _ => none))))))]) [0, 1] rfl
  have hKc := hK.sub (tys' := [(cR, .object RX0)]) [0] rfl
  refine va_csq (va_runV (As := [.int a1]) (rest := []) ⟨hx, hb, hml, hown, hts⟩ (k1_roofAt0 l dC dI h ro ba ra su tr cR a1 ) (cwV 1 hts gX1_lay_X1_roofAt rfl rfl rfl (by decide +kernel) ⟨Nat.le_of_ble_eq_true rfl, Nat.le_of_ble_eq_true rfl⟩) ⟨fun a U g mk q => by obtain ⟨q0, qP, qK⟩ := q; exact ⟨q0, qP, va_K.moved (u := U) (U := U.calling g mk a) (Vm.Alike.refl U.vm) qK⟩, va_recv hKc hPc (ci := 1) (q0 := 0) rfl rfl, fun U hU hW => ⟨rfl, by rw [hU]; exact hPc, va_K.moved hW.alike hKc⟩⟩ rfl rfl hl.1 rfl (lv_room (Nat.le_of_ble_eq_true rfl)) dX1_lay_2 ⟨Nat.le_of_ble_eq_true rfl, Nat.le_of_ble_eq_true rfl⟩).run (fun r1 hr1 => ?_)
  obtain rfl := hr1
  refine W.eq (g2 := F0 m 5 ls [.null]) rfl ?_
  refine lv_astoreN (lv' := [(7, .null), (0, .ref h), (1, .int a1), (2, .int a2), (3, .int a3), (4, .int a4), (5, .int a5), (6, .int a6)]) hx hb dX1_lay_5 hl (by decide) rfl (fun ls hl => ?_)
  refine lv_aloadN hx hb dX1_lay_7 (lv_at hl 0 rfl) ?_
  refine lv_ifnullN (tgt := 30) hx hb dX1_lay_9 (by decide) ?_
  obtain ⟨sa, hstr⟩ := zX_str_RX1_77 hZX
  exact vx_throwS (A := A) (names := ["java/lang/RuntimeException", "java/lang/Exception"]) (cls := "java/lang/IndexOutOfBoundsException") (sa := sa) hx hb hst hown (by decide +kernel) (by decide +kernel) (hts (.classLink RX1 56 "java/lang/IndexOutOfBoundsException") (by decide +kernel)) (hts (.initialized "java/lang/IndexOutOfBoundsException") (by decide +kernel)) hstr (vx_hat (fun w hw => hts w (by unfold wsX1_lay; first | exact List.mem_cons_of_mem _ (List.mem_append_right _ hw) | exact List.mem_cons_of_mem _ (List.mem_append_left _ (List.mem_append_right _ hw)) | exact List.mem_cons_of_mem _ (List.mem_append_left _ (List.mem_append_left _ (List.mem_append_right _ hw))))) zAt_X1_60 (vx_c (va_Nw.use rfl (zX_cB hZX)) (vx_c (va_Nw.use rfl (zX_d0 hZX)) (vx_c (va_Nw.use rfl (zX_d1 hZX)) (vx_c (va_Nw.use rfl (zX_d2 hZX)) vx_n))))) (zGo_X1_60 56) hZT.1 hZT.2 hS (hl.1.trans hml.symm) dX1_lay_30 dX1_lay_33 dX1_lay_34 dX1_lay_36 dX1_lay_39 (fun x hx => (hnt x hx).elim) (Nat.le_of_ble_eq_true rfl) (Nat.le_of_ble_eq_true rfl) (Nat.le_of_ble_eq_true rfl) (Nat.le_of_ble_eq_true rfl) hlocks (fun t h1 h2 h3 => ⟨(), trivial, by first | (rfl; done), ⟨Nat.le_trans hS.1 h2, fun q hq hn => (h3 q (Nat.lt_of_lt_of_le hq hS.1)).trans (hS.2.1 q hq hn)⟩⟩) hS.2.2 (Nat.le_of_ble_eq_true rfl) (Nat.le_of_ble_eq_true rfl)

set_option maxHeartbeats 4000000 in
set_option maxRecDepth 100000 in
theorem k1_layCourse (l : Launch) (hst : l.stackTraces = false) (dC : Nat → ClassId) (dI : Nat → Nat → Nat) (sz : Nat) (h : Nat) (ro : Nat) (ba : Nat) (ra : Nat) (su : Nat) (tr : Nat) (cR : ClassId) (a1 : Int32) (a2 : Int32) (a3 : Int32) (a4 : Int32) (a5 : Int32) : vx_Met l yX1_layCourse wsX1_layCourse ({ frames := 6, cells := 1, slots := 6, locals := 82 }) (va_Pc [.ref h, .int a1, .int a2, .int a3, .int a4, .int a5] (fun U => U.heap.size = sz ∧ va_P (dC, dI) vwCl [(h, .inr (1, [.ref ro, .int 0, .ref ba, .ref ra, .ref su, .int 0, .ref tr])), (ro, .inl (cR, 6, .inr (.inr (.inr (.inr (fun _ => none))))))] U.heap ∧ va_K (dC, dI) vwCl [(cR, .object RX0)] U ∧ va_D (fun _ => True) [(h, .inr (1, [.ref ro, .int 0, .ref ba, .ref ra, .ref su, .int 0, .ref tr])), (ro, .inl (cR, 6, .inr (.inr (.inr (.inr (fun _ => none))))))] ∧ zX U ∧ zTh (va_A [(h, .inr (1, [.ref ro, .int 0, .ref ba, .ref ra, .ref su, .int 0, .ref tr])), (ro, .inl (cR, 6, .inr (.inr (.inr (.inr (fun _ => none))))))] sz) U U.heap)) (va_Qi (fun (r : Int32) (u : Unit) => False) (fun (u : Unit) (t : State) => va_P (dC, dI) vwCl [] t.heap ∧ va_K (dC, dI) vwCl [] t ∧ va_D (va_A [(h, .inr (1, [.ref ro, .int 0, .ref ba, .ref ra, .ref su, .int 0, .ref tr])), (ro, .inl (cR, 6, .inr (.inr (.inr (.inr (fun _ => none))))))] sz) []) (va_A [(h, .inr (1, [.ref ro, .int 0, .ref ba, .ref ra, .ref su, .int 0, .ref tr])), (ro, .inl (cR, 6, .inr (.inr (.inr (.inr (fun _ => none))))))] sz)) (vx_X (fun _ : Unit => True) (fun (E : String) (_ : Unit) (_ : State) => (E = "java/lang/IndexOutOfBoundsException")) (va_A [(h, .inr (1, [.ref ro, .int 0, .ref ba, .ref ra, .ref su, .int 0, .ref tr])), (ro, .inl (cR, 6, .inr (.inr (.inr (.inr (fun _ => none))))))] sz)) 1 6 (va_A [(h, .inr (1, [.ref ro, .int 0, .ref ba, .ref ra, .ref su, .int 0, .ref tr])), (ro, .inl (cR, 6, .inr (.inr (.inr (.inr (fun _ => none))))))] sz) := by
  refine vx_ofW (cc := cX1_layCourse) (maxL := 9) (ret := (some .int)) (by decide) rfl ?_
  intro p e s m args below meth c s₁ B hml hnt hv
  obtain ⟨rfl, hsz, hP, hK, hD0, hZX, hZT⟩ := hv
  have hx := B.exec
  have hb := B.bytes
  have hr := B.returns
  have hts := atoms_spec (ws := wsX1_layCourse) B.pre
  have hown : s.vm.findClass RX1 = some m.cls := findClass_of_methodNamed B.named
  have hlocks := B.notSynchronized
  subst hsz
  have hD := hD0.self (sz := s.heap.size)
  generalize hAe : va_A [(h, .inr (1, [.ref ro, .int 0, .ref ba, .ref ra, .ref su, .int 0, .ref tr])), (ro, .inl (cR, 6, .inr (.inr (.inr (.inr (fun _ => none))))))] s.heap.size = A at hD hZT ⊢
  have hA : ∀ q : Nat, s.heap.size ≤ q → A q := fun q h => by rw [← hAe]; exact Or.inr h
  have hS : va_S A s.heap s.heap [] := va_S.rf
  have hP : va_P (dC, dI) vwCl [(h, .inr (1, [.ref ro, .int 0, .ref ba, .ref ra, .ref su, .int 0, .ref tr])), (ro, .inl (cR, 6, .inr (.inr (.inr (.inr (fun _ => none))))))] s.heap := hP
  have hl := lv_entry ([.ref h, .int a1, .int a2, .int a3, .int a4, .int a5]) (n := 9) (Nat.le_of_ble_eq_true rfl)
  rw [lg_entry_eq]
  generalize (lg_sl ([.ref h, .int a1, .int a2, .int a3, .int a4, .int a5]) ++ List.replicate (9 - (lg_sl ([.ref h, .int a1, .int a2, .int a3, .int a4, .int a5])).length) Slot.unset).toArray = ls at hl ⊢
  have hl : lv_has ls 9 [(0, .ref h), (1, .int a1), (2, .int a2), (3, .int a3), (4, .int a4), (5, .int a5)] := hl
  refine lv_aload_n hx hb dX1_layCourse_0 rfl (lv_at hl 0 rfl) ?_
  refine lv_iload_n hx hb dX1_layCourse_1 rfl (lv_at hl 1 rfl) ?_
  have hPc := hP.sub (ws' := [(h, .inr (1, [.ref ro, .int 0, .ref ba, .ref ra, .ref su, .int 0, .ref tr])), (ro, .inl (cR, 6, .inr (.inr (.inr (.inr (fun _ => none))))))]) [0, 1] rfl
  have hKc := hK.sub (tys' := [(cR, .object RX0)]) [0] rfl
  refine va_csq (va_runV (As := [.int a1]) (rest := []) ⟨hx, hb, hml, hown, hts⟩ (k1_roofAt0 l dC dI h ro ba ra su tr cR a1 ) (cwV 1 hts gX1_layCourse_X1_roofAt rfl rfl rfl (by decide +kernel) ⟨Nat.le_of_ble_eq_true rfl, Nat.le_of_ble_eq_true rfl⟩) ⟨fun a U g mk q => by obtain ⟨q0, qP, qK⟩ := q; exact ⟨q0, qP, va_K.moved (u := U) (U := U.calling g mk a) (Vm.Alike.refl U.vm) qK⟩, va_recv hKc hPc (ci := 1) (q0 := 0) rfl rfl, fun U hU hW => ⟨rfl, by rw [hU]; exact hPc, va_K.moved hW.alike hKc⟩⟩ rfl rfl hl.1 rfl (lv_room (Nat.le_of_ble_eq_true rfl)) dX1_layCourse_2 ⟨Nat.le_of_ble_eq_true rfl, Nat.le_of_ble_eq_true rfl⟩).run (fun r1 hr1 => ?_)
  obtain rfl := hr1
  refine W.eq (g2 := F0 m 5 ls [.null]) rfl ?_
  refine lv_astoreN (lv' := [(6, .null), (0, .ref h), (1, .int a1), (2, .int a2), (3, .int a3), (4, .int a4), (5, .int a5)]) hx hb dX1_layCourse_5 hl (by decide) rfl (fun ls hl => ?_)
  refine lv_aloadN hx hb dX1_layCourse_7 (lv_at hl 0 rfl) ?_
  refine lv_ifnullN (tgt := 28) hx hb dX1_layCourse_9 (by decide) ?_
  obtain ⟨sa, hstr⟩ := zX_str_RX1_100 hZX
  exact vx_throwS (A := A) (names := ["java/lang/RuntimeException", "java/lang/Exception"]) (cls := "java/lang/IndexOutOfBoundsException") (sa := sa) hx hb hst hown (by decide +kernel) (by decide +kernel) (hts (.classLink RX1 56 "java/lang/IndexOutOfBoundsException") (by decide +kernel)) (hts (.initialized "java/lang/IndexOutOfBoundsException") (by decide +kernel)) hstr (vx_hat (fun w hw => hts w (by unfold wsX1_layCourse; first | exact List.mem_cons_of_mem _ (List.mem_append_right _ hw) | exact List.mem_cons_of_mem _ (List.mem_append_left _ (List.mem_append_right _ hw)) | exact List.mem_cons_of_mem _ (List.mem_append_left _ (List.mem_append_left _ (List.mem_append_right _ hw))))) zAt_X1_60 (vx_c (va_Nw.use rfl (zX_cB hZX)) (vx_c (va_Nw.use rfl (zX_d0 hZX)) (vx_c (va_Nw.use rfl (zX_d1 hZX)) (vx_c (va_Nw.use rfl (zX_d2 hZX)) vx_n))))) (zGo_X1_60 56) hZT.1 hZT.2 hS (hl.1.trans hml.symm) dX1_layCourse_28 dX1_layCourse_31 dX1_layCourse_32 dX1_layCourse_34 dX1_layCourse_37 (fun x hx => (hnt x hx).elim) (Nat.le_of_ble_eq_true rfl) (Nat.le_of_ble_eq_true rfl) (Nat.le_of_ble_eq_true rfl) (Nat.le_of_ble_eq_true rfl) hlocks (fun t h1 h2 h3 => ⟨(), trivial, by first | (rfl; done), ⟨Nat.le_trans hS.1 h2, fun q hq hn => (h3 q (Nat.lt_of_lt_of_le hq hS.1)).trans (hS.2.1 q hq hn)⟩⟩) hS.2.2 (Nat.le_of_ble_eq_true rfl) (Nat.le_of_ble_eq_true rfl)

set_option maxHeartbeats 4000000 in
set_option maxRecDepth 100000 in
theorem k1_mend (l : Launch) (hst : l.stackTraces = false) (dC : Nat → ClassId) (dI : Nat → Nat → Nat) (sz : Nat) (h : Nat) (ro : Nat) (ba : Nat) (ra : Nat) (su : Nat) (tr : Nat) (cR : ClassId) (a1 : Int32) (a2 : Int32) (a3 : Int32) : vx_Met l yX1_mend wsX1_mend ({ frames := 6, cells := 1, slots := 6, locals := 82 }) (va_Pc [.ref h, .int a1, .int a2, .int a3] (fun U => U.heap.size = sz ∧ va_P (dC, dI) vwCl [(h, .inr (1, [.ref ro, .int 0, .ref ba, .ref ra, .ref su, .int 0, .ref tr])), (ro, .inl (cR, 6, .inr (.inr (.inr (.inr (fun _ => none))))))] U.heap ∧ va_K (dC, dI) vwCl [(cR, .object RX0)] U ∧ va_D (fun _ => True) [(h, .inr (1, [.ref ro, .int 0, .ref ba, .ref ra, .ref su, .int 0, .ref tr])), (ro, .inl (cR, 6, .inr (.inr (.inr (.inr (fun _ => none))))))] ∧ zX U ∧ zTh (va_A [(h, .inr (1, [.ref ro, .int 0, .ref ba, .ref ra, .ref su, .int 0, .ref tr])), (ro, .inl (cR, 6, .inr (.inr (.inr (.inr (fun _ => none))))))] sz) U U.heap)) (va_Qi (fun (r : Int32) (u : Unit) => False) (fun (u : Unit) (t : State) => va_P (dC, dI) vwCl [] t.heap ∧ va_K (dC, dI) vwCl [] t ∧ va_D (va_A [(h, .inr (1, [.ref ro, .int 0, .ref ba, .ref ra, .ref su, .int 0, .ref tr])), (ro, .inl (cR, 6, .inr (.inr (.inr (.inr (fun _ => none))))))] sz) []) (va_A [(h, .inr (1, [.ref ro, .int 0, .ref ba, .ref ra, .ref su, .int 0, .ref tr])), (ro, .inl (cR, 6, .inr (.inr (.inr (.inr (fun _ => none))))))] sz)) (vx_X (fun _ : Unit => True) (fun (E : String) (_ : Unit) (_ : State) => (E = "java/lang/IndexOutOfBoundsException")) (va_A [(h, .inr (1, [.ref ro, .int 0, .ref ba, .ref ra, .ref su, .int 0, .ref tr])), (ro, .inl (cR, 6, .inr (.inr (.inr (.inr (fun _ => none))))))] sz)) 1 6 (va_A [(h, .inr (1, [.ref ro, .int 0, .ref ba, .ref ra, .ref su, .int 0, .ref tr])), (ro, .inl (cR, 6, .inr (.inr (.inr (.inr (fun _ => none))))))] sz) := by
  refine vx_ofW (cc := cX1_mend) (maxL := 6) (ret := (some .int)) (by decide) rfl ?_
  intro p e s m args below meth c s₁ B hml hnt hv
  obtain ⟨rfl, hsz, hP, hK, hD0, hZX, hZT⟩ := hv
  have hx := B.exec
  have hb := B.bytes
  have hr := B.returns
  have hts := atoms_spec (ws := wsX1_mend) B.pre
  have hown : s.vm.findClass RX1 = some m.cls := findClass_of_methodNamed B.named
  have hlocks := B.notSynchronized
  subst hsz
  have hD := hD0.self (sz := s.heap.size)
  generalize hAe : va_A [(h, .inr (1, [.ref ro, .int 0, .ref ba, .ref ra, .ref su, .int 0, .ref tr])), (ro, .inl (cR, 6, .inr (.inr (.inr (.inr (fun _ => none))))))] s.heap.size = A at hD hZT ⊢
  have hA : ∀ q : Nat, s.heap.size ≤ q → A q := fun q h => by rw [← hAe]; exact Or.inr h
  have hS : va_S A s.heap s.heap [] := va_S.rf
  have hP : va_P (dC, dI) vwCl [(h, .inr (1, [.ref ro, .int 0, .ref ba, .ref ra, .ref su, .int 0, .ref tr])), (ro, .inl (cR, 6, .inr (.inr (.inr (.inr (fun _ => none))))))] s.heap := hP
  have hl := lv_entry ([.ref h, .int a1, .int a2, .int a3]) (n := 6) (Nat.le_of_ble_eq_true rfl)
  rw [lg_entry_eq]
  generalize (lg_sl ([.ref h, .int a1, .int a2, .int a3]) ++ List.replicate (6 - (lg_sl ([.ref h, .int a1, .int a2, .int a3])).length) Slot.unset).toArray = ls at hl ⊢
  have hl : lv_has ls 6 [(0, .ref h), (1, .int a1), (2, .int a2), (3, .int a3)] := hl
  refine lv_aload_n hx hb dX1_mend_0 rfl (lv_at hl 0 rfl) ?_
  refine lv_iload_n hx hb dX1_mend_1 rfl (lv_at hl 1 rfl) ?_
  have hPc := hP.sub (ws' := [(h, .inr (1, [.ref ro, .int 0, .ref ba, .ref ra, .ref su, .int 0, .ref tr])), (ro, .inl (cR, 6, .inr (.inr (.inr (.inr (fun _ => none))))))]) [0, 1] rfl
  have hKc := hK.sub (tys' := [(cR, .object RX0)]) [0] rfl
  refine va_csq (va_runV (As := [.int a1]) (rest := []) ⟨hx, hb, hml, hown, hts⟩ (k1_roofAt0 l dC dI h ro ba ra su tr cR a1 ) (cwV 1 hts gX1_mend_X1_roofAt rfl rfl rfl (by decide +kernel) ⟨Nat.le_of_ble_eq_true rfl, Nat.le_of_ble_eq_true rfl⟩) ⟨fun a U g mk q => by obtain ⟨q0, qP, qK⟩ := q; exact ⟨q0, qP, va_K.moved (u := U) (U := U.calling g mk a) (Vm.Alike.refl U.vm) qK⟩, va_recv hKc hPc (ci := 1) (q0 := 0) rfl rfl, fun U hU hW => ⟨rfl, by rw [hU]; exact hPc, va_K.moved hW.alike hKc⟩⟩ rfl rfl hl.1 rfl (lv_room (Nat.le_of_ble_eq_true rfl)) dX1_mend_2 ⟨Nat.le_of_ble_eq_true rfl, Nat.le_of_ble_eq_true rfl⟩).run (fun r1 hr1 => ?_)
  obtain rfl := hr1
  refine W.eq (g2 := F0 m 5 ls [.null]) rfl ?_
  refine lv_astoreN (lv' := [(4, .null), (0, .ref h), (1, .int a1), (2, .int a2), (3, .int a3)]) hx hb dX1_mend_5 hl (by decide) rfl (fun ls hl => ?_)
  refine lv_aloadN hx hb dX1_mend_7 (lv_at hl 0 rfl) ?_
  refine lv_ifnullN (tgt := 22) hx hb dX1_mend_9 (by decide) ?_
  obtain ⟨sa, hstr⟩ := zX_str_RX1_106 hZX
  exact vx_throwS (A := A) (names := ["java/lang/RuntimeException", "java/lang/Exception"]) (cls := "java/lang/IndexOutOfBoundsException") (sa := sa) hx hb hst hown (by decide +kernel) (by decide +kernel) (hts (.classLink RX1 56 "java/lang/IndexOutOfBoundsException") (by decide +kernel)) (hts (.initialized "java/lang/IndexOutOfBoundsException") (by decide +kernel)) hstr (vx_hat (fun w hw => hts w (by unfold wsX1_mend; first | exact List.mem_cons_of_mem _ (List.mem_append_right _ hw) | exact List.mem_cons_of_mem _ (List.mem_append_left _ (List.mem_append_right _ hw)) | exact List.mem_cons_of_mem _ (List.mem_append_left _ (List.mem_append_left _ (List.mem_append_right _ hw))))) zAt_X1_60 (vx_c (va_Nw.use rfl (zX_cB hZX)) (vx_c (va_Nw.use rfl (zX_d0 hZX)) (vx_c (va_Nw.use rfl (zX_d1 hZX)) (vx_c (va_Nw.use rfl (zX_d2 hZX)) vx_n))))) (zGo_X1_60 56) hZT.1 hZT.2 hS (hl.1.trans hml.symm) dX1_mend_22 dX1_mend_25 dX1_mend_26 dX1_mend_28 dX1_mend_31 (fun x hx => (hnt x hx).elim) (Nat.le_of_ble_eq_true rfl) (Nat.le_of_ble_eq_true rfl) (Nat.le_of_ble_eq_true rfl) (Nat.le_of_ble_eq_true rfl) hlocks (fun t h1 h2 h3 => ⟨(), trivial, by first | (rfl; done), ⟨Nat.le_trans hS.1 h2, fun q hq hn => (h3 q (Nat.lt_of_lt_of_le hq hS.1)).trans (hS.2.1 q hq hn)⟩⟩) hS.2.2 (Nat.le_of_ble_eq_true rfl) (Nat.le_of_ble_eq_true rfl)

set_option maxHeartbeats 4000000 in
set_option maxRecDepth 100000 in
theorem k1_bind (l : Launch) (hst : l.stackTraces = false) (dC : Nat → ClassId) (dI : Nat → Nat → Nat) (sz : Nat) (h : Nat) (ro : Nat) (ba : Nat) (ra : Nat) (su : Nat) (tr : Nat) (cR : ClassId) (a1 : Int32) : vx_Met l yX1_bind wsX1_bind ({ frames := 6, cells := 1, slots := 6, locals := 82 }) (va_Pc [.ref h, .int a1] (fun U => U.heap.size = sz ∧ va_P (dC, dI) vwCl [(h, .inr (1, [.ref ro, .int 0, .ref ba, .ref ra, .ref su, .int 0, .ref tr])), (ro, .inl (cR, 6, .inr (.inr (.inr (.inr (fun _ => none))))))] U.heap ∧ va_K (dC, dI) vwCl [(cR, .object RX0)] U ∧ va_D (fun _ => True) [(h, .inr (1, [.ref ro, .int 0, .ref ba, .ref ra, .ref su, .int 0, .ref tr])), (ro, .inl (cR, 6, .inr (.inr (.inr (.inr (fun _ => none))))))] ∧ zX U ∧ zTh (va_A [(h, .inr (1, [.ref ro, .int 0, .ref ba, .ref ra, .ref su, .int 0, .ref tr])), (ro, .inl (cR, 6, .inr (.inr (.inr (.inr (fun _ => none))))))] sz) U U.heap)) (va_Qi (fun (r : Int32) (u : Unit) => False) (fun (u : Unit) (t : State) => va_P (dC, dI) vwCl [] t.heap ∧ va_K (dC, dI) vwCl [] t ∧ va_D (va_A [(h, .inr (1, [.ref ro, .int 0, .ref ba, .ref ra, .ref su, .int 0, .ref tr])), (ro, .inl (cR, 6, .inr (.inr (.inr (.inr (fun _ => none))))))] sz) []) (va_A [(h, .inr (1, [.ref ro, .int 0, .ref ba, .ref ra, .ref su, .int 0, .ref tr])), (ro, .inl (cR, 6, .inr (.inr (.inr (.inr (fun _ => none))))))] sz)) (vx_X (fun _ : Unit => True) (fun (E : String) (_ : Unit) (_ : State) => (E = "java/lang/IndexOutOfBoundsException")) (va_A [(h, .inr (1, [.ref ro, .int 0, .ref ba, .ref ra, .ref su, .int 0, .ref tr])), (ro, .inl (cR, 6, .inr (.inr (.inr (.inr (fun _ => none))))))] sz)) 1 6 (va_A [(h, .inr (1, [.ref ro, .int 0, .ref ba, .ref ra, .ref su, .int 0, .ref tr])), (ro, .inl (cR, 6, .inr (.inr (.inr (.inr (fun _ => none))))))] sz) := by
  refine vx_ofW (cc := cX1_bind) (maxL := 3) (ret := (some .int)) (by decide) rfl ?_
  intro p e s m args below meth c s₁ B hml hnt hv
  obtain ⟨rfl, hsz, hP, hK, hD0, hZX, hZT⟩ := hv
  have hx := B.exec
  have hb := B.bytes
  have hr := B.returns
  have hts := atoms_spec (ws := wsX1_bind) B.pre
  have hown : s.vm.findClass RX1 = some m.cls := findClass_of_methodNamed B.named
  have hlocks := B.notSynchronized
  subst hsz
  have hD := hD0.self (sz := s.heap.size)
  generalize hAe : va_A [(h, .inr (1, [.ref ro, .int 0, .ref ba, .ref ra, .ref su, .int 0, .ref tr])), (ro, .inl (cR, 6, .inr (.inr (.inr (.inr (fun _ => none))))))] s.heap.size = A at hD hZT ⊢
  have hA : ∀ q : Nat, s.heap.size ≤ q → A q := fun q h => by rw [← hAe]; exact Or.inr h
  have hS : va_S A s.heap s.heap [] := va_S.rf
  have hP : va_P (dC, dI) vwCl [(h, .inr (1, [.ref ro, .int 0, .ref ba, .ref ra, .ref su, .int 0, .ref tr])), (ro, .inl (cR, 6, .inr (.inr (.inr (.inr (fun _ => none))))))] s.heap := hP
  have hl := lv_entry ([.ref h, .int a1]) (n := 3) (Nat.le_of_ble_eq_true rfl)
  rw [lg_entry_eq]
  generalize (lg_sl ([.ref h, .int a1]) ++ List.replicate (3 - (lg_sl ([.ref h, .int a1])).length) Slot.unset).toArray = ls at hl ⊢
  have hl : lv_has ls 3 [(0, .ref h), (1, .int a1)] := hl
  refine lv_aload_n hx hb dX1_bind_0 rfl (lv_at hl 0 rfl) ?_
  refine lv_iload_n hx hb dX1_bind_1 rfl (lv_at hl 1 rfl) ?_
  have hPc := hP.sub (ws' := [(h, .inr (1, [.ref ro, .int 0, .ref ba, .ref ra, .ref su, .int 0, .ref tr])), (ro, .inl (cR, 6, .inr (.inr (.inr (.inr (fun _ => none))))))]) [0, 1] rfl
  have hKc := hK.sub (tys' := [(cR, .object RX0)]) [0] rfl
  refine va_csq (va_runV (As := [.int a1]) (rest := []) ⟨hx, hb, hml, hown, hts⟩ (k1_roofAt0 l dC dI h ro ba ra su tr cR a1 ) (cwV 1 hts gX1_bind_X1_roofAt rfl rfl rfl (by decide +kernel) ⟨Nat.le_of_ble_eq_true rfl, Nat.le_of_ble_eq_true rfl⟩) ⟨fun a U g mk q => by obtain ⟨q0, qP, qK⟩ := q; exact ⟨q0, qP, va_K.moved (u := U) (U := U.calling g mk a) (Vm.Alike.refl U.vm) qK⟩, va_recv hKc hPc (ci := 1) (q0 := 0) rfl rfl, fun U hU hW => ⟨rfl, by rw [hU]; exact hPc, va_K.moved hW.alike hKc⟩⟩ rfl rfl hl.1 rfl (lv_room (Nat.le_of_ble_eq_true rfl)) dX1_bind_2 ⟨Nat.le_of_ble_eq_true rfl, Nat.le_of_ble_eq_true rfl⟩).run (fun r1 hr1 => ?_)
  obtain rfl := hr1
  refine W.eq (g2 := F0 m 5 ls [.null]) rfl ?_
  refine lv_astore_nN (lv' := [(2, .null), (0, .ref h), (1, .int a1)]) hx hb dX1_bind_5 rfl hl (by decide) rfl (fun ls hl => ?_)
  refine lv_aload_nN hx hb dX1_bind_6 rfl (lv_at hl 0 rfl) ?_
  refine lv_ifnonnullN hx hb dX1_bind_7 ?_
  obtain ⟨sa, hstr⟩ := zX_str_RX1_121 hZX
  exact vx_throwS (A := A) (names := ["java/lang/RuntimeException", "java/lang/Exception"]) (cls := "java/lang/IndexOutOfBoundsException") (sa := sa) hx hb hst hown (by decide +kernel) (by decide +kernel) (hts (.classLink RX1 56 "java/lang/IndexOutOfBoundsException") (by decide +kernel)) (hts (.initialized "java/lang/IndexOutOfBoundsException") (by decide +kernel)) hstr (vx_hat (fun w hw => hts w (by unfold wsX1_bind; first | exact List.mem_cons_of_mem _ (List.mem_append_right _ hw) | exact List.mem_cons_of_mem _ (List.mem_append_left _ (List.mem_append_right _ hw)) | exact List.mem_cons_of_mem _ (List.mem_append_left _ (List.mem_append_left _ (List.mem_append_right _ hw))))) zAt_X1_60 (vx_c (va_Nw.use rfl (zX_cB hZX)) (vx_c (va_Nw.use rfl (zX_d0 hZX)) (vx_c (va_Nw.use rfl (zX_d1 hZX)) (vx_c (va_Nw.use rfl (zX_d2 hZX)) vx_n))))) (zGo_X1_60 56) hZT.1 hZT.2 hS (hl.1.trans hml.symm) dX1_bind_10 dX1_bind_13 dX1_bind_14 dX1_bind_16 dX1_bind_19 (fun x hx => (hnt x hx).elim) (Nat.le_of_ble_eq_true rfl) (Nat.le_of_ble_eq_true rfl) (Nat.le_of_ble_eq_true rfl) (Nat.le_of_ble_eq_true rfl) hlocks (fun t h1 h2 h3 => ⟨(), trivial, by first | (rfl; done), ⟨Nat.le_trans hS.1 h2, fun q hq hn => (h3 q (Nat.lt_of_lt_of_le hq hS.1)).trans (hS.2.1 q hq hn)⟩⟩) hS.2.2 (Nat.le_of_ble_eq_true rfl) (Nat.le_of_ble_eq_true rfl)

set_option maxHeartbeats 4000000 in
set_option maxRecDepth 100000 in
theorem k1_yealm (l : Launch) (hst : l.stackTraces = false) (dC : Nat → ClassId) (dI : Nat → Nat → Nat) (sz : Nat) (h : Nat) (ro : Nat) (ba : Nat) (ra : Nat) (su : Nat) (tr : Nat) (cR : ClassId) (a1 : Int32) (a2 : Int32) (a3 : Int32) (a4 : Int32) : vx_Met l yX1_yealm wsX1_yealm ({ frames := 6, cells := 1, slots := 6, locals := 82 }) (va_Pc [.ref h, .int a1, .int a2, .int a3, .int a4] (fun U => U.heap.size = sz ∧ va_P (dC, dI) vwCl [(h, .inr (1, [.ref ro, .int 0, .ref ba, .ref ra, .ref su, .int 0, .ref tr])), (ro, .inl (cR, 6, .inr (.inr (.inr (.inr (fun _ => none))))))] U.heap ∧ va_K (dC, dI) vwCl [(cR, .object RX0)] U ∧ va_D (fun _ => True) [(h, .inr (1, [.ref ro, .int 0, .ref ba, .ref ra, .ref su, .int 0, .ref tr])), (ro, .inl (cR, 6, .inr (.inr (.inr (.inr (fun _ => none))))))] ∧ zX U ∧ zTh (va_A [(h, .inr (1, [.ref ro, .int 0, .ref ba, .ref ra, .ref su, .int 0, .ref tr])), (ro, .inl (cR, 6, .inr (.inr (.inr (.inr (fun _ => none))))))] sz) U U.heap)) (va_Qi (fun (r : Int32) (u : Unit) => False) (fun (u : Unit) (t : State) => va_P (dC, dI) vwCl [] t.heap ∧ va_K (dC, dI) vwCl [] t ∧ va_D (va_A [(h, .inr (1, [.ref ro, .int 0, .ref ba, .ref ra, .ref su, .int 0, .ref tr])), (ro, .inl (cR, 6, .inr (.inr (.inr (.inr (fun _ => none))))))] sz) []) (va_A [(h, .inr (1, [.ref ro, .int 0, .ref ba, .ref ra, .ref su, .int 0, .ref tr])), (ro, .inl (cR, 6, .inr (.inr (.inr (.inr (fun _ => none))))))] sz)) (vx_X (fun _ : Unit => True) (fun (E : String) (_ : Unit) (_ : State) => (E = "java/lang/IndexOutOfBoundsException")) (va_A [(h, .inr (1, [.ref ro, .int 0, .ref ba, .ref ra, .ref su, .int 0, .ref tr])), (ro, .inl (cR, 6, .inr (.inr (.inr (.inr (fun _ => none))))))] sz)) 1 6 (va_A [(h, .inr (1, [.ref ro, .int 0, .ref ba, .ref ra, .ref su, .int 0, .ref tr])), (ro, .inl (cR, 6, .inr (.inr (.inr (.inr (fun _ => none))))))] sz) := by
  refine vx_ofW (cc := cX1_yealm) (maxL := 6) (ret := (some .int)) (by decide) rfl ?_
  intro p e s m args below meth c s₁ B hml hnt hv
  obtain ⟨rfl, hsz, hP, hK, hD0, hZX, hZT⟩ := hv
  have hx := B.exec
  have hb := B.bytes
  have hr := B.returns
  have hts := atoms_spec (ws := wsX1_yealm) B.pre
  have hown : s.vm.findClass RX1 = some m.cls := findClass_of_methodNamed B.named
  have hlocks := B.notSynchronized
  subst hsz
  have hD := hD0.self (sz := s.heap.size)
  generalize hAe : va_A [(h, .inr (1, [.ref ro, .int 0, .ref ba, .ref ra, .ref su, .int 0, .ref tr])), (ro, .inl (cR, 6, .inr (.inr (.inr (.inr (fun _ => none))))))] s.heap.size = A at hD hZT ⊢
  have hA : ∀ q : Nat, s.heap.size ≤ q → A q := fun q h => by rw [← hAe]; exact Or.inr h
  have hS : va_S A s.heap s.heap [] := va_S.rf
  have hP : va_P (dC, dI) vwCl [(h, .inr (1, [.ref ro, .int 0, .ref ba, .ref ra, .ref su, .int 0, .ref tr])), (ro, .inl (cR, 6, .inr (.inr (.inr (.inr (fun _ => none))))))] s.heap := hP
  have hl := lv_entry ([.ref h, .int a1, .int a2, .int a3, .int a4]) (n := 6) (Nat.le_of_ble_eq_true rfl)
  rw [lg_entry_eq]
  generalize (lg_sl ([.ref h, .int a1, .int a2, .int a3, .int a4]) ++ List.replicate (6 - (lg_sl ([.ref h, .int a1, .int a2, .int a3, .int a4])).length) Slot.unset).toArray = ls at hl ⊢
  have hl : lv_has ls 6 [(0, .ref h), (1, .int a1), (2, .int a2), (3, .int a3), (4, .int a4)] := hl
  refine lv_aload_n hx hb dX1_yealm_0 rfl (lv_at hl 0 rfl) ?_
  refine lv_iload_n hx hb dX1_yealm_1 rfl (lv_at hl 1 rfl) ?_
  have hPc := hP.sub (ws' := [(h, .inr (1, [.ref ro, .int 0, .ref ba, .ref ra, .ref su, .int 0, .ref tr])), (ro, .inl (cR, 6, .inr (.inr (.inr (.inr (fun _ => none))))))]) [0, 1] rfl
  have hKc := hK.sub (tys' := [(cR, .object RX0)]) [0] rfl
  refine va_csq (va_runV (As := [.int a1]) (rest := []) ⟨hx, hb, hml, hown, hts⟩ (k1_roofAt0 l dC dI h ro ba ra su tr cR a1 ) (cwV 1 hts gX1_yealm_X1_roofAt rfl rfl rfl (by decide +kernel) ⟨Nat.le_of_ble_eq_true rfl, Nat.le_of_ble_eq_true rfl⟩) ⟨fun a U g mk q => by obtain ⟨q0, qP, qK⟩ := q; exact ⟨q0, qP, va_K.moved (u := U) (U := U.calling g mk a) (Vm.Alike.refl U.vm) qK⟩, va_recv hKc hPc (ci := 1) (q0 := 0) rfl rfl, fun U hU hW => ⟨rfl, by rw [hU]; exact hPc, va_K.moved hW.alike hKc⟩⟩ rfl rfl hl.1 rfl (lv_room (Nat.le_of_ble_eq_true rfl)) dX1_yealm_2 ⟨Nat.le_of_ble_eq_true rfl, Nat.le_of_ble_eq_true rfl⟩).run (fun r1 hr1 => ?_)
  obtain rfl := hr1
  refine W.eq (g2 := F0 m 5 ls [.null]) rfl ?_
  refine lv_astoreN (lv' := [(5, .null), (0, .ref h), (1, .int a1), (2, .int a2), (3, .int a3), (4, .int a4)]) hx hb dX1_yealm_5 hl (by decide) rfl (fun ls hl => ?_)
  refine lv_aloadN hx hb dX1_yealm_7 (lv_at hl 0 rfl) ?_
  refine lv_ifnullN (tgt := 32) hx hb dX1_yealm_9 (by decide) ?_
  obtain ⟨sa, hstr⟩ := zX_str_RX1_128 hZX
  exact vx_throwS (A := A) (names := ["java/lang/RuntimeException", "java/lang/Exception"]) (cls := "java/lang/IndexOutOfBoundsException") (sa := sa) hx hb hst hown (by decide +kernel) (by decide +kernel) (hts (.classLink RX1 56 "java/lang/IndexOutOfBoundsException") (by decide +kernel)) (hts (.initialized "java/lang/IndexOutOfBoundsException") (by decide +kernel)) hstr (vx_hat (fun w hw => hts w (by unfold wsX1_yealm; first | exact List.mem_cons_of_mem _ (List.mem_append_right _ hw) | exact List.mem_cons_of_mem _ (List.mem_append_left _ (List.mem_append_right _ hw)) | exact List.mem_cons_of_mem _ (List.mem_append_left _ (List.mem_append_left _ (List.mem_append_right _ hw))))) zAt_X1_60 (vx_c (va_Nw.use rfl (zX_cB hZX)) (vx_c (va_Nw.use rfl (zX_d0 hZX)) (vx_c (va_Nw.use rfl (zX_d1 hZX)) (vx_c (va_Nw.use rfl (zX_d2 hZX)) vx_n))))) (zGo_X1_60 56) hZT.1 hZT.2 hS (hl.1.trans hml.symm) dX1_yealm_32 dX1_yealm_35 dX1_yealm_36 dX1_yealm_38 dX1_yealm_41 (fun x hx => (hnt x hx).elim) (Nat.le_of_ble_eq_true rfl) (Nat.le_of_ble_eq_true rfl) (Nat.le_of_ble_eq_true rfl) (Nat.le_of_ble_eq_true rfl) hlocks (fun t h1 h2 h3 => ⟨(), trivial, by first | (rfl; done), ⟨Nat.le_trans hS.1 h2, fun q hq hn => (h3 q (Nat.lt_of_lt_of_le hq hS.1)).trans (hS.2.1 q hq hn)⟩⟩) hS.2.2 (Nat.le_of_ble_eq_true rfl) (Nat.le_of_ble_eq_true rfl)

set_option maxHeartbeats 4000000 in
set_option maxRecDepth 100000 in
theorem k1_roof (l : Launch) (hst : l.stackTraces = false) (dC : Nat → ClassId) (dI : Nat → Nat → Nat) (sz : Nat) (h : Nat) (ro : Nat) (ba : Nat) (ra : Nat) (su : Nat) (tr : Nat) (cR : ClassId) (a1 : Int32) (a2 : Int32) : vx_Met l yX1_roof wsX1_roof ({ frames := 6, cells := 1, slots := 6, locals := 82 }) (va_Pc [.ref h, .int a1, .int a2] (fun U => U.heap.size = sz ∧ va_P (dC, dI) vwCl [(h, .inr (1, [.ref ro, .int 0, .ref ba, .ref ra, .ref su, .int 0, .ref tr])), (ro, .inl (cR, 6, .inr (.inr (.inr (.inr (fun _ => none))))))] U.heap ∧ va_K (dC, dI) vwCl [(cR, .object RX0)] U ∧ va_D (fun _ => True) [(h, .inr (1, [.ref ro, .int 0, .ref ba, .ref ra, .ref su, .int 0, .ref tr])), (ro, .inl (cR, 6, .inr (.inr (.inr (.inr (fun _ => none))))))] ∧ zX U ∧ zTh (va_A [(h, .inr (1, [.ref ro, .int 0, .ref ba, .ref ra, .ref su, .int 0, .ref tr])), (ro, .inl (cR, 6, .inr (.inr (.inr (.inr (fun _ => none))))))] sz) U U.heap)) (va_Qi (fun (r : Int32) (u : Unit) => False) (fun (u : Unit) (t : State) => va_P (dC, dI) vwCl [] t.heap ∧ va_K (dC, dI) vwCl [] t ∧ va_D (va_A [(h, .inr (1, [.ref ro, .int 0, .ref ba, .ref ra, .ref su, .int 0, .ref tr])), (ro, .inl (cR, 6, .inr (.inr (.inr (.inr (fun _ => none))))))] sz) []) (va_A [(h, .inr (1, [.ref ro, .int 0, .ref ba, .ref ra, .ref su, .int 0, .ref tr])), (ro, .inl (cR, 6, .inr (.inr (.inr (.inr (fun _ => none))))))] sz)) (vx_X (fun _ : Unit => True) (fun (E : String) (_ : Unit) (_ : State) => (E = "java/lang/IndexOutOfBoundsException")) (va_A [(h, .inr (1, [.ref ro, .int 0, .ref ba, .ref ra, .ref su, .int 0, .ref tr])), (ro, .inl (cR, 6, .inr (.inr (.inr (.inr (fun _ => none))))))] sz)) 1 6 (va_A [(h, .inr (1, [.ref ro, .int 0, .ref ba, .ref ra, .ref su, .int 0, .ref tr])), (ro, .inl (cR, 6, .inr (.inr (.inr (.inr (fun _ => none))))))] sz) := by
  refine vx_ofW (cc := cX1_roof) (maxL := 4) (ret := (some .int)) (by decide) rfl ?_
  intro p e s m args below meth c s₁ B hml hnt hv
  obtain ⟨rfl, hsz, hP, hK, hD0, hZX, hZT⟩ := hv
  have hx := B.exec
  have hb := B.bytes
  have hr := B.returns
  have hts := atoms_spec (ws := wsX1_roof) B.pre
  have hown : s.vm.findClass RX1 = some m.cls := findClass_of_methodNamed B.named
  have hlocks := B.notSynchronized
  subst hsz
  have hD := hD0.self (sz := s.heap.size)
  generalize hAe : va_A [(h, .inr (1, [.ref ro, .int 0, .ref ba, .ref ra, .ref su, .int 0, .ref tr])), (ro, .inl (cR, 6, .inr (.inr (.inr (.inr (fun _ => none))))))] s.heap.size = A at hD hZT ⊢
  have hA : ∀ q : Nat, s.heap.size ≤ q → A q := fun q h => by rw [← hAe]; exact Or.inr h
  have hS : va_S A s.heap s.heap [] := va_S.rf
  have hP : va_P (dC, dI) vwCl [(h, .inr (1, [.ref ro, .int 0, .ref ba, .ref ra, .ref su, .int 0, .ref tr])), (ro, .inl (cR, 6, .inr (.inr (.inr (.inr (fun _ => none))))))] s.heap := hP
  have hl := lv_entry ([.ref h, .int a1, .int a2]) (n := 4) (Nat.le_of_ble_eq_true rfl)
  rw [lg_entry_eq]
  generalize (lg_sl ([.ref h, .int a1, .int a2]) ++ List.replicate (4 - (lg_sl ([.ref h, .int a1, .int a2])).length) Slot.unset).toArray = ls at hl ⊢
  have hl : lv_has ls 4 [(0, .ref h), (1, .int a1), (2, .int a2)] := hl
  refine lv_aload_n hx hb dX1_roof_0 rfl (lv_at hl 0 rfl) ?_
  refine lv_iload_n hx hb dX1_roof_1 rfl (lv_at hl 1 rfl) ?_
  have hPc := hP.sub (ws' := [(h, .inr (1, [.ref ro, .int 0, .ref ba, .ref ra, .ref su, .int 0, .ref tr])), (ro, .inl (cR, 6, .inr (.inr (.inr (.inr (fun _ => none))))))]) [0, 1] rfl
  have hKc := hK.sub (tys' := [(cR, .object RX0)]) [0] rfl
  refine va_csq (va_runV (As := [.int a1]) (rest := []) ⟨hx, hb, hml, hown, hts⟩ (k1_roofAt0 l dC dI h ro ba ra su tr cR a1 ) (cwV 1 hts gX1_roof_X1_roofAt rfl rfl rfl (by decide +kernel) ⟨Nat.le_of_ble_eq_true rfl, Nat.le_of_ble_eq_true rfl⟩) ⟨fun a U g mk q => by obtain ⟨q0, qP, qK⟩ := q; exact ⟨q0, qP, va_K.moved (u := U) (U := U.calling g mk a) (Vm.Alike.refl U.vm) qK⟩, va_recv hKc hPc (ci := 1) (q0 := 0) rfl rfl, fun U hU hW => ⟨rfl, by rw [hU]; exact hPc, va_K.moved hW.alike hKc⟩⟩ rfl rfl hl.1 rfl (lv_room (Nat.le_of_ble_eq_true rfl)) dX1_roof_2 ⟨Nat.le_of_ble_eq_true rfl, Nat.le_of_ble_eq_true rfl⟩).run (fun r1 hr1 => ?_)
  obtain rfl := hr1
  refine W.eq (g2 := F0 m 5 ls [.null]) rfl ?_
  refine lv_astore_nN (lv' := [(3, .null), (0, .ref h), (1, .int a1), (2, .int a2)]) hx hb dX1_roof_5 rfl hl (by decide) rfl (fun ls hl => ?_)
  refine lv_aload_nN hx hb dX1_roof_6 rfl (lv_at hl 0 rfl) ?_
  refine lv_ifnullN (tgt := 20) hx hb dX1_roof_7 (by decide) ?_
  obtain ⟨sa, hstr⟩ := zX_str_RX1_134 hZX
  exact vx_throwS (A := A) (names := ["java/lang/RuntimeException", "java/lang/Exception"]) (cls := "java/lang/IndexOutOfBoundsException") (sa := sa) hx hb hst hown (by decide +kernel) (by decide +kernel) (hts (.classLink RX1 56 "java/lang/IndexOutOfBoundsException") (by decide +kernel)) (hts (.initialized "java/lang/IndexOutOfBoundsException") (by decide +kernel)) hstr (vx_hat (fun w hw => hts w (by unfold wsX1_roof; first | exact List.mem_cons_of_mem _ (List.mem_append_right _ hw) | exact List.mem_cons_of_mem _ (List.mem_append_left _ (List.mem_append_right _ hw)) | exact List.mem_cons_of_mem _ (List.mem_append_left _ (List.mem_append_left _ (List.mem_append_right _ hw))))) zAt_X1_60 (vx_c (va_Nw.use rfl (zX_cB hZX)) (vx_c (va_Nw.use rfl (zX_d0 hZX)) (vx_c (va_Nw.use rfl (zX_d1 hZX)) (vx_c (va_Nw.use rfl (zX_d2 hZX)) vx_n))))) (zGo_X1_60 56) hZT.1 hZT.2 hS (hl.1.trans hml.symm) dX1_roof_20 dX1_roof_23 dX1_roof_24 dX1_roof_26 dX1_roof_29 (fun x hx => (hnt x hx).elim) (Nat.le_of_ble_eq_true rfl) (Nat.le_of_ble_eq_true rfl) (Nat.le_of_ble_eq_true rfl) (Nat.le_of_ble_eq_true rfl) hlocks (fun t h1 h2 h3 => ⟨(), trivial, by first | (rfl; done), ⟨Nat.le_trans hS.1 h2, fun q hq hn => (h3 q (Nat.lt_of_lt_of_le hq hS.1)).trans (hS.2.1 q hq hn)⟩⟩) hS.2.2 (Nat.le_of_ble_eq_true rfl) (Nat.le_of_ble_eq_true rfl)

set_option maxHeartbeats 4000000 in
set_option maxRecDepth 100000 in
theorem k1_tears (l : Launch) (hst : l.stackTraces = false) (dC : Nat → ClassId) (dI : Nat → Nat → Nat) (sz : Nat) (h : Nat) (ro : Nat) (ba : Nat) (ra : Nat) (su : Nat) (tr : Nat) (cR : ClassId) (a1 : Int32) (a2 : Int32) : vx_Met l yX1_tears wsX1_tears ({ frames := 6, cells := 1, slots := 6, locals := 82 }) (va_Pc [.ref h, .int a1, .int a2] (fun U => U.heap.size = sz ∧ va_P (dC, dI) vwCl [(h, .inr (1, [.ref ro, .int 0, .ref ba, .ref ra, .ref su, .int 0, .ref tr])), (ro, .inl (cR, 6, .inr (.inr (.inr (.inr (fun _ => none))))))] U.heap ∧ va_K (dC, dI) vwCl [(cR, .object RX0)] U ∧ va_D (fun _ => True) [(h, .inr (1, [.ref ro, .int 0, .ref ba, .ref ra, .ref su, .int 0, .ref tr])), (ro, .inl (cR, 6, .inr (.inr (.inr (.inr (fun _ => none))))))] ∧ zX U ∧ zTh (va_A [(h, .inr (1, [.ref ro, .int 0, .ref ba, .ref ra, .ref su, .int 0, .ref tr])), (ro, .inl (cR, 6, .inr (.inr (.inr (.inr (fun _ => none))))))] sz) U U.heap)) (va_Qi (fun (r : Int32) (u : Unit) => False) (fun (u : Unit) (t : State) => va_P (dC, dI) vwCl [] t.heap ∧ va_K (dC, dI) vwCl [] t ∧ va_D (va_A [(h, .inr (1, [.ref ro, .int 0, .ref ba, .ref ra, .ref su, .int 0, .ref tr])), (ro, .inl (cR, 6, .inr (.inr (.inr (.inr (fun _ => none))))))] sz) []) (va_A [(h, .inr (1, [.ref ro, .int 0, .ref ba, .ref ra, .ref su, .int 0, .ref tr])), (ro, .inl (cR, 6, .inr (.inr (.inr (.inr (fun _ => none))))))] sz)) (vx_X (fun _ : Unit => True) (fun (E : String) (_ : Unit) (_ : State) => (E = "java/lang/IndexOutOfBoundsException")) (va_A [(h, .inr (1, [.ref ro, .int 0, .ref ba, .ref ra, .ref su, .int 0, .ref tr])), (ro, .inl (cR, 6, .inr (.inr (.inr (.inr (fun _ => none))))))] sz)) 1 6 (va_A [(h, .inr (1, [.ref ro, .int 0, .ref ba, .ref ra, .ref su, .int 0, .ref tr])), (ro, .inl (cR, 6, .inr (.inr (.inr (.inr (fun _ => none))))))] sz) := by
  refine vx_ofW (cc := cX1_tears) (maxL := 4) (ret := (some .int)) (by decide) rfl ?_
  intro p e s m args below meth c s₁ B hml hnt hv
  obtain ⟨rfl, hsz, hP, hK, hD0, hZX, hZT⟩ := hv
  have hx := B.exec
  have hb := B.bytes
  have hr := B.returns
  have hts := atoms_spec (ws := wsX1_tears) B.pre
  have hown : s.vm.findClass RX1 = some m.cls := findClass_of_methodNamed B.named
  have hlocks := B.notSynchronized
  subst hsz
  have hD := hD0.self (sz := s.heap.size)
  generalize hAe : va_A [(h, .inr (1, [.ref ro, .int 0, .ref ba, .ref ra, .ref su, .int 0, .ref tr])), (ro, .inl (cR, 6, .inr (.inr (.inr (.inr (fun _ => none))))))] s.heap.size = A at hD hZT ⊢
  have hA : ∀ q : Nat, s.heap.size ≤ q → A q := fun q h => by rw [← hAe]; exact Or.inr h
  have hS : va_S A s.heap s.heap [] := va_S.rf
  have hP : va_P (dC, dI) vwCl [(h, .inr (1, [.ref ro, .int 0, .ref ba, .ref ra, .ref su, .int 0, .ref tr])), (ro, .inl (cR, 6, .inr (.inr (.inr (.inr (fun _ => none))))))] s.heap := hP
  have hl := lv_entry ([.ref h, .int a1, .int a2]) (n := 4) (Nat.le_of_ble_eq_true rfl)
  rw [lg_entry_eq]
  generalize (lg_sl ([.ref h, .int a1, .int a2]) ++ List.replicate (4 - (lg_sl ([.ref h, .int a1, .int a2])).length) Slot.unset).toArray = ls at hl ⊢
  have hl : lv_has ls 4 [(0, .ref h), (1, .int a1), (2, .int a2)] := hl
  refine lv_aload_n hx hb dX1_tears_0 rfl (lv_at hl 0 rfl) ?_
  refine lv_iload_n hx hb dX1_tears_1 rfl (lv_at hl 1 rfl) ?_
  have hPc := hP.sub (ws' := [(h, .inr (1, [.ref ro, .int 0, .ref ba, .ref ra, .ref su, .int 0, .ref tr])), (ro, .inl (cR, 6, .inr (.inr (.inr (.inr (fun _ => none))))))]) [0, 1] rfl
  have hKc := hK.sub (tys' := [(cR, .object RX0)]) [0] rfl
  refine va_csq (va_runV (As := [.int a1]) (rest := []) ⟨hx, hb, hml, hown, hts⟩ (k1_roofAt0 l dC dI h ro ba ra su tr cR a1 ) (cwV 1 hts gX1_tears_X1_roofAt rfl rfl rfl (by decide +kernel) ⟨Nat.le_of_ble_eq_true rfl, Nat.le_of_ble_eq_true rfl⟩) ⟨fun a U g mk q => by obtain ⟨q0, qP, qK⟩ := q; exact ⟨q0, qP, va_K.moved (u := U) (U := U.calling g mk a) (Vm.Alike.refl U.vm) qK⟩, va_recv hKc hPc (ci := 1) (q0 := 0) rfl rfl, fun U hU hW => ⟨rfl, by rw [hU]; exact hPc, va_K.moved hW.alike hKc⟩⟩ rfl rfl hl.1 rfl (lv_room (Nat.le_of_ble_eq_true rfl)) dX1_tears_2 ⟨Nat.le_of_ble_eq_true rfl, Nat.le_of_ble_eq_true rfl⟩).run (fun r1 hr1 => ?_)
  obtain rfl := hr1
  refine W.eq (g2 := F0 m 5 ls [.null]) rfl ?_
  refine lv_astore_nN (lv' := [(3, .null), (0, .ref h), (1, .int a1), (2, .int a2)]) hx hb dX1_tears_5 rfl hl (by decide) rfl (fun ls hl => ?_)
  refine lv_aload_nN hx hb dX1_tears_6 rfl (lv_at hl 0 rfl) ?_
  refine lv_ifnonnullN hx hb dX1_tears_7 ?_
  obtain ⟨sa, hstr⟩ := zX_str_RX1_121 hZX
  exact vx_throwS (A := A) (names := ["java/lang/RuntimeException", "java/lang/Exception"]) (cls := "java/lang/IndexOutOfBoundsException") (sa := sa) hx hb hst hown (by decide +kernel) (by decide +kernel) (hts (.classLink RX1 56 "java/lang/IndexOutOfBoundsException") (by decide +kernel)) (hts (.initialized "java/lang/IndexOutOfBoundsException") (by decide +kernel)) hstr (vx_hat (fun w hw => hts w (by unfold wsX1_tears; first | exact List.mem_cons_of_mem _ (List.mem_append_right _ hw) | exact List.mem_cons_of_mem _ (List.mem_append_left _ (List.mem_append_right _ hw)) | exact List.mem_cons_of_mem _ (List.mem_append_left _ (List.mem_append_left _ (List.mem_append_right _ hw))))) zAt_X1_60 (vx_c (va_Nw.use rfl (zX_cB hZX)) (vx_c (va_Nw.use rfl (zX_d0 hZX)) (vx_c (va_Nw.use rfl (zX_d1 hZX)) (vx_c (va_Nw.use rfl (zX_d2 hZX)) vx_n))))) (zGo_X1_60 56) hZT.1 hZT.2 hS (hl.1.trans hml.symm) dX1_tears_10 dX1_tears_13 dX1_tears_14 dX1_tears_16 dX1_tears_19 (fun x hx => (hnt x hx).elim) (Nat.le_of_ble_eq_true rfl) (Nat.le_of_ble_eq_true rfl) (Nat.le_of_ble_eq_true rfl) (Nat.le_of_ble_eq_true rfl) hlocks (fun t h1 h2 h3 => ⟨(), trivial, by first | (rfl; done), ⟨Nat.le_trans hS.1 h2, fun q hq hn => (h3 q (Nat.lt_of_lt_of_le hq hS.1)).trans (hS.2.1 q hq hn)⟩⟩) hS.2.2 (Nat.le_of_ble_eq_true rfl) (Nat.le_of_ble_eq_true rfl)

set_option maxHeartbeats 4000000 in
set_option maxRecDepth 100000 in
theorem k1_holds (l : Launch) (hst : l.stackTraces = false) (dC : Nat → ClassId) (dI : Nat → Nat → Nat) (sz : Nat) (h : Nat) (ro : Nat) (ba : Nat) (ra : Nat) (su : Nat) (tr : Nat) (cR : ClassId) (a1 : Int32) : vx_Met l yX1_holds wsX1_holds ({ frames := 6, cells := 1, slots := 6, locals := 82 }) (va_Pc [.ref h, .int a1] (fun U => U.heap.size = sz ∧ va_P (dC, dI) vwCl [(h, .inr (1, [.ref ro, .int 0, .ref ba, .ref ra, .ref su, .int 0, .ref tr])), (ro, .inl (cR, 6, .inr (.inr (.inr (.inr (fun _ => none))))))] U.heap ∧ va_K (dC, dI) vwCl [(cR, .object RX0)] U ∧ va_D (fun _ => True) [(h, .inr (1, [.ref ro, .int 0, .ref ba, .ref ra, .ref su, .int 0, .ref tr])), (ro, .inl (cR, 6, .inr (.inr (.inr (.inr (fun _ => none))))))] ∧ zX U ∧ zTh (va_A [(h, .inr (1, [.ref ro, .int 0, .ref ba, .ref ra, .ref su, .int 0, .ref tr])), (ro, .inl (cR, 6, .inr (.inr (.inr (.inr (fun _ => none))))))] sz) U U.heap)) (va_Qi (fun (r : Int32) (u : Unit) => False) (fun (u : Unit) (t : State) => va_P (dC, dI) vwCl [] t.heap ∧ va_K (dC, dI) vwCl [] t ∧ va_D (va_A [(h, .inr (1, [.ref ro, .int 0, .ref ba, .ref ra, .ref su, .int 0, .ref tr])), (ro, .inl (cR, 6, .inr (.inr (.inr (.inr (fun _ => none))))))] sz) []) (va_A [(h, .inr (1, [.ref ro, .int 0, .ref ba, .ref ra, .ref su, .int 0, .ref tr])), (ro, .inl (cR, 6, .inr (.inr (.inr (.inr (fun _ => none))))))] sz)) (vx_X (fun _ : Unit => True) (fun (E : String) (_ : Unit) (_ : State) => (E = "java/lang/IndexOutOfBoundsException")) (va_A [(h, .inr (1, [.ref ro, .int 0, .ref ba, .ref ra, .ref su, .int 0, .ref tr])), (ro, .inl (cR, 6, .inr (.inr (.inr (.inr (fun _ => none))))))] sz)) 1 6 (va_A [(h, .inr (1, [.ref ro, .int 0, .ref ba, .ref ra, .ref su, .int 0, .ref tr])), (ro, .inl (cR, 6, .inr (.inr (.inr (.inr (fun _ => none))))))] sz) := by
  refine vx_ofW (cc := cX1_holds) (maxL := 5) (ret := (some .int)) (by decide) rfl ?_
  intro p e s m args below meth c s₁ B hml hnt hv
  obtain ⟨rfl, hsz, hP, hK, hD0, hZX, hZT⟩ := hv
  have hx := B.exec
  have hb := B.bytes
  have hr := B.returns
  have hts := atoms_spec (ws := wsX1_holds) B.pre
  have hown : s.vm.findClass RX1 = some m.cls := findClass_of_methodNamed B.named
  have hlocks := B.notSynchronized
  subst hsz
  have hD := hD0.self (sz := s.heap.size)
  generalize hAe : va_A [(h, .inr (1, [.ref ro, .int 0, .ref ba, .ref ra, .ref su, .int 0, .ref tr])), (ro, .inl (cR, 6, .inr (.inr (.inr (.inr (fun _ => none))))))] s.heap.size = A at hD hZT ⊢
  have hA : ∀ q : Nat, s.heap.size ≤ q → A q := fun q h => by rw [← hAe]; exact Or.inr h
  have hS : va_S A s.heap s.heap [] := va_S.rf
  have hP : va_P (dC, dI) vwCl [(h, .inr (1, [.ref ro, .int 0, .ref ba, .ref ra, .ref su, .int 0, .ref tr])), (ro, .inl (cR, 6, .inr (.inr (.inr (.inr (fun _ => none))))))] s.heap := hP
  have hl := lv_entry ([.ref h, .int a1]) (n := 5) (Nat.le_of_ble_eq_true rfl)
  rw [lg_entry_eq]
  generalize (lg_sl ([.ref h, .int a1]) ++ List.replicate (5 - (lg_sl ([.ref h, .int a1])).length) Slot.unset).toArray = ls at hl ⊢
  have hl : lv_has ls 5 [(0, .ref h), (1, .int a1)] := hl
  refine lv_aload_n hx hb dX1_holds_0 rfl (lv_at hl 0 rfl) ?_
  refine lv_iload_n hx hb dX1_holds_1 rfl (lv_at hl 1 rfl) ?_
  have hPc := hP.sub (ws' := [(h, .inr (1, [.ref ro, .int 0, .ref ba, .ref ra, .ref su, .int 0, .ref tr])), (ro, .inl (cR, 6, .inr (.inr (.inr (.inr (fun _ => none))))))]) [0, 1] rfl
  have hKc := hK.sub (tys' := [(cR, .object RX0)]) [0] rfl
  refine va_csq (va_runV (As := [.int a1]) (rest := []) ⟨hx, hb, hml, hown, hts⟩ (k1_roofAt0 l dC dI h ro ba ra su tr cR a1 ) (cwV 1 hts gX1_holds_X1_roofAt rfl rfl rfl (by decide +kernel) ⟨Nat.le_of_ble_eq_true rfl, Nat.le_of_ble_eq_true rfl⟩) ⟨fun a U g mk q => by obtain ⟨q0, qP, qK⟩ := q; exact ⟨q0, qP, va_K.moved (u := U) (U := U.calling g mk a) (Vm.Alike.refl U.vm) qK⟩, va_recv hKc hPc (ci := 1) (q0 := 0) rfl rfl, fun U hU hW => ⟨rfl, by rw [hU]; exact hPc, va_K.moved hW.alike hKc⟩⟩ rfl rfl hl.1 rfl (lv_room (Nat.le_of_ble_eq_true rfl)) dX1_holds_2 ⟨Nat.le_of_ble_eq_true rfl, Nat.le_of_ble_eq_true rfl⟩).run (fun r1 hr1 => ?_)
  obtain rfl := hr1
  refine W.eq (g2 := F0 m 5 ls [.null]) rfl ?_
  refine lv_astore_nN (lv' := [(2, .null), (0, .ref h), (1, .int a1)]) hx hb dX1_holds_5 rfl hl (by decide) rfl (fun ls hl => ?_)
  refine lv_aload_nN hx hb dX1_holds_6 rfl (lv_at hl 0 rfl) ?_
  refine lv_ifnonnullN hx hb dX1_holds_7 ?_
  obtain ⟨sa, hstr⟩ := zX_str_RX1_121 hZX
  exact vx_throwS (A := A) (names := ["java/lang/RuntimeException", "java/lang/Exception"]) (cls := "java/lang/IndexOutOfBoundsException") (sa := sa) hx hb hst hown (by decide +kernel) (by decide +kernel) (hts (.classLink RX1 56 "java/lang/IndexOutOfBoundsException") (by decide +kernel)) (hts (.initialized "java/lang/IndexOutOfBoundsException") (by decide +kernel)) hstr (vx_hat (fun w hw => hts w (by unfold wsX1_holds; first | exact List.mem_cons_of_mem _ (List.mem_append_right _ hw) | exact List.mem_cons_of_mem _ (List.mem_append_left _ (List.mem_append_right _ hw)) | exact List.mem_cons_of_mem _ (List.mem_append_left _ (List.mem_append_left _ (List.mem_append_right _ hw))))) zAt_X1_60 (vx_c (va_Nw.use rfl (zX_cB hZX)) (vx_c (va_Nw.use rfl (zX_d0 hZX)) (vx_c (va_Nw.use rfl (zX_d1 hZX)) (vx_c (va_Nw.use rfl (zX_d2 hZX)) vx_n))))) (zGo_X1_60 56) hZT.1 hZT.2 hS (hl.1.trans hml.symm) dX1_holds_10 dX1_holds_13 dX1_holds_14 dX1_holds_16 dX1_holds_19 (fun x hx => (hnt x hx).elim) (Nat.le_of_ble_eq_true rfl) (Nat.le_of_ble_eq_true rfl) (Nat.le_of_ble_eq_true rfl) (Nat.le_of_ble_eq_true rfl) hlocks (fun t h1 h2 h3 => ⟨(), trivial, by first | (rfl; done), ⟨Nat.le_trans hS.1 h2, fun q hq hn => (h3 q (Nat.lt_of_lt_of_le hq hS.1)).trans (hS.2.1 q hq hn)⟩⟩) hS.2.2 (Nat.le_of_ble_eq_true rfl) (Nat.le_of_ble_eq_true rfl)

set_option maxHeartbeats 4000000 in
set_option maxRecDepth 100000 in
theorem k1_foresee (l : Launch) (hst : l.stackTraces = false) (dC : Nat → ClassId) (dI : Nat → Nat → Nat) (sz : Nat) (h : Nat) (ro : Nat) (ba : Nat) (ra : Nat) (su : Nat) (tr : Nat) (cR : ClassId) (a1 : Int32) (a2 : Int32) (a3 : Int32) : vx_Met l yX1_foresee wsX1_foresee ({ frames := 6, cells := 1, slots := 6, locals := 82 }) (va_Pc [.ref h, .int a1, .int a2, .int a3] (fun U => U.heap.size = sz ∧ va_P (dC, dI) vwCl [(h, .inr (1, [.ref ro, .int 0, .ref ba, .ref ra, .ref su, .int 0, .ref tr])), (ro, .inl (cR, 6, .inr (.inr (.inr (.inr (fun _ => none))))))] U.heap ∧ va_K (dC, dI) vwCl [(cR, .object RX0)] U ∧ va_D (fun _ => True) [(h, .inr (1, [.ref ro, .int 0, .ref ba, .ref ra, .ref su, .int 0, .ref tr])), (ro, .inl (cR, 6, .inr (.inr (.inr (.inr (fun _ => none))))))] ∧ zX U ∧ zTh (va_A [(h, .inr (1, [.ref ro, .int 0, .ref ba, .ref ra, .ref su, .int 0, .ref tr])), (ro, .inl (cR, 6, .inr (.inr (.inr (.inr (fun _ => none))))))] sz) U U.heap)) (va_Qi (fun (r : Int32) (u : Unit) => False) (fun (u : Unit) (t : State) => va_P (dC, dI) vwCl [] t.heap ∧ va_K (dC, dI) vwCl [] t ∧ va_D (va_A [(h, .inr (1, [.ref ro, .int 0, .ref ba, .ref ra, .ref su, .int 0, .ref tr])), (ro, .inl (cR, 6, .inr (.inr (.inr (.inr (fun _ => none))))))] sz) []) (va_A [(h, .inr (1, [.ref ro, .int 0, .ref ba, .ref ra, .ref su, .int 0, .ref tr])), (ro, .inl (cR, 6, .inr (.inr (.inr (.inr (fun _ => none))))))] sz)) (vx_X (fun _ : Unit => True) (fun (E : String) (_ : Unit) (_ : State) => (E = "java/lang/IndexOutOfBoundsException")) (va_A [(h, .inr (1, [.ref ro, .int 0, .ref ba, .ref ra, .ref su, .int 0, .ref tr])), (ro, .inl (cR, 6, .inr (.inr (.inr (.inr (fun _ => none))))))] sz)) 1 6 (va_A [(h, .inr (1, [.ref ro, .int 0, .ref ba, .ref ra, .ref su, .int 0, .ref tr])), (ro, .inl (cR, 6, .inr (.inr (.inr (.inr (fun _ => none))))))] sz) := by
  refine vx_ofW (cc := cX1_foresee) (maxL := 6) (ret := (some .int)) (by decide) rfl ?_
  intro p e s m args below meth c s₁ B hml hnt hv
  obtain ⟨rfl, hsz, hP, hK, hD0, hZX, hZT⟩ := hv
  have hx := B.exec
  have hb := B.bytes
  have hr := B.returns
  have hts := atoms_spec (ws := wsX1_foresee) B.pre
  have hown : s.vm.findClass RX1 = some m.cls := findClass_of_methodNamed B.named
  have hlocks := B.notSynchronized
  subst hsz
  have hD := hD0.self (sz := s.heap.size)
  generalize hAe : va_A [(h, .inr (1, [.ref ro, .int 0, .ref ba, .ref ra, .ref su, .int 0, .ref tr])), (ro, .inl (cR, 6, .inr (.inr (.inr (.inr (fun _ => none))))))] s.heap.size = A at hD hZT ⊢
  have hA : ∀ q : Nat, s.heap.size ≤ q → A q := fun q h => by rw [← hAe]; exact Or.inr h
  have hS : va_S A s.heap s.heap [] := va_S.rf
  have hP : va_P (dC, dI) vwCl [(h, .inr (1, [.ref ro, .int 0, .ref ba, .ref ra, .ref su, .int 0, .ref tr])), (ro, .inl (cR, 6, .inr (.inr (.inr (.inr (fun _ => none))))))] s.heap := hP
  have hl := lv_entry ([.ref h, .int a1, .int a2, .int a3]) (n := 6) (Nat.le_of_ble_eq_true rfl)
  rw [lg_entry_eq]
  generalize (lg_sl ([.ref h, .int a1, .int a2, .int a3]) ++ List.replicate (6 - (lg_sl ([.ref h, .int a1, .int a2, .int a3])).length) Slot.unset).toArray = ls at hl ⊢
  have hl : lv_has ls 6 [(0, .ref h), (1, .int a1), (2, .int a2), (3, .int a3)] := hl
  refine lv_aload_n hx hb dX1_foresee_0 rfl (lv_at hl 0 rfl) ?_
  refine lv_iload_n hx hb dX1_foresee_1 rfl (lv_at hl 1 rfl) ?_
  have hPc := hP.sub (ws' := [(h, .inr (1, [.ref ro, .int 0, .ref ba, .ref ra, .ref su, .int 0, .ref tr])), (ro, .inl (cR, 6, .inr (.inr (.inr (.inr (fun _ => none))))))]) [0, 1] rfl
  have hKc := hK.sub (tys' := [(cR, .object RX0)]) [0] rfl
  refine va_csq (va_runV (As := [.int a1]) (rest := []) ⟨hx, hb, hml, hown, hts⟩ (k1_roofAt0 l dC dI h ro ba ra su tr cR a1 ) (cwV 1 hts gX1_foresee_X1_roofAt rfl rfl rfl (by decide +kernel) ⟨Nat.le_of_ble_eq_true rfl, Nat.le_of_ble_eq_true rfl⟩) ⟨fun a U g mk q => by obtain ⟨q0, qP, qK⟩ := q; exact ⟨q0, qP, va_K.moved (u := U) (U := U.calling g mk a) (Vm.Alike.refl U.vm) qK⟩, va_recv hKc hPc (ci := 1) (q0 := 0) rfl rfl, fun U hU hW => ⟨rfl, by rw [hU]; exact hPc, va_K.moved hW.alike hKc⟩⟩ rfl rfl hl.1 rfl (lv_room (Nat.le_of_ble_eq_true rfl)) dX1_foresee_2 ⟨Nat.le_of_ble_eq_true rfl, Nat.le_of_ble_eq_true rfl⟩).run (fun r1 hr1 => ?_)
  obtain rfl := hr1
  refine W.eq (g2 := F0 m 5 ls [.null]) rfl ?_
  refine lv_astoreN (lv' := [(4, .null), (0, .ref h), (1, .int a1), (2, .int a2), (3, .int a3)]) hx hb dX1_foresee_5 hl (by decide) rfl (fun ls hl => ?_)
  refine lv_aloadN hx hb dX1_foresee_7 (lv_at hl 0 rfl) ?_
  refine lv_ifnullN (tgt := 21) hx hb dX1_foresee_9 (by decide) ?_
  obtain ⟨sa, hstr⟩ := zX_str_RX1_170 hZX
  exact vx_throwS (A := A) (names := ["java/lang/RuntimeException", "java/lang/Exception"]) (cls := "java/lang/IndexOutOfBoundsException") (sa := sa) hx hb hst hown (by decide +kernel) (by decide +kernel) (hts (.classLink RX1 56 "java/lang/IndexOutOfBoundsException") (by decide +kernel)) (hts (.initialized "java/lang/IndexOutOfBoundsException") (by decide +kernel)) hstr (vx_hat (fun w hw => hts w (by unfold wsX1_foresee; first | exact List.mem_cons_of_mem _ (List.mem_append_right _ hw) | exact List.mem_cons_of_mem _ (List.mem_append_left _ (List.mem_append_right _ hw)) | exact List.mem_cons_of_mem _ (List.mem_append_left _ (List.mem_append_left _ (List.mem_append_right _ hw))))) zAt_X1_60 (vx_c (va_Nw.use rfl (zX_cB hZX)) (vx_c (va_Nw.use rfl (zX_d0 hZX)) (vx_c (va_Nw.use rfl (zX_d1 hZX)) (vx_c (va_Nw.use rfl (zX_d2 hZX)) vx_n))))) (zGo_X1_60 56) hZT.1 hZT.2 hS (hl.1.trans hml.symm) dX1_foresee_21 dX1_foresee_24 dX1_foresee_25 dX1_foresee_27 dX1_foresee_30 (fun x hx => (hnt x hx).elim) (Nat.le_of_ble_eq_true rfl) (Nat.le_of_ble_eq_true rfl) (Nat.le_of_ble_eq_true rfl) (Nat.le_of_ble_eq_true rfl) hlocks (fun t h1 h2 h3 => ⟨(), trivial, by first | (rfl; done), ⟨Nat.le_trans hS.1 h2, fun q hq hn => (h3 q (Nat.lt_of_lt_of_le hq hS.1)).trans (hS.2.1 q hq hn)⟩⟩) hS.2.2 (Nat.le_of_ble_eq_true rfl) (Nat.le_of_ble_eq_true rfl)

set_option maxHeartbeats 4000000 in
set_option maxRecDepth 100000 in
theorem k1_advise (l : Launch) (hst : l.stackTraces = false) (dC : Nat → ClassId) (dI : Nat → Nat → Nat) (sz : Nat) (h : Nat) (ro : Nat) (ba : Nat) (ra : Nat) (su : Nat) (tr : Nat) (cR : ClassId) (a1 : Int32) (a2 : Int32) : vx_Met l yX1_advise wsX1_advise ({ frames := 6, cells := 1, slots := 6, locals := 82 }) (va_Pc [.ref h, .int a1, .int a2] (fun U => U.heap.size = sz ∧ va_P (dC, dI) vwCl [(h, .inr (1, [.ref ro, .int 0, .ref ba, .ref ra, .ref su, .int 0, .ref tr])), (ro, .inl (cR, 6, .inr (.inr (.inr (.inr (fun _ => none))))))] U.heap ∧ va_K (dC, dI) vwCl [(cR, .object RX0)] U ∧ va_D (fun _ => True) [(h, .inr (1, [.ref ro, .int 0, .ref ba, .ref ra, .ref su, .int 0, .ref tr])), (ro, .inl (cR, 6, .inr (.inr (.inr (.inr (fun _ => none))))))] ∧ zX U ∧ zTh (va_A [(h, .inr (1, [.ref ro, .int 0, .ref ba, .ref ra, .ref su, .int 0, .ref tr])), (ro, .inl (cR, 6, .inr (.inr (.inr (.inr (fun _ => none))))))] sz) U U.heap)) (va_Qi (fun (r : Int32) (u : Unit) => False) (fun (u : Unit) (t : State) => va_P (dC, dI) vwCl [] t.heap ∧ va_K (dC, dI) vwCl [] t ∧ va_D (va_A [(h, .inr (1, [.ref ro, .int 0, .ref ba, .ref ra, .ref su, .int 0, .ref tr])), (ro, .inl (cR, 6, .inr (.inr (.inr (.inr (fun _ => none))))))] sz) []) (va_A [(h, .inr (1, [.ref ro, .int 0, .ref ba, .ref ra, .ref su, .int 0, .ref tr])), (ro, .inl (cR, 6, .inr (.inr (.inr (.inr (fun _ => none))))))] sz)) (vx_X (fun _ : Unit => True) (fun (E : String) (_ : Unit) (_ : State) => (E = "java/lang/IndexOutOfBoundsException")) (va_A [(h, .inr (1, [.ref ro, .int 0, .ref ba, .ref ra, .ref su, .int 0, .ref tr])), (ro, .inl (cR, 6, .inr (.inr (.inr (.inr (fun _ => none))))))] sz)) 1 6 (va_A [(h, .inr (1, [.ref ro, .int 0, .ref ba, .ref ra, .ref su, .int 0, .ref tr])), (ro, .inl (cR, 6, .inr (.inr (.inr (.inr (fun _ => none))))))] sz) := by
  refine vx_ofW (cc := cX1_advise) (maxL := 11) (ret := (some .int)) (by decide) rfl ?_
  intro p e s m args below meth c s₁ B hml hnt hv
  obtain ⟨rfl, hsz, hP, hK, hD0, hZX, hZT⟩ := hv
  have hx := B.exec
  have hb := B.bytes
  have hr := B.returns
  have hts := atoms_spec (ws := wsX1_advise) B.pre
  have hown : s.vm.findClass RX1 = some m.cls := findClass_of_methodNamed B.named
  have hlocks := B.notSynchronized
  subst hsz
  have hD := hD0.self (sz := s.heap.size)
  generalize hAe : va_A [(h, .inr (1, [.ref ro, .int 0, .ref ba, .ref ra, .ref su, .int 0, .ref tr])), (ro, .inl (cR, 6, .inr (.inr (.inr (.inr (fun _ => none))))))] s.heap.size = A at hD hZT ⊢
  have hA : ∀ q : Nat, s.heap.size ≤ q → A q := fun q h => by rw [← hAe]; exact Or.inr h
  have hS : va_S A s.heap s.heap [] := va_S.rf
  have hP : va_P (dC, dI) vwCl [(h, .inr (1, [.ref ro, .int 0, .ref ba, .ref ra, .ref su, .int 0, .ref tr])), (ro, .inl (cR, 6, .inr (.inr (.inr (.inr (fun _ => none))))))] s.heap := hP
  have hl := lv_entry ([.ref h, .int a1, .int a2]) (n := 11) (Nat.le_of_ble_eq_true rfl)
  rw [lg_entry_eq]
  generalize (lg_sl ([.ref h, .int a1, .int a2]) ++ List.replicate (11 - (lg_sl ([.ref h, .int a1, .int a2])).length) Slot.unset).toArray = ls at hl ⊢
  have hl : lv_has ls 11 [(0, .ref h), (1, .int a1), (2, .int a2)] := hl
  refine lv_aload_n hx hb dX1_advise_0 rfl (lv_at hl 0 rfl) ?_
  refine lv_iload_n hx hb dX1_advise_1 rfl (lv_at hl 1 rfl) ?_
  have hPc := hP.sub (ws' := [(h, .inr (1, [.ref ro, .int 0, .ref ba, .ref ra, .ref su, .int 0, .ref tr])), (ro, .inl (cR, 6, .inr (.inr (.inr (.inr (fun _ => none))))))]) [0, 1] rfl
  have hKc := hK.sub (tys' := [(cR, .object RX0)]) [0] rfl
  refine va_csq (va_runV (As := [.int a1]) (rest := []) ⟨hx, hb, hml, hown, hts⟩ (k1_roofAt0 l dC dI h ro ba ra su tr cR a1 ) (cwV 1 hts gX1_advise_X1_roofAt rfl rfl rfl (by decide +kernel) ⟨Nat.le_of_ble_eq_true rfl, Nat.le_of_ble_eq_true rfl⟩) ⟨fun a U g mk q => by obtain ⟨q0, qP, qK⟩ := q; exact ⟨q0, qP, va_K.moved (u := U) (U := U.calling g mk a) (Vm.Alike.refl U.vm) qK⟩, va_recv hKc hPc (ci := 1) (q0 := 0) rfl rfl, fun U hU hW => ⟨rfl, by rw [hU]; exact hPc, va_K.moved hW.alike hKc⟩⟩ rfl rfl hl.1 rfl (lv_room (Nat.le_of_ble_eq_true rfl)) dX1_advise_2 ⟨Nat.le_of_ble_eq_true rfl, Nat.le_of_ble_eq_true rfl⟩).run (fun r1 hr1 => ?_)
  obtain rfl := hr1
  refine W.eq (g2 := F0 m 5 ls [.null]) rfl ?_
  refine lv_astore_nN (lv' := [(3, .null), (0, .ref h), (1, .int a1), (2, .int a2)]) hx hb dX1_advise_5 rfl hl (by decide) rfl (fun ls hl => ?_)
  refine lv_aload_nN hx hb dX1_advise_6 rfl (lv_at hl 0 rfl) ?_
  refine lv_ifnonnullN hx hb dX1_advise_7 ?_
  obtain ⟨sa, hstr⟩ := zX_str_RX1_121 hZX
  exact vx_throwS (A := A) (names := ["java/lang/RuntimeException", "java/lang/Exception"]) (cls := "java/lang/IndexOutOfBoundsException") (sa := sa) hx hb hst hown (by decide +kernel) (by decide +kernel) (hts (.classLink RX1 56 "java/lang/IndexOutOfBoundsException") (by decide +kernel)) (hts (.initialized "java/lang/IndexOutOfBoundsException") (by decide +kernel)) hstr (vx_hat (fun w hw => hts w (by unfold wsX1_advise; first | exact List.mem_cons_of_mem _ (List.mem_append_right _ hw) | exact List.mem_cons_of_mem _ (List.mem_append_left _ (List.mem_append_right _ hw)) | exact List.mem_cons_of_mem _ (List.mem_append_left _ (List.mem_append_left _ (List.mem_append_right _ hw))))) zAt_X1_60 (vx_c (va_Nw.use rfl (zX_cB hZX)) (vx_c (va_Nw.use rfl (zX_d0 hZX)) (vx_c (va_Nw.use rfl (zX_d1 hZX)) (vx_c (va_Nw.use rfl (zX_d2 hZX)) vx_n))))) (zGo_X1_60 56) hZT.1 hZT.2 hS (hl.1.trans hml.symm) dX1_advise_10 dX1_advise_13 dX1_advise_14 dX1_advise_16 dX1_advise_19 (fun x hx => (hnt x hx).elim) (Nat.le_of_ble_eq_true rfl) (Nat.le_of_ble_eq_true rfl) (Nat.le_of_ble_eq_true rfl) (Nat.le_of_ble_eq_true rfl) hlocks (fun t h1 h2 h3 => ⟨(), trivial, by first | (rfl; done), ⟨Nat.le_trans hS.1 h2, fun q hq hn => (h3 q (Nat.lt_of_lt_of_le hq hS.1)).trans (hS.2.1 q hq hn)⟩⟩) hS.2.2 (Nat.le_of_ble_eq_true rfl) (Nat.le_of_ble_eq_true rfl)

set_option maxHeartbeats 4000000 in
set_option maxRecDepth 100000 in
theorem k1_needs (l : Launch) (hst : l.stackTraces = false) (dC : Nat → ClassId) (dI : Nat → Nat → Nat) (sz : Nat) (h : Nat) (ro : Nat) (ba : Nat) (ra : Nat) (su : Nat) (tr : Nat) (cR : ClassId) (a1 : Int32) (a2 : Int32) : vx_Met l yX1_needs wsX1_needs ({ frames := 6, cells := 1, slots := 6, locals := 82 }) (va_Pc [.ref h, .int a1, .int a2] (fun U => U.heap.size = sz ∧ va_P (dC, dI) vwCl [(h, .inr (1, [.ref ro, .int 0, .ref ba, .ref ra, .ref su, .int 0, .ref tr])), (ro, .inl (cR, 6, .inr (.inr (.inr (.inr (fun _ => none))))))] U.heap ∧ va_K (dC, dI) vwCl [(cR, .object RX0)] U ∧ va_D (fun _ => True) [(h, .inr (1, [.ref ro, .int 0, .ref ba, .ref ra, .ref su, .int 0, .ref tr])), (ro, .inl (cR, 6, .inr (.inr (.inr (.inr (fun _ => none))))))] ∧ zX U ∧ zTh (va_A [(h, .inr (1, [.ref ro, .int 0, .ref ba, .ref ra, .ref su, .int 0, .ref tr])), (ro, .inl (cR, 6, .inr (.inr (.inr (.inr (fun _ => none))))))] sz) U U.heap)) (va_Qi (fun (r : Int32) (u : Unit) => False) (fun (u : Unit) (t : State) => va_P (dC, dI) vwCl [] t.heap ∧ va_K (dC, dI) vwCl [] t ∧ va_D (va_A [(h, .inr (1, [.ref ro, .int 0, .ref ba, .ref ra, .ref su, .int 0, .ref tr])), (ro, .inl (cR, 6, .inr (.inr (.inr (.inr (fun _ => none))))))] sz) []) (va_A [(h, .inr (1, [.ref ro, .int 0, .ref ba, .ref ra, .ref su, .int 0, .ref tr])), (ro, .inl (cR, 6, .inr (.inr (.inr (.inr (fun _ => none))))))] sz)) (vx_X (fun _ : Unit => True) (fun (E : String) (_ : Unit) (_ : State) => (E = "java/lang/IndexOutOfBoundsException")) (va_A [(h, .inr (1, [.ref ro, .int 0, .ref ba, .ref ra, .ref su, .int 0, .ref tr])), (ro, .inl (cR, 6, .inr (.inr (.inr (.inr (fun _ => none))))))] sz)) 1 6 (va_A [(h, .inr (1, [.ref ro, .int 0, .ref ba, .ref ra, .ref su, .int 0, .ref tr])), (ro, .inl (cR, 6, .inr (.inr (.inr (.inr (fun _ => none))))))] sz) := by
  refine vx_ofW (cc := cX1_needs) (maxL := 5) (ret := (some .int)) (by decide) rfl ?_
  intro p e s m args below meth c s₁ B hml hnt hv
  obtain ⟨rfl, hsz, hP, hK, hD0, hZX, hZT⟩ := hv
  have hx := B.exec
  have hb := B.bytes
  have hr := B.returns
  have hts := atoms_spec (ws := wsX1_needs) B.pre
  have hown : s.vm.findClass RX1 = some m.cls := findClass_of_methodNamed B.named
  have hlocks := B.notSynchronized
  subst hsz
  have hD := hD0.self (sz := s.heap.size)
  generalize hAe : va_A [(h, .inr (1, [.ref ro, .int 0, .ref ba, .ref ra, .ref su, .int 0, .ref tr])), (ro, .inl (cR, 6, .inr (.inr (.inr (.inr (fun _ => none))))))] s.heap.size = A at hD hZT ⊢
  have hA : ∀ q : Nat, s.heap.size ≤ q → A q := fun q h => by rw [← hAe]; exact Or.inr h
  have hS : va_S A s.heap s.heap [] := va_S.rf
  have hP : va_P (dC, dI) vwCl [(h, .inr (1, [.ref ro, .int 0, .ref ba, .ref ra, .ref su, .int 0, .ref tr])), (ro, .inl (cR, 6, .inr (.inr (.inr (.inr (fun _ => none))))))] s.heap := hP
  have hl := lv_entry ([.ref h, .int a1, .int a2]) (n := 5) (Nat.le_of_ble_eq_true rfl)
  rw [lg_entry_eq]
  generalize (lg_sl ([.ref h, .int a1, .int a2]) ++ List.replicate (5 - (lg_sl ([.ref h, .int a1, .int a2])).length) Slot.unset).toArray = ls at hl ⊢
  have hl : lv_has ls 5 [(0, .ref h), (1, .int a1), (2, .int a2)] := hl
  refine lv_aload_n hx hb dX1_needs_0 rfl (lv_at hl 0 rfl) ?_
  refine lv_iload_n hx hb dX1_needs_1 rfl (lv_at hl 1 rfl) ?_
  have hPc := hP.sub (ws' := [(h, .inr (1, [.ref ro, .int 0, .ref ba, .ref ra, .ref su, .int 0, .ref tr])), (ro, .inl (cR, 6, .inr (.inr (.inr (.inr (fun _ => none))))))]) [0, 1] rfl
  have hKc := hK.sub (tys' := [(cR, .object RX0)]) [0] rfl
  refine va_csq (va_runV (As := [.int a1]) (rest := []) ⟨hx, hb, hml, hown, hts⟩ (k1_roofAt0 l dC dI h ro ba ra su tr cR a1 ) (cwV 1 hts gX1_needs_X1_roofAt rfl rfl rfl (by decide +kernel) ⟨Nat.le_of_ble_eq_true rfl, Nat.le_of_ble_eq_true rfl⟩) ⟨fun a U g mk q => by obtain ⟨q0, qP, qK⟩ := q; exact ⟨q0, qP, va_K.moved (u := U) (U := U.calling g mk a) (Vm.Alike.refl U.vm) qK⟩, va_recv hKc hPc (ci := 1) (q0 := 0) rfl rfl, fun U hU hW => ⟨rfl, by rw [hU]; exact hPc, va_K.moved hW.alike hKc⟩⟩ rfl rfl hl.1 rfl (lv_room (Nat.le_of_ble_eq_true rfl)) dX1_needs_2 ⟨Nat.le_of_ble_eq_true rfl, Nat.le_of_ble_eq_true rfl⟩).run (fun r1 hr1 => ?_)
  obtain rfl := hr1
  refine W.eq (g2 := F0 m 5 ls [.null]) rfl ?_
  refine lv_astore_nN (lv' := [(3, .null), (0, .ref h), (1, .int a1), (2, .int a2)]) hx hb dX1_needs_5 rfl hl (by decide) rfl (fun ls hl => ?_)
  refine lv_aload_nN hx hb dX1_needs_6 rfl (lv_at hl 0 rfl) ?_
  refine lv_ifnonnullN hx hb dX1_needs_7 ?_
  obtain ⟨sa, hstr⟩ := zX_str_RX1_121 hZX
  exact vx_throwS (A := A) (names := ["java/lang/RuntimeException", "java/lang/Exception"]) (cls := "java/lang/IndexOutOfBoundsException") (sa := sa) hx hb hst hown (by decide +kernel) (by decide +kernel) (hts (.classLink RX1 56 "java/lang/IndexOutOfBoundsException") (by decide +kernel)) (hts (.initialized "java/lang/IndexOutOfBoundsException") (by decide +kernel)) hstr (vx_hat (fun w hw => hts w (by unfold wsX1_needs; first | exact List.mem_cons_of_mem _ (List.mem_append_right _ hw) | exact List.mem_cons_of_mem _ (List.mem_append_left _ (List.mem_append_right _ hw)) | exact List.mem_cons_of_mem _ (List.mem_append_left _ (List.mem_append_left _ (List.mem_append_right _ hw))))) zAt_X1_60 (vx_c (va_Nw.use rfl (zX_cB hZX)) (vx_c (va_Nw.use rfl (zX_d0 hZX)) (vx_c (va_Nw.use rfl (zX_d1 hZX)) (vx_c (va_Nw.use rfl (zX_d2 hZX)) vx_n))))) (zGo_X1_60 56) hZT.1 hZT.2 hS (hl.1.trans hml.symm) dX1_needs_10 dX1_needs_13 dX1_needs_14 dX1_needs_16 dX1_needs_19 (fun x hx => (hnt x hx).elim) (Nat.le_of_ble_eq_true rfl) (Nat.le_of_ble_eq_true rfl) (Nat.le_of_ble_eq_true rfl) (Nat.le_of_ble_eq_true rfl) hlocks (fun t h1 h2 h3 => ⟨(), trivial, by first | (rfl; done), ⟨Nat.le_trans hS.1 h2, fun q hq hn => (h3 q (Nat.lt_of_lt_of_le hq hS.1)).trans (hS.2.1 q hq hn)⟩⟩) hS.2.2 (Nat.le_of_ble_eq_true rfl) (Nat.le_of_ble_eq_true rfl)

set_option maxHeartbeats 4000000 in
set_option maxRecDepth 100000 in
theorem k1_pass (l : Launch) (hst : l.stackTraces = false) (dC : Nat → ClassId) (dI : Nat → Nat → Nat) (sz : Nat) (h : Nat) (ro : Nat) (ba : Nat) (ra : Nat) (su : Nat) (tr : Nat) (cR : ClassId) (a1 : Int32) : vx_Met l yX1_pass wsX1_pass ({ frames := 6, cells := 1, slots := 6, locals := 82 }) (va_Pc [.ref h, .int a1] (fun U => U.heap.size = sz ∧ va_P (dC, dI) vwCl [(h, .inr (1, [.ref ro, .int 0, .ref ba, .ref ra, .ref su, .int 0, .ref tr])), (ro, .inl (cR, 6, .inr (.inr (.inr (.inr (fun _ => none))))))] U.heap ∧ va_K (dC, dI) vwCl [(cR, .object RX0)] U ∧ va_D (fun _ => True) [(h, .inr (1, [.ref ro, .int 0, .ref ba, .ref ra, .ref su, .int 0, .ref tr])), (ro, .inl (cR, 6, .inr (.inr (.inr (.inr (fun _ => none))))))] ∧ zX U ∧ zTh (va_A [(h, .inr (1, [.ref ro, .int 0, .ref ba, .ref ra, .ref su, .int 0, .ref tr])), (ro, .inl (cR, 6, .inr (.inr (.inr (.inr (fun _ => none))))))] sz) U U.heap)) (va_Qi (fun (r : Int32) (u : Unit) => r = 0 ∧ zIn a1 1 120) (fun (u : Unit) (t : State) => va_P (dC, dI) vwCl [] t.heap ∧ va_K (dC, dI) vwCl [] t ∧ va_D (va_A [(h, .inr (1, [.ref ro, .int 0, .ref ba, .ref ra, .ref su, .int 0, .ref tr])), (ro, .inl (cR, 6, .inr (.inr (.inr (.inr (fun _ => none))))))] sz) []) (va_A [(h, .inr (1, [.ref ro, .int 0, .ref ba, .ref ra, .ref su, .int 0, .ref tr])), (ro, .inl (cR, 6, .inr (.inr (.inr (.inr (fun _ => none))))))] sz)) (vx_X (fun _ : Unit => True) (fun (E : String) (_ : Unit) (_ : State) => (E = "java/lang/IllegalArgumentException" ∧ (¬ zIn a1 1 120))) (va_A [(h, .inr (1, [.ref ro, .int 0, .ref ba, .ref ra, .ref su, .int 0, .ref tr])), (ro, .inl (cR, 6, .inr (.inr (.inr (.inr (fun _ => none))))))] sz)) 1 6 (va_A [(h, .inr (1, [.ref ro, .int 0, .ref ba, .ref ra, .ref su, .int 0, .ref tr])), (ro, .inl (cR, 6, .inr (.inr (.inr (.inr (fun _ => none))))))] sz) := by
  refine vx_ofW (cc := cX1_pass) (maxL := 6) (ret := (some .int)) (by decide) rfl ?_
  intro p e s m args below meth c s₁ B hml hnt hv
  obtain ⟨rfl, hsz, hP, hK, hD0, hZX, hZT⟩ := hv
  have hx := B.exec
  have hb := B.bytes
  have hr := B.returns
  have hts := atoms_spec (ws := wsX1_pass) B.pre
  have hown : s.vm.findClass RX1 = some m.cls := findClass_of_methodNamed B.named
  have hlocks := B.notSynchronized
  subst hsz
  have hD := hD0.self (sz := s.heap.size)
  generalize hAe : va_A [(h, .inr (1, [.ref ro, .int 0, .ref ba, .ref ra, .ref su, .int 0, .ref tr])), (ro, .inl (cR, 6, .inr (.inr (.inr (.inr (fun _ => none))))))] s.heap.size = A at hD hZT ⊢
  have hA : ∀ q : Nat, s.heap.size ≤ q → A q := fun q h => by rw [← hAe]; exact Or.inr h
  have hS : va_S A s.heap s.heap [] := va_S.rf
  have hP : va_P (dC, dI) vwCl [(h, .inr (1, [.ref ro, .int 0, .ref ba, .ref ra, .ref su, .int 0, .ref tr])), (ro, .inl (cR, 6, .inr (.inr (.inr (.inr (fun _ => none))))))] s.heap := hP
  have hl := lv_entry ([.ref h, .int a1]) (n := 6) (Nat.le_of_ble_eq_true rfl)
  rw [lg_entry_eq]
  generalize (lg_sl ([.ref h, .int a1]) ++ List.replicate (6 - (lg_sl ([.ref h, .int a1])).length) Slot.unset).toArray = ls at hl ⊢
  have hl : lv_has ls 6 [(0, .ref h), (1, .int a1)] := hl
  refine lv_iload_n hx hb dX1_pass_0 rfl (lv_at hl 1 rfl) ?_
  refine lv_iconst (v := 1) hx hb dX1_pass_1 (by decide) ?_
  refine lv_bipush (v := 120) hx hb dX1_pass_2 (by decide) ?_
  refine vp_callSi (va_runS (As := [.int a1, .int 1, .int 120]) (rest := []) ⟨hx, hb, hml, hown, hts⟩ (k1_isWithin l dC dI a1 1 120 ) (va_cwS 3 hts gX1_pass_X1_isWithin rfl rfl rfl (by decide +kernel) ⟨Nat.le_of_ble_eq_true rfl, Nat.le_of_ble_eq_true rfl⟩) ⟨fun a U g mk q => q, fun U hU hW => ⟨rfl, trivial⟩⟩ rfl rfl hl.1 rfl (lv_room (Nat.le_of_ble_eq_true rfl)) dX1_pass_4 ⟨Nat.le_of_ble_eq_true rfl, Nat.le_of_ble_eq_true rfl⟩).run (fun r1 hr1 => ?_)
  rcases hr1 with ⟨rfl, fr1_0_0⟩ | ⟨rfl, fr1_1_0⟩
  · refine lv_if_ne (tgt := 20) hx hb dX1_pass_7 (by decide) (fun c2 => ?_) (fun c2 => absurd c2 (by decide))
    obtain ⟨N, hN1, hN2, hNe⟩ := zIn_nat 120 (show zIn a1 1 120 by assumption) (by decide) (by decide)
    rw [hNe] at hl
    refine lv_iconst (v := 0) hx hb dX1_pass_20 (by decide) ?_
    refine lv_istore_n (lv' := [(2, .int 0), (0, .ref h), (1, .int (nI N))]) hx hb dX1_pass_21 rfl hl (by decide) rfl (fun ls hl => ?_)
    refine lv_iconst (v := 0) hx hb dX1_pass_22 (by decide) ?_
    refine lv_istore_n (lv' := [(3, .int 0), (2, .int 0), (0, .ref h), (1, .int (nI N))]) hx hb dX1_pass_23 rfl hl (by decide) rfl (fun ls hl => ?_)
    suffices K24 : ∀ (n : Nat) (i : Nat) (mo : Int32), (i ≤ N) → N - i < n → ∀ (H : Heap) (locs : List Loc), va_P (dC, dI) vwCl [(h, .inr (1, [.ref ro, .int 0, .ref ba, .ref ra, .ref su, .int mo, .ref tr])), (ro, .inl (cR, 6, .inr (.inr (.inr (.inr (fun _ => none))))))] H → va_D A [(h, .inr (1, [.ref ro, .int 0, .ref ba, .ref ra, .ref su, .int mo, .ref tr])), (ro, .inl (cR, 6, .inr (.inr (.inr (.inr (fun _ => none))))))] → va_S A s.heap H locs → ∀ ls : Array Slot, lv_has ls 6 [(0, .ref h), (1, .int (nI N)), (2, .int 0), (3, .int (nI i))] → W p l e ({ frames := 6, cells := 1, slots := 6, locals := 82 } : Room) s m (([.ref h, .int a1] : List Value).toArray) below meth c H locs 0 0 (vx_MQ below (va_Qi (fun (r : Int32) (u : Unit) => r = 0 ∧ zIn a1 1 120) (fun (u : Unit) (t : State) => va_P (dC, dI) vwCl [] t.heap ∧ va_K (dC, dI) vwCl [] t ∧ va_D A []) A) (vx_X (fun _ : Unit => True) (fun (E : String) (_ : Unit) (_ : State) => (E = "java/lang/IllegalArgumentException" ∧ (¬ zIn a1 1 120))) A) (([.ref h, .int a1] : List Value).toArray) s 1 6 A) (F0 m 24 ls []) from
      K24 _ 0 0 (by omega) (Nat.lt_succ_self _) _ _ hP hD hS _ (lv_sub hl [2, 3, 1, 0] rfl)
    intro n
    induction n with
    | zero =>
      intro i mo hi hn
      exact absurd hn (Nat.not_lt_zero _)
    | succ n ih24 =>
      intro i mo hi hn24 H locs hP hD hS ls hl
      refine lv_iload_n hx hb dX1_pass_24 rfl (lv_at hl 3 rfl) ?_
      refine lv_iload_n hx hb dX1_pass_25 rfl (lv_at hl 1 rfl) ?_
      refine lv_icmp_ge (tgt := 93) hx hb dX1_pass_26 (by decide) (fun c3 => ?_) (fun c3 => ?_)
      · have nc3 : N ≤ i := (nI_leI (a := N) (b := i) (by omega) (by omega)).mp c3
        refine lv_iload_n hx hb dX1_pass_93 rfl (lv_at hl 2 rfl) ?_
        have hP9 := hP.sub (ws' := []) [] rfl
        have hD9 := hD.sub (ws' := []) [] (by decide) rfl
        have hK9 := hK.sub (tys' := []) [] rfl
        refine W.widen (k := 1) (n := 6) (Nat.le_of_ble_eq_true rfl) (Nat.le_of_ble_eq_true rfl) ?_
        refine vx_ret ?_
        exact W.iret (v := 0) hx hb hr (fun t ht hW => ⟨⟨0, (), rfl, by (refine ⟨?_, ?_⟩ <;> (first | rfl | assumption | decide | (simp_all; done) | grind)), ⟨by rw [ht]; exact hP9, va_K.moved hW.alike hK9, hD9⟩⟩, hS.F ht⟩) hS.2.2 dX1_pass_94
      · have nc3 : i < N := Nat.lt_of_not_le (fun q => c3 ((nI_leI (a := N) (b := i) (by omega) (by omega)).mpr q))
        refine lv_iconst (v := 0) hx hb dX1_pass_29 (by decide) ?_
        refine lv_istore (lv' := [(4, .int 0), (0, .ref h), (1, .int (nI N)), (2, .int 0), (3, .int (nI i))]) hx hb dX1_pass_30 hl (by decide) rfl (fun ls hl => ?_)
        refine lv_iload hx hb dX1_pass_32 (lv_at hl 0 rfl) ?_
        refine lv_bipush (v := 6) hx hb dX1_pass_34 (by decide) ?_
        refine lv_icmp_ge (tgt := 77) hx hb dX1_pass_36 (by decide) (fun c4 => absurd c4 (by decide)) (fun c4 => ?_)
        refine lv_aload_n hx hb dX1_pass_39 rfl (lv_at hl 1 rfl) ?_
        refine va_get (D := (dC, dI)) (ci := 1) (v := .ref ro) (C := RX1) (T := TX1) (N := 7) hx hb hts (by decide +kernel) hown hK hP 0 rfl rfl 0 (by decide) (hts (.fieldLink RX1 11 "ThatchRoof" "roofs" "[LThatchRoof$Roof;") (by decide +kernel)) (fun _ h9 => h9) rfl dX1_pass_40 ?_
        refine lv_iload hx hb dX1_pass_43 (lv_at hl 0 rfl) ?_
        refine va_aldq hx hb hK hP 1 0 rfl rfl (vp_in_nI (n := 0) (by decide) (by decide)) dX1_pass_45 ?_
        refine W.eq (g2 := F0 m 46 ls [.null]) rfl ?_
        refine lv_astoreN (lv' := [(5, .null), (4, .int 0), (0, .ref h), (1, .int (nI N)), (2, .int 0), (3, .int (nI i))]) hx hb dX1_pass_46 hl (by decide) rfl (fun ls hl => ?_)
        refine lv_aloadN hx hb dX1_pass_48 (lv_at hl 0 rfl) ?_
        refine lv_ifnullN (tgt := 71) hx hb dX1_pass_50 (by decide) ?_
        refine lv_iinc (v := 1) (lv' := [(4, .int 1), (5, .null), (0, .ref h), (1, .int (nI N)), (2, .int 0), (3, .int (nI i))]) hx hb dX1_pass_71 hl (k := 1) rfl (by decide) (by decide) rfl (fun ls hl => ?_)
        refine lv_goto (tgt := 32) hx hb dX1_pass_74 (by decide) ?_
        refine lv_iload hx hb dX1_pass_32 (lv_at hl 0 rfl) ?_
        refine lv_bipush (v := 6) hx hb dX1_pass_34 (by decide) ?_
        refine lv_icmp_ge (tgt := 77) hx hb dX1_pass_36 (by decide) (fun c5 => absurd c5 (by decide)) (fun c5 => ?_)
        refine lv_aload_n hx hb dX1_pass_39 rfl (lv_at hl 2 rfl) ?_
        refine va_get (D := (dC, dI)) (ci := 1) (v := .ref ro) (C := RX1) (T := TX1) (N := 7) hx hb hts (by decide +kernel) hown hK hP 0 rfl rfl 0 (by decide) (hts (.fieldLink RX1 11 "ThatchRoof" "roofs" "[LThatchRoof$Roof;") (by decide +kernel)) (fun _ h9 => h9) rfl dX1_pass_40 ?_
        refine lv_iload hx hb dX1_pass_43 (lv_at hl 0 rfl) ?_
        refine va_aldq hx hb hK hP 1 0 rfl rfl (vp_in_nI (n := 1) (by decide) (by decide)) dX1_pass_45 ?_
        refine W.eq (g2 := F0 m 46 ls [.null]) rfl ?_
        refine lv_astoreN (lv' := [(5, .null), (4, .int 1), (0, .ref h), (1, .int (nI N)), (2, .int 0), (3, .int (nI i))]) hx hb dX1_pass_46 hl (by decide) rfl (fun ls hl => ?_)
        refine lv_aloadN hx hb dX1_pass_48 (lv_at hl 0 rfl) ?_
        refine lv_ifnullN (tgt := 71) hx hb dX1_pass_50 (by decide) ?_
        refine lv_iinc (v := 2) (lv' := [(4, .int 2), (5, .null), (0, .ref h), (1, .int (nI N)), (2, .int 0), (3, .int (nI i))]) hx hb dX1_pass_71 hl (k := 1) rfl (by decide) (by decide) rfl (fun ls hl => ?_)
        refine lv_goto (tgt := 32) hx hb dX1_pass_74 (by decide) ?_
        refine lv_iload hx hb dX1_pass_32 (lv_at hl 0 rfl) ?_
        refine lv_bipush (v := 6) hx hb dX1_pass_34 (by decide) ?_
        refine lv_icmp_ge (tgt := 77) hx hb dX1_pass_36 (by decide) (fun c6 => absurd c6 (by decide)) (fun c6 => ?_)
        refine lv_aload_n hx hb dX1_pass_39 rfl (lv_at hl 2 rfl) ?_
        refine va_get (D := (dC, dI)) (ci := 1) (v := .ref ro) (C := RX1) (T := TX1) (N := 7) hx hb hts (by decide +kernel) hown hK hP 0 rfl rfl 0 (by decide) (hts (.fieldLink RX1 11 "ThatchRoof" "roofs" "[LThatchRoof$Roof;") (by decide +kernel)) (fun _ h9 => h9) rfl dX1_pass_40 ?_
        refine lv_iload hx hb dX1_pass_43 (lv_at hl 0 rfl) ?_
        refine va_aldq hx hb hK hP 1 0 rfl rfl (vp_in_nI (n := 2) (by decide) (by decide)) dX1_pass_45 ?_
        refine W.eq (g2 := F0 m 46 ls [.null]) rfl ?_
        refine lv_astoreN (lv' := [(5, .null), (4, .int 2), (0, .ref h), (1, .int (nI N)), (2, .int 0), (3, .int (nI i))]) hx hb dX1_pass_46 hl (by decide) rfl (fun ls hl => ?_)
        refine lv_aloadN hx hb dX1_pass_48 (lv_at hl 0 rfl) ?_
        refine lv_ifnullN (tgt := 71) hx hb dX1_pass_50 (by decide) ?_
        refine lv_iinc (v := 3) (lv' := [(4, .int 3), (5, .null), (0, .ref h), (1, .int (nI N)), (2, .int 0), (3, .int (nI i))]) hx hb dX1_pass_71 hl (k := 1) rfl (by decide) (by decide) rfl (fun ls hl => ?_)
        refine lv_goto (tgt := 32) hx hb dX1_pass_74 (by decide) ?_
        refine lv_iload hx hb dX1_pass_32 (lv_at hl 0 rfl) ?_
        refine lv_bipush (v := 6) hx hb dX1_pass_34 (by decide) ?_
        refine lv_icmp_ge (tgt := 77) hx hb dX1_pass_36 (by decide) (fun c7 => absurd c7 (by decide)) (fun c7 => ?_)
        refine lv_aload_n hx hb dX1_pass_39 rfl (lv_at hl 2 rfl) ?_
        refine va_get (D := (dC, dI)) (ci := 1) (v := .ref ro) (C := RX1) (T := TX1) (N := 7) hx hb hts (by decide +kernel) hown hK hP 0 rfl rfl 0 (by decide) (hts (.fieldLink RX1 11 "ThatchRoof" "roofs" "[LThatchRoof$Roof;") (by decide +kernel)) (fun _ h9 => h9) rfl dX1_pass_40 ?_
        refine lv_iload hx hb dX1_pass_43 (lv_at hl 0 rfl) ?_
        refine va_aldq hx hb hK hP 1 0 rfl rfl (vp_in_nI (n := 3) (by decide) (by decide)) dX1_pass_45 ?_
        refine W.eq (g2 := F0 m 46 ls [.null]) rfl ?_
        refine lv_astoreN (lv' := [(5, .null), (4, .int 3), (0, .ref h), (1, .int (nI N)), (2, .int 0), (3, .int (nI i))]) hx hb dX1_pass_46 hl (by decide) rfl (fun ls hl => ?_)
        refine lv_aloadN hx hb dX1_pass_48 (lv_at hl 0 rfl) ?_
        refine lv_ifnullN (tgt := 71) hx hb dX1_pass_50 (by decide) ?_
        refine lv_iinc (v := 4) (lv' := [(4, .int 4), (5, .null), (0, .ref h), (1, .int (nI N)), (2, .int 0), (3, .int (nI i))]) hx hb dX1_pass_71 hl (k := 1) rfl (by decide) (by decide) rfl (fun ls hl => ?_)
        refine lv_goto (tgt := 32) hx hb dX1_pass_74 (by decide) ?_
        refine lv_iload hx hb dX1_pass_32 (lv_at hl 0 rfl) ?_
        refine lv_bipush (v := 6) hx hb dX1_pass_34 (by decide) ?_
        refine lv_icmp_ge (tgt := 77) hx hb dX1_pass_36 (by decide) (fun c8 => absurd c8 (by decide)) (fun c8 => ?_)
        refine lv_aload_n hx hb dX1_pass_39 rfl (lv_at hl 2 rfl) ?_
        refine va_get (D := (dC, dI)) (ci := 1) (v := .ref ro) (C := RX1) (T := TX1) (N := 7) hx hb hts (by decide +kernel) hown hK hP 0 rfl rfl 0 (by decide) (hts (.fieldLink RX1 11 "ThatchRoof" "roofs" "[LThatchRoof$Roof;") (by decide +kernel)) (fun _ h9 => h9) rfl dX1_pass_40 ?_
        refine lv_iload hx hb dX1_pass_43 (lv_at hl 0 rfl) ?_
        refine va_aldq hx hb hK hP 1 0 rfl rfl (vp_in_nI (n := 4) (by decide) (by decide)) dX1_pass_45 ?_
        refine W.eq (g2 := F0 m 46 ls [.null]) rfl ?_
        refine lv_astoreN (lv' := [(5, .null), (4, .int 4), (0, .ref h), (1, .int (nI N)), (2, .int 0), (3, .int (nI i))]) hx hb dX1_pass_46 hl (by decide) rfl (fun ls hl => ?_)
        refine lv_aloadN hx hb dX1_pass_48 (lv_at hl 0 rfl) ?_
        refine lv_ifnullN (tgt := 71) hx hb dX1_pass_50 (by decide) ?_
        refine lv_iinc (v := 5) (lv' := [(4, .int 5), (5, .null), (0, .ref h), (1, .int (nI N)), (2, .int 0), (3, .int (nI i))]) hx hb dX1_pass_71 hl (k := 1) rfl (by decide) (by decide) rfl (fun ls hl => ?_)
        refine lv_goto (tgt := 32) hx hb dX1_pass_74 (by decide) ?_
        refine lv_iload hx hb dX1_pass_32 (lv_at hl 0 rfl) ?_
        refine lv_bipush (v := 6) hx hb dX1_pass_34 (by decide) ?_
        refine lv_icmp_ge (tgt := 77) hx hb dX1_pass_36 (by decide) (fun c9 => absurd c9 (by decide)) (fun c9 => ?_)
        refine lv_aload_n hx hb dX1_pass_39 rfl (lv_at hl 2 rfl) ?_
        refine va_get (D := (dC, dI)) (ci := 1) (v := .ref ro) (C := RX1) (T := TX1) (N := 7) hx hb hts (by decide +kernel) hown hK hP 0 rfl rfl 0 (by decide) (hts (.fieldLink RX1 11 "ThatchRoof" "roofs" "[LThatchRoof$Roof;") (by decide +kernel)) (fun _ h9 => h9) rfl dX1_pass_40 ?_
        refine lv_iload hx hb dX1_pass_43 (lv_at hl 0 rfl) ?_
        refine va_aldq hx hb hK hP 1 0 rfl rfl (vp_in_nI (n := 5) (by decide) (by decide)) dX1_pass_45 ?_
        refine W.eq (g2 := F0 m 46 ls [.null]) rfl ?_
        refine lv_astoreN (lv' := [(5, .null), (4, .int 5), (0, .ref h), (1, .int (nI N)), (2, .int 0), (3, .int (nI i))]) hx hb dX1_pass_46 hl (by decide) rfl (fun ls hl => ?_)
        refine lv_aloadN hx hb dX1_pass_48 (lv_at hl 0 rfl) ?_
        refine lv_ifnullN (tgt := 71) hx hb dX1_pass_50 (by decide) ?_
        refine lv_iinc (v := 6) (lv' := [(4, .int 6), (5, .null), (0, .ref h), (1, .int (nI N)), (2, .int 0), (3, .int (nI i))]) hx hb dX1_pass_71 hl (k := 1) rfl (by decide) (by decide) rfl (fun ls hl => ?_)
        refine lv_goto (tgt := 32) hx hb dX1_pass_74 (by decide) ?_
        refine lv_iload hx hb dX1_pass_32 (lv_at hl 0 rfl) ?_
        refine lv_bipush (v := 6) hx hb dX1_pass_34 (by decide) ?_
        refine lv_icmp_ge (tgt := 77) hx hb dX1_pass_36 (by decide) (fun c10 => ?_) (fun c10 => absurd c10 (by decide))
        refine lv_aload_n hx hb dX1_pass_77 rfl (lv_at hl 2 rfl) ?_
        refine lv_dup hx hb dX1_pass_78 rfl ?_
        refine va_get (D := (dC, dI)) (ci := 1) (v := .int mo) (C := RX1) (T := TX1) (N := 7) hx hb hts (by decide +kernel) hown hK hP 0 rfl rfl 5 (by decide) (hts (.fieldLink RX1 155 "ThatchRoof" "month" "I") (by decide +kernel)) (fun _ h9 => h9) rfl dX1_pass_79 ?_
        refine lv_iconst (v := 1) hx hb dX1_pass_82 (by decide) ?_
        refine lv_iadd hx hb dX1_pass_83 ?_
        refine lv_topi (fun x11 ex11 => ?_)
        refine va_put (D := (dC, dI)) (ci := 1) (v := .int x11) (ty := .int) (C := RX1) (T := TX1) (N := 7) hx hb hts (by decide +kernel) tyX1 tyX1_ok nmX1 hown hK hP hD hS 0 rfl rfl 5 (by decide) (hts (.fieldLink RX1 155 "ThatchRoof" "month" "I") (by decide +kernel)) (fun _ h9 => h9) rfl (by decide +kernel) rfl rfl (Nat.le_of_ble_eq_true rfl) dX1_pass_84 (fun H locs hP hD hS => ?_)
        have hP : va_P (dC, dI) vwCl [(h, .inr (1, [.ref ro, .int 0, .ref ba, .ref ra, .ref su, .int x11, .ref tr])), (ro, .inl (cR, 6, .inr (.inr (.inr (.inr (fun _ => none))))))] H := hP
        have hD : va_D A [(h, .inr (1, [.ref ro, .int 0, .ref ba, .ref ra, .ref su, .int x11, .ref tr])), (ro, .inl (cR, 6, .inr (.inr (.inr (.inr (fun _ => none))))))] := hD
        refine lv_iinc (v := nI (i + 1)) (lv' := [(3, .int (nI (i + 1))), (4, .int 6), (5, .null), (0, .ref h), (1, .int (nI N)), (2, .int 0)]) hx hb dX1_pass_87 hl (k := 5) rfl (by exact nI_1 i) (by decide) rfl (fun ls hl => ?_)
        refine lv_goto (tgt := 24) hx hb dX1_pass_90 (by decide) ?_
        exact ih24 (i + 1) x11 (by omega) (by omega) _ _ (hP.sub [0, 1] rfl) (hD.sub [0, 1] (by decide) rfl) hS _ (lv_sub hl [3, 4, 5, 0] rfl)
  · refine lv_if_ne (tgt := 20) hx hb dX1_pass_7 (by decide) (fun c12 => absurd c12 (by decide)) (fun c12 => ?_)
    obtain ⟨sa, hstr⟩ := zX_str_RX1_144 hZX
    exact vx_throwS (A := A) (names := ["java/lang/RuntimeException", "java/lang/Exception"]) (cls := "java/lang/IllegalArgumentException") (sa := sa) hx hb hst hown (by decide +kernel) (by decide +kernel) (hts (.classLink RX1 36 "java/lang/IllegalArgumentException") (by decide +kernel)) (hts (.initialized "java/lang/IllegalArgumentException") (by decide +kernel)) hstr (vx_hat (fun w hw => hts w (by unfold wsX1_pass; first | exact List.mem_cons_of_mem _ (List.mem_append_right _ hw) | exact List.mem_cons_of_mem _ (List.mem_append_left _ (List.mem_append_right _ hw)) | exact List.mem_cons_of_mem _ (List.mem_append_left _ (List.mem_append_left _ (List.mem_append_right _ hw))))) zAt_X1_40 (vx_c (va_Nw.use rfl (zX_cA hZX)) (vx_c (va_Nw.use rfl (zX_d0 hZX)) (vx_c (va_Nw.use rfl (zX_d1 hZX)) (vx_c (va_Nw.use rfl (zX_d2 hZX)) vx_n))))) (zGo_X1_40 36) hZT.1 hZT.2 hS (hl.1.trans hml.symm) dX1_pass_10 dX1_pass_13 dX1_pass_14 dX1_pass_16 dX1_pass_19 (fun x hx => (hnt x hx).elim) (Nat.le_of_ble_eq_true rfl) (Nat.le_of_ble_eq_true rfl) (Nat.le_of_ble_eq_true rfl) (Nat.le_of_ble_eq_true rfl) hlocks (fun t h1 h2 h3 => ⟨(), trivial, by first | (refine ⟨rfl, ?_⟩ <;> (first | assumption | (simp_all; done) | grind); done), ⟨Nat.le_trans hS.1 h2, fun q hq hn => (h3 q (Nat.lt_of_lt_of_le hq hS.1)).trans (hS.2.1 q hq hn)⟩⟩) hS.2.2 (Nat.le_of_ble_eq_true rfl) (Nat.le_of_ble_eq_true rfl)

set_option maxHeartbeats 4000000 in
set_option maxRecDepth 100000 in
theorem k1_mean (l : Launch) (dC : Nat → ClassId) (dI : Nat → Nat → Nat) (h : Nat) (ro : Nat) (ba : Nat) (ra : Nat) (su : Nat) (tr : Nat) (cR : ClassId) : Met l yX1_mean wsX1_mean ({ frames := 0, cells := 0, slots := 0, locals := 0 }) (va_Pc [.ref h] (fun U => va_P (dC, dI) vwCl [(h, .inr (1, [.ref ro, .int 0, .ref ba, .ref ra, .ref su, .int 0, .ref tr])), (ro, .inl (cR, 6, .inr (.inr (.inr (.inr (fun _ => none))))))] U.heap ∧ va_K (dC, dI) vwCl [(cR, .object RX0)] U)) (vp_Sd (fun r : UInt64 => r = 0)) 0 0 (fun _ => False) := by
  refine Met.ofW (cc := cX1_mean) (maxL := 5) (ret := (some .double)) (by decide) rfl ?_
  intro p e s m args below meth c s₁ B hml hv
  obtain ⟨rfl, hP, hK⟩ := hv
  have hx := B.exec
  have hb := B.bytes
  have hr := B.returns
  have hts := atoms_spec (ws := wsX1_mean) B.pre
  have hown : s.vm.findClass RX1 = some m.cls := findClass_of_methodNamed B.named
  have hlocks := B.notSynchronized
  have hP : va_P (dC, dI) vwCl [(h, .inr (1, [.ref ro, .int 0, .ref ba, .ref ra, .ref su, .int 0, .ref tr])), (ro, .inl (cR, 6, .inr (.inr (.inr (.inr (fun _ => none))))))] s.heap := hP
  have hl := lv_entry ([.ref h]) (n := 5) (Nat.le_of_ble_eq_true rfl)
  rw [lg_entry_eq]
  generalize (lg_sl ([.ref h]) ++ List.replicate (5 - (lg_sl ([.ref h])).length) Slot.unset).toArray = ls at hl ⊢
  have hl : lv_has ls 5 [(0, .ref h)] := hl
  refine lv_iconst (v := 0) hx hb dX1_mean_0 (by decide) ?_
  refine lv_istore_n (lv' := [(1, .int 0), (0, .ref h)]) hx hb dX1_mean_1 rfl hl (by decide) rfl (fun ls hl => ?_)
  refine lv_iconst (v := 0) hx hb dX1_mean_2 (by decide) ?_
  refine lv_istore_n (lv' := [(2, .int 0), (1, .int 0), (0, .ref h)]) hx hb dX1_mean_3 rfl hl (by decide) rfl (fun ls hl => ?_)
  refine lv_iconst (v := 0) hx hb dX1_mean_4 (by decide) ?_
  refine lv_istore_n (lv' := [(3, .int 0), (2, .int 0), (1, .int 0), (0, .ref h)]) hx hb dX1_mean_5 rfl hl (by decide) rfl (fun ls hl => ?_)
  refine lv_iload_n hx hb dX1_mean_6 rfl (lv_at hl 0 rfl) ?_
  refine lv_bipush (v := 6) hx hb dX1_mean_7 (by decide) ?_
  refine lv_icmp_ge (tgt := 47) hx hb dX1_mean_9 (by decide) (fun c1 => absurd c1 (by decide)) (fun c1 => ?_)
  refine lv_aload_n hx hb dX1_mean_12 rfl (lv_at hl 3 rfl) ?_
  refine va_get (D := (dC, dI)) (ci := 1) (v := .ref ro) (C := RX1) (T := TX1) (N := 7) hx hb hts (by decide +kernel) hown hK hP 0 rfl rfl 0 (by decide) (hts (.fieldLink RX1 11 "ThatchRoof" "roofs" "[LThatchRoof$Roof;") (by decide +kernel)) (fun _ h9 => h9) rfl dX1_mean_13 ?_
  refine lv_iload_n hx hb dX1_mean_16 rfl (lv_at hl 0 rfl) ?_
  refine va_aldq hx hb hK hP 1 0 rfl rfl (vp_in_nI (n := 0) (by decide) (by decide)) dX1_mean_17 ?_
  refine W.eq (g2 := F0 m 18 ls [.null]) rfl ?_
  refine lv_astoreN (lv' := [(4, .null), (3, .int 0), (2, .int 0), (1, .int 0), (0, .ref h)]) hx hb dX1_mean_18 hl (by decide) rfl (fun ls hl => ?_)
  refine lv_aloadN hx hb dX1_mean_20 (lv_at hl 0 rfl) ?_
  refine lv_ifnullN (tgt := 41) hx hb dX1_mean_22 (by decide) ?_
  refine lv_iinc (v := 1) (lv' := [(3, .int 1), (4, .null), (2, .int 0), (1, .int 0), (0, .ref h)]) hx hb dX1_mean_41 hl (k := 1) rfl (by decide) (by decide) rfl (fun ls hl => ?_)
  refine lv_goto (tgt := 6) hx hb dX1_mean_44 (by decide) ?_
  refine lv_iload_n hx hb dX1_mean_6 rfl (lv_at hl 0 rfl) ?_
  refine lv_bipush (v := 6) hx hb dX1_mean_7 (by decide) ?_
  refine lv_icmp_ge (tgt := 47) hx hb dX1_mean_9 (by decide) (fun c2 => absurd c2 (by decide)) (fun c2 => ?_)
  refine lv_aload_n hx hb dX1_mean_12 rfl (lv_at hl 4 rfl) ?_
  refine va_get (D := (dC, dI)) (ci := 1) (v := .ref ro) (C := RX1) (T := TX1) (N := 7) hx hb hts (by decide +kernel) hown hK hP 0 rfl rfl 0 (by decide) (hts (.fieldLink RX1 11 "ThatchRoof" "roofs" "[LThatchRoof$Roof;") (by decide +kernel)) (fun _ h9 => h9) rfl dX1_mean_13 ?_
  refine lv_iload_n hx hb dX1_mean_16 rfl (lv_at hl 0 rfl) ?_
  refine va_aldq hx hb hK hP 1 0 rfl rfl (vp_in_nI (n := 1) (by decide) (by decide)) dX1_mean_17 ?_
  refine W.eq (g2 := F0 m 18 ls [.null]) rfl ?_
  refine lv_astoreN (lv' := [(4, .null), (3, .int 1), (2, .int 0), (1, .int 0), (0, .ref h)]) hx hb dX1_mean_18 hl (by decide) rfl (fun ls hl => ?_)
  refine lv_aloadN hx hb dX1_mean_20 (lv_at hl 0 rfl) ?_
  refine lv_ifnullN (tgt := 41) hx hb dX1_mean_22 (by decide) ?_
  refine lv_iinc (v := 2) (lv' := [(3, .int 2), (4, .null), (2, .int 0), (1, .int 0), (0, .ref h)]) hx hb dX1_mean_41 hl (k := 1) rfl (by decide) (by decide) rfl (fun ls hl => ?_)
  refine lv_goto (tgt := 6) hx hb dX1_mean_44 (by decide) ?_
  refine lv_iload_n hx hb dX1_mean_6 rfl (lv_at hl 0 rfl) ?_
  refine lv_bipush (v := 6) hx hb dX1_mean_7 (by decide) ?_
  refine lv_icmp_ge (tgt := 47) hx hb dX1_mean_9 (by decide) (fun c3 => absurd c3 (by decide)) (fun c3 => ?_)
  refine lv_aload_n hx hb dX1_mean_12 rfl (lv_at hl 4 rfl) ?_
  refine va_get (D := (dC, dI)) (ci := 1) (v := .ref ro) (C := RX1) (T := TX1) (N := 7) hx hb hts (by decide +kernel) hown hK hP 0 rfl rfl 0 (by decide) (hts (.fieldLink RX1 11 "ThatchRoof" "roofs" "[LThatchRoof$Roof;") (by decide +kernel)) (fun _ h9 => h9) rfl dX1_mean_13 ?_
  refine lv_iload_n hx hb dX1_mean_16 rfl (lv_at hl 0 rfl) ?_
  refine va_aldq hx hb hK hP 1 0 rfl rfl (vp_in_nI (n := 2) (by decide) (by decide)) dX1_mean_17 ?_
  refine W.eq (g2 := F0 m 18 ls [.null]) rfl ?_
  refine lv_astoreN (lv' := [(4, .null), (3, .int 2), (2, .int 0), (1, .int 0), (0, .ref h)]) hx hb dX1_mean_18 hl (by decide) rfl (fun ls hl => ?_)
  refine lv_aloadN hx hb dX1_mean_20 (lv_at hl 0 rfl) ?_
  refine lv_ifnullN (tgt := 41) hx hb dX1_mean_22 (by decide) ?_
  refine lv_iinc (v := 3) (lv' := [(3, .int 3), (4, .null), (2, .int 0), (1, .int 0), (0, .ref h)]) hx hb dX1_mean_41 hl (k := 1) rfl (by decide) (by decide) rfl (fun ls hl => ?_)
  refine lv_goto (tgt := 6) hx hb dX1_mean_44 (by decide) ?_
  refine lv_iload_n hx hb dX1_mean_6 rfl (lv_at hl 0 rfl) ?_
  refine lv_bipush (v := 6) hx hb dX1_mean_7 (by decide) ?_
  refine lv_icmp_ge (tgt := 47) hx hb dX1_mean_9 (by decide) (fun c4 => absurd c4 (by decide)) (fun c4 => ?_)
  refine lv_aload_n hx hb dX1_mean_12 rfl (lv_at hl 4 rfl) ?_
  refine va_get (D := (dC, dI)) (ci := 1) (v := .ref ro) (C := RX1) (T := TX1) (N := 7) hx hb hts (by decide +kernel) hown hK hP 0 rfl rfl 0 (by decide) (hts (.fieldLink RX1 11 "ThatchRoof" "roofs" "[LThatchRoof$Roof;") (by decide +kernel)) (fun _ h9 => h9) rfl dX1_mean_13 ?_
  refine lv_iload_n hx hb dX1_mean_16 rfl (lv_at hl 0 rfl) ?_
  refine va_aldq hx hb hK hP 1 0 rfl rfl (vp_in_nI (n := 3) (by decide) (by decide)) dX1_mean_17 ?_
  refine W.eq (g2 := F0 m 18 ls [.null]) rfl ?_
  refine lv_astoreN (lv' := [(4, .null), (3, .int 3), (2, .int 0), (1, .int 0), (0, .ref h)]) hx hb dX1_mean_18 hl (by decide) rfl (fun ls hl => ?_)
  refine lv_aloadN hx hb dX1_mean_20 (lv_at hl 0 rfl) ?_
  refine lv_ifnullN (tgt := 41) hx hb dX1_mean_22 (by decide) ?_
  refine lv_iinc (v := 4) (lv' := [(3, .int 4), (4, .null), (2, .int 0), (1, .int 0), (0, .ref h)]) hx hb dX1_mean_41 hl (k := 1) rfl (by decide) (by decide) rfl (fun ls hl => ?_)
  refine lv_goto (tgt := 6) hx hb dX1_mean_44 (by decide) ?_
  refine lv_iload_n hx hb dX1_mean_6 rfl (lv_at hl 0 rfl) ?_
  refine lv_bipush (v := 6) hx hb dX1_mean_7 (by decide) ?_
  refine lv_icmp_ge (tgt := 47) hx hb dX1_mean_9 (by decide) (fun c5 => absurd c5 (by decide)) (fun c5 => ?_)
  refine lv_aload_n hx hb dX1_mean_12 rfl (lv_at hl 4 rfl) ?_
  refine va_get (D := (dC, dI)) (ci := 1) (v := .ref ro) (C := RX1) (T := TX1) (N := 7) hx hb hts (by decide +kernel) hown hK hP 0 rfl rfl 0 (by decide) (hts (.fieldLink RX1 11 "ThatchRoof" "roofs" "[LThatchRoof$Roof;") (by decide +kernel)) (fun _ h9 => h9) rfl dX1_mean_13 ?_
  refine lv_iload_n hx hb dX1_mean_16 rfl (lv_at hl 0 rfl) ?_
  refine va_aldq hx hb hK hP 1 0 rfl rfl (vp_in_nI (n := 4) (by decide) (by decide)) dX1_mean_17 ?_
  refine W.eq (g2 := F0 m 18 ls [.null]) rfl ?_
  refine lv_astoreN (lv' := [(4, .null), (3, .int 4), (2, .int 0), (1, .int 0), (0, .ref h)]) hx hb dX1_mean_18 hl (by decide) rfl (fun ls hl => ?_)
  refine lv_aloadN hx hb dX1_mean_20 (lv_at hl 0 rfl) ?_
  refine lv_ifnullN (tgt := 41) hx hb dX1_mean_22 (by decide) ?_
  refine lv_iinc (v := 5) (lv' := [(3, .int 5), (4, .null), (2, .int 0), (1, .int 0), (0, .ref h)]) hx hb dX1_mean_41 hl (k := 1) rfl (by decide) (by decide) rfl (fun ls hl => ?_)
  refine lv_goto (tgt := 6) hx hb dX1_mean_44 (by decide) ?_
  refine lv_iload_n hx hb dX1_mean_6 rfl (lv_at hl 0 rfl) ?_
  refine lv_bipush (v := 6) hx hb dX1_mean_7 (by decide) ?_
  refine lv_icmp_ge (tgt := 47) hx hb dX1_mean_9 (by decide) (fun c6 => absurd c6 (by decide)) (fun c6 => ?_)
  refine lv_aload_n hx hb dX1_mean_12 rfl (lv_at hl 4 rfl) ?_
  refine va_get (D := (dC, dI)) (ci := 1) (v := .ref ro) (C := RX1) (T := TX1) (N := 7) hx hb hts (by decide +kernel) hown hK hP 0 rfl rfl 0 (by decide) (hts (.fieldLink RX1 11 "ThatchRoof" "roofs" "[LThatchRoof$Roof;") (by decide +kernel)) (fun _ h9 => h9) rfl dX1_mean_13 ?_
  refine lv_iload_n hx hb dX1_mean_16 rfl (lv_at hl 0 rfl) ?_
  refine va_aldq hx hb hK hP 1 0 rfl rfl (vp_in_nI (n := 5) (by decide) (by decide)) dX1_mean_17 ?_
  refine W.eq (g2 := F0 m 18 ls [.null]) rfl ?_
  refine lv_astoreN (lv' := [(4, .null), (3, .int 5), (2, .int 0), (1, .int 0), (0, .ref h)]) hx hb dX1_mean_18 hl (by decide) rfl (fun ls hl => ?_)
  refine lv_aloadN hx hb dX1_mean_20 (lv_at hl 0 rfl) ?_
  refine lv_ifnullN (tgt := 41) hx hb dX1_mean_22 (by decide) ?_
  refine lv_iinc (v := 6) (lv' := [(3, .int 6), (4, .null), (2, .int 0), (1, .int 0), (0, .ref h)]) hx hb dX1_mean_41 hl (k := 1) rfl (by decide) (by decide) rfl (fun ls hl => ?_)
  refine lv_goto (tgt := 6) hx hb dX1_mean_44 (by decide) ?_
  refine lv_iload_n hx hb dX1_mean_6 rfl (lv_at hl 0 rfl) ?_
  refine lv_bipush (v := 6) hx hb dX1_mean_7 (by decide) ?_
  refine lv_icmp_ge (tgt := 47) hx hb dX1_mean_9 (by decide) (fun c7 => ?_) (fun c7 => absurd c7 (by decide))
  refine lv_iload_n hx hb dX1_mean_47 rfl (lv_at hl 3 rfl) ?_
  refine lv_if_ne (tgt := 55) hx hb dX1_mean_48 (by decide) (fun c8 => absurd c8 (by decide)) (fun c8 => ?_)
  refine lv_dconst0 hx hb dX1_mean_51 ?_
  refine lv_goto (tgt := 60) hx hb dX1_mean_52 (by decide) ?_
  exact W.dret (v := 0) hx hb hr (fun t ht hW => ⟨0, rfl, by (first | rfl | assumption | decide | (simp_all; done) | grind), ht⟩) (fun _ h => nomatch h) dX1_mean_60

set_option maxHeartbeats 4000000 in
set_option maxRecDepth 100000 in
theorem k1_digest (l : Launch) (dC : Nat → ClassId) (dI : Nat → Nat → Nat) (h : Nat) (ro : Nat) (ba : Nat) (ra : Nat) (su : Nat) (tr : Nat) (cR : ClassId) (cB : ClassId) (cA : ClassId) (fr : Nat → Int32) (cS : ClassId) (hra : ∀ j : Nat, j < 12 → fr j = 4) : Met l yX1_digest wsX1_digest ({ frames := 4, cells := 0, slots := 0, locals := 85 }) (va_Pc [.ref h] (fun U => va_P (dC, dI) vwCl [(h, .inr (1, [.ref ro, .int 0, .ref ba, .ref ra, .ref su, .int 0, .ref tr])), (ro, .inl (cR, 6, .inr (.inr (.inr (.inr (fun _ => none)))))), (ba, .inl (cB, 3, .inl (fun _ => 0))), (ra, .inl (cA, 12, .inl fr)), (su, .inl (cS, 12, .inl (fun _ => 0)))] U.heap ∧ va_K (dC, dI) vwCl [(cR, .object RX0), (cB, .int), (cA, .int), (cS, .int)] U)) (vp_Sl (fun r : Int64 => r = (-6060411835929444999))) 0 0 (fun _ => False) := by
  refine Met.ofW (cc := cX1_digest) (maxL := 5) (ret := (some .long)) (by decide) rfl ?_
  intro p e s m args below meth c s₁ B hml hv
  obtain ⟨rfl, hP, hK⟩ := hv
  have hx := B.exec
  have hb := B.bytes
  have hr := B.returns
  have hts := atoms_spec (ws := wsX1_digest) B.pre
  have hown : s.vm.findClass RX1 = some m.cls := findClass_of_methodNamed B.named
  have hlocks := B.notSynchronized
  have hP : va_P (dC, dI) vwCl [(h, .inr (1, [.ref ro, .int 0, .ref ba, .ref ra, .ref su, .int 0, .ref tr])), (ro, .inl (cR, 6, .inr (.inr (.inr (.inr (fun _ => none)))))), (ba, .inl (cB, 3, .inl (fun _ => 0))), (ra, .inl (cA, 12, .inl fr)), (su, .inl (cS, 12, .inl (fun _ => 0)))] s.heap := hP
  have hl := lv_entry ([.ref h]) (n := 5) (Nat.le_of_ble_eq_true rfl)
  rw [lg_entry_eq]
  generalize (lg_sl ([.ref h]) ++ List.replicate (5 - (lg_sl ([.ref h])).length) Slot.unset).toArray = ls at hl ⊢
  have hl : lv_has ls 5 [(0, .ref h)] := hl
  refine lv_ldc2 (v := 739) hx hb hown (hts (.constantLong RX1 197 739) (by decide +kernel)) dX1_digest_0 ?_
  refine lv_lstore_n (lv' := [(1, .long 739), (0, .ref h)]) hx hb dX1_digest_3 rfl hl (by decide) rfl (fun ls hl => ?_)
  refine lv_iconst (v := 0) hx hb dX1_digest_4 (by decide) ?_
  refine lv_istore_n (lv' := [(3, .int 0), (1, .long 739), (0, .ref h)]) hx hb dX1_digest_5 rfl hl (by decide) rfl (fun ls hl => ?_)
  refine lv_iload_n hx hb dX1_digest_6 rfl (lv_at hl 0 rfl) ?_
  refine lv_bipush (v := 9) hx hb dX1_digest_7 (by decide) ?_
  refine lv_icmp_ge (tgt := 31) hx hb dX1_digest_9 (by decide) (fun c1 => absurd c1 (by decide)) (fun c1 => ?_)
  refine lv_lload_n hx hb dX1_digest_12 rfl (lv_at hl 1 rfl) ?_
  refine lv_ldc2 (v := 31) hx hb hown (hts (.constantLong RX1 199 31) (by decide +kernel)) dX1_digest_13 ?_
  refine lv_lmul hx hb dX1_digest_16 ?_
  refine W.eq (g2 := F0 m 17 ls [.long 22909]) rfl ?_
  refine lv_aload_n hx hb dX1_digest_17 rfl (lv_at hl 2 rfl) ?_
  refine lv_iload_n hx hb dX1_digest_18 rfl (lv_at hl 0 rfl) ?_
  have hPc := hP.sub (ws' := [(h, .inr (1, [.ref ro, .int 0, .ref ba, .ref ra, .ref su, .int 0, .ref tr])), (ro, .inl (cR, 6, .inr (.inr (.inr (.inr (fun _ => none)))))), (ba, .inl (cB, 3, .inl (fun _ => 0))), (ra, .inl (cA, 12, .inl fr)), (su, .inl (cS, 12, .inl (fun _ => 0)))]) [0, 1, 2, 3, 4] rfl
  have hKc := hK.sub (tys' := [(cR, .object RX0), (cB, .int), (cA, .int), (cS, .int)]) [0, 1, 2, 3] rfl
  refine vp_callSi (va_runV (As := [.int 0]) (rest := [.long 22909]) ⟨hx, hb, hml, hown, hts⟩ (k1_tally0 l dC dI h ro ba ra su tr cR cB cA fr cS (by first | assumption | decide | omega)) (cwV 1 hts gX1_digest_X1_tally rfl rfl rfl (by decide +kernel) ⟨Nat.le_of_ble_eq_true rfl, Nat.le_of_ble_eq_true rfl⟩) ⟨fun a U g mk q => by obtain ⟨q0, qP, qK⟩ := q; exact ⟨q0, qP, va_K.moved (u := U) (U := U.calling g mk a) (Vm.Alike.refl U.vm) qK⟩, va_recv hKc hPc (ci := 1) (q0 := 0) rfl rfl, fun U hU hW => ⟨rfl, by rw [hU]; exact hPc, va_K.moved hW.alike hKc⟩⟩ rfl rfl hl.1 rfl (lv_room (Nat.le_of_ble_eq_true rfl)) dX1_digest_19 ⟨Nat.le_of_ble_eq_true rfl, Nat.le_of_ble_eq_true rfl⟩).run (fun r2 hr2 => ?_)
  obtain rfl := hr2
  refine lv_i2l (v := 0) hx hb dX1_digest_22 (by first | rfl | decide) ?_
  refine lv_ladd hx hb dX1_digest_23 ?_
  refine W.eq (g2 := F0 m 24 ls [.long 22909]) rfl ?_
  refine lv_lstore_n (lv' := [(1, .long 22909), (3, .int 0), (0, .ref h)]) hx hb dX1_digest_24 rfl hl (by decide) rfl (fun ls hl => ?_)
  refine lv_iinc (v := 1) (lv' := [(3, .int 1), (1, .long 22909), (0, .ref h)]) hx hb dX1_digest_25 hl (k := 1) rfl (by decide) (by decide) rfl (fun ls hl => ?_)
  refine lv_goto (tgt := 6) hx hb dX1_digest_28 (by decide) ?_
  refine lv_iload_n hx hb dX1_digest_6 rfl (lv_at hl 0 rfl) ?_
  refine lv_bipush (v := 9) hx hb dX1_digest_7 (by decide) ?_
  refine lv_icmp_ge (tgt := 31) hx hb dX1_digest_9 (by decide) (fun c3 => absurd c3 (by decide)) (fun c3 => ?_)
  refine lv_lload_n hx hb dX1_digest_12 rfl (lv_at hl 1 rfl) ?_
  refine lv_ldc2 (v := 31) hx hb hown (hts (.constantLong RX1 199 31) (by decide +kernel)) dX1_digest_13 ?_
  refine lv_lmul hx hb dX1_digest_16 ?_
  refine W.eq (g2 := F0 m 17 ls [.long 710179]) rfl ?_
  refine lv_aload_n hx hb dX1_digest_17 rfl (lv_at hl 2 rfl) ?_
  refine lv_iload_n hx hb dX1_digest_18 rfl (lv_at hl 0 rfl) ?_
  have hPc := hP.sub (ws' := [(h, .inr (1, [.ref ro, .int 0, .ref ba, .ref ra, .ref su, .int 0, .ref tr])), (ro, .inl (cR, 6, .inr (.inr (.inr (.inr (fun _ => none)))))), (ba, .inl (cB, 3, .inl (fun _ => 0))), (ra, .inl (cA, 12, .inl fr)), (su, .inl (cS, 12, .inl (fun _ => 0)))]) [0, 1, 2, 3, 4] rfl
  have hKc := hK.sub (tys' := [(cR, .object RX0), (cB, .int), (cA, .int), (cS, .int)]) [0, 1, 2, 3] rfl
  refine vp_callSi (va_runV (As := [.int 1]) (rest := [.long 710179]) ⟨hx, hb, hml, hown, hts⟩ (k1_tally1 l dC dI h ro ba ra su tr cR cB cA fr cS (by first | assumption | decide | omega)) (cwV 1 hts gX1_digest_X1_tally rfl rfl rfl (by decide +kernel) ⟨Nat.le_of_ble_eq_true rfl, Nat.le_of_ble_eq_true rfl⟩) ⟨fun a U g mk q => by obtain ⟨q0, qP, qK⟩ := q; exact ⟨q0, qP, va_K.moved (u := U) (U := U.calling g mk a) (Vm.Alike.refl U.vm) qK⟩, va_recv hKc hPc (ci := 1) (q0 := 0) rfl rfl, fun U hU hW => ⟨rfl, by rw [hU]; exact hPc, va_K.moved hW.alike hKc⟩⟩ rfl rfl hl.1 rfl (lv_room (Nat.le_of_ble_eq_true rfl)) dX1_digest_19 ⟨Nat.le_of_ble_eq_true rfl, Nat.le_of_ble_eq_true rfl⟩).run (fun r4 hr4 => ?_)
  obtain rfl := hr4
  refine lv_i2l (v := 0) hx hb dX1_digest_22 (by first | rfl | decide) ?_
  refine lv_ladd hx hb dX1_digest_23 ?_
  refine W.eq (g2 := F0 m 24 ls [.long 710179]) rfl ?_
  refine lv_lstore_n (lv' := [(1, .long 710179), (3, .int 1), (0, .ref h)]) hx hb dX1_digest_24 rfl hl (by decide) rfl (fun ls hl => ?_)
  refine lv_iinc (v := 2) (lv' := [(3, .int 2), (1, .long 710179), (0, .ref h)]) hx hb dX1_digest_25 hl (k := 1) rfl (by decide) (by decide) rfl (fun ls hl => ?_)
  refine lv_goto (tgt := 6) hx hb dX1_digest_28 (by decide) ?_
  refine lv_iload_n hx hb dX1_digest_6 rfl (lv_at hl 0 rfl) ?_
  refine lv_bipush (v := 9) hx hb dX1_digest_7 (by decide) ?_
  refine lv_icmp_ge (tgt := 31) hx hb dX1_digest_9 (by decide) (fun c5 => absurd c5 (by decide)) (fun c5 => ?_)
  refine lv_lload_n hx hb dX1_digest_12 rfl (lv_at hl 1 rfl) ?_
  refine lv_ldc2 (v := 31) hx hb hown (hts (.constantLong RX1 199 31) (by decide +kernel)) dX1_digest_13 ?_
  refine lv_lmul hx hb dX1_digest_16 ?_
  refine W.eq (g2 := F0 m 17 ls [.long 22015549]) rfl ?_
  refine lv_aload_n hx hb dX1_digest_17 rfl (lv_at hl 2 rfl) ?_
  refine lv_iload_n hx hb dX1_digest_18 rfl (lv_at hl 0 rfl) ?_
  have hPc := hP.sub (ws' := [(h, .inr (1, [.ref ro, .int 0, .ref ba, .ref ra, .ref su, .int 0, .ref tr])), (ro, .inl (cR, 6, .inr (.inr (.inr (.inr (fun _ => none)))))), (ba, .inl (cB, 3, .inl (fun _ => 0))), (ra, .inl (cA, 12, .inl fr)), (su, .inl (cS, 12, .inl (fun _ => 0)))]) [0, 1, 2, 3, 4] rfl
  have hKc := hK.sub (tys' := [(cR, .object RX0), (cB, .int), (cA, .int), (cS, .int)]) [0, 1, 2, 3] rfl
  refine vp_callSi (va_runV (As := [.int 2]) (rest := [.long 22015549]) ⟨hx, hb, hml, hown, hts⟩ (k1_tally2 l dC dI h ro ba ra su tr cR cB cA fr cS (by first | assumption | decide | omega)) (cwV 1 hts gX1_digest_X1_tally rfl rfl rfl (by decide +kernel) ⟨Nat.le_of_ble_eq_true rfl, Nat.le_of_ble_eq_true rfl⟩) ⟨fun a U g mk q => by obtain ⟨q0, qP, qK⟩ := q; exact ⟨q0, qP, va_K.moved (u := U) (U := U.calling g mk a) (Vm.Alike.refl U.vm) qK⟩, va_recv hKc hPc (ci := 1) (q0 := 0) rfl rfl, fun U hU hW => ⟨rfl, by rw [hU]; exact hPc, va_K.moved hW.alike hKc⟩⟩ rfl rfl hl.1 rfl (lv_room (Nat.le_of_ble_eq_true rfl)) dX1_digest_19 ⟨Nat.le_of_ble_eq_true rfl, Nat.le_of_ble_eq_true rfl⟩).run (fun r6 hr6 => ?_)
  obtain rfl := hr6
  refine lv_i2l (v := 0) hx hb dX1_digest_22 (by first | rfl | decide) ?_
  refine lv_ladd hx hb dX1_digest_23 ?_
  refine W.eq (g2 := F0 m 24 ls [.long 22015549]) rfl ?_
  refine lv_lstore_n (lv' := [(1, .long 22015549), (3, .int 2), (0, .ref h)]) hx hb dX1_digest_24 rfl hl (by decide) rfl (fun ls hl => ?_)
  refine lv_iinc (v := 3) (lv' := [(3, .int 3), (1, .long 22015549), (0, .ref h)]) hx hb dX1_digest_25 hl (k := 1) rfl (by decide) (by decide) rfl (fun ls hl => ?_)
  refine lv_goto (tgt := 6) hx hb dX1_digest_28 (by decide) ?_
  refine lv_iload_n hx hb dX1_digest_6 rfl (lv_at hl 0 rfl) ?_
  refine lv_bipush (v := 9) hx hb dX1_digest_7 (by decide) ?_
  refine lv_icmp_ge (tgt := 31) hx hb dX1_digest_9 (by decide) (fun c7 => absurd c7 (by decide)) (fun c7 => ?_)
  refine lv_lload_n hx hb dX1_digest_12 rfl (lv_at hl 1 rfl) ?_
  refine lv_ldc2 (v := 31) hx hb hown (hts (.constantLong RX1 199 31) (by decide +kernel)) dX1_digest_13 ?_
  refine lv_lmul hx hb dX1_digest_16 ?_
  refine W.eq (g2 := F0 m 17 ls [.long 682482019]) rfl ?_
  refine lv_aload_n hx hb dX1_digest_17 rfl (lv_at hl 2 rfl) ?_
  refine lv_iload_n hx hb dX1_digest_18 rfl (lv_at hl 0 rfl) ?_
  have hPc := hP.sub (ws' := [(h, .inr (1, [.ref ro, .int 0, .ref ba, .ref ra, .ref su, .int 0, .ref tr])), (ro, .inl (cR, 6, .inr (.inr (.inr (.inr (fun _ => none)))))), (ba, .inl (cB, 3, .inl (fun _ => 0))), (ra, .inl (cA, 12, .inl fr)), (su, .inl (cS, 12, .inl (fun _ => 0)))]) [0, 1, 2, 3, 4] rfl
  have hKc := hK.sub (tys' := [(cR, .object RX0), (cB, .int), (cA, .int), (cS, .int)]) [0, 1, 2, 3] rfl
  refine vp_callSi (va_runV (As := [.int 3]) (rest := [.long 682482019]) ⟨hx, hb, hml, hown, hts⟩ (k1_tally3 l dC dI h ro ba ra su tr cR cB cA fr cS (by first | assumption | decide | omega)) (cwV 1 hts gX1_digest_X1_tally rfl rfl rfl (by decide +kernel) ⟨Nat.le_of_ble_eq_true rfl, Nat.le_of_ble_eq_true rfl⟩) ⟨fun a U g mk q => by obtain ⟨q0, qP, qK⟩ := q; exact ⟨q0, qP, va_K.moved (u := U) (U := U.calling g mk a) (Vm.Alike.refl U.vm) qK⟩, va_recv hKc hPc (ci := 1) (q0 := 0) rfl rfl, fun U hU hW => ⟨rfl, by rw [hU]; exact hPc, va_K.moved hW.alike hKc⟩⟩ rfl rfl hl.1 rfl (lv_room (Nat.le_of_ble_eq_true rfl)) dX1_digest_19 ⟨Nat.le_of_ble_eq_true rfl, Nat.le_of_ble_eq_true rfl⟩).run (fun r8 hr8 => ?_)
  obtain rfl := hr8
  refine lv_i2l (v := 0) hx hb dX1_digest_22 (by first | rfl | decide) ?_
  refine lv_ladd hx hb dX1_digest_23 ?_
  refine W.eq (g2 := F0 m 24 ls [.long 682482019]) rfl ?_
  refine lv_lstore_n (lv' := [(1, .long 682482019), (3, .int 3), (0, .ref h)]) hx hb dX1_digest_24 rfl hl (by decide) rfl (fun ls hl => ?_)
  refine lv_iinc (v := 4) (lv' := [(3, .int 4), (1, .long 682482019), (0, .ref h)]) hx hb dX1_digest_25 hl (k := 1) rfl (by decide) (by decide) rfl (fun ls hl => ?_)
  refine lv_goto (tgt := 6) hx hb dX1_digest_28 (by decide) ?_
  refine lv_iload_n hx hb dX1_digest_6 rfl (lv_at hl 0 rfl) ?_
  refine lv_bipush (v := 9) hx hb dX1_digest_7 (by decide) ?_
  refine lv_icmp_ge (tgt := 31) hx hb dX1_digest_9 (by decide) (fun c9 => absurd c9 (by decide)) (fun c9 => ?_)
  refine lv_lload_n hx hb dX1_digest_12 rfl (lv_at hl 1 rfl) ?_
  refine lv_ldc2 (v := 31) hx hb hown (hts (.constantLong RX1 199 31) (by decide +kernel)) dX1_digest_13 ?_
  refine lv_lmul hx hb dX1_digest_16 ?_
  refine W.eq (g2 := F0 m 17 ls [.long 21156942589]) rfl ?_
  refine lv_aload_n hx hb dX1_digest_17 rfl (lv_at hl 2 rfl) ?_
  refine lv_iload_n hx hb dX1_digest_18 rfl (lv_at hl 0 rfl) ?_
  have hPc := hP.sub (ws' := [(h, .inr (1, [.ref ro, .int 0, .ref ba, .ref ra, .ref su, .int 0, .ref tr])), (ro, .inl (cR, 6, .inr (.inr (.inr (.inr (fun _ => none)))))), (ba, .inl (cB, 3, .inl (fun _ => 0))), (ra, .inl (cA, 12, .inl fr)), (su, .inl (cS, 12, .inl (fun _ => 0)))]) [0, 1, 2, 3, 4] rfl
  have hKc := hK.sub (tys' := [(cR, .object RX0), (cB, .int), (cA, .int), (cS, .int)]) [0, 1, 2, 3] rfl
  refine vp_callSi (va_runV (As := [.int 4]) (rest := [.long 21156942589]) ⟨hx, hb, hml, hown, hts⟩ (k1_tally4 l dC dI h ro ba ra su tr cR cB cA fr cS (by first | assumption | decide | omega)) (cwV 1 hts gX1_digest_X1_tally rfl rfl rfl (by decide +kernel) ⟨Nat.le_of_ble_eq_true rfl, Nat.le_of_ble_eq_true rfl⟩) ⟨fun a U g mk q => by obtain ⟨q0, qP, qK⟩ := q; exact ⟨q0, qP, va_K.moved (u := U) (U := U.calling g mk a) (Vm.Alike.refl U.vm) qK⟩, va_recv hKc hPc (ci := 1) (q0 := 0) rfl rfl, fun U hU hW => ⟨rfl, by rw [hU]; exact hPc, va_K.moved hW.alike hKc⟩⟩ rfl rfl hl.1 rfl (lv_room (Nat.le_of_ble_eq_true rfl)) dX1_digest_19 ⟨Nat.le_of_ble_eq_true rfl, Nat.le_of_ble_eq_true rfl⟩).run (fun r10 hr10 => ?_)
  obtain rfl := hr10
  refine lv_i2l (v := 0) hx hb dX1_digest_22 (by first | rfl | decide) ?_
  refine lv_ladd hx hb dX1_digest_23 ?_
  refine W.eq (g2 := F0 m 24 ls [.long 21156942589]) rfl ?_
  refine lv_lstore_n (lv' := [(1, .long 21156942589), (3, .int 4), (0, .ref h)]) hx hb dX1_digest_24 rfl hl (by decide) rfl (fun ls hl => ?_)
  refine lv_iinc (v := 5) (lv' := [(3, .int 5), (1, .long 21156942589), (0, .ref h)]) hx hb dX1_digest_25 hl (k := 1) rfl (by decide) (by decide) rfl (fun ls hl => ?_)
  refine lv_goto (tgt := 6) hx hb dX1_digest_28 (by decide) ?_
  refine lv_iload_n hx hb dX1_digest_6 rfl (lv_at hl 0 rfl) ?_
  refine lv_bipush (v := 9) hx hb dX1_digest_7 (by decide) ?_
  refine lv_icmp_ge (tgt := 31) hx hb dX1_digest_9 (by decide) (fun c11 => absurd c11 (by decide)) (fun c11 => ?_)
  refine lv_lload_n hx hb dX1_digest_12 rfl (lv_at hl 1 rfl) ?_
  refine lv_ldc2 (v := 31) hx hb hown (hts (.constantLong RX1 199 31) (by decide +kernel)) dX1_digest_13 ?_
  refine lv_lmul hx hb dX1_digest_16 ?_
  refine W.eq (g2 := F0 m 17 ls [.long 655865220259]) rfl ?_
  refine lv_aload_n hx hb dX1_digest_17 rfl (lv_at hl 2 rfl) ?_
  refine lv_iload_n hx hb dX1_digest_18 rfl (lv_at hl 0 rfl) ?_
  have hPc := hP.sub (ws' := [(h, .inr (1, [.ref ro, .int 0, .ref ba, .ref ra, .ref su, .int 0, .ref tr])), (ro, .inl (cR, 6, .inr (.inr (.inr (.inr (fun _ => none)))))), (ba, .inl (cB, 3, .inl (fun _ => 0))), (ra, .inl (cA, 12, .inl fr)), (su, .inl (cS, 12, .inl (fun _ => 0)))]) [0, 1, 2, 3, 4] rfl
  have hKc := hK.sub (tys' := [(cR, .object RX0), (cB, .int), (cA, .int), (cS, .int)]) [0, 1, 2, 3] rfl
  refine vp_callSi (va_runV (As := [.int 5]) (rest := [.long 655865220259]) ⟨hx, hb, hml, hown, hts⟩ (k1_tally5 l dC dI h ro ba ra su tr cR cB cA fr cS (by first | assumption | decide | omega)) (cwV 1 hts gX1_digest_X1_tally rfl rfl rfl (by decide +kernel) ⟨Nat.le_of_ble_eq_true rfl, Nat.le_of_ble_eq_true rfl⟩) ⟨fun a U g mk q => by obtain ⟨q0, qP, qK⟩ := q; exact ⟨q0, qP, va_K.moved (u := U) (U := U.calling g mk a) (Vm.Alike.refl U.vm) qK⟩, va_recv hKc hPc (ci := 1) (q0 := 0) rfl rfl, fun U hU hW => ⟨rfl, by rw [hU]; exact hPc, va_K.moved hW.alike hKc⟩⟩ rfl rfl hl.1 rfl (lv_room (Nat.le_of_ble_eq_true rfl)) dX1_digest_19 ⟨Nat.le_of_ble_eq_true rfl, Nat.le_of_ble_eq_true rfl⟩).run (fun r12 hr12 => ?_)
  obtain rfl := hr12
  refine lv_i2l (v := 0) hx hb dX1_digest_22 (by first | rfl | decide) ?_
  refine lv_ladd hx hb dX1_digest_23 ?_
  refine W.eq (g2 := F0 m 24 ls [.long 655865220259]) rfl ?_
  refine lv_lstore_n (lv' := [(1, .long 655865220259), (3, .int 5), (0, .ref h)]) hx hb dX1_digest_24 rfl hl (by decide) rfl (fun ls hl => ?_)
  refine lv_iinc (v := 6) (lv' := [(3, .int 6), (1, .long 655865220259), (0, .ref h)]) hx hb dX1_digest_25 hl (k := 1) rfl (by decide) (by decide) rfl (fun ls hl => ?_)
  refine lv_goto (tgt := 6) hx hb dX1_digest_28 (by decide) ?_
  refine lv_iload_n hx hb dX1_digest_6 rfl (lv_at hl 0 rfl) ?_
  refine lv_bipush (v := 9) hx hb dX1_digest_7 (by decide) ?_
  refine lv_icmp_ge (tgt := 31) hx hb dX1_digest_9 (by decide) (fun c13 => absurd c13 (by decide)) (fun c13 => ?_)
  refine lv_lload_n hx hb dX1_digest_12 rfl (lv_at hl 1 rfl) ?_
  refine lv_ldc2 (v := 31) hx hb hown (hts (.constantLong RX1 199 31) (by decide +kernel)) dX1_digest_13 ?_
  refine lv_lmul hx hb dX1_digest_16 ?_
  refine W.eq (g2 := F0 m 17 ls [.long 20331821828029]) rfl ?_
  refine lv_aload_n hx hb dX1_digest_17 rfl (lv_at hl 2 rfl) ?_
  refine lv_iload_n hx hb dX1_digest_18 rfl (lv_at hl 0 rfl) ?_
  have hPc := hP.sub (ws' := [(h, .inr (1, [.ref ro, .int 0, .ref ba, .ref ra, .ref su, .int 0, .ref tr])), (ro, .inl (cR, 6, .inr (.inr (.inr (.inr (fun _ => none)))))), (ba, .inl (cB, 3, .inl (fun _ => 0))), (ra, .inl (cA, 12, .inl fr)), (su, .inl (cS, 12, .inl (fun _ => 0)))]) [0, 1, 2, 3, 4] rfl
  have hKc := hK.sub (tys' := [(cR, .object RX0), (cB, .int), (cA, .int), (cS, .int)]) [0, 1, 2, 3] rfl
  refine vp_callSi (va_runV (As := [.int 6]) (rest := [.long 20331821828029]) ⟨hx, hb, hml, hown, hts⟩ (k1_tally6 l dC dI h ro ba ra su tr cR cB cA fr cS (by first | assumption | decide | omega)) (cwV 1 hts gX1_digest_X1_tally rfl rfl rfl (by decide +kernel) ⟨Nat.le_of_ble_eq_true rfl, Nat.le_of_ble_eq_true rfl⟩) ⟨fun a U g mk q => by obtain ⟨q0, qP, qK⟩ := q; exact ⟨q0, qP, va_K.moved (u := U) (U := U.calling g mk a) (Vm.Alike.refl U.vm) qK⟩, va_recv hKc hPc (ci := 1) (q0 := 0) rfl rfl, fun U hU hW => ⟨rfl, by rw [hU]; exact hPc, va_K.moved hW.alike hKc⟩⟩ rfl rfl hl.1 rfl (lv_room (Nat.le_of_ble_eq_true rfl)) dX1_digest_19 ⟨Nat.le_of_ble_eq_true rfl, Nat.le_of_ble_eq_true rfl⟩).run (fun r14 hr14 => ?_)
  obtain rfl := hr14
  refine lv_i2l (v := 0) hx hb dX1_digest_22 (by first | rfl | decide) ?_
  refine lv_ladd hx hb dX1_digest_23 ?_
  refine W.eq (g2 := F0 m 24 ls [.long 20331821828029]) rfl ?_
  refine lv_lstore_n (lv' := [(1, .long 20331821828029), (3, .int 6), (0, .ref h)]) hx hb dX1_digest_24 rfl hl (by decide) rfl (fun ls hl => ?_)
  refine lv_iinc (v := 7) (lv' := [(3, .int 7), (1, .long 20331821828029), (0, .ref h)]) hx hb dX1_digest_25 hl (k := 1) rfl (by decide) (by decide) rfl (fun ls hl => ?_)
  refine lv_goto (tgt := 6) hx hb dX1_digest_28 (by decide) ?_
  refine lv_iload_n hx hb dX1_digest_6 rfl (lv_at hl 0 rfl) ?_
  refine lv_bipush (v := 9) hx hb dX1_digest_7 (by decide) ?_
  refine lv_icmp_ge (tgt := 31) hx hb dX1_digest_9 (by decide) (fun c15 => absurd c15 (by decide)) (fun c15 => ?_)
  refine lv_lload_n hx hb dX1_digest_12 rfl (lv_at hl 1 rfl) ?_
  refine lv_ldc2 (v := 31) hx hb hown (hts (.constantLong RX1 199 31) (by decide +kernel)) dX1_digest_13 ?_
  refine lv_lmul hx hb dX1_digest_16 ?_
  refine W.eq (g2 := F0 m 17 ls [.long 630286476668899]) rfl ?_
  refine lv_aload_n hx hb dX1_digest_17 rfl (lv_at hl 2 rfl) ?_
  refine lv_iload_n hx hb dX1_digest_18 rfl (lv_at hl 0 rfl) ?_
  have hPc := hP.sub (ws' := [(h, .inr (1, [.ref ro, .int 0, .ref ba, .ref ra, .ref su, .int 0, .ref tr])), (ro, .inl (cR, 6, .inr (.inr (.inr (.inr (fun _ => none)))))), (ba, .inl (cB, 3, .inl (fun _ => 0))), (ra, .inl (cA, 12, .inl fr)), (su, .inl (cS, 12, .inl (fun _ => 0)))]) [0, 1, 2, 3, 4] rfl
  have hKc := hK.sub (tys' := [(cR, .object RX0), (cB, .int), (cA, .int), (cS, .int)]) [0, 1, 2, 3] rfl
  refine vp_callSi (va_runV (As := [.int 7]) (rest := [.long 630286476668899]) ⟨hx, hb, hml, hown, hts⟩ (k1_tally7 l dC dI h ro ba ra su tr cR cB cA fr cS (by first | assumption | decide | omega)) (cwV 1 hts gX1_digest_X1_tally rfl rfl rfl (by decide +kernel) ⟨Nat.le_of_ble_eq_true rfl, Nat.le_of_ble_eq_true rfl⟩) ⟨fun a U g mk q => by obtain ⟨q0, qP, qK⟩ := q; exact ⟨q0, qP, va_K.moved (u := U) (U := U.calling g mk a) (Vm.Alike.refl U.vm) qK⟩, va_recv hKc hPc (ci := 1) (q0 := 0) rfl rfl, fun U hU hW => ⟨rfl, by rw [hU]; exact hPc, va_K.moved hW.alike hKc⟩⟩ rfl rfl hl.1 rfl (lv_room (Nat.le_of_ble_eq_true rfl)) dX1_digest_19 ⟨Nat.le_of_ble_eq_true rfl, Nat.le_of_ble_eq_true rfl⟩).run (fun r16 hr16 => ?_)
  obtain rfl := hr16
  refine lv_i2l (v := 4) hx hb dX1_digest_22 (by first | rfl | decide) ?_
  refine lv_ladd hx hb dX1_digest_23 ?_
  refine W.eq (g2 := F0 m 24 ls [.long 630286476668903]) rfl ?_
  refine lv_lstore_n (lv' := [(1, .long 630286476668903), (3, .int 7), (0, .ref h)]) hx hb dX1_digest_24 rfl hl (by decide) rfl (fun ls hl => ?_)
  refine lv_iinc (v := 8) (lv' := [(3, .int 8), (1, .long 630286476668903), (0, .ref h)]) hx hb dX1_digest_25 hl (k := 1) rfl (by decide) (by decide) rfl (fun ls hl => ?_)
  refine lv_goto (tgt := 6) hx hb dX1_digest_28 (by decide) ?_
  refine lv_iload_n hx hb dX1_digest_6 rfl (lv_at hl 0 rfl) ?_
  refine lv_bipush (v := 9) hx hb dX1_digest_7 (by decide) ?_
  refine lv_icmp_ge (tgt := 31) hx hb dX1_digest_9 (by decide) (fun c17 => absurd c17 (by decide)) (fun c17 => ?_)
  refine lv_lload_n hx hb dX1_digest_12 rfl (lv_at hl 1 rfl) ?_
  refine lv_ldc2 (v := 31) hx hb hown (hts (.constantLong RX1 199 31) (by decide +kernel)) dX1_digest_13 ?_
  refine lv_lmul hx hb dX1_digest_16 ?_
  refine W.eq (g2 := F0 m 17 ls [.long 19538880776735993]) rfl ?_
  refine lv_aload_n hx hb dX1_digest_17 rfl (lv_at hl 2 rfl) ?_
  refine lv_iload_n hx hb dX1_digest_18 rfl (lv_at hl 0 rfl) ?_
  have hPc := hP.sub (ws' := [(h, .inr (1, [.ref ro, .int 0, .ref ba, .ref ra, .ref su, .int 0, .ref tr])), (ro, .inl (cR, 6, .inr (.inr (.inr (.inr (fun _ => none)))))), (ba, .inl (cB, 3, .inl (fun _ => 0))), (ra, .inl (cA, 12, .inl fr)), (su, .inl (cS, 12, .inl (fun _ => 0)))]) [0, 1, 2, 3, 4] rfl
  have hKc := hK.sub (tys' := [(cR, .object RX0), (cB, .int), (cA, .int), (cS, .int)]) [0, 1, 2, 3] rfl
  refine vp_callSi (va_runV (As := [.int 8]) (rest := [.long 19538880776735993]) ⟨hx, hb, hml, hown, hts⟩ (k1_tally8 l dC dI h ro ba ra su tr cR cB cA fr cS (by first | assumption | decide | omega)) (cwV 1 hts gX1_digest_X1_tally rfl rfl rfl (by decide +kernel) ⟨Nat.le_of_ble_eq_true rfl, Nat.le_of_ble_eq_true rfl⟩) ⟨fun a U g mk q => by obtain ⟨q0, qP, qK⟩ := q; exact ⟨q0, qP, va_K.moved (u := U) (U := U.calling g mk a) (Vm.Alike.refl U.vm) qK⟩, va_recv hKc hPc (ci := 1) (q0 := 0) rfl rfl, fun U hU hW => ⟨rfl, by rw [hU]; exact hPc, va_K.moved hW.alike hKc⟩⟩ rfl rfl hl.1 rfl (lv_room (Nat.le_of_ble_eq_true rfl)) dX1_digest_19 ⟨Nat.le_of_ble_eq_true rfl, Nat.le_of_ble_eq_true rfl⟩).run (fun r18 hr18 => ?_)
  obtain rfl := hr18
  refine lv_i2l (v := 0) hx hb dX1_digest_22 (by first | rfl | decide) ?_
  refine lv_ladd hx hb dX1_digest_23 ?_
  refine W.eq (g2 := F0 m 24 ls [.long 19538880776735993]) rfl ?_
  refine lv_lstore_n (lv' := [(1, .long 19538880776735993), (3, .int 8), (0, .ref h)]) hx hb dX1_digest_24 rfl hl (by decide) rfl (fun ls hl => ?_)
  refine lv_iinc (v := 9) (lv' := [(3, .int 9), (1, .long 19538880776735993), (0, .ref h)]) hx hb dX1_digest_25 hl (k := 1) rfl (by decide) (by decide) rfl (fun ls hl => ?_)
  refine lv_goto (tgt := 6) hx hb dX1_digest_28 (by decide) ?_
  refine lv_iload_n hx hb dX1_digest_6 rfl (lv_at hl 0 rfl) ?_
  refine lv_bipush (v := 9) hx hb dX1_digest_7 (by decide) ?_
  refine lv_icmp_ge (tgt := 31) hx hb dX1_digest_9 (by decide) (fun c19 => ?_) (fun c19 => absurd c19 (by decide))
  refine lv_iconst (v := 0) hx hb dX1_digest_31 (by decide) ?_
  refine lv_istore_n (lv' := [(3, .int 0), (1, .long 19538880776735993), (0, .ref h)]) hx hb dX1_digest_32 rfl hl (by decide) rfl (fun ls hl => ?_)
  refine lv_iload_n hx hb dX1_digest_33 rfl (lv_at hl 0 rfl) ?_
  refine lv_bipush (v := 12) hx hb dX1_digest_34 (by decide) ?_
  refine lv_icmp_ge (tgt := 69) hx hb dX1_digest_36 (by decide) (fun c20 => absurd c20 (by decide)) (fun c20 => ?_)
  refine lv_lload_n hx hb dX1_digest_39 rfl (lv_at hl 1 rfl) ?_
  refine lv_ldc2 (v := 31) hx hb hown (hts (.constantLong RX1 199 31) (by decide +kernel)) dX1_digest_40 ?_
  refine lv_lmul hx hb dX1_digest_43 ?_
  refine W.eq (g2 := F0 m 44 ls [.long 605705304078815783]) rfl ?_
  refine lv_bipush (v := 10) hx hb dX1_digest_44 (by decide) ?_
  refine lv_aload_n hx hb dX1_digest_46 rfl (lv_at hl 2 rfl) ?_
  refine va_get (D := (dC, dI)) (ci := 1) (v := .ref ra) (C := RX1) (T := TX1) (N := 7) hx hb hts (by decide +kernel) hown hK hP 0 rfl rfl 3 (by decide) (hts (.fieldLink RX1 19 "ThatchRoof" "rains" "[I") (by decide +kernel)) (fun _ h9 => h9) rfl dX1_digest_47 ?_
  refine lv_iload_n hx hb dX1_digest_50 rfl (lv_at hl 0 rfl) ?_
  refine va_iald hx hb hK hP 3 2 rfl rfl (vp_in_nI (n := 0) (by decide) (by decide)) dX1_digest_51 ?_
  refine lv_topi (fun x21 ex21 => ?_)
  obtain rfl : x21 = 4 := ex21.trans (hra _ (by decide))
  refine lv_imul hx hb dX1_digest_52 ?_
  refine W.eq (g2 := F0 m 53 ls [.int 40, .long 605705304078815783]) rfl ?_
  refine lv_aload_n hx hb dX1_digest_53 rfl (lv_at hl 2 rfl) ?_
  refine va_get (D := (dC, dI)) (ci := 1) (v := .ref su) (C := RX1) (T := TX1) (N := 7) hx hb hts (by decide +kernel) hown hK hP 0 rfl rfl 4 (by decide) (hts (.fieldLink RX1 22 "ThatchRoof" "storms" "[I") (by decide +kernel)) (fun _ h9 => h9) rfl dX1_digest_54 ?_
  refine lv_iload_n hx hb dX1_digest_57 rfl (lv_at hl 0 rfl) ?_
  refine va_iald hx hb hK hP 4 3 rfl rfl (vp_in_nI (n := 0) (by decide) (by decide)) dX1_digest_58 ?_
  refine lv_topi (fun x22 ex22 => ?_)
  obtain rfl : x22 = 0 := ex22
  refine lv_iadd hx hb dX1_digest_59 ?_
  refine W.eq (g2 := F0 m 60 ls [.int 40, .long 605705304078815783]) rfl ?_
  refine lv_i2l (v := 40) hx hb dX1_digest_60 (by first | rfl | decide) ?_
  refine lv_ladd hx hb dX1_digest_61 ?_
  refine W.eq (g2 := F0 m 62 ls [.long 605705304078815823]) rfl ?_
  refine lv_lstore_n (lv' := [(1, .long 605705304078815823), (3, .int 0), (0, .ref h)]) hx hb dX1_digest_62 rfl hl (by decide) rfl (fun ls hl => ?_)
  refine lv_iinc (v := 1) (lv' := [(3, .int 1), (1, .long 605705304078815823), (0, .ref h)]) hx hb dX1_digest_63 hl (k := 1) rfl (by decide) (by decide) rfl (fun ls hl => ?_)
  refine lv_goto (tgt := 33) hx hb dX1_digest_66 (by decide) ?_
  refine lv_iload_n hx hb dX1_digest_33 rfl (lv_at hl 0 rfl) ?_
  refine lv_bipush (v := 12) hx hb dX1_digest_34 (by decide) ?_
  refine lv_icmp_ge (tgt := 69) hx hb dX1_digest_36 (by decide) (fun c23 => absurd c23 (by decide)) (fun c23 => ?_)
  refine lv_lload_n hx hb dX1_digest_39 rfl (lv_at hl 1 rfl) ?_
  refine lv_ldc2 (v := 31) hx hb hown (hts (.constantLong RX1 199 31) (by decide +kernel)) dX1_digest_40 ?_
  refine lv_lmul hx hb dX1_digest_43 ?_
  refine W.eq (g2 := F0 m 44 ls [.long 330120352733738897]) rfl ?_
  refine lv_bipush (v := 10) hx hb dX1_digest_44 (by decide) ?_
  refine lv_aload_n hx hb dX1_digest_46 rfl (lv_at hl 2 rfl) ?_
  refine va_get (D := (dC, dI)) (ci := 1) (v := .ref ra) (C := RX1) (T := TX1) (N := 7) hx hb hts (by decide +kernel) hown hK hP 0 rfl rfl 3 (by decide) (hts (.fieldLink RX1 19 "ThatchRoof" "rains" "[I") (by decide +kernel)) (fun _ h9 => h9) rfl dX1_digest_47 ?_
  refine lv_iload_n hx hb dX1_digest_50 rfl (lv_at hl 0 rfl) ?_
  refine va_iald hx hb hK hP 3 2 rfl rfl (vp_in_nI (n := 1) (by decide) (by decide)) dX1_digest_51 ?_
  refine lv_topi (fun x24 ex24 => ?_)
  obtain rfl : x24 = 4 := ex24.trans (hra _ (by decide))
  refine lv_imul hx hb dX1_digest_52 ?_
  refine W.eq (g2 := F0 m 53 ls [.int 40, .long 330120352733738897]) rfl ?_
  refine lv_aload_n hx hb dX1_digest_53 rfl (lv_at hl 2 rfl) ?_
  refine va_get (D := (dC, dI)) (ci := 1) (v := .ref su) (C := RX1) (T := TX1) (N := 7) hx hb hts (by decide +kernel) hown hK hP 0 rfl rfl 4 (by decide) (hts (.fieldLink RX1 22 "ThatchRoof" "storms" "[I") (by decide +kernel)) (fun _ h9 => h9) rfl dX1_digest_54 ?_
  refine lv_iload_n hx hb dX1_digest_57 rfl (lv_at hl 0 rfl) ?_
  refine va_iald hx hb hK hP 4 3 rfl rfl (vp_in_nI (n := 1) (by decide) (by decide)) dX1_digest_58 ?_
  refine lv_topi (fun x25 ex25 => ?_)
  obtain rfl : x25 = 0 := ex25
  refine lv_iadd hx hb dX1_digest_59 ?_
  refine W.eq (g2 := F0 m 60 ls [.int 40, .long 330120352733738897]) rfl ?_
  refine lv_i2l (v := 40) hx hb dX1_digest_60 (by first | rfl | decide) ?_
  refine lv_ladd hx hb dX1_digest_61 ?_
  refine W.eq (g2 := F0 m 62 ls [.long 330120352733738937]) rfl ?_
  refine lv_lstore_n (lv' := [(1, .long 330120352733738937), (3, .int 1), (0, .ref h)]) hx hb dX1_digest_62 rfl hl (by decide) rfl (fun ls hl => ?_)
  refine lv_iinc (v := 2) (lv' := [(3, .int 2), (1, .long 330120352733738937), (0, .ref h)]) hx hb dX1_digest_63 hl (k := 1) rfl (by decide) (by decide) rfl (fun ls hl => ?_)
  refine lv_goto (tgt := 33) hx hb dX1_digest_66 (by decide) ?_
  refine lv_iload_n hx hb dX1_digest_33 rfl (lv_at hl 0 rfl) ?_
  refine lv_bipush (v := 12) hx hb dX1_digest_34 (by decide) ?_
  refine lv_icmp_ge (tgt := 69) hx hb dX1_digest_36 (by decide) (fun c26 => absurd c26 (by decide)) (fun c26 => ?_)
  refine lv_lload_n hx hb dX1_digest_39 rfl (lv_at hl 1 rfl) ?_
  refine lv_ldc2 (v := 31) hx hb hown (hts (.constantLong RX1 199 31) (by decide +kernel)) dX1_digest_40 ?_
  refine lv_lmul hx hb dX1_digest_43 ?_
  refine W.eq (g2 := F0 m 44 ls [.long (-8213013138963644569)]) rfl ?_
  refine lv_bipush (v := 10) hx hb dX1_digest_44 (by decide) ?_
  refine lv_aload_n hx hb dX1_digest_46 rfl (lv_at hl 2 rfl) ?_
  refine va_get (D := (dC, dI)) (ci := 1) (v := .ref ra) (C := RX1) (T := TX1) (N := 7) hx hb hts (by decide +kernel) hown hK hP 0 rfl rfl 3 (by decide) (hts (.fieldLink RX1 19 "ThatchRoof" "rains" "[I") (by decide +kernel)) (fun _ h9 => h9) rfl dX1_digest_47 ?_
  refine lv_iload_n hx hb dX1_digest_50 rfl (lv_at hl 0 rfl) ?_
  refine va_iald hx hb hK hP 3 2 rfl rfl (vp_in_nI (n := 2) (by decide) (by decide)) dX1_digest_51 ?_
  refine lv_topi (fun x27 ex27 => ?_)
  obtain rfl : x27 = 4 := ex27.trans (hra _ (by decide))
  refine lv_imul hx hb dX1_digest_52 ?_
  refine W.eq (g2 := F0 m 53 ls [.int 40, .long (-8213013138963644569)]) rfl ?_
  refine lv_aload_n hx hb dX1_digest_53 rfl (lv_at hl 2 rfl) ?_
  refine va_get (D := (dC, dI)) (ci := 1) (v := .ref su) (C := RX1) (T := TX1) (N := 7) hx hb hts (by decide +kernel) hown hK hP 0 rfl rfl 4 (by decide) (hts (.fieldLink RX1 22 "ThatchRoof" "storms" "[I") (by decide +kernel)) (fun _ h9 => h9) rfl dX1_digest_54 ?_
  refine lv_iload_n hx hb dX1_digest_57 rfl (lv_at hl 0 rfl) ?_
  refine va_iald hx hb hK hP 4 3 rfl rfl (vp_in_nI (n := 2) (by decide) (by decide)) dX1_digest_58 ?_
  refine lv_topi (fun x28 ex28 => ?_)
  obtain rfl : x28 = 0 := ex28
  refine lv_iadd hx hb dX1_digest_59 ?_
  refine W.eq (g2 := F0 m 60 ls [.int 40, .long (-8213013138963644569)]) rfl ?_
  refine lv_i2l (v := 40) hx hb dX1_digest_60 (by first | rfl | decide) ?_
  refine lv_ladd hx hb dX1_digest_61 ?_
  refine W.eq (g2 := F0 m 62 ls [.long (-8213013138963644529)]) rfl ?_
  refine lv_lstore_n (lv' := [(1, .long (-8213013138963644529)), (3, .int 2), (0, .ref h)]) hx hb dX1_digest_62 rfl hl (by decide) rfl (fun ls hl => ?_)
  refine lv_iinc (v := 3) (lv' := [(3, .int 3), (1, .long (-8213013138963644529)), (0, .ref h)]) hx hb dX1_digest_63 hl (k := 1) rfl (by decide) (by decide) rfl (fun ls hl => ?_)
  refine lv_goto (tgt := 33) hx hb dX1_digest_66 (by decide) ?_
  refine lv_iload_n hx hb dX1_digest_33 rfl (lv_at hl 0 rfl) ?_
  refine lv_bipush (v := 12) hx hb dX1_digest_34 (by decide) ?_
  refine lv_icmp_ge (tgt := 69) hx hb dX1_digest_36 (by decide) (fun c29 => absurd c29 (by decide)) (fun c29 => ?_)
  refine lv_lload_n hx hb dX1_digest_39 rfl (lv_at hl 1 rfl) ?_
  refine lv_ldc2 (v := 31) hx hb hown (hts (.constantLong RX1 199 31) (by decide +kernel)) dX1_digest_40 ?_
  refine lv_lmul hx hb dX1_digest_43 ?_
  refine W.eq (g2 := F0 m 44 ls [.long 3651009724060742225]) rfl ?_
  refine lv_bipush (v := 10) hx hb dX1_digest_44 (by decide) ?_
  refine lv_aload_n hx hb dX1_digest_46 rfl (lv_at hl 2 rfl) ?_
  refine va_get (D := (dC, dI)) (ci := 1) (v := .ref ra) (C := RX1) (T := TX1) (N := 7) hx hb hts (by decide +kernel) hown hK hP 0 rfl rfl 3 (by decide) (hts (.fieldLink RX1 19 "ThatchRoof" "rains" "[I") (by decide +kernel)) (fun _ h9 => h9) rfl dX1_digest_47 ?_
  refine lv_iload_n hx hb dX1_digest_50 rfl (lv_at hl 0 rfl) ?_
  refine va_iald hx hb hK hP 3 2 rfl rfl (vp_in_nI (n := 3) (by decide) (by decide)) dX1_digest_51 ?_
  refine lv_topi (fun x30 ex30 => ?_)
  obtain rfl : x30 = 4 := ex30.trans (hra _ (by decide))
  refine lv_imul hx hb dX1_digest_52 ?_
  refine W.eq (g2 := F0 m 53 ls [.int 40, .long 3651009724060742225]) rfl ?_
  refine lv_aload_n hx hb dX1_digest_53 rfl (lv_at hl 2 rfl) ?_
  refine va_get (D := (dC, dI)) (ci := 1) (v := .ref su) (C := RX1) (T := TX1) (N := 7) hx hb hts (by decide +kernel) hown hK hP 0 rfl rfl 4 (by decide) (hts (.fieldLink RX1 22 "ThatchRoof" "storms" "[I") (by decide +kernel)) (fun _ h9 => h9) rfl dX1_digest_54 ?_
  refine lv_iload_n hx hb dX1_digest_57 rfl (lv_at hl 0 rfl) ?_
  refine va_iald hx hb hK hP 4 3 rfl rfl (vp_in_nI (n := 3) (by decide) (by decide)) dX1_digest_58 ?_
  refine lv_topi (fun x31 ex31 => ?_)
  obtain rfl : x31 = 0 := ex31
  refine lv_iadd hx hb dX1_digest_59 ?_
  refine W.eq (g2 := F0 m 60 ls [.int 40, .long 3651009724060742225]) rfl ?_
  refine lv_i2l (v := 40) hx hb dX1_digest_60 (by first | rfl | decide) ?_
  refine lv_ladd hx hb dX1_digest_61 ?_
  refine W.eq (g2 := F0 m 62 ls [.long 3651009724060742265]) rfl ?_
  refine lv_lstore_n (lv' := [(1, .long 3651009724060742265), (3, .int 3), (0, .ref h)]) hx hb dX1_digest_62 rfl hl (by decide) rfl (fun ls hl => ?_)
  refine lv_iinc (v := 4) (lv' := [(3, .int 4), (1, .long 3651009724060742265), (0, .ref h)]) hx hb dX1_digest_63 hl (k := 1) rfl (by decide) (by decide) rfl (fun ls hl => ?_)
  refine lv_goto (tgt := 33) hx hb dX1_digest_66 (by decide) ?_
  refine lv_iload_n hx hb dX1_digest_33 rfl (lv_at hl 0 rfl) ?_
  refine lv_bipush (v := 12) hx hb dX1_digest_34 (by decide) ?_
  refine lv_icmp_ge (tgt := 69) hx hb dX1_digest_36 (by decide) (fun c32 => absurd c32 (by decide)) (fun c32 => ?_)
  refine lv_lload_n hx hb dX1_digest_39 rfl (lv_at hl 1 rfl) ?_
  refine lv_ldc2 (v := 31) hx hb hown (hts (.constantLong RX1 199 31) (by decide +kernel)) dX1_digest_40 ?_
  refine lv_lmul hx hb dX1_digest_43 ?_
  refine W.eq (g2 := F0 m 44 ls [.long 2500837003625700519]) rfl ?_
  refine lv_bipush (v := 10) hx hb dX1_digest_44 (by decide) ?_
  refine lv_aload_n hx hb dX1_digest_46 rfl (lv_at hl 2 rfl) ?_
  refine va_get (D := (dC, dI)) (ci := 1) (v := .ref ra) (C := RX1) (T := TX1) (N := 7) hx hb hts (by decide +kernel) hown hK hP 0 rfl rfl 3 (by decide) (hts (.fieldLink RX1 19 "ThatchRoof" "rains" "[I") (by decide +kernel)) (fun _ h9 => h9) rfl dX1_digest_47 ?_
  refine lv_iload_n hx hb dX1_digest_50 rfl (lv_at hl 0 rfl) ?_
  refine va_iald hx hb hK hP 3 2 rfl rfl (vp_in_nI (n := 4) (by decide) (by decide)) dX1_digest_51 ?_
  refine lv_topi (fun x33 ex33 => ?_)
  obtain rfl : x33 = 4 := ex33.trans (hra _ (by decide))
  refine lv_imul hx hb dX1_digest_52 ?_
  refine W.eq (g2 := F0 m 53 ls [.int 40, .long 2500837003625700519]) rfl ?_
  refine lv_aload_n hx hb dX1_digest_53 rfl (lv_at hl 2 rfl) ?_
  refine va_get (D := (dC, dI)) (ci := 1) (v := .ref su) (C := RX1) (T := TX1) (N := 7) hx hb hts (by decide +kernel) hown hK hP 0 rfl rfl 4 (by decide) (hts (.fieldLink RX1 22 "ThatchRoof" "storms" "[I") (by decide +kernel)) (fun _ h9 => h9) rfl dX1_digest_54 ?_
  refine lv_iload_n hx hb dX1_digest_57 rfl (lv_at hl 0 rfl) ?_
  refine va_iald hx hb hK hP 4 3 rfl rfl (vp_in_nI (n := 4) (by decide) (by decide)) dX1_digest_58 ?_
  refine lv_topi (fun x34 ex34 => ?_)
  obtain rfl : x34 = 0 := ex34
  refine lv_iadd hx hb dX1_digest_59 ?_
  refine W.eq (g2 := F0 m 60 ls [.int 40, .long 2500837003625700519]) rfl ?_
  refine lv_i2l (v := 40) hx hb dX1_digest_60 (by first | rfl | decide) ?_
  refine lv_ladd hx hb dX1_digest_61 ?_
  refine W.eq (g2 := F0 m 62 ls [.long 2500837003625700559]) rfl ?_
  refine lv_lstore_n (lv' := [(1, .long 2500837003625700559), (3, .int 4), (0, .ref h)]) hx hb dX1_digest_62 rfl hl (by decide) rfl (fun ls hl => ?_)
  refine lv_iinc (v := 5) (lv' := [(3, .int 5), (1, .long 2500837003625700559), (0, .ref h)]) hx hb dX1_digest_63 hl (k := 1) rfl (by decide) (by decide) rfl (fun ls hl => ?_)
  refine lv_goto (tgt := 33) hx hb dX1_digest_66 (by decide) ?_
  refine lv_iload_n hx hb dX1_digest_33 rfl (lv_at hl 0 rfl) ?_
  refine lv_bipush (v := 12) hx hb dX1_digest_34 (by decide) ?_
  refine lv_icmp_ge (tgt := 69) hx hb dX1_digest_36 (by decide) (fun c35 => absurd c35 (by decide)) (fun c35 => ?_)
  refine lv_lload_n hx hb dX1_digest_39 rfl (lv_at hl 1 rfl) ?_
  refine lv_ldc2 (v := 31) hx hb hown (hts (.constantLong RX1 199 31) (by decide +kernel)) dX1_digest_40 ?_
  refine lv_lmul hx hb dX1_digest_43 ?_
  refine W.eq (g2 := F0 m 44 ls [.long 3738970817558510865]) rfl ?_
  refine lv_bipush (v := 10) hx hb dX1_digest_44 (by decide) ?_
  refine lv_aload_n hx hb dX1_digest_46 rfl (lv_at hl 2 rfl) ?_
  refine va_get (D := (dC, dI)) (ci := 1) (v := .ref ra) (C := RX1) (T := TX1) (N := 7) hx hb hts (by decide +kernel) hown hK hP 0 rfl rfl 3 (by decide) (hts (.fieldLink RX1 19 "ThatchRoof" "rains" "[I") (by decide +kernel)) (fun _ h9 => h9) rfl dX1_digest_47 ?_
  refine lv_iload_n hx hb dX1_digest_50 rfl (lv_at hl 0 rfl) ?_
  refine va_iald hx hb hK hP 3 2 rfl rfl (vp_in_nI (n := 5) (by decide) (by decide)) dX1_digest_51 ?_
  refine lv_topi (fun x36 ex36 => ?_)
  obtain rfl : x36 = 4 := ex36.trans (hra _ (by decide))
  refine lv_imul hx hb dX1_digest_52 ?_
  refine W.eq (g2 := F0 m 53 ls [.int 40, .long 3738970817558510865]) rfl ?_
  refine lv_aload_n hx hb dX1_digest_53 rfl (lv_at hl 2 rfl) ?_
  refine va_get (D := (dC, dI)) (ci := 1) (v := .ref su) (C := RX1) (T := TX1) (N := 7) hx hb hts (by decide +kernel) hown hK hP 0 rfl rfl 4 (by decide) (hts (.fieldLink RX1 22 "ThatchRoof" "storms" "[I") (by decide +kernel)) (fun _ h9 => h9) rfl dX1_digest_54 ?_
  refine lv_iload_n hx hb dX1_digest_57 rfl (lv_at hl 0 rfl) ?_
  refine va_iald hx hb hK hP 4 3 rfl rfl (vp_in_nI (n := 5) (by decide) (by decide)) dX1_digest_58 ?_
  refine lv_topi (fun x37 ex37 => ?_)
  obtain rfl : x37 = 0 := ex37
  refine lv_iadd hx hb dX1_digest_59 ?_
  refine W.eq (g2 := F0 m 60 ls [.int 40, .long 3738970817558510865]) rfl ?_
  refine lv_i2l (v := 40) hx hb dX1_digest_60 (by first | rfl | decide) ?_
  refine lv_ladd hx hb dX1_digest_61 ?_
  refine W.eq (g2 := F0 m 62 ls [.long 3738970817558510905]) rfl ?_
  refine lv_lstore_n (lv' := [(1, .long 3738970817558510905), (3, .int 5), (0, .ref h)]) hx hb dX1_digest_62 rfl hl (by decide) rfl (fun ls hl => ?_)
  refine lv_iinc (v := 6) (lv' := [(3, .int 6), (1, .long 3738970817558510905), (0, .ref h)]) hx hb dX1_digest_63 hl (k := 1) rfl (by decide) (by decide) rfl (fun ls hl => ?_)
  refine lv_goto (tgt := 33) hx hb dX1_digest_66 (by decide) ?_
  refine lv_iload_n hx hb dX1_digest_33 rfl (lv_at hl 0 rfl) ?_
  refine lv_bipush (v := 12) hx hb dX1_digest_34 (by decide) ?_
  refine lv_icmp_ge (tgt := 69) hx hb dX1_digest_36 (by decide) (fun c38 => absurd c38 (by decide)) (fun c38 => ?_)
  refine lv_lload_n hx hb dX1_digest_39 rfl (lv_at hl 1 rfl) ?_
  refine lv_ldc2 (v := 31) hx hb hown (hts (.constantLong RX1 199 31) (by decide +kernel)) dX1_digest_40 ?_
  refine lv_lmul hx hb dX1_digest_43 ?_
  refine W.eq (g2 := F0 m 44 ls [.long 5227630902056528359]) rfl ?_
  refine lv_bipush (v := 10) hx hb dX1_digest_44 (by decide) ?_
  refine lv_aload_n hx hb dX1_digest_46 rfl (lv_at hl 2 rfl) ?_
  refine va_get (D := (dC, dI)) (ci := 1) (v := .ref ra) (C := RX1) (T := TX1) (N := 7) hx hb hts (by decide +kernel) hown hK hP 0 rfl rfl 3 (by decide) (hts (.fieldLink RX1 19 "ThatchRoof" "rains" "[I") (by decide +kernel)) (fun _ h9 => h9) rfl dX1_digest_47 ?_
  refine lv_iload_n hx hb dX1_digest_50 rfl (lv_at hl 0 rfl) ?_
  refine va_iald hx hb hK hP 3 2 rfl rfl (vp_in_nI (n := 6) (by decide) (by decide)) dX1_digest_51 ?_
  refine lv_topi (fun x39 ex39 => ?_)
  obtain rfl : x39 = 4 := ex39.trans (hra _ (by decide))
  refine lv_imul hx hb dX1_digest_52 ?_
  refine W.eq (g2 := F0 m 53 ls [.int 40, .long 5227630902056528359]) rfl ?_
  refine lv_aload_n hx hb dX1_digest_53 rfl (lv_at hl 2 rfl) ?_
  refine va_get (D := (dC, dI)) (ci := 1) (v := .ref su) (C := RX1) (T := TX1) (N := 7) hx hb hts (by decide +kernel) hown hK hP 0 rfl rfl 4 (by decide) (hts (.fieldLink RX1 22 "ThatchRoof" "storms" "[I") (by decide +kernel)) (fun _ h9 => h9) rfl dX1_digest_54 ?_
  refine lv_iload_n hx hb dX1_digest_57 rfl (lv_at hl 0 rfl) ?_
  refine va_iald hx hb hK hP 4 3 rfl rfl (vp_in_nI (n := 6) (by decide) (by decide)) dX1_digest_58 ?_
  refine lv_topi (fun x40 ex40 => ?_)
  obtain rfl : x40 = 0 := ex40
  refine lv_iadd hx hb dX1_digest_59 ?_
  refine W.eq (g2 := F0 m 60 ls [.int 40, .long 5227630902056528359]) rfl ?_
  refine lv_i2l (v := 40) hx hb dX1_digest_60 (by first | rfl | decide) ?_
  refine lv_ladd hx hb dX1_digest_61 ?_
  refine W.eq (g2 := F0 m 62 ls [.long 5227630902056528399]) rfl ?_
  refine lv_lstore_n (lv' := [(1, .long 5227630902056528399), (3, .int 6), (0, .ref h)]) hx hb dX1_digest_62 rfl hl (by decide) rfl (fun ls hl => ?_)
  refine lv_iinc (v := 7) (lv' := [(3, .int 7), (1, .long 5227630902056528399), (0, .ref h)]) hx hb dX1_digest_63 hl (k := 1) rfl (by decide) (by decide) rfl (fun ls hl => ?_)
  refine lv_goto (tgt := 33) hx hb dX1_digest_66 (by decide) ?_
  refine lv_iload_n hx hb dX1_digest_33 rfl (lv_at hl 0 rfl) ?_
  refine lv_bipush (v := 12) hx hb dX1_digest_34 (by decide) ?_
  refine lv_icmp_ge (tgt := 69) hx hb dX1_digest_36 (by decide) (fun c41 => absurd c41 (by decide)) (fun c41 => ?_)
  refine lv_lload_n hx hb dX1_digest_39 rfl (lv_at hl 1 rfl) ?_
  refine lv_ldc2 (v := 31) hx hb hown (hts (.constantLong RX1 199 31) (by decide +kernel)) dX1_digest_40 ?_
  refine lv_lmul hx hb dX1_digest_43 ?_
  refine W.eq (g2 := F0 m 44 ls [.long (-3964138699633584175)]) rfl ?_
  refine lv_bipush (v := 10) hx hb dX1_digest_44 (by decide) ?_
  refine lv_aload_n hx hb dX1_digest_46 rfl (lv_at hl 2 rfl) ?_
  refine va_get (D := (dC, dI)) (ci := 1) (v := .ref ra) (C := RX1) (T := TX1) (N := 7) hx hb hts (by decide +kernel) hown hK hP 0 rfl rfl 3 (by decide) (hts (.fieldLink RX1 19 "ThatchRoof" "rains" "[I") (by decide +kernel)) (fun _ h9 => h9) rfl dX1_digest_47 ?_
  refine lv_iload_n hx hb dX1_digest_50 rfl (lv_at hl 0 rfl) ?_
  refine va_iald hx hb hK hP 3 2 rfl rfl (vp_in_nI (n := 7) (by decide) (by decide)) dX1_digest_51 ?_
  refine lv_topi (fun x42 ex42 => ?_)
  obtain rfl : x42 = 4 := ex42.trans (hra _ (by decide))
  refine lv_imul hx hb dX1_digest_52 ?_
  refine W.eq (g2 := F0 m 53 ls [.int 40, .long (-3964138699633584175)]) rfl ?_
  refine lv_aload_n hx hb dX1_digest_53 rfl (lv_at hl 2 rfl) ?_
  refine va_get (D := (dC, dI)) (ci := 1) (v := .ref su) (C := RX1) (T := TX1) (N := 7) hx hb hts (by decide +kernel) hown hK hP 0 rfl rfl 4 (by decide) (hts (.fieldLink RX1 22 "ThatchRoof" "storms" "[I") (by decide +kernel)) (fun _ h9 => h9) rfl dX1_digest_54 ?_
  refine lv_iload_n hx hb dX1_digest_57 rfl (lv_at hl 0 rfl) ?_
  refine va_iald hx hb hK hP 4 3 rfl rfl (vp_in_nI (n := 7) (by decide) (by decide)) dX1_digest_58 ?_
  refine lv_topi (fun x43 ex43 => ?_)
  obtain rfl : x43 = 0 := ex43
  refine lv_iadd hx hb dX1_digest_59 ?_
  refine W.eq (g2 := F0 m 60 ls [.int 40, .long (-3964138699633584175)]) rfl ?_
  refine lv_i2l (v := 40) hx hb dX1_digest_60 (by first | rfl | decide) ?_
  refine lv_ladd hx hb dX1_digest_61 ?_
  refine W.eq (g2 := F0 m 62 ls [.long (-3964138699633584135)]) rfl ?_
  refine lv_lstore_n (lv' := [(1, .long (-3964138699633584135)), (3, .int 7), (0, .ref h)]) hx hb dX1_digest_62 rfl hl (by decide) rfl (fun ls hl => ?_)
  refine lv_iinc (v := 8) (lv' := [(3, .int 8), (1, .long (-3964138699633584135)), (0, .ref h)]) hx hb dX1_digest_63 hl (k := 1) rfl (by decide) (by decide) rfl (fun ls hl => ?_)
  refine lv_goto (tgt := 33) hx hb dX1_digest_66 (by decide) ?_
  refine lv_iload_n hx hb dX1_digest_33 rfl (lv_at hl 0 rfl) ?_
  refine lv_bipush (v := 12) hx hb dX1_digest_34 (by decide) ?_
  refine lv_icmp_ge (tgt := 69) hx hb dX1_digest_36 (by decide) (fun c44 => absurd c44 (by decide)) (fun c44 => ?_)
  refine lv_lload_n hx hb dX1_digest_39 rfl (lv_at hl 1 rfl) ?_
  refine lv_ldc2 (v := 31) hx hb hown (hts (.constantLong RX1 199 31) (by decide +kernel)) dX1_digest_40 ?_
  refine lv_lmul hx hb dX1_digest_43 ?_
  refine W.eq (g2 := F0 m 44 ls [.long 6238908827325753127]) rfl ?_
  refine lv_bipush (v := 10) hx hb dX1_digest_44 (by decide) ?_
  refine lv_aload_n hx hb dX1_digest_46 rfl (lv_at hl 2 rfl) ?_
  refine va_get (D := (dC, dI)) (ci := 1) (v := .ref ra) (C := RX1) (T := TX1) (N := 7) hx hb hts (by decide +kernel) hown hK hP 0 rfl rfl 3 (by decide) (hts (.fieldLink RX1 19 "ThatchRoof" "rains" "[I") (by decide +kernel)) (fun _ h9 => h9) rfl dX1_digest_47 ?_
  refine lv_iload_n hx hb dX1_digest_50 rfl (lv_at hl 0 rfl) ?_
  refine va_iald hx hb hK hP 3 2 rfl rfl (vp_in_nI (n := 8) (by decide) (by decide)) dX1_digest_51 ?_
  refine lv_topi (fun x45 ex45 => ?_)
  obtain rfl : x45 = 4 := ex45.trans (hra _ (by decide))
  refine lv_imul hx hb dX1_digest_52 ?_
  refine W.eq (g2 := F0 m 53 ls [.int 40, .long 6238908827325753127]) rfl ?_
  refine lv_aload_n hx hb dX1_digest_53 rfl (lv_at hl 2 rfl) ?_
  refine va_get (D := (dC, dI)) (ci := 1) (v := .ref su) (C := RX1) (T := TX1) (N := 7) hx hb hts (by decide +kernel) hown hK hP 0 rfl rfl 4 (by decide) (hts (.fieldLink RX1 22 "ThatchRoof" "storms" "[I") (by decide +kernel)) (fun _ h9 => h9) rfl dX1_digest_54 ?_
  refine lv_iload_n hx hb dX1_digest_57 rfl (lv_at hl 0 rfl) ?_
  refine va_iald hx hb hK hP 4 3 rfl rfl (vp_in_nI (n := 8) (by decide) (by decide)) dX1_digest_58 ?_
  refine lv_topi (fun x46 ex46 => ?_)
  obtain rfl : x46 = 0 := ex46
  refine lv_iadd hx hb dX1_digest_59 ?_
  refine W.eq (g2 := F0 m 60 ls [.int 40, .long 6238908827325753127]) rfl ?_
  refine lv_i2l (v := 40) hx hb dX1_digest_60 (by first | rfl | decide) ?_
  refine lv_ladd hx hb dX1_digest_61 ?_
  refine W.eq (g2 := F0 m 62 ls [.long 6238908827325753167]) rfl ?_
  refine lv_lstore_n (lv' := [(1, .long 6238908827325753167), (3, .int 8), (0, .ref h)]) hx hb dX1_digest_62 rfl hl (by decide) rfl (fun ls hl => ?_)
  refine lv_iinc (v := 9) (lv' := [(3, .int 9), (1, .long 6238908827325753167), (0, .ref h)]) hx hb dX1_digest_63 hl (k := 1) rfl (by decide) (by decide) rfl (fun ls hl => ?_)
  refine lv_goto (tgt := 33) hx hb dX1_digest_66 (by decide) ?_
  refine lv_iload_n hx hb dX1_digest_33 rfl (lv_at hl 0 rfl) ?_
  refine lv_bipush (v := 12) hx hb dX1_digest_34 (by decide) ?_
  refine lv_icmp_ge (tgt := 69) hx hb dX1_digest_36 (by decide) (fun c47 => absurd c47 (by decide)) (fun c47 => ?_)
  refine lv_lload_n hx hb dX1_digest_39 rfl (lv_at hl 1 rfl) ?_
  refine lv_ldc2 (v := 31) hx hb hown (hts (.constantLong RX1 199 31) (by decide +kernel)) dX1_digest_40 ?_
  refine lv_lmul hx hb dX1_digest_43 ?_
  refine W.eq (g2 := F0 m 44 ls [.long 8938732910002832017]) rfl ?_
  refine lv_bipush (v := 10) hx hb dX1_digest_44 (by decide) ?_
  refine lv_aload_n hx hb dX1_digest_46 rfl (lv_at hl 2 rfl) ?_
  refine va_get (D := (dC, dI)) (ci := 1) (v := .ref ra) (C := RX1) (T := TX1) (N := 7) hx hb hts (by decide +kernel) hown hK hP 0 rfl rfl 3 (by decide) (hts (.fieldLink RX1 19 "ThatchRoof" "rains" "[I") (by decide +kernel)) (fun _ h9 => h9) rfl dX1_digest_47 ?_
  refine lv_iload_n hx hb dX1_digest_50 rfl (lv_at hl 0 rfl) ?_
  refine va_iald hx hb hK hP 3 2 rfl rfl (vp_in_nI (n := 9) (by decide) (by decide)) dX1_digest_51 ?_
  refine lv_topi (fun x48 ex48 => ?_)
  obtain rfl : x48 = 4 := ex48.trans (hra _ (by decide))
  refine lv_imul hx hb dX1_digest_52 ?_
  refine W.eq (g2 := F0 m 53 ls [.int 40, .long 8938732910002832017]) rfl ?_
  refine lv_aload_n hx hb dX1_digest_53 rfl (lv_at hl 2 rfl) ?_
  refine va_get (D := (dC, dI)) (ci := 1) (v := .ref su) (C := RX1) (T := TX1) (N := 7) hx hb hts (by decide +kernel) hown hK hP 0 rfl rfl 4 (by decide) (hts (.fieldLink RX1 22 "ThatchRoof" "storms" "[I") (by decide +kernel)) (fun _ h9 => h9) rfl dX1_digest_54 ?_
  refine lv_iload_n hx hb dX1_digest_57 rfl (lv_at hl 0 rfl) ?_
  refine va_iald hx hb hK hP 4 3 rfl rfl (vp_in_nI (n := 9) (by decide) (by decide)) dX1_digest_58 ?_
  refine lv_topi (fun x49 ex49 => ?_)
  obtain rfl : x49 = 0 := ex49
  refine lv_iadd hx hb dX1_digest_59 ?_
  refine W.eq (g2 := F0 m 60 ls [.int 40, .long 8938732910002832017]) rfl ?_
  refine lv_i2l (v := 40) hx hb dX1_digest_60 (by first | rfl | decide) ?_
  refine lv_ladd hx hb dX1_digest_61 ?_
  refine W.eq (g2 := F0 m 62 ls [.long 8938732910002832057]) rfl ?_
  refine lv_lstore_n (lv' := [(1, .long 8938732910002832057), (3, .int 9), (0, .ref h)]) hx hb dX1_digest_62 rfl hl (by decide) rfl (fun ls hl => ?_)
  refine lv_iinc (v := 10) (lv' := [(3, .int 10), (1, .long 8938732910002832057), (0, .ref h)]) hx hb dX1_digest_63 hl (k := 1) rfl (by decide) (by decide) rfl (fun ls hl => ?_)
  refine lv_goto (tgt := 33) hx hb dX1_digest_66 (by decide) ?_
  refine lv_iload_n hx hb dX1_digest_33 rfl (lv_at hl 0 rfl) ?_
  refine lv_bipush (v := 12) hx hb dX1_digest_34 (by decide) ?_
  refine lv_icmp_ge (tgt := 69) hx hb dX1_digest_36 (by decide) (fun c50 => absurd c50 (by decide)) (fun c50 => ?_)
  refine lv_lload_n hx hb dX1_digest_39 rfl (lv_at hl 1 rfl) ?_
  refine lv_ldc2 (v := 31) hx hb hown (hts (.constantLong RX1 199 31) (by decide +kernel)) dX1_digest_40 ?_
  refine lv_lmul hx hb dX1_digest_43 ?_
  refine W.eq (g2 := F0 m 44 ls [.long 399559104444519527]) rfl ?_
  refine lv_bipush (v := 10) hx hb dX1_digest_44 (by decide) ?_
  refine lv_aload_n hx hb dX1_digest_46 rfl (lv_at hl 2 rfl) ?_
  refine va_get (D := (dC, dI)) (ci := 1) (v := .ref ra) (C := RX1) (T := TX1) (N := 7) hx hb hts (by decide +kernel) hown hK hP 0 rfl rfl 3 (by decide) (hts (.fieldLink RX1 19 "ThatchRoof" "rains" "[I") (by decide +kernel)) (fun _ h9 => h9) rfl dX1_digest_47 ?_
  refine lv_iload_n hx hb dX1_digest_50 rfl (lv_at hl 0 rfl) ?_
  refine va_iald hx hb hK hP 3 2 rfl rfl (vp_in_nI (n := 10) (by decide) (by decide)) dX1_digest_51 ?_
  refine lv_topi (fun x51 ex51 => ?_)
  obtain rfl : x51 = 4 := ex51.trans (hra _ (by decide))
  refine lv_imul hx hb dX1_digest_52 ?_
  refine W.eq (g2 := F0 m 53 ls [.int 40, .long 399559104444519527]) rfl ?_
  refine lv_aload_n hx hb dX1_digest_53 rfl (lv_at hl 2 rfl) ?_
  refine va_get (D := (dC, dI)) (ci := 1) (v := .ref su) (C := RX1) (T := TX1) (N := 7) hx hb hts (by decide +kernel) hown hK hP 0 rfl rfl 4 (by decide) (hts (.fieldLink RX1 22 "ThatchRoof" "storms" "[I") (by decide +kernel)) (fun _ h9 => h9) rfl dX1_digest_54 ?_
  refine lv_iload_n hx hb dX1_digest_57 rfl (lv_at hl 0 rfl) ?_
  refine va_iald hx hb hK hP 4 3 rfl rfl (vp_in_nI (n := 10) (by decide) (by decide)) dX1_digest_58 ?_
  refine lv_topi (fun x52 ex52 => ?_)
  obtain rfl : x52 = 0 := ex52
  refine lv_iadd hx hb dX1_digest_59 ?_
  refine W.eq (g2 := F0 m 60 ls [.int 40, .long 399559104444519527]) rfl ?_
  refine lv_i2l (v := 40) hx hb dX1_digest_60 (by first | rfl | decide) ?_
  refine lv_ladd hx hb dX1_digest_61 ?_
  refine W.eq (g2 := F0 m 62 ls [.long 399559104444519567]) rfl ?_
  refine lv_lstore_n (lv' := [(1, .long 399559104444519567), (3, .int 10), (0, .ref h)]) hx hb dX1_digest_62 rfl hl (by decide) rfl (fun ls hl => ?_)
  refine lv_iinc (v := 11) (lv' := [(3, .int 11), (1, .long 399559104444519567), (0, .ref h)]) hx hb dX1_digest_63 hl (k := 1) rfl (by decide) (by decide) rfl (fun ls hl => ?_)
  refine lv_goto (tgt := 33) hx hb dX1_digest_66 (by decide) ?_
  refine lv_iload_n hx hb dX1_digest_33 rfl (lv_at hl 0 rfl) ?_
  refine lv_bipush (v := 12) hx hb dX1_digest_34 (by decide) ?_
  refine lv_icmp_ge (tgt := 69) hx hb dX1_digest_36 (by decide) (fun c53 => absurd c53 (by decide)) (fun c53 => ?_)
  refine lv_lload_n hx hb dX1_digest_39 rfl (lv_at hl 1 rfl) ?_
  refine lv_ldc2 (v := 31) hx hb hown (hts (.constantLong RX1 199 31) (by decide +kernel)) dX1_digest_40 ?_
  refine lv_lmul hx hb dX1_digest_43 ?_
  refine W.eq (g2 := F0 m 44 ls [.long (-6060411835929445039)]) rfl ?_
  refine lv_bipush (v := 10) hx hb dX1_digest_44 (by decide) ?_
  refine lv_aload_n hx hb dX1_digest_46 rfl (lv_at hl 2 rfl) ?_
  refine va_get (D := (dC, dI)) (ci := 1) (v := .ref ra) (C := RX1) (T := TX1) (N := 7) hx hb hts (by decide +kernel) hown hK hP 0 rfl rfl 3 (by decide) (hts (.fieldLink RX1 19 "ThatchRoof" "rains" "[I") (by decide +kernel)) (fun _ h9 => h9) rfl dX1_digest_47 ?_
  refine lv_iload_n hx hb dX1_digest_50 rfl (lv_at hl 0 rfl) ?_
  refine va_iald hx hb hK hP 3 2 rfl rfl (vp_in_nI (n := 11) (by decide) (by decide)) dX1_digest_51 ?_
  refine lv_topi (fun x54 ex54 => ?_)
  obtain rfl : x54 = 4 := ex54.trans (hra _ (by decide))
  refine lv_imul hx hb dX1_digest_52 ?_
  refine W.eq (g2 := F0 m 53 ls [.int 40, .long (-6060411835929445039)]) rfl ?_
  refine lv_aload_n hx hb dX1_digest_53 rfl (lv_at hl 2 rfl) ?_
  refine va_get (D := (dC, dI)) (ci := 1) (v := .ref su) (C := RX1) (T := TX1) (N := 7) hx hb hts (by decide +kernel) hown hK hP 0 rfl rfl 4 (by decide) (hts (.fieldLink RX1 22 "ThatchRoof" "storms" "[I") (by decide +kernel)) (fun _ h9 => h9) rfl dX1_digest_54 ?_
  refine lv_iload_n hx hb dX1_digest_57 rfl (lv_at hl 0 rfl) ?_
  refine va_iald hx hb hK hP 4 3 rfl rfl (vp_in_nI (n := 11) (by decide) (by decide)) dX1_digest_58 ?_
  refine lv_topi (fun x55 ex55 => ?_)
  obtain rfl : x55 = 0 := ex55
  refine lv_iadd hx hb dX1_digest_59 ?_
  refine W.eq (g2 := F0 m 60 ls [.int 40, .long (-6060411835929445039)]) rfl ?_
  refine lv_i2l (v := 40) hx hb dX1_digest_60 (by first | rfl | decide) ?_
  refine lv_ladd hx hb dX1_digest_61 ?_
  refine W.eq (g2 := F0 m 62 ls [.long (-6060411835929444999)]) rfl ?_
  refine lv_lstore_n (lv' := [(1, .long (-6060411835929444999)), (3, .int 11), (0, .ref h)]) hx hb dX1_digest_62 rfl hl (by decide) rfl (fun ls hl => ?_)
  refine lv_iinc (v := 12) (lv' := [(3, .int 12), (1, .long (-6060411835929444999)), (0, .ref h)]) hx hb dX1_digest_63 hl (k := 1) rfl (by decide) (by decide) rfl (fun ls hl => ?_)
  refine lv_goto (tgt := 33) hx hb dX1_digest_66 (by decide) ?_
  refine lv_iload_n hx hb dX1_digest_33 rfl (lv_at hl 0 rfl) ?_
  refine lv_bipush (v := 12) hx hb dX1_digest_34 (by decide) ?_
  refine lv_icmp_ge (tgt := 69) hx hb dX1_digest_36 (by decide) (fun c56 => ?_) (fun c56 => absurd c56 (by decide))
  refine lv_iconst (v := 0) hx hb dX1_digest_69 (by decide) ?_
  refine lv_istore_n (lv' := [(3, .int 0), (1, .long (-6060411835929444999)), (0, .ref h)]) hx hb dX1_digest_70 rfl hl (by decide) rfl (fun ls hl => ?_)
  refine lv_iload_n hx hb dX1_digest_71 rfl (lv_at hl 0 rfl) ?_
  refine lv_bipush (v := 6) hx hb dX1_digest_72 (by decide) ?_
  refine lv_icmp_ge (tgt := 103) hx hb dX1_digest_74 (by decide) (fun c57 => absurd c57 (by decide)) (fun c57 => ?_)
  refine lv_aload_n hx hb dX1_digest_77 rfl (lv_at hl 2 rfl) ?_
  refine va_get (D := (dC, dI)) (ci := 1) (v := .ref ro) (C := RX1) (T := TX1) (N := 7) hx hb hts (by decide +kernel) hown hK hP 0 rfl rfl 0 (by decide) (hts (.fieldLink RX1 11 "ThatchRoof" "roofs" "[LThatchRoof$Roof;") (by decide +kernel)) (fun _ h9 => h9) rfl dX1_digest_78 ?_
  refine lv_iload_n hx hb dX1_digest_81 rfl (lv_at hl 0 rfl) ?_
  refine va_aldq hx hb hK hP 1 0 rfl rfl (vp_in_nI (n := 0) (by decide) (by decide)) dX1_digest_82 ?_
  refine W.eq (g2 := F0 m 83 ls [.null]) rfl ?_
  refine lv_astoreN (lv' := [(4, .null), (3, .int 0), (1, .long (-6060411835929444999)), (0, .ref h)]) hx hb dX1_digest_83 hl (by decide) rfl (fun ls hl => ?_)
  refine lv_aloadN hx hb dX1_digest_85 (lv_at hl 0 rfl) ?_
  refine lv_ifnullN (tgt := 97) hx hb dX1_digest_87 (by decide) ?_
  refine lv_iinc (v := 1) (lv' := [(3, .int 1), (4, .null), (1, .long (-6060411835929444999)), (0, .ref h)]) hx hb dX1_digest_97 hl (k := 1) rfl (by decide) (by decide) rfl (fun ls hl => ?_)
  refine lv_goto (tgt := 71) hx hb dX1_digest_100 (by decide) ?_
  refine lv_iload_n hx hb dX1_digest_71 rfl (lv_at hl 0 rfl) ?_
  refine lv_bipush (v := 6) hx hb dX1_digest_72 (by decide) ?_
  refine lv_icmp_ge (tgt := 103) hx hb dX1_digest_74 (by decide) (fun c58 => absurd c58 (by decide)) (fun c58 => ?_)
  refine lv_aload_n hx hb dX1_digest_77 rfl (lv_at hl 3 rfl) ?_
  refine va_get (D := (dC, dI)) (ci := 1) (v := .ref ro) (C := RX1) (T := TX1) (N := 7) hx hb hts (by decide +kernel) hown hK hP 0 rfl rfl 0 (by decide) (hts (.fieldLink RX1 11 "ThatchRoof" "roofs" "[LThatchRoof$Roof;") (by decide +kernel)) (fun _ h9 => h9) rfl dX1_digest_78 ?_
  refine lv_iload_n hx hb dX1_digest_81 rfl (lv_at hl 0 rfl) ?_
  refine va_aldq hx hb hK hP 1 0 rfl rfl (vp_in_nI (n := 1) (by decide) (by decide)) dX1_digest_82 ?_
  refine W.eq (g2 := F0 m 83 ls [.null]) rfl ?_
  refine lv_astoreN (lv' := [(4, .null), (3, .int 1), (1, .long (-6060411835929444999)), (0, .ref h)]) hx hb dX1_digest_83 hl (by decide) rfl (fun ls hl => ?_)
  refine lv_aloadN hx hb dX1_digest_85 (lv_at hl 0 rfl) ?_
  refine lv_ifnullN (tgt := 97) hx hb dX1_digest_87 (by decide) ?_
  refine lv_iinc (v := 2) (lv' := [(3, .int 2), (4, .null), (1, .long (-6060411835929444999)), (0, .ref h)]) hx hb dX1_digest_97 hl (k := 1) rfl (by decide) (by decide) rfl (fun ls hl => ?_)
  refine lv_goto (tgt := 71) hx hb dX1_digest_100 (by decide) ?_
  refine lv_iload_n hx hb dX1_digest_71 rfl (lv_at hl 0 rfl) ?_
  refine lv_bipush (v := 6) hx hb dX1_digest_72 (by decide) ?_
  refine lv_icmp_ge (tgt := 103) hx hb dX1_digest_74 (by decide) (fun c59 => absurd c59 (by decide)) (fun c59 => ?_)
  refine lv_aload_n hx hb dX1_digest_77 rfl (lv_at hl 3 rfl) ?_
  refine va_get (D := (dC, dI)) (ci := 1) (v := .ref ro) (C := RX1) (T := TX1) (N := 7) hx hb hts (by decide +kernel) hown hK hP 0 rfl rfl 0 (by decide) (hts (.fieldLink RX1 11 "ThatchRoof" "roofs" "[LThatchRoof$Roof;") (by decide +kernel)) (fun _ h9 => h9) rfl dX1_digest_78 ?_
  refine lv_iload_n hx hb dX1_digest_81 rfl (lv_at hl 0 rfl) ?_
  refine va_aldq hx hb hK hP 1 0 rfl rfl (vp_in_nI (n := 2) (by decide) (by decide)) dX1_digest_82 ?_
  refine W.eq (g2 := F0 m 83 ls [.null]) rfl ?_
  refine lv_astoreN (lv' := [(4, .null), (3, .int 2), (1, .long (-6060411835929444999)), (0, .ref h)]) hx hb dX1_digest_83 hl (by decide) rfl (fun ls hl => ?_)
  refine lv_aloadN hx hb dX1_digest_85 (lv_at hl 0 rfl) ?_
  refine lv_ifnullN (tgt := 97) hx hb dX1_digest_87 (by decide) ?_
  refine lv_iinc (v := 3) (lv' := [(3, .int 3), (4, .null), (1, .long (-6060411835929444999)), (0, .ref h)]) hx hb dX1_digest_97 hl (k := 1) rfl (by decide) (by decide) rfl (fun ls hl => ?_)
  refine lv_goto (tgt := 71) hx hb dX1_digest_100 (by decide) ?_
  refine lv_iload_n hx hb dX1_digest_71 rfl (lv_at hl 0 rfl) ?_
  refine lv_bipush (v := 6) hx hb dX1_digest_72 (by decide) ?_
  refine lv_icmp_ge (tgt := 103) hx hb dX1_digest_74 (by decide) (fun c60 => absurd c60 (by decide)) (fun c60 => ?_)
  refine lv_aload_n hx hb dX1_digest_77 rfl (lv_at hl 3 rfl) ?_
  refine va_get (D := (dC, dI)) (ci := 1) (v := .ref ro) (C := RX1) (T := TX1) (N := 7) hx hb hts (by decide +kernel) hown hK hP 0 rfl rfl 0 (by decide) (hts (.fieldLink RX1 11 "ThatchRoof" "roofs" "[LThatchRoof$Roof;") (by decide +kernel)) (fun _ h9 => h9) rfl dX1_digest_78 ?_
  refine lv_iload_n hx hb dX1_digest_81 rfl (lv_at hl 0 rfl) ?_
  refine va_aldq hx hb hK hP 1 0 rfl rfl (vp_in_nI (n := 3) (by decide) (by decide)) dX1_digest_82 ?_
  refine W.eq (g2 := F0 m 83 ls [.null]) rfl ?_
  refine lv_astoreN (lv' := [(4, .null), (3, .int 3), (1, .long (-6060411835929444999)), (0, .ref h)]) hx hb dX1_digest_83 hl (by decide) rfl (fun ls hl => ?_)
  refine lv_aloadN hx hb dX1_digest_85 (lv_at hl 0 rfl) ?_
  refine lv_ifnullN (tgt := 97) hx hb dX1_digest_87 (by decide) ?_
  refine lv_iinc (v := 4) (lv' := [(3, .int 4), (4, .null), (1, .long (-6060411835929444999)), (0, .ref h)]) hx hb dX1_digest_97 hl (k := 1) rfl (by decide) (by decide) rfl (fun ls hl => ?_)
  refine lv_goto (tgt := 71) hx hb dX1_digest_100 (by decide) ?_
  refine lv_iload_n hx hb dX1_digest_71 rfl (lv_at hl 0 rfl) ?_
  refine lv_bipush (v := 6) hx hb dX1_digest_72 (by decide) ?_
  refine lv_icmp_ge (tgt := 103) hx hb dX1_digest_74 (by decide) (fun c61 => absurd c61 (by decide)) (fun c61 => ?_)
  refine lv_aload_n hx hb dX1_digest_77 rfl (lv_at hl 3 rfl) ?_
  refine va_get (D := (dC, dI)) (ci := 1) (v := .ref ro) (C := RX1) (T := TX1) (N := 7) hx hb hts (by decide +kernel) hown hK hP 0 rfl rfl 0 (by decide) (hts (.fieldLink RX1 11 "ThatchRoof" "roofs" "[LThatchRoof$Roof;") (by decide +kernel)) (fun _ h9 => h9) rfl dX1_digest_78 ?_
  refine lv_iload_n hx hb dX1_digest_81 rfl (lv_at hl 0 rfl) ?_
  refine va_aldq hx hb hK hP 1 0 rfl rfl (vp_in_nI (n := 4) (by decide) (by decide)) dX1_digest_82 ?_
  refine W.eq (g2 := F0 m 83 ls [.null]) rfl ?_
  refine lv_astoreN (lv' := [(4, .null), (3, .int 4), (1, .long (-6060411835929444999)), (0, .ref h)]) hx hb dX1_digest_83 hl (by decide) rfl (fun ls hl => ?_)
  refine lv_aloadN hx hb dX1_digest_85 (lv_at hl 0 rfl) ?_
  refine lv_ifnullN (tgt := 97) hx hb dX1_digest_87 (by decide) ?_
  refine lv_iinc (v := 5) (lv' := [(3, .int 5), (4, .null), (1, .long (-6060411835929444999)), (0, .ref h)]) hx hb dX1_digest_97 hl (k := 1) rfl (by decide) (by decide) rfl (fun ls hl => ?_)
  refine lv_goto (tgt := 71) hx hb dX1_digest_100 (by decide) ?_
  refine lv_iload_n hx hb dX1_digest_71 rfl (lv_at hl 0 rfl) ?_
  refine lv_bipush (v := 6) hx hb dX1_digest_72 (by decide) ?_
  refine lv_icmp_ge (tgt := 103) hx hb dX1_digest_74 (by decide) (fun c62 => absurd c62 (by decide)) (fun c62 => ?_)
  refine lv_aload_n hx hb dX1_digest_77 rfl (lv_at hl 3 rfl) ?_
  refine va_get (D := (dC, dI)) (ci := 1) (v := .ref ro) (C := RX1) (T := TX1) (N := 7) hx hb hts (by decide +kernel) hown hK hP 0 rfl rfl 0 (by decide) (hts (.fieldLink RX1 11 "ThatchRoof" "roofs" "[LThatchRoof$Roof;") (by decide +kernel)) (fun _ h9 => h9) rfl dX1_digest_78 ?_
  refine lv_iload_n hx hb dX1_digest_81 rfl (lv_at hl 0 rfl) ?_
  refine va_aldq hx hb hK hP 1 0 rfl rfl (vp_in_nI (n := 5) (by decide) (by decide)) dX1_digest_82 ?_
  refine W.eq (g2 := F0 m 83 ls [.null]) rfl ?_
  refine lv_astoreN (lv' := [(4, .null), (3, .int 5), (1, .long (-6060411835929444999)), (0, .ref h)]) hx hb dX1_digest_83 hl (by decide) rfl (fun ls hl => ?_)
  refine lv_aloadN hx hb dX1_digest_85 (lv_at hl 0 rfl) ?_
  refine lv_ifnullN (tgt := 97) hx hb dX1_digest_87 (by decide) ?_
  refine lv_iinc (v := 6) (lv' := [(3, .int 6), (4, .null), (1, .long (-6060411835929444999)), (0, .ref h)]) hx hb dX1_digest_97 hl (k := 1) rfl (by decide) (by decide) rfl (fun ls hl => ?_)
  refine lv_goto (tgt := 71) hx hb dX1_digest_100 (by decide) ?_
  refine lv_iload_n hx hb dX1_digest_71 rfl (lv_at hl 0 rfl) ?_
  refine lv_bipush (v := 6) hx hb dX1_digest_72 (by decide) ?_
  refine lv_icmp_ge (tgt := 103) hx hb dX1_digest_74 (by decide) (fun c63 => ?_) (fun c63 => absurd c63 (by decide))
  refine lv_lload_n hx hb dX1_digest_103 rfl (lv_at hl 2 rfl) ?_
  exact W.lret (v := (-6060411835929444999)) hx hb hr (fun t ht hW => ⟨(-6060411835929444999), rfl, by (first | rfl | assumption | decide | (simp_all; done) | grind), ht⟩) (fun _ h => nomatch h) dX1_digest_104

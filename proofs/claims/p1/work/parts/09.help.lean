set_option maxHeartbeats 4000000 in
set_option maxRecDepth 100000 in
theorem kL_build (l : Launch) (hst : l.stackTraces = false) (dC : Nat → ClassId) (dI : Nat → Nat → Nat) (sz : Nat) (h : Nat) (ro : Nat) (ba : Nat) (ra : Nat) (su : Nat) (tr : Nat) (cR : ClassId) (ou : Nat) (cO : ClassId) (fo : Nat → Int64) (a1 : Int32) (a2 : Int32) (a3 : Int32) : Met l yL_build wsL_build ({ frames := 7, cells := 5, slots := 250, locals := 106 }) (va_Pc [.ref h, .int a1, .int a2, .int a3, .ref ou] (fun U => U.heap.size = sz ∧ va_P (dC, dI) vwCl [(h, .inr (1, [.ref ro, .int 0, .ref ba, .ref ra, .ref su, .int 0, .ref tr])), (ro, .inl (cR, 6, .inr (.inr (.inr (.inr (fun _ => none)))))), (ou, .inl (cO, 1, .inr (.inl fo)))] U.heap ∧ va_K (dC, dI) vwCl [(cR, .object RX0), (cO, .long)] U ∧ va_D (fun _ => True) [(h, .inr (1, [.ref ro, .int 0, .ref ba, .ref ra, .ref su, .int 0, .ref tr])), (ro, .inl (cR, 6, .inr (.inr (.inr (.inr (fun _ => none)))))), (ou, .inl (cO, 1, .inr (.inl fo)))] ∧ zX U ∧ zTh (va_A [(h, .inr (1, [.ref ro, .int 0, .ref ba, .ref ra, .ref su, .int 0, .ref tr])), (ro, .inl (cR, 6, .inr (.inr (.inr (.inr (fun _ => none)))))), (ou, .inl (cO, 1, .inr (.inl fo)))] sz) U U.heap)) (va_Qi (fun (r : Int32) (u : (Nat → Int64)) => (r = 0 ∧ u 0 = 0 ∧ (zIn a1 2 10 ∧ zIn a2 2 6 ∧ zIn a3 30 60)) ∨ (r = 1 ∧ (¬ (zIn a1 2 10 ∧ zIn a2 2 6 ∧ zIn a3 30 60)))) (fun (u : (Nat → Int64)) (t : State) => va_P (dC, dI) vwCl [(ou, .inl (cO, 1, .inr (.inl u)))] t.heap ∧ va_K (dC, dI) vwCl [] t ∧ va_D (va_A [(h, .inr (1, [.ref ro, .int 0, .ref ba, .ref ra, .ref su, .int 0, .ref tr])), (ro, .inl (cR, 6, .inr (.inr (.inr (.inr (fun _ => none)))))), (ou, .inl (cO, 1, .inr (.inl fo)))] sz) [(ou, .inl (cO, 1, .inr (.inl u)))]) (va_A [(h, .inr (1, [.ref ro, .int 0, .ref ba, .ref ra, .ref su, .int 0, .ref tr])), (ro, .inl (cR, 6, .inr (.inr (.inr (.inr (fun _ => none)))))), (ou, .inl (cO, 1, .inr (.inl fo)))] sz)) 5 250 (va_A [(h, .inr (1, [.ref ro, .int 0, .ref ba, .ref ra, .ref su, .int 0, .ref tr])), (ro, .inl (cR, 6, .inr (.inr (.inr (.inr (fun _ => none)))))), (ou, .inl (cO, 1, .inr (.inl fo)))] sz) := by
  refine va_MetW (cc := cL_build) (maxL := 6) (ret := (some .int)) (by decide) rfl ?_
  intro p e s m args below meth c s₁ B hml hv
  obtain ⟨rfl, hsz, hP, hK, hD0, hZX, hZT⟩ := hv
  have hx := B.exec
  have hb := B.bytes
  have hr := B.returns
  have hts := atoms_spec (ws := wsL_build) B.pre
  have hown : s.vm.findClass RL = some m.cls := findClass_of_methodNamed B.named
  have hlocks := B.notSynchronized
  have htab := vx_table (x := yL_build) B (hts (.codeWith yL_build cL_build 6 (some .int) [(0, 12, 15, 13), (0, 12, 19, 15)]) List.mem_cons_self)
  subst hsz
  have hD := hD0.self (sz := s.heap.size)
  generalize hAe : va_A [(h, .inr (1, [.ref ro, .int 0, .ref ba, .ref ra, .ref su, .int 0, .ref tr])), (ro, .inl (cR, 6, .inr (.inr (.inr (.inr (fun _ => none)))))), (ou, .inl (cO, 1, .inr (.inl fo)))] s.heap.size = A at hD hZT ⊢
  have hA : ∀ q : Nat, s.heap.size ≤ q → A q := fun q h => by rw [← hAe]; exact Or.inr h
  have hS : va_S A s.heap s.heap [] := va_S.rf
  have hP : va_P (dC, dI) vwCl [(h, .inr (1, [.ref ro, .int 0, .ref ba, .ref ra, .ref su, .int 0, .ref tr])), (ro, .inl (cR, 6, .inr (.inr (.inr (.inr (fun _ => none)))))), (ou, .inl (cO, 1, .inr (.inl fo)))] s.heap := hP
  have hl := lv_entry ([.ref h, .int a1, .int a2, .int a3, .ref ou]) (n := 6) (Nat.le_of_ble_eq_true rfl)
  rw [lg_entry_eq]
  generalize (lg_sl ([.ref h, .int a1, .int a2, .int a3, .ref ou]) ++ List.replicate (6 - (lg_sl ([.ref h, .int a1, .int a2, .int a3, .ref ou])).length) Slot.unset).toArray = ls at hl ⊢
  have hl : lv_has ls 6 [(0, .ref h), (1, .int a1), (2, .int a2), (3, .int a3), (4, .ref ou)] := hl
  refine lv_aload hx hb dL_build_0 (lv_at hl 4 rfl) ?_
  refine lv_iconst (v := 0) hx hb dL_build_2 (by decide) ?_
  refine lv_aload_n hx hb dL_build_3 rfl (lv_at hl 0 rfl) ?_
  refine lv_iload_n hx hb dL_build_4 rfl (lv_at hl 1 rfl) ?_
  refine lv_iload_n hx hb dL_build_5 rfl (lv_at hl 2 rfl) ?_
  refine lv_iload_n hx hb dL_build_6 rfl (lv_at hl 3 rfl) ?_
  have hPc := hP.sub (ws' := [(h, .inr (1, [.ref ro, .int 0, .ref ba, .ref ra, .ref su, .int 0, .ref tr])), (ro, .inl (cR, 6, .inr (.inr (.inr (.inr (fun _ => none))))))]) [0, 1] rfl
  have hKc := hK.sub (tys' := [(cR, .object RX0)]) [0] rfl
  have hDc := hD.sub (ws' := [(h, .inr (1, [.ref ro, .int 0, .ref ba, .ref ra, .ref su, .int 0, .ref tr])), (ro, .inl (cR, 6, .inr (.inr (.inr (.inr (fun _ => none))))))]) [0, 1] (by decide) rfl
  have hFc := va_free (wc := [(h, .inr (1, [.ref ro, .int 0, .ref ba, .ref ra, .ref su, .int 0, .ref tr])), (ro, .inl (cR, 6, .inr (.inr (.inr (.inr (fun _ => none))))))]) hD hS hA [0, 1] rfl
  refine vx_calli (vx_runV (As := [.int a1, .int a2, .int a3]) (rest := [.int 0, .ref ou]) ⟨hx, hb, hml, hown, hts⟩ (k1_build l hst dC dI s.heap.size h ro ba ra su tr cR a1 a2 a3 ) (cwV 3 hts gL_build_X1_build rfl rfl rfl (by decide +kernel) ⟨Nat.le_of_ble_eq_true rfl, Nat.le_of_ble_eq_true rfl⟩) ⟨fun a U g mk q => by obtain ⟨q0, q1, qP, qK, qD, qX, qT⟩ := q; exact ⟨q0, q1, qP, va_K.moved (u := U) (U := U.calling g mk a) (Vm.Alike.refl U.vm) qK, qD, zX.calling qX, zTh.calling qT⟩, va_recv hKc hPc (ci := 1) (q0 := 0) rfl rfl, fun U hU hW => ⟨rfl, by rw [hU], by rw [hU]; exact hPc, va_K.moved hW.alike hKc, hDc.weaken (fun _ _ _ _ => trivial), zX.warm hW hZX, by rw [hU]; exact zTh.at hW hZT hS hFc⟩⟩ rfl rfl hl.1 rfl (lv_room (Nat.le_of_ble_eq_true rfl)) dL_build_7 ⟨Nat.le_of_ble_eq_true rfl, Nat.le_of_ble_eq_true rfl⟩) hS (fun q _ h => hFc q h) hFc (fun q _ h => hFc q h) (fun E9 ce q9 u9 t H1 locs ht hvm hpx hBX hz1 hk1 hS hce hcv hcl => ?_) (fun r1 u t H1 locs ht hvm hr1 hB hz1 hk1 hS => ?_)
  · have hPe : va_P (dC, dI) vwCl [] H1 := fun k q h => by simp at h
    have hDe : ∀ A9 : Nat → Prop, va_D A9 [] := fun _ => ⟨fun i j p q h => by simp at h, fun k q h => by simp at h⟩
    obtain ⟨hP, hD⟩ := va_join (wr := [(ou, .inl (cO, 1, .inr (.inl fo)))]) (w1 := []) hP hD [0, 1] [2] rfl rfl (by decide) (by decide) hk1 hFc hPe (hDe _)
    generalize H1 = H at hP hS hce ⊢
    have hP : va_P (dC, dI) vwCl [(ou, .inl (cO, 1, .inr (.inl fo)))] H := hP
    have hD : va_D A [(ou, .inl (cO, 1, .inr (.inl fo)))] := hD
    refine vx_widen (k := 5) (n := 250) (Nat.le_of_ble_eq_true rfl) (Nat.le_of_ble_eq_true rfl) ?_
    obtain ⟨rfl, fx7_0_0⟩ := hBX
    refine vx_catch (name := "java/lang/IllegalArgumentException") hown [] ⟨0, 12, 15, 13⟩ [⟨0, 12, 19, 15⟩] (by rw [htab]; rfl) (fun z hz => by simp at hz) (by decide) (by decide) (hts (.classLink RL 13 "java/lang/IllegalArgumentException") (by decide +kernel)) (va_Nw.use rfl (zX_cA hZX)) hce hcv hcl ?_
    refine W.eq (g2 := F0 m 15 ls [.ref q9]) rfl ?_
    refine lv_astore (lv' := [(5, .ref q9), (0, .ref h), (1, .int a1), (2, .int a2), (3, .int a3), (4, .ref ou)]) hx hb dL_build_15 hl (by decide) rfl (fun ls hl => ?_)
    refine lv_iconst (v := 1) hx hb dL_build_17 (by decide) ?_
    have hP9 := hP.sub (ws' := [(ou, .inl (cO, 1, .inr (.inl fo)))]) [0] rfl
    have hD9 := hD.sub (ws' := [(ou, .inl (cO, 1, .inr (.inl fo)))]) [0] (by decide) rfl
    have hK9 := hK.sub (tys' := []) [] rfl
    refine W.widen (k := 5) (n := 250) (Nat.le_of_ble_eq_true rfl) (Nat.le_of_ble_eq_true rfl) ?_
    exact W.iret (v := 1) hx hb hr (fun t ht hW => ⟨⟨1, (fo), rfl, by first | (refine Or.inl ?_; (refine ⟨?_, ?_, ?_⟩ <;> (first | rfl | exact pk_uLs | assumption | (simp_all; done) | grind)); done) | (refine Or.inr ?_; (refine ⟨?_, ?_⟩ <;> (first | rfl | exact pk_uLs | assumption | (simp_all; done) | grind)); done), ⟨by rw [ht]; exact hP9, va_K.moved hW.alike hK9, hD9⟩⟩, hS.F ht⟩) hS.2.2 dL_build_18
  · skip
    obtain ⟨hP1, hK1, hD1⟩ := hB
    rw [ht] at hP1
    have hK1 := va_K.moved hvm.symm hK1
    try dsimp only at hr1
    obtain ⟨hP, hD⟩ := va_join (wr := [(ou, .inl (cO, 1, .inr (.inl fo)))]) (w1 := []) hP hD [0, 1] [2] rfl rfl (by decide) (by decide) hk1 hFc hP1 hD1
    generalize H1 = H at hP hS ⊢
    have hP : va_P (dC, dI) vwCl [(ou, .inl (cO, 1, .inr (.inl fo)))] H := hP
    have hD : va_D A [(ou, .inl (cO, 1, .inr (.inl fo)))] := hD
    refine W.widen (k := 5) (n := 250) (Nat.le_of_ble_eq_true rfl) (Nat.le_of_ble_eq_true rfl) ?_
    obtain ⟨rfl, fr1_0_0⟩ := hr1
    refine lv_i2l (v := 0) hx hb dL_build_10 (by first | rfl | decide) ?_
    refine va_last hx hb hK hP hD hS 0 1 rfl rfl (vp_in_nI (n := 0) (by decide) (by decide)) dL_build_11 (fun H locs hP hD hS => ?_)
    have hP : va_P (dC, dI) vwCl [(ou, .inl (cO, 1, .inr (.inl (vp_updL fo 0 0))))] H := hP
    have hD : va_D A [(ou, .inl (cO, 1, .inr (.inl (vp_updL fo 0 0))))] := hD
    refine lv_goto (tgt := 23) hx hb dL_build_12 (by decide) ?_
    refine lv_iconst (v := 0) hx hb dL_build_23 (by decide) ?_
    have hP9 := hP.sub (ws' := [(ou, .inl (cO, 1, .inr (.inl (vp_updL fo 0 0))))]) [0] rfl
    have hD9 := hD.sub (ws' := [(ou, .inl (cO, 1, .inr (.inl (vp_updL fo 0 0))))]) [0] (by decide) rfl
    have hK9 := hK.sub (tys' := []) [] rfl
    refine W.widen (k := 5) (n := 250) (Nat.le_of_ble_eq_true rfl) (Nat.le_of_ble_eq_true rfl) ?_
    exact W.iret (v := 0) hx hb hr (fun t ht hW => ⟨⟨0, (vp_updL fo 0 0), rfl, by first | (refine Or.inl ?_; (refine ⟨?_, ?_, ?_⟩ <;> (first | rfl | exact pk_uLs | assumption | (simp_all; done) | grind)); done) | (refine Or.inr ?_; (refine ⟨?_, ?_⟩ <;> (first | rfl | exact pk_uLs | assumption | (simp_all; done) | grind)); done), ⟨by rw [ht]; exact hP9, va_K.moved hW.alike hK9, hD9⟩⟩, hS.F ht⟩) hS.2.2 dL_build_24

set_option maxHeartbeats 4000000 in
set_option maxRecDepth 100000 in
theorem kL_bring (l : Launch) (hst : l.stackTraces = false) (dC : Nat → ClassId) (dI : Nat → Nat → Nat) (sz : Nat) (h : Nat) (ro : Nat) (ba : Nat) (ra : Nat) (su : Nat) (tr : Nat) (cB : ClassId) (ou : Nat) (cO : ClassId) (fo : Nat → Int64) (a1 : Int32) (a2 : Int32) : Met l yL_bring wsL_bring ({ frames := 7, cells := 1, slots := 6, locals := 104 }) (va_Pc [.ref h, .int a1, .int a2, .ref ou] (fun U => U.heap.size = sz ∧ va_P (dC, dI) vwCl [(h, .inr (1, [.ref ro, .int 0, .ref ba, .ref ra, .ref su, .int 0, .ref tr])), (ba, .inl (cB, 3, .inl (fun _ => 0))), (ou, .inl (cO, 1, .inr (.inl fo)))] U.heap ∧ va_K (dC, dI) vwCl [(cB, .int), (cO, .long)] U ∧ va_D (fun _ => True) [(h, .inr (1, [.ref ro, .int 0, .ref ba, .ref ra, .ref su, .int 0, .ref tr])), (ba, .inl (cB, 3, .inl (fun _ => 0))), (ou, .inl (cO, 1, .inr (.inl fo)))] ∧ zX U ∧ zTh (va_A [(h, .inr (1, [.ref ro, .int 0, .ref ba, .ref ra, .ref su, .int 0, .ref tr])), (ba, .inl (cB, 3, .inl (fun _ => 0))), (ou, .inl (cO, 1, .inr (.inl fo)))] sz) U U.heap)) (va_Qi (fun (r : Int32) (u : (Nat → Int64)) => (r = 0 ∧ u 0 = a2.toInt64 ∧ zIn a1 0 2 ∧ zIn a2 1 500) ∨ (r = 1 ∧ ¬ zIn a1 0 2) ∨ (r = 2 ∧ zIn a1 0 2 ∧ ¬ zIn a2 1 500)) (fun (u : (Nat → Int64)) (t : State) => va_P (dC, dI) vwCl [(ou, .inl (cO, 1, .inr (.inl u)))] t.heap ∧ va_K (dC, dI) vwCl [] t ∧ va_D (va_A [(h, .inr (1, [.ref ro, .int 0, .ref ba, .ref ra, .ref su, .int 0, .ref tr])), (ba, .inl (cB, 3, .inl (fun _ => 0))), (ou, .inl (cO, 1, .inr (.inl fo)))] sz) [(ou, .inl (cO, 1, .inr (.inl u)))]) (va_A [(h, .inr (1, [.ref ro, .int 0, .ref ba, .ref ra, .ref su, .int 0, .ref tr])), (ba, .inl (cB, 3, .inl (fun _ => 0))), (ou, .inl (cO, 1, .inr (.inl fo)))] sz)) 1 6 (va_A [(h, .inr (1, [.ref ro, .int 0, .ref ba, .ref ra, .ref su, .int 0, .ref tr])), (ba, .inl (cB, 3, .inl (fun _ => 0))), (ou, .inl (cO, 1, .inr (.inl fo)))] sz) := by
  refine va_MetW (cc := cL_bring) (maxL := 5) (ret := (some .int)) (by decide) rfl ?_
  intro p e s m args below meth c s₁ B hml hv
  obtain ⟨rfl, hsz, hP, hK, hD0, hZX, hZT⟩ := hv
  have hx := B.exec
  have hb := B.bytes
  have hr := B.returns
  have hts := atoms_spec (ws := wsL_bring) B.pre
  have hown : s.vm.findClass RL = some m.cls := findClass_of_methodNamed B.named
  have hlocks := B.notSynchronized
  have htab := vx_table (x := yL_bring) B (hts (.codeWith yL_bring cL_bring 5 (some .int) [(0, 10, 13, 21), (0, 10, 17, 13), (0, 10, 21, 15)]) List.mem_cons_self)
  subst hsz
  have hD := hD0.self (sz := s.heap.size)
  generalize hAe : va_A [(h, .inr (1, [.ref ro, .int 0, .ref ba, .ref ra, .ref su, .int 0, .ref tr])), (ba, .inl (cB, 3, .inl (fun _ => 0))), (ou, .inl (cO, 1, .inr (.inl fo)))] s.heap.size = A at hD hZT ⊢
  have hA : ∀ q : Nat, s.heap.size ≤ q → A q := fun q h => by rw [← hAe]; exact Or.inr h
  have hS : va_S A s.heap s.heap [] := va_S.rf
  have hP : va_P (dC, dI) vwCl [(h, .inr (1, [.ref ro, .int 0, .ref ba, .ref ra, .ref su, .int 0, .ref tr])), (ba, .inl (cB, 3, .inl (fun _ => 0))), (ou, .inl (cO, 1, .inr (.inl fo)))] s.heap := hP
  have hl := lv_entry ([.ref h, .int a1, .int a2, .ref ou]) (n := 5) (Nat.le_of_ble_eq_true rfl)
  rw [lg_entry_eq]
  generalize (lg_sl ([.ref h, .int a1, .int a2, .ref ou]) ++ List.replicate (5 - (lg_sl ([.ref h, .int a1, .int a2, .ref ou])).length) Slot.unset).toArray = ls at hl ⊢
  have hl : lv_has ls 5 [(0, .ref h), (1, .int a1), (2, .int a2), (3, .ref ou)] := hl
  refine lv_aload_n hx hb dL_bring_0 rfl (lv_at hl 3 rfl) ?_
  refine lv_iconst (v := 0) hx hb dL_bring_1 (by decide) ?_
  refine lv_aload_n hx hb dL_bring_2 rfl (lv_at hl 0 rfl) ?_
  refine lv_iload_n hx hb dL_bring_3 rfl (lv_at hl 1 rfl) ?_
  refine lv_iload_n hx hb dL_bring_4 rfl (lv_at hl 2 rfl) ?_
  have hPc := hP.sub (ws' := [(h, .inr (1, [.ref ro, .int 0, .ref ba, .ref ra, .ref su, .int 0, .ref tr])), (ba, .inl (cB, 3, .inl (fun _ => 0)))]) [0, 1] rfl
  have hKc := hK.sub (tys' := [(cB, .int)]) [0] rfl
  have hDc := hD.sub (ws' := [(h, .inr (1, [.ref ro, .int 0, .ref ba, .ref ra, .ref su, .int 0, .ref tr])), (ba, .inl (cB, 3, .inl (fun _ => 0)))]) [0, 1] (by decide) rfl
  have hFc := va_free (wc := [(h, .inr (1, [.ref ro, .int 0, .ref ba, .ref ra, .ref su, .int 0, .ref tr])), (ba, .inl (cB, 3, .inl (fun _ => 0)))]) hD hS hA [0, 1] rfl
  refine vx_calli (vx_runV (As := [.int a1, .int a2]) (rest := [.int 0, .ref ou]) ⟨hx, hb, hml, hown, hts⟩ (k1_bring l hst dC dI s.heap.size h ro ba ra su tr cB a1 a2 ) (cwV 2 hts gL_bring_X1_bring rfl rfl rfl (by decide +kernel) ⟨Nat.le_of_ble_eq_true rfl, Nat.le_of_ble_eq_true rfl⟩) ⟨fun a U g mk q => by obtain ⟨q0, q1, qP, qK, qD, qX, qT⟩ := q; exact ⟨q0, q1, qP, va_K.moved (u := U) (U := U.calling g mk a) (Vm.Alike.refl U.vm) qK, qD, zX.calling qX, zTh.calling qT⟩, va_recv hKc hPc (ci := 1) (q0 := 0) rfl rfl, fun U hU hW => ⟨rfl, by rw [hU], by rw [hU]; exact hPc, va_K.moved hW.alike hKc, hDc.weaken (fun _ _ _ _ => trivial), zX.warm hW hZX, by rw [hU]; exact zTh.at hW hZT hS hFc⟩⟩ rfl rfl hl.1 rfl (lv_room (Nat.le_of_ble_eq_true rfl)) dL_bring_5 ⟨Nat.le_of_ble_eq_true rfl, Nat.le_of_ble_eq_true rfl⟩) hS (fun q _ h => hFc q h) hFc (fun q _ h => hFc q h) (fun E9 ce q9 u9 t H1 locs ht hvm hpx hBX hz1 hk1 hS hce hcv hcl => ?_) (fun r1 u t H1 locs ht hvm hr1 hB hz1 hk1 hS => ?_)
  · have hPe : va_P (dC, dI) vwCl [] H1 := fun k q h => by simp at h
    have hDe : ∀ A9 : Nat → Prop, va_D A9 [] := fun _ => ⟨fun i j p q h => by simp at h, fun k q h => by simp at h⟩
    obtain ⟨hP, hD⟩ := va_join (wr := [(ou, .inl (cO, 1, .inr (.inl fo)))]) (w1 := []) hP hD [0, 1] [2] rfl rfl (by decide) (by decide) hk1 hFc hPe (hDe _)
    generalize H1 = H at hP hS hce ⊢
    have hP : va_P (dC, dI) vwCl [(ou, .inl (cO, 1, .inr (.inl fo)))] H := hP
    have hD : va_D A [(ou, .inl (cO, 1, .inr (.inl fo)))] := hD
    refine vx_widen (k := 1) (n := 6) (Nat.le_of_ble_eq_true rfl) (Nat.le_of_ble_eq_true rfl) ?_
    rcases hBX with ⟨rfl, fx5_0_0⟩ | ⟨rfl, fx5_1_0, fx5_1_1⟩
    · refine vx_catch (name := "java/lang/IndexOutOfBoundsException") hown [] ⟨0, 10, 13, 21⟩ [⟨0, 10, 17, 13⟩, ⟨0, 10, 21, 15⟩] (by rw [htab]; rfl) (fun z hz => by simp at hz) (by decide) (by decide) (hts (.classLink RL 21 "java/lang/IndexOutOfBoundsException") (by decide +kernel)) (va_Nw.use rfl (zX_cB hZX)) hce hcv hcl ?_
      refine W.eq (g2 := F0 m 13 ls [.ref q9]) rfl ?_
      refine lv_astore (lv' := [(4, .ref q9), (0, .ref h), (1, .int a1), (2, .int a2), (3, .ref ou)]) hx hb dL_bring_13 hl (by decide) rfl (fun ls hl => ?_)
      refine lv_iconst (v := 1) hx hb dL_bring_15 (by decide) ?_
      have hP9 := hP.sub (ws' := [(ou, .inl (cO, 1, .inr (.inl fo)))]) [0] rfl
      have hD9 := hD.sub (ws' := [(ou, .inl (cO, 1, .inr (.inl fo)))]) [0] (by decide) rfl
      have hK9 := hK.sub (tys' := []) [] rfl
      refine W.widen (k := 1) (n := 6) (Nat.le_of_ble_eq_true rfl) (Nat.le_of_ble_eq_true rfl) ?_
      exact W.iret (v := 1) hx hb hr (fun t ht hW => ⟨⟨1, (fo), rfl, by first | (refine Or.inl ?_; (refine ⟨?_, ?_, ?_, ?_⟩ <;> (first | rfl | exact pk_uLs | assumption | (simp_all; done) | grind)); done) | (refine Or.inr ?_; refine Or.inl ?_; (refine ⟨?_, ?_⟩ <;> (first | rfl | exact pk_uLs | assumption | (simp_all; done) | grind)); done) | (refine Or.inr ?_; refine Or.inr ?_; (refine ⟨?_, ?_, ?_⟩ <;> (first | rfl | exact pk_uLs | assumption | (simp_all; done) | grind)); done), ⟨by rw [ht]; exact hP9, va_K.moved hW.alike hK9, hD9⟩⟩, hS.F ht⟩) hS.2.2 dL_bring_16
    · refine vx_catch (name := "java/lang/IllegalArgumentException") hown [⟨0, 10, 13, 21⟩] ⟨0, 10, 17, 13⟩ [⟨0, 10, 21, 15⟩] (by rw [htab]; rfl) (List.forall_mem_cons.mpr ⟨(Or.inr ⟨by decide, "java/lang/IndexOutOfBoundsException", hts (.classLink RL 21 "java/lang/IndexOutOfBoundsException") (by decide +kernel), zX_nAB hZX⟩), fun _ h => nomatch h⟩) (by decide) (by decide) (hts (.classLink RL 13 "java/lang/IllegalArgumentException") (by decide +kernel)) (va_Nw.use rfl (zX_cA hZX)) hce hcv hcl ?_
      refine W.eq (g2 := F0 m 17 ls [.ref q9]) rfl ?_
      refine lv_astore (lv' := [(4, .ref q9), (0, .ref h), (1, .int a1), (2, .int a2), (3, .ref ou)]) hx hb dL_bring_17 hl (by decide) rfl (fun ls hl => ?_)
      refine lv_iconst (v := 2) hx hb dL_bring_19 (by decide) ?_
      have hP9 := hP.sub (ws' := [(ou, .inl (cO, 1, .inr (.inl fo)))]) [0] rfl
      have hD9 := hD.sub (ws' := [(ou, .inl (cO, 1, .inr (.inl fo)))]) [0] (by decide) rfl
      have hK9 := hK.sub (tys' := []) [] rfl
      refine W.widen (k := 1) (n := 6) (Nat.le_of_ble_eq_true rfl) (Nat.le_of_ble_eq_true rfl) ?_
      exact W.iret (v := 2) hx hb hr (fun t ht hW => ⟨⟨2, (fo), rfl, by first | (refine Or.inl ?_; (refine ⟨?_, ?_, ?_, ?_⟩ <;> (first | rfl | exact pk_uLs | assumption | (simp_all; done) | grind)); done) | (refine Or.inr ?_; refine Or.inl ?_; (refine ⟨?_, ?_⟩ <;> (first | rfl | exact pk_uLs | assumption | (simp_all; done) | grind)); done) | (refine Or.inr ?_; refine Or.inr ?_; (refine ⟨?_, ?_, ?_⟩ <;> (first | rfl | exact pk_uLs | assumption | (simp_all; done) | grind)); done), ⟨by rw [ht]; exact hP9, va_K.moved hW.alike hK9, hD9⟩⟩, hS.F ht⟩) hS.2.2 dL_bring_20
  · skip
    obtain ⟨hP1, hK1, hD1⟩ := hB
    rw [ht] at hP1
    have hK1 := va_K.moved hvm.symm hK1
    try dsimp only at hr1
    obtain ⟨hP, hD⟩ := va_join (wr := [(ou, .inl (cO, 1, .inr (.inl fo)))]) (w1 := []) hP hD [0, 1] [2] rfl rfl (by decide) (by decide) hk1 hFc hP1 hD1
    generalize H1 = H at hP hS ⊢
    have hP : va_P (dC, dI) vwCl [(ou, .inl (cO, 1, .inr (.inl fo)))] H := hP
    have hD : va_D A [(ou, .inl (cO, 1, .inr (.inl fo)))] := hD
    refine W.widen (k := 1) (n := 6) (Nat.le_of_ble_eq_true rfl) (Nat.le_of_ble_eq_true rfl) ?_
    obtain ⟨evr1_0, fr1_0_0, fr1_0_1⟩ := hr1
    rw [evr1_0]
    refine lv_i2l (v := a2.toInt64) hx hb dL_bring_8 (by first | rfl | decide) ?_
    refine va_last hx hb hK hP hD hS 0 1 rfl rfl (vp_in_nI (n := 0) (by decide) (by decide)) dL_bring_9 (fun H locs hP hD hS => ?_)
    have hP : va_P (dC, dI) vwCl [(ou, .inl (cO, 1, .inr (.inl (vp_updL fo 0 a2.toInt64))))] H := hP
    have hD : va_D A [(ou, .inl (cO, 1, .inr (.inl (vp_updL fo 0 a2.toInt64))))] := hD
    refine lv_goto (tgt := 25) hx hb dL_bring_10 (by decide) ?_
    refine lv_iconst (v := 0) hx hb dL_bring_25 (by decide) ?_
    have hP9 := hP.sub (ws' := [(ou, .inl (cO, 1, .inr (.inl (vp_updL fo 0 a2.toInt64))))]) [0] rfl
    have hD9 := hD.sub (ws' := [(ou, .inl (cO, 1, .inr (.inl (vp_updL fo 0 a2.toInt64))))]) [0] (by decide) rfl
    have hK9 := hK.sub (tys' := []) [] rfl
    refine W.widen (k := 1) (n := 6) (Nat.le_of_ble_eq_true rfl) (Nat.le_of_ble_eq_true rfl) ?_
    exact W.iret (v := 0) hx hb hr (fun t ht hW => ⟨⟨0, (vp_updL fo 0 a2.toInt64), rfl, by first | (refine Or.inl ?_; (refine ⟨?_, ?_, ?_, ?_⟩ <;> (first | rfl | exact pk_uLs | assumption | (simp_all; done) | grind)); done) | (refine Or.inr ?_; refine Or.inl ?_; (refine ⟨?_, ?_⟩ <;> (first | rfl | exact pk_uLs | assumption | (simp_all; done) | grind)); done) | (refine Or.inr ?_; refine Or.inr ?_; (refine ⟨?_, ?_, ?_⟩ <;> (first | rfl | exact pk_uLs | assumption | (simp_all; done) | grind)); done), ⟨by rw [ht]; exact hP9, va_K.moved hW.alike hK9, hD9⟩⟩, hS.F ht⟩) hS.2.2 dL_bring_26

set_option maxHeartbeats 4000000 in
set_option maxRecDepth 100000 in
theorem kL_setWeather (l : Launch) (hst : l.stackTraces = false) (dC : Nat → ClassId) (dI : Nat → Nat → Nat) (sz : Nat) (h : Nat) (ro : Nat) (ba : Nat) (ra : Nat) (su : Nat) (tr : Nat) (cA : ClassId) (fr : Nat → Int32) (cS : ClassId) (ou : Nat) (cO : ClassId) (fo : Nat → Int64) (a1 : Int32) (a2 : Int32) (a3 : Int32) (hra : ∀ j : Nat, j < 12 → fr j = 4) : Met l yL_setWeather wsL_setWeather ({ frames := 7, cells := 1, slots := 6, locals := 106 }) (va_Pc [.ref h, .int a1, .int a2, .int a3, .ref ou] (fun U => U.heap.size = sz ∧ va_P (dC, dI) vwCl [(h, .inr (1, [.ref ro, .int 0, .ref ba, .ref ra, .ref su, .int 0, .ref tr])), (ra, .inl (cA, 12, .inl fr)), (su, .inl (cS, 12, .inl (fun _ => 0))), (ou, .inl (cO, 1, .inr (.inl fo)))] U.heap ∧ va_K (dC, dI) vwCl [(cA, .int), (cS, .int), (cO, .long)] U ∧ va_D (fun _ => True) [(h, .inr (1, [.ref ro, .int 0, .ref ba, .ref ra, .ref su, .int 0, .ref tr])), (ra, .inl (cA, 12, .inl fr)), (su, .inl (cS, 12, .inl (fun _ => 0))), (ou, .inl (cO, 1, .inr (.inl fo)))] ∧ zX U ∧ zTh (va_A [(h, .inr (1, [.ref ro, .int 0, .ref ba, .ref ra, .ref su, .int 0, .ref tr])), (ra, .inl (cA, 12, .inl fr)), (su, .inl (cS, 12, .inl (fun _ => 0))), (ou, .inl (cO, 1, .inr (.inl fo)))] sz) U U.heap)) (va_Qi (fun (r : Int32) (u : (Nat → Int64)) => (r = 0 ∧ u 0 = 40 ∧ zIn a1 0 11 ∧ (zIn a2 0 9 ∧ zIn a3 0 9)) ∨ (r = 1 ∧ ¬ zIn a1 0 11) ∨ (r = 2 ∧ zIn a1 0 11 ∧ (¬ (zIn a2 0 9 ∧ zIn a3 0 9)))) (fun (u : (Nat → Int64)) (t : State) => va_P (dC, dI) vwCl [(ou, .inl (cO, 1, .inr (.inl u)))] t.heap ∧ va_K (dC, dI) vwCl [] t ∧ va_D (va_A [(h, .inr (1, [.ref ro, .int 0, .ref ba, .ref ra, .ref su, .int 0, .ref tr])), (ra, .inl (cA, 12, .inl fr)), (su, .inl (cS, 12, .inl (fun _ => 0))), (ou, .inl (cO, 1, .inr (.inl fo)))] sz) [(ou, .inl (cO, 1, .inr (.inl u)))]) (va_A [(h, .inr (1, [.ref ro, .int 0, .ref ba, .ref ra, .ref su, .int 0, .ref tr])), (ra, .inl (cA, 12, .inl fr)), (su, .inl (cS, 12, .inl (fun _ => 0))), (ou, .inl (cO, 1, .inr (.inl fo)))] sz)) 1 6 (va_A [(h, .inr (1, [.ref ro, .int 0, .ref ba, .ref ra, .ref su, .int 0, .ref tr])), (ra, .inl (cA, 12, .inl fr)), (su, .inl (cS, 12, .inl (fun _ => 0))), (ou, .inl (cO, 1, .inr (.inl fo)))] sz) := by
  refine va_MetW (cc := cL_setWeather) (maxL := 6) (ret := (some .int)) (by decide) rfl ?_
  intro p e s m args below meth c s₁ B hml hv
  obtain ⟨rfl, hsz, hP, hK, hD0, hZX, hZT⟩ := hv
  have hx := B.exec
  have hb := B.bytes
  have hr := B.returns
  have hts := atoms_spec (ws := wsL_setWeather) B.pre
  have hown : s.vm.findClass RL = some m.cls := findClass_of_methodNamed B.named
  have hlocks := B.notSynchronized
  have htab := vx_table (x := yL_setWeather) B (hts (.codeWith yL_setWeather cL_setWeather 6 (some .int) [(0, 12, 15, 21), (0, 12, 19, 13)]) List.mem_cons_self)
  subst hsz
  have hD := hD0.self (sz := s.heap.size)
  generalize hAe : va_A [(h, .inr (1, [.ref ro, .int 0, .ref ba, .ref ra, .ref su, .int 0, .ref tr])), (ra, .inl (cA, 12, .inl fr)), (su, .inl (cS, 12, .inl (fun _ => 0))), (ou, .inl (cO, 1, .inr (.inl fo)))] s.heap.size = A at hD hZT ⊢
  have hA : ∀ q : Nat, s.heap.size ≤ q → A q := fun q h => by rw [← hAe]; exact Or.inr h
  have hS : va_S A s.heap s.heap [] := va_S.rf
  have hP : va_P (dC, dI) vwCl [(h, .inr (1, [.ref ro, .int 0, .ref ba, .ref ra, .ref su, .int 0, .ref tr])), (ra, .inl (cA, 12, .inl fr)), (su, .inl (cS, 12, .inl (fun _ => 0))), (ou, .inl (cO, 1, .inr (.inl fo)))] s.heap := hP
  have hl := lv_entry ([.ref h, .int a1, .int a2, .int a3, .ref ou]) (n := 6) (Nat.le_of_ble_eq_true rfl)
  rw [lg_entry_eq]
  generalize (lg_sl ([.ref h, .int a1, .int a2, .int a3, .ref ou]) ++ List.replicate (6 - (lg_sl ([.ref h, .int a1, .int a2, .int a3, .ref ou])).length) Slot.unset).toArray = ls at hl ⊢
  have hl : lv_has ls 6 [(0, .ref h), (1, .int a1), (2, .int a2), (3, .int a3), (4, .ref ou)] := hl
  refine lv_aload hx hb dL_setWeather_0 (lv_at hl 4 rfl) ?_
  refine lv_iconst (v := 0) hx hb dL_setWeather_2 (by decide) ?_
  refine lv_aload_n hx hb dL_setWeather_3 rfl (lv_at hl 0 rfl) ?_
  refine lv_iload_n hx hb dL_setWeather_4 rfl (lv_at hl 1 rfl) ?_
  refine lv_iload_n hx hb dL_setWeather_5 rfl (lv_at hl 2 rfl) ?_
  refine lv_iload_n hx hb dL_setWeather_6 rfl (lv_at hl 3 rfl) ?_
  have hPc := hP.sub (ws' := [(h, .inr (1, [.ref ro, .int 0, .ref ba, .ref ra, .ref su, .int 0, .ref tr])), (ra, .inl (cA, 12, .inl fr)), (su, .inl (cS, 12, .inl (fun _ => 0)))]) [0, 1, 2] rfl
  have hKc := hK.sub (tys' := [(cA, .int), (cS, .int)]) [0, 1] rfl
  have hDc := hD.sub (ws' := [(h, .inr (1, [.ref ro, .int 0, .ref ba, .ref ra, .ref su, .int 0, .ref tr])), (ra, .inl (cA, 12, .inl fr)), (su, .inl (cS, 12, .inl (fun _ => 0)))]) [0, 1, 2] (by decide) rfl
  have hFc := va_free (wc := [(h, .inr (1, [.ref ro, .int 0, .ref ba, .ref ra, .ref su, .int 0, .ref tr])), (ra, .inl (cA, 12, .inl fr)), (su, .inl (cS, 12, .inl (fun _ => 0)))]) hD hS hA [0, 1, 2] rfl
  refine vx_calli (vx_runV (As := [.int a1, .int a2, .int a3]) (rest := [.int 0, .ref ou]) ⟨hx, hb, hml, hown, hts⟩ (k1_setWeather l hst dC dI s.heap.size h ro ba ra su tr cA fr cS a1 a2 a3 (by first | assumption | decide | omega)) (cwV 3 hts gL_setWeather_X1_setWeather rfl rfl rfl (by decide +kernel) ⟨Nat.le_of_ble_eq_true rfl, Nat.le_of_ble_eq_true rfl⟩) ⟨fun a U g mk q => by obtain ⟨q0, q1, qP, qK, qD, qX, qT⟩ := q; exact ⟨q0, q1, qP, va_K.moved (u := U) (U := U.calling g mk a) (Vm.Alike.refl U.vm) qK, qD, zX.calling qX, zTh.calling qT⟩, va_recv hKc hPc (ci := 1) (q0 := 0) rfl rfl, fun U hU hW => ⟨rfl, by rw [hU], by rw [hU]; exact hPc, va_K.moved hW.alike hKc, hDc.weaken (fun _ _ _ _ => trivial), zX.warm hW hZX, by rw [hU]; exact zTh.at hW hZT hS hFc⟩⟩ rfl rfl hl.1 rfl (lv_room (Nat.le_of_ble_eq_true rfl)) dL_setWeather_7 ⟨Nat.le_of_ble_eq_true rfl, Nat.le_of_ble_eq_true rfl⟩) hS (fun q _ h => hFc q h) hFc (fun q _ h => hFc q h) (fun E9 ce q9 u9 t H1 locs ht hvm hpx hBX hz1 hk1 hS hce hcv hcl => ?_) (fun r1 u t H1 locs ht hvm hr1 hB hz1 hk1 hS => ?_)
  · have hPe : va_P (dC, dI) vwCl [] H1 := fun k q h => by simp at h
    have hDe : ∀ A9 : Nat → Prop, va_D A9 [] := fun _ => ⟨fun i j p q h => by simp at h, fun k q h => by simp at h⟩
    obtain ⟨hP, hD⟩ := va_join (wr := [(ou, .inl (cO, 1, .inr (.inl fo)))]) (w1 := []) hP hD [0, 1, 2] [3] rfl rfl (by decide) (by decide) hk1 hFc hPe (hDe _)
    generalize H1 = H at hP hS hce ⊢
    have hP : va_P (dC, dI) vwCl [(ou, .inl (cO, 1, .inr (.inl fo)))] H := hP
    have hD : va_D A [(ou, .inl (cO, 1, .inr (.inl fo)))] := hD
    refine vx_widen (k := 1) (n := 6) (Nat.le_of_ble_eq_true rfl) (Nat.le_of_ble_eq_true rfl) ?_
    rcases hBX with ⟨rfl, fx7_0_0⟩ | ⟨rfl, fx7_1_0, fx7_1_1⟩
    · refine vx_catch (name := "java/lang/IndexOutOfBoundsException") hown [] ⟨0, 12, 15, 21⟩ [⟨0, 12, 19, 13⟩] (by rw [htab]; rfl) (fun z hz => by simp at hz) (by decide) (by decide) (hts (.classLink RL 21 "java/lang/IndexOutOfBoundsException") (by decide +kernel)) (va_Nw.use rfl (zX_cB hZX)) hce hcv hcl ?_
      refine W.eq (g2 := F0 m 15 ls [.ref q9]) rfl ?_
      refine lv_astore (lv' := [(5, .ref q9), (0, .ref h), (1, .int a1), (2, .int a2), (3, .int a3), (4, .ref ou)]) hx hb dL_setWeather_15 hl (by decide) rfl (fun ls hl => ?_)
      refine lv_iconst (v := 1) hx hb dL_setWeather_17 (by decide) ?_
      have hP9 := hP.sub (ws' := [(ou, .inl (cO, 1, .inr (.inl fo)))]) [0] rfl
      have hD9 := hD.sub (ws' := [(ou, .inl (cO, 1, .inr (.inl fo)))]) [0] (by decide) rfl
      have hK9 := hK.sub (tys' := []) [] rfl
      refine W.widen (k := 1) (n := 6) (Nat.le_of_ble_eq_true rfl) (Nat.le_of_ble_eq_true rfl) ?_
      exact W.iret (v := 1) hx hb hr (fun t ht hW => ⟨⟨1, (fo), rfl, by first | (refine Or.inl ?_; (refine ⟨?_, ?_, ?_, ?_⟩ <;> (first | rfl | exact pk_uLs | assumption | (simp_all; done) | grind)); done) | (refine Or.inr ?_; refine Or.inl ?_; (refine ⟨?_, ?_⟩ <;> (first | rfl | exact pk_uLs | assumption | (simp_all; done) | grind)); done) | (refine Or.inr ?_; refine Or.inr ?_; (refine ⟨?_, ?_, ?_⟩ <;> (first | rfl | exact pk_uLs | assumption | (simp_all; done) | grind)); done), ⟨by rw [ht]; exact hP9, va_K.moved hW.alike hK9, hD9⟩⟩, hS.F ht⟩) hS.2.2 dL_setWeather_18
    · refine vx_catch (name := "java/lang/IllegalArgumentException") hown [⟨0, 12, 15, 21⟩] ⟨0, 12, 19, 13⟩ [] (by rw [htab]; rfl) (List.forall_mem_cons.mpr ⟨(Or.inr ⟨by decide, "java/lang/IndexOutOfBoundsException", hts (.classLink RL 21 "java/lang/IndexOutOfBoundsException") (by decide +kernel), zX_nAB hZX⟩), fun _ h => nomatch h⟩) (by decide) (by decide) (hts (.classLink RL 13 "java/lang/IllegalArgumentException") (by decide +kernel)) (va_Nw.use rfl (zX_cA hZX)) hce hcv hcl ?_
      refine W.eq (g2 := F0 m 19 ls [.ref q9]) rfl ?_
      refine lv_astore (lv' := [(5, .ref q9), (0, .ref h), (1, .int a1), (2, .int a2), (3, .int a3), (4, .ref ou)]) hx hb dL_setWeather_19 hl (by decide) rfl (fun ls hl => ?_)
      refine lv_iconst (v := 2) hx hb dL_setWeather_21 (by decide) ?_
      have hP9 := hP.sub (ws' := [(ou, .inl (cO, 1, .inr (.inl fo)))]) [0] rfl
      have hD9 := hD.sub (ws' := [(ou, .inl (cO, 1, .inr (.inl fo)))]) [0] (by decide) rfl
      have hK9 := hK.sub (tys' := []) [] rfl
      refine W.widen (k := 1) (n := 6) (Nat.le_of_ble_eq_true rfl) (Nat.le_of_ble_eq_true rfl) ?_
      exact W.iret (v := 2) hx hb hr (fun t ht hW => ⟨⟨2, (fo), rfl, by first | (refine Or.inl ?_; (refine ⟨?_, ?_, ?_, ?_⟩ <;> (first | rfl | exact pk_uLs | assumption | (simp_all; done) | grind)); done) | (refine Or.inr ?_; refine Or.inl ?_; (refine ⟨?_, ?_⟩ <;> (first | rfl | exact pk_uLs | assumption | (simp_all; done) | grind)); done) | (refine Or.inr ?_; refine Or.inr ?_; (refine ⟨?_, ?_, ?_⟩ <;> (first | rfl | exact pk_uLs | assumption | (simp_all; done) | grind)); done), ⟨by rw [ht]; exact hP9, va_K.moved hW.alike hK9, hD9⟩⟩, hS.F ht⟩) hS.2.2 dL_setWeather_22
  · skip
    obtain ⟨hP1, hK1, hD1⟩ := hB
    rw [ht] at hP1
    have hK1 := va_K.moved hvm.symm hK1
    try dsimp only at hr1
    obtain ⟨hP, hD⟩ := va_join (wr := [(ou, .inl (cO, 1, .inr (.inl fo)))]) (w1 := []) hP hD [0, 1, 2] [3] rfl rfl (by decide) (by decide) hk1 hFc hP1 hD1
    generalize H1 = H at hP hS ⊢
    have hP : va_P (dC, dI) vwCl [(ou, .inl (cO, 1, .inr (.inl fo)))] H := hP
    have hD : va_D A [(ou, .inl (cO, 1, .inr (.inl fo)))] := hD
    refine W.widen (k := 1) (n := 6) (Nat.le_of_ble_eq_true rfl) (Nat.le_of_ble_eq_true rfl) ?_
    obtain ⟨rfl, fr1_0_0, fr1_0_1⟩ := hr1
    refine lv_i2l (v := 40) hx hb dL_setWeather_10 (by first | rfl | decide) ?_
    refine va_last hx hb hK hP hD hS 0 2 rfl rfl (vp_in_nI (n := 0) (by decide) (by decide)) dL_setWeather_11 (fun H locs hP hD hS => ?_)
    have hP : va_P (dC, dI) vwCl [(ou, .inl (cO, 1, .inr (.inl (vp_updL fo 0 40))))] H := hP
    have hD : va_D A [(ou, .inl (cO, 1, .inr (.inl (vp_updL fo 0 40))))] := hD
    refine lv_goto (tgt := 23) hx hb dL_setWeather_12 (by decide) ?_
    refine lv_iconst (v := 0) hx hb dL_setWeather_23 (by decide) ?_
    have hP9 := hP.sub (ws' := [(ou, .inl (cO, 1, .inr (.inl (vp_updL fo 0 40))))]) [0] rfl
    have hD9 := hD.sub (ws' := [(ou, .inl (cO, 1, .inr (.inl (vp_updL fo 0 40))))]) [0] (by decide) rfl
    have hK9 := hK.sub (tys' := []) [] rfl
    refine W.widen (k := 1) (n := 6) (Nat.le_of_ble_eq_true rfl) (Nat.le_of_ble_eq_true rfl) ?_
    exact W.iret (v := 0) hx hb hr (fun t ht hW => ⟨⟨0, (vp_updL fo 0 40), rfl, by first | (refine Or.inl ?_; (refine ⟨?_, ?_, ?_, ?_⟩ <;> (first | rfl | exact pk_uLs | assumption | (simp_all; done) | grind)); done) | (refine Or.inr ?_; refine Or.inl ?_; (refine ⟨?_, ?_⟩ <;> (first | rfl | exact pk_uLs | assumption | (simp_all; done) | grind)); done) | (refine Or.inr ?_; refine Or.inr ?_; (refine ⟨?_, ?_, ?_⟩ <;> (first | rfl | exact pk_uLs | assumption | (simp_all; done) | grind)); done), ⟨by rw [ht]; exact hP9, va_K.moved hW.alike hK9, hD9⟩⟩, hS.F ht⟩) hS.2.2 dL_setWeather_24

set_option maxHeartbeats 4000000 in
set_option maxRecDepth 100000 in
theorem kL_count (l : Launch) (hst : l.stackTraces = false) (dC : Nat → ClassId) (dI : Nat → Nat → Nat) (sz : Nat) (h : Nat) (ro : Nat) (ba : Nat) (ra : Nat) (su : Nat) (tr : Nat) (cR : ClassId) (cB : ClassId) (cA : ClassId) (fr : Nat → Int32) (cS : ClassId) (ou : Nat) (cO : ClassId) (fo : Nat → Int64) (a1 : Int32) (hra : ∀ j : Nat, j < 12 → fr j = 4) : Met l yL_count wsL_count ({ frames := 7, cells := 1, slots := 6, locals := 106 }) (va_Pc [.ref h, .int a1, .ref ou] (fun U => U.heap.size = sz ∧ va_P (dC, dI) vwCl [(h, .inr (1, [.ref ro, .int 0, .ref ba, .ref ra, .ref su, .int 0, .ref tr])), (ro, .inl (cR, 6, .inr (.inr (.inr (.inr (fun _ => none)))))), (ba, .inl (cB, 3, .inl (fun _ => 0))), (ra, .inl (cA, 12, .inl fr)), (su, .inl (cS, 12, .inl (fun _ => 0))), (ou, .inl (cO, 1, .inr (.inl fo)))] U.heap ∧ va_K (dC, dI) vwCl [(cR, .object RX0), (cB, .int), (cA, .int), (cS, .int), (cO, .long)] U ∧ va_D (fun _ => True) [(h, .inr (1, [.ref ro, .int 0, .ref ba, .ref ra, .ref su, .int 0, .ref tr])), (ro, .inl (cR, 6, .inr (.inr (.inr (.inr (fun _ => none)))))), (ba, .inl (cB, 3, .inl (fun _ => 0))), (ra, .inl (cA, 12, .inl fr)), (su, .inl (cS, 12, .inl (fun _ => 0))), (ou, .inl (cO, 1, .inr (.inl fo)))] ∧ zX U ∧ zTh (va_A [(h, .inr (1, [.ref ro, .int 0, .ref ba, .ref ra, .ref su, .int 0, .ref tr])), (ro, .inl (cR, 6, .inr (.inr (.inr (.inr (fun _ => none)))))), (ba, .inl (cB, 3, .inl (fun _ => 0))), (ra, .inl (cA, 12, .inl fr)), (su, .inl (cS, 12, .inl (fun _ => 0))), (ou, .inl (cO, 1, .inr (.inl fo)))] sz) U U.heap)) (va_Qi (fun (r : Int32) (u : (Nat → Int64)) => (r = 0 ∧ u 0 = (zTal a1).toInt64 ∧ zIn a1 0 8) ∨ (r = 1 ∧ ¬ zIn a1 0 8)) (fun (u : (Nat → Int64)) (t : State) => va_P (dC, dI) vwCl [(ou, .inl (cO, 1, .inr (.inl u)))] t.heap ∧ va_K (dC, dI) vwCl [] t ∧ va_D (va_A [(h, .inr (1, [.ref ro, .int 0, .ref ba, .ref ra, .ref su, .int 0, .ref tr])), (ro, .inl (cR, 6, .inr (.inr (.inr (.inr (fun _ => none)))))), (ba, .inl (cB, 3, .inl (fun _ => 0))), (ra, .inl (cA, 12, .inl fr)), (su, .inl (cS, 12, .inl (fun _ => 0))), (ou, .inl (cO, 1, .inr (.inl fo)))] sz) [(ou, .inl (cO, 1, .inr (.inl u)))]) (va_A [(h, .inr (1, [.ref ro, .int 0, .ref ba, .ref ra, .ref su, .int 0, .ref tr])), (ro, .inl (cR, 6, .inr (.inr (.inr (.inr (fun _ => none)))))), (ba, .inl (cB, 3, .inl (fun _ => 0))), (ra, .inl (cA, 12, .inl fr)), (su, .inl (cS, 12, .inl (fun _ => 0))), (ou, .inl (cO, 1, .inr (.inl fo)))] sz)) 1 6 (va_A [(h, .inr (1, [.ref ro, .int 0, .ref ba, .ref ra, .ref su, .int 0, .ref tr])), (ro, .inl (cR, 6, .inr (.inr (.inr (.inr (fun _ => none)))))), (ba, .inl (cB, 3, .inl (fun _ => 0))), (ra, .inl (cA, 12, .inl fr)), (su, .inl (cS, 12, .inl (fun _ => 0))), (ou, .inl (cO, 1, .inr (.inl fo)))] sz) := by
  refine va_MetW (cc := cL_count) (maxL := 4) (ret := (some .int)) (by decide) rfl ?_
  intro p e s m args below meth c s₁ B hml hv
  obtain ⟨rfl, hsz, hP, hK, hD0, hZX, hZT⟩ := hv
  have hx := B.exec
  have hb := B.bytes
  have hr := B.returns
  have hts := atoms_spec (ws := wsL_count) B.pre
  have hown : s.vm.findClass RL = some m.cls := findClass_of_methodNamed B.named
  have hlocks := B.notSynchronized
  have htab := vx_table (x := yL_count) B (hts (.codeWith yL_count cL_count 4 (some .int) [(0, 9, 12, 21)]) List.mem_cons_self)
  subst hsz
  have hD := hD0.self (sz := s.heap.size)
  generalize hAe : va_A [(h, .inr (1, [.ref ro, .int 0, .ref ba, .ref ra, .ref su, .int 0, .ref tr])), (ro, .inl (cR, 6, .inr (.inr (.inr (.inr (fun _ => none)))))), (ba, .inl (cB, 3, .inl (fun _ => 0))), (ra, .inl (cA, 12, .inl fr)), (su, .inl (cS, 12, .inl (fun _ => 0))), (ou, .inl (cO, 1, .inr (.inl fo)))] s.heap.size = A at hD hZT ⊢
  have hA : ∀ q : Nat, s.heap.size ≤ q → A q := fun q h => by rw [← hAe]; exact Or.inr h
  have hS : va_S A s.heap s.heap [] := va_S.rf
  have hP : va_P (dC, dI) vwCl [(h, .inr (1, [.ref ro, .int 0, .ref ba, .ref ra, .ref su, .int 0, .ref tr])), (ro, .inl (cR, 6, .inr (.inr (.inr (.inr (fun _ => none)))))), (ba, .inl (cB, 3, .inl (fun _ => 0))), (ra, .inl (cA, 12, .inl fr)), (su, .inl (cS, 12, .inl (fun _ => 0))), (ou, .inl (cO, 1, .inr (.inl fo)))] s.heap := hP
  have hl := lv_entry ([.ref h, .int a1, .ref ou]) (n := 4) (Nat.le_of_ble_eq_true rfl)
  rw [lg_entry_eq]
  generalize (lg_sl ([.ref h, .int a1, .ref ou]) ++ List.replicate (4 - (lg_sl ([.ref h, .int a1, .ref ou])).length) Slot.unset).toArray = ls at hl ⊢
  have hl : lv_has ls 4 [(0, .ref h), (1, .int a1), (2, .ref ou)] := hl
  refine lv_aload_n hx hb dL_count_0 rfl (lv_at hl 2 rfl) ?_
  refine lv_iconst (v := 0) hx hb dL_count_1 (by decide) ?_
  refine lv_aload_n hx hb dL_count_2 rfl (lv_at hl 0 rfl) ?_
  refine lv_iload_n hx hb dL_count_3 rfl (lv_at hl 1 rfl) ?_
  have hPc := hP.sub (ws' := [(h, .inr (1, [.ref ro, .int 0, .ref ba, .ref ra, .ref su, .int 0, .ref tr])), (ro, .inl (cR, 6, .inr (.inr (.inr (.inr (fun _ => none)))))), (ba, .inl (cB, 3, .inl (fun _ => 0))), (ra, .inl (cA, 12, .inl fr)), (su, .inl (cS, 12, .inl (fun _ => 0)))]) [0, 1, 2, 3, 4] rfl
  have hKc := hK.sub (tys' := [(cR, .object RX0), (cB, .int), (cA, .int), (cS, .int)]) [0, 1, 2, 3] rfl
  have hDc := hD.sub (ws' := [(h, .inr (1, [.ref ro, .int 0, .ref ba, .ref ra, .ref su, .int 0, .ref tr])), (ro, .inl (cR, 6, .inr (.inr (.inr (.inr (fun _ => none)))))), (ba, .inl (cB, 3, .inl (fun _ => 0))), (ra, .inl (cA, 12, .inl fr)), (su, .inl (cS, 12, .inl (fun _ => 0)))]) [0, 1, 2, 3, 4] (by decide) rfl
  have hFc := va_free (wc := [(h, .inr (1, [.ref ro, .int 0, .ref ba, .ref ra, .ref su, .int 0, .ref tr])), (ro, .inl (cR, 6, .inr (.inr (.inr (.inr (fun _ => none)))))), (ba, .inl (cB, 3, .inl (fun _ => 0))), (ra, .inl (cA, 12, .inl fr)), (su, .inl (cS, 12, .inl (fun _ => 0)))]) hD hS hA [0, 1, 2, 3, 4] rfl
  refine vx_calli (vx_runV (As := [.int a1]) (rest := [.int 0, .ref ou]) ⟨hx, hb, hml, hown, hts⟩ (k1_count l hst dC dI s.heap.size h ro ba ra su tr cR cB cA fr cS a1 (by first | assumption | decide | omega)) (cwV 1 hts gL_count_X1_count rfl rfl rfl (by decide +kernel) ⟨Nat.le_of_ble_eq_true rfl, Nat.le_of_ble_eq_true rfl⟩) ⟨fun a U g mk q => by obtain ⟨q0, q1, qP, qK, qD, qX, qT⟩ := q; exact ⟨q0, q1, qP, va_K.moved (u := U) (U := U.calling g mk a) (Vm.Alike.refl U.vm) qK, qD, zX.calling qX, zTh.calling qT⟩, va_recv hKc hPc (ci := 1) (q0 := 0) rfl rfl, fun U hU hW => ⟨rfl, by rw [hU], by rw [hU]; exact hPc, va_K.moved hW.alike hKc, hDc.weaken (fun _ _ _ _ => trivial), zX.warm hW hZX, by rw [hU]; exact zTh.at hW hZT hS hFc⟩⟩ rfl rfl hl.1 rfl (lv_room (Nat.le_of_ble_eq_true rfl)) dL_count_4 ⟨Nat.le_of_ble_eq_true rfl, Nat.le_of_ble_eq_true rfl⟩) hS (fun q _ h => hFc q h) hFc (fun q _ h => hFc q h) (fun E9 ce q9 u9 t H1 locs ht hvm hpx hBX hz1 hk1 hS hce hcv hcl => ?_) (fun r1 u t H1 locs ht hvm hr1 hB hz1 hk1 hS => ?_)
  · have hPe : va_P (dC, dI) vwCl [] H1 := fun k q h => by simp at h
    have hDe : ∀ A9 : Nat → Prop, va_D A9 [] := fun _ => ⟨fun i j p q h => by simp at h, fun k q h => by simp at h⟩
    obtain ⟨hP, hD⟩ := va_join (wr := [(ou, .inl (cO, 1, .inr (.inl fo)))]) (w1 := []) hP hD [0, 1, 2, 3, 4] [5] rfl rfl (by decide) (by decide) hk1 hFc hPe (hDe _)
    generalize H1 = H at hP hS hce ⊢
    have hP : va_P (dC, dI) vwCl [(ou, .inl (cO, 1, .inr (.inl fo)))] H := hP
    have hD : va_D A [(ou, .inl (cO, 1, .inr (.inl fo)))] := hD
    refine vx_widen (k := 1) (n := 6) (Nat.le_of_ble_eq_true rfl) (Nat.le_of_ble_eq_true rfl) ?_
    obtain ⟨rfl, fx4_0_0⟩ := hBX
    refine vx_catch (name := "java/lang/IndexOutOfBoundsException") hown [] ⟨0, 9, 12, 21⟩ [] (by rw [htab]; rfl) (fun z hz => by simp at hz) (by decide) (by decide) (hts (.classLink RL 21 "java/lang/IndexOutOfBoundsException") (by decide +kernel)) (va_Nw.use rfl (zX_cB hZX)) hce hcv hcl ?_
    refine W.eq (g2 := F0 m 12 ls [.ref q9]) rfl ?_
    refine lv_astore_n (lv' := [(3, .ref q9), (0, .ref h), (1, .int a1), (2, .ref ou)]) hx hb dL_count_12 rfl hl (by decide) rfl (fun ls hl => ?_)
    refine lv_iconst (v := 1) hx hb dL_count_13 (by decide) ?_
    have hP9 := hP.sub (ws' := [(ou, .inl (cO, 1, .inr (.inl fo)))]) [0] rfl
    have hD9 := hD.sub (ws' := [(ou, .inl (cO, 1, .inr (.inl fo)))]) [0] (by decide) rfl
    have hK9 := hK.sub (tys' := []) [] rfl
    refine W.widen (k := 1) (n := 6) (Nat.le_of_ble_eq_true rfl) (Nat.le_of_ble_eq_true rfl) ?_
    exact W.iret (v := 1) hx hb hr (fun t ht hW => ⟨⟨1, (fo), rfl, by first | (refine Or.inl ?_; (refine ⟨?_, ?_, ?_⟩ <;> (first | rfl | exact pk_uLs | assumption | (simp_all; done) | grind)); done) | (refine Or.inr ?_; (refine ⟨?_, ?_⟩ <;> (first | rfl | exact pk_uLs | assumption | (simp_all; done) | grind)); done), ⟨by rw [ht]; exact hP9, va_K.moved hW.alike hK9, hD9⟩⟩, hS.F ht⟩) hS.2.2 dL_count_14
  · skip
    obtain ⟨hP1, hK1, hD1⟩ := hB
    rw [ht] at hP1
    have hK1 := va_K.moved hvm.symm hK1
    try dsimp only at hr1
    obtain ⟨hP, hD⟩ := va_join (wr := [(ou, .inl (cO, 1, .inr (.inl fo)))]) (w1 := []) hP hD [0, 1, 2, 3, 4] [5] rfl rfl (by decide) (by decide) hk1 hFc hP1 hD1
    generalize H1 = H at hP hS ⊢
    have hP : va_P (dC, dI) vwCl [(ou, .inl (cO, 1, .inr (.inl fo)))] H := hP
    have hD : va_D A [(ou, .inl (cO, 1, .inr (.inl fo)))] := hD
    refine W.widen (k := 1) (n := 6) (Nat.le_of_ble_eq_true rfl) (Nat.le_of_ble_eq_true rfl) ?_
    obtain ⟨evr1_0, fr1_0_0⟩ := hr1
    rw [evr1_0]
    refine lv_i2l (v := (zTal a1).toInt64) hx hb dL_count_7 (by first | rfl | decide) ?_
    refine va_last hx hb hK hP hD hS 0 4 rfl rfl (vp_in_nI (n := 0) (by decide) (by decide)) dL_count_8 (fun H locs hP hD hS => ?_)
    have hP : va_P (dC, dI) vwCl [(ou, .inl (cO, 1, .inr (.inl (vp_updL fo 0 ((zTal a1).toInt64)))))] H := hP
    have hD : va_D A [(ou, .inl (cO, 1, .inr (.inl (vp_updL fo 0 ((zTal a1).toInt64)))))] := hD
    refine lv_goto (tgt := 15) hx hb dL_count_9 (by decide) ?_
    refine lv_iconst (v := 0) hx hb dL_count_15 (by decide) ?_
    have hP9 := hP.sub (ws' := [(ou, .inl (cO, 1, .inr (.inl (vp_updL fo 0 ((zTal a1).toInt64)))))]) [0] rfl
    have hD9 := hD.sub (ws' := [(ou, .inl (cO, 1, .inr (.inl (vp_updL fo 0 ((zTal a1).toInt64)))))]) [0] (by decide) rfl
    have hK9 := hK.sub (tys' := []) [] rfl
    refine W.widen (k := 1) (n := 6) (Nat.le_of_ble_eq_true rfl) (Nat.le_of_ble_eq_true rfl) ?_
    exact W.iret (v := 0) hx hb hr (fun t ht hW => ⟨⟨0, (vp_updL fo 0 ((zTal a1).toInt64)), rfl, by first | (refine Or.inl ?_; (refine ⟨?_, ?_, ?_⟩ <;> (first | rfl | exact pk_uLs | assumption | (simp_all; done) | grind)); done) | (refine Or.inr ?_; (refine ⟨?_, ?_⟩ <;> (first | rfl | exact pk_uLs | assumption | (simp_all; done) | grind)); done), ⟨by rw [ht]; exact hP9, va_K.moved hW.alike hK9, hD9⟩⟩, hS.F ht⟩) hS.2.2 dL_count_16

set_option maxHeartbeats 4000000 in
set_option maxRecDepth 100000 in
theorem kL_pass (l : Launch) (hst : l.stackTraces = false) (dC : Nat → ClassId) (dI : Nat → Nat → Nat) (sz : Nat) (h : Nat) (ro : Nat) (ba : Nat) (ra : Nat) (su : Nat) (tr : Nat) (cR : ClassId) (ou : Nat) (cO : ClassId) (fo : Nat → Int64) (a1 : Int32) : Met l yL_pass wsL_pass ({ frames := 7, cells := 1, slots := 6, locals := 107 }) (va_Pc [.ref h, .int a1, .ref ou] (fun U => U.heap.size = sz ∧ va_P (dC, dI) vwCl [(h, .inr (1, [.ref ro, .int 0, .ref ba, .ref ra, .ref su, .int 0, .ref tr])), (ro, .inl (cR, 6, .inr (.inr (.inr (.inr (fun _ => none)))))), (ou, .inl (cO, 1, .inr (.inl fo)))] U.heap ∧ va_K (dC, dI) vwCl [(cR, .object RX0), (cO, .long)] U ∧ va_D (fun _ => True) [(h, .inr (1, [.ref ro, .int 0, .ref ba, .ref ra, .ref su, .int 0, .ref tr])), (ro, .inl (cR, 6, .inr (.inr (.inr (.inr (fun _ => none)))))), (ou, .inl (cO, 1, .inr (.inl fo)))] ∧ zX U ∧ zTh (va_A [(h, .inr (1, [.ref ro, .int 0, .ref ba, .ref ra, .ref su, .int 0, .ref tr])), (ro, .inl (cR, 6, .inr (.inr (.inr (.inr (fun _ => none)))))), (ou, .inl (cO, 1, .inr (.inl fo)))] sz) U U.heap)) (va_Qi (fun (r : Int32) (u : (Nat → Int64)) => (r = 0 ∧ u 0 = 0 ∧ zIn a1 1 120) ∨ (r = 1 ∧ ¬ zIn a1 1 120)) (fun (u : (Nat → Int64)) (t : State) => va_P (dC, dI) vwCl [(ou, .inl (cO, 1, .inr (.inl u)))] t.heap ∧ va_K (dC, dI) vwCl [] t ∧ va_D (va_A [(h, .inr (1, [.ref ro, .int 0, .ref ba, .ref ra, .ref su, .int 0, .ref tr])), (ro, .inl (cR, 6, .inr (.inr (.inr (.inr (fun _ => none)))))), (ou, .inl (cO, 1, .inr (.inl fo)))] sz) [(ou, .inl (cO, 1, .inr (.inl u)))]) (va_A [(h, .inr (1, [.ref ro, .int 0, .ref ba, .ref ra, .ref su, .int 0, .ref tr])), (ro, .inl (cR, 6, .inr (.inr (.inr (.inr (fun _ => none)))))), (ou, .inl (cO, 1, .inr (.inl fo)))] sz)) 1 6 (va_A [(h, .inr (1, [.ref ro, .int 0, .ref ba, .ref ra, .ref su, .int 0, .ref tr])), (ro, .inl (cR, 6, .inr (.inr (.inr (.inr (fun _ => none)))))), (ou, .inl (cO, 1, .inr (.inl fo)))] sz) := by
  refine va_MetW (cc := cL_pass) (maxL := 4) (ret := (some .int)) (by decide) rfl ?_
  intro p e s m args below meth c s₁ B hml hv
  obtain ⟨rfl, hsz, hP, hK, hD0, hZX, hZT⟩ := hv
  have hx := B.exec
  have hb := B.bytes
  have hr := B.returns
  have hts := atoms_spec (ws := wsL_pass) B.pre
  have hown : s.vm.findClass RL = some m.cls := findClass_of_methodNamed B.named
  have hlocks := B.notSynchronized
  have htab := vx_table (x := yL_pass) B (hts (.codeWith yL_pass cL_pass 4 (some .int) [(0, 9, 12, 13)]) List.mem_cons_self)
  subst hsz
  have hD := hD0.self (sz := s.heap.size)
  generalize hAe : va_A [(h, .inr (1, [.ref ro, .int 0, .ref ba, .ref ra, .ref su, .int 0, .ref tr])), (ro, .inl (cR, 6, .inr (.inr (.inr (.inr (fun _ => none)))))), (ou, .inl (cO, 1, .inr (.inl fo)))] s.heap.size = A at hD hZT ⊢
  have hA : ∀ q : Nat, s.heap.size ≤ q → A q := fun q h => by rw [← hAe]; exact Or.inr h
  have hS : va_S A s.heap s.heap [] := va_S.rf
  have hP : va_P (dC, dI) vwCl [(h, .inr (1, [.ref ro, .int 0, .ref ba, .ref ra, .ref su, .int 0, .ref tr])), (ro, .inl (cR, 6, .inr (.inr (.inr (.inr (fun _ => none)))))), (ou, .inl (cO, 1, .inr (.inl fo)))] s.heap := hP
  have hl := lv_entry ([.ref h, .int a1, .ref ou]) (n := 4) (Nat.le_of_ble_eq_true rfl)
  rw [lg_entry_eq]
  generalize (lg_sl ([.ref h, .int a1, .ref ou]) ++ List.replicate (4 - (lg_sl ([.ref h, .int a1, .ref ou])).length) Slot.unset).toArray = ls at hl ⊢
  have hl : lv_has ls 4 [(0, .ref h), (1, .int a1), (2, .ref ou)] := hl
  refine lv_aload_n hx hb dL_pass_0 rfl (lv_at hl 2 rfl) ?_
  refine lv_iconst (v := 0) hx hb dL_pass_1 (by decide) ?_
  refine lv_aload_n hx hb dL_pass_2 rfl (lv_at hl 0 rfl) ?_
  refine lv_iload_n hx hb dL_pass_3 rfl (lv_at hl 1 rfl) ?_
  have hPc := hP.sub (ws' := [(h, .inr (1, [.ref ro, .int 0, .ref ba, .ref ra, .ref su, .int 0, .ref tr])), (ro, .inl (cR, 6, .inr (.inr (.inr (.inr (fun _ => none))))))]) [0, 1] rfl
  have hKc := hK.sub (tys' := [(cR, .object RX0)]) [0] rfl
  have hDc := hD.sub (ws' := [(h, .inr (1, [.ref ro, .int 0, .ref ba, .ref ra, .ref su, .int 0, .ref tr])), (ro, .inl (cR, 6, .inr (.inr (.inr (.inr (fun _ => none))))))]) [0, 1] (by decide) rfl
  have hFc := va_free (wc := [(h, .inr (1, [.ref ro, .int 0, .ref ba, .ref ra, .ref su, .int 0, .ref tr])), (ro, .inl (cR, 6, .inr (.inr (.inr (.inr (fun _ => none))))))]) hD hS hA [0, 1] rfl
  refine vx_calli (vx_runV (As := [.int a1]) (rest := [.int 0, .ref ou]) ⟨hx, hb, hml, hown, hts⟩ (k1_pass l hst dC dI s.heap.size h ro ba ra su tr cR a1 ) (cwV 1 hts gL_pass_X1_pass rfl rfl rfl (by decide +kernel) ⟨Nat.le_of_ble_eq_true rfl, Nat.le_of_ble_eq_true rfl⟩) ⟨fun a U g mk q => by obtain ⟨q0, q1, qP, qK, qD, qX, qT⟩ := q; exact ⟨q0, q1, qP, va_K.moved (u := U) (U := U.calling g mk a) (Vm.Alike.refl U.vm) qK, qD, zX.calling qX, zTh.calling qT⟩, va_recv hKc hPc (ci := 1) (q0 := 0) rfl rfl, fun U hU hW => ⟨rfl, by rw [hU], by rw [hU]; exact hPc, va_K.moved hW.alike hKc, hDc.weaken (fun _ _ _ _ => trivial), zX.warm hW hZX, by rw [hU]; exact zTh.at hW hZT hS hFc⟩⟩ rfl rfl hl.1 rfl (lv_room (Nat.le_of_ble_eq_true rfl)) dL_pass_4 ⟨Nat.le_of_ble_eq_true rfl, Nat.le_of_ble_eq_true rfl⟩) hS (fun q _ h => hFc q h) hFc (fun q _ h => hFc q h) (fun E9 ce q9 u9 t H1 locs ht hvm hpx hBX hz1 hk1 hS hce hcv hcl => ?_) (fun r1 u t H1 locs ht hvm hr1 hB hz1 hk1 hS => ?_)
  · have hPe : va_P (dC, dI) vwCl [] H1 := fun k q h => by simp at h
    have hDe : ∀ A9 : Nat → Prop, va_D A9 [] := fun _ => ⟨fun i j p q h => by simp at h, fun k q h => by simp at h⟩
    obtain ⟨hP, hD⟩ := va_join (wr := [(ou, .inl (cO, 1, .inr (.inl fo)))]) (w1 := []) hP hD [0, 1] [2] rfl rfl (by decide) (by decide) hk1 hFc hPe (hDe _)
    generalize H1 = H at hP hS hce ⊢
    have hP : va_P (dC, dI) vwCl [(ou, .inl (cO, 1, .inr (.inl fo)))] H := hP
    have hD : va_D A [(ou, .inl (cO, 1, .inr (.inl fo)))] := hD
    refine vx_widen (k := 1) (n := 6) (Nat.le_of_ble_eq_true rfl) (Nat.le_of_ble_eq_true rfl) ?_
    obtain ⟨rfl, fx4_0_0⟩ := hBX
    refine vx_catch (name := "java/lang/IllegalArgumentException") hown [] ⟨0, 9, 12, 13⟩ [] (by rw [htab]; rfl) (fun z hz => by simp at hz) (by decide) (by decide) (hts (.classLink RL 13 "java/lang/IllegalArgumentException") (by decide +kernel)) (va_Nw.use rfl (zX_cA hZX)) hce hcv hcl ?_
    refine W.eq (g2 := F0 m 12 ls [.ref q9]) rfl ?_
    refine lv_astore_n (lv' := [(3, .ref q9), (0, .ref h), (1, .int a1), (2, .ref ou)]) hx hb dL_pass_12 rfl hl (by decide) rfl (fun ls hl => ?_)
    refine lv_iconst (v := 1) hx hb dL_pass_13 (by decide) ?_
    have hP9 := hP.sub (ws' := [(ou, .inl (cO, 1, .inr (.inl fo)))]) [0] rfl
    have hD9 := hD.sub (ws' := [(ou, .inl (cO, 1, .inr (.inl fo)))]) [0] (by decide) rfl
    have hK9 := hK.sub (tys' := []) [] rfl
    refine W.widen (k := 1) (n := 6) (Nat.le_of_ble_eq_true rfl) (Nat.le_of_ble_eq_true rfl) ?_
    exact W.iret (v := 1) hx hb hr (fun t ht hW => ⟨⟨1, (fo), rfl, by first | (refine Or.inl ?_; (refine ⟨?_, ?_, ?_⟩ <;> (first | rfl | exact pk_uLs | assumption | (simp_all; done) | grind)); done) | (refine Or.inr ?_; (refine ⟨?_, ?_⟩ <;> (first | rfl | exact pk_uLs | assumption | (simp_all; done) | grind)); done), ⟨by rw [ht]; exact hP9, va_K.moved hW.alike hK9, hD9⟩⟩, hS.F ht⟩) hS.2.2 dL_pass_14
  · skip
    obtain ⟨hP1, hK1, hD1⟩ := hB
    rw [ht] at hP1
    have hK1 := va_K.moved hvm.symm hK1
    try dsimp only at hr1
    obtain ⟨hP, hD⟩ := va_join (wr := [(ou, .inl (cO, 1, .inr (.inl fo)))]) (w1 := []) hP hD [0, 1] [2] rfl rfl (by decide) (by decide) hk1 hFc hP1 hD1
    generalize H1 = H at hP hS ⊢
    have hP : va_P (dC, dI) vwCl [(ou, .inl (cO, 1, .inr (.inl fo)))] H := hP
    have hD : va_D A [(ou, .inl (cO, 1, .inr (.inl fo)))] := hD
    refine W.widen (k := 1) (n := 6) (Nat.le_of_ble_eq_true rfl) (Nat.le_of_ble_eq_true rfl) ?_
    obtain ⟨rfl, fr1_0_0⟩ := hr1
    refine lv_i2l (v := 0) hx hb dL_pass_7 (by first | rfl | decide) ?_
    refine va_last hx hb hK hP hD hS 0 1 rfl rfl (vp_in_nI (n := 0) (by decide) (by decide)) dL_pass_8 (fun H locs hP hD hS => ?_)
    have hP : va_P (dC, dI) vwCl [(ou, .inl (cO, 1, .inr (.inl (vp_updL fo 0 0))))] H := hP
    have hD : va_D A [(ou, .inl (cO, 1, .inr (.inl (vp_updL fo 0 0))))] := hD
    refine lv_goto (tgt := 15) hx hb dL_pass_9 (by decide) ?_
    refine lv_iconst (v := 0) hx hb dL_pass_15 (by decide) ?_
    have hP9 := hP.sub (ws' := [(ou, .inl (cO, 1, .inr (.inl (vp_updL fo 0 0))))]) [0] rfl
    have hD9 := hD.sub (ws' := [(ou, .inl (cO, 1, .inr (.inl (vp_updL fo 0 0))))]) [0] (by decide) rfl
    have hK9 := hK.sub (tys' := []) [] rfl
    refine W.widen (k := 1) (n := 6) (Nat.le_of_ble_eq_true rfl) (Nat.le_of_ble_eq_true rfl) ?_
    exact W.iret (v := 0) hx hb hr (fun t ht hW => ⟨⟨0, (vp_updL fo 0 0), rfl, by first | (refine Or.inl ?_; (refine ⟨?_, ?_, ?_⟩ <;> (first | rfl | exact pk_uLs | assumption | (simp_all; done) | grind)); done) | (refine Or.inr ?_; (refine ⟨?_, ?_⟩ <;> (first | rfl | exact pk_uLs | assumption | (simp_all; done) | grind)); done), ⟨by rw [ht]; exact hP9, va_K.moved hW.alike hK9, hD9⟩⟩, hS.F ht⟩) hS.2.2 dL_pass_16

set_option maxHeartbeats 4000000 in
set_option maxRecDepth 100000 in
theorem kL_lay (l : Launch) (hst : l.stackTraces = false) (dC : Nat → ClassId) (dI : Nat → Nat → Nat) (sz : Nat) (h : Nat) (ro : Nat) (ba : Nat) (ra : Nat) (su : Nat) (tr : Nat) (cR : ClassId) (ou : Nat) (cO : ClassId) (fo : Nat → Int64) (a1 : Int32) (a2 : Int32) (a3 : Int32) (a4 : Int32) (a5 : Int32) (a6 : Int32) : Met l yL_lay wsL_lay ({ frames := 7, cells := 1, slots := 6, locals := 109 }) (va_Pc [.ref h, .int a1, .int a2, .int a3, .int a4, .int a5, .int a6, .ref ou] (fun U => U.heap.size = sz ∧ va_P (dC, dI) vwCl [(h, .inr (1, [.ref ro, .int 0, .ref ba, .ref ra, .ref su, .int 0, .ref tr])), (ro, .inl (cR, 6, .inr (.inr (.inr (.inr (fun _ => none)))))), (ou, .inl (cO, 1, .inr (.inl fo)))] U.heap ∧ va_K (dC, dI) vwCl [(cR, .object RX0), (cO, .long)] U ∧ va_D (fun _ => True) [(h, .inr (1, [.ref ro, .int 0, .ref ba, .ref ra, .ref su, .int 0, .ref tr])), (ro, .inl (cR, 6, .inr (.inr (.inr (.inr (fun _ => none)))))), (ou, .inl (cO, 1, .inr (.inl fo)))] ∧ zX U ∧ zTh (va_A [(h, .inr (1, [.ref ro, .int 0, .ref ba, .ref ra, .ref su, .int 0, .ref tr])), (ro, .inl (cR, 6, .inr (.inr (.inr (.inr (fun _ => none)))))), (ou, .inl (cO, 1, .inr (.inl fo)))] sz) U U.heap)) (va_Qi (fun (r : Int32) (u : (Nat → Int64)) => r = 1) (fun (u : (Nat → Int64)) (t : State) => va_P (dC, dI) vwCl [(ou, .inl (cO, 1, .inr (.inl u)))] t.heap ∧ va_K (dC, dI) vwCl [] t ∧ va_D (va_A [(h, .inr (1, [.ref ro, .int 0, .ref ba, .ref ra, .ref su, .int 0, .ref tr])), (ro, .inl (cR, 6, .inr (.inr (.inr (.inr (fun _ => none)))))), (ou, .inl (cO, 1, .inr (.inl fo)))] sz) [(ou, .inl (cO, 1, .inr (.inl u)))]) (va_A [(h, .inr (1, [.ref ro, .int 0, .ref ba, .ref ra, .ref su, .int 0, .ref tr])), (ro, .inl (cR, 6, .inr (.inr (.inr (.inr (fun _ => none)))))), (ou, .inl (cO, 1, .inr (.inl fo)))] sz)) 1 6 (va_A [(h, .inr (1, [.ref ro, .int 0, .ref ba, .ref ra, .ref su, .int 0, .ref tr])), (ro, .inl (cR, 6, .inr (.inr (.inr (.inr (fun _ => none)))))), (ou, .inl (cO, 1, .inr (.inl fo)))] sz) := by
  refine va_MetW (cc := cL_lay) (maxL := 9) (ret := (some .int)) (by decide) rfl ?_
  intro p e s m args below meth c s₁ B hml hv
  obtain ⟨rfl, hsz, hP, hK, hD0, hZX, hZT⟩ := hv
  have hx := B.exec
  have hb := B.bytes
  have hr := B.returns
  have hts := atoms_spec (ws := wsL_lay) B.pre
  have hown : s.vm.findClass RL = some m.cls := findClass_of_methodNamed B.named
  have hlocks := B.notSynchronized
  have htab := vx_table (x := yL_lay) B (hts (.codeWith yL_lay cL_lay 9 (some .int) [(0, 18, 21, 21), (0, 18, 25, 13), (0, 18, 29, 15)]) List.mem_cons_self)
  subst hsz
  have hD := hD0.self (sz := s.heap.size)
  generalize hAe : va_A [(h, .inr (1, [.ref ro, .int 0, .ref ba, .ref ra, .ref su, .int 0, .ref tr])), (ro, .inl (cR, 6, .inr (.inr (.inr (.inr (fun _ => none)))))), (ou, .inl (cO, 1, .inr (.inl fo)))] s.heap.size = A at hD hZT ⊢
  have hA : ∀ q : Nat, s.heap.size ≤ q → A q := fun q h => by rw [← hAe]; exact Or.inr h
  have hS : va_S A s.heap s.heap [] := va_S.rf
  have hP : va_P (dC, dI) vwCl [(h, .inr (1, [.ref ro, .int 0, .ref ba, .ref ra, .ref su, .int 0, .ref tr])), (ro, .inl (cR, 6, .inr (.inr (.inr (.inr (fun _ => none)))))), (ou, .inl (cO, 1, .inr (.inl fo)))] s.heap := hP
  have hl := lv_entry ([.ref h, .int a1, .int a2, .int a3, .int a4, .int a5, .int a6, .ref ou]) (n := 9) (Nat.le_of_ble_eq_true rfl)
  rw [lg_entry_eq]
  generalize (lg_sl ([.ref h, .int a1, .int a2, .int a3, .int a4, .int a5, .int a6, .ref ou]) ++ List.replicate (9 - (lg_sl ([.ref h, .int a1, .int a2, .int a3, .int a4, .int a5, .int a6, .ref ou])).length) Slot.unset).toArray = ls at hl ⊢
  have hl : lv_has ls 9 [(0, .ref h), (1, .int a1), (2, .int a2), (3, .int a3), (4, .int a4), (5, .int a5), (6, .int a6), (7, .ref ou)] := hl
  refine lv_aload hx hb dL_lay_0 (lv_at hl 7 rfl) ?_
  refine lv_iconst (v := 0) hx hb dL_lay_2 (by decide) ?_
  refine lv_aload_n hx hb dL_lay_3 rfl (lv_at hl 0 rfl) ?_
  refine lv_iload_n hx hb dL_lay_4 rfl (lv_at hl 1 rfl) ?_
  refine lv_iload_n hx hb dL_lay_5 rfl (lv_at hl 2 rfl) ?_
  refine lv_iload_n hx hb dL_lay_6 rfl (lv_at hl 3 rfl) ?_
  refine lv_iload hx hb dL_lay_7 (lv_at hl 4 rfl) ?_
  refine lv_iload hx hb dL_lay_9 (lv_at hl 5 rfl) ?_
  refine lv_iload hx hb dL_lay_11 (lv_at hl 6 rfl) ?_
  have hPc := hP.sub (ws' := [(h, .inr (1, [.ref ro, .int 0, .ref ba, .ref ra, .ref su, .int 0, .ref tr])), (ro, .inl (cR, 6, .inr (.inr (.inr (.inr (fun _ => none))))))]) [0, 1] rfl
  have hKc := hK.sub (tys' := [(cR, .object RX0)]) [0] rfl
  have hDc := hD.sub (ws' := [(h, .inr (1, [.ref ro, .int 0, .ref ba, .ref ra, .ref su, .int 0, .ref tr])), (ro, .inl (cR, 6, .inr (.inr (.inr (.inr (fun _ => none))))))]) [0, 1] (by decide) rfl
  have hFc := va_free (wc := [(h, .inr (1, [.ref ro, .int 0, .ref ba, .ref ra, .ref su, .int 0, .ref tr])), (ro, .inl (cR, 6, .inr (.inr (.inr (.inr (fun _ => none))))))]) hD hS hA [0, 1] rfl
  refine vx_calli (vx_runV (As := [.int a1, .int a2, .int a3, .int a4, .int a5, .int a6]) (rest := [.int 0, .ref ou]) ⟨hx, hb, hml, hown, hts⟩ (k1_lay l hst dC dI s.heap.size h ro ba ra su tr cR a1 a2 a3 a4 a5 a6 ) (cwV 6 hts gL_lay_X1_lay rfl rfl rfl (by decide +kernel) ⟨Nat.le_of_ble_eq_true rfl, Nat.le_of_ble_eq_true rfl⟩) ⟨fun a U g mk q => by obtain ⟨q0, q1, qP, qK, qD, qX, qT⟩ := q; exact ⟨q0, q1, qP, va_K.moved (u := U) (U := U.calling g mk a) (Vm.Alike.refl U.vm) qK, qD, zX.calling qX, zTh.calling qT⟩, va_recv hKc hPc (ci := 1) (q0 := 0) rfl rfl, fun U hU hW => ⟨rfl, by rw [hU], by rw [hU]; exact hPc, va_K.moved hW.alike hKc, hDc.weaken (fun _ _ _ _ => trivial), zX.warm hW hZX, by rw [hU]; exact zTh.at hW hZT hS hFc⟩⟩ rfl rfl hl.1 rfl (lv_room (Nat.le_of_ble_eq_true rfl)) dL_lay_13 ⟨Nat.le_of_ble_eq_true rfl, Nat.le_of_ble_eq_true rfl⟩) hS (fun q _ h => hFc q h) hFc (fun q _ h => hFc q h) (fun E9 ce q9 u9 t H1 locs ht hvm hpx hBX hz1 hk1 hS hce hcv hcl => ?_) (fun r1 u t H1 locs ht hvm hr1 hB hz1 hk1 hS => ?_)
  · have hPe : va_P (dC, dI) vwCl [] H1 := fun k q h => by simp at h
    have hDe : ∀ A9 : Nat → Prop, va_D A9 [] := fun _ => ⟨fun i j p q h => by simp at h, fun k q h => by simp at h⟩
    obtain ⟨hP, hD⟩ := va_join (wr := [(ou, .inl (cO, 1, .inr (.inl fo)))]) (w1 := []) hP hD [0, 1] [2] rfl rfl (by decide) (by decide) hk1 hFc hPe (hDe _)
    generalize H1 = H at hP hS hce ⊢
    have hP : va_P (dC, dI) vwCl [(ou, .inl (cO, 1, .inr (.inl fo)))] H := hP
    have hD : va_D A [(ou, .inl (cO, 1, .inr (.inl fo)))] := hD
    refine vx_widen (k := 1) (n := 6) (Nat.le_of_ble_eq_true rfl) (Nat.le_of_ble_eq_true rfl) ?_
    obtain rfl := hBX
    refine vx_catch (name := "java/lang/IndexOutOfBoundsException") hown [] ⟨0, 18, 21, 21⟩ [⟨0, 18, 25, 13⟩, ⟨0, 18, 29, 15⟩] (by rw [htab]; rfl) (fun z hz => by simp at hz) (by decide) (by decide) (hts (.classLink RL 21 "java/lang/IndexOutOfBoundsException") (by decide +kernel)) (va_Nw.use rfl (zX_cB hZX)) hce hcv hcl ?_
    refine W.eq (g2 := F0 m 21 ls [.ref q9]) rfl ?_
    refine lv_astore (lv' := [(8, .ref q9), (0, .ref h), (1, .int a1), (2, .int a2), (3, .int a3), (4, .int a4), (5, .int a5), (6, .int a6), (7, .ref ou)]) hx hb dL_lay_21 hl (by decide) rfl (fun ls hl => ?_)
    refine lv_iconst (v := 1) hx hb dL_lay_23 (by decide) ?_
    have hP9 := hP.sub (ws' := [(ou, .inl (cO, 1, .inr (.inl fo)))]) [0] rfl
    have hD9 := hD.sub (ws' := [(ou, .inl (cO, 1, .inr (.inl fo)))]) [0] (by decide) rfl
    have hK9 := hK.sub (tys' := []) [] rfl
    refine W.widen (k := 1) (n := 6) (Nat.le_of_ble_eq_true rfl) (Nat.le_of_ble_eq_true rfl) ?_
    exact W.iret (v := 1) hx hb hr (fun t ht hW => ⟨⟨1, (fo), rfl, by (first | rfl | exact pk_uLs | assumption | (simp_all; done) | grind), ⟨by rw [ht]; exact hP9, va_K.moved hW.alike hK9, hD9⟩⟩, hS.F ht⟩) hS.2.2 dL_lay_24
  · skip
    exact (show False from hr1).elim

set_option maxHeartbeats 4000000 in
set_option maxRecDepth 100000 in
theorem kL_layCourse (l : Launch) (hst : l.stackTraces = false) (dC : Nat → ClassId) (dI : Nat → Nat → Nat) (sz : Nat) (h : Nat) (ro : Nat) (ba : Nat) (ra : Nat) (su : Nat) (tr : Nat) (cR : ClassId) (ou : Nat) (cO : ClassId) (fo : Nat → Int64) (a1 : Int32) (a2 : Int32) (a3 : Int32) (a4 : Int32) (a5 : Int32) : Met l yL_layCourse wsL_layCourse ({ frames := 7, cells := 1, slots := 6, locals := 110 }) (va_Pc [.ref h, .int a1, .int a2, .int a3, .int a4, .int a5, .ref ou] (fun U => U.heap.size = sz ∧ va_P (dC, dI) vwCl [(h, .inr (1, [.ref ro, .int 0, .ref ba, .ref ra, .ref su, .int 0, .ref tr])), (ro, .inl (cR, 6, .inr (.inr (.inr (.inr (fun _ => none)))))), (ou, .inl (cO, 1, .inr (.inl fo)))] U.heap ∧ va_K (dC, dI) vwCl [(cR, .object RX0), (cO, .long)] U ∧ va_D (fun _ => True) [(h, .inr (1, [.ref ro, .int 0, .ref ba, .ref ra, .ref su, .int 0, .ref tr])), (ro, .inl (cR, 6, .inr (.inr (.inr (.inr (fun _ => none)))))), (ou, .inl (cO, 1, .inr (.inl fo)))] ∧ zX U ∧ zTh (va_A [(h, .inr (1, [.ref ro, .int 0, .ref ba, .ref ra, .ref su, .int 0, .ref tr])), (ro, .inl (cR, 6, .inr (.inr (.inr (.inr (fun _ => none)))))), (ou, .inl (cO, 1, .inr (.inl fo)))] sz) U U.heap)) (va_Qi (fun (r : Int32) (u : (Nat → Int64)) => r = 1) (fun (u : (Nat → Int64)) (t : State) => va_P (dC, dI) vwCl [(ou, .inl (cO, 1, .inr (.inl u)))] t.heap ∧ va_K (dC, dI) vwCl [] t ∧ va_D (va_A [(h, .inr (1, [.ref ro, .int 0, .ref ba, .ref ra, .ref su, .int 0, .ref tr])), (ro, .inl (cR, 6, .inr (.inr (.inr (.inr (fun _ => none)))))), (ou, .inl (cO, 1, .inr (.inl fo)))] sz) [(ou, .inl (cO, 1, .inr (.inl u)))]) (va_A [(h, .inr (1, [.ref ro, .int 0, .ref ba, .ref ra, .ref su, .int 0, .ref tr])), (ro, .inl (cR, 6, .inr (.inr (.inr (.inr (fun _ => none)))))), (ou, .inl (cO, 1, .inr (.inl fo)))] sz)) 1 6 (va_A [(h, .inr (1, [.ref ro, .int 0, .ref ba, .ref ra, .ref su, .int 0, .ref tr])), (ro, .inl (cR, 6, .inr (.inr (.inr (.inr (fun _ => none)))))), (ou, .inl (cO, 1, .inr (.inl fo)))] sz) := by
  refine va_MetW (cc := cL_layCourse) (maxL := 8) (ret := (some .int)) (by decide) rfl ?_
  intro p e s m args below meth c s₁ B hml hv
  obtain ⟨rfl, hsz, hP, hK, hD0, hZX, hZT⟩ := hv
  have hx := B.exec
  have hb := B.bytes
  have hr := B.returns
  have hts := atoms_spec (ws := wsL_layCourse) B.pre
  have hown : s.vm.findClass RL = some m.cls := findClass_of_methodNamed B.named
  have hlocks := B.notSynchronized
  have htab := vx_table (x := yL_layCourse) B (hts (.codeWith yL_layCourse cL_layCourse 8 (some .int) [(0, 16, 19, 21), (0, 16, 23, 13)]) List.mem_cons_self)
  subst hsz
  have hD := hD0.self (sz := s.heap.size)
  generalize hAe : va_A [(h, .inr (1, [.ref ro, .int 0, .ref ba, .ref ra, .ref su, .int 0, .ref tr])), (ro, .inl (cR, 6, .inr (.inr (.inr (.inr (fun _ => none)))))), (ou, .inl (cO, 1, .inr (.inl fo)))] s.heap.size = A at hD hZT ⊢
  have hA : ∀ q : Nat, s.heap.size ≤ q → A q := fun q h => by rw [← hAe]; exact Or.inr h
  have hS : va_S A s.heap s.heap [] := va_S.rf
  have hP : va_P (dC, dI) vwCl [(h, .inr (1, [.ref ro, .int 0, .ref ba, .ref ra, .ref su, .int 0, .ref tr])), (ro, .inl (cR, 6, .inr (.inr (.inr (.inr (fun _ => none)))))), (ou, .inl (cO, 1, .inr (.inl fo)))] s.heap := hP
  have hl := lv_entry ([.ref h, .int a1, .int a2, .int a3, .int a4, .int a5, .ref ou]) (n := 8) (Nat.le_of_ble_eq_true rfl)
  rw [lg_entry_eq]
  generalize (lg_sl ([.ref h, .int a1, .int a2, .int a3, .int a4, .int a5, .ref ou]) ++ List.replicate (8 - (lg_sl ([.ref h, .int a1, .int a2, .int a3, .int a4, .int a5, .ref ou])).length) Slot.unset).toArray = ls at hl ⊢
  have hl : lv_has ls 8 [(0, .ref h), (1, .int a1), (2, .int a2), (3, .int a3), (4, .int a4), (5, .int a5), (6, .ref ou)] := hl
  refine lv_aload hx hb dL_layCourse_0 (lv_at hl 6 rfl) ?_
  refine lv_iconst (v := 0) hx hb dL_layCourse_2 (by decide) ?_
  refine lv_aload_n hx hb dL_layCourse_3 rfl (lv_at hl 0 rfl) ?_
  refine lv_iload_n hx hb dL_layCourse_4 rfl (lv_at hl 1 rfl) ?_
  refine lv_iload_n hx hb dL_layCourse_5 rfl (lv_at hl 2 rfl) ?_
  refine lv_iload_n hx hb dL_layCourse_6 rfl (lv_at hl 3 rfl) ?_
  refine lv_iload hx hb dL_layCourse_7 (lv_at hl 4 rfl) ?_
  refine lv_iload hx hb dL_layCourse_9 (lv_at hl 5 rfl) ?_
  have hPc := hP.sub (ws' := [(h, .inr (1, [.ref ro, .int 0, .ref ba, .ref ra, .ref su, .int 0, .ref tr])), (ro, .inl (cR, 6, .inr (.inr (.inr (.inr (fun _ => none))))))]) [0, 1] rfl
  have hKc := hK.sub (tys' := [(cR, .object RX0)]) [0] rfl
  have hDc := hD.sub (ws' := [(h, .inr (1, [.ref ro, .int 0, .ref ba, .ref ra, .ref su, .int 0, .ref tr])), (ro, .inl (cR, 6, .inr (.inr (.inr (.inr (fun _ => none))))))]) [0, 1] (by decide) rfl
  have hFc := va_free (wc := [(h, .inr (1, [.ref ro, .int 0, .ref ba, .ref ra, .ref su, .int 0, .ref tr])), (ro, .inl (cR, 6, .inr (.inr (.inr (.inr (fun _ => none))))))]) hD hS hA [0, 1] rfl
  refine vx_calli (vx_runV (As := [.int a1, .int a2, .int a3, .int a4, .int a5]) (rest := [.int 0, .ref ou]) ⟨hx, hb, hml, hown, hts⟩ (k1_layCourse l hst dC dI s.heap.size h ro ba ra su tr cR a1 a2 a3 a4 a5 ) (cwV 5 hts gL_layCourse_X1_layCourse rfl rfl rfl (by decide +kernel) ⟨Nat.le_of_ble_eq_true rfl, Nat.le_of_ble_eq_true rfl⟩) ⟨fun a U g mk q => by obtain ⟨q0, q1, qP, qK, qD, qX, qT⟩ := q; exact ⟨q0, q1, qP, va_K.moved (u := U) (U := U.calling g mk a) (Vm.Alike.refl U.vm) qK, qD, zX.calling qX, zTh.calling qT⟩, va_recv hKc hPc (ci := 1) (q0 := 0) rfl rfl, fun U hU hW => ⟨rfl, by rw [hU], by rw [hU]; exact hPc, va_K.moved hW.alike hKc, hDc.weaken (fun _ _ _ _ => trivial), zX.warm hW hZX, by rw [hU]; exact zTh.at hW hZT hS hFc⟩⟩ rfl rfl hl.1 rfl (lv_room (Nat.le_of_ble_eq_true rfl)) dL_layCourse_11 ⟨Nat.le_of_ble_eq_true rfl, Nat.le_of_ble_eq_true rfl⟩) hS (fun q _ h => hFc q h) hFc (fun q _ h => hFc q h) (fun E9 ce q9 u9 t H1 locs ht hvm hpx hBX hz1 hk1 hS hce hcv hcl => ?_) (fun r1 u t H1 locs ht hvm hr1 hB hz1 hk1 hS => ?_)
  · have hPe : va_P (dC, dI) vwCl [] H1 := fun k q h => by simp at h
    have hDe : ∀ A9 : Nat → Prop, va_D A9 [] := fun _ => ⟨fun i j p q h => by simp at h, fun k q h => by simp at h⟩
    obtain ⟨hP, hD⟩ := va_join (wr := [(ou, .inl (cO, 1, .inr (.inl fo)))]) (w1 := []) hP hD [0, 1] [2] rfl rfl (by decide) (by decide) hk1 hFc hPe (hDe _)
    generalize H1 = H at hP hS hce ⊢
    have hP : va_P (dC, dI) vwCl [(ou, .inl (cO, 1, .inr (.inl fo)))] H := hP
    have hD : va_D A [(ou, .inl (cO, 1, .inr (.inl fo)))] := hD
    refine vx_widen (k := 1) (n := 6) (Nat.le_of_ble_eq_true rfl) (Nat.le_of_ble_eq_true rfl) ?_
    obtain rfl := hBX
    refine vx_catch (name := "java/lang/IndexOutOfBoundsException") hown [] ⟨0, 16, 19, 21⟩ [⟨0, 16, 23, 13⟩] (by rw [htab]; rfl) (fun z hz => by simp at hz) (by decide) (by decide) (hts (.classLink RL 21 "java/lang/IndexOutOfBoundsException") (by decide +kernel)) (va_Nw.use rfl (zX_cB hZX)) hce hcv hcl ?_
    refine W.eq (g2 := F0 m 19 ls [.ref q9]) rfl ?_
    refine lv_astore (lv' := [(7, .ref q9), (0, .ref h), (1, .int a1), (2, .int a2), (3, .int a3), (4, .int a4), (5, .int a5), (6, .ref ou)]) hx hb dL_layCourse_19 hl (by decide) rfl (fun ls hl => ?_)
    refine lv_iconst (v := 1) hx hb dL_layCourse_21 (by decide) ?_
    have hP9 := hP.sub (ws' := [(ou, .inl (cO, 1, .inr (.inl fo)))]) [0] rfl
    have hD9 := hD.sub (ws' := [(ou, .inl (cO, 1, .inr (.inl fo)))]) [0] (by decide) rfl
    have hK9 := hK.sub (tys' := []) [] rfl
    refine W.widen (k := 1) (n := 6) (Nat.le_of_ble_eq_true rfl) (Nat.le_of_ble_eq_true rfl) ?_
    exact W.iret (v := 1) hx hb hr (fun t ht hW => ⟨⟨1, (fo), rfl, by (first | rfl | exact pk_uLs | assumption | (simp_all; done) | grind), ⟨by rw [ht]; exact hP9, va_K.moved hW.alike hK9, hD9⟩⟩, hS.F ht⟩) hS.2.2 dL_layCourse_22
  · skip
    exact (show False from hr1).elim

set_option maxHeartbeats 4000000 in
set_option maxRecDepth 100000 in
theorem kL_mend (l : Launch) (hst : l.stackTraces = false) (dC : Nat → ClassId) (dI : Nat → Nat → Nat) (sz : Nat) (h : Nat) (ro : Nat) (ba : Nat) (ra : Nat) (su : Nat) (tr : Nat) (cR : ClassId) (ou : Nat) (cO : ClassId) (fo : Nat → Int64) (a1 : Int32) (a2 : Int32) (a3 : Int32) : Met l yL_mend wsL_mend ({ frames := 7, cells := 1, slots := 6, locals := 107 }) (va_Pc [.ref h, .int a1, .int a2, .int a3, .ref ou] (fun U => U.heap.size = sz ∧ va_P (dC, dI) vwCl [(h, .inr (1, [.ref ro, .int 0, .ref ba, .ref ra, .ref su, .int 0, .ref tr])), (ro, .inl (cR, 6, .inr (.inr (.inr (.inr (fun _ => none)))))), (ou, .inl (cO, 1, .inr (.inl fo)))] U.heap ∧ va_K (dC, dI) vwCl [(cR, .object RX0), (cO, .long)] U ∧ va_D (fun _ => True) [(h, .inr (1, [.ref ro, .int 0, .ref ba, .ref ra, .ref su, .int 0, .ref tr])), (ro, .inl (cR, 6, .inr (.inr (.inr (.inr (fun _ => none)))))), (ou, .inl (cO, 1, .inr (.inl fo)))] ∧ zX U ∧ zTh (va_A [(h, .inr (1, [.ref ro, .int 0, .ref ba, .ref ra, .ref su, .int 0, .ref tr])), (ro, .inl (cR, 6, .inr (.inr (.inr (.inr (fun _ => none)))))), (ou, .inl (cO, 1, .inr (.inl fo)))] sz) U U.heap)) (va_Qi (fun (r : Int32) (u : (Nat → Int64)) => r = 1) (fun (u : (Nat → Int64)) (t : State) => va_P (dC, dI) vwCl [(ou, .inl (cO, 1, .inr (.inl u)))] t.heap ∧ va_K (dC, dI) vwCl [] t ∧ va_D (va_A [(h, .inr (1, [.ref ro, .int 0, .ref ba, .ref ra, .ref su, .int 0, .ref tr])), (ro, .inl (cR, 6, .inr (.inr (.inr (.inr (fun _ => none)))))), (ou, .inl (cO, 1, .inr (.inl fo)))] sz) [(ou, .inl (cO, 1, .inr (.inl u)))]) (va_A [(h, .inr (1, [.ref ro, .int 0, .ref ba, .ref ra, .ref su, .int 0, .ref tr])), (ro, .inl (cR, 6, .inr (.inr (.inr (.inr (fun _ => none)))))), (ou, .inl (cO, 1, .inr (.inl fo)))] sz)) 1 6 (va_A [(h, .inr (1, [.ref ro, .int 0, .ref ba, .ref ra, .ref su, .int 0, .ref tr])), (ro, .inl (cR, 6, .inr (.inr (.inr (.inr (fun _ => none)))))), (ou, .inl (cO, 1, .inr (.inl fo)))] sz) := by
  refine va_MetW (cc := cL_mend) (maxL := 6) (ret := (some .int)) (by decide) rfl ?_
  intro p e s m args below meth c s₁ B hml hv
  obtain ⟨rfl, hsz, hP, hK, hD0, hZX, hZT⟩ := hv
  have hx := B.exec
  have hb := B.bytes
  have hr := B.returns
  have hts := atoms_spec (ws := wsL_mend) B.pre
  have hown : s.vm.findClass RL = some m.cls := findClass_of_methodNamed B.named
  have hlocks := B.notSynchronized
  have htab := vx_table (x := yL_mend) B (hts (.codeWith yL_mend cL_mend 6 (some .int) [(0, 12, 15, 21), (0, 12, 19, 15)]) List.mem_cons_self)
  subst hsz
  have hD := hD0.self (sz := s.heap.size)
  generalize hAe : va_A [(h, .inr (1, [.ref ro, .int 0, .ref ba, .ref ra, .ref su, .int 0, .ref tr])), (ro, .inl (cR, 6, .inr (.inr (.inr (.inr (fun _ => none)))))), (ou, .inl (cO, 1, .inr (.inl fo)))] s.heap.size = A at hD hZT ⊢
  have hA : ∀ q : Nat, s.heap.size ≤ q → A q := fun q h => by rw [← hAe]; exact Or.inr h
  have hS : va_S A s.heap s.heap [] := va_S.rf
  have hP : va_P (dC, dI) vwCl [(h, .inr (1, [.ref ro, .int 0, .ref ba, .ref ra, .ref su, .int 0, .ref tr])), (ro, .inl (cR, 6, .inr (.inr (.inr (.inr (fun _ => none)))))), (ou, .inl (cO, 1, .inr (.inl fo)))] s.heap := hP
  have hl := lv_entry ([.ref h, .int a1, .int a2, .int a3, .ref ou]) (n := 6) (Nat.le_of_ble_eq_true rfl)
  rw [lg_entry_eq]
  generalize (lg_sl ([.ref h, .int a1, .int a2, .int a3, .ref ou]) ++ List.replicate (6 - (lg_sl ([.ref h, .int a1, .int a2, .int a3, .ref ou])).length) Slot.unset).toArray = ls at hl ⊢
  have hl : lv_has ls 6 [(0, .ref h), (1, .int a1), (2, .int a2), (3, .int a3), (4, .ref ou)] := hl
  refine lv_aload hx hb dL_mend_0 (lv_at hl 4 rfl) ?_
  refine lv_iconst (v := 0) hx hb dL_mend_2 (by decide) ?_
  refine lv_aload_n hx hb dL_mend_3 rfl (lv_at hl 0 rfl) ?_
  refine lv_iload_n hx hb dL_mend_4 rfl (lv_at hl 1 rfl) ?_
  refine lv_iload_n hx hb dL_mend_5 rfl (lv_at hl 2 rfl) ?_
  refine lv_iload_n hx hb dL_mend_6 rfl (lv_at hl 3 rfl) ?_
  have hPc := hP.sub (ws' := [(h, .inr (1, [.ref ro, .int 0, .ref ba, .ref ra, .ref su, .int 0, .ref tr])), (ro, .inl (cR, 6, .inr (.inr (.inr (.inr (fun _ => none))))))]) [0, 1] rfl
  have hKc := hK.sub (tys' := [(cR, .object RX0)]) [0] rfl
  have hDc := hD.sub (ws' := [(h, .inr (1, [.ref ro, .int 0, .ref ba, .ref ra, .ref su, .int 0, .ref tr])), (ro, .inl (cR, 6, .inr (.inr (.inr (.inr (fun _ => none))))))]) [0, 1] (by decide) rfl
  have hFc := va_free (wc := [(h, .inr (1, [.ref ro, .int 0, .ref ba, .ref ra, .ref su, .int 0, .ref tr])), (ro, .inl (cR, 6, .inr (.inr (.inr (.inr (fun _ => none))))))]) hD hS hA [0, 1] rfl
  refine vx_calli (vx_runV (As := [.int a1, .int a2, .int a3]) (rest := [.int 0, .ref ou]) ⟨hx, hb, hml, hown, hts⟩ (k1_mend l hst dC dI s.heap.size h ro ba ra su tr cR a1 a2 a3 ) (cwV 3 hts gL_mend_X1_mend rfl rfl rfl (by decide +kernel) ⟨Nat.le_of_ble_eq_true rfl, Nat.le_of_ble_eq_true rfl⟩) ⟨fun a U g mk q => by obtain ⟨q0, q1, qP, qK, qD, qX, qT⟩ := q; exact ⟨q0, q1, qP, va_K.moved (u := U) (U := U.calling g mk a) (Vm.Alike.refl U.vm) qK, qD, zX.calling qX, zTh.calling qT⟩, va_recv hKc hPc (ci := 1) (q0 := 0) rfl rfl, fun U hU hW => ⟨rfl, by rw [hU], by rw [hU]; exact hPc, va_K.moved hW.alike hKc, hDc.weaken (fun _ _ _ _ => trivial), zX.warm hW hZX, by rw [hU]; exact zTh.at hW hZT hS hFc⟩⟩ rfl rfl hl.1 rfl (lv_room (Nat.le_of_ble_eq_true rfl)) dL_mend_7 ⟨Nat.le_of_ble_eq_true rfl, Nat.le_of_ble_eq_true rfl⟩) hS (fun q _ h => hFc q h) hFc (fun q _ h => hFc q h) (fun E9 ce q9 u9 t H1 locs ht hvm hpx hBX hz1 hk1 hS hce hcv hcl => ?_) (fun r1 u t H1 locs ht hvm hr1 hB hz1 hk1 hS => ?_)
  · have hPe : va_P (dC, dI) vwCl [] H1 := fun k q h => by simp at h
    have hDe : ∀ A9 : Nat → Prop, va_D A9 [] := fun _ => ⟨fun i j p q h => by simp at h, fun k q h => by simp at h⟩
    obtain ⟨hP, hD⟩ := va_join (wr := [(ou, .inl (cO, 1, .inr (.inl fo)))]) (w1 := []) hP hD [0, 1] [2] rfl rfl (by decide) (by decide) hk1 hFc hPe (hDe _)
    generalize H1 = H at hP hS hce ⊢
    have hP : va_P (dC, dI) vwCl [(ou, .inl (cO, 1, .inr (.inl fo)))] H := hP
    have hD : va_D A [(ou, .inl (cO, 1, .inr (.inl fo)))] := hD
    refine vx_widen (k := 1) (n := 6) (Nat.le_of_ble_eq_true rfl) (Nat.le_of_ble_eq_true rfl) ?_
    obtain rfl := hBX
    refine vx_catch (name := "java/lang/IndexOutOfBoundsException") hown [] ⟨0, 12, 15, 21⟩ [⟨0, 12, 19, 15⟩] (by rw [htab]; rfl) (fun z hz => by simp at hz) (by decide) (by decide) (hts (.classLink RL 21 "java/lang/IndexOutOfBoundsException") (by decide +kernel)) (va_Nw.use rfl (zX_cB hZX)) hce hcv hcl ?_
    refine W.eq (g2 := F0 m 15 ls [.ref q9]) rfl ?_
    refine lv_astore (lv' := [(5, .ref q9), (0, .ref h), (1, .int a1), (2, .int a2), (3, .int a3), (4, .ref ou)]) hx hb dL_mend_15 hl (by decide) rfl (fun ls hl => ?_)
    refine lv_iconst (v := 1) hx hb dL_mend_17 (by decide) ?_
    have hP9 := hP.sub (ws' := [(ou, .inl (cO, 1, .inr (.inl fo)))]) [0] rfl
    have hD9 := hD.sub (ws' := [(ou, .inl (cO, 1, .inr (.inl fo)))]) [0] (by decide) rfl
    have hK9 := hK.sub (tys' := []) [] rfl
    refine W.widen (k := 1) (n := 6) (Nat.le_of_ble_eq_true rfl) (Nat.le_of_ble_eq_true rfl) ?_
    exact W.iret (v := 1) hx hb hr (fun t ht hW => ⟨⟨1, (fo), rfl, by (first | rfl | exact pk_uLs | assumption | (simp_all; done) | grind), ⟨by rw [ht]; exact hP9, va_K.moved hW.alike hK9, hD9⟩⟩, hS.F ht⟩) hS.2.2 dL_mend_18
  · skip
    exact (show False from hr1).elim

set_option maxHeartbeats 4000000 in
set_option maxRecDepth 100000 in
theorem kL_bind (l : Launch) (hst : l.stackTraces = false) (dC : Nat → ClassId) (dI : Nat → Nat → Nat) (sz : Nat) (h : Nat) (ro : Nat) (ba : Nat) (ra : Nat) (su : Nat) (tr : Nat) (cR : ClassId) (ou : Nat) (cO : ClassId) (fo : Nat → Int64) (a1 : Int32) : Met l yL_bind wsL_bind ({ frames := 7, cells := 1, slots := 6, locals := 104 }) (va_Pc [.ref h, .int a1, .ref ou] (fun U => U.heap.size = sz ∧ va_P (dC, dI) vwCl [(h, .inr (1, [.ref ro, .int 0, .ref ba, .ref ra, .ref su, .int 0, .ref tr])), (ro, .inl (cR, 6, .inr (.inr (.inr (.inr (fun _ => none)))))), (ou, .inl (cO, 1, .inr (.inl fo)))] U.heap ∧ va_K (dC, dI) vwCl [(cR, .object RX0), (cO, .long)] U ∧ va_D (fun _ => True) [(h, .inr (1, [.ref ro, .int 0, .ref ba, .ref ra, .ref su, .int 0, .ref tr])), (ro, .inl (cR, 6, .inr (.inr (.inr (.inr (fun _ => none)))))), (ou, .inl (cO, 1, .inr (.inl fo)))] ∧ zX U ∧ zTh (va_A [(h, .inr (1, [.ref ro, .int 0, .ref ba, .ref ra, .ref su, .int 0, .ref tr])), (ro, .inl (cR, 6, .inr (.inr (.inr (.inr (fun _ => none)))))), (ou, .inl (cO, 1, .inr (.inl fo)))] sz) U U.heap)) (va_Qi (fun (r : Int32) (u : (Nat → Int64)) => r = 1) (fun (u : (Nat → Int64)) (t : State) => va_P (dC, dI) vwCl [(ou, .inl (cO, 1, .inr (.inl u)))] t.heap ∧ va_K (dC, dI) vwCl [] t ∧ va_D (va_A [(h, .inr (1, [.ref ro, .int 0, .ref ba, .ref ra, .ref su, .int 0, .ref tr])), (ro, .inl (cR, 6, .inr (.inr (.inr (.inr (fun _ => none)))))), (ou, .inl (cO, 1, .inr (.inl fo)))] sz) [(ou, .inl (cO, 1, .inr (.inl u)))]) (va_A [(h, .inr (1, [.ref ro, .int 0, .ref ba, .ref ra, .ref su, .int 0, .ref tr])), (ro, .inl (cR, 6, .inr (.inr (.inr (.inr (fun _ => none)))))), (ou, .inl (cO, 1, .inr (.inl fo)))] sz)) 1 6 (va_A [(h, .inr (1, [.ref ro, .int 0, .ref ba, .ref ra, .ref su, .int 0, .ref tr])), (ro, .inl (cR, 6, .inr (.inr (.inr (.inr (fun _ => none)))))), (ou, .inl (cO, 1, .inr (.inl fo)))] sz) := by
  refine va_MetW (cc := cL_bind) (maxL := 4) (ret := (some .int)) (by decide) rfl ?_
  intro p e s m args below meth c s₁ B hml hv
  obtain ⟨rfl, hsz, hP, hK, hD0, hZX, hZT⟩ := hv
  have hx := B.exec
  have hb := B.bytes
  have hr := B.returns
  have hts := atoms_spec (ws := wsL_bind) B.pre
  have hown : s.vm.findClass RL = some m.cls := findClass_of_methodNamed B.named
  have hlocks := B.notSynchronized
  have htab := vx_table (x := yL_bind) B (hts (.codeWith yL_bind cL_bind 4 (some .int) [(0, 9, 12, 21), (0, 9, 15, 15)]) List.mem_cons_self)
  subst hsz
  have hD := hD0.self (sz := s.heap.size)
  generalize hAe : va_A [(h, .inr (1, [.ref ro, .int 0, .ref ba, .ref ra, .ref su, .int 0, .ref tr])), (ro, .inl (cR, 6, .inr (.inr (.inr (.inr (fun _ => none)))))), (ou, .inl (cO, 1, .inr (.inl fo)))] s.heap.size = A at hD hZT ⊢
  have hA : ∀ q : Nat, s.heap.size ≤ q → A q := fun q h => by rw [← hAe]; exact Or.inr h
  have hS : va_S A s.heap s.heap [] := va_S.rf
  have hP : va_P (dC, dI) vwCl [(h, .inr (1, [.ref ro, .int 0, .ref ba, .ref ra, .ref su, .int 0, .ref tr])), (ro, .inl (cR, 6, .inr (.inr (.inr (.inr (fun _ => none)))))), (ou, .inl (cO, 1, .inr (.inl fo)))] s.heap := hP
  have hl := lv_entry ([.ref h, .int a1, .ref ou]) (n := 4) (Nat.le_of_ble_eq_true rfl)
  rw [lg_entry_eq]
  generalize (lg_sl ([.ref h, .int a1, .ref ou]) ++ List.replicate (4 - (lg_sl ([.ref h, .int a1, .ref ou])).length) Slot.unset).toArray = ls at hl ⊢
  have hl : lv_has ls 4 [(0, .ref h), (1, .int a1), (2, .ref ou)] := hl
  refine lv_aload_n hx hb dL_bind_0 rfl (lv_at hl 2 rfl) ?_
  refine lv_iconst (v := 0) hx hb dL_bind_1 (by decide) ?_
  refine lv_aload_n hx hb dL_bind_2 rfl (lv_at hl 0 rfl) ?_
  refine lv_iload_n hx hb dL_bind_3 rfl (lv_at hl 1 rfl) ?_
  have hPc := hP.sub (ws' := [(h, .inr (1, [.ref ro, .int 0, .ref ba, .ref ra, .ref su, .int 0, .ref tr])), (ro, .inl (cR, 6, .inr (.inr (.inr (.inr (fun _ => none))))))]) [0, 1] rfl
  have hKc := hK.sub (tys' := [(cR, .object RX0)]) [0] rfl
  have hDc := hD.sub (ws' := [(h, .inr (1, [.ref ro, .int 0, .ref ba, .ref ra, .ref su, .int 0, .ref tr])), (ro, .inl (cR, 6, .inr (.inr (.inr (.inr (fun _ => none))))))]) [0, 1] (by decide) rfl
  have hFc := va_free (wc := [(h, .inr (1, [.ref ro, .int 0, .ref ba, .ref ra, .ref su, .int 0, .ref tr])), (ro, .inl (cR, 6, .inr (.inr (.inr (.inr (fun _ => none))))))]) hD hS hA [0, 1] rfl
  refine vx_calli (vx_runV (As := [.int a1]) (rest := [.int 0, .ref ou]) ⟨hx, hb, hml, hown, hts⟩ (k1_bind l hst dC dI s.heap.size h ro ba ra su tr cR a1 ) (cwV 1 hts gL_bind_X1_bind rfl rfl rfl (by decide +kernel) ⟨Nat.le_of_ble_eq_true rfl, Nat.le_of_ble_eq_true rfl⟩) ⟨fun a U g mk q => by obtain ⟨q0, q1, qP, qK, qD, qX, qT⟩ := q; exact ⟨q0, q1, qP, va_K.moved (u := U) (U := U.calling g mk a) (Vm.Alike.refl U.vm) qK, qD, zX.calling qX, zTh.calling qT⟩, va_recv hKc hPc (ci := 1) (q0 := 0) rfl rfl, fun U hU hW => ⟨rfl, by rw [hU], by rw [hU]; exact hPc, va_K.moved hW.alike hKc, hDc.weaken (fun _ _ _ _ => trivial), zX.warm hW hZX, by rw [hU]; exact zTh.at hW hZT hS hFc⟩⟩ rfl rfl hl.1 rfl (lv_room (Nat.le_of_ble_eq_true rfl)) dL_bind_4 ⟨Nat.le_of_ble_eq_true rfl, Nat.le_of_ble_eq_true rfl⟩) hS (fun q _ h => hFc q h) hFc (fun q _ h => hFc q h) (fun E9 ce q9 u9 t H1 locs ht hvm hpx hBX hz1 hk1 hS hce hcv hcl => ?_) (fun r1 u t H1 locs ht hvm hr1 hB hz1 hk1 hS => ?_)
  · have hPe : va_P (dC, dI) vwCl [] H1 := fun k q h => by simp at h
    have hDe : ∀ A9 : Nat → Prop, va_D A9 [] := fun _ => ⟨fun i j p q h => by simp at h, fun k q h => by simp at h⟩
    obtain ⟨hP, hD⟩ := va_join (wr := [(ou, .inl (cO, 1, .inr (.inl fo)))]) (w1 := []) hP hD [0, 1] [2] rfl rfl (by decide) (by decide) hk1 hFc hPe (hDe _)
    generalize H1 = H at hP hS hce ⊢
    have hP : va_P (dC, dI) vwCl [(ou, .inl (cO, 1, .inr (.inl fo)))] H := hP
    have hD : va_D A [(ou, .inl (cO, 1, .inr (.inl fo)))] := hD
    refine vx_widen (k := 1) (n := 6) (Nat.le_of_ble_eq_true rfl) (Nat.le_of_ble_eq_true rfl) ?_
    obtain rfl := hBX
    refine vx_catch (name := "java/lang/IndexOutOfBoundsException") hown [] ⟨0, 9, 12, 21⟩ [⟨0, 9, 15, 15⟩] (by rw [htab]; rfl) (fun z hz => by simp at hz) (by decide) (by decide) (hts (.classLink RL 21 "java/lang/IndexOutOfBoundsException") (by decide +kernel)) (va_Nw.use rfl (zX_cB hZX)) hce hcv hcl ?_
    refine W.eq (g2 := F0 m 12 ls [.ref q9]) rfl ?_
    refine lv_astore_n (lv' := [(3, .ref q9), (0, .ref h), (1, .int a1), (2, .ref ou)]) hx hb dL_bind_12 rfl hl (by decide) rfl (fun ls hl => ?_)
    refine lv_iconst (v := 1) hx hb dL_bind_13 (by decide) ?_
    have hP9 := hP.sub (ws' := [(ou, .inl (cO, 1, .inr (.inl fo)))]) [0] rfl
    have hD9 := hD.sub (ws' := [(ou, .inl (cO, 1, .inr (.inl fo)))]) [0] (by decide) rfl
    have hK9 := hK.sub (tys' := []) [] rfl
    refine W.widen (k := 1) (n := 6) (Nat.le_of_ble_eq_true rfl) (Nat.le_of_ble_eq_true rfl) ?_
    exact W.iret (v := 1) hx hb hr (fun t ht hW => ⟨⟨1, (fo), rfl, by (first | rfl | exact pk_uLs | assumption | (simp_all; done) | grind), ⟨by rw [ht]; exact hP9, va_K.moved hW.alike hK9, hD9⟩⟩, hS.F ht⟩) hS.2.2 dL_bind_14
  · skip
    exact (show False from hr1).elim

set_option maxHeartbeats 4000000 in
set_option maxRecDepth 100000 in
theorem kL_yealm (l : Launch) (hst : l.stackTraces = false) (dC : Nat → ClassId) (dI : Nat → Nat → Nat) (sz : Nat) (h : Nat) (ro : Nat) (ba : Nat) (ra : Nat) (su : Nat) (tr : Nat) (cR : ClassId) (ou : Nat) (cO : ClassId) (fo : Nat → Int64) (a1 : Int32) (a2 : Int32) (a3 : Int32) (a4 : Int32) : Met l yL_yealm wsL_yealm ({ frames := 7, cells := 1, slots := 6, locals := 107 }) (va_Pc [.ref h, .int a1, .int a2, .int a3, .int a4, .ref ou] (fun U => U.heap.size = sz ∧ va_P (dC, dI) vwCl [(h, .inr (1, [.ref ro, .int 0, .ref ba, .ref ra, .ref su, .int 0, .ref tr])), (ro, .inl (cR, 6, .inr (.inr (.inr (.inr (fun _ => none)))))), (ou, .inl (cO, 1, .inr (.inl fo)))] U.heap ∧ va_K (dC, dI) vwCl [(cR, .object RX0), (cO, .long)] U ∧ va_D (fun _ => True) [(h, .inr (1, [.ref ro, .int 0, .ref ba, .ref ra, .ref su, .int 0, .ref tr])), (ro, .inl (cR, 6, .inr (.inr (.inr (.inr (fun _ => none)))))), (ou, .inl (cO, 1, .inr (.inl fo)))] ∧ zX U ∧ zTh (va_A [(h, .inr (1, [.ref ro, .int 0, .ref ba, .ref ra, .ref su, .int 0, .ref tr])), (ro, .inl (cR, 6, .inr (.inr (.inr (.inr (fun _ => none)))))), (ou, .inl (cO, 1, .inr (.inl fo)))] sz) U U.heap)) (va_Qi (fun (r : Int32) (u : (Nat → Int64)) => r = 1) (fun (u : (Nat → Int64)) (t : State) => va_P (dC, dI) vwCl [(ou, .inl (cO, 1, .inr (.inl u)))] t.heap ∧ va_K (dC, dI) vwCl [] t ∧ va_D (va_A [(h, .inr (1, [.ref ro, .int 0, .ref ba, .ref ra, .ref su, .int 0, .ref tr])), (ro, .inl (cR, 6, .inr (.inr (.inr (.inr (fun _ => none)))))), (ou, .inl (cO, 1, .inr (.inl fo)))] sz) [(ou, .inl (cO, 1, .inr (.inl u)))]) (va_A [(h, .inr (1, [.ref ro, .int 0, .ref ba, .ref ra, .ref su, .int 0, .ref tr])), (ro, .inl (cR, 6, .inr (.inr (.inr (.inr (fun _ => none)))))), (ou, .inl (cO, 1, .inr (.inl fo)))] sz)) 1 6 (va_A [(h, .inr (1, [.ref ro, .int 0, .ref ba, .ref ra, .ref su, .int 0, .ref tr])), (ro, .inl (cR, 6, .inr (.inr (.inr (.inr (fun _ => none)))))), (ou, .inl (cO, 1, .inr (.inl fo)))] sz) := by
  refine va_MetW (cc := cL_yealm) (maxL := 7) (ret := (some .int)) (by decide) rfl ?_
  intro p e s m args below meth c s₁ B hml hv
  obtain ⟨rfl, hsz, hP, hK, hD0, hZX, hZT⟩ := hv
  have hx := B.exec
  have hb := B.bytes
  have hr := B.returns
  have hts := atoms_spec (ws := wsL_yealm) B.pre
  have hown : s.vm.findClass RL = some m.cls := findClass_of_methodNamed B.named
  have hlocks := B.notSynchronized
  have htab := vx_table (x := yL_yealm) B (hts (.codeWith yL_yealm cL_yealm 7 (some .int) [(0, 14, 17, 21)]) List.mem_cons_self)
  subst hsz
  have hD := hD0.self (sz := s.heap.size)
  generalize hAe : va_A [(h, .inr (1, [.ref ro, .int 0, .ref ba, .ref ra, .ref su, .int 0, .ref tr])), (ro, .inl (cR, 6, .inr (.inr (.inr (.inr (fun _ => none)))))), (ou, .inl (cO, 1, .inr (.inl fo)))] s.heap.size = A at hD hZT ⊢
  have hA : ∀ q : Nat, s.heap.size ≤ q → A q := fun q h => by rw [← hAe]; exact Or.inr h
  have hS : va_S A s.heap s.heap [] := va_S.rf
  have hP : va_P (dC, dI) vwCl [(h, .inr (1, [.ref ro, .int 0, .ref ba, .ref ra, .ref su, .int 0, .ref tr])), (ro, .inl (cR, 6, .inr (.inr (.inr (.inr (fun _ => none)))))), (ou, .inl (cO, 1, .inr (.inl fo)))] s.heap := hP
  have hl := lv_entry ([.ref h, .int a1, .int a2, .int a3, .int a4, .ref ou]) (n := 7) (Nat.le_of_ble_eq_true rfl)
  rw [lg_entry_eq]
  generalize (lg_sl ([.ref h, .int a1, .int a2, .int a3, .int a4, .ref ou]) ++ List.replicate (7 - (lg_sl ([.ref h, .int a1, .int a2, .int a3, .int a4, .ref ou])).length) Slot.unset).toArray = ls at hl ⊢
  have hl : lv_has ls 7 [(0, .ref h), (1, .int a1), (2, .int a2), (3, .int a3), (4, .int a4), (5, .ref ou)] := hl
  refine lv_aload hx hb dL_yealm_0 (lv_at hl 5 rfl) ?_
  refine lv_iconst (v := 0) hx hb dL_yealm_2 (by decide) ?_
  refine lv_aload_n hx hb dL_yealm_3 rfl (lv_at hl 0 rfl) ?_
  refine lv_iload_n hx hb dL_yealm_4 rfl (lv_at hl 1 rfl) ?_
  refine lv_iload_n hx hb dL_yealm_5 rfl (lv_at hl 2 rfl) ?_
  refine lv_iload_n hx hb dL_yealm_6 rfl (lv_at hl 3 rfl) ?_
  refine lv_iload hx hb dL_yealm_7 (lv_at hl 4 rfl) ?_
  have hPc := hP.sub (ws' := [(h, .inr (1, [.ref ro, .int 0, .ref ba, .ref ra, .ref su, .int 0, .ref tr])), (ro, .inl (cR, 6, .inr (.inr (.inr (.inr (fun _ => none))))))]) [0, 1] rfl
  have hKc := hK.sub (tys' := [(cR, .object RX0)]) [0] rfl
  have hDc := hD.sub (ws' := [(h, .inr (1, [.ref ro, .int 0, .ref ba, .ref ra, .ref su, .int 0, .ref tr])), (ro, .inl (cR, 6, .inr (.inr (.inr (.inr (fun _ => none))))))]) [0, 1] (by decide) rfl
  have hFc := va_free (wc := [(h, .inr (1, [.ref ro, .int 0, .ref ba, .ref ra, .ref su, .int 0, .ref tr])), (ro, .inl (cR, 6, .inr (.inr (.inr (.inr (fun _ => none))))))]) hD hS hA [0, 1] rfl
  refine vx_calli (vx_runV (As := [.int a1, .int a2, .int a3, .int a4]) (rest := [.int 0, .ref ou]) ⟨hx, hb, hml, hown, hts⟩ (k1_yealm l hst dC dI s.heap.size h ro ba ra su tr cR a1 a2 a3 a4 ) (cwV 4 hts gL_yealm_X1_yealm rfl rfl rfl (by decide +kernel) ⟨Nat.le_of_ble_eq_true rfl, Nat.le_of_ble_eq_true rfl⟩) ⟨fun a U g mk q => by obtain ⟨q0, q1, qP, qK, qD, qX, qT⟩ := q; exact ⟨q0, q1, qP, va_K.moved (u := U) (U := U.calling g mk a) (Vm.Alike.refl U.vm) qK, qD, zX.calling qX, zTh.calling qT⟩, va_recv hKc hPc (ci := 1) (q0 := 0) rfl rfl, fun U hU hW => ⟨rfl, by rw [hU], by rw [hU]; exact hPc, va_K.moved hW.alike hKc, hDc.weaken (fun _ _ _ _ => trivial), zX.warm hW hZX, by rw [hU]; exact zTh.at hW hZT hS hFc⟩⟩ rfl rfl hl.1 rfl (lv_room (Nat.le_of_ble_eq_true rfl)) dL_yealm_9 ⟨Nat.le_of_ble_eq_true rfl, Nat.le_of_ble_eq_true rfl⟩) hS (fun q _ h => hFc q h) hFc (fun q _ h => hFc q h) (fun E9 ce q9 u9 t H1 locs ht hvm hpx hBX hz1 hk1 hS hce hcv hcl => ?_) (fun r1 u t H1 locs ht hvm hr1 hB hz1 hk1 hS => ?_)
  · have hPe : va_P (dC, dI) vwCl [] H1 := fun k q h => by simp at h
    have hDe : ∀ A9 : Nat → Prop, va_D A9 [] := fun _ => ⟨fun i j p q h => by simp at h, fun k q h => by simp at h⟩
    obtain ⟨hP, hD⟩ := va_join (wr := [(ou, .inl (cO, 1, .inr (.inl fo)))]) (w1 := []) hP hD [0, 1] [2] rfl rfl (by decide) (by decide) hk1 hFc hPe (hDe _)
    generalize H1 = H at hP hS hce ⊢
    have hP : va_P (dC, dI) vwCl [(ou, .inl (cO, 1, .inr (.inl fo)))] H := hP
    have hD : va_D A [(ou, .inl (cO, 1, .inr (.inl fo)))] := hD
    refine vx_widen (k := 1) (n := 6) (Nat.le_of_ble_eq_true rfl) (Nat.le_of_ble_eq_true rfl) ?_
    obtain rfl := hBX
    refine vx_catch (name := "java/lang/IndexOutOfBoundsException") hown [] ⟨0, 14, 17, 21⟩ [] (by rw [htab]; rfl) (fun z hz => by simp at hz) (by decide) (by decide) (hts (.classLink RL 21 "java/lang/IndexOutOfBoundsException") (by decide +kernel)) (va_Nw.use rfl (zX_cB hZX)) hce hcv hcl ?_
    refine W.eq (g2 := F0 m 17 ls [.ref q9]) rfl ?_
    refine lv_astore (lv' := [(6, .ref q9), (0, .ref h), (1, .int a1), (2, .int a2), (3, .int a3), (4, .int a4), (5, .ref ou)]) hx hb dL_yealm_17 hl (by decide) rfl (fun ls hl => ?_)
    refine lv_iconst (v := 1) hx hb dL_yealm_19 (by decide) ?_
    have hP9 := hP.sub (ws' := [(ou, .inl (cO, 1, .inr (.inl fo)))]) [0] rfl
    have hD9 := hD.sub (ws' := [(ou, .inl (cO, 1, .inr (.inl fo)))]) [0] (by decide) rfl
    have hK9 := hK.sub (tys' := []) [] rfl
    refine W.widen (k := 1) (n := 6) (Nat.le_of_ble_eq_true rfl) (Nat.le_of_ble_eq_true rfl) ?_
    exact W.iret (v := 1) hx hb hr (fun t ht hW => ⟨⟨1, (fo), rfl, by (first | rfl | exact pk_uLs | assumption | (simp_all; done) | grind), ⟨by rw [ht]; exact hP9, va_K.moved hW.alike hK9, hD9⟩⟩, hS.F ht⟩) hS.2.2 dL_yealm_20
  · skip
    exact (show False from hr1).elim

set_option maxHeartbeats 4000000 in
set_option maxRecDepth 100000 in
theorem kL_roof (l : Launch) (hst : l.stackTraces = false) (dC : Nat → ClassId) (dI : Nat → Nat → Nat) (sz : Nat) (h : Nat) (ro : Nat) (ba : Nat) (ra : Nat) (su : Nat) (tr : Nat) (cR : ClassId) (ou : Nat) (cO : ClassId) (fo : Nat → Int64) (a1 : Int32) (a2 : Int32) : Met l yL_roof wsL_roof ({ frames := 7, cells := 1, slots := 6, locals := 105 }) (va_Pc [.ref h, .int a1, .int a2, .ref ou] (fun U => U.heap.size = sz ∧ va_P (dC, dI) vwCl [(h, .inr (1, [.ref ro, .int 0, .ref ba, .ref ra, .ref su, .int 0, .ref tr])), (ro, .inl (cR, 6, .inr (.inr (.inr (.inr (fun _ => none)))))), (ou, .inl (cO, 1, .inr (.inl fo)))] U.heap ∧ va_K (dC, dI) vwCl [(cR, .object RX0), (cO, .long)] U ∧ va_D (fun _ => True) [(h, .inr (1, [.ref ro, .int 0, .ref ba, .ref ra, .ref su, .int 0, .ref tr])), (ro, .inl (cR, 6, .inr (.inr (.inr (.inr (fun _ => none)))))), (ou, .inl (cO, 1, .inr (.inl fo)))] ∧ zX U ∧ zTh (va_A [(h, .inr (1, [.ref ro, .int 0, .ref ba, .ref ra, .ref su, .int 0, .ref tr])), (ro, .inl (cR, 6, .inr (.inr (.inr (.inr (fun _ => none)))))), (ou, .inl (cO, 1, .inr (.inl fo)))] sz) U U.heap)) (va_Qi (fun (r : Int32) (u : (Nat → Int64)) => r = 1) (fun (u : (Nat → Int64)) (t : State) => va_P (dC, dI) vwCl [(ou, .inl (cO, 1, .inr (.inl u)))] t.heap ∧ va_K (dC, dI) vwCl [] t ∧ va_D (va_A [(h, .inr (1, [.ref ro, .int 0, .ref ba, .ref ra, .ref su, .int 0, .ref tr])), (ro, .inl (cR, 6, .inr (.inr (.inr (.inr (fun _ => none)))))), (ou, .inl (cO, 1, .inr (.inl fo)))] sz) [(ou, .inl (cO, 1, .inr (.inl u)))]) (va_A [(h, .inr (1, [.ref ro, .int 0, .ref ba, .ref ra, .ref su, .int 0, .ref tr])), (ro, .inl (cR, 6, .inr (.inr (.inr (.inr (fun _ => none)))))), (ou, .inl (cO, 1, .inr (.inl fo)))] sz)) 1 6 (va_A [(h, .inr (1, [.ref ro, .int 0, .ref ba, .ref ra, .ref su, .int 0, .ref tr])), (ro, .inl (cR, 6, .inr (.inr (.inr (.inr (fun _ => none)))))), (ou, .inl (cO, 1, .inr (.inl fo)))] sz) := by
  refine va_MetW (cc := cL_roof) (maxL := 5) (ret := (some .int)) (by decide) rfl ?_
  intro p e s m args below meth c s₁ B hml hv
  obtain ⟨rfl, hsz, hP, hK, hD0, hZX, hZT⟩ := hv
  have hx := B.exec
  have hb := B.bytes
  have hr := B.returns
  have hts := atoms_spec (ws := wsL_roof) B.pre
  have hown : s.vm.findClass RL = some m.cls := findClass_of_methodNamed B.named
  have hlocks := B.notSynchronized
  have htab := vx_table (x := yL_roof) B (hts (.codeWith yL_roof cL_roof 5 (some .int) [(0, 10, 13, 21)]) List.mem_cons_self)
  subst hsz
  have hD := hD0.self (sz := s.heap.size)
  generalize hAe : va_A [(h, .inr (1, [.ref ro, .int 0, .ref ba, .ref ra, .ref su, .int 0, .ref tr])), (ro, .inl (cR, 6, .inr (.inr (.inr (.inr (fun _ => none)))))), (ou, .inl (cO, 1, .inr (.inl fo)))] s.heap.size = A at hD hZT ⊢
  have hA : ∀ q : Nat, s.heap.size ≤ q → A q := fun q h => by rw [← hAe]; exact Or.inr h
  have hS : va_S A s.heap s.heap [] := va_S.rf
  have hP : va_P (dC, dI) vwCl [(h, .inr (1, [.ref ro, .int 0, .ref ba, .ref ra, .ref su, .int 0, .ref tr])), (ro, .inl (cR, 6, .inr (.inr (.inr (.inr (fun _ => none)))))), (ou, .inl (cO, 1, .inr (.inl fo)))] s.heap := hP
  have hl := lv_entry ([.ref h, .int a1, .int a2, .ref ou]) (n := 5) (Nat.le_of_ble_eq_true rfl)
  rw [lg_entry_eq]
  generalize (lg_sl ([.ref h, .int a1, .int a2, .ref ou]) ++ List.replicate (5 - (lg_sl ([.ref h, .int a1, .int a2, .ref ou])).length) Slot.unset).toArray = ls at hl ⊢
  have hl : lv_has ls 5 [(0, .ref h), (1, .int a1), (2, .int a2), (3, .ref ou)] := hl
  refine lv_aload_n hx hb dL_roof_0 rfl (lv_at hl 3 rfl) ?_
  refine lv_iconst (v := 0) hx hb dL_roof_1 (by decide) ?_
  refine lv_aload_n hx hb dL_roof_2 rfl (lv_at hl 0 rfl) ?_
  refine lv_iload_n hx hb dL_roof_3 rfl (lv_at hl 1 rfl) ?_
  refine lv_iload_n hx hb dL_roof_4 rfl (lv_at hl 2 rfl) ?_
  have hPc := hP.sub (ws' := [(h, .inr (1, [.ref ro, .int 0, .ref ba, .ref ra, .ref su, .int 0, .ref tr])), (ro, .inl (cR, 6, .inr (.inr (.inr (.inr (fun _ => none))))))]) [0, 1] rfl
  have hKc := hK.sub (tys' := [(cR, .object RX0)]) [0] rfl
  have hDc := hD.sub (ws' := [(h, .inr (1, [.ref ro, .int 0, .ref ba, .ref ra, .ref su, .int 0, .ref tr])), (ro, .inl (cR, 6, .inr (.inr (.inr (.inr (fun _ => none))))))]) [0, 1] (by decide) rfl
  have hFc := va_free (wc := [(h, .inr (1, [.ref ro, .int 0, .ref ba, .ref ra, .ref su, .int 0, .ref tr])), (ro, .inl (cR, 6, .inr (.inr (.inr (.inr (fun _ => none))))))]) hD hS hA [0, 1] rfl
  refine vx_calli (vx_runV (As := [.int a1, .int a2]) (rest := [.int 0, .ref ou]) ⟨hx, hb, hml, hown, hts⟩ (k1_roof l hst dC dI s.heap.size h ro ba ra su tr cR a1 a2 ) (cwV 2 hts gL_roof_X1_roof rfl rfl rfl (by decide +kernel) ⟨Nat.le_of_ble_eq_true rfl, Nat.le_of_ble_eq_true rfl⟩) ⟨fun a U g mk q => by obtain ⟨q0, q1, qP, qK, qD, qX, qT⟩ := q; exact ⟨q0, q1, qP, va_K.moved (u := U) (U := U.calling g mk a) (Vm.Alike.refl U.vm) qK, qD, zX.calling qX, zTh.calling qT⟩, va_recv hKc hPc (ci := 1) (q0 := 0) rfl rfl, fun U hU hW => ⟨rfl, by rw [hU], by rw [hU]; exact hPc, va_K.moved hW.alike hKc, hDc.weaken (fun _ _ _ _ => trivial), zX.warm hW hZX, by rw [hU]; exact zTh.at hW hZT hS hFc⟩⟩ rfl rfl hl.1 rfl (lv_room (Nat.le_of_ble_eq_true rfl)) dL_roof_5 ⟨Nat.le_of_ble_eq_true rfl, Nat.le_of_ble_eq_true rfl⟩) hS (fun q _ h => hFc q h) hFc (fun q _ h => hFc q h) (fun E9 ce q9 u9 t H1 locs ht hvm hpx hBX hz1 hk1 hS hce hcv hcl => ?_) (fun r1 u t H1 locs ht hvm hr1 hB hz1 hk1 hS => ?_)
  · have hPe : va_P (dC, dI) vwCl [] H1 := fun k q h => by simp at h
    have hDe : ∀ A9 : Nat → Prop, va_D A9 [] := fun _ => ⟨fun i j p q h => by simp at h, fun k q h => by simp at h⟩
    obtain ⟨hP, hD⟩ := va_join (wr := [(ou, .inl (cO, 1, .inr (.inl fo)))]) (w1 := []) hP hD [0, 1] [2] rfl rfl (by decide) (by decide) hk1 hFc hPe (hDe _)
    generalize H1 = H at hP hS hce ⊢
    have hP : va_P (dC, dI) vwCl [(ou, .inl (cO, 1, .inr (.inl fo)))] H := hP
    have hD : va_D A [(ou, .inl (cO, 1, .inr (.inl fo)))] := hD
    refine vx_widen (k := 1) (n := 6) (Nat.le_of_ble_eq_true rfl) (Nat.le_of_ble_eq_true rfl) ?_
    obtain rfl := hBX
    refine vx_catch (name := "java/lang/IndexOutOfBoundsException") hown [] ⟨0, 10, 13, 21⟩ [] (by rw [htab]; rfl) (fun z hz => by simp at hz) (by decide) (by decide) (hts (.classLink RL 21 "java/lang/IndexOutOfBoundsException") (by decide +kernel)) (va_Nw.use rfl (zX_cB hZX)) hce hcv hcl ?_
    refine W.eq (g2 := F0 m 13 ls [.ref q9]) rfl ?_
    refine lv_astore (lv' := [(4, .ref q9), (0, .ref h), (1, .int a1), (2, .int a2), (3, .ref ou)]) hx hb dL_roof_13 hl (by decide) rfl (fun ls hl => ?_)
    refine lv_iconst (v := 1) hx hb dL_roof_15 (by decide) ?_
    have hP9 := hP.sub (ws' := [(ou, .inl (cO, 1, .inr (.inl fo)))]) [0] rfl
    have hD9 := hD.sub (ws' := [(ou, .inl (cO, 1, .inr (.inl fo)))]) [0] (by decide) rfl
    have hK9 := hK.sub (tys' := []) [] rfl
    refine W.widen (k := 1) (n := 6) (Nat.le_of_ble_eq_true rfl) (Nat.le_of_ble_eq_true rfl) ?_
    exact W.iret (v := 1) hx hb hr (fun t ht hW => ⟨⟨1, (fo), rfl, by (first | rfl | exact pk_uLs | assumption | (simp_all; done) | grind), ⟨by rw [ht]; exact hP9, va_K.moved hW.alike hK9, hD9⟩⟩, hS.F ht⟩) hS.2.2 dL_roof_16
  · skip
    exact (show False from hr1).elim

set_option maxHeartbeats 4000000 in
set_option maxRecDepth 100000 in
theorem kL_tears (l : Launch) (hst : l.stackTraces = false) (dC : Nat → ClassId) (dI : Nat → Nat → Nat) (sz : Nat) (h : Nat) (ro : Nat) (ba : Nat) (ra : Nat) (su : Nat) (tr : Nat) (cR : ClassId) (ou : Nat) (cO : ClassId) (fo : Nat → Int64) (a1 : Int32) (a2 : Int32) : Met l yL_tears wsL_tears ({ frames := 7, cells := 1, slots := 6, locals := 105 }) (va_Pc [.ref h, .int a1, .int a2, .ref ou] (fun U => U.heap.size = sz ∧ va_P (dC, dI) vwCl [(h, .inr (1, [.ref ro, .int 0, .ref ba, .ref ra, .ref su, .int 0, .ref tr])), (ro, .inl (cR, 6, .inr (.inr (.inr (.inr (fun _ => none)))))), (ou, .inl (cO, 1, .inr (.inl fo)))] U.heap ∧ va_K (dC, dI) vwCl [(cR, .object RX0), (cO, .long)] U ∧ va_D (fun _ => True) [(h, .inr (1, [.ref ro, .int 0, .ref ba, .ref ra, .ref su, .int 0, .ref tr])), (ro, .inl (cR, 6, .inr (.inr (.inr (.inr (fun _ => none)))))), (ou, .inl (cO, 1, .inr (.inl fo)))] ∧ zX U ∧ zTh (va_A [(h, .inr (1, [.ref ro, .int 0, .ref ba, .ref ra, .ref su, .int 0, .ref tr])), (ro, .inl (cR, 6, .inr (.inr (.inr (.inr (fun _ => none)))))), (ou, .inl (cO, 1, .inr (.inl fo)))] sz) U U.heap)) (va_Qi (fun (r : Int32) (u : (Nat → Int64)) => r = 1) (fun (u : (Nat → Int64)) (t : State) => va_P (dC, dI) vwCl [(ou, .inl (cO, 1, .inr (.inl u)))] t.heap ∧ va_K (dC, dI) vwCl [] t ∧ va_D (va_A [(h, .inr (1, [.ref ro, .int 0, .ref ba, .ref ra, .ref su, .int 0, .ref tr])), (ro, .inl (cR, 6, .inr (.inr (.inr (.inr (fun _ => none)))))), (ou, .inl (cO, 1, .inr (.inl fo)))] sz) [(ou, .inl (cO, 1, .inr (.inl u)))]) (va_A [(h, .inr (1, [.ref ro, .int 0, .ref ba, .ref ra, .ref su, .int 0, .ref tr])), (ro, .inl (cR, 6, .inr (.inr (.inr (.inr (fun _ => none)))))), (ou, .inl (cO, 1, .inr (.inl fo)))] sz)) 1 6 (va_A [(h, .inr (1, [.ref ro, .int 0, .ref ba, .ref ra, .ref su, .int 0, .ref tr])), (ro, .inl (cR, 6, .inr (.inr (.inr (.inr (fun _ => none)))))), (ou, .inl (cO, 1, .inr (.inl fo)))] sz) := by
  refine va_MetW (cc := cL_tears) (maxL := 5) (ret := (some .int)) (by decide) rfl ?_
  intro p e s m args below meth c s₁ B hml hv
  obtain ⟨rfl, hsz, hP, hK, hD0, hZX, hZT⟩ := hv
  have hx := B.exec
  have hb := B.bytes
  have hr := B.returns
  have hts := atoms_spec (ws := wsL_tears) B.pre
  have hown : s.vm.findClass RL = some m.cls := findClass_of_methodNamed B.named
  have hlocks := B.notSynchronized
  have htab := vx_table (x := yL_tears) B (hts (.codeWith yL_tears cL_tears 5 (some .int) [(0, 10, 13, 21), (0, 10, 17, 13)]) List.mem_cons_self)
  subst hsz
  have hD := hD0.self (sz := s.heap.size)
  generalize hAe : va_A [(h, .inr (1, [.ref ro, .int 0, .ref ba, .ref ra, .ref su, .int 0, .ref tr])), (ro, .inl (cR, 6, .inr (.inr (.inr (.inr (fun _ => none)))))), (ou, .inl (cO, 1, .inr (.inl fo)))] s.heap.size = A at hD hZT ⊢
  have hA : ∀ q : Nat, s.heap.size ≤ q → A q := fun q h => by rw [← hAe]; exact Or.inr h
  have hS : va_S A s.heap s.heap [] := va_S.rf
  have hP : va_P (dC, dI) vwCl [(h, .inr (1, [.ref ro, .int 0, .ref ba, .ref ra, .ref su, .int 0, .ref tr])), (ro, .inl (cR, 6, .inr (.inr (.inr (.inr (fun _ => none)))))), (ou, .inl (cO, 1, .inr (.inl fo)))] s.heap := hP
  have hl := lv_entry ([.ref h, .int a1, .int a2, .ref ou]) (n := 5) (Nat.le_of_ble_eq_true rfl)
  rw [lg_entry_eq]
  generalize (lg_sl ([.ref h, .int a1, .int a2, .ref ou]) ++ List.replicate (5 - (lg_sl ([.ref h, .int a1, .int a2, .ref ou])).length) Slot.unset).toArray = ls at hl ⊢
  have hl : lv_has ls 5 [(0, .ref h), (1, .int a1), (2, .int a2), (3, .ref ou)] := hl
  refine lv_aload_n hx hb dL_tears_0 rfl (lv_at hl 3 rfl) ?_
  refine lv_iconst (v := 0) hx hb dL_tears_1 (by decide) ?_
  refine lv_aload_n hx hb dL_tears_2 rfl (lv_at hl 0 rfl) ?_
  refine lv_iload_n hx hb dL_tears_3 rfl (lv_at hl 1 rfl) ?_
  refine lv_iload_n hx hb dL_tears_4 rfl (lv_at hl 2 rfl) ?_
  have hPc := hP.sub (ws' := [(h, .inr (1, [.ref ro, .int 0, .ref ba, .ref ra, .ref su, .int 0, .ref tr])), (ro, .inl (cR, 6, .inr (.inr (.inr (.inr (fun _ => none))))))]) [0, 1] rfl
  have hKc := hK.sub (tys' := [(cR, .object RX0)]) [0] rfl
  have hDc := hD.sub (ws' := [(h, .inr (1, [.ref ro, .int 0, .ref ba, .ref ra, .ref su, .int 0, .ref tr])), (ro, .inl (cR, 6, .inr (.inr (.inr (.inr (fun _ => none))))))]) [0, 1] (by decide) rfl
  have hFc := va_free (wc := [(h, .inr (1, [.ref ro, .int 0, .ref ba, .ref ra, .ref su, .int 0, .ref tr])), (ro, .inl (cR, 6, .inr (.inr (.inr (.inr (fun _ => none))))))]) hD hS hA [0, 1] rfl
  refine vx_calli (vx_runV (As := [.int a1, .int a2]) (rest := [.int 0, .ref ou]) ⟨hx, hb, hml, hown, hts⟩ (k1_tears l hst dC dI s.heap.size h ro ba ra su tr cR a1 a2 ) (cwV 2 hts gL_tears_X1_tears rfl rfl rfl (by decide +kernel) ⟨Nat.le_of_ble_eq_true rfl, Nat.le_of_ble_eq_true rfl⟩) ⟨fun a U g mk q => by obtain ⟨q0, q1, qP, qK, qD, qX, qT⟩ := q; exact ⟨q0, q1, qP, va_K.moved (u := U) (U := U.calling g mk a) (Vm.Alike.refl U.vm) qK, qD, zX.calling qX, zTh.calling qT⟩, va_recv hKc hPc (ci := 1) (q0 := 0) rfl rfl, fun U hU hW => ⟨rfl, by rw [hU], by rw [hU]; exact hPc, va_K.moved hW.alike hKc, hDc.weaken (fun _ _ _ _ => trivial), zX.warm hW hZX, by rw [hU]; exact zTh.at hW hZT hS hFc⟩⟩ rfl rfl hl.1 rfl (lv_room (Nat.le_of_ble_eq_true rfl)) dL_tears_5 ⟨Nat.le_of_ble_eq_true rfl, Nat.le_of_ble_eq_true rfl⟩) hS (fun q _ h => hFc q h) hFc (fun q _ h => hFc q h) (fun E9 ce q9 u9 t H1 locs ht hvm hpx hBX hz1 hk1 hS hce hcv hcl => ?_) (fun r1 u t H1 locs ht hvm hr1 hB hz1 hk1 hS => ?_)
  · have hPe : va_P (dC, dI) vwCl [] H1 := fun k q h => by simp at h
    have hDe : ∀ A9 : Nat → Prop, va_D A9 [] := fun _ => ⟨fun i j p q h => by simp at h, fun k q h => by simp at h⟩
    obtain ⟨hP, hD⟩ := va_join (wr := [(ou, .inl (cO, 1, .inr (.inl fo)))]) (w1 := []) hP hD [0, 1] [2] rfl rfl (by decide) (by decide) hk1 hFc hPe (hDe _)
    generalize H1 = H at hP hS hce ⊢
    have hP : va_P (dC, dI) vwCl [(ou, .inl (cO, 1, .inr (.inl fo)))] H := hP
    have hD : va_D A [(ou, .inl (cO, 1, .inr (.inl fo)))] := hD
    refine vx_widen (k := 1) (n := 6) (Nat.le_of_ble_eq_true rfl) (Nat.le_of_ble_eq_true rfl) ?_
    obtain rfl := hBX
    refine vx_catch (name := "java/lang/IndexOutOfBoundsException") hown [] ⟨0, 10, 13, 21⟩ [⟨0, 10, 17, 13⟩] (by rw [htab]; rfl) (fun z hz => by simp at hz) (by decide) (by decide) (hts (.classLink RL 21 "java/lang/IndexOutOfBoundsException") (by decide +kernel)) (va_Nw.use rfl (zX_cB hZX)) hce hcv hcl ?_
    refine W.eq (g2 := F0 m 13 ls [.ref q9]) rfl ?_
    refine lv_astore (lv' := [(4, .ref q9), (0, .ref h), (1, .int a1), (2, .int a2), (3, .ref ou)]) hx hb dL_tears_13 hl (by decide) rfl (fun ls hl => ?_)
    refine lv_iconst (v := 1) hx hb dL_tears_15 (by decide) ?_
    have hP9 := hP.sub (ws' := [(ou, .inl (cO, 1, .inr (.inl fo)))]) [0] rfl
    have hD9 := hD.sub (ws' := [(ou, .inl (cO, 1, .inr (.inl fo)))]) [0] (by decide) rfl
    have hK9 := hK.sub (tys' := []) [] rfl
    refine W.widen (k := 1) (n := 6) (Nat.le_of_ble_eq_true rfl) (Nat.le_of_ble_eq_true rfl) ?_
    exact W.iret (v := 1) hx hb hr (fun t ht hW => ⟨⟨1, (fo), rfl, by (first | rfl | exact pk_uLs | assumption | (simp_all; done) | grind), ⟨by rw [ht]; exact hP9, va_K.moved hW.alike hK9, hD9⟩⟩, hS.F ht⟩) hS.2.2 dL_tears_16
  · skip
    exact (show False from hr1).elim

set_option maxHeartbeats 4000000 in
set_option maxRecDepth 100000 in
theorem kL_holds (l : Launch) (hst : l.stackTraces = false) (dC : Nat → ClassId) (dI : Nat → Nat → Nat) (sz : Nat) (h : Nat) (ro : Nat) (ba : Nat) (ra : Nat) (su : Nat) (tr : Nat) (cR : ClassId) (ou : Nat) (cO : ClassId) (fo : Nat → Int64) (a1 : Int32) : Met l yL_holds wsL_holds ({ frames := 7, cells := 1, slots := 6, locals := 106 }) (va_Pc [.ref h, .int a1, .ref ou] (fun U => U.heap.size = sz ∧ va_P (dC, dI) vwCl [(h, .inr (1, [.ref ro, .int 0, .ref ba, .ref ra, .ref su, .int 0, .ref tr])), (ro, .inl (cR, 6, .inr (.inr (.inr (.inr (fun _ => none)))))), (ou, .inl (cO, 1, .inr (.inl fo)))] U.heap ∧ va_K (dC, dI) vwCl [(cR, .object RX0), (cO, .long)] U ∧ va_D (fun _ => True) [(h, .inr (1, [.ref ro, .int 0, .ref ba, .ref ra, .ref su, .int 0, .ref tr])), (ro, .inl (cR, 6, .inr (.inr (.inr (.inr (fun _ => none)))))), (ou, .inl (cO, 1, .inr (.inl fo)))] ∧ zX U ∧ zTh (va_A [(h, .inr (1, [.ref ro, .int 0, .ref ba, .ref ra, .ref su, .int 0, .ref tr])), (ro, .inl (cR, 6, .inr (.inr (.inr (.inr (fun _ => none)))))), (ou, .inl (cO, 1, .inr (.inl fo)))] sz) U U.heap)) (va_Qi (fun (r : Int32) (u : (Nat → Int64)) => r = 1) (fun (u : (Nat → Int64)) (t : State) => va_P (dC, dI) vwCl [(ou, .inl (cO, 1, .inr (.inl u)))] t.heap ∧ va_K (dC, dI) vwCl [] t ∧ va_D (va_A [(h, .inr (1, [.ref ro, .int 0, .ref ba, .ref ra, .ref su, .int 0, .ref tr])), (ro, .inl (cR, 6, .inr (.inr (.inr (.inr (fun _ => none)))))), (ou, .inl (cO, 1, .inr (.inl fo)))] sz) [(ou, .inl (cO, 1, .inr (.inl u)))]) (va_A [(h, .inr (1, [.ref ro, .int 0, .ref ba, .ref ra, .ref su, .int 0, .ref tr])), (ro, .inl (cR, 6, .inr (.inr (.inr (.inr (fun _ => none)))))), (ou, .inl (cO, 1, .inr (.inl fo)))] sz)) 1 6 (va_A [(h, .inr (1, [.ref ro, .int 0, .ref ba, .ref ra, .ref su, .int 0, .ref tr])), (ro, .inl (cR, 6, .inr (.inr (.inr (.inr (fun _ => none)))))), (ou, .inl (cO, 1, .inr (.inl fo)))] sz) := by
  refine va_MetW (cc := cL_holds) (maxL := 4) (ret := (some .int)) (by decide) rfl ?_
  intro p e s m args below meth c s₁ B hml hv
  obtain ⟨rfl, hsz, hP, hK, hD0, hZX, hZT⟩ := hv
  have hx := B.exec
  have hb := B.bytes
  have hr := B.returns
  have hts := atoms_spec (ws := wsL_holds) B.pre
  have hown : s.vm.findClass RL = some m.cls := findClass_of_methodNamed B.named
  have hlocks := B.notSynchronized
  have htab := vx_table (x := yL_holds) B (hts (.codeWith yL_holds cL_holds 4 (some .int) [(0, 9, 12, 21)]) List.mem_cons_self)
  subst hsz
  have hD := hD0.self (sz := s.heap.size)
  generalize hAe : va_A [(h, .inr (1, [.ref ro, .int 0, .ref ba, .ref ra, .ref su, .int 0, .ref tr])), (ro, .inl (cR, 6, .inr (.inr (.inr (.inr (fun _ => none)))))), (ou, .inl (cO, 1, .inr (.inl fo)))] s.heap.size = A at hD hZT ⊢
  have hA : ∀ q : Nat, s.heap.size ≤ q → A q := fun q h => by rw [← hAe]; exact Or.inr h
  have hS : va_S A s.heap s.heap [] := va_S.rf
  have hP : va_P (dC, dI) vwCl [(h, .inr (1, [.ref ro, .int 0, .ref ba, .ref ra, .ref su, .int 0, .ref tr])), (ro, .inl (cR, 6, .inr (.inr (.inr (.inr (fun _ => none)))))), (ou, .inl (cO, 1, .inr (.inl fo)))] s.heap := hP
  have hl := lv_entry ([.ref h, .int a1, .ref ou]) (n := 4) (Nat.le_of_ble_eq_true rfl)
  rw [lg_entry_eq]
  generalize (lg_sl ([.ref h, .int a1, .ref ou]) ++ List.replicate (4 - (lg_sl ([.ref h, .int a1, .ref ou])).length) Slot.unset).toArray = ls at hl ⊢
  have hl : lv_has ls 4 [(0, .ref h), (1, .int a1), (2, .ref ou)] := hl
  refine lv_aload_n hx hb dL_holds_0 rfl (lv_at hl 2 rfl) ?_
  refine lv_iconst (v := 0) hx hb dL_holds_1 (by decide) ?_
  refine lv_aload_n hx hb dL_holds_2 rfl (lv_at hl 0 rfl) ?_
  refine lv_iload_n hx hb dL_holds_3 rfl (lv_at hl 1 rfl) ?_
  have hPc := hP.sub (ws' := [(h, .inr (1, [.ref ro, .int 0, .ref ba, .ref ra, .ref su, .int 0, .ref tr])), (ro, .inl (cR, 6, .inr (.inr (.inr (.inr (fun _ => none))))))]) [0, 1] rfl
  have hKc := hK.sub (tys' := [(cR, .object RX0)]) [0] rfl
  have hDc := hD.sub (ws' := [(h, .inr (1, [.ref ro, .int 0, .ref ba, .ref ra, .ref su, .int 0, .ref tr])), (ro, .inl (cR, 6, .inr (.inr (.inr (.inr (fun _ => none))))))]) [0, 1] (by decide) rfl
  have hFc := va_free (wc := [(h, .inr (1, [.ref ro, .int 0, .ref ba, .ref ra, .ref su, .int 0, .ref tr])), (ro, .inl (cR, 6, .inr (.inr (.inr (.inr (fun _ => none))))))]) hD hS hA [0, 1] rfl
  refine vx_calli (vx_runV (As := [.int a1]) (rest := [.int 0, .ref ou]) ⟨hx, hb, hml, hown, hts⟩ (k1_holds l hst dC dI s.heap.size h ro ba ra su tr cR a1 ) (cwV 1 hts gL_holds_X1_holds rfl rfl rfl (by decide +kernel) ⟨Nat.le_of_ble_eq_true rfl, Nat.le_of_ble_eq_true rfl⟩) ⟨fun a U g mk q => by obtain ⟨q0, q1, qP, qK, qD, qX, qT⟩ := q; exact ⟨q0, q1, qP, va_K.moved (u := U) (U := U.calling g mk a) (Vm.Alike.refl U.vm) qK, qD, zX.calling qX, zTh.calling qT⟩, va_recv hKc hPc (ci := 1) (q0 := 0) rfl rfl, fun U hU hW => ⟨rfl, by rw [hU], by rw [hU]; exact hPc, va_K.moved hW.alike hKc, hDc.weaken (fun _ _ _ _ => trivial), zX.warm hW hZX, by rw [hU]; exact zTh.at hW hZT hS hFc⟩⟩ rfl rfl hl.1 rfl (lv_room (Nat.le_of_ble_eq_true rfl)) dL_holds_4 ⟨Nat.le_of_ble_eq_true rfl, Nat.le_of_ble_eq_true rfl⟩) hS (fun q _ h => hFc q h) hFc (fun q _ h => hFc q h) (fun E9 ce q9 u9 t H1 locs ht hvm hpx hBX hz1 hk1 hS hce hcv hcl => ?_) (fun r1 u t H1 locs ht hvm hr1 hB hz1 hk1 hS => ?_)
  · have hPe : va_P (dC, dI) vwCl [] H1 := fun k q h => by simp at h
    have hDe : ∀ A9 : Nat → Prop, va_D A9 [] := fun _ => ⟨fun i j p q h => by simp at h, fun k q h => by simp at h⟩
    obtain ⟨hP, hD⟩ := va_join (wr := [(ou, .inl (cO, 1, .inr (.inl fo)))]) (w1 := []) hP hD [0, 1] [2] rfl rfl (by decide) (by decide) hk1 hFc hPe (hDe _)
    generalize H1 = H at hP hS hce ⊢
    have hP : va_P (dC, dI) vwCl [(ou, .inl (cO, 1, .inr (.inl fo)))] H := hP
    have hD : va_D A [(ou, .inl (cO, 1, .inr (.inl fo)))] := hD
    refine vx_widen (k := 1) (n := 6) (Nat.le_of_ble_eq_true rfl) (Nat.le_of_ble_eq_true rfl) ?_
    obtain rfl := hBX
    refine vx_catch (name := "java/lang/IndexOutOfBoundsException") hown [] ⟨0, 9, 12, 21⟩ [] (by rw [htab]; rfl) (fun z hz => by simp at hz) (by decide) (by decide) (hts (.classLink RL 21 "java/lang/IndexOutOfBoundsException") (by decide +kernel)) (va_Nw.use rfl (zX_cB hZX)) hce hcv hcl ?_
    refine W.eq (g2 := F0 m 12 ls [.ref q9]) rfl ?_
    refine lv_astore_n (lv' := [(3, .ref q9), (0, .ref h), (1, .int a1), (2, .ref ou)]) hx hb dL_holds_12 rfl hl (by decide) rfl (fun ls hl => ?_)
    refine lv_iconst (v := 1) hx hb dL_holds_13 (by decide) ?_
    have hP9 := hP.sub (ws' := [(ou, .inl (cO, 1, .inr (.inl fo)))]) [0] rfl
    have hD9 := hD.sub (ws' := [(ou, .inl (cO, 1, .inr (.inl fo)))]) [0] (by decide) rfl
    have hK9 := hK.sub (tys' := []) [] rfl
    refine W.widen (k := 1) (n := 6) (Nat.le_of_ble_eq_true rfl) (Nat.le_of_ble_eq_true rfl) ?_
    exact W.iret (v := 1) hx hb hr (fun t ht hW => ⟨⟨1, (fo), rfl, by (first | rfl | exact pk_uLs | assumption | (simp_all; done) | grind), ⟨by rw [ht]; exact hP9, va_K.moved hW.alike hK9, hD9⟩⟩, hS.F ht⟩) hS.2.2 dL_holds_14
  · skip
    exact (show False from hr1).elim

set_option maxHeartbeats 4000000 in
set_option maxRecDepth 100000 in
theorem kL_foresee (l : Launch) (hst : l.stackTraces = false) (dC : Nat → ClassId) (dI : Nat → Nat → Nat) (sz : Nat) (h : Nat) (ro : Nat) (ba : Nat) (ra : Nat) (su : Nat) (tr : Nat) (cR : ClassId) (ou : Nat) (cO : ClassId) (fo : Nat → Int64) (a1 : Int32) (a2 : Int32) (a3 : Int32) : Met l yL_foresee wsL_foresee ({ frames := 7, cells := 1, slots := 6, locals := 107 }) (va_Pc [.ref h, .int a1, .int a2, .int a3, .ref ou] (fun U => U.heap.size = sz ∧ va_P (dC, dI) vwCl [(h, .inr (1, [.ref ro, .int 0, .ref ba, .ref ra, .ref su, .int 0, .ref tr])), (ro, .inl (cR, 6, .inr (.inr (.inr (.inr (fun _ => none)))))), (ou, .inl (cO, 1, .inr (.inl fo)))] U.heap ∧ va_K (dC, dI) vwCl [(cR, .object RX0), (cO, .long)] U ∧ va_D (fun _ => True) [(h, .inr (1, [.ref ro, .int 0, .ref ba, .ref ra, .ref su, .int 0, .ref tr])), (ro, .inl (cR, 6, .inr (.inr (.inr (.inr (fun _ => none)))))), (ou, .inl (cO, 1, .inr (.inl fo)))] ∧ zX U ∧ zTh (va_A [(h, .inr (1, [.ref ro, .int 0, .ref ba, .ref ra, .ref su, .int 0, .ref tr])), (ro, .inl (cR, 6, .inr (.inr (.inr (.inr (fun _ => none)))))), (ou, .inl (cO, 1, .inr (.inl fo)))] sz) U U.heap)) (va_Qi (fun (r : Int32) (u : (Nat → Int64)) => r = 1) (fun (u : (Nat → Int64)) (t : State) => va_P (dC, dI) vwCl [(ou, .inl (cO, 1, .inr (.inl u)))] t.heap ∧ va_K (dC, dI) vwCl [] t ∧ va_D (va_A [(h, .inr (1, [.ref ro, .int 0, .ref ba, .ref ra, .ref su, .int 0, .ref tr])), (ro, .inl (cR, 6, .inr (.inr (.inr (.inr (fun _ => none)))))), (ou, .inl (cO, 1, .inr (.inl fo)))] sz) [(ou, .inl (cO, 1, .inr (.inl u)))]) (va_A [(h, .inr (1, [.ref ro, .int 0, .ref ba, .ref ra, .ref su, .int 0, .ref tr])), (ro, .inl (cR, 6, .inr (.inr (.inr (.inr (fun _ => none)))))), (ou, .inl (cO, 1, .inr (.inl fo)))] sz)) 1 6 (va_A [(h, .inr (1, [.ref ro, .int 0, .ref ba, .ref ra, .ref su, .int 0, .ref tr])), (ro, .inl (cR, 6, .inr (.inr (.inr (.inr (fun _ => none)))))), (ou, .inl (cO, 1, .inr (.inl fo)))] sz) := by
  refine va_MetW (cc := cL_foresee) (maxL := 6) (ret := (some .int)) (by decide) rfl ?_
  intro p e s m args below meth c s₁ B hml hv
  obtain ⟨rfl, hsz, hP, hK, hD0, hZX, hZT⟩ := hv
  have hx := B.exec
  have hb := B.bytes
  have hr := B.returns
  have hts := atoms_spec (ws := wsL_foresee) B.pre
  have hown : s.vm.findClass RL = some m.cls := findClass_of_methodNamed B.named
  have hlocks := B.notSynchronized
  have htab := vx_table (x := yL_foresee) B (hts (.codeWith yL_foresee cL_foresee 6 (some .int) [(0, 12, 15, 21), (0, 12, 19, 13)]) List.mem_cons_self)
  subst hsz
  have hD := hD0.self (sz := s.heap.size)
  generalize hAe : va_A [(h, .inr (1, [.ref ro, .int 0, .ref ba, .ref ra, .ref su, .int 0, .ref tr])), (ro, .inl (cR, 6, .inr (.inr (.inr (.inr (fun _ => none)))))), (ou, .inl (cO, 1, .inr (.inl fo)))] s.heap.size = A at hD hZT ⊢
  have hA : ∀ q : Nat, s.heap.size ≤ q → A q := fun q h => by rw [← hAe]; exact Or.inr h
  have hS : va_S A s.heap s.heap [] := va_S.rf
  have hP : va_P (dC, dI) vwCl [(h, .inr (1, [.ref ro, .int 0, .ref ba, .ref ra, .ref su, .int 0, .ref tr])), (ro, .inl (cR, 6, .inr (.inr (.inr (.inr (fun _ => none)))))), (ou, .inl (cO, 1, .inr (.inl fo)))] s.heap := hP
  have hl := lv_entry ([.ref h, .int a1, .int a2, .int a3, .ref ou]) (n := 6) (Nat.le_of_ble_eq_true rfl)
  rw [lg_entry_eq]
  generalize (lg_sl ([.ref h, .int a1, .int a2, .int a3, .ref ou]) ++ List.replicate (6 - (lg_sl ([.ref h, .int a1, .int a2, .int a3, .ref ou])).length) Slot.unset).toArray = ls at hl ⊢
  have hl : lv_has ls 6 [(0, .ref h), (1, .int a1), (2, .int a2), (3, .int a3), (4, .ref ou)] := hl
  refine lv_aload hx hb dL_foresee_0 (lv_at hl 4 rfl) ?_
  refine lv_iconst (v := 0) hx hb dL_foresee_2 (by decide) ?_
  refine lv_aload_n hx hb dL_foresee_3 rfl (lv_at hl 0 rfl) ?_
  refine lv_iload_n hx hb dL_foresee_4 rfl (lv_at hl 1 rfl) ?_
  refine lv_iload_n hx hb dL_foresee_5 rfl (lv_at hl 2 rfl) ?_
  refine lv_iload_n hx hb dL_foresee_6 rfl (lv_at hl 3 rfl) ?_
  have hPc := hP.sub (ws' := [(h, .inr (1, [.ref ro, .int 0, .ref ba, .ref ra, .ref su, .int 0, .ref tr])), (ro, .inl (cR, 6, .inr (.inr (.inr (.inr (fun _ => none))))))]) [0, 1] rfl
  have hKc := hK.sub (tys' := [(cR, .object RX0)]) [0] rfl
  have hDc := hD.sub (ws' := [(h, .inr (1, [.ref ro, .int 0, .ref ba, .ref ra, .ref su, .int 0, .ref tr])), (ro, .inl (cR, 6, .inr (.inr (.inr (.inr (fun _ => none))))))]) [0, 1] (by decide) rfl
  have hFc := va_free (wc := [(h, .inr (1, [.ref ro, .int 0, .ref ba, .ref ra, .ref su, .int 0, .ref tr])), (ro, .inl (cR, 6, .inr (.inr (.inr (.inr (fun _ => none))))))]) hD hS hA [0, 1] rfl
  refine vx_calli (vx_runV (As := [.int a1, .int a2, .int a3]) (rest := [.int 0, .ref ou]) ⟨hx, hb, hml, hown, hts⟩ (k1_foresee l hst dC dI s.heap.size h ro ba ra su tr cR a1 a2 a3 ) (cwV 3 hts gL_foresee_X1_foresee rfl rfl rfl (by decide +kernel) ⟨Nat.le_of_ble_eq_true rfl, Nat.le_of_ble_eq_true rfl⟩) ⟨fun a U g mk q => by obtain ⟨q0, q1, qP, qK, qD, qX, qT⟩ := q; exact ⟨q0, q1, qP, va_K.moved (u := U) (U := U.calling g mk a) (Vm.Alike.refl U.vm) qK, qD, zX.calling qX, zTh.calling qT⟩, va_recv hKc hPc (ci := 1) (q0 := 0) rfl rfl, fun U hU hW => ⟨rfl, by rw [hU], by rw [hU]; exact hPc, va_K.moved hW.alike hKc, hDc.weaken (fun _ _ _ _ => trivial), zX.warm hW hZX, by rw [hU]; exact zTh.at hW hZT hS hFc⟩⟩ rfl rfl hl.1 rfl (lv_room (Nat.le_of_ble_eq_true rfl)) dL_foresee_7 ⟨Nat.le_of_ble_eq_true rfl, Nat.le_of_ble_eq_true rfl⟩) hS (fun q _ h => hFc q h) hFc (fun q _ h => hFc q h) (fun E9 ce q9 u9 t H1 locs ht hvm hpx hBX hz1 hk1 hS hce hcv hcl => ?_) (fun r1 u t H1 locs ht hvm hr1 hB hz1 hk1 hS => ?_)
  · have hPe : va_P (dC, dI) vwCl [] H1 := fun k q h => by simp at h
    have hDe : ∀ A9 : Nat → Prop, va_D A9 [] := fun _ => ⟨fun i j p q h => by simp at h, fun k q h => by simp at h⟩
    obtain ⟨hP, hD⟩ := va_join (wr := [(ou, .inl (cO, 1, .inr (.inl fo)))]) (w1 := []) hP hD [0, 1] [2] rfl rfl (by decide) (by decide) hk1 hFc hPe (hDe _)
    generalize H1 = H at hP hS hce ⊢
    have hP : va_P (dC, dI) vwCl [(ou, .inl (cO, 1, .inr (.inl fo)))] H := hP
    have hD : va_D A [(ou, .inl (cO, 1, .inr (.inl fo)))] := hD
    refine vx_widen (k := 1) (n := 6) (Nat.le_of_ble_eq_true rfl) (Nat.le_of_ble_eq_true rfl) ?_
    obtain rfl := hBX
    refine vx_catch (name := "java/lang/IndexOutOfBoundsException") hown [] ⟨0, 12, 15, 21⟩ [⟨0, 12, 19, 13⟩] (by rw [htab]; rfl) (fun z hz => by simp at hz) (by decide) (by decide) (hts (.classLink RL 21 "java/lang/IndexOutOfBoundsException") (by decide +kernel)) (va_Nw.use rfl (zX_cB hZX)) hce hcv hcl ?_
    refine W.eq (g2 := F0 m 15 ls [.ref q9]) rfl ?_
    refine lv_astore (lv' := [(5, .ref q9), (0, .ref h), (1, .int a1), (2, .int a2), (3, .int a3), (4, .ref ou)]) hx hb dL_foresee_15 hl (by decide) rfl (fun ls hl => ?_)
    refine lv_iconst (v := 1) hx hb dL_foresee_17 (by decide) ?_
    have hP9 := hP.sub (ws' := [(ou, .inl (cO, 1, .inr (.inl fo)))]) [0] rfl
    have hD9 := hD.sub (ws' := [(ou, .inl (cO, 1, .inr (.inl fo)))]) [0] (by decide) rfl
    have hK9 := hK.sub (tys' := []) [] rfl
    refine W.widen (k := 1) (n := 6) (Nat.le_of_ble_eq_true rfl) (Nat.le_of_ble_eq_true rfl) ?_
    exact W.iret (v := 1) hx hb hr (fun t ht hW => ⟨⟨1, (fo), rfl, by (first | rfl | exact pk_uLs | assumption | (simp_all; done) | grind), ⟨by rw [ht]; exact hP9, va_K.moved hW.alike hK9, hD9⟩⟩, hS.F ht⟩) hS.2.2 dL_foresee_18
  · skip
    exact (show False from hr1).elim

set_option maxHeartbeats 4000000 in
set_option maxRecDepth 100000 in
theorem kL_advise (l : Launch) (hst : l.stackTraces = false) (dC : Nat → ClassId) (dI : Nat → Nat → Nat) (sz : Nat) (h : Nat) (ro : Nat) (ba : Nat) (ra : Nat) (su : Nat) (tr : Nat) (cR : ClassId) (ou : Nat) (cO : ClassId) (fo : Nat → Int64) (a1 : Int32) (a2 : Int32) : Met l yL_advise wsL_advise ({ frames := 7, cells := 1, slots := 6, locals := 112 }) (va_Pc [.ref h, .int a1, .int a2, .ref ou] (fun U => U.heap.size = sz ∧ va_P (dC, dI) vwCl [(h, .inr (1, [.ref ro, .int 0, .ref ba, .ref ra, .ref su, .int 0, .ref tr])), (ro, .inl (cR, 6, .inr (.inr (.inr (.inr (fun _ => none)))))), (ou, .inl (cO, 1, .inr (.inl fo)))] U.heap ∧ va_K (dC, dI) vwCl [(cR, .object RX0), (cO, .long)] U ∧ va_D (fun _ => True) [(h, .inr (1, [.ref ro, .int 0, .ref ba, .ref ra, .ref su, .int 0, .ref tr])), (ro, .inl (cR, 6, .inr (.inr (.inr (.inr (fun _ => none)))))), (ou, .inl (cO, 1, .inr (.inl fo)))] ∧ zX U ∧ zTh (va_A [(h, .inr (1, [.ref ro, .int 0, .ref ba, .ref ra, .ref su, .int 0, .ref tr])), (ro, .inl (cR, 6, .inr (.inr (.inr (.inr (fun _ => none)))))), (ou, .inl (cO, 1, .inr (.inl fo)))] sz) U U.heap)) (va_Qi (fun (r : Int32) (u : (Nat → Int64)) => r = 1) (fun (u : (Nat → Int64)) (t : State) => va_P (dC, dI) vwCl [(ou, .inl (cO, 1, .inr (.inl u)))] t.heap ∧ va_K (dC, dI) vwCl [] t ∧ va_D (va_A [(h, .inr (1, [.ref ro, .int 0, .ref ba, .ref ra, .ref su, .int 0, .ref tr])), (ro, .inl (cR, 6, .inr (.inr (.inr (.inr (fun _ => none)))))), (ou, .inl (cO, 1, .inr (.inl fo)))] sz) [(ou, .inl (cO, 1, .inr (.inl u)))]) (va_A [(h, .inr (1, [.ref ro, .int 0, .ref ba, .ref ra, .ref su, .int 0, .ref tr])), (ro, .inl (cR, 6, .inr (.inr (.inr (.inr (fun _ => none)))))), (ou, .inl (cO, 1, .inr (.inl fo)))] sz)) 1 6 (va_A [(h, .inr (1, [.ref ro, .int 0, .ref ba, .ref ra, .ref su, .int 0, .ref tr])), (ro, .inl (cR, 6, .inr (.inr (.inr (.inr (fun _ => none)))))), (ou, .inl (cO, 1, .inr (.inl fo)))] sz) := by
  refine va_MetW (cc := cL_advise) (maxL := 5) (ret := (some .int)) (by decide) rfl ?_
  intro p e s m args below meth c s₁ B hml hv
  obtain ⟨rfl, hsz, hP, hK, hD0, hZX, hZT⟩ := hv
  have hx := B.exec
  have hb := B.bytes
  have hr := B.returns
  have hts := atoms_spec (ws := wsL_advise) B.pre
  have hown : s.vm.findClass RL = some m.cls := findClass_of_methodNamed B.named
  have hlocks := B.notSynchronized
  have htab := vx_table (x := yL_advise) B (hts (.codeWith yL_advise cL_advise 5 (some .int) [(0, 10, 13, 21), (0, 10, 17, 13)]) List.mem_cons_self)
  subst hsz
  have hD := hD0.self (sz := s.heap.size)
  generalize hAe : va_A [(h, .inr (1, [.ref ro, .int 0, .ref ba, .ref ra, .ref su, .int 0, .ref tr])), (ro, .inl (cR, 6, .inr (.inr (.inr (.inr (fun _ => none)))))), (ou, .inl (cO, 1, .inr (.inl fo)))] s.heap.size = A at hD hZT ⊢
  have hA : ∀ q : Nat, s.heap.size ≤ q → A q := fun q h => by rw [← hAe]; exact Or.inr h
  have hS : va_S A s.heap s.heap [] := va_S.rf
  have hP : va_P (dC, dI) vwCl [(h, .inr (1, [.ref ro, .int 0, .ref ba, .ref ra, .ref su, .int 0, .ref tr])), (ro, .inl (cR, 6, .inr (.inr (.inr (.inr (fun _ => none)))))), (ou, .inl (cO, 1, .inr (.inl fo)))] s.heap := hP
  have hl := lv_entry ([.ref h, .int a1, .int a2, .ref ou]) (n := 5) (Nat.le_of_ble_eq_true rfl)
  rw [lg_entry_eq]
  generalize (lg_sl ([.ref h, .int a1, .int a2, .ref ou]) ++ List.replicate (5 - (lg_sl ([.ref h, .int a1, .int a2, .ref ou])).length) Slot.unset).toArray = ls at hl ⊢
  have hl : lv_has ls 5 [(0, .ref h), (1, .int a1), (2, .int a2), (3, .ref ou)] := hl
  refine lv_aload_n hx hb dL_advise_0 rfl (lv_at hl 3 rfl) ?_
  refine lv_iconst (v := 0) hx hb dL_advise_1 (by decide) ?_
  refine lv_aload_n hx hb dL_advise_2 rfl (lv_at hl 0 rfl) ?_
  refine lv_iload_n hx hb dL_advise_3 rfl (lv_at hl 1 rfl) ?_
  refine lv_iload_n hx hb dL_advise_4 rfl (lv_at hl 2 rfl) ?_
  have hPc := hP.sub (ws' := [(h, .inr (1, [.ref ro, .int 0, .ref ba, .ref ra, .ref su, .int 0, .ref tr])), (ro, .inl (cR, 6, .inr (.inr (.inr (.inr (fun _ => none))))))]) [0, 1] rfl
  have hKc := hK.sub (tys' := [(cR, .object RX0)]) [0] rfl
  have hDc := hD.sub (ws' := [(h, .inr (1, [.ref ro, .int 0, .ref ba, .ref ra, .ref su, .int 0, .ref tr])), (ro, .inl (cR, 6, .inr (.inr (.inr (.inr (fun _ => none))))))]) [0, 1] (by decide) rfl
  have hFc := va_free (wc := [(h, .inr (1, [.ref ro, .int 0, .ref ba, .ref ra, .ref su, .int 0, .ref tr])), (ro, .inl (cR, 6, .inr (.inr (.inr (.inr (fun _ => none))))))]) hD hS hA [0, 1] rfl
  refine vx_calli (vx_runV (As := [.int a1, .int a2]) (rest := [.int 0, .ref ou]) ⟨hx, hb, hml, hown, hts⟩ (k1_advise l hst dC dI s.heap.size h ro ba ra su tr cR a1 a2 ) (cwV 2 hts gL_advise_X1_advise rfl rfl rfl (by decide +kernel) ⟨Nat.le_of_ble_eq_true rfl, Nat.le_of_ble_eq_true rfl⟩) ⟨fun a U g mk q => by obtain ⟨q0, q1, qP, qK, qD, qX, qT⟩ := q; exact ⟨q0, q1, qP, va_K.moved (u := U) (U := U.calling g mk a) (Vm.Alike.refl U.vm) qK, qD, zX.calling qX, zTh.calling qT⟩, va_recv hKc hPc (ci := 1) (q0 := 0) rfl rfl, fun U hU hW => ⟨rfl, by rw [hU], by rw [hU]; exact hPc, va_K.moved hW.alike hKc, hDc.weaken (fun _ _ _ _ => trivial), zX.warm hW hZX, by rw [hU]; exact zTh.at hW hZT hS hFc⟩⟩ rfl rfl hl.1 rfl (lv_room (Nat.le_of_ble_eq_true rfl)) dL_advise_5 ⟨Nat.le_of_ble_eq_true rfl, Nat.le_of_ble_eq_true rfl⟩) hS (fun q _ h => hFc q h) hFc (fun q _ h => hFc q h) (fun E9 ce q9 u9 t H1 locs ht hvm hpx hBX hz1 hk1 hS hce hcv hcl => ?_) (fun r1 u t H1 locs ht hvm hr1 hB hz1 hk1 hS => ?_)
  · have hPe : va_P (dC, dI) vwCl [] H1 := fun k q h => by simp at h
    have hDe : ∀ A9 : Nat → Prop, va_D A9 [] := fun _ => ⟨fun i j p q h => by simp at h, fun k q h => by simp at h⟩
    obtain ⟨hP, hD⟩ := va_join (wr := [(ou, .inl (cO, 1, .inr (.inl fo)))]) (w1 := []) hP hD [0, 1] [2] rfl rfl (by decide) (by decide) hk1 hFc hPe (hDe _)
    generalize H1 = H at hP hS hce ⊢
    have hP : va_P (dC, dI) vwCl [(ou, .inl (cO, 1, .inr (.inl fo)))] H := hP
    have hD : va_D A [(ou, .inl (cO, 1, .inr (.inl fo)))] := hD
    refine vx_widen (k := 1) (n := 6) (Nat.le_of_ble_eq_true rfl) (Nat.le_of_ble_eq_true rfl) ?_
    obtain rfl := hBX
    refine vx_catch (name := "java/lang/IndexOutOfBoundsException") hown [] ⟨0, 10, 13, 21⟩ [⟨0, 10, 17, 13⟩] (by rw [htab]; rfl) (fun z hz => by simp at hz) (by decide) (by decide) (hts (.classLink RL 21 "java/lang/IndexOutOfBoundsException") (by decide +kernel)) (va_Nw.use rfl (zX_cB hZX)) hce hcv hcl ?_
    refine W.eq (g2 := F0 m 13 ls [.ref q9]) rfl ?_
    refine lv_astore (lv' := [(4, .ref q9), (0, .ref h), (1, .int a1), (2, .int a2), (3, .ref ou)]) hx hb dL_advise_13 hl (by decide) rfl (fun ls hl => ?_)
    refine lv_iconst (v := 1) hx hb dL_advise_15 (by decide) ?_
    have hP9 := hP.sub (ws' := [(ou, .inl (cO, 1, .inr (.inl fo)))]) [0] rfl
    have hD9 := hD.sub (ws' := [(ou, .inl (cO, 1, .inr (.inl fo)))]) [0] (by decide) rfl
    have hK9 := hK.sub (tys' := []) [] rfl
    refine W.widen (k := 1) (n := 6) (Nat.le_of_ble_eq_true rfl) (Nat.le_of_ble_eq_true rfl) ?_
    exact W.iret (v := 1) hx hb hr (fun t ht hW => ⟨⟨1, (fo), rfl, by (first | rfl | exact pk_uLs | assumption | (simp_all; done) | grind), ⟨by rw [ht]; exact hP9, va_K.moved hW.alike hK9, hD9⟩⟩, hS.F ht⟩) hS.2.2 dL_advise_16
  · skip
    exact (show False from hr1).elim

set_option maxHeartbeats 4000000 in
set_option maxRecDepth 100000 in
theorem kL_needs (l : Launch) (hst : l.stackTraces = false) (dC : Nat → ClassId) (dI : Nat → Nat → Nat) (sz : Nat) (h : Nat) (ro : Nat) (ba : Nat) (ra : Nat) (su : Nat) (tr : Nat) (cR : ClassId) (ou : Nat) (cO : ClassId) (fo : Nat → Int64) (a1 : Int32) (a2 : Int32) : Met l yL_needs wsL_needs ({ frames := 7, cells := 1, slots := 6, locals := 106 }) (va_Pc [.ref h, .int a1, .int a2, .ref ou] (fun U => U.heap.size = sz ∧ va_P (dC, dI) vwCl [(h, .inr (1, [.ref ro, .int 0, .ref ba, .ref ra, .ref su, .int 0, .ref tr])), (ro, .inl (cR, 6, .inr (.inr (.inr (.inr (fun _ => none)))))), (ou, .inl (cO, 1, .inr (.inl fo)))] U.heap ∧ va_K (dC, dI) vwCl [(cR, .object RX0), (cO, .long)] U ∧ va_D (fun _ => True) [(h, .inr (1, [.ref ro, .int 0, .ref ba, .ref ra, .ref su, .int 0, .ref tr])), (ro, .inl (cR, 6, .inr (.inr (.inr (.inr (fun _ => none)))))), (ou, .inl (cO, 1, .inr (.inl fo)))] ∧ zX U ∧ zTh (va_A [(h, .inr (1, [.ref ro, .int 0, .ref ba, .ref ra, .ref su, .int 0, .ref tr])), (ro, .inl (cR, 6, .inr (.inr (.inr (.inr (fun _ => none)))))), (ou, .inl (cO, 1, .inr (.inl fo)))] sz) U U.heap)) (va_Qi (fun (r : Int32) (u : (Nat → Int64)) => r = 1) (fun (u : (Nat → Int64)) (t : State) => va_P (dC, dI) vwCl [(ou, .inl (cO, 1, .inr (.inl u)))] t.heap ∧ va_K (dC, dI) vwCl [] t ∧ va_D (va_A [(h, .inr (1, [.ref ro, .int 0, .ref ba, .ref ra, .ref su, .int 0, .ref tr])), (ro, .inl (cR, 6, .inr (.inr (.inr (.inr (fun _ => none)))))), (ou, .inl (cO, 1, .inr (.inl fo)))] sz) [(ou, .inl (cO, 1, .inr (.inl u)))]) (va_A [(h, .inr (1, [.ref ro, .int 0, .ref ba, .ref ra, .ref su, .int 0, .ref tr])), (ro, .inl (cR, 6, .inr (.inr (.inr (.inr (fun _ => none)))))), (ou, .inl (cO, 1, .inr (.inl fo)))] sz)) 1 6 (va_A [(h, .inr (1, [.ref ro, .int 0, .ref ba, .ref ra, .ref su, .int 0, .ref tr])), (ro, .inl (cR, 6, .inr (.inr (.inr (.inr (fun _ => none)))))), (ou, .inl (cO, 1, .inr (.inl fo)))] sz) := by
  refine va_MetW (cc := cL_needs) (maxL := 5) (ret := (some .int)) (by decide) rfl ?_
  intro p e s m args below meth c s₁ B hml hv
  obtain ⟨rfl, hsz, hP, hK, hD0, hZX, hZT⟩ := hv
  have hx := B.exec
  have hb := B.bytes
  have hr := B.returns
  have hts := atoms_spec (ws := wsL_needs) B.pre
  have hown : s.vm.findClass RL = some m.cls := findClass_of_methodNamed B.named
  have hlocks := B.notSynchronized
  have htab := vx_table (x := yL_needs) B (hts (.codeWith yL_needs cL_needs 5 (some .int) [(0, 10, 13, 21), (0, 10, 17, 13)]) List.mem_cons_self)
  subst hsz
  have hD := hD0.self (sz := s.heap.size)
  generalize hAe : va_A [(h, .inr (1, [.ref ro, .int 0, .ref ba, .ref ra, .ref su, .int 0, .ref tr])), (ro, .inl (cR, 6, .inr (.inr (.inr (.inr (fun _ => none)))))), (ou, .inl (cO, 1, .inr (.inl fo)))] s.heap.size = A at hD hZT ⊢
  have hA : ∀ q : Nat, s.heap.size ≤ q → A q := fun q h => by rw [← hAe]; exact Or.inr h
  have hS : va_S A s.heap s.heap [] := va_S.rf
  have hP : va_P (dC, dI) vwCl [(h, .inr (1, [.ref ro, .int 0, .ref ba, .ref ra, .ref su, .int 0, .ref tr])), (ro, .inl (cR, 6, .inr (.inr (.inr (.inr (fun _ => none)))))), (ou, .inl (cO, 1, .inr (.inl fo)))] s.heap := hP
  have hl := lv_entry ([.ref h, .int a1, .int a2, .ref ou]) (n := 5) (Nat.le_of_ble_eq_true rfl)
  rw [lg_entry_eq]
  generalize (lg_sl ([.ref h, .int a1, .int a2, .ref ou]) ++ List.replicate (5 - (lg_sl ([.ref h, .int a1, .int a2, .ref ou])).length) Slot.unset).toArray = ls at hl ⊢
  have hl : lv_has ls 5 [(0, .ref h), (1, .int a1), (2, .int a2), (3, .ref ou)] := hl
  refine lv_aload_n hx hb dL_needs_0 rfl (lv_at hl 3 rfl) ?_
  refine lv_iconst (v := 0) hx hb dL_needs_1 (by decide) ?_
  refine lv_aload_n hx hb dL_needs_2 rfl (lv_at hl 0 rfl) ?_
  refine lv_iload_n hx hb dL_needs_3 rfl (lv_at hl 1 rfl) ?_
  refine lv_iload_n hx hb dL_needs_4 rfl (lv_at hl 2 rfl) ?_
  have hPc := hP.sub (ws' := [(h, .inr (1, [.ref ro, .int 0, .ref ba, .ref ra, .ref su, .int 0, .ref tr])), (ro, .inl (cR, 6, .inr (.inr (.inr (.inr (fun _ => none))))))]) [0, 1] rfl
  have hKc := hK.sub (tys' := [(cR, .object RX0)]) [0] rfl
  have hDc := hD.sub (ws' := [(h, .inr (1, [.ref ro, .int 0, .ref ba, .ref ra, .ref su, .int 0, .ref tr])), (ro, .inl (cR, 6, .inr (.inr (.inr (.inr (fun _ => none))))))]) [0, 1] (by decide) rfl
  have hFc := va_free (wc := [(h, .inr (1, [.ref ro, .int 0, .ref ba, .ref ra, .ref su, .int 0, .ref tr])), (ro, .inl (cR, 6, .inr (.inr (.inr (.inr (fun _ => none))))))]) hD hS hA [0, 1] rfl
  refine vx_calli (vx_runV (As := [.int a1, .int a2]) (rest := [.int 0, .ref ou]) ⟨hx, hb, hml, hown, hts⟩ (k1_needs l hst dC dI s.heap.size h ro ba ra su tr cR a1 a2 ) (cwV 2 hts gL_needs_X1_needs rfl rfl rfl (by decide +kernel) ⟨Nat.le_of_ble_eq_true rfl, Nat.le_of_ble_eq_true rfl⟩) ⟨fun a U g mk q => by obtain ⟨q0, q1, qP, qK, qD, qX, qT⟩ := q; exact ⟨q0, q1, qP, va_K.moved (u := U) (U := U.calling g mk a) (Vm.Alike.refl U.vm) qK, qD, zX.calling qX, zTh.calling qT⟩, va_recv hKc hPc (ci := 1) (q0 := 0) rfl rfl, fun U hU hW => ⟨rfl, by rw [hU], by rw [hU]; exact hPc, va_K.moved hW.alike hKc, hDc.weaken (fun _ _ _ _ => trivial), zX.warm hW hZX, by rw [hU]; exact zTh.at hW hZT hS hFc⟩⟩ rfl rfl hl.1 rfl (lv_room (Nat.le_of_ble_eq_true rfl)) dL_needs_5 ⟨Nat.le_of_ble_eq_true rfl, Nat.le_of_ble_eq_true rfl⟩) hS (fun q _ h => hFc q h) hFc (fun q _ h => hFc q h) (fun E9 ce q9 u9 t H1 locs ht hvm hpx hBX hz1 hk1 hS hce hcv hcl => ?_) (fun r1 u t H1 locs ht hvm hr1 hB hz1 hk1 hS => ?_)
  · have hPe : va_P (dC, dI) vwCl [] H1 := fun k q h => by simp at h
    have hDe : ∀ A9 : Nat → Prop, va_D A9 [] := fun _ => ⟨fun i j p q h => by simp at h, fun k q h => by simp at h⟩
    obtain ⟨hP, hD⟩ := va_join (wr := [(ou, .inl (cO, 1, .inr (.inl fo)))]) (w1 := []) hP hD [0, 1] [2] rfl rfl (by decide) (by decide) hk1 hFc hPe (hDe _)
    generalize H1 = H at hP hS hce ⊢
    have hP : va_P (dC, dI) vwCl [(ou, .inl (cO, 1, .inr (.inl fo)))] H := hP
    have hD : va_D A [(ou, .inl (cO, 1, .inr (.inl fo)))] := hD
    refine vx_widen (k := 1) (n := 6) (Nat.le_of_ble_eq_true rfl) (Nat.le_of_ble_eq_true rfl) ?_
    obtain rfl := hBX
    refine vx_catch (name := "java/lang/IndexOutOfBoundsException") hown [] ⟨0, 10, 13, 21⟩ [⟨0, 10, 17, 13⟩] (by rw [htab]; rfl) (fun z hz => by simp at hz) (by decide) (by decide) (hts (.classLink RL 21 "java/lang/IndexOutOfBoundsException") (by decide +kernel)) (va_Nw.use rfl (zX_cB hZX)) hce hcv hcl ?_
    refine W.eq (g2 := F0 m 13 ls [.ref q9]) rfl ?_
    refine lv_astore (lv' := [(4, .ref q9), (0, .ref h), (1, .int a1), (2, .int a2), (3, .ref ou)]) hx hb dL_needs_13 hl (by decide) rfl (fun ls hl => ?_)
    refine lv_iconst (v := 1) hx hb dL_needs_15 (by decide) ?_
    have hP9 := hP.sub (ws' := [(ou, .inl (cO, 1, .inr (.inl fo)))]) [0] rfl
    have hD9 := hD.sub (ws' := [(ou, .inl (cO, 1, .inr (.inl fo)))]) [0] (by decide) rfl
    have hK9 := hK.sub (tys' := []) [] rfl
    refine W.widen (k := 1) (n := 6) (Nat.le_of_ble_eq_true rfl) (Nat.le_of_ble_eq_true rfl) ?_
    exact W.iret (v := 1) hx hb hr (fun t ht hW => ⟨⟨1, (fo), rfl, by (first | rfl | exact pk_uLs | assumption | (simp_all; done) | grind), ⟨by rw [ht]; exact hP9, va_K.moved hW.alike hK9, hD9⟩⟩, hS.F ht⟩) hS.2.2 dL_needs_16
  · skip
    exact (show False from hr1).elim

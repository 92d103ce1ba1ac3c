set_option maxHeartbeats 4000000 in
set_option maxRecDepth 100000 in
theorem r3_digest (l : Launch) (dC : Nat → ClassId) (dI : Nat → Nat → Nat) (sz : Nat) (hm : Nat) (wi : Nat) (co : Nat) (sl : Nat) (rn : Nat) (so : Nat) (bn : Nat) (sm : Nat) (ah : Nat) (th : Int32) (gr : Nat) (gt : Nat) (gw : Nat) (gk : Nat) (gi : Nat) (gp : Nat) (go : Nat) (gg : Nat) (d1 : ClassId) (d2 : ClassId) (d3 : ClassId) (d4 : ClassId) (d5 : ClassId) (d6 : ClassId) (d7 : ClassId) (d8 : ClassId) (d9 : ClassId) (d10 : ClassId) (d11 : ClassId) (d12 : ClassId) (d13 : ClassId) (fw : Nat → Int32) (fc : Nat → Int32) (fs : Nat → Int32) (fg : Nat → Int32) (fn : Nat → Int32) (fk : Nat → Int32) (hk : ∀ j : Nat, j < 360 → fk j = -1) (hw : ∀ j : Nat, j < 6 → fw j = 10) (hc : ∀ j : Nat, j < 6 → fc j = 6) (hs : ∀ j : Nat, j < 6 → fs j = 30) (hg : ∀ j : Nat, j < 6 → fg j = 100) (hn : ∀ j : Nat, j < 12 → fn j = 4) : Met l yX3_digest wsX3_digest ({ frames := 4, cells := 2223, slots := 13527, locals := 94 }) (va_Pc [.ref hm] (fun U => U.heap.size = sz ∧ va_P (dC, dI) vwCl [(hm, .inr (3, [.int th, .int 6, .ref wi, .ref co, .ref sl, .ref rn, .ref so, .ref bn, .ref sm, .ref ah])), (sm, .inr (2, [.int 0, .ref gr, .ref gt, .ref gw, .ref gk, .ref gi, .ref gp, .ref go, .ref gg, .ref hm])), (wi, .inl (d1, 6, .inl fw)), (co, .inl (d2, 6, .inl fc)), (sl, .inl (d3, 6, .inl fs)), (gr, .inl (d4, 6, .inl fg)), (bn, .inl (d5, 3, .inl (fun _ => 0))), (rn, .inl (d6, 12, .inl fn)), (so, .inl (d7, 12, .inl (fun _ => 0))), (gt, .inl (d8, 6, .inl (fun _ => 0))), (gw, .inl (d9, 6, .inl (fun _ => 0))), (gk, .inl (d10, 360, .inl fk)), (gi, .inl (d11, 360, .inl (fun _ => 0))), (gp, .inl (d12, 360, .inl (fun _ => 0))), (go, .inl (d13, 360, .inl (fun _ => 0)))] U.heap ∧ va_K (dC, dI) vwCl [(d1, .int), (d2, .int), (d3, .int), (d4, .int), (d5, .int), (d6, .int), (d7, .int), (d8, .int), (d9, .int), (d10, .int), (d11, .int), (d12, .int), (d13, .int)] U ∧ va_D (fun _ => True) [(hm, .inr (3, [.int th, .int 6, .ref wi, .ref co, .ref sl, .ref rn, .ref so, .ref bn, .ref sm, .ref ah])), (sm, .inr (2, [.int 0, .ref gr, .ref gt, .ref gw, .ref gk, .ref gi, .ref gp, .ref go, .ref gg, .ref hm])), (wi, .inl (d1, 6, .inl fw)), (co, .inl (d2, 6, .inl fc)), (sl, .inl (d3, 6, .inl fs)), (gr, .inl (d4, 6, .inl fg)), (bn, .inl (d5, 3, .inl (fun _ => 0))), (rn, .inl (d6, 12, .inl fn)), (so, .inl (d7, 12, .inl (fun _ => 0))), (gt, .inl (d8, 6, .inl (fun _ => 0))), (gw, .inl (d9, 6, .inl (fun _ => 0))), (gk, .inl (d10, 360, .inl fk)), (gi, .inl (d11, 360, .inl (fun _ => 0))), (gp, .inl (d12, 360, .inl (fun _ => 0))), (go, .inl (d13, 360, .inl (fun _ => 0)))] ∧ zNs U)) (va_Ql (fun (r : Int64) (u : Unit) => r = zz_itr 6 2576564512762243823) (fun (u : Unit) (t : State) => va_P (dC, dI) vwCl [(hm, .inr (3, [.int 0, .int 6, .ref wi, .ref co, .ref sl, .ref rn, .ref so, .ref bn, .ref sm, .ref ah])), (sm, .inr (2, [.int 0, .ref gr, .ref gt, .ref gw, .ref gk, .ref gi, .ref gp, .ref go, .ref gg, .ref hm])), (wi, .inl (d1, 6, .inl fw)), (co, .inl (d2, 6, .inl fc)), (sl, .inl (d3, 6, .inl fs)), (gr, .inl (d4, 6, .inl fg)), (bn, .inl (d5, 3, .inl (fun _ => 0))), (rn, .inl (d6, 12, .inl fn)), (so, .inl (d7, 12, .inl (fun _ => 0))), (gt, .inl (d8, 6, .inl (fun _ => 0))), (gw, .inl (d9, 6, .inl (fun _ => 0))), (gk, .inl (d10, 360, .inl fk)), (gi, .inl (d11, 360, .inl (fun _ => 0))), (gp, .inl (d12, 360, .inl (fun _ => 0))), (go, .inl (d13, 360, .inl (fun _ => 0)))] t.heap ∧ va_K (dC, dI) vwCl [] t ∧ va_D (va_A [(hm, .inr (3, [.int th, .int 6, .ref wi, .ref co, .ref sl, .ref rn, .ref so, .ref bn, .ref sm, .ref ah])), (sm, .inr (2, [.int 0, .ref gr, .ref gt, .ref gw, .ref gk, .ref gi, .ref gp, .ref go, .ref gg, .ref hm])), (wi, .inl (d1, 6, .inl fw)), (co, .inl (d2, 6, .inl fc)), (sl, .inl (d3, 6, .inl fs)), (gr, .inl (d4, 6, .inl fg)), (bn, .inl (d5, 3, .inl (fun _ => 0))), (rn, .inl (d6, 12, .inl fn)), (so, .inl (d7, 12, .inl (fun _ => 0))), (gt, .inl (d8, 6, .inl (fun _ => 0))), (gw, .inl (d9, 6, .inl (fun _ => 0))), (gk, .inl (d10, 360, .inl fk)), (gi, .inl (d11, 360, .inl (fun _ => 0))), (gp, .inl (d12, 360, .inl (fun _ => 0))), (go, .inl (d13, 360, .inl (fun _ => 0)))] sz) [(hm, .inr (3, [.int 0, .int 6, .ref wi, .ref co, .ref sl, .ref rn, .ref so, .ref bn, .ref sm, .ref ah])), (sm, .inr (2, [.int 0, .ref gr, .ref gt, .ref gw, .ref gk, .ref gi, .ref gp, .ref go, .ref gg, .ref hm])), (wi, .inl (d1, 6, .inl fw)), (co, .inl (d2, 6, .inl fc)), (sl, .inl (d3, 6, .inl fs)), (gr, .inl (d4, 6, .inl fg)), (bn, .inl (d5, 3, .inl (fun _ => 0))), (rn, .inl (d6, 12, .inl fn)), (so, .inl (d7, 12, .inl (fun _ => 0))), (gt, .inl (d8, 6, .inl (fun _ => 0))), (gw, .inl (d9, 6, .inl (fun _ => 0))), (gk, .inl (d10, 360, .inl fk)), (gi, .inl (d11, 360, .inl (fun _ => 0))), (gp, .inl (d12, 360, .inl (fun _ => 0))), (go, .inl (d13, 360, .inl (fun _ => 0)))] ∧ sz + 2223 ≤ t.heap.size) (va_A [(hm, .inr (3, [.int th, .int 6, .ref wi, .ref co, .ref sl, .ref rn, .ref so, .ref bn, .ref sm, .ref ah])), (sm, .inr (2, [.int 0, .ref gr, .ref gt, .ref gw, .ref gk, .ref gi, .ref gp, .ref go, .ref gg, .ref hm])), (wi, .inl (d1, 6, .inl fw)), (co, .inl (d2, 6, .inl fc)), (sl, .inl (d3, 6, .inl fs)), (gr, .inl (d4, 6, .inl fg)), (bn, .inl (d5, 3, .inl (fun _ => 0))), (rn, .inl (d6, 12, .inl fn)), (so, .inl (d7, 12, .inl (fun _ => 0))), (gt, .inl (d8, 6, .inl (fun _ => 0))), (gw, .inl (d9, 6, .inl (fun _ => 0))), (gk, .inl (d10, 360, .inl fk)), (gi, .inl (d11, 360, .inl (fun _ => 0))), (gp, .inl (d12, 360, .inl (fun _ => 0))), (go, .inl (d13, 360, .inl (fun _ => 0)))] sz)) 2223 13527 (va_A [(hm, .inr (3, [.int th, .int 6, .ref wi, .ref co, .ref sl, .ref rn, .ref so, .ref bn, .ref sm, .ref ah])), (sm, .inr (2, [.int 0, .ref gr, .ref gt, .ref gw, .ref gk, .ref gi, .ref gp, .ref go, .ref gg, .ref hm])), (wi, .inl (d1, 6, .inl fw)), (co, .inl (d2, 6, .inl fc)), (sl, .inl (d3, 6, .inl fs)), (gr, .inl (d4, 6, .inl fg)), (bn, .inl (d5, 3, .inl (fun _ => 0))), (rn, .inl (d6, 12, .inl fn)), (so, .inl (d7, 12, .inl (fun _ => 0))), (gt, .inl (d8, 6, .inl (fun _ => 0))), (gw, .inl (d9, 6, .inl (fun _ => 0))), (gk, .inl (d10, 360, .inl fk)), (gi, .inl (d11, 360, .inl (fun _ => 0))), (gp, .inl (d12, 360, .inl (fun _ => 0))), (go, .inl (d13, 360, .inl (fun _ => 0)))] sz) := by
  refine Met.ofW (cc := cX3_digest) (maxL := 7) (ret := (some .long)) (by decide) rfl ?_
  intro p e s m args below meth c s₁ B hml hv
  obtain ⟨rfl, hsz, hP, hK, hD0, hZN⟩ := hv
  have hx := B.exec
  have hb := B.bytes
  have hr := B.returns
  have hts := atoms_spec (ws := wsX3_digest) B.pre
  have hown : s.vm.findClass RX3 = some m.cls := findClass_of_methodNamed B.named
  have hlocks := B.notSynchronized
  subst hsz
  have hD := hD0.self (sz := s.heap.size)
  generalize hAe : va_A [(hm, .inr (3, [.int th, .int 6, .ref wi, .ref co, .ref sl, .ref rn, .ref so, .ref bn, .ref sm, .ref ah])), (sm, .inr (2, [.int 0, .ref gr, .ref gt, .ref gw, .ref gk, .ref gi, .ref gp, .ref go, .ref gg, .ref hm])), (wi, .inl (d1, 6, .inl fw)), (co, .inl (d2, 6, .inl fc)), (sl, .inl (d3, 6, .inl fs)), (gr, .inl (d4, 6, .inl fg)), (bn, .inl (d5, 3, .inl (fun _ => 0))), (rn, .inl (d6, 12, .inl fn)), (so, .inl (d7, 12, .inl (fun _ => 0))), (gt, .inl (d8, 6, .inl (fun _ => 0))), (gw, .inl (d9, 6, .inl (fun _ => 0))), (gk, .inl (d10, 360, .inl fk)), (gi, .inl (d11, 360, .inl (fun _ => 0))), (gp, .inl (d12, 360, .inl (fun _ => 0))), (go, .inl (d13, 360, .inl (fun _ => 0)))] s.heap.size = A at hD ⊢
  have hA : ∀ q : Nat, s.heap.size ≤ q → A q := fun q h => by rw [← hAe]; exact Or.inr h
  have hS : va_S A s.heap s.heap [] := va_S.rf
  have hP : va_P (dC, dI) vwCl [(hm, .inr (3, [.int th, .int 6, .ref wi, .ref co, .ref sl, .ref rn, .ref so, .ref bn, .ref sm, .ref ah])), (sm, .inr (2, [.int 0, .ref gr, .ref gt, .ref gw, .ref gk, .ref gi, .ref gp, .ref go, .ref gg, .ref hm])), (wi, .inl (d1, 6, .inl fw)), (co, .inl (d2, 6, .inl fc)), (sl, .inl (d3, 6, .inl fs)), (gr, .inl (d4, 6, .inl fg)), (bn, .inl (d5, 3, .inl (fun _ => 0))), (rn, .inl (d6, 12, .inl fn)), (so, .inl (d7, 12, .inl (fun _ => 0))), (gt, .inl (d8, 6, .inl (fun _ => 0))), (gw, .inl (d9, 6, .inl (fun _ => 0))), (gk, .inl (d10, 360, .inl fk)), (gi, .inl (d11, 360, .inl (fun _ => 0))), (gp, .inl (d12, 360, .inl (fun _ => 0))), (go, .inl (d13, 360, .inl (fun _ => 0)))] s.heap := hP
  have hl := lv_entry ([.ref hm]) (n := 7) (Nat.le_of_ble_eq_true rfl)
  rw [lg_entry_eq]
  generalize (lg_sl ([.ref hm]) ++ List.replicate (7 - (lg_sl ([.ref hm])).length) Slot.unset).toArray = ls at hl ⊢
  have hl : lv_has ls 7 [(0, .ref hm)] := hl
  refine lv_aload_n hx hb dX3_digest_0 rfl (lv_at hl 0 rfl) ?_
  refine lv_iconst (v := 0) hx hb dX3_digest_1 (by decide) ?_
  refine va_put (D := (dC, dI)) (ci := 3) (v := .int 0) (ty := .int) (C := RX3) (T := TX3) (N := 10) hx hb hts (by decide +kernel) tyX3 tyX3_ok nmX3 hown hK hP hD hS 0 rfl rfl 0 (by decide) (hts (.fieldLink RX3 40 "ThatchRoofModel" "thrown" "I") (by decide +kernel)) (fun _ h9 => h9) rfl (by decide +kernel) rfl rfl (Nat.le_of_ble_eq_true rfl) dX3_digest_2 (fun H locs hP hD hS => ?_)
  have hP : va_P (dC, dI) vwCl [(hm, .inr (3, [.int 0, .int 6, .ref wi, .ref co, .ref sl, .ref rn, .ref so, .ref bn, .ref sm, .ref ah])), (sm, .inr (2, [.int 0, .ref gr, .ref gt, .ref gw, .ref gk, .ref gi, .ref gp, .ref go, .ref gg, .ref hm])), (wi, .inl (d1, 6, .inl fw)), (co, .inl (d2, 6, .inl fc)), (sl, .inl (d3, 6, .inl fs)), (gr, .inl (d4, 6, .inl fg)), (bn, .inl (d5, 3, .inl (fun _ => 0))), (rn, .inl (d6, 12, .inl fn)), (so, .inl (d7, 12, .inl (fun _ => 0))), (gt, .inl (d8, 6, .inl (fun _ => 0))), (gw, .inl (d9, 6, .inl (fun _ => 0))), (gk, .inl (d10, 360, .inl fk)), (gi, .inl (d11, 360, .inl (fun _ => 0))), (gp, .inl (d12, 360, .inl (fun _ => 0))), (go, .inl (d13, 360, .inl (fun _ => 0)))] H := hP
  have hD : va_D A [(hm, .inr (3, [.int 0, .int 6, .ref wi, .ref co, .ref sl, .ref rn, .ref so, .ref bn, .ref sm, .ref ah])), (sm, .inr (2, [.int 0, .ref gr, .ref gt, .ref gw, .ref gk, .ref gi, .ref gp, .ref go, .ref gg, .ref hm])), (wi, .inl (d1, 6, .inl fw)), (co, .inl (d2, 6, .inl fc)), (sl, .inl (d3, 6, .inl fs)), (gr, .inl (d4, 6, .inl fg)), (bn, .inl (d5, 3, .inl (fun _ => 0))), (rn, .inl (d6, 12, .inl fn)), (so, .inl (d7, 12, .inl (fun _ => 0))), (gt, .inl (d8, 6, .inl (fun _ => 0))), (gw, .inl (d9, 6, .inl (fun _ => 0))), (gk, .inl (d10, 360, .inl fk)), (gi, .inl (d11, 360, .inl (fun _ => 0))), (gp, .inl (d12, 360, .inl (fun _ => 0))), (go, .inl (d13, 360, .inl (fun _ => 0)))] := hD
  refine lv_ldc2 (v := 739) hx hb hown (hts (.constantLong RX3 149 739) (by decide +kernel)) dX3_digest_5 ?_
  refine lv_lstore_n (lv' := [(1, .long 739), (0, .ref hm)]) hx hb dX3_digest_8 rfl hl (by decide) rfl (fun ls hl => ?_)
  refine lv_iconst (v := 0) hx hb dX3_digest_9 (by decide) ?_
  refine lv_istore_n (lv' := [(3, .int 0), (1, .long 739), (0, .ref hm)]) hx hb dX3_digest_10 rfl hl (by decide) rfl (fun ls hl => ?_)
  refine lv_iload_n hx hb dX3_digest_11 rfl (lv_at hl 0 rfl) ?_
  refine lv_bipush (v := 8) hx hb dX3_digest_12 (by decide) ?_
  refine lv_icmp_gt (tgt := 36) hx hb dX3_digest_14 (by decide) (fun c1 => absurd c1 (by decide)) (fun c1 => ?_)
  refine lv_lload_n hx hb dX3_digest_17 rfl (lv_at hl 1 rfl) ?_
  refine lv_ldc2 (v := 31) hx hb hown (hts (.constantLong RX3 151 31) (by decide +kernel)) dX3_digest_18 ?_
  refine lv_lmul hx hb dX3_digest_21 ?_
  refine W.eq (g2 := F0 m 22 ls [.long 22909]) rfl ?_
  refine lv_aload_n hx hb dX3_digest_22 rfl (lv_at hl 2 rfl) ?_
  refine lv_iload_n hx hb dX3_digest_23 rfl (lv_at hl 0 rfl) ?_
  have hPc := hP.sub (ws' := [(hm, .inr (3, [.int 0, .int 6, .ref wi, .ref co, .ref sl, .ref rn, .ref so, .ref bn, .ref sm, .ref ah])), (sm, .inr (2, [.int 0, .ref gr, .ref gt, .ref gw, .ref gk, .ref gi, .ref gp, .ref go, .ref gg, .ref hm])), (wi, .inl (d1, 6, .inl fw)), (co, .inl (d2, 6, .inl fc)), (bn, .inl (d5, 3, .inl (fun _ => 0))), (rn, .inl (d6, 12, .inl fn)), (so, .inl (d7, 12, .inl (fun _ => 0))), (gk, .inl (d10, 360, .inl fk)), (gi, .inl (d11, 360, .inl (fun _ => 0)))]) [0, 1, 2, 3, 6, 7, 8, 11, 12] rfl
  have hKc := hK.sub (tys' := [(d1, .int), (d2, .int), (d5, .int), (d6, .int), (d7, .int), (d10, .int), (d11, .int)]) [0, 1, 4, 5, 6, 9, 10] rfl
  have hDc := hD.sub (ws' := [(hm, .inr (3, [.int 0, .int 6, .ref wi, .ref co, .ref sl, .ref rn, .ref so, .ref bn, .ref sm, .ref ah])), (sm, .inr (2, [.int 0, .ref gr, .ref gt, .ref gw, .ref gk, .ref gi, .ref gp, .ref go, .ref gg, .ref hm])), (wi, .inl (d1, 6, .inl fw)), (co, .inl (d2, 6, .inl fc)), (bn, .inl (d5, 3, .inl (fun _ => 0))), (rn, .inl (d6, 12, .inl fn)), (so, .inl (d7, 12, .inl (fun _ => 0))), (gk, .inl (d10, 360, .inl fk)), (gi, .inl (d11, 360, .inl (fun _ => 0)))]) [0, 1, 2, 3, 6, 7, 8, 11, 12] (by decide) rfl
  have hFc := va_free (wc := [(hm, .inr (3, [.int 0, .int 6, .ref wi, .ref co, .ref sl, .ref rn, .ref so, .ref bn, .ref sm, .ref ah])), (sm, .inr (2, [.int 0, .ref gr, .ref gt, .ref gw, .ref gk, .ref gi, .ref gp, .ref go, .ref gg, .ref hm])), (wi, .inl (d1, 6, .inl fw)), (co, .inl (d2, 6, .inl fc)), (bn, .inl (d5, 3, .inl (fun _ => 0))), (rn, .inl (d6, 12, .inl fn)), (so, .inl (d7, 12, .inl (fun _ => 0))), (gk, .inl (d10, 360, .inl fk)), (gi, .inl (d11, 360, .inl (fun _ => 0)))]) hD hS hA [0, 1, 2, 3, 6, 7, 8, 11, 12] rfl
  have hZ : s.heap.size + 0 ≤ H.size := hS.1
  refine va_calli (va_runV (As := [.int 0]) (rest := [.long 22909]) ⟨hx, hb, hml, hown, hts⟩ (r3_counted0 l dC dI H.size hm wi co sl rn so bn sm ah 0 gr gt gw gk gi gp go gg d1 d2 d5 d6 d7 d10 d11 fw fc fn fk (by first | assumption | decide | omega) (by first | assumption | decide | omega) (by first | assumption | decide | omega) (by first | assumption | decide | omega)) (cwV 1 hts gX3_digest_X3_counted rfl rfl rfl (by decide +kernel) ⟨Nat.le_of_ble_eq_true rfl, Nat.le_of_ble_eq_true rfl⟩) ⟨fun a U g mk q => by obtain ⟨q0, q1, qP, qK, qD, qN⟩ := q; exact ⟨q0, q1, qP, va_K.moved (u := U) (U := U.calling g mk a) (Vm.Alike.refl U.vm) qK, qD, zNs.calling qN⟩, va_recv hKc hPc (ci := 3) (q0 := 0) rfl rfl, fun U hU hW => ⟨rfl, by rw [hU], by rw [hU]; exact hPc, va_K.moved hW.alike hKc, hDc.weaken (fun _ _ _ _ => trivial), zNs.warm hW hZN⟩⟩ rfl rfl hl.1 rfl (lv_room (Nat.le_of_ble_eq_true rfl)) dX3_digest_24 ⟨Nat.le_of_ble_eq_true rfl, Nat.le_of_ble_eq_true rfl⟩) hS (fun q _ h => hFc q h) hFc (fun r2 u t H1 locs ht hvm hr2 hB hz1 hk1 hS => ?_)
  obtain ⟨hP1, hK1, hD1, hZ1⟩ := hB
  rw [ht] at hP1 hZ1
  have hZ : s.heap.size + 1 ≤ H1.size := by omega
  have hK1 := va_K.moved hvm.symm hK1
  try dsimp only at hr2
  obtain ⟨hP, hD⟩ := va_join (wr := [(sl, .inl (d3, 6, .inl fs)), (gr, .inl (d4, 6, .inl fg)), (gt, .inl (d8, 6, .inl (fun _ => 0))), (gw, .inl (d9, 6, .inl (fun _ => 0))), (gp, .inl (d12, 360, .inl (fun _ => 0))), (go, .inl (d13, 360, .inl (fun _ => 0)))]) (w1 := [(hm, .inr (3, [.int 0, .int 6, .ref wi, .ref co, .ref sl, .ref rn, .ref so, .ref bn, .ref sm, .ref ah])), (sm, .inr (2, [.int 0, .ref gr, .ref gt, .ref gw, .ref gk, .ref gi, .ref gp, .ref go, .ref gg, .ref hm])), (wi, .inl (d1, 6, .inl fw)), (co, .inl (d2, 6, .inl fc)), (bn, .inl (d5, 3, .inl (fun _ => 0))), (rn, .inl (d6, 12, .inl fn)), (so, .inl (d7, 12, .inl (fun _ => 0))), (gk, .inl (d10, 360, .inl fk)), (gi, .inl (d11, 360, .inl (fun _ => 0)))]) hP hD [0, 1, 2, 3, 6, 7, 8, 11, 12] [4, 5, 9, 10, 13, 14] rfl rfl (by decide) (by decide) hk1 hFc hP1 hD1
  generalize H1 = H at hP hS hZ ⊢
  have hP : va_P (dC, dI) vwCl [(sl, .inl (d3, 6, .inl fs)), (gr, .inl (d4, 6, .inl fg)), (gt, .inl (d8, 6, .inl (fun _ => 0))), (gw, .inl (d9, 6, .inl (fun _ => 0))), (gp, .inl (d12, 360, .inl (fun _ => 0))), (go, .inl (d13, 360, .inl (fun _ => 0))), (hm, .inr (3, [.int 0, .int 6, .ref wi, .ref co, .ref sl, .ref rn, .ref so, .ref bn, .ref sm, .ref ah])), (sm, .inr (2, [.int 0, .ref gr, .ref gt, .ref gw, .ref gk, .ref gi, .ref gp, .ref go, .ref gg, .ref hm])), (wi, .inl (d1, 6, .inl fw)), (co, .inl (d2, 6, .inl fc)), (bn, .inl (d5, 3, .inl (fun _ => 0))), (rn, .inl (d6, 12, .inl fn)), (so, .inl (d7, 12, .inl (fun _ => 0))), (gk, .inl (d10, 360, .inl fk)), (gi, .inl (d11, 360, .inl (fun _ => 0)))] H := hP
  have hD : va_D A [(sl, .inl (d3, 6, .inl fs)), (gr, .inl (d4, 6, .inl fg)), (gt, .inl (d8, 6, .inl (fun _ => 0))), (gw, .inl (d9, 6, .inl (fun _ => 0))), (gp, .inl (d12, 360, .inl (fun _ => 0))), (go, .inl (d13, 360, .inl (fun _ => 0))), (hm, .inr (3, [.int 0, .int 6, .ref wi, .ref co, .ref sl, .ref rn, .ref so, .ref bn, .ref sm, .ref ah])), (sm, .inr (2, [.int 0, .ref gr, .ref gt, .ref gw, .ref gk, .ref gi, .ref gp, .ref go, .ref gg, .ref hm])), (wi, .inl (d1, 6, .inl fw)), (co, .inl (d2, 6, .inl fc)), (bn, .inl (d5, 3, .inl (fun _ => 0))), (rn, .inl (d6, 12, .inl fn)), (so, .inl (d7, 12, .inl (fun _ => 0))), (gk, .inl (d10, 360, .inl fk)), (gi, .inl (d11, 360, .inl (fun _ => 0)))] := hD
  refine W.widen (k := 1) (n := 9) (Nat.le_of_ble_eq_true rfl) (Nat.le_of_ble_eq_true rfl) ?_
  obtain rfl := hr2
  refine lv_i2l (v := 0) hx hb dX3_digest_27 (by first | rfl | decide) ?_
  refine lv_ladd hx hb dX3_digest_28 ?_
  refine W.eq (g2 := F0 m 29 ls [.long 22909]) rfl ?_
  refine lv_lstore_n (lv' := [(1, .long 22909), (3, .int 0), (0, .ref hm)]) hx hb dX3_digest_29 rfl hl (by decide) rfl (fun ls hl => ?_)
  refine lv_iinc (v := 1) (lv' := [(3, .int 1), (1, .long 22909), (0, .ref hm)]) hx hb dX3_digest_30 hl (k := 1) rfl (by decide) (by decide) rfl (fun ls hl => ?_)
  refine lv_goto (tgt := 11) hx hb dX3_digest_33 (by decide) ?_
  refine lv_iload_n hx hb dX3_digest_11 rfl (lv_at hl 0 rfl) ?_
  refine lv_bipush (v := 8) hx hb dX3_digest_12 (by decide) ?_
  refine lv_icmp_gt (tgt := 36) hx hb dX3_digest_14 (by decide) (fun c3 => absurd c3 (by decide)) (fun c3 => ?_)
  refine lv_lload_n hx hb dX3_digest_17 rfl (lv_at hl 1 rfl) ?_
  refine lv_ldc2 (v := 31) hx hb hown (hts (.constantLong RX3 151 31) (by decide +kernel)) dX3_digest_18 ?_
  refine lv_lmul hx hb dX3_digest_21 ?_
  refine W.eq (g2 := F0 m 22 ls [.long 710179]) rfl ?_
  refine lv_aload_n hx hb dX3_digest_22 rfl (lv_at hl 2 rfl) ?_
  refine lv_iload_n hx hb dX3_digest_23 rfl (lv_at hl 0 rfl) ?_
  have hPc := hP.sub (ws' := [(hm, .inr (3, [.int 0, .int 6, .ref wi, .ref co, .ref sl, .ref rn, .ref so, .ref bn, .ref sm, .ref ah])), (sm, .inr (2, [.int 0, .ref gr, .ref gt, .ref gw, .ref gk, .ref gi, .ref gp, .ref go, .ref gg, .ref hm])), (wi, .inl (d1, 6, .inl fw)), (co, .inl (d2, 6, .inl fc)), (bn, .inl (d5, 3, .inl (fun _ => 0))), (rn, .inl (d6, 12, .inl fn)), (so, .inl (d7, 12, .inl (fun _ => 0))), (gk, .inl (d10, 360, .inl fk)), (gi, .inl (d11, 360, .inl (fun _ => 0)))]) [6, 7, 8, 9, 10, 11, 12, 13, 14] rfl
  have hKc := hK.sub (tys' := [(d1, .int), (d2, .int), (d5, .int), (d6, .int), (d7, .int), (d10, .int), (d11, .int)]) [0, 1, 4, 5, 6, 9, 10] rfl
  have hDc := hD.sub (ws' := [(hm, .inr (3, [.int 0, .int 6, .ref wi, .ref co, .ref sl, .ref rn, .ref so, .ref bn, .ref sm, .ref ah])), (sm, .inr (2, [.int 0, .ref gr, .ref gt, .ref gw, .ref gk, .ref gi, .ref gp, .ref go, .ref gg, .ref hm])), (wi, .inl (d1, 6, .inl fw)), (co, .inl (d2, 6, .inl fc)), (bn, .inl (d5, 3, .inl (fun _ => 0))), (rn, .inl (d6, 12, .inl fn)), (so, .inl (d7, 12, .inl (fun _ => 0))), (gk, .inl (d10, 360, .inl fk)), (gi, .inl (d11, 360, .inl (fun _ => 0)))]) [6, 7, 8, 9, 10, 11, 12, 13, 14] (by decide) rfl
  have hFc := va_free (wc := [(hm, .inr (3, [.int 0, .int 6, .ref wi, .ref co, .ref sl, .ref rn, .ref so, .ref bn, .ref sm, .ref ah])), (sm, .inr (2, [.int 0, .ref gr, .ref gt, .ref gw, .ref gk, .ref gi, .ref gp, .ref go, .ref gg, .ref hm])), (wi, .inl (d1, 6, .inl fw)), (co, .inl (d2, 6, .inl fc)), (bn, .inl (d5, 3, .inl (fun _ => 0))), (rn, .inl (d6, 12, .inl fn)), (so, .inl (d7, 12, .inl (fun _ => 0))), (gk, .inl (d10, 360, .inl fk)), (gi, .inl (d11, 360, .inl (fun _ => 0)))]) hD hS hA [6, 7, 8, 9, 10, 11, 12, 13, 14] rfl
  refine va_calli (va_runV (As := [.int 1]) (rest := [.long 710179]) ⟨hx, hb, hml, hown, hts⟩ (r3_counted1 l dC dI H.size hm wi co sl rn so bn sm ah 0 gr gt gw gk gi gp go gg d1 d2 d5 d6 d7 d10 d11 fw fc fn fk (by first | assumption | decide | omega) (by first | assumption | decide | omega) (by first | assumption | decide | omega) (by first | assumption | decide | omega)) (cwV 1 hts gX3_digest_X3_counted rfl rfl rfl (by decide +kernel) ⟨Nat.le_of_ble_eq_true rfl, Nat.le_of_ble_eq_true rfl⟩) ⟨fun a U g mk q => by obtain ⟨q0, q1, qP, qK, qD, qN⟩ := q; exact ⟨q0, q1, qP, va_K.moved (u := U) (U := U.calling g mk a) (Vm.Alike.refl U.vm) qK, qD, zNs.calling qN⟩, va_recv hKc hPc (ci := 3) (q0 := 0) rfl rfl, fun U hU hW => ⟨rfl, by rw [hU], by rw [hU]; exact hPc, va_K.moved hW.alike hKc, hDc.weaken (fun _ _ _ _ => trivial), zNs.warm hW hZN⟩⟩ rfl rfl hl.1 rfl (lv_room (Nat.le_of_ble_eq_true rfl)) dX3_digest_24 ⟨Nat.le_of_ble_eq_true rfl, Nat.le_of_ble_eq_true rfl⟩) hS (fun q _ h => hFc q h) hFc (fun r4 u t H1 locs ht hvm hr4 hB hz1 hk1 hS => ?_)
  obtain ⟨hP1, hK1, hD1, hZ1⟩ := hB
  rw [ht] at hP1 hZ1
  have hZ : s.heap.size + 2 ≤ H1.size := by omega
  have hK1 := va_K.moved hvm.symm hK1
  try dsimp only at hr4
  obtain ⟨hP, hD⟩ := va_join (wr := [(sl, .inl (d3, 6, .inl fs)), (gr, .inl (d4, 6, .inl fg)), (gt, .inl (d8, 6, .inl (fun _ => 0))), (gw, .inl (d9, 6, .inl (fun _ => 0))), (gp, .inl (d12, 360, .inl (fun _ => 0))), (go, .inl (d13, 360, .inl (fun _ => 0)))]) (w1 := [(hm, .inr (3, [.int 0, .int 6, .ref wi, .ref co, .ref sl, .ref rn, .ref so, .ref bn, .ref sm, .ref ah])), (sm, .inr (2, [.int 0, .ref gr, .ref gt, .ref gw, .ref gk, .ref gi, .ref gp, .ref go, .ref gg, .ref hm])), (wi, .inl (d1, 6, .inl fw)), (co, .inl (d2, 6, .inl fc)), (bn, .inl (d5, 3, .inl (fun _ => 0))), (rn, .inl (d6, 12, .inl fn)), (so, .inl (d7, 12, .inl (fun _ => 0))), (gk, .inl (d10, 360, .inl fk)), (gi, .inl (d11, 360, .inl (fun _ => 0)))]) hP hD [6, 7, 8, 9, 10, 11, 12, 13, 14] [0, 1, 2, 3, 4, 5] rfl rfl (by decide) (by decide) hk1 hFc hP1 hD1
  generalize H1 = H at hP hS hZ ⊢
  have hP : va_P (dC, dI) vwCl [(sl, .inl (d3, 6, .inl fs)), (gr, .inl (d4, 6, .inl fg)), (gt, .inl (d8, 6, .inl (fun _ => 0))), (gw, .inl (d9, 6, .inl (fun _ => 0))), (gp, .inl (d12, 360, .inl (fun _ => 0))), (go, .inl (d13, 360, .inl (fun _ => 0))), (hm, .inr (3, [.int 0, .int 6, .ref wi, .ref co, .ref sl, .ref rn, .ref so, .ref bn, .ref sm, .ref ah])), (sm, .inr (2, [.int 0, .ref gr, .ref gt, .ref gw, .ref gk, .ref gi, .ref gp, .ref go, .ref gg, .ref hm])), (wi, .inl (d1, 6, .inl fw)), (co, .inl (d2, 6, .inl fc)), (bn, .inl (d5, 3, .inl (fun _ => 0))), (rn, .inl (d6, 12, .inl fn)), (so, .inl (d7, 12, .inl (fun _ => 0))), (gk, .inl (d10, 360, .inl fk)), (gi, .inl (d11, 360, .inl (fun _ => 0)))] H := hP
  have hD : va_D A [(sl, .inl (d3, 6, .inl fs)), (gr, .inl (d4, 6, .inl fg)), (gt, .inl (d8, 6, .inl (fun _ => 0))), (gw, .inl (d9, 6, .inl (fun _ => 0))), (gp, .inl (d12, 360, .inl (fun _ => 0))), (go, .inl (d13, 360, .inl (fun _ => 0))), (hm, .inr (3, [.int 0, .int 6, .ref wi, .ref co, .ref sl, .ref rn, .ref so, .ref bn, .ref sm, .ref ah])), (sm, .inr (2, [.int 0, .ref gr, .ref gt, .ref gw, .ref gk, .ref gi, .ref gp, .ref go, .ref gg, .ref hm])), (wi, .inl (d1, 6, .inl fw)), (co, .inl (d2, 6, .inl fc)), (bn, .inl (d5, 3, .inl (fun _ => 0))), (rn, .inl (d6, 12, .inl fn)), (so, .inl (d7, 12, .inl (fun _ => 0))), (gk, .inl (d10, 360, .inl fk)), (gi, .inl (d11, 360, .inl (fun _ => 0)))] := hD
  refine W.widen (k := 2) (n := 18) (Nat.le_of_ble_eq_true rfl) (Nat.le_of_ble_eq_true rfl) ?_
  obtain rfl := hr4
  refine lv_i2l (v := 6) hx hb dX3_digest_27 (by first | rfl | decide) ?_
  refine lv_ladd hx hb dX3_digest_28 ?_
  refine W.eq (g2 := F0 m 29 ls [.long 710185]) rfl ?_
  refine lv_lstore_n (lv' := [(1, .long 710185), (3, .int 1), (0, .ref hm)]) hx hb dX3_digest_29 rfl hl (by decide) rfl (fun ls hl => ?_)
  refine lv_iinc (v := 2) (lv' := [(3, .int 2), (1, .long 710185), (0, .ref hm)]) hx hb dX3_digest_30 hl (k := 1) rfl (by decide) (by decide) rfl (fun ls hl => ?_)
  refine lv_goto (tgt := 11) hx hb dX3_digest_33 (by decide) ?_
  refine lv_iload_n hx hb dX3_digest_11 rfl (lv_at hl 0 rfl) ?_
  refine lv_bipush (v := 8) hx hb dX3_digest_12 (by decide) ?_
  refine lv_icmp_gt (tgt := 36) hx hb dX3_digest_14 (by decide) (fun c5 => absurd c5 (by decide)) (fun c5 => ?_)
  refine lv_lload_n hx hb dX3_digest_17 rfl (lv_at hl 1 rfl) ?_
  refine lv_ldc2 (v := 31) hx hb hown (hts (.constantLong RX3 151 31) (by decide +kernel)) dX3_digest_18 ?_
  refine lv_lmul hx hb dX3_digest_21 ?_
  refine W.eq (g2 := F0 m 22 ls [.long 22015735]) rfl ?_
  refine lv_aload_n hx hb dX3_digest_22 rfl (lv_at hl 2 rfl) ?_
  refine lv_iload_n hx hb dX3_digest_23 rfl (lv_at hl 0 rfl) ?_
  have hPc := hP.sub (ws' := [(hm, .inr (3, [.int 0, .int 6, .ref wi, .ref co, .ref sl, .ref rn, .ref so, .ref bn, .ref sm, .ref ah])), (sm, .inr (2, [.int 0, .ref gr, .ref gt, .ref gw, .ref gk, .ref gi, .ref gp, .ref go, .ref gg, .ref hm])), (wi, .inl (d1, 6, .inl fw)), (co, .inl (d2, 6, .inl fc)), (bn, .inl (d5, 3, .inl (fun _ => 0))), (rn, .inl (d6, 12, .inl fn)), (so, .inl (d7, 12, .inl (fun _ => 0))), (gk, .inl (d10, 360, .inl fk)), (gi, .inl (d11, 360, .inl (fun _ => 0)))]) [6, 7, 8, 9, 10, 11, 12, 13, 14] rfl
  have hKc := hK.sub (tys' := [(d1, .int), (d2, .int), (d5, .int), (d6, .int), (d7, .int), (d10, .int), (d11, .int)]) [0, 1, 4, 5, 6, 9, 10] rfl
  have hDc := hD.sub (ws' := [(hm, .inr (3, [.int 0, .int 6, .ref wi, .ref co, .ref sl, .ref rn, .ref so, .ref bn, .ref sm, .ref ah])), (sm, .inr (2, [.int 0, .ref gr, .ref gt, .ref gw, .ref gk, .ref gi, .ref gp, .ref go, .ref gg, .ref hm])), (wi, .inl (d1, 6, .inl fw)), (co, .inl (d2, 6, .inl fc)), (bn, .inl (d5, 3, .inl (fun _ => 0))), (rn, .inl (d6, 12, .inl fn)), (so, .inl (d7, 12, .inl (fun _ => 0))), (gk, .inl (d10, 360, .inl fk)), (gi, .inl (d11, 360, .inl (fun _ => 0)))]) [6, 7, 8, 9, 10, 11, 12, 13, 14] (by decide) rfl
  have hFc := va_free (wc := [(hm, .inr (3, [.int 0, .int 6, .ref wi, .ref co, .ref sl, .ref rn, .ref so, .ref bn, .ref sm, .ref ah])), (sm, .inr (2, [.int 0, .ref gr, .ref gt, .ref gw, .ref gk, .ref gi, .ref gp, .ref go, .ref gg, .ref hm])), (wi, .inl (d1, 6, .inl fw)), (co, .inl (d2, 6, .inl fc)), (bn, .inl (d5, 3, .inl (fun _ => 0))), (rn, .inl (d6, 12, .inl fn)), (so, .inl (d7, 12, .inl (fun _ => 0))), (gk, .inl (d10, 360, .inl fk)), (gi, .inl (d11, 360, .inl (fun _ => 0)))]) hD hS hA [6, 7, 8, 9, 10, 11, 12, 13, 14] rfl
  refine va_calli (va_runV (As := [.int 2]) (rest := [.long 22015735]) ⟨hx, hb, hml, hown, hts⟩ (r3_counted2 l dC dI H.size hm wi co sl rn so bn sm ah 0 gr gt gw gk gi gp go gg d1 d2 d5 d6 d7 d10 d11 fw fc fn fk (by first | assumption | decide | omega) (by first | assumption | decide | omega) (by first | assumption | decide | omega) (by first | assumption | decide | omega)) (cwV 1 hts gX3_digest_X3_counted rfl rfl rfl (by decide +kernel) ⟨Nat.le_of_ble_eq_true rfl, Nat.le_of_ble_eq_true rfl⟩) ⟨fun a U g mk q => by obtain ⟨q0, q1, qP, qK, qD, qN⟩ := q; exact ⟨q0, q1, qP, va_K.moved (u := U) (U := U.calling g mk a) (Vm.Alike.refl U.vm) qK, qD, zNs.calling qN⟩, va_recv hKc hPc (ci := 3) (q0 := 0) rfl rfl, fun U hU hW => ⟨rfl, by rw [hU], by rw [hU]; exact hPc, va_K.moved hW.alike hKc, hDc.weaken (fun _ _ _ _ => trivial), zNs.warm hW hZN⟩⟩ rfl rfl hl.1 rfl (lv_room (Nat.le_of_ble_eq_true rfl)) dX3_digest_24 ⟨Nat.le_of_ble_eq_true rfl, Nat.le_of_ble_eq_true rfl⟩) hS (fun q _ h => hFc q h) hFc (fun r6 u t H1 locs ht hvm hr6 hB hz1 hk1 hS => ?_)
  obtain ⟨hP1, hK1, hD1, hZ1⟩ := hB
  rw [ht] at hP1 hZ1
  have hZ : s.heap.size + 3 ≤ H1.size := by omega
  have hK1 := va_K.moved hvm.symm hK1
  try dsimp only at hr6
  obtain ⟨hP, hD⟩ := va_join (wr := [(sl, .inl (d3, 6, .inl fs)), (gr, .inl (d4, 6, .inl fg)), (gt, .inl (d8, 6, .inl (fun _ => 0))), (gw, .inl (d9, 6, .inl (fun _ => 0))), (gp, .inl (d12, 360, .inl (fun _ => 0))), (go, .inl (d13, 360, .inl (fun _ => 0)))]) (w1 := [(hm, .inr (3, [.int 0, .int 6, .ref wi, .ref co, .ref sl, .ref rn, .ref so, .ref bn, .ref sm, .ref ah])), (sm, .inr (2, [.int 0, .ref gr, .ref gt, .ref gw, .ref gk, .ref gi, .ref gp, .ref go, .ref gg, .ref hm])), (wi, .inl (d1, 6, .inl fw)), (co, .inl (d2, 6, .inl fc)), (bn, .inl (d5, 3, .inl (fun _ => 0))), (rn, .inl (d6, 12, .inl fn)), (so, .inl (d7, 12, .inl (fun _ => 0))), (gk, .inl (d10, 360, .inl fk)), (gi, .inl (d11, 360, .inl (fun _ => 0)))]) hP hD [6, 7, 8, 9, 10, 11, 12, 13, 14] [0, 1, 2, 3, 4, 5] rfl rfl (by decide) (by decide) hk1 hFc hP1 hD1
  generalize H1 = H at hP hS hZ ⊢
  have hP : va_P (dC, dI) vwCl [(sl, .inl (d3, 6, .inl fs)), (gr, .inl (d4, 6, .inl fg)), (gt, .inl (d8, 6, .inl (fun _ => 0))), (gw, .inl (d9, 6, .inl (fun _ => 0))), (gp, .inl (d12, 360, .inl (fun _ => 0))), (go, .inl (d13, 360, .inl (fun _ => 0))), (hm, .inr (3, [.int 0, .int 6, .ref wi, .ref co, .ref sl, .ref rn, .ref so, .ref bn, .ref sm, .ref ah])), (sm, .inr (2, [.int 0, .ref gr, .ref gt, .ref gw, .ref gk, .ref gi, .ref gp, .ref go, .ref gg, .ref hm])), (wi, .inl (d1, 6, .inl fw)), (co, .inl (d2, 6, .inl fc)), (bn, .inl (d5, 3, .inl (fun _ => 0))), (rn, .inl (d6, 12, .inl fn)), (so, .inl (d7, 12, .inl (fun _ => 0))), (gk, .inl (d10, 360, .inl fk)), (gi, .inl (d11, 360, .inl (fun _ => 0)))] H := hP
  have hD : va_D A [(sl, .inl (d3, 6, .inl fs)), (gr, .inl (d4, 6, .inl fg)), (gt, .inl (d8, 6, .inl (fun _ => 0))), (gw, .inl (d9, 6, .inl (fun _ => 0))), (gp, .inl (d12, 360, .inl (fun _ => 0))), (go, .inl (d13, 360, .inl (fun _ => 0))), (hm, .inr (3, [.int 0, .int 6, .ref wi, .ref co, .ref sl, .ref rn, .ref so, .ref bn, .ref sm, .ref ah])), (sm, .inr (2, [.int 0, .ref gr, .ref gt, .ref gw, .ref gk, .ref gi, .ref gp, .ref go, .ref gg, .ref hm])), (wi, .inl (d1, 6, .inl fw)), (co, .inl (d2, 6, .inl fc)), (bn, .inl (d5, 3, .inl (fun _ => 0))), (rn, .inl (d6, 12, .inl fn)), (so, .inl (d7, 12, .inl (fun _ => 0))), (gk, .inl (d10, 360, .inl fk)), (gi, .inl (d11, 360, .inl (fun _ => 0)))] := hD
  refine W.widen (k := 3) (n := 27) (Nat.le_of_ble_eq_true rfl) (Nat.le_of_ble_eq_true rfl) ?_
  obtain rfl := hr6
  refine lv_i2l (v := 0) hx hb dX3_digest_27 (by first | rfl | decide) ?_
  refine lv_ladd hx hb dX3_digest_28 ?_
  refine W.eq (g2 := F0 m 29 ls [.long 22015735]) rfl ?_
  refine lv_lstore_n (lv' := [(1, .long 22015735), (3, .int 2), (0, .ref hm)]) hx hb dX3_digest_29 rfl hl (by decide) rfl (fun ls hl => ?_)
  refine lv_iinc (v := 3) (lv' := [(3, .int 3), (1, .long 22015735), (0, .ref hm)]) hx hb dX3_digest_30 hl (k := 1) rfl (by decide) (by decide) rfl (fun ls hl => ?_)
  refine lv_goto (tgt := 11) hx hb dX3_digest_33 (by decide) ?_
  refine lv_iload_n hx hb dX3_digest_11 rfl (lv_at hl 0 rfl) ?_
  refine lv_bipush (v := 8) hx hb dX3_digest_12 (by decide) ?_
  refine lv_icmp_gt (tgt := 36) hx hb dX3_digest_14 (by decide) (fun c7 => absurd c7 (by decide)) (fun c7 => ?_)
  refine lv_lload_n hx hb dX3_digest_17 rfl (lv_at hl 1 rfl) ?_
  refine lv_ldc2 (v := 31) hx hb hown (hts (.constantLong RX3 151 31) (by decide +kernel)) dX3_digest_18 ?_
  refine lv_lmul hx hb dX3_digest_21 ?_
  refine W.eq (g2 := F0 m 22 ls [.long 682487785]) rfl ?_
  refine lv_aload_n hx hb dX3_digest_22 rfl (lv_at hl 2 rfl) ?_
  refine lv_iload_n hx hb dX3_digest_23 rfl (lv_at hl 0 rfl) ?_
  have hPc := hP.sub (ws' := [(hm, .inr (3, [.int 0, .int 6, .ref wi, .ref co, .ref sl, .ref rn, .ref so, .ref bn, .ref sm, .ref ah])), (sm, .inr (2, [.int 0, .ref gr, .ref gt, .ref gw, .ref gk, .ref gi, .ref gp, .ref go, .ref gg, .ref hm])), (wi, .inl (d1, 6, .inl fw)), (co, .inl (d2, 6, .inl fc)), (bn, .inl (d5, 3, .inl (fun _ => 0))), (rn, .inl (d6, 12, .inl fn)), (so, .inl (d7, 12, .inl (fun _ => 0))), (gk, .inl (d10, 360, .inl fk)), (gi, .inl (d11, 360, .inl (fun _ => 0)))]) [6, 7, 8, 9, 10, 11, 12, 13, 14] rfl
  have hKc := hK.sub (tys' := [(d1, .int), (d2, .int), (d5, .int), (d6, .int), (d7, .int), (d10, .int), (d11, .int)]) [0, 1, 4, 5, 6, 9, 10] rfl
  have hDc := hD.sub (ws' := [(hm, .inr (3, [.int 0, .int 6, .ref wi, .ref co, .ref sl, .ref rn, .ref so, .ref bn, .ref sm, .ref ah])), (sm, .inr (2, [.int 0, .ref gr, .ref gt, .ref gw, .ref gk, .ref gi, .ref gp, .ref go, .ref gg, .ref hm])), (wi, .inl (d1, 6, .inl fw)), (co, .inl (d2, 6, .inl fc)), (bn, .inl (d5, 3, .inl (fun _ => 0))), (rn, .inl (d6, 12, .inl fn)), (so, .inl (d7, 12, .inl (fun _ => 0))), (gk, .inl (d10, 360, .inl fk)), (gi, .inl (d11, 360, .inl (fun _ => 0)))]) [6, 7, 8, 9, 10, 11, 12, 13, 14] (by decide) rfl
  have hFc := va_free (wc := [(hm, .inr (3, [.int 0, .int 6, .ref wi, .ref co, .ref sl, .ref rn, .ref so, .ref bn, .ref sm, .ref ah])), (sm, .inr (2, [.int 0, .ref gr, .ref gt, .ref gw, .ref gk, .ref gi, .ref gp, .ref go, .ref gg, .ref hm])), (wi, .inl (d1, 6, .inl fw)), (co, .inl (d2, 6, .inl fc)), (bn, .inl (d5, 3, .inl (fun _ => 0))), (rn, .inl (d6, 12, .inl fn)), (so, .inl (d7, 12, .inl (fun _ => 0))), (gk, .inl (d10, 360, .inl fk)), (gi, .inl (d11, 360, .inl (fun _ => 0)))]) hD hS hA [6, 7, 8, 9, 10, 11, 12, 13, 14] rfl
  refine va_calli (va_runV (As := [.int 3]) (rest := [.long 682487785]) ⟨hx, hb, hml, hown, hts⟩ (r3_counted3 l dC dI H.size hm wi co sl rn so bn sm ah 0 gr gt gw gk gi gp go gg d1 d2 d5 d6 d7 d10 d11 fw fc fn fk (by first | assumption | decide | omega) (by first | assumption | decide | omega) (by first | assumption | decide | omega) (by first | assumption | decide | omega)) (cwV 1 hts gX3_digest_X3_counted rfl rfl rfl (by decide +kernel) ⟨Nat.le_of_ble_eq_true rfl, Nat.le_of_ble_eq_true rfl⟩) ⟨fun a U g mk q => by obtain ⟨q0, q1, qP, qK, qD, qN⟩ := q; exact ⟨q0, q1, qP, va_K.moved (u := U) (U := U.calling g mk a) (Vm.Alike.refl U.vm) qK, qD, zNs.calling qN⟩, va_recv hKc hPc (ci := 3) (q0 := 0) rfl rfl, fun U hU hW => ⟨rfl, by rw [hU], by rw [hU]; exact hPc, va_K.moved hW.alike hKc, hDc.weaken (fun _ _ _ _ => trivial), zNs.warm hW hZN⟩⟩ rfl rfl hl.1 rfl (lv_room (Nat.le_of_ble_eq_true rfl)) dX3_digest_24 ⟨Nat.le_of_ble_eq_true rfl, Nat.le_of_ble_eq_true rfl⟩) hS (fun q _ h => hFc q h) hFc (fun r8 u t H1 locs ht hvm hr8 hB hz1 hk1 hS => ?_)
  obtain ⟨hP1, hK1, hD1, hZ1⟩ := hB
  rw [ht] at hP1 hZ1
  have hZ : s.heap.size + 4 ≤ H1.size := by omega
  have hK1 := va_K.moved hvm.symm hK1
  try dsimp only at hr8
  obtain ⟨hP, hD⟩ := va_join (wr := [(sl, .inl (d3, 6, .inl fs)), (gr, .inl (d4, 6, .inl fg)), (gt, .inl (d8, 6, .inl (fun _ => 0))), (gw, .inl (d9, 6, .inl (fun _ => 0))), (gp, .inl (d12, 360, .inl (fun _ => 0))), (go, .inl (d13, 360, .inl (fun _ => 0)))]) (w1 := [(hm, .inr (3, [.int 0, .int 6, .ref wi, .ref co, .ref sl, .ref rn, .ref so, .ref bn, .ref sm, .ref ah])), (sm, .inr (2, [.int 0, .ref gr, .ref gt, .ref gw, .ref gk, .ref gi, .ref gp, .ref go, .ref gg, .ref hm])), (wi, .inl (d1, 6, .inl fw)), (co, .inl (d2, 6, .inl fc)), (bn, .inl (d5, 3, .inl (fun _ => 0))), (rn, .inl (d6, 12, .inl fn)), (so, .inl (d7, 12, .inl (fun _ => 0))), (gk, .inl (d10, 360, .inl fk)), (gi, .inl (d11, 360, .inl (fun _ => 0)))]) hP hD [6, 7, 8, 9, 10, 11, 12, 13, 14] [0, 1, 2, 3, 4, 5] rfl rfl (by decide) (by decide) hk1 hFc hP1 hD1
  generalize H1 = H at hP hS hZ ⊢
  have hP : va_P (dC, dI) vwCl [(sl, .inl (d3, 6, .inl fs)), (gr, .inl (d4, 6, .inl fg)), (gt, .inl (d8, 6, .inl (fun _ => 0))), (gw, .inl (d9, 6, .inl (fun _ => 0))), (gp, .inl (d12, 360, .inl (fun _ => 0))), (go, .inl (d13, 360, .inl (fun _ => 0))), (hm, .inr (3, [.int 0, .int 6, .ref wi, .ref co, .ref sl, .ref rn, .ref so, .ref bn, .ref sm, .ref ah])), (sm, .inr (2, [.int 0, .ref gr, .ref gt, .ref gw, .ref gk, .ref gi, .ref gp, .ref go, .ref gg, .ref hm])), (wi, .inl (d1, 6, .inl fw)), (co, .inl (d2, 6, .inl fc)), (bn, .inl (d5, 3, .inl (fun _ => 0))), (rn, .inl (d6, 12, .inl fn)), (so, .inl (d7, 12, .inl (fun _ => 0))), (gk, .inl (d10, 360, .inl fk)), (gi, .inl (d11, 360, .inl (fun _ => 0)))] H := hP
  have hD : va_D A [(sl, .inl (d3, 6, .inl fs)), (gr, .inl (d4, 6, .inl fg)), (gt, .inl (d8, 6, .inl (fun _ => 0))), (gw, .inl (d9, 6, .inl (fun _ => 0))), (gp, .inl (d12, 360, .inl (fun _ => 0))), (go, .inl (d13, 360, .inl (fun _ => 0))), (hm, .inr (3, [.int 0, .int 6, .ref wi, .ref co, .ref sl, .ref rn, .ref so, .ref bn, .ref sm, .ref ah])), (sm, .inr (2, [.int 0, .ref gr, .ref gt, .ref gw, .ref gk, .ref gi, .ref gp, .ref go, .ref gg, .ref hm])), (wi, .inl (d1, 6, .inl fw)), (co, .inl (d2, 6, .inl fc)), (bn, .inl (d5, 3, .inl (fun _ => 0))), (rn, .inl (d6, 12, .inl fn)), (so, .inl (d7, 12, .inl (fun _ => 0))), (gk, .inl (d10, 360, .inl fk)), (gi, .inl (d11, 360, .inl (fun _ => 0)))] := hD
  refine W.widen (k := 4) (n := 36) (Nat.le_of_ble_eq_true rfl) (Nat.le_of_ble_eq_true rfl) ?_
  obtain rfl := hr8
  refine lv_i2l (v := 0) hx hb dX3_digest_27 (by first | rfl | decide) ?_
  refine lv_ladd hx hb dX3_digest_28 ?_
  refine W.eq (g2 := F0 m 29 ls [.long 682487785]) rfl ?_
  refine lv_lstore_n (lv' := [(1, .long 682487785), (3, .int 3), (0, .ref hm)]) hx hb dX3_digest_29 rfl hl (by decide) rfl (fun ls hl => ?_)
  refine lv_iinc (v := 4) (lv' := [(3, .int 4), (1, .long 682487785), (0, .ref hm)]) hx hb dX3_digest_30 hl (k := 1) rfl (by decide) (by decide) rfl (fun ls hl => ?_)
  refine lv_goto (tgt := 11) hx hb dX3_digest_33 (by decide) ?_
  refine lv_iload_n hx hb dX3_digest_11 rfl (lv_at hl 0 rfl) ?_
  refine lv_bipush (v := 8) hx hb dX3_digest_12 (by decide) ?_
  refine lv_icmp_gt (tgt := 36) hx hb dX3_digest_14 (by decide) (fun c9 => absurd c9 (by decide)) (fun c9 => ?_)
  refine lv_lload_n hx hb dX3_digest_17 rfl (lv_at hl 1 rfl) ?_
  refine lv_ldc2 (v := 31) hx hb hown (hts (.constantLong RX3 151 31) (by decide +kernel)) dX3_digest_18 ?_
  refine lv_lmul hx hb dX3_digest_21 ?_
  refine W.eq (g2 := F0 m 22 ls [.long 21157121335]) rfl ?_
  refine lv_aload_n hx hb dX3_digest_22 rfl (lv_at hl 2 rfl) ?_
  refine lv_iload_n hx hb dX3_digest_23 rfl (lv_at hl 0 rfl) ?_
  have hPc := hP.sub (ws' := [(hm, .inr (3, [.int 0, .int 6, .ref wi, .ref co, .ref sl, .ref rn, .ref so, .ref bn, .ref sm, .ref ah])), (sm, .inr (2, [.int 0, .ref gr, .ref gt, .ref gw, .ref gk, .ref gi, .ref gp, .ref go, .ref gg, .ref hm])), (wi, .inl (d1, 6, .inl fw)), (co, .inl (d2, 6, .inl fc)), (bn, .inl (d5, 3, .inl (fun _ => 0))), (rn, .inl (d6, 12, .inl fn)), (so, .inl (d7, 12, .inl (fun _ => 0))), (gk, .inl (d10, 360, .inl fk)), (gi, .inl (d11, 360, .inl (fun _ => 0)))]) [6, 7, 8, 9, 10, 11, 12, 13, 14] rfl
  have hKc := hK.sub (tys' := [(d1, .int), (d2, .int), (d5, .int), (d6, .int), (d7, .int), (d10, .int), (d11, .int)]) [0, 1, 4, 5, 6, 9, 10] rfl
  have hDc := hD.sub (ws' := [(hm, .inr (3, [.int 0, .int 6, .ref wi, .ref co, .ref sl, .ref rn, .ref so, .ref bn, .ref sm, .ref ah])), (sm, .inr (2, [.int 0, .ref gr, .ref gt, .ref gw, .ref gk, .ref gi, .ref gp, .ref go, .ref gg, .ref hm])), (wi, .inl (d1, 6, .inl fw)), (co, .inl (d2, 6, .inl fc)), (bn, .inl (d5, 3, .inl (fun _ => 0))), (rn, .inl (d6, 12, .inl fn)), (so, .inl (d7, 12, .inl (fun _ => 0))), (gk, .inl (d10, 360, .inl fk)), (gi, .inl (d11, 360, .inl (fun _ => 0)))]) [6, 7, 8, 9, 10, 11, 12, 13, 14] (by decide) rfl
  have hFc := va_free (wc := [(hm, .inr (3, [.int 0, .int 6, .ref wi, .ref co, .ref sl, .ref rn, .ref so, .ref bn, .ref sm, .ref ah])), (sm, .inr (2, [.int 0, .ref gr, .ref gt, .ref gw, .ref gk, .ref gi, .ref gp, .ref go, .ref gg, .ref hm])), (wi, .inl (d1, 6, .inl fw)), (co, .inl (d2, 6, .inl fc)), (bn, .inl (d5, 3, .inl (fun _ => 0))), (rn, .inl (d6, 12, .inl fn)), (so, .inl (d7, 12, .inl (fun _ => 0))), (gk, .inl (d10, 360, .inl fk)), (gi, .inl (d11, 360, .inl (fun _ => 0)))]) hD hS hA [6, 7, 8, 9, 10, 11, 12, 13, 14] rfl
  refine va_calli (va_runV (As := [.int 4]) (rest := [.long 21157121335]) ⟨hx, hb, hml, hown, hts⟩ (r3_counted4 l dC dI H.size hm wi co sl rn so bn sm ah 0 gr gt gw gk gi gp go gg d1 d2 d5 d6 d7 d10 d11 fw fc fn fk (by first | assumption | decide | omega) (by first | assumption | decide | omega) (by first | assumption | decide | omega) (by first | assumption | decide | omega)) (cwV 1 hts gX3_digest_X3_counted rfl rfl rfl (by decide +kernel) ⟨Nat.le_of_ble_eq_true rfl, Nat.le_of_ble_eq_true rfl⟩) ⟨fun a U g mk q => by obtain ⟨q0, q1, qP, qK, qD, qN⟩ := q; exact ⟨q0, q1, qP, va_K.moved (u := U) (U := U.calling g mk a) (Vm.Alike.refl U.vm) qK, qD, zNs.calling qN⟩, va_recv hKc hPc (ci := 3) (q0 := 0) rfl rfl, fun U hU hW => ⟨rfl, by rw [hU], by rw [hU]; exact hPc, va_K.moved hW.alike hKc, hDc.weaken (fun _ _ _ _ => trivial), zNs.warm hW hZN⟩⟩ rfl rfl hl.1 rfl (lv_room (Nat.le_of_ble_eq_true rfl)) dX3_digest_24 ⟨Nat.le_of_ble_eq_true rfl, Nat.le_of_ble_eq_true rfl⟩) hS (fun q _ h => hFc q h) hFc (fun r10 u t H1 locs ht hvm hr10 hB hz1 hk1 hS => ?_)
  obtain ⟨hP1, hK1, hD1, hZ1⟩ := hB
  rw [ht] at hP1 hZ1
  have hZ : s.heap.size + 5 ≤ H1.size := by omega
  have hK1 := va_K.moved hvm.symm hK1
  try dsimp only at hr10
  obtain ⟨hP, hD⟩ := va_join (wr := [(sl, .inl (d3, 6, .inl fs)), (gr, .inl (d4, 6, .inl fg)), (gt, .inl (d8, 6, .inl (fun _ => 0))), (gw, .inl (d9, 6, .inl (fun _ => 0))), (gp, .inl (d12, 360, .inl (fun _ => 0))), (go, .inl (d13, 360, .inl (fun _ => 0)))]) (w1 := [(hm, .inr (3, [.int 0, .int 6, .ref wi, .ref co, .ref sl, .ref rn, .ref so, .ref bn, .ref sm, .ref ah])), (sm, .inr (2, [.int 0, .ref gr, .ref gt, .ref gw, .ref gk, .ref gi, .ref gp, .ref go, .ref gg, .ref hm])), (wi, .inl (d1, 6, .inl fw)), (co, .inl (d2, 6, .inl fc)), (bn, .inl (d5, 3, .inl (fun _ => 0))), (rn, .inl (d6, 12, .inl fn)), (so, .inl (d7, 12, .inl (fun _ => 0))), (gk, .inl (d10, 360, .inl fk)), (gi, .inl (d11, 360, .inl (fun _ => 0)))]) hP hD [6, 7, 8, 9, 10, 11, 12, 13, 14] [0, 1, 2, 3, 4, 5] rfl rfl (by decide) (by decide) hk1 hFc hP1 hD1
  generalize H1 = H at hP hS hZ ⊢
  have hP : va_P (dC, dI) vwCl [(sl, .inl (d3, 6, .inl fs)), (gr, .inl (d4, 6, .inl fg)), (gt, .inl (d8, 6, .inl (fun _ => 0))), (gw, .inl (d9, 6, .inl (fun _ => 0))), (gp, .inl (d12, 360, .inl (fun _ => 0))), (go, .inl (d13, 360, .inl (fun _ => 0))), (hm, .inr (3, [.int 0, .int 6, .ref wi, .ref co, .ref sl, .ref rn, .ref so, .ref bn, .ref sm, .ref ah])), (sm, .inr (2, [.int 0, .ref gr, .ref gt, .ref gw, .ref gk, .ref gi, .ref gp, .ref go, .ref gg, .ref hm])), (wi, .inl (d1, 6, .inl fw)), (co, .inl (d2, 6, .inl fc)), (bn, .inl (d5, 3, .inl (fun _ => 0))), (rn, .inl (d6, 12, .inl fn)), (so, .inl (d7, 12, .inl (fun _ => 0))), (gk, .inl (d10, 360, .inl fk)), (gi, .inl (d11, 360, .inl (fun _ => 0)))] H := hP
  have hD : va_D A [(sl, .inl (d3, 6, .inl fs)), (gr, .inl (d4, 6, .inl fg)), (gt, .inl (d8, 6, .inl (fun _ => 0))), (gw, .inl (d9, 6, .inl (fun _ => 0))), (gp, .inl (d12, 360, .inl (fun _ => 0))), (go, .inl (d13, 360, .inl (fun _ => 0))), (hm, .inr (3, [.int 0, .int 6, .ref wi, .ref co, .ref sl, .ref rn, .ref so, .ref bn, .ref sm, .ref ah])), (sm, .inr (2, [.int 0, .ref gr, .ref gt, .ref gw, .ref gk, .ref gi, .ref gp, .ref go, .ref gg, .ref hm])), (wi, .inl (d1, 6, .inl fw)), (co, .inl (d2, 6, .inl fc)), (bn, .inl (d5, 3, .inl (fun _ => 0))), (rn, .inl (d6, 12, .inl fn)), (so, .inl (d7, 12, .inl (fun _ => 0))), (gk, .inl (d10, 360, .inl fk)), (gi, .inl (d11, 360, .inl (fun _ => 0)))] := hD
  refine W.widen (k := 5) (n := 45) (Nat.le_of_ble_eq_true rfl) (Nat.le_of_ble_eq_true rfl) ?_
  obtain rfl := hr10
  refine lv_i2l (v := 0) hx hb dX3_digest_27 (by first | rfl | decide) ?_
  refine lv_ladd hx hb dX3_digest_28 ?_
  refine W.eq (g2 := F0 m 29 ls [.long 21157121335]) rfl ?_
  refine lv_lstore_n (lv' := [(1, .long 21157121335), (3, .int 4), (0, .ref hm)]) hx hb dX3_digest_29 rfl hl (by decide) rfl (fun ls hl => ?_)
  refine lv_iinc (v := 5) (lv' := [(3, .int 5), (1, .long 21157121335), (0, .ref hm)]) hx hb dX3_digest_30 hl (k := 1) rfl (by decide) (by decide) rfl (fun ls hl => ?_)
  refine lv_goto (tgt := 11) hx hb dX3_digest_33 (by decide) ?_
  refine lv_iload_n hx hb dX3_digest_11 rfl (lv_at hl 0 rfl) ?_
  refine lv_bipush (v := 8) hx hb dX3_digest_12 (by decide) ?_
  refine lv_icmp_gt (tgt := 36) hx hb dX3_digest_14 (by decide) (fun c11 => absurd c11 (by decide)) (fun c11 => ?_)
  refine lv_lload_n hx hb dX3_digest_17 rfl (lv_at hl 1 rfl) ?_
  refine lv_ldc2 (v := 31) hx hb hown (hts (.constantLong RX3 151 31) (by decide +kernel)) dX3_digest_18 ?_
  refine lv_lmul hx hb dX3_digest_21 ?_
  refine W.eq (g2 := F0 m 22 ls [.long 655870761385]) rfl ?_
  refine lv_aload_n hx hb dX3_digest_22 rfl (lv_at hl 2 rfl) ?_
  refine lv_iload_n hx hb dX3_digest_23 rfl (lv_at hl 0 rfl) ?_
  have hPc := hP.sub (ws' := [(hm, .inr (3, [.int 0, .int 6, .ref wi, .ref co, .ref sl, .ref rn, .ref so, .ref bn, .ref sm, .ref ah])), (sm, .inr (2, [.int 0, .ref gr, .ref gt, .ref gw, .ref gk, .ref gi, .ref gp, .ref go, .ref gg, .ref hm])), (wi, .inl (d1, 6, .inl fw)), (co, .inl (d2, 6, .inl fc)), (bn, .inl (d5, 3, .inl (fun _ => 0))), (rn, .inl (d6, 12, .inl fn)), (so, .inl (d7, 12, .inl (fun _ => 0))), (gk, .inl (d10, 360, .inl fk)), (gi, .inl (d11, 360, .inl (fun _ => 0)))]) [6, 7, 8, 9, 10, 11, 12, 13, 14] rfl
  have hKc := hK.sub (tys' := [(d1, .int), (d2, .int), (d5, .int), (d6, .int), (d7, .int), (d10, .int), (d11, .int)]) [0, 1, 4, 5, 6, 9, 10] rfl
  have hDc := hD.sub (ws' := [(hm, .inr (3, [.int 0, .int 6, .ref wi, .ref co, .ref sl, .ref rn, .ref so, .ref bn, .ref sm, .ref ah])), (sm, .inr (2, [.int 0, .ref gr, .ref gt, .ref gw, .ref gk, .ref gi, .ref gp, .ref go, .ref gg, .ref hm])), (wi, .inl (d1, 6, .inl fw)), (co, .inl (d2, 6, .inl fc)), (bn, .inl (d5, 3, .inl (fun _ => 0))), (rn, .inl (d6, 12, .inl fn)), (so, .inl (d7, 12, .inl (fun _ => 0))), (gk, .inl (d10, 360, .inl fk)), (gi, .inl (d11, 360, .inl (fun _ => 0)))]) [6, 7, 8, 9, 10, 11, 12, 13, 14] (by decide) rfl
  have hFc := va_free (wc := [(hm, .inr (3, [.int 0, .int 6, .ref wi, .ref co, .ref sl, .ref rn, .ref so, .ref bn, .ref sm, .ref ah])), (sm, .inr (2, [.int 0, .ref gr, .ref gt, .ref gw, .ref gk, .ref gi, .ref gp, .ref go, .ref gg, .ref hm])), (wi, .inl (d1, 6, .inl fw)), (co, .inl (d2, 6, .inl fc)), (bn, .inl (d5, 3, .inl (fun _ => 0))), (rn, .inl (d6, 12, .inl fn)), (so, .inl (d7, 12, .inl (fun _ => 0))), (gk, .inl (d10, 360, .inl fk)), (gi, .inl (d11, 360, .inl (fun _ => 0)))]) hD hS hA [6, 7, 8, 9, 10, 11, 12, 13, 14] rfl
  refine va_calli (va_runV (As := [.int 5]) (rest := [.long 655870761385]) ⟨hx, hb, hml, hown, hts⟩ (r3_counted5 l dC dI H.size hm wi co sl rn so bn sm ah 0 gr gt gw gk gi gp go gg d1 d2 d5 d6 d7 d10 d11 fw fc fn fk (by first | assumption | decide | omega) (by first | assumption | decide | omega) (by first | assumption | decide | omega) (by first | assumption | decide | omega)) (cwV 1 hts gX3_digest_X3_counted rfl rfl rfl (by decide +kernel) ⟨Nat.le_of_ble_eq_true rfl, Nat.le_of_ble_eq_true rfl⟩) ⟨fun a U g mk q => by obtain ⟨q0, q1, qP, qK, qD, qN⟩ := q; exact ⟨q0, q1, qP, va_K.moved (u := U) (U := U.calling g mk a) (Vm.Alike.refl U.vm) qK, qD, zNs.calling qN⟩, va_recv hKc hPc (ci := 3) (q0 := 0) rfl rfl, fun U hU hW => ⟨rfl, by rw [hU], by rw [hU]; exact hPc, va_K.moved hW.alike hKc, hDc.weaken (fun _ _ _ _ => trivial), zNs.warm hW hZN⟩⟩ rfl rfl hl.1 rfl (lv_room (Nat.le_of_ble_eq_true rfl)) dX3_digest_24 ⟨Nat.le_of_ble_eq_true rfl, Nat.le_of_ble_eq_true rfl⟩) hS (fun q _ h => hFc q h) hFc (fun r12 u t H1 locs ht hvm hr12 hB hz1 hk1 hS => ?_)
  obtain ⟨hP1, hK1, hD1, hZ1⟩ := hB
  rw [ht] at hP1 hZ1
  have hZ : s.heap.size + 6 ≤ H1.size := by omega
  have hK1 := va_K.moved hvm.symm hK1
  try dsimp only at hr12
  obtain ⟨hP, hD⟩ := va_join (wr := [(sl, .inl (d3, 6, .inl fs)), (gr, .inl (d4, 6, .inl fg)), (gt, .inl (d8, 6, .inl (fun _ => 0))), (gw, .inl (d9, 6, .inl (fun _ => 0))), (gp, .inl (d12, 360, .inl (fun _ => 0))), (go, .inl (d13, 360, .inl (fun _ => 0)))]) (w1 := [(hm, .inr (3, [.int 0, .int 6, .ref wi, .ref co, .ref sl, .ref rn, .ref so, .ref bn, .ref sm, .ref ah])), (sm, .inr (2, [.int 0, .ref gr, .ref gt, .ref gw, .ref gk, .ref gi, .ref gp, .ref go, .ref gg, .ref hm])), (wi, .inl (d1, 6, .inl fw)), (co, .inl (d2, 6, .inl fc)), (bn, .inl (d5, 3, .inl (fun _ => 0))), (rn, .inl (d6, 12, .inl fn)), (so, .inl (d7, 12, .inl (fun _ => 0))), (gk, .inl (d10, 360, .inl fk)), (gi, .inl (d11, 360, .inl (fun _ => 0)))]) hP hD [6, 7, 8, 9, 10, 11, 12, 13, 14] [0, 1, 2, 3, 4, 5] rfl rfl (by decide) (by decide) hk1 hFc hP1 hD1
  generalize H1 = H at hP hS hZ ⊢
  have hP : va_P (dC, dI) vwCl [(sl, .inl (d3, 6, .inl fs)), (gr, .inl (d4, 6, .inl fg)), (gt, .inl (d8, 6, .inl (fun _ => 0))), (gw, .inl (d9, 6, .inl (fun _ => 0))), (gp, .inl (d12, 360, .inl (fun _ => 0))), (go, .inl (d13, 360, .inl (fun _ => 0))), (hm, .inr (3, [.int 0, .int 6, .ref wi, .ref co, .ref sl, .ref rn, .ref so, .ref bn, .ref sm, .ref ah])), (sm, .inr (2, [.int 0, .ref gr, .ref gt, .ref gw, .ref gk, .ref gi, .ref gp, .ref go, .ref gg, .ref hm])), (wi, .inl (d1, 6, .inl fw)), (co, .inl (d2, 6, .inl fc)), (bn, .inl (d5, 3, .inl (fun _ => 0))), (rn, .inl (d6, 12, .inl fn)), (so, .inl (d7, 12, .inl (fun _ => 0))), (gk, .inl (d10, 360, .inl fk)), (gi, .inl (d11, 360, .inl (fun _ => 0)))] H := hP
  have hD : va_D A [(sl, .inl (d3, 6, .inl fs)), (gr, .inl (d4, 6, .inl fg)), (gt, .inl (d8, 6, .inl (fun _ => 0))), (gw, .inl (d9, 6, .inl (fun _ => 0))), (gp, .inl (d12, 360, .inl (fun _ => 0))), (go, .inl (d13, 360, .inl (fun _ => 0))), (hm, .inr (3, [.int 0, .int 6, .ref wi, .ref co, .ref sl, .ref rn, .ref so, .ref bn, .ref sm, .ref ah])), (sm, .inr (2, [.int 0, .ref gr, .ref gt, .ref gw, .ref gk, .ref gi, .ref gp, .ref go, .ref gg, .ref hm])), (wi, .inl (d1, 6, .inl fw)), (co, .inl (d2, 6, .inl fc)), (bn, .inl (d5, 3, .inl (fun _ => 0))), (rn, .inl (d6, 12, .inl fn)), (so, .inl (d7, 12, .inl (fun _ => 0))), (gk, .inl (d10, 360, .inl fk)), (gi, .inl (d11, 360, .inl (fun _ => 0)))] := hD
  refine W.widen (k := 6) (n := 54) (Nat.le_of_ble_eq_true rfl) (Nat.le_of_ble_eq_true rfl) ?_
  obtain rfl := hr12
  refine lv_i2l (v := 0) hx hb dX3_digest_27 (by first | rfl | decide) ?_
  refine lv_ladd hx hb dX3_digest_28 ?_
  refine W.eq (g2 := F0 m 29 ls [.long 655870761385]) rfl ?_
  refine lv_lstore_n (lv' := [(1, .long 655870761385), (3, .int 5), (0, .ref hm)]) hx hb dX3_digest_29 rfl hl (by decide) rfl (fun ls hl => ?_)
  refine lv_iinc (v := 6) (lv' := [(3, .int 6), (1, .long 655870761385), (0, .ref hm)]) hx hb dX3_digest_30 hl (k := 1) rfl (by decide) (by decide) rfl (fun ls hl => ?_)
  refine lv_goto (tgt := 11) hx hb dX3_digest_33 (by decide) ?_
  refine lv_iload_n hx hb dX3_digest_11 rfl (lv_at hl 0 rfl) ?_
  refine lv_bipush (v := 8) hx hb dX3_digest_12 (by decide) ?_
  refine lv_icmp_gt (tgt := 36) hx hb dX3_digest_14 (by decide) (fun c13 => absurd c13 (by decide)) (fun c13 => ?_)
  refine lv_lload_n hx hb dX3_digest_17 rfl (lv_at hl 1 rfl) ?_
  refine lv_ldc2 (v := 31) hx hb hown (hts (.constantLong RX3 151 31) (by decide +kernel)) dX3_digest_18 ?_
  refine lv_lmul hx hb dX3_digest_21 ?_
  refine W.eq (g2 := F0 m 22 ls [.long 20331993602935]) rfl ?_
  refine lv_aload_n hx hb dX3_digest_22 rfl (lv_at hl 2 rfl) ?_
  refine lv_iload_n hx hb dX3_digest_23 rfl (lv_at hl 0 rfl) ?_
  have hPc := hP.sub (ws' := [(hm, .inr (3, [.int 0, .int 6, .ref wi, .ref co, .ref sl, .ref rn, .ref so, .ref bn, .ref sm, .ref ah])), (sm, .inr (2, [.int 0, .ref gr, .ref gt, .ref gw, .ref gk, .ref gi, .ref gp, .ref go, .ref gg, .ref hm])), (wi, .inl (d1, 6, .inl fw)), (co, .inl (d2, 6, .inl fc)), (bn, .inl (d5, 3, .inl (fun _ => 0))), (rn, .inl (d6, 12, .inl fn)), (so, .inl (d7, 12, .inl (fun _ => 0))), (gk, .inl (d10, 360, .inl fk)), (gi, .inl (d11, 360, .inl (fun _ => 0)))]) [6, 7, 8, 9, 10, 11, 12, 13, 14] rfl
  have hKc := hK.sub (tys' := [(d1, .int), (d2, .int), (d5, .int), (d6, .int), (d7, .int), (d10, .int), (d11, .int)]) [0, 1, 4, 5, 6, 9, 10] rfl
  have hDc := hD.sub (ws' := [(hm, .inr (3, [.int 0, .int 6, .ref wi, .ref co, .ref sl, .ref rn, .ref so, .ref bn, .ref sm, .ref ah])), (sm, .inr (2, [.int 0, .ref gr, .ref gt, .ref gw, .ref gk, .ref gi, .ref gp, .ref go, .ref gg, .ref hm])), (wi, .inl (d1, 6, .inl fw)), (co, .inl (d2, 6, .inl fc)), (bn, .inl (d5, 3, .inl (fun _ => 0))), (rn, .inl (d6, 12, .inl fn)), (so, .inl (d7, 12, .inl (fun _ => 0))), (gk, .inl (d10, 360, .inl fk)), (gi, .inl (d11, 360, .inl (fun _ => 0)))]) [6, 7, 8, 9, 10, 11, 12, 13, 14] (by decide) rfl
  have hFc := va_free (wc := [(hm, .inr (3, [.int 0, .int 6, .ref wi, .ref co, .ref sl, .ref rn, .ref so, .ref bn, .ref sm, .ref ah])), (sm, .inr (2, [.int 0, .ref gr, .ref gt, .ref gw, .ref gk, .ref gi, .ref gp, .ref go, .ref gg, .ref hm])), (wi, .inl (d1, 6, .inl fw)), (co, .inl (d2, 6, .inl fc)), (bn, .inl (d5, 3, .inl (fun _ => 0))), (rn, .inl (d6, 12, .inl fn)), (so, .inl (d7, 12, .inl (fun _ => 0))), (gk, .inl (d10, 360, .inl fk)), (gi, .inl (d11, 360, .inl (fun _ => 0)))]) hD hS hA [6, 7, 8, 9, 10, 11, 12, 13, 14] rfl
  refine va_calli (va_runV (As := [.int 6]) (rest := [.long 20331993602935]) ⟨hx, hb, hml, hown, hts⟩ (r3_counted6 l dC dI H.size hm wi co sl rn so bn sm ah 0 gr gt gw gk gi gp go gg d1 d2 d5 d6 d7 d10 d11 fw fc fn fk (by first | assumption | decide | omega) (by first | assumption | decide | omega) (by first | assumption | decide | omega) (by first | assumption | decide | omega)) (cwV 1 hts gX3_digest_X3_counted rfl rfl rfl (by decide +kernel) ⟨Nat.le_of_ble_eq_true rfl, Nat.le_of_ble_eq_true rfl⟩) ⟨fun a U g mk q => by obtain ⟨q0, q1, qP, qK, qD, qN⟩ := q; exact ⟨q0, q1, qP, va_K.moved (u := U) (U := U.calling g mk a) (Vm.Alike.refl U.vm) qK, qD, zNs.calling qN⟩, va_recv hKc hPc (ci := 3) (q0 := 0) rfl rfl, fun U hU hW => ⟨rfl, by rw [hU], by rw [hU]; exact hPc, va_K.moved hW.alike hKc, hDc.weaken (fun _ _ _ _ => trivial), zNs.warm hW hZN⟩⟩ rfl rfl hl.1 rfl (lv_room (Nat.le_of_ble_eq_true rfl)) dX3_digest_24 ⟨Nat.le_of_ble_eq_true rfl, Nat.le_of_ble_eq_true rfl⟩) hS (fun q _ h => hFc q h) hFc (fun r14 u t H1 locs ht hvm hr14 hB hz1 hk1 hS => ?_)
  obtain ⟨hP1, hK1, hD1, hZ1⟩ := hB
  rw [ht] at hP1 hZ1
  have hZ : s.heap.size + 7 ≤ H1.size := by omega
  have hK1 := va_K.moved hvm.symm hK1
  try dsimp only at hr14
  obtain ⟨hP, hD⟩ := va_join (wr := [(sl, .inl (d3, 6, .inl fs)), (gr, .inl (d4, 6, .inl fg)), (gt, .inl (d8, 6, .inl (fun _ => 0))), (gw, .inl (d9, 6, .inl (fun _ => 0))), (gp, .inl (d12, 360, .inl (fun _ => 0))), (go, .inl (d13, 360, .inl (fun _ => 0)))]) (w1 := [(hm, .inr (3, [.int 0, .int 6, .ref wi, .ref co, .ref sl, .ref rn, .ref so, .ref bn, .ref sm, .ref ah])), (sm, .inr (2, [.int 0, .ref gr, .ref gt, .ref gw, .ref gk, .ref gi, .ref gp, .ref go, .ref gg, .ref hm])), (wi, .inl (d1, 6, .inl fw)), (co, .inl (d2, 6, .inl fc)), (bn, .inl (d5, 3, .inl (fun _ => 0))), (rn, .inl (d6, 12, .inl fn)), (so, .inl (d7, 12, .inl (fun _ => 0))), (gk, .inl (d10, 360, .inl fk)), (gi, .inl (d11, 360, .inl (fun _ => 0)))]) hP hD [6, 7, 8, 9, 10, 11, 12, 13, 14] [0, 1, 2, 3, 4, 5] rfl rfl (by decide) (by decide) hk1 hFc hP1 hD1
  generalize H1 = H at hP hS hZ ⊢
  have hP : va_P (dC, dI) vwCl [(sl, .inl (d3, 6, .inl fs)), (gr, .inl (d4, 6, .inl fg)), (gt, .inl (d8, 6, .inl (fun _ => 0))), (gw, .inl (d9, 6, .inl (fun _ => 0))), (gp, .inl (d12, 360, .inl (fun _ => 0))), (go, .inl (d13, 360, .inl (fun _ => 0))), (hm, .inr (3, [.int 0, .int 6, .ref wi, .ref co, .ref sl, .ref rn, .ref so, .ref bn, .ref sm, .ref ah])), (sm, .inr (2, [.int 0, .ref gr, .ref gt, .ref gw, .ref gk, .ref gi, .ref gp, .ref go, .ref gg, .ref hm])), (wi, .inl (d1, 6, .inl fw)), (co, .inl (d2, 6, .inl fc)), (bn, .inl (d5, 3, .inl (fun _ => 0))), (rn, .inl (d6, 12, .inl fn)), (so, .inl (d7, 12, .inl (fun _ => 0))), (gk, .inl (d10, 360, .inl fk)), (gi, .inl (d11, 360, .inl (fun _ => 0)))] H := hP
  have hD : va_D A [(sl, .inl (d3, 6, .inl fs)), (gr, .inl (d4, 6, .inl fg)), (gt, .inl (d8, 6, .inl (fun _ => 0))), (gw, .inl (d9, 6, .inl (fun _ => 0))), (gp, .inl (d12, 360, .inl (fun _ => 0))), (go, .inl (d13, 360, .inl (fun _ => 0))), (hm, .inr (3, [.int 0, .int 6, .ref wi, .ref co, .ref sl, .ref rn, .ref so, .ref bn, .ref sm, .ref ah])), (sm, .inr (2, [.int 0, .ref gr, .ref gt, .ref gw, .ref gk, .ref gi, .ref gp, .ref go, .ref gg, .ref hm])), (wi, .inl (d1, 6, .inl fw)), (co, .inl (d2, 6, .inl fc)), (bn, .inl (d5, 3, .inl (fun _ => 0))), (rn, .inl (d6, 12, .inl fn)), (so, .inl (d7, 12, .inl (fun _ => 0))), (gk, .inl (d10, 360, .inl fk)), (gi, .inl (d11, 360, .inl (fun _ => 0)))] := hD
  refine W.widen (k := 7) (n := 63) (Nat.le_of_ble_eq_true rfl) (Nat.le_of_ble_eq_true rfl) ?_
  obtain rfl := hr14
  refine lv_i2l (v := 60) hx hb dX3_digest_27 (by first | rfl | decide) ?_
  refine lv_ladd hx hb dX3_digest_28 ?_
  refine W.eq (g2 := F0 m 29 ls [.long 20331993602995]) rfl ?_
  refine lv_lstore_n (lv' := [(1, .long 20331993602995), (3, .int 6), (0, .ref hm)]) hx hb dX3_digest_29 rfl hl (by decide) rfl (fun ls hl => ?_)
  refine lv_iinc (v := 7) (lv' := [(3, .int 7), (1, .long 20331993602995), (0, .ref hm)]) hx hb dX3_digest_30 hl (k := 1) rfl (by decide) (by decide) rfl (fun ls hl => ?_)
  refine lv_goto (tgt := 11) hx hb dX3_digest_33 (by decide) ?_
  refine lv_iload_n hx hb dX3_digest_11 rfl (lv_at hl 0 rfl) ?_
  refine lv_bipush (v := 8) hx hb dX3_digest_12 (by decide) ?_
  refine lv_icmp_gt (tgt := 36) hx hb dX3_digest_14 (by decide) (fun c15 => absurd c15 (by decide)) (fun c15 => ?_)
  refine lv_lload_n hx hb dX3_digest_17 rfl (lv_at hl 1 rfl) ?_
  refine lv_ldc2 (v := 31) hx hb hown (hts (.constantLong RX3 151 31) (by decide +kernel)) dX3_digest_18 ?_
  refine lv_lmul hx hb dX3_digest_21 ?_
  refine W.eq (g2 := F0 m 22 ls [.long 630291801692845]) rfl ?_
  refine lv_aload_n hx hb dX3_digest_22 rfl (lv_at hl 2 rfl) ?_
  refine lv_iload_n hx hb dX3_digest_23 rfl (lv_at hl 0 rfl) ?_
  have hPc := hP.sub (ws' := [(hm, .inr (3, [.int 0, .int 6, .ref wi, .ref co, .ref sl, .ref rn, .ref so, .ref bn, .ref sm, .ref ah])), (sm, .inr (2, [.int 0, .ref gr, .ref gt, .ref gw, .ref gk, .ref gi, .ref gp, .ref go, .ref gg, .ref hm])), (wi, .inl (d1, 6, .inl fw)), (co, .inl (d2, 6, .inl fc)), (bn, .inl (d5, 3, .inl (fun _ => 0))), (rn, .inl (d6, 12, .inl fn)), (so, .inl (d7, 12, .inl (fun _ => 0))), (gk, .inl (d10, 360, .inl fk)), (gi, .inl (d11, 360, .inl (fun _ => 0)))]) [6, 7, 8, 9, 10, 11, 12, 13, 14] rfl
  have hKc := hK.sub (tys' := [(d1, .int), (d2, .int), (d5, .int), (d6, .int), (d7, .int), (d10, .int), (d11, .int)]) [0, 1, 4, 5, 6, 9, 10] rfl
  have hDc := hD.sub (ws' := [(hm, .inr (3, [.int 0, .int 6, .ref wi, .ref co, .ref sl, .ref rn, .ref so, .ref bn, .ref sm, .ref ah])), (sm, .inr (2, [.int 0, .ref gr, .ref gt, .ref gw, .ref gk, .ref gi, .ref gp, .ref go, .ref gg, .ref hm])), (wi, .inl (d1, 6, .inl fw)), (co, .inl (d2, 6, .inl fc)), (bn, .inl (d5, 3, .inl (fun _ => 0))), (rn, .inl (d6, 12, .inl fn)), (so, .inl (d7, 12, .inl (fun _ => 0))), (gk, .inl (d10, 360, .inl fk)), (gi, .inl (d11, 360, .inl (fun _ => 0)))]) [6, 7, 8, 9, 10, 11, 12, 13, 14] (by decide) rfl
  have hFc := va_free (wc := [(hm, .inr (3, [.int 0, .int 6, .ref wi, .ref co, .ref sl, .ref rn, .ref so, .ref bn, .ref sm, .ref ah])), (sm, .inr (2, [.int 0, .ref gr, .ref gt, .ref gw, .ref gk, .ref gi, .ref gp, .ref go, .ref gg, .ref hm])), (wi, .inl (d1, 6, .inl fw)), (co, .inl (d2, 6, .inl fc)), (bn, .inl (d5, 3, .inl (fun _ => 0))), (rn, .inl (d6, 12, .inl fn)), (so, .inl (d7, 12, .inl (fun _ => 0))), (gk, .inl (d10, 360, .inl fk)), (gi, .inl (d11, 360, .inl (fun _ => 0)))]) hD hS hA [6, 7, 8, 9, 10, 11, 12, 13, 14] rfl
  refine va_calli (va_runV (As := [.int 7]) (rest := [.long 630291801692845]) ⟨hx, hb, hml, hown, hts⟩ (r3_counted7 l dC dI H.size hm wi co sl rn so bn sm ah 0 gr gt gw gk gi gp go gg d1 d2 d5 d6 d7 d10 d11 fw fc fn fk (by first | assumption | decide | omega) (by first | assumption | decide | omega) (by first | assumption | decide | omega) (by first | assumption | decide | omega)) (cwV 1 hts gX3_digest_X3_counted rfl rfl rfl (by decide +kernel) ⟨Nat.le_of_ble_eq_true rfl, Nat.le_of_ble_eq_true rfl⟩) ⟨fun a U g mk q => by obtain ⟨q0, q1, qP, qK, qD, qN⟩ := q; exact ⟨q0, q1, qP, va_K.moved (u := U) (U := U.calling g mk a) (Vm.Alike.refl U.vm) qK, qD, zNs.calling qN⟩, va_recv hKc hPc (ci := 3) (q0 := 0) rfl rfl, fun U hU hW => ⟨rfl, by rw [hU], by rw [hU]; exact hPc, va_K.moved hW.alike hKc, hDc.weaken (fun _ _ _ _ => trivial), zNs.warm hW hZN⟩⟩ rfl rfl hl.1 rfl (lv_room (Nat.le_of_ble_eq_true rfl)) dX3_digest_24 ⟨Nat.le_of_ble_eq_true rfl, Nat.le_of_ble_eq_true rfl⟩) hS (fun q _ h => hFc q h) hFc (fun r16 u t H1 locs ht hvm hr16 hB hz1 hk1 hS => ?_)
  obtain ⟨hP1, hK1, hD1, hZ1⟩ := hB
  rw [ht] at hP1 hZ1
  have hZ : s.heap.size + 8 ≤ H1.size := by omega
  have hK1 := va_K.moved hvm.symm hK1
  try dsimp only at hr16
  obtain ⟨hP, hD⟩ := va_join (wr := [(sl, .inl (d3, 6, .inl fs)), (gr, .inl (d4, 6, .inl fg)), (gt, .inl (d8, 6, .inl (fun _ => 0))), (gw, .inl (d9, 6, .inl (fun _ => 0))), (gp, .inl (d12, 360, .inl (fun _ => 0))), (go, .inl (d13, 360, .inl (fun _ => 0)))]) (w1 := [(hm, .inr (3, [.int 0, .int 6, .ref wi, .ref co, .ref sl, .ref rn, .ref so, .ref bn, .ref sm, .ref ah])), (sm, .inr (2, [.int 0, .ref gr, .ref gt, .ref gw, .ref gk, .ref gi, .ref gp, .ref go, .ref gg, .ref hm])), (wi, .inl (d1, 6, .inl fw)), (co, .inl (d2, 6, .inl fc)), (bn, .inl (d5, 3, .inl (fun _ => 0))), (rn, .inl (d6, 12, .inl fn)), (so, .inl (d7, 12, .inl (fun _ => 0))), (gk, .inl (d10, 360, .inl fk)), (gi, .inl (d11, 360, .inl (fun _ => 0)))]) hP hD [6, 7, 8, 9, 10, 11, 12, 13, 14] [0, 1, 2, 3, 4, 5] rfl rfl (by decide) (by decide) hk1 hFc hP1 hD1
  generalize H1 = H at hP hS hZ ⊢
  have hP : va_P (dC, dI) vwCl [(sl, .inl (d3, 6, .inl fs)), (gr, .inl (d4, 6, .inl fg)), (gt, .inl (d8, 6, .inl (fun _ => 0))), (gw, .inl (d9, 6, .inl (fun _ => 0))), (gp, .inl (d12, 360, .inl (fun _ => 0))), (go, .inl (d13, 360, .inl (fun _ => 0))), (hm, .inr (3, [.int 0, .int 6, .ref wi, .ref co, .ref sl, .ref rn, .ref so, .ref bn, .ref sm, .ref ah])), (sm, .inr (2, [.int 0, .ref gr, .ref gt, .ref gw, .ref gk, .ref gi, .ref gp, .ref go, .ref gg, .ref hm])), (wi, .inl (d1, 6, .inl fw)), (co, .inl (d2, 6, .inl fc)), (bn, .inl (d5, 3, .inl (fun _ => 0))), (rn, .inl (d6, 12, .inl fn)), (so, .inl (d7, 12, .inl (fun _ => 0))), (gk, .inl (d10, 360, .inl fk)), (gi, .inl (d11, 360, .inl (fun _ => 0)))] H := hP
  have hD : va_D A [(sl, .inl (d3, 6, .inl fs)), (gr, .inl (d4, 6, .inl fg)), (gt, .inl (d8, 6, .inl (fun _ => 0))), (gw, .inl (d9, 6, .inl (fun _ => 0))), (gp, .inl (d12, 360, .inl (fun _ => 0))), (go, .inl (d13, 360, .inl (fun _ => 0))), (hm, .inr (3, [.int 0, .int 6, .ref wi, .ref co, .ref sl, .ref rn, .ref so, .ref bn, .ref sm, .ref ah])), (sm, .inr (2, [.int 0, .ref gr, .ref gt, .ref gw, .ref gk, .ref gi, .ref gp, .ref go, .ref gg, .ref hm])), (wi, .inl (d1, 6, .inl fw)), (co, .inl (d2, 6, .inl fc)), (bn, .inl (d5, 3, .inl (fun _ => 0))), (rn, .inl (d6, 12, .inl fn)), (so, .inl (d7, 12, .inl (fun _ => 0))), (gk, .inl (d10, 360, .inl fk)), (gi, .inl (d11, 360, .inl (fun _ => 0)))] := hD
  refine W.widen (k := 8) (n := 72) (Nat.le_of_ble_eq_true rfl) (Nat.le_of_ble_eq_true rfl) ?_
  obtain rfl := hr16
  refine lv_i2l (v := 4) hx hb dX3_digest_27 (by first | rfl | decide) ?_
  refine lv_ladd hx hb dX3_digest_28 ?_
  refine W.eq (g2 := F0 m 29 ls [.long 630291801692849]) rfl ?_
  refine lv_lstore_n (lv' := [(1, .long 630291801692849), (3, .int 7), (0, .ref hm)]) hx hb dX3_digest_29 rfl hl (by decide) rfl (fun ls hl => ?_)
  refine lv_iinc (v := 8) (lv' := [(3, .int 8), (1, .long 630291801692849), (0, .ref hm)]) hx hb dX3_digest_30 hl (k := 1) rfl (by decide) (by decide) rfl (fun ls hl => ?_)
  refine lv_goto (tgt := 11) hx hb dX3_digest_33 (by decide) ?_
  refine lv_iload_n hx hb dX3_digest_11 rfl (lv_at hl 0 rfl) ?_
  refine lv_bipush (v := 8) hx hb dX3_digest_12 (by decide) ?_
  refine lv_icmp_gt (tgt := 36) hx hb dX3_digest_14 (by decide) (fun c17 => absurd c17 (by decide)) (fun c17 => ?_)
  refine lv_lload_n hx hb dX3_digest_17 rfl (lv_at hl 1 rfl) ?_
  refine lv_ldc2 (v := 31) hx hb hown (hts (.constantLong RX3 151 31) (by decide +kernel)) dX3_digest_18 ?_
  refine lv_lmul hx hb dX3_digest_21 ?_
  refine W.eq (g2 := F0 m 22 ls [.long 19539045852478319]) rfl ?_
  refine lv_aload_n hx hb dX3_digest_22 rfl (lv_at hl 2 rfl) ?_
  refine lv_iload_n hx hb dX3_digest_23 rfl (lv_at hl 0 rfl) ?_
  have hPc := hP.sub (ws' := [(hm, .inr (3, [.int 0, .int 6, .ref wi, .ref co, .ref sl, .ref rn, .ref so, .ref bn, .ref sm, .ref ah])), (sm, .inr (2, [.int 0, .ref gr, .ref gt, .ref gw, .ref gk, .ref gi, .ref gp, .ref go, .ref gg, .ref hm])), (wi, .inl (d1, 6, .inl fw)), (co, .inl (d2, 6, .inl fc)), (bn, .inl (d5, 3, .inl (fun _ => 0))), (rn, .inl (d6, 12, .inl fn)), (so, .inl (d7, 12, .inl (fun _ => 0))), (gk, .inl (d10, 360, .inl fk)), (gi, .inl (d11, 360, .inl (fun _ => 0)))]) [6, 7, 8, 9, 10, 11, 12, 13, 14] rfl
  have hKc := hK.sub (tys' := [(d1, .int), (d2, .int), (d5, .int), (d6, .int), (d7, .int), (d10, .int), (d11, .int)]) [0, 1, 4, 5, 6, 9, 10] rfl
  have hDc := hD.sub (ws' := [(hm, .inr (3, [.int 0, .int 6, .ref wi, .ref co, .ref sl, .ref rn, .ref so, .ref bn, .ref sm, .ref ah])), (sm, .inr (2, [.int 0, .ref gr, .ref gt, .ref gw, .ref gk, .ref gi, .ref gp, .ref go, .ref gg, .ref hm])), (wi, .inl (d1, 6, .inl fw)), (co, .inl (d2, 6, .inl fc)), (bn, .inl (d5, 3, .inl (fun _ => 0))), (rn, .inl (d6, 12, .inl fn)), (so, .inl (d7, 12, .inl (fun _ => 0))), (gk, .inl (d10, 360, .inl fk)), (gi, .inl (d11, 360, .inl (fun _ => 0)))]) [6, 7, 8, 9, 10, 11, 12, 13, 14] (by decide) rfl
  have hFc := va_free (wc := [(hm, .inr (3, [.int 0, .int 6, .ref wi, .ref co, .ref sl, .ref rn, .ref so, .ref bn, .ref sm, .ref ah])), (sm, .inr (2, [.int 0, .ref gr, .ref gt, .ref gw, .ref gk, .ref gi, .ref gp, .ref go, .ref gg, .ref hm])), (wi, .inl (d1, 6, .inl fw)), (co, .inl (d2, 6, .inl fc)), (bn, .inl (d5, 3, .inl (fun _ => 0))), (rn, .inl (d6, 12, .inl fn)), (so, .inl (d7, 12, .inl (fun _ => 0))), (gk, .inl (d10, 360, .inl fk)), (gi, .inl (d11, 360, .inl (fun _ => 0)))]) hD hS hA [6, 7, 8, 9, 10, 11, 12, 13, 14] rfl
  refine va_calli (va_runV (As := [.int 8]) (rest := [.long 19539045852478319]) ⟨hx, hb, hml, hown, hts⟩ (r3_counted8 l dC dI H.size hm wi co sl rn so bn sm ah 0 gr gt gw gk gi gp go gg d1 d2 d5 d6 d7 d10 d11 fw fc fn fk (by first | assumption | decide | omega) (by first | assumption | decide | omega) (by first | assumption | decide | omega) (by first | assumption | decide | omega)) (cwV 1 hts gX3_digest_X3_counted rfl rfl rfl (by decide +kernel) ⟨Nat.le_of_ble_eq_true rfl, Nat.le_of_ble_eq_true rfl⟩) ⟨fun a U g mk q => by obtain ⟨q0, q1, qP, qK, qD, qN⟩ := q; exact ⟨q0, q1, qP, va_K.moved (u := U) (U := U.calling g mk a) (Vm.Alike.refl U.vm) qK, qD, zNs.calling qN⟩, va_recv hKc hPc (ci := 3) (q0 := 0) rfl rfl, fun U hU hW => ⟨rfl, by rw [hU], by rw [hU]; exact hPc, va_K.moved hW.alike hKc, hDc.weaken (fun _ _ _ _ => trivial), zNs.warm hW hZN⟩⟩ rfl rfl hl.1 rfl (lv_room (Nat.le_of_ble_eq_true rfl)) dX3_digest_24 ⟨Nat.le_of_ble_eq_true rfl, Nat.le_of_ble_eq_true rfl⟩) hS (fun q _ h => hFc q h) hFc (fun r18 u t H1 locs ht hvm hr18 hB hz1 hk1 hS => ?_)
  obtain ⟨hP1, hK1, hD1, hZ1⟩ := hB
  rw [ht] at hP1 hZ1
  have hZ : s.heap.size + 9 ≤ H1.size := by omega
  have hK1 := va_K.moved hvm.symm hK1
  try dsimp only at hr18
  obtain ⟨hP, hD⟩ := va_join (wr := [(sl, .inl (d3, 6, .inl fs)), (gr, .inl (d4, 6, .inl fg)), (gt, .inl (d8, 6, .inl (fun _ => 0))), (gw, .inl (d9, 6, .inl (fun _ => 0))), (gp, .inl (d12, 360, .inl (fun _ => 0))), (go, .inl (d13, 360, .inl (fun _ => 0)))]) (w1 := [(hm, .inr (3, [.int 0, .int 6, .ref wi, .ref co, .ref sl, .ref rn, .ref so, .ref bn, .ref sm, .ref ah])), (sm, .inr (2, [.int 0, .ref gr, .ref gt, .ref gw, .ref gk, .ref gi, .ref gp, .ref go, .ref gg, .ref hm])), (wi, .inl (d1, 6, .inl fw)), (co, .inl (d2, 6, .inl fc)), (bn, .inl (d5, 3, .inl (fun _ => 0))), (rn, .inl (d6, 12, .inl fn)), (so, .inl (d7, 12, .inl (fun _ => 0))), (gk, .inl (d10, 360, .inl fk)), (gi, .inl (d11, 360, .inl (fun _ => 0)))]) hP hD [6, 7, 8, 9, 10, 11, 12, 13, 14] [0, 1, 2, 3, 4, 5] rfl rfl (by decide) (by decide) hk1 hFc hP1 hD1
  generalize H1 = H at hP hS hZ ⊢
  have hP : va_P (dC, dI) vwCl [(sl, .inl (d3, 6, .inl fs)), (gr, .inl (d4, 6, .inl fg)), (gt, .inl (d8, 6, .inl (fun _ => 0))), (gw, .inl (d9, 6, .inl (fun _ => 0))), (gp, .inl (d12, 360, .inl (fun _ => 0))), (go, .inl (d13, 360, .inl (fun _ => 0))), (hm, .inr (3, [.int 0, .int 6, .ref wi, .ref co, .ref sl, .ref rn, .ref so, .ref bn, .ref sm, .ref ah])), (sm, .inr (2, [.int 0, .ref gr, .ref gt, .ref gw, .ref gk, .ref gi, .ref gp, .ref go, .ref gg, .ref hm])), (wi, .inl (d1, 6, .inl fw)), (co, .inl (d2, 6, .inl fc)), (bn, .inl (d5, 3, .inl (fun _ => 0))), (rn, .inl (d6, 12, .inl fn)), (so, .inl (d7, 12, .inl (fun _ => 0))), (gk, .inl (d10, 360, .inl fk)), (gi, .inl (d11, 360, .inl (fun _ => 0)))] H := hP
  have hD : va_D A [(sl, .inl (d3, 6, .inl fs)), (gr, .inl (d4, 6, .inl fg)), (gt, .inl (d8, 6, .inl (fun _ => 0))), (gw, .inl (d9, 6, .inl (fun _ => 0))), (gp, .inl (d12, 360, .inl (fun _ => 0))), (go, .inl (d13, 360, .inl (fun _ => 0))), (hm, .inr (3, [.int 0, .int 6, .ref wi, .ref co, .ref sl, .ref rn, .ref so, .ref bn, .ref sm, .ref ah])), (sm, .inr (2, [.int 0, .ref gr, .ref gt, .ref gw, .ref gk, .ref gi, .ref gp, .ref go, .ref gg, .ref hm])), (wi, .inl (d1, 6, .inl fw)), (co, .inl (d2, 6, .inl fc)), (bn, .inl (d5, 3, .inl (fun _ => 0))), (rn, .inl (d6, 12, .inl fn)), (so, .inl (d7, 12, .inl (fun _ => 0))), (gk, .inl (d10, 360, .inl fk)), (gi, .inl (d11, 360, .inl (fun _ => 0)))] := hD
  refine W.widen (k := 9) (n := 81) (Nat.le_of_ble_eq_true rfl) (Nat.le_of_ble_eq_true rfl) ?_
  obtain rfl := hr18
  refine lv_i2l (v := 0) hx hb dX3_digest_27 (by first | rfl | decide) ?_
  refine lv_ladd hx hb dX3_digest_28 ?_
  refine W.eq (g2 := F0 m 29 ls [.long 19539045852478319]) rfl ?_
  refine lv_lstore_n (lv' := [(1, .long 19539045852478319), (3, .int 8), (0, .ref hm)]) hx hb dX3_digest_29 rfl hl (by decide) rfl (fun ls hl => ?_)
  refine lv_iinc (v := 9) (lv' := [(3, .int 9), (1, .long 19539045852478319), (0, .ref hm)]) hx hb dX3_digest_30 hl (k := 1) rfl (by decide) (by decide) rfl (fun ls hl => ?_)
  refine lv_goto (tgt := 11) hx hb dX3_digest_33 (by decide) ?_
  refine lv_iload_n hx hb dX3_digest_11 rfl (lv_at hl 0 rfl) ?_
  refine lv_bipush (v := 8) hx hb dX3_digest_12 (by decide) ?_
  refine lv_icmp_gt (tgt := 36) hx hb dX3_digest_14 (by decide) (fun c19 => ?_) (fun c19 => absurd c19 (by decide))
  refine lv_iconst (v := 0) hx hb dX3_digest_36 (by decide) ?_
  refine lv_istore_n (lv' := [(3, .int 0), (1, .long 19539045852478319), (0, .ref hm)]) hx hb dX3_digest_37 rfl hl (by decide) rfl (fun ls hl => ?_)
  refine lv_iload_n hx hb dX3_digest_38 rfl (lv_at hl 0 rfl) ?_
  refine lv_bipush (v := 12) hx hb dX3_digest_39 (by decide) ?_
  refine lv_icmp_ge (tgt := 75) hx hb dX3_digest_41 (by decide) (fun c20 => absurd c20 (by decide)) (fun c20 => ?_)
  refine lv_lload_n hx hb dX3_digest_44 rfl (lv_at hl 1 rfl) ?_
  refine lv_ldc2 (v := 31) hx hb hown (hts (.constantLong RX3 151 31) (by decide +kernel)) dX3_digest_45 ?_
  refine lv_lmul hx hb dX3_digest_48 ?_
  refine W.eq (g2 := F0 m 49 ls [.long 605710421426827889]) rfl ?_
  refine lv_bipush (v := 10) hx hb dX3_digest_49 (by decide) ?_
  refine lv_aload_n hx hb dX3_digest_51 rfl (lv_at hl 2 rfl) ?_
  refine va_get (D := (dC, dI)) (ci := 3) (v := .ref rn) (C := RX3) (T := TX3) (N := 10) hx hb hts (by decide +kernel) hown hK hP 6 rfl rfl 5 (by decide) (hts (.fieldLink RX3 19 "ThatchRoofModel" "rain" "[I") (by decide +kernel)) (fun _ h9 => h9) rfl dX3_digest_52 ?_
  refine lv_iload_n hx hb dX3_digest_55 rfl (lv_at hl 0 rfl) ?_
  refine va_iald hx hb hK hP 11 5 rfl rfl (vp_in_nI (n := 0) (by decide) (by decide)) dX3_digest_56 ?_
  refine lv_topi (fun x21 ex21 => ?_)
  obtain rfl : x21 = 4 := ex21.trans (hn _ (by decide))
  refine lv_imul hx hb dX3_digest_57 ?_
  refine W.eq (g2 := F0 m 58 ls [.int 40, .long 605710421426827889]) rfl ?_
  refine lv_i2l (v := 40) hx hb dX3_digest_58 (by first | rfl | decide) ?_
  refine lv_ladd hx hb dX3_digest_59 ?_
  refine W.eq (g2 := F0 m 60 ls [.long 605710421426827929]) rfl ?_
  refine lv_aload_n hx hb dX3_digest_60 rfl (lv_at hl 2 rfl) ?_
  refine va_get (D := (dC, dI)) (ci := 3) (v := .ref so) (C := RX3) (T := TX3) (N := 10) hx hb hts (by decide +kernel) hown hK hP 6 rfl rfl 6 (by decide) (hts (.fieldLink RX3 22 "ThatchRoofModel" "storm" "[I") (by decide +kernel)) (fun _ h9 => h9) rfl dX3_digest_61 ?_
  refine lv_iload_n hx hb dX3_digest_64 rfl (lv_at hl 0 rfl) ?_
  refine va_iald hx hb hK hP 12 6 rfl rfl (vp_in_nI (n := 0) (by decide) (by decide)) dX3_digest_65 ?_
  refine lv_topi (fun x22 ex22 => ?_)
  obtain rfl : x22 = 0 := ex22
  refine lv_i2l (v := 0) hx hb dX3_digest_66 (by first | rfl | decide) ?_
  refine lv_ladd hx hb dX3_digest_67 ?_
  refine W.eq (g2 := F0 m 68 ls [.long 605710421426827929]) rfl ?_
  refine lv_lstore_n (lv' := [(1, .long 605710421426827929), (3, .int 0), (0, .ref hm)]) hx hb dX3_digest_68 rfl hl (by decide) rfl (fun ls hl => ?_)
  refine lv_iinc (v := 1) (lv' := [(3, .int 1), (1, .long 605710421426827929), (0, .ref hm)]) hx hb dX3_digest_69 hl (k := 1) rfl (by decide) (by decide) rfl (fun ls hl => ?_)
  refine lv_goto (tgt := 38) hx hb dX3_digest_72 (by decide) ?_
  refine lv_iload_n hx hb dX3_digest_38 rfl (lv_at hl 0 rfl) ?_
  refine lv_bipush (v := 12) hx hb dX3_digest_39 (by decide) ?_
  refine lv_icmp_ge (tgt := 75) hx hb dX3_digest_41 (by decide) (fun c23 => absurd c23 (by decide)) (fun c23 => ?_)
  refine lv_lload_n hx hb dX3_digest_44 rfl (lv_at hl 1 rfl) ?_
  refine lv_ldc2 (v := 31) hx hb hown (hts (.constantLong RX3 151 31) (by decide +kernel)) dX3_digest_45 ?_
  refine lv_lmul hx hb dX3_digest_48 ?_
  refine W.eq (g2 := F0 m 49 ls [.long 330278990522114183]) rfl ?_
  refine lv_bipush (v := 10) hx hb dX3_digest_49 (by decide) ?_
  refine lv_aload_n hx hb dX3_digest_51 rfl (lv_at hl 2 rfl) ?_
  refine va_get (D := (dC, dI)) (ci := 3) (v := .ref rn) (C := RX3) (T := TX3) (N := 10) hx hb hts (by decide +kernel) hown hK hP 6 rfl rfl 5 (by decide) (hts (.fieldLink RX3 19 "ThatchRoofModel" "rain" "[I") (by decide +kernel)) (fun _ h9 => h9) rfl dX3_digest_52 ?_
  refine lv_iload_n hx hb dX3_digest_55 rfl (lv_at hl 0 rfl) ?_
  refine va_iald hx hb hK hP 11 5 rfl rfl (vp_in_nI (n := 1) (by decide) (by decide)) dX3_digest_56 ?_
  refine lv_topi (fun x24 ex24 => ?_)
  obtain rfl : x24 = 4 := ex24.trans (hn _ (by decide))
  refine lv_imul hx hb dX3_digest_57 ?_
  refine W.eq (g2 := F0 m 58 ls [.int 40, .long 330278990522114183]) rfl ?_
  refine lv_i2l (v := 40) hx hb dX3_digest_58 (by first | rfl | decide) ?_
  refine lv_ladd hx hb dX3_digest_59 ?_
  refine W.eq (g2 := F0 m 60 ls [.long 330278990522114223]) rfl ?_
  refine lv_aload_n hx hb dX3_digest_60 rfl (lv_at hl 2 rfl) ?_
  refine va_get (D := (dC, dI)) (ci := 3) (v := .ref so) (C := RX3) (T := TX3) (N := 10) hx hb hts (by decide +kernel) hown hK hP 6 rfl rfl 6 (by decide) (hts (.fieldLink RX3 22 "ThatchRoofModel" "storm" "[I") (by decide +kernel)) (fun _ h9 => h9) rfl dX3_digest_61 ?_
  refine lv_iload_n hx hb dX3_digest_64 rfl (lv_at hl 0 rfl) ?_
  refine va_iald hx hb hK hP 12 6 rfl rfl (vp_in_nI (n := 1) (by decide) (by decide)) dX3_digest_65 ?_
  refine lv_topi (fun x25 ex25 => ?_)
  obtain rfl : x25 = 0 := ex25
  refine lv_i2l (v := 0) hx hb dX3_digest_66 (by first | rfl | decide) ?_
  refine lv_ladd hx hb dX3_digest_67 ?_
  refine W.eq (g2 := F0 m 68 ls [.long 330278990522114223]) rfl ?_
  refine lv_lstore_n (lv' := [(1, .long 330278990522114223), (3, .int 1), (0, .ref hm)]) hx hb dX3_digest_68 rfl hl (by decide) rfl (fun ls hl => ?_)
  refine lv_iinc (v := 2) (lv' := [(3, .int 2), (1, .long 330278990522114223), (0, .ref hm)]) hx hb dX3_digest_69 hl (k := 1) rfl (by decide) (by decide) rfl (fun ls hl => ?_)
  refine lv_goto (tgt := 38) hx hb dX3_digest_72 (by decide) ?_
  refine lv_iload_n hx hb dX3_digest_38 rfl (lv_at hl 0 rfl) ?_
  refine lv_bipush (v := 12) hx hb dX3_digest_39 (by decide) ?_
  refine lv_icmp_ge (tgt := 75) hx hb dX3_digest_41 (by decide) (fun c26 => absurd c26 (by decide)) (fun c26 => ?_)
  refine lv_lload_n hx hb dX3_digest_44 rfl (lv_at hl 1 rfl) ?_
  refine lv_ldc2 (v := 31) hx hb hown (hts (.constantLong RX3 151 31) (by decide +kernel)) dX3_digest_45 ?_
  refine lv_lmul hx hb dX3_digest_48 ?_
  refine W.eq (g2 := F0 m 49 ls [.long (-8208095367524010703)]) rfl ?_
  refine lv_bipush (v := 10) hx hb dX3_digest_49 (by decide) ?_
  refine lv_aload_n hx hb dX3_digest_51 rfl (lv_at hl 2 rfl) ?_
  refine va_get (D := (dC, dI)) (ci := 3) (v := .ref rn) (C := RX3) (T := TX3) (N := 10) hx hb hts (by decide +kernel) hown hK hP 6 rfl rfl 5 (by decide) (hts (.fieldLink RX3 19 "ThatchRoofModel" "rain" "[I") (by decide +kernel)) (fun _ h9 => h9) rfl dX3_digest_52 ?_
  refine lv_iload_n hx hb dX3_digest_55 rfl (lv_at hl 0 rfl) ?_
  refine va_iald hx hb hK hP 11 5 rfl rfl (vp_in_nI (n := 2) (by decide) (by decide)) dX3_digest_56 ?_
  refine lv_topi (fun x27 ex27 => ?_)
  obtain rfl : x27 = 4 := ex27.trans (hn _ (by decide))
  refine lv_imul hx hb dX3_digest_57 ?_
  refine W.eq (g2 := F0 m 58 ls [.int 40, .long (-8208095367524010703)]) rfl ?_
  refine lv_i2l (v := 40) hx hb dX3_digest_58 (by first | rfl | decide) ?_
  refine lv_ladd hx hb dX3_digest_59 ?_
  refine W.eq (g2 := F0 m 60 ls [.long (-8208095367524010663)]) rfl ?_
  refine lv_aload_n hx hb dX3_digest_60 rfl (lv_at hl 2 rfl) ?_
  refine va_get (D := (dC, dI)) (ci := 3) (v := .ref so) (C := RX3) (T := TX3) (N := 10) hx hb hts (by decide +kernel) hown hK hP 6 rfl rfl 6 (by decide) (hts (.fieldLink RX3 22 "ThatchRoofModel" "storm" "[I") (by decide +kernel)) (fun _ h9 => h9) rfl dX3_digest_61 ?_
  refine lv_iload_n hx hb dX3_digest_64 rfl (lv_at hl 0 rfl) ?_
  refine va_iald hx hb hK hP 12 6 rfl rfl (vp_in_nI (n := 2) (by decide) (by decide)) dX3_digest_65 ?_
  refine lv_topi (fun x28 ex28 => ?_)
  obtain rfl : x28 = 0 := ex28
  refine lv_i2l (v := 0) hx hb dX3_digest_66 (by first | rfl | decide) ?_
  refine lv_ladd hx hb dX3_digest_67 ?_
  refine W.eq (g2 := F0 m 68 ls [.long (-8208095367524010663)]) rfl ?_
  refine lv_lstore_n (lv' := [(1, .long (-8208095367524010663)), (3, .int 2), (0, .ref hm)]) hx hb dX3_digest_68 rfl hl (by decide) rfl (fun ls hl => ?_)
  refine lv_iinc (v := 3) (lv' := [(3, .int 3), (1, .long (-8208095367524010663)), (0, .ref hm)]) hx hb dX3_digest_69 hl (k := 1) rfl (by decide) (by decide) rfl (fun ls hl => ?_)
  refine lv_goto (tgt := 38) hx hb dX3_digest_72 (by decide) ?_
  refine lv_iload_n hx hb dX3_digest_38 rfl (lv_at hl 0 rfl) ?_
  refine lv_bipush (v := 12) hx hb dX3_digest_39 (by decide) ?_
  refine lv_icmp_ge (tgt := 75) hx hb dX3_digest_41 (by decide) (fun c29 => absurd c29 (by decide)) (fun c29 => ?_)
  refine lv_lload_n hx hb dX3_digest_44 rfl (lv_at hl 1 rfl) ?_
  refine lv_ldc2 (v := 31) hx hb hown (hts (.constantLong RX3 151 31) (by decide +kernel)) dX3_digest_45 ?_
  refine lv_lmul hx hb dX3_digest_48 ?_
  refine W.eq (g2 := F0 m 49 ls [.long 3803460638689392071]) rfl ?_
  refine lv_bipush (v := 10) hx hb dX3_digest_49 (by decide) ?_
  refine lv_aload_n hx hb dX3_digest_51 rfl (lv_at hl 2 rfl) ?_
  refine va_get (D := (dC, dI)) (ci := 3) (v := .ref rn) (C := RX3) (T := TX3) (N := 10) hx hb hts (by decide +kernel) hown hK hP 6 rfl rfl 5 (by decide) (hts (.fieldLink RX3 19 "ThatchRoofModel" "rain" "[I") (by decide +kernel)) (fun _ h9 => h9) rfl dX3_digest_52 ?_
  refine lv_iload_n hx hb dX3_digest_55 rfl (lv_at hl 0 rfl) ?_
  refine va_iald hx hb hK hP 11 5 rfl rfl (vp_in_nI (n := 3) (by decide) (by decide)) dX3_digest_56 ?_
  refine lv_topi (fun x30 ex30 => ?_)
  obtain rfl : x30 = 4 := ex30.trans (hn _ (by decide))
  refine lv_imul hx hb dX3_digest_57 ?_
  refine W.eq (g2 := F0 m 58 ls [.int 40, .long 3803460638689392071]) rfl ?_
  refine lv_i2l (v := 40) hx hb dX3_digest_58 (by first | rfl | decide) ?_
  refine lv_ladd hx hb dX3_digest_59 ?_
  refine W.eq (g2 := F0 m 60 ls [.long 3803460638689392111]) rfl ?_
  refine lv_aload_n hx hb dX3_digest_60 rfl (lv_at hl 2 rfl) ?_
  refine va_get (D := (dC, dI)) (ci := 3) (v := .ref so) (C := RX3) (T := TX3) (N := 10) hx hb hts (by decide +kernel) hown hK hP 6 rfl rfl 6 (by decide) (hts (.fieldLink RX3 22 "ThatchRoofModel" "storm" "[I") (by decide +kernel)) (fun _ h9 => h9) rfl dX3_digest_61 ?_
  refine lv_iload_n hx hb dX3_digest_64 rfl (lv_at hl 0 rfl) ?_
  refine va_iald hx hb hK hP 12 6 rfl rfl (vp_in_nI (n := 3) (by decide) (by decide)) dX3_digest_65 ?_
  refine lv_topi (fun x31 ex31 => ?_)
  obtain rfl : x31 = 0 := ex31
  refine lv_i2l (v := 0) hx hb dX3_digest_66 (by first | rfl | decide) ?_
  refine lv_ladd hx hb dX3_digest_67 ?_
  refine W.eq (g2 := F0 m 68 ls [.long 3803460638689392111]) rfl ?_
  refine lv_lstore_n (lv' := [(1, .long 3803460638689392111), (3, .int 3), (0, .ref hm)]) hx hb dX3_digest_68 rfl hl (by decide) rfl (fun ls hl => ?_)
  refine lv_iinc (v := 4) (lv' := [(3, .int 4), (1, .long 3803460638689392111), (0, .ref hm)]) hx hb dX3_digest_69 hl (k := 1) rfl (by decide) (by decide) rfl (fun ls hl => ?_)
  refine lv_goto (tgt := 38) hx hb dX3_digest_72 (by decide) ?_
  refine lv_iload_n hx hb dX3_digest_38 rfl (lv_at hl 0 rfl) ?_
  refine lv_bipush (v := 12) hx hb dX3_digest_39 (by decide) ?_
  refine lv_icmp_ge (tgt := 75) hx hb dX3_digest_41 (by decide) (fun c32 => absurd c32 (by decide)) (fun c32 => ?_)
  refine lv_lload_n hx hb dX3_digest_44 rfl (lv_at hl 1 rfl) ?_
  refine lv_ldc2 (v := 31) hx hb hown (hts (.constantLong RX3 151 31) (by decide +kernel)) dX3_digest_45 ?_
  refine lv_lmul hx hb dX3_digest_48 ?_
  refine W.eq (g2 := F0 m 49 ls [.long 7226815357113845745]) rfl ?_
  refine lv_bipush (v := 10) hx hb dX3_digest_49 (by decide) ?_
  refine lv_aload_n hx hb dX3_digest_51 rfl (lv_at hl 2 rfl) ?_
  refine va_get (D := (dC, dI)) (ci := 3) (v := .ref rn) (C := RX3) (T := TX3) (N := 10) hx hb hts (by decide +kernel) hown hK hP 6 rfl rfl 5 (by decide) (hts (.fieldLink RX3 19 "ThatchRoofModel" "rain" "[I") (by decide +kernel)) (fun _ h9 => h9) rfl dX3_digest_52 ?_
  refine lv_iload_n hx hb dX3_digest_55 rfl (lv_at hl 0 rfl) ?_
  refine va_iald hx hb hK hP 11 5 rfl rfl (vp_in_nI (n := 4) (by decide) (by decide)) dX3_digest_56 ?_
  refine lv_topi (fun x33 ex33 => ?_)
  obtain rfl : x33 = 4 := ex33.trans (hn _ (by decide))
  refine lv_imul hx hb dX3_digest_57 ?_
  refine W.eq (g2 := F0 m 58 ls [.int 40, .long 7226815357113845745]) rfl ?_
  refine lv_i2l (v := 40) hx hb dX3_digest_58 (by first | rfl | decide) ?_
  refine lv_ladd hx hb dX3_digest_59 ?_
  refine W.eq (g2 := F0 m 60 ls [.long 7226815357113845785]) rfl ?_
  refine lv_aload_n hx hb dX3_digest_60 rfl (lv_at hl 2 rfl) ?_
  refine va_get (D := (dC, dI)) (ci := 3) (v := .ref so) (C := RX3) (T := TX3) (N := 10) hx hb hts (by decide +kernel) hown hK hP 6 rfl rfl 6 (by decide) (hts (.fieldLink RX3 22 "ThatchRoofModel" "storm" "[I") (by decide +kernel)) (fun _ h9 => h9) rfl dX3_digest_61 ?_
  refine lv_iload_n hx hb dX3_digest_64 rfl (lv_at hl 0 rfl) ?_
  refine va_iald hx hb hK hP 12 6 rfl rfl (vp_in_nI (n := 4) (by decide) (by decide)) dX3_digest_65 ?_
  refine lv_topi (fun x34 ex34 => ?_)
  obtain rfl : x34 = 0 := ex34
  refine lv_i2l (v := 0) hx hb dX3_digest_66 (by first | rfl | decide) ?_
  refine lv_ladd hx hb dX3_digest_67 ?_
  refine W.eq (g2 := F0 m 68 ls [.long 7226815357113845785]) rfl ?_
  refine lv_lstore_n (lv' := [(1, .long 7226815357113845785), (3, .int 4), (0, .ref hm)]) hx hb dX3_digest_68 rfl hl (by decide) rfl (fun ls hl => ?_)
  refine lv_iinc (v := 5) (lv' := [(3, .int 5), (1, .long 7226815357113845785), (0, .ref hm)]) hx hb dX3_digest_69 hl (k := 1) rfl (by decide) (by decide) rfl (fun ls hl => ?_)
  refine lv_goto (tgt := 38) hx hb dX3_digest_72 (by decide) ?_
  refine lv_iload_n hx hb dX3_digest_38 rfl (lv_at hl 0 rfl) ?_
  refine lv_bipush (v := 12) hx hb dX3_digest_39 (by decide) ?_
  refine lv_icmp_ge (tgt := 75) hx hb dX3_digest_41 (by decide) (fun c35 => absurd c35 (by decide)) (fun c35 => ?_)
  refine lv_lload_n hx hb dX3_digest_44 rfl (lv_at hl 1 rfl) ?_
  refine lv_ldc2 (v := 31) hx hb hown (hts (.constantLong RX3 151 31) (by decide +kernel)) dX3_digest_45 ?_
  refine lv_lmul hx hb dX3_digest_48 ?_
  refine W.eq (g2 := F0 m 49 ls [.long 2670347186014599943]) rfl ?_
  refine lv_bipush (v := 10) hx hb dX3_digest_49 (by decide) ?_
  refine lv_aload_n hx hb dX3_digest_51 rfl (lv_at hl 2 rfl) ?_
  refine va_get (D := (dC, dI)) (ci := 3) (v := .ref rn) (C := RX3) (T := TX3) (N := 10) hx hb hts (by decide +kernel) hown hK hP 6 rfl rfl 5 (by decide) (hts (.fieldLink RX3 19 "ThatchRoofModel" "rain" "[I") (by decide +kernel)) (fun _ h9 => h9) rfl dX3_digest_52 ?_
  refine lv_iload_n hx hb dX3_digest_55 rfl (lv_at hl 0 rfl) ?_
  refine va_iald hx hb hK hP 11 5 rfl rfl (vp_in_nI (n := 5) (by decide) (by decide)) dX3_digest_56 ?_
  refine lv_topi (fun x36 ex36 => ?_)
  obtain rfl : x36 = 4 := ex36.trans (hn _ (by decide))
  refine lv_imul hx hb dX3_digest_57 ?_
  refine W.eq (g2 := F0 m 58 ls [.int 40, .long 2670347186014599943]) rfl ?_
  refine lv_i2l (v := 40) hx hb dX3_digest_58 (by first | rfl | decide) ?_
  refine lv_ladd hx hb dX3_digest_59 ?_
  refine W.eq (g2 := F0 m 60 ls [.long 2670347186014599983]) rfl ?_
  refine lv_aload_n hx hb dX3_digest_60 rfl (lv_at hl 2 rfl) ?_
  refine va_get (D := (dC, dI)) (ci := 3) (v := .ref so) (C := RX3) (T := TX3) (N := 10) hx hb hts (by decide +kernel) hown hK hP 6 rfl rfl 6 (by decide) (hts (.fieldLink RX3 22 "ThatchRoofModel" "storm" "[I") (by decide +kernel)) (fun _ h9 => h9) rfl dX3_digest_61 ?_
  refine lv_iload_n hx hb dX3_digest_64 rfl (lv_at hl 0 rfl) ?_
  refine va_iald hx hb hK hP 12 6 rfl rfl (vp_in_nI (n := 5) (by decide) (by decide)) dX3_digest_65 ?_
  refine lv_topi (fun x37 ex37 => ?_)
  obtain rfl : x37 = 0 := ex37
  refine lv_i2l (v := 0) hx hb dX3_digest_66 (by first | rfl | decide) ?_
  refine lv_ladd hx hb dX3_digest_67 ?_
  refine W.eq (g2 := F0 m 68 ls [.long 2670347186014599983]) rfl ?_
  refine lv_lstore_n (lv' := [(1, .long 2670347186014599983), (3, .int 5), (0, .ref hm)]) hx hb dX3_digest_68 rfl hl (by decide) rfl (fun ls hl => ?_)
  refine lv_iinc (v := 6) (lv' := [(3, .int 6), (1, .long 2670347186014599983), (0, .ref hm)]) hx hb dX3_digest_69 hl (k := 1) rfl (by decide) (by decide) rfl (fun ls hl => ?_)
  refine lv_goto (tgt := 38) hx hb dX3_digest_72 (by decide) ?_
  refine lv_iload_n hx hb dX3_digest_38 rfl (lv_at hl 0 rfl) ?_
  refine lv_bipush (v := 12) hx hb dX3_digest_39 (by decide) ?_
  refine lv_icmp_ge (tgt := 75) hx hb dX3_digest_41 (by decide) (fun c38 => absurd c38 (by decide)) (fun c38 => ?_)
  refine lv_lload_n hx hb dX3_digest_44 rfl (lv_at hl 1 rfl) ?_
  refine lv_ldc2 (v := 31) hx hb hown (hts (.constantLong RX3 151 31) (by decide +kernel)) dX3_digest_45 ?_
  refine lv_lmul hx hb dX3_digest_48 ?_
  refine W.eq (g2 := F0 m 49 ls [.long 8993786471614393009]) rfl ?_
  refine lv_bipush (v := 10) hx hb dX3_digest_49 (by decide) ?_
  refine lv_aload_n hx hb dX3_digest_51 rfl (lv_at hl 2 rfl) ?_
  refine va_get (D := (dC, dI)) (ci := 3) (v := .ref rn) (C := RX3) (T := TX3) (N := 10) hx hb hts (by decide +kernel) hown hK hP 6 rfl rfl 5 (by decide) (hts (.fieldLink RX3 19 "ThatchRoofModel" "rain" "[I") (by decide +kernel)) (fun _ h9 => h9) rfl dX3_digest_52 ?_
  refine lv_iload_n hx hb dX3_digest_55 rfl (lv_at hl 0 rfl) ?_
  refine va_iald hx hb hK hP 11 5 rfl rfl (vp_in_nI (n := 6) (by decide) (by decide)) dX3_digest_56 ?_
  refine lv_topi (fun x39 ex39 => ?_)
  obtain rfl : x39 = 4 := ex39.trans (hn _ (by decide))
  refine lv_imul hx hb dX3_digest_57 ?_
  refine W.eq (g2 := F0 m 58 ls [.int 40, .long 8993786471614393009]) rfl ?_
  refine lv_i2l (v := 40) hx hb dX3_digest_58 (by first | rfl | decide) ?_
  refine lv_ladd hx hb dX3_digest_59 ?_
  refine W.eq (g2 := F0 m 60 ls [.long 8993786471614393049]) rfl ?_
  refine lv_aload_n hx hb dX3_digest_60 rfl (lv_at hl 2 rfl) ?_
  refine va_get (D := (dC, dI)) (ci := 3) (v := .ref so) (C := RX3) (T := TX3) (N := 10) hx hb hts (by decide +kernel) hown hK hP 6 rfl rfl 6 (by decide) (hts (.fieldLink RX3 22 "ThatchRoofModel" "storm" "[I") (by decide +kernel)) (fun _ h9 => h9) rfl dX3_digest_61 ?_
  refine lv_iload_n hx hb dX3_digest_64 rfl (lv_at hl 0 rfl) ?_
  refine va_iald hx hb hK hP 12 6 rfl rfl (vp_in_nI (n := 6) (by decide) (by decide)) dX3_digest_65 ?_
  refine lv_topi (fun x40 ex40 => ?_)
  obtain rfl : x40 = 0 := ex40
  refine lv_i2l (v := 0) hx hb dX3_digest_66 (by first | rfl | decide) ?_
  refine lv_ladd hx hb dX3_digest_67 ?_
  refine W.eq (g2 := F0 m 68 ls [.long 8993786471614393049]) rfl ?_
  refine lv_lstore_n (lv' := [(1, .long 8993786471614393049), (3, .int 6), (0, .ref hm)]) hx hb dX3_digest_68 rfl hl (by decide) rfl (fun ls hl => ?_)
  refine lv_iinc (v := 7) (lv' := [(3, .int 7), (1, .long 8993786471614393049), (0, .ref hm)]) hx hb dX3_digest_69 hl (k := 1) rfl (by decide) (by decide) rfl (fun ls hl => ?_)
  refine lv_goto (tgt := 38) hx hb dX3_digest_72 (by decide) ?_
  refine lv_iload_n hx hb dX3_digest_38 rfl (lv_at hl 0 rfl) ?_
  refine lv_bipush (v := 12) hx hb dX3_digest_39 (by decide) ?_
  refine lv_icmp_ge (tgt := 75) hx hb dX3_digest_41 (by decide) (fun c41 => absurd c41 (by decide)) (fun c41 => ?_)
  refine lv_lload_n hx hb dX3_digest_44 rfl (lv_at hl 1 rfl) ?_
  refine lv_ldc2 (v := 31) hx hb hown (hts (.constantLong RX3 151 31) (by decide +kernel)) dX3_digest_45 ?_
  refine lv_lmul hx hb dX3_digest_48 ?_
  refine W.eq (g2 := F0 m 49 ls [.long 2106219514402910279]) rfl ?_
  refine lv_bipush (v := 10) hx hb dX3_digest_49 (by decide) ?_
  refine lv_aload_n hx hb dX3_digest_51 rfl (lv_at hl 2 rfl) ?_
  refine va_get (D := (dC, dI)) (ci := 3) (v := .ref rn) (C := RX3) (T := TX3) (N := 10) hx hb hts (by decide +kernel) hown hK hP 6 rfl rfl 5 (by decide) (hts (.fieldLink RX3 19 "ThatchRoofModel" "rain" "[I") (by decide +kernel)) (fun _ h9 => h9) rfl dX3_digest_52 ?_
  refine lv_iload_n hx hb dX3_digest_55 rfl (lv_at hl 0 rfl) ?_
  refine va_iald hx hb hK hP 11 5 rfl rfl (vp_in_nI (n := 7) (by decide) (by decide)) dX3_digest_56 ?_
  refine lv_topi (fun x42 ex42 => ?_)
  obtain rfl : x42 = 4 := ex42.trans (hn _ (by decide))
  refine lv_imul hx hb dX3_digest_57 ?_
  refine W.eq (g2 := F0 m 58 ls [.int 40, .long 2106219514402910279]) rfl ?_
  refine lv_i2l (v := 40) hx hb dX3_digest_58 (by first | rfl | decide) ?_
  refine lv_ladd hx hb dX3_digest_59 ?_
  refine W.eq (g2 := F0 m 60 ls [.long 2106219514402910319]) rfl ?_
  refine lv_aload_n hx hb dX3_digest_60 rfl (lv_at hl 2 rfl) ?_
  refine va_get (D := (dC, dI)) (ci := 3) (v := .ref so) (C := RX3) (T := TX3) (N := 10) hx hb hts (by decide +kernel) hown hK hP 6 rfl rfl 6 (by decide) (hts (.fieldLink RX3 22 "ThatchRoofModel" "storm" "[I") (by decide +kernel)) (fun _ h9 => h9) rfl dX3_digest_61 ?_
  refine lv_iload_n hx hb dX3_digest_64 rfl (lv_at hl 0 rfl) ?_
  refine va_iald hx hb hK hP 12 6 rfl rfl (vp_in_nI (n := 7) (by decide) (by decide)) dX3_digest_65 ?_
  refine lv_topi (fun x43 ex43 => ?_)
  obtain rfl : x43 = 0 := ex43
  refine lv_i2l (v := 0) hx hb dX3_digest_66 (by first | rfl | decide) ?_
  refine lv_ladd hx hb dX3_digest_67 ?_
  refine W.eq (g2 := F0 m 68 ls [.long 2106219514402910319]) rfl ?_
  refine lv_lstore_n (lv' := [(1, .long 2106219514402910319), (3, .int 7), (0, .ref hm)]) hx hb dX3_digest_68 rfl hl (by decide) rfl (fun ls hl => ?_)
  refine lv_iinc (v := 8) (lv' := [(3, .int 8), (1, .long 2106219514402910319), (0, .ref hm)]) hx hb dX3_digest_69 hl (k := 1) rfl (by decide) (by decide) rfl (fun ls hl => ?_)
  refine lv_goto (tgt := 38) hx hb dX3_digest_72 (by decide) ?_
  refine lv_iload_n hx hb dX3_digest_38 rfl (lv_at hl 0 rfl) ?_
  refine lv_bipush (v := 12) hx hb dX3_digest_39 (by decide) ?_
  refine lv_icmp_ge (tgt := 75) hx hb dX3_digest_41 (by decide) (fun c44 => absurd c44 (by decide)) (fun c44 => ?_)
  refine lv_lload_n hx hb dX3_digest_44 rfl (lv_at hl 1 rfl) ?_
  refine lv_ldc2 (v := 31) hx hb hown (hts (.constantLong RX3 151 31) (by decide +kernel)) dX3_digest_45 ?_
  refine lv_lmul hx hb dX3_digest_48 ?_
  refine W.eq (g2 := F0 m 49 ls [.long (-8494171348347986575)]) rfl ?_
  refine lv_bipush (v := 10) hx hb dX3_digest_49 (by decide) ?_
  refine lv_aload_n hx hb dX3_digest_51 rfl (lv_at hl 2 rfl) ?_
  refine va_get (D := (dC, dI)) (ci := 3) (v := .ref rn) (C := RX3) (T := TX3) (N := 10) hx hb hts (by decide +kernel) hown hK hP 6 rfl rfl 5 (by decide) (hts (.fieldLink RX3 19 "ThatchRoofModel" "rain" "[I") (by decide +kernel)) (fun _ h9 => h9) rfl dX3_digest_52 ?_
  refine lv_iload_n hx hb dX3_digest_55 rfl (lv_at hl 0 rfl) ?_
  refine va_iald hx hb hK hP 11 5 rfl rfl (vp_in_nI (n := 8) (by decide) (by decide)) dX3_digest_56 ?_
  refine lv_topi (fun x45 ex45 => ?_)
  obtain rfl : x45 = 4 := ex45.trans (hn _ (by decide))
  refine lv_imul hx hb dX3_digest_57 ?_
  refine W.eq (g2 := F0 m 58 ls [.int 40, .long (-8494171348347986575)]) rfl ?_
  refine lv_i2l (v := 40) hx hb dX3_digest_58 (by first | rfl | decide) ?_
  refine lv_ladd hx hb dX3_digest_59 ?_
  refine W.eq (g2 := F0 m 60 ls [.long (-8494171348347986535)]) rfl ?_
  refine lv_aload_n hx hb dX3_digest_60 rfl (lv_at hl 2 rfl) ?_
  refine va_get (D := (dC, dI)) (ci := 3) (v := .ref so) (C := RX3) (T := TX3) (N := 10) hx hb hts (by decide +kernel) hown hK hP 6 rfl rfl 6 (by decide) (hts (.fieldLink RX3 22 "ThatchRoofModel" "storm" "[I") (by decide +kernel)) (fun _ h9 => h9) rfl dX3_digest_61 ?_
  refine lv_iload_n hx hb dX3_digest_64 rfl (lv_at hl 0 rfl) ?_
  refine va_iald hx hb hK hP 12 6 rfl rfl (vp_in_nI (n := 8) (by decide) (by decide)) dX3_digest_65 ?_
  refine lv_topi (fun x46 ex46 => ?_)
  obtain rfl : x46 = 0 := ex46
  refine lv_i2l (v := 0) hx hb dX3_digest_66 (by first | rfl | decide) ?_
  refine lv_ladd hx hb dX3_digest_67 ?_
  refine W.eq (g2 := F0 m 68 ls [.long (-8494171348347986535)]) rfl ?_
  refine lv_lstore_n (lv' := [(1, .long (-8494171348347986535)), (3, .int 8), (0, .ref hm)]) hx hb dX3_digest_68 rfl hl (by decide) rfl (fun ls hl => ?_)
  refine lv_iinc (v := 9) (lv' := [(3, .int 9), (1, .long (-8494171348347986535)), (0, .ref hm)]) hx hb dX3_digest_69 hl (k := 1) rfl (by decide) (by decide) rfl (fun ls hl => ?_)
  refine lv_goto (tgt := 38) hx hb dX3_digest_72 (by decide) ?_
  refine lv_iload_n hx hb dX3_digest_38 rfl (lv_at hl 0 rfl) ?_
  refine lv_bipush (v := 12) hx hb dX3_digest_39 (by decide) ?_
  refine lv_icmp_ge (tgt := 75) hx hb dX3_digest_41 (by decide) (fun c47 => absurd c47 (by decide)) (fun c47 => ?_)
  refine lv_lload_n hx hb dX3_digest_44 rfl (lv_at hl 1 rfl) ?_
  refine lv_ldc2 (v := 31) hx hb hown (hts (.constantLong RX3 151 31) (by decide +kernel)) dX3_digest_45 ?_
  refine lv_lmul hx hb dX3_digest_48 ?_
  refine W.eq (g2 := F0 m 49 ls [.long (-5064894766853859961)]) rfl ?_
  refine lv_bipush (v := 10) hx hb dX3_digest_49 (by decide) ?_
  refine lv_aload_n hx hb dX3_digest_51 rfl (lv_at hl 2 rfl) ?_
  refine va_get (D := (dC, dI)) (ci := 3) (v := .ref rn) (C := RX3) (T := TX3) (N := 10) hx hb hts (by decide +kernel) hown hK hP 6 rfl rfl 5 (by decide) (hts (.fieldLink RX3 19 "ThatchRoofModel" "rain" "[I") (by decide +kernel)) (fun _ h9 => h9) rfl dX3_digest_52 ?_
  refine lv_iload_n hx hb dX3_digest_55 rfl (lv_at hl 0 rfl) ?_
  refine va_iald hx hb hK hP 11 5 rfl rfl (vp_in_nI (n := 9) (by decide) (by decide)) dX3_digest_56 ?_
  refine lv_topi (fun x48 ex48 => ?_)
  obtain rfl : x48 = 4 := ex48.trans (hn _ (by decide))
  refine lv_imul hx hb dX3_digest_57 ?_
  refine W.eq (g2 := F0 m 58 ls [.int 40, .long (-5064894766853859961)]) rfl ?_
  refine lv_i2l (v := 40) hx hb dX3_digest_58 (by first | rfl | decide) ?_
  refine lv_ladd hx hb dX3_digest_59 ?_
  refine W.eq (g2 := F0 m 60 ls [.long (-5064894766853859921)]) rfl ?_
  refine lv_aload_n hx hb dX3_digest_60 rfl (lv_at hl 2 rfl) ?_
  refine va_get (D := (dC, dI)) (ci := 3) (v := .ref so) (C := RX3) (T := TX3) (N := 10) hx hb hts (by decide +kernel) hown hK hP 6 rfl rfl 6 (by decide) (hts (.fieldLink RX3 22 "ThatchRoofModel" "storm" "[I") (by decide +kernel)) (fun _ h9 => h9) rfl dX3_digest_61 ?_
  refine lv_iload_n hx hb dX3_digest_64 rfl (lv_at hl 0 rfl) ?_
  refine va_iald hx hb hK hP 12 6 rfl rfl (vp_in_nI (n := 9) (by decide) (by decide)) dX3_digest_65 ?_
  refine lv_topi (fun x49 ex49 => ?_)
  obtain rfl : x49 = 0 := ex49
  refine lv_i2l (v := 0) hx hb dX3_digest_66 (by first | rfl | decide) ?_
  refine lv_ladd hx hb dX3_digest_67 ?_
  refine W.eq (g2 := F0 m 68 ls [.long (-5064894766853859921)]) rfl ?_
  refine lv_lstore_n (lv' := [(1, .long (-5064894766853859921)), (3, .int 9), (0, .ref hm)]) hx hb dX3_digest_68 rfl hl (by decide) rfl (fun ls hl => ?_)
  refine lv_iinc (v := 10) (lv' := [(3, .int 10), (1, .long (-5064894766853859921)), (0, .ref hm)]) hx hb dX3_digest_69 hl (k := 1) rfl (by decide) (by decide) rfl (fun ls hl => ?_)
  refine lv_goto (tgt := 38) hx hb dX3_digest_72 (by decide) ?_
  refine lv_iload_n hx hb dX3_digest_38 rfl (lv_at hl 0 rfl) ?_
  refine lv_bipush (v := 12) hx hb dX3_digest_39 (by decide) ?_
  refine lv_icmp_ge (tgt := 75) hx hb dX3_digest_41 (by decide) (fun c50 => absurd c50 (by decide)) (fun c50 => ?_)
  refine lv_lload_n hx hb dX3_digest_44 rfl (lv_at hl 1 rfl) ?_
  refine lv_ldc2 (v := 31) hx hb hown (hts (.constantLong RX3 151 31) (by decide +kernel)) dX3_digest_45 ?_
  refine lv_lmul hx hb dX3_digest_48 ?_
  refine W.eq (g2 := F0 m 49 ls [.long 9008958890916306993]) rfl ?_
  refine lv_bipush (v := 10) hx hb dX3_digest_49 (by decide) ?_
  refine lv_aload_n hx hb dX3_digest_51 rfl (lv_at hl 2 rfl) ?_
  refine va_get (D := (dC, dI)) (ci := 3) (v := .ref rn) (C := RX3) (T := TX3) (N := 10) hx hb hts (by decide +kernel) hown hK hP 6 rfl rfl 5 (by decide) (hts (.fieldLink RX3 19 "ThatchRoofModel" "rain" "[I") (by decide +kernel)) (fun _ h9 => h9) rfl dX3_digest_52 ?_
  refine lv_iload_n hx hb dX3_digest_55 rfl (lv_at hl 0 rfl) ?_
  refine va_iald hx hb hK hP 11 5 rfl rfl (vp_in_nI (n := 10) (by decide) (by decide)) dX3_digest_56 ?_
  refine lv_topi (fun x51 ex51 => ?_)
  obtain rfl : x51 = 4 := ex51.trans (hn _ (by decide))
  refine lv_imul hx hb dX3_digest_57 ?_
  refine W.eq (g2 := F0 m 58 ls [.int 40, .long 9008958890916306993]) rfl ?_
  refine lv_i2l (v := 40) hx hb dX3_digest_58 (by first | rfl | decide) ?_
  refine lv_ladd hx hb dX3_digest_59 ?_
  refine W.eq (g2 := F0 m 60 ls [.long 9008958890916307033]) rfl ?_
  refine lv_aload_n hx hb dX3_digest_60 rfl (lv_at hl 2 rfl) ?_
  refine va_get (D := (dC, dI)) (ci := 3) (v := .ref so) (C := RX3) (T := TX3) (N := 10) hx hb hts (by decide +kernel) hown hK hP 6 rfl rfl 6 (by decide) (hts (.fieldLink RX3 22 "ThatchRoofModel" "storm" "[I") (by decide +kernel)) (fun _ h9 => h9) rfl dX3_digest_61 ?_
  refine lv_iload_n hx hb dX3_digest_64 rfl (lv_at hl 0 rfl) ?_
  refine va_iald hx hb hK hP 12 6 rfl rfl (vp_in_nI (n := 10) (by decide) (by decide)) dX3_digest_65 ?_
  refine lv_topi (fun x52 ex52 => ?_)
  obtain rfl : x52 = 0 := ex52
  refine lv_i2l (v := 0) hx hb dX3_digest_66 (by first | rfl | decide) ?_
  refine lv_ladd hx hb dX3_digest_67 ?_
  refine W.eq (g2 := F0 m 68 ls [.long 9008958890916307033]) rfl ?_
  refine lv_lstore_n (lv' := [(1, .long 9008958890916307033), (3, .int 10), (0, .ref hm)]) hx hb dX3_digest_68 rfl hl (by decide) rfl (fun ls hl => ?_)
  refine lv_iinc (v := 11) (lv' := [(3, .int 11), (1, .long 9008958890916307033), (0, .ref hm)]) hx hb dX3_digest_69 hl (k := 1) rfl (by decide) (by decide) rfl (fun ls hl => ?_)
  refine lv_goto (tgt := 38) hx hb dX3_digest_72 (by decide) ?_
  refine lv_iload_n hx hb dX3_digest_38 rfl (lv_at hl 0 rfl) ?_
  refine lv_bipush (v := 12) hx hb dX3_digest_39 (by decide) ?_
  refine lv_icmp_ge (tgt := 75) hx hb dX3_digest_41 (by decide) (fun c53 => absurd c53 (by decide)) (fun c53 => ?_)
  refine lv_lload_n hx hb dX3_digest_44 rfl (lv_at hl 1 rfl) ?_
  refine lv_ldc2 (v := 31) hx hb hown (hts (.constantLong RX3 151 31) (by decide +kernel)) dX3_digest_45 ?_
  refine lv_lmul hx hb dX3_digest_48 ?_
  refine W.eq (g2 := F0 m 49 ls [.long 2576564512762243783]) rfl ?_
  refine lv_bipush (v := 10) hx hb dX3_digest_49 (by decide) ?_
  refine lv_aload_n hx hb dX3_digest_51 rfl (lv_at hl 2 rfl) ?_
  refine va_get (D := (dC, dI)) (ci := 3) (v := .ref rn) (C := RX3) (T := TX3) (N := 10) hx hb hts (by decide +kernel) hown hK hP 6 rfl rfl 5 (by decide) (hts (.fieldLink RX3 19 "ThatchRoofModel" "rain" "[I") (by decide +kernel)) (fun _ h9 => h9) rfl dX3_digest_52 ?_
  refine lv_iload_n hx hb dX3_digest_55 rfl (lv_at hl 0 rfl) ?_
  refine va_iald hx hb hK hP 11 5 rfl rfl (vp_in_nI (n := 11) (by decide) (by decide)) dX3_digest_56 ?_
  refine lv_topi (fun x54 ex54 => ?_)
  obtain rfl : x54 = 4 := ex54.trans (hn _ (by decide))
  refine lv_imul hx hb dX3_digest_57 ?_
  refine W.eq (g2 := F0 m 58 ls [.int 40, .long 2576564512762243783]) rfl ?_
  refine lv_i2l (v := 40) hx hb dX3_digest_58 (by first | rfl | decide) ?_
  refine lv_ladd hx hb dX3_digest_59 ?_
  refine W.eq (g2 := F0 m 60 ls [.long 2576564512762243823]) rfl ?_
  refine lv_aload_n hx hb dX3_digest_60 rfl (lv_at hl 2 rfl) ?_
  refine va_get (D := (dC, dI)) (ci := 3) (v := .ref so) (C := RX3) (T := TX3) (N := 10) hx hb hts (by decide +kernel) hown hK hP 6 rfl rfl 6 (by decide) (hts (.fieldLink RX3 22 "ThatchRoofModel" "storm" "[I") (by decide +kernel)) (fun _ h9 => h9) rfl dX3_digest_61 ?_
  refine lv_iload_n hx hb dX3_digest_64 rfl (lv_at hl 0 rfl) ?_
  refine va_iald hx hb hK hP 12 6 rfl rfl (vp_in_nI (n := 11) (by decide) (by decide)) dX3_digest_65 ?_
  refine lv_topi (fun x55 ex55 => ?_)
  obtain rfl : x55 = 0 := ex55
  refine lv_i2l (v := 0) hx hb dX3_digest_66 (by first | rfl | decide) ?_
  refine lv_ladd hx hb dX3_digest_67 ?_
  refine W.eq (g2 := F0 m 68 ls [.long 2576564512762243823]) rfl ?_
  refine lv_lstore_n (lv' := [(1, .long 2576564512762243823), (3, .int 11), (0, .ref hm)]) hx hb dX3_digest_68 rfl hl (by decide) rfl (fun ls hl => ?_)
  refine lv_iinc (v := 12) (lv' := [(3, .int 12), (1, .long 2576564512762243823), (0, .ref hm)]) hx hb dX3_digest_69 hl (k := 1) rfl (by decide) (by decide) rfl (fun ls hl => ?_)
  refine lv_goto (tgt := 38) hx hb dX3_digest_72 (by decide) ?_
  refine lv_iload_n hx hb dX3_digest_38 rfl (lv_at hl 0 rfl) ?_
  refine lv_bipush (v := 12) hx hb dX3_digest_39 (by decide) ?_
  refine lv_icmp_ge (tgt := 75) hx hb dX3_digest_41 (by decide) (fun c56 => ?_) (fun c56 => absurd c56 (by decide))
  refine lv_iconst (v := 0) hx hb dX3_digest_75 (by decide) ?_
  refine lv_istore_n (lv' := [(3, .int 0), (1, .long 2576564512762243823), (0, .ref hm)]) hx hb dX3_digest_76 rfl hl (by decide) rfl (fun ls hl => ?_)
  suffices K77 : ∀ (n : Nat) (cc77 ss77 dd77 : Nat) (i : Nat) (da : Int64), (cc77 = 9 + 369 * i) → (ss77 = 81 + 2241 * i) → (dd77 = 9 + 369 * i) → (i ≤ 6) → (da = zz_itr i 2576564512762243823) → 6 - i < n → ∀ (H : Heap) (locs : List Loc), va_P (dC, dI) vwCl [(sl, .inl (d3, 6, .inl fs)), (gr, .inl (d4, 6, .inl fg)), (gt, .inl (d8, 6, .inl (fun _ => 0))), (gw, .inl (d9, 6, .inl (fun _ => 0))), (gp, .inl (d12, 360, .inl (fun _ => 0))), (go, .inl (d13, 360, .inl (fun _ => 0))), (hm, .inr (3, [.int 0, .int 6, .ref wi, .ref co, .ref sl, .ref rn, .ref so, .ref bn, .ref sm, .ref ah])), (sm, .inr (2, [.int 0, .ref gr, .ref gt, .ref gw, .ref gk, .ref gi, .ref gp, .ref go, .ref gg, .ref hm])), (wi, .inl (d1, 6, .inl fw)), (co, .inl (d2, 6, .inl fc)), (bn, .inl (d5, 3, .inl (fun _ => 0))), (rn, .inl (d6, 12, .inl fn)), (so, .inl (d7, 12, .inl (fun _ => 0))), (gk, .inl (d10, 360, .inl fk)), (gi, .inl (d11, 360, .inl (fun _ => 0)))] H → va_D A [(sl, .inl (d3, 6, .inl fs)), (gr, .inl (d4, 6, .inl fg)), (gt, .inl (d8, 6, .inl (fun _ => 0))), (gw, .inl (d9, 6, .inl (fun _ => 0))), (gp, .inl (d12, 360, .inl (fun _ => 0))), (go, .inl (d13, 360, .inl (fun _ => 0))), (hm, .inr (3, [.int 0, .int 6, .ref wi, .ref co, .ref sl, .ref rn, .ref so, .ref bn, .ref sm, .ref ah])), (sm, .inr (2, [.int 0, .ref gr, .ref gt, .ref gw, .ref gk, .ref gi, .ref gp, .ref go, .ref gg, .ref hm])), (wi, .inl (d1, 6, .inl fw)), (co, .inl (d2, 6, .inl fc)), (bn, .inl (d5, 3, .inl (fun _ => 0))), (rn, .inl (d6, 12, .inl fn)), (so, .inl (d7, 12, .inl (fun _ => 0))), (gk, .inl (d10, 360, .inl fk)), (gi, .inl (d11, 360, .inl (fun _ => 0)))] → va_S A s.heap H locs → s.heap.size + dd77 ≤ H.size → ∀ ls : Array Slot, lv_has ls 7 [(0, .ref hm), (1, .long da), (3, .int (nI i))] → W p l e ({ frames := 4, cells := 2223, slots := 13527, locals := 94 } : Room) s m (([.ref hm] : List Value).toArray) below meth c H locs cc77 ss77 (MQ below (va_Ql (fun (r : Int64) (u : Unit) => r = zz_itr 6 2576564512762243823) (fun (u : Unit) (t : State) => va_P (dC, dI) vwCl [(hm, .inr (3, [.int 0, .int 6, .ref wi, .ref co, .ref sl, .ref rn, .ref so, .ref bn, .ref sm, .ref ah])), (sm, .inr (2, [.int 0, .ref gr, .ref gt, .ref gw, .ref gk, .ref gi, .ref gp, .ref go, .ref gg, .ref hm])), (wi, .inl (d1, 6, .inl fw)), (co, .inl (d2, 6, .inl fc)), (sl, .inl (d3, 6, .inl fs)), (gr, .inl (d4, 6, .inl fg)), (bn, .inl (d5, 3, .inl (fun _ => 0))), (rn, .inl (d6, 12, .inl fn)), (so, .inl (d7, 12, .inl (fun _ => 0))), (gt, .inl (d8, 6, .inl (fun _ => 0))), (gw, .inl (d9, 6, .inl (fun _ => 0))), (gk, .inl (d10, 360, .inl fk)), (gi, .inl (d11, 360, .inl (fun _ => 0))), (gp, .inl (d12, 360, .inl (fun _ => 0))), (go, .inl (d13, 360, .inl (fun _ => 0)))] t.heap ∧ va_K (dC, dI) vwCl [] t ∧ va_D A [(hm, .inr (3, [.int 0, .int 6, .ref wi, .ref co, .ref sl, .ref rn, .ref so, .ref bn, .ref sm, .ref ah])), (sm, .inr (2, [.int 0, .ref gr, .ref gt, .ref gw, .ref gk, .ref gi, .ref gp, .ref go, .ref gg, .ref hm])), (wi, .inl (d1, 6, .inl fw)), (co, .inl (d2, 6, .inl fc)), (sl, .inl (d3, 6, .inl fs)), (gr, .inl (d4, 6, .inl fg)), (bn, .inl (d5, 3, .inl (fun _ => 0))), (rn, .inl (d6, 12, .inl fn)), (so, .inl (d7, 12, .inl (fun _ => 0))), (gt, .inl (d8, 6, .inl (fun _ => 0))), (gw, .inl (d9, 6, .inl (fun _ => 0))), (gk, .inl (d10, 360, .inl fk)), (gi, .inl (d11, 360, .inl (fun _ => 0))), (gp, .inl (d12, 360, .inl (fun _ => 0))), (go, .inl (d13, 360, .inl (fun _ => 0)))] ∧ s.heap.size + 2223 ≤ t.heap.size) A) (([.ref hm] : List Value).toArray) s 2223 13527 A) (F0 m 77 ls []) from
    K77 _ 9 81 9 0 2576564512762243823 (by omega) (by omega) (by omega) (by decide) (rfl) (Nat.lt_succ_self _) _ _ hP hD hS hZ _ (lv_sub hl [2, 1, 0] rfl)
  intro n
  induction n with
  | zero =>
    intro cc77 ss77 dd77 i da hcc77 hss77 hdd77 hi hda hn
    exact absurd hn (Nat.not_lt_zero _)
  | succ n ih77 =>
    intro cc77 ss77 dd77 i da hcc77 hss77 hdd77 hi hda hn77 H locs hP hD hS hZ ls hl
    refine lv_iload_n hx hb dX3_digest_77 rfl (lv_at hl 2 rfl) ?_
    refine lv_aload_n hx hb dX3_digest_78 rfl (lv_at hl 0 rfl) ?_
    refine va_get (D := (dC, dI)) (ci := 3) (v := .int 6) (C := RX3) (T := TX3) (N := 10) hx hb hts (by decide +kernel) hown hK hP 6 rfl rfl 1 (by decide) (hts (.fieldLink RX3 44 "ThatchRoofModel" "roofs" "I") (by decide +kernel)) (fun _ h9 => h9) rfl dX3_digest_79 ?_
    refine lv_icmp_ge (tgt := 196) hx hb dX3_digest_82 (by decide) (fun c57 => ?_) (fun c57 => ?_)
    · have nc57 : 6 ≤ i := (nI_leI (a := 6) (b := i) (by omega) (by omega)).mp c57
      refine lv_lload_n hx hb dX3_digest_196 rfl (lv_at hl 1 rfl) ?_
      have hP9 := hP.sub (ws' := [(hm, .inr (3, [.int 0, .int 6, .ref wi, .ref co, .ref sl, .ref rn, .ref so, .ref bn, .ref sm, .ref ah])), (sm, .inr (2, [.int 0, .ref gr, .ref gt, .ref gw, .ref gk, .ref gi, .ref gp, .ref go, .ref gg, .ref hm])), (wi, .inl (d1, 6, .inl fw)), (co, .inl (d2, 6, .inl fc)), (sl, .inl (d3, 6, .inl fs)), (gr, .inl (d4, 6, .inl fg)), (bn, .inl (d5, 3, .inl (fun _ => 0))), (rn, .inl (d6, 12, .inl fn)), (so, .inl (d7, 12, .inl (fun _ => 0))), (gt, .inl (d8, 6, .inl (fun _ => 0))), (gw, .inl (d9, 6, .inl (fun _ => 0))), (gk, .inl (d10, 360, .inl fk)), (gi, .inl (d11, 360, .inl (fun _ => 0))), (gp, .inl (d12, 360, .inl (fun _ => 0))), (go, .inl (d13, 360, .inl (fun _ => 0)))]) [6, 7, 8, 9, 0, 1, 10, 11, 12, 2, 3, 13, 14, 4, 5] rfl
      have hD9 := hD.sub (ws' := [(hm, .inr (3, [.int 0, .int 6, .ref wi, .ref co, .ref sl, .ref rn, .ref so, .ref bn, .ref sm, .ref ah])), (sm, .inr (2, [.int 0, .ref gr, .ref gt, .ref gw, .ref gk, .ref gi, .ref gp, .ref go, .ref gg, .ref hm])), (wi, .inl (d1, 6, .inl fw)), (co, .inl (d2, 6, .inl fc)), (sl, .inl (d3, 6, .inl fs)), (gr, .inl (d4, 6, .inl fg)), (bn, .inl (d5, 3, .inl (fun _ => 0))), (rn, .inl (d6, 12, .inl fn)), (so, .inl (d7, 12, .inl (fun _ => 0))), (gt, .inl (d8, 6, .inl (fun _ => 0))), (gw, .inl (d9, 6, .inl (fun _ => 0))), (gk, .inl (d10, 360, .inl fk)), (gi, .inl (d11, 360, .inl (fun _ => 0))), (gp, .inl (d12, 360, .inl (fun _ => 0))), (go, .inl (d13, 360, .inl (fun _ => 0)))]) [6, 7, 8, 9, 0, 1, 10, 11, 12, 2, 3, 13, 14, 4, 5] (by decide) rfl
      have hK9 := hK.sub (tys' := []) [] rfl
      refine W.widen (k := 2223) (n := 13527) (by omega) (by omega) ?_
      exact W.lret (v := da) hx hb hr (fun t ht hW => ⟨⟨da, (), rfl, by have h9 : i = 6 := (by omega); subst h9; exact hda, ⟨by rw [ht]; exact hP9, va_K.moved hW.alike hK9, hD9, by rw [ht]; omega⟩⟩, hS.F ht⟩) hS.2.2 dX3_digest_197
    · have nc57 : i < 6 := Nat.lt_of_not_le (fun q => c57 ((nI_leI (a := 6) (b := i) (by omega) (by omega)).mpr q))
      refine lv_iconst (v := 0) hx hb dX3_digest_85 (by decide) ?_
      refine lv_istore (lv' := [(4, .int 0), (0, .ref hm), (1, .long da), (3, .int (nI i))]) hx hb dX3_digest_86 hl (by decide) rfl (fun ls hl => ?_)
      refine lv_iload hx hb dX3_digest_88 (lv_at hl 0 rfl) ?_
      refine lv_bipush (v := 8) hx hb dX3_digest_90 (by decide) ?_
      refine lv_icmp_gt (tgt := 116) hx hb dX3_digest_92 (by decide) (fun c58 => absurd c58 (by decide)) (fun c58 => ?_)
      refine lv_lload_n hx hb dX3_digest_95 rfl (lv_at hl 2 rfl) ?_
      refine lv_ldc2 (v := 31) hx hb hown (hts (.constantLong RX3 151 31) (by decide +kernel)) dX3_digest_96 ?_
      refine lv_lmul hx hb dX3_digest_99 ?_
      refine lv_topl (fun w59 ew59 => ?_)
      refine lv_aload_n hx hb dX3_digest_100 rfl (lv_at hl 1 rfl) ?_
      refine lv_iload_n hx hb dX3_digest_101 rfl (lv_at hl 3 rfl) ?_
      refine lv_iload hx hb dX3_digest_102 (lv_at hl 0 rfl) ?_
      have hPc := hP.sub (ws' := [(hm, .inr (3, [.int 0, .int 6, .ref wi, .ref co, .ref sl, .ref rn, .ref so, .ref bn, .ref sm, .ref ah])), (sm, .inr (2, [.int 0, .ref gr, .ref gt, .ref gw, .ref gk, .ref gi, .ref gp, .ref go, .ref gg, .ref hm])), (wi, .inl (d1, 6, .inl fw)), (co, .inl (d2, 6, .inl fc)), (sl, .inl (d3, 6, .inl fs)), (gr, .inl (d4, 6, .inl fg)), (gt, .inl (d8, 6, .inl (fun _ => 0))), (gw, .inl (d9, 6, .inl (fun _ => 0))), (gk, .inl (d10, 360, .inl fk)), (gi, .inl (d11, 360, .inl (fun _ => 0)))]) [6, 7, 8, 9, 0, 1, 2, 3, 13, 14] rfl
      have hKc := hK.sub (tys' := [(d1, .int), (d2, .int), (d3, .int), (d4, .int), (d8, .int), (d9, .int), (d10, .int), (d11, .int)]) [0, 1, 2, 3, 7, 8, 9, 10] rfl
      have hDc := hD.sub (ws' := [(hm, .inr (3, [.int 0, .int 6, .ref wi, .ref co, .ref sl, .ref rn, .ref so, .ref bn, .ref sm, .ref ah])), (sm, .inr (2, [.int 0, .ref gr, .ref gt, .ref gw, .ref gk, .ref gi, .ref gp, .ref go, .ref gg, .ref hm])), (wi, .inl (d1, 6, .inl fw)), (co, .inl (d2, 6, .inl fc)), (sl, .inl (d3, 6, .inl fs)), (gr, .inl (d4, 6, .inl fg)), (gt, .inl (d8, 6, .inl (fun _ => 0))), (gw, .inl (d9, 6, .inl (fun _ => 0))), (gk, .inl (d10, 360, .inl fk)), (gi, .inl (d11, 360, .inl (fun _ => 0)))]) [6, 7, 8, 9, 0, 1, 2, 3, 13, 14] (by decide) rfl
      have hFc := va_free (wc := [(hm, .inr (3, [.int 0, .int 6, .ref wi, .ref co, .ref sl, .ref rn, .ref so, .ref bn, .ref sm, .ref ah])), (sm, .inr (2, [.int 0, .ref gr, .ref gt, .ref gw, .ref gk, .ref gi, .ref gp, .ref go, .ref gg, .ref hm])), (wi, .inl (d1, 6, .inl fw)), (co, .inl (d2, 6, .inl fc)), (sl, .inl (d3, 6, .inl fs)), (gr, .inl (d4, 6, .inl fg)), (gt, .inl (d8, 6, .inl (fun _ => 0))), (gw, .inl (d9, 6, .inl (fun _ => 0))), (gk, .inl (d10, 360, .inl fk)), (gi, .inl (d11, 360, .inl (fun _ => 0)))]) hD hS hA [6, 7, 8, 9, 0, 1, 2, 3, 13, 14] rfl
      refine va_calli (va_runV (As := [.int (nI i), .int 0]) (rest := [.long w59]) ⟨hx, hb, hml, hown, hts⟩ (r3_roofTold0 l dC dI H.size hm wi co sl rn so bn sm ah 0 gr gt gw gk gi gp go gg d1 d2 d3 d4 d8 d9 d10 d11 fw fc fs fg fk i (by first | assumption | decide | omega) (by first | assumption | decide | omega) (by first | assumption | decide | omega) (by first | assumption | decide | omega) (by first | assumption | decide | omega) (by first | assumption | decide | omega)) (cwV 2 hts gX3_digest_X3_roofTold rfl rfl rfl (by decide +kernel) ⟨Nat.le_of_ble_eq_true rfl, Nat.le_of_ble_eq_true rfl⟩) ⟨fun a U g mk q => by obtain ⟨q0, q1, qP, qK, qD, qN⟩ := q; exact ⟨q0, q1, qP, va_K.moved (u := U) (U := U.calling g mk a) (Vm.Alike.refl U.vm) qK, qD, zNs.calling qN⟩, va_recv hKc hPc (ci := 3) (q0 := 0) rfl rfl, fun U hU hW => ⟨rfl, by rw [hU], by rw [hU]; exact hPc, va_K.moved hW.alike hKc, hDc.weaken (fun _ _ _ _ => trivial), zNs.warm hW hZN⟩⟩ rfl rfl hl.1 rfl (lv_room (Nat.le_of_ble_eq_true rfl)) dX3_digest_104 ⟨by show _ ≤ 2223; omega, by show _ ≤ 13527; omega⟩) hS (fun q _ h => hFc q h) hFc (fun r60 u t H1 locs ht hvm hr60 hB hz1 hk1 hS => ?_)
      obtain ⟨hP1, hK1, hD1, hZ1⟩ := hB
      rw [ht] at hP1 hZ1
      have hZ : s.heap.size + (dd77 + 1) ≤ H1.size := by omega
      have hK1 := va_K.moved hvm.symm hK1
      try dsimp only at hr60
      obtain ⟨hP, hD⟩ := va_join (wr := [(gp, .inl (d12, 360, .inl (fun _ => 0))), (go, .inl (d13, 360, .inl (fun _ => 0))), (bn, .inl (d5, 3, .inl (fun _ => 0))), (rn, .inl (d6, 12, .inl fn)), (so, .inl (d7, 12, .inl (fun _ => 0)))]) (w1 := [(hm, .inr (3, [.int 0, .int 6, .ref wi, .ref co, .ref sl, .ref rn, .ref so, .ref bn, .ref sm, .ref ah])), (sm, .inr (2, [.int 0, .ref gr, .ref gt, .ref gw, .ref gk, .ref gi, .ref gp, .ref go, .ref gg, .ref hm])), (wi, .inl (d1, 6, .inl fw)), (co, .inl (d2, 6, .inl fc)), (sl, .inl (d3, 6, .inl fs)), (gr, .inl (d4, 6, .inl fg)), (gt, .inl (d8, 6, .inl (fun _ => 0))), (gw, .inl (d9, 6, .inl (fun _ => 0))), (gk, .inl (d10, 360, .inl fk)), (gi, .inl (d11, 360, .inl (fun _ => 0)))]) hP hD [6, 7, 8, 9, 0, 1, 2, 3, 13, 14] [4, 5, 10, 11, 12] rfl rfl (by decide) (by decide) hk1 hFc hP1 hD1
      generalize H1 = H at hP hS hZ ⊢
      have hP : va_P (dC, dI) vwCl [(gp, .inl (d12, 360, .inl (fun _ => 0))), (go, .inl (d13, 360, .inl (fun _ => 0))), (bn, .inl (d5, 3, .inl (fun _ => 0))), (rn, .inl (d6, 12, .inl fn)), (so, .inl (d7, 12, .inl (fun _ => 0))), (hm, .inr (3, [.int 0, .int 6, .ref wi, .ref co, .ref sl, .ref rn, .ref so, .ref bn, .ref sm, .ref ah])), (sm, .inr (2, [.int 0, .ref gr, .ref gt, .ref gw, .ref gk, .ref gi, .ref gp, .ref go, .ref gg, .ref hm])), (wi, .inl (d1, 6, .inl fw)), (co, .inl (d2, 6, .inl fc)), (sl, .inl (d3, 6, .inl fs)), (gr, .inl (d4, 6, .inl fg)), (gt, .inl (d8, 6, .inl (fun _ => 0))), (gw, .inl (d9, 6, .inl (fun _ => 0))), (gk, .inl (d10, 360, .inl fk)), (gi, .inl (d11, 360, .inl (fun _ => 0)))] H := hP
      have hD : va_D A [(gp, .inl (d12, 360, .inl (fun _ => 0))), (go, .inl (d13, 360, .inl (fun _ => 0))), (bn, .inl (d5, 3, .inl (fun _ => 0))), (rn, .inl (d6, 12, .inl fn)), (so, .inl (d7, 12, .inl (fun _ => 0))), (hm, .inr (3, [.int 0, .int 6, .ref wi, .ref co, .ref sl, .ref rn, .ref so, .ref bn, .ref sm, .ref ah])), (sm, .inr (2, [.int 0, .ref gr, .ref gt, .ref gw, .ref gk, .ref gi, .ref gp, .ref go, .ref gg, .ref hm])), (wi, .inl (d1, 6, .inl fw)), (co, .inl (d2, 6, .inl fc)), (sl, .inl (d3, 6, .inl fs)), (gr, .inl (d4, 6, .inl fg)), (gt, .inl (d8, 6, .inl (fun _ => 0))), (gw, .inl (d9, 6, .inl (fun _ => 0))), (gk, .inl (d10, 360, .inl fk)), (gi, .inl (d11, 360, .inl (fun _ => 0)))] := hD
      refine W.widen (k := (cc77 + 1)) (n := (ss77 + 9)) (by omega) (by omega) ?_
      obtain rfl := hr60
      refine lv_i2l (v := 10) hx hb dX3_digest_107 (by first | rfl | decide) ?_
      refine lv_ladd hx hb dX3_digest_108 ?_
      refine lv_topl (fun w61 ew61 => ?_)
      refine lv_lstore_n (lv' := [(1, .long w61), (4, .int 0), (0, .ref hm), (3, .int (nI i))]) hx hb dX3_digest_109 rfl hl (by decide) rfl (fun ls hl => ?_)
      refine lv_iinc (v := 1) (lv' := [(4, .int 1), (1, .long w61), (0, .ref hm), (3, .int (nI i))]) hx hb dX3_digest_110 hl (k := 1) rfl (by decide) (by decide) rfl (fun ls hl => ?_)
      refine lv_goto (tgt := 88) hx hb dX3_digest_113 (by decide) ?_
      refine lv_iload hx hb dX3_digest_88 (lv_at hl 0 rfl) ?_
      refine lv_bipush (v := 8) hx hb dX3_digest_90 (by decide) ?_
      refine lv_icmp_gt (tgt := 116) hx hb dX3_digest_92 (by decide) (fun c62 => absurd c62 (by decide)) (fun c62 => ?_)
      refine lv_lload_n hx hb dX3_digest_95 rfl (lv_at hl 1 rfl) ?_
      refine lv_ldc2 (v := 31) hx hb hown (hts (.constantLong RX3 151 31) (by decide +kernel)) dX3_digest_96 ?_
      refine lv_lmul hx hb dX3_digest_99 ?_
      refine lv_topl (fun w63 ew63 => ?_)
      refine lv_aload_n hx hb dX3_digest_100 rfl (lv_at hl 2 rfl) ?_
      refine lv_iload_n hx hb dX3_digest_101 rfl (lv_at hl 3 rfl) ?_
      refine lv_iload hx hb dX3_digest_102 (lv_at hl 0 rfl) ?_
      have hPc := hP.sub (ws' := [(hm, .inr (3, [.int 0, .int 6, .ref wi, .ref co, .ref sl, .ref rn, .ref so, .ref bn, .ref sm, .ref ah])), (sm, .inr (2, [.int 0, .ref gr, .ref gt, .ref gw, .ref gk, .ref gi, .ref gp, .ref go, .ref gg, .ref hm])), (wi, .inl (d1, 6, .inl fw)), (co, .inl (d2, 6, .inl fc)), (sl, .inl (d3, 6, .inl fs)), (gr, .inl (d4, 6, .inl fg)), (gt, .inl (d8, 6, .inl (fun _ => 0))), (gw, .inl (d9, 6, .inl (fun _ => 0))), (gk, .inl (d10, 360, .inl fk)), (gi, .inl (d11, 360, .inl (fun _ => 0)))]) [5, 6, 7, 8, 9, 10, 11, 12, 13, 14] rfl
      have hKc := hK.sub (tys' := [(d1, .int), (d2, .int), (d3, .int), (d4, .int), (d8, .int), (d9, .int), (d10, .int), (d11, .int)]) [0, 1, 2, 3, 7, 8, 9, 10] rfl
      have hDc := hD.sub (ws' := [(hm, .inr (3, [.int 0, .int 6, .ref wi, .ref co, .ref sl, .ref rn, .ref so, .ref bn, .ref sm, .ref ah])), (sm, .inr (2, [.int 0, .ref gr, .ref gt, .ref gw, .ref gk, .ref gi, .ref gp, .ref go, .ref gg, .ref hm])), (wi, .inl (d1, 6, .inl fw)), (co, .inl (d2, 6, .inl fc)), (sl, .inl (d3, 6, .inl fs)), (gr, .inl (d4, 6, .inl fg)), (gt, .inl (d8, 6, .inl (fun _ => 0))), (gw, .inl (d9, 6, .inl (fun _ => 0))), (gk, .inl (d10, 360, .inl fk)), (gi, .inl (d11, 360, .inl (fun _ => 0)))]) [5, 6, 7, 8, 9, 10, 11, 12, 13, 14] (by decide) rfl
      have hFc := va_free (wc := [(hm, .inr (3, [.int 0, .int 6, .ref wi, .ref co, .ref sl, .ref rn, .ref so, .ref bn, .ref sm, .ref ah])), (sm, .inr (2, [.int 0, .ref gr, .ref gt, .ref gw, .ref gk, .ref gi, .ref gp, .ref go, .ref gg, .ref hm])), (wi, .inl (d1, 6, .inl fw)), (co, .inl (d2, 6, .inl fc)), (sl, .inl (d3, 6, .inl fs)), (gr, .inl (d4, 6, .inl fg)), (gt, .inl (d8, 6, .inl (fun _ => 0))), (gw, .inl (d9, 6, .inl (fun _ => 0))), (gk, .inl (d10, 360, .inl fk)), (gi, .inl (d11, 360, .inl (fun _ => 0)))]) hD hS hA [5, 6, 7, 8, 9, 10, 11, 12, 13, 14] rfl
      refine va_calli (va_runV (As := [.int (nI i), .int 1]) (rest := [.long w63]) ⟨hx, hb, hml, hown, hts⟩ (r3_roofTold1 l dC dI H.size hm wi co sl rn so bn sm ah 0 gr gt gw gk gi gp go gg d1 d2 d3 d4 d8 d9 d10 d11 fw fc fs fg fk i (by first | assumption | decide | omega) (by first | assumption | decide | omega) (by first | assumption | decide | omega) (by first | assumption | decide | omega) (by first | assumption | decide | omega) (by first | assumption | decide | omega)) (cwV 2 hts gX3_digest_X3_roofTold rfl rfl rfl (by decide +kernel) ⟨Nat.le_of_ble_eq_true rfl, Nat.le_of_ble_eq_true rfl⟩) ⟨fun a U g mk q => by obtain ⟨q0, q1, qP, qK, qD, qN⟩ := q; exact ⟨q0, q1, qP, va_K.moved (u := U) (U := U.calling g mk a) (Vm.Alike.refl U.vm) qK, qD, zNs.calling qN⟩, va_recv hKc hPc (ci := 3) (q0 := 0) rfl rfl, fun U hU hW => ⟨rfl, by rw [hU], by rw [hU]; exact hPc, va_K.moved hW.alike hKc, hDc.weaken (fun _ _ _ _ => trivial), zNs.warm hW hZN⟩⟩ rfl rfl hl.1 rfl (lv_room (Nat.le_of_ble_eq_true rfl)) dX3_digest_104 ⟨by show _ ≤ 2223; omega, by show _ ≤ 13527; omega⟩) hS (fun q _ h => hFc q h) hFc (fun r64 u t H1 locs ht hvm hr64 hB hz1 hk1 hS => ?_)
      obtain ⟨hP1, hK1, hD1, hZ1⟩ := hB
      rw [ht] at hP1 hZ1
      have hZ : s.heap.size + (dd77 + 2) ≤ H1.size := by omega
      have hK1 := va_K.moved hvm.symm hK1
      try dsimp only at hr64
      obtain ⟨hP, hD⟩ := va_join (wr := [(gp, .inl (d12, 360, .inl (fun _ => 0))), (go, .inl (d13, 360, .inl (fun _ => 0))), (bn, .inl (d5, 3, .inl (fun _ => 0))), (rn, .inl (d6, 12, .inl fn)), (so, .inl (d7, 12, .inl (fun _ => 0)))]) (w1 := [(hm, .inr (3, [.int 0, .int 6, .ref wi, .ref co, .ref sl, .ref rn, .ref so, .ref bn, .ref sm, .ref ah])), (sm, .inr (2, [.int 0, .ref gr, .ref gt, .ref gw, .ref gk, .ref gi, .ref gp, .ref go, .ref gg, .ref hm])), (wi, .inl (d1, 6, .inl fw)), (co, .inl (d2, 6, .inl fc)), (sl, .inl (d3, 6, .inl fs)), (gr, .inl (d4, 6, .inl fg)), (gt, .inl (d8, 6, .inl (fun _ => 0))), (gw, .inl (d9, 6, .inl (fun _ => 0))), (gk, .inl (d10, 360, .inl fk)), (gi, .inl (d11, 360, .inl (fun _ => 0)))]) hP hD [5, 6, 7, 8, 9, 10, 11, 12, 13, 14] [0, 1, 2, 3, 4] rfl rfl (by decide) (by decide) hk1 hFc hP1 hD1
      generalize H1 = H at hP hS hZ ⊢
      have hP : va_P (dC, dI) vwCl [(gp, .inl (d12, 360, .inl (fun _ => 0))), (go, .inl (d13, 360, .inl (fun _ => 0))), (bn, .inl (d5, 3, .inl (fun _ => 0))), (rn, .inl (d6, 12, .inl fn)), (so, .inl (d7, 12, .inl (fun _ => 0))), (hm, .inr (3, [.int 0, .int 6, .ref wi, .ref co, .ref sl, .ref rn, .ref so, .ref bn, .ref sm, .ref ah])), (sm, .inr (2, [.int 0, .ref gr, .ref gt, .ref gw, .ref gk, .ref gi, .ref gp, .ref go, .ref gg, .ref hm])), (wi, .inl (d1, 6, .inl fw)), (co, .inl (d2, 6, .inl fc)), (sl, .inl (d3, 6, .inl fs)), (gr, .inl (d4, 6, .inl fg)), (gt, .inl (d8, 6, .inl (fun _ => 0))), (gw, .inl (d9, 6, .inl (fun _ => 0))), (gk, .inl (d10, 360, .inl fk)), (gi, .inl (d11, 360, .inl (fun _ => 0)))] H := hP
      have hD : va_D A [(gp, .inl (d12, 360, .inl (fun _ => 0))), (go, .inl (d13, 360, .inl (fun _ => 0))), (bn, .inl (d5, 3, .inl (fun _ => 0))), (rn, .inl (d6, 12, .inl fn)), (so, .inl (d7, 12, .inl (fun _ => 0))), (hm, .inr (3, [.int 0, .int 6, .ref wi, .ref co, .ref sl, .ref rn, .ref so, .ref bn, .ref sm, .ref ah])), (sm, .inr (2, [.int 0, .ref gr, .ref gt, .ref gw, .ref gk, .ref gi, .ref gp, .ref go, .ref gg, .ref hm])), (wi, .inl (d1, 6, .inl fw)), (co, .inl (d2, 6, .inl fc)), (sl, .inl (d3, 6, .inl fs)), (gr, .inl (d4, 6, .inl fg)), (gt, .inl (d8, 6, .inl (fun _ => 0))), (gw, .inl (d9, 6, .inl (fun _ => 0))), (gk, .inl (d10, 360, .inl fk)), (gi, .inl (d11, 360, .inl (fun _ => 0)))] := hD
      refine W.widen (k := (cc77 + 2)) (n := (ss77 + 18)) (by omega) (by omega) ?_
      obtain rfl := hr64
      refine lv_i2l (v := 6) hx hb dX3_digest_107 (by first | rfl | decide) ?_
      refine lv_ladd hx hb dX3_digest_108 ?_
      refine lv_topl (fun w65 ew65 => ?_)
      refine lv_lstore_n (lv' := [(1, .long w65), (4, .int 1), (0, .ref hm), (3, .int (nI i))]) hx hb dX3_digest_109 rfl hl (by decide) rfl (fun ls hl => ?_)
      refine lv_iinc (v := 2) (lv' := [(4, .int 2), (1, .long w65), (0, .ref hm), (3, .int (nI i))]) hx hb dX3_digest_110 hl (k := 1) rfl (by decide) (by decide) rfl (fun ls hl => ?_)
      refine lv_goto (tgt := 88) hx hb dX3_digest_113 (by decide) ?_
      refine lv_iload hx hb dX3_digest_88 (lv_at hl 0 rfl) ?_
      refine lv_bipush (v := 8) hx hb dX3_digest_90 (by decide) ?_
      refine lv_icmp_gt (tgt := 116) hx hb dX3_digest_92 (by decide) (fun c66 => absurd c66 (by decide)) (fun c66 => ?_)
      refine lv_lload_n hx hb dX3_digest_95 rfl (lv_at hl 1 rfl) ?_
      refine lv_ldc2 (v := 31) hx hb hown (hts (.constantLong RX3 151 31) (by decide +kernel)) dX3_digest_96 ?_
      refine lv_lmul hx hb dX3_digest_99 ?_
      refine lv_topl (fun w67 ew67 => ?_)
      refine lv_aload_n hx hb dX3_digest_100 rfl (lv_at hl 2 rfl) ?_
      refine lv_iload_n hx hb dX3_digest_101 rfl (lv_at hl 3 rfl) ?_
      refine lv_iload hx hb dX3_digest_102 (lv_at hl 0 rfl) ?_
      have hPc := hP.sub (ws' := [(hm, .inr (3, [.int 0, .int 6, .ref wi, .ref co, .ref sl, .ref rn, .ref so, .ref bn, .ref sm, .ref ah])), (sm, .inr (2, [.int 0, .ref gr, .ref gt, .ref gw, .ref gk, .ref gi, .ref gp, .ref go, .ref gg, .ref hm])), (wi, .inl (d1, 6, .inl fw)), (co, .inl (d2, 6, .inl fc)), (sl, .inl (d3, 6, .inl fs)), (gr, .inl (d4, 6, .inl fg)), (gt, .inl (d8, 6, .inl (fun _ => 0))), (gw, .inl (d9, 6, .inl (fun _ => 0))), (gk, .inl (d10, 360, .inl fk)), (gi, .inl (d11, 360, .inl (fun _ => 0)))]) [5, 6, 7, 8, 9, 10, 11, 12, 13, 14] rfl
      have hKc := hK.sub (tys' := [(d1, .int), (d2, .int), (d3, .int), (d4, .int), (d8, .int), (d9, .int), (d10, .int), (d11, .int)]) [0, 1, 2, 3, 7, 8, 9, 10] rfl
      have hDc := hD.sub (ws' := [(hm, .inr (3, [.int 0, .int 6, .ref wi, .ref co, .ref sl, .ref rn, .ref so, .ref bn, .ref sm, .ref ah])), (sm, .inr (2, [.int 0, .ref gr, .ref gt, .ref gw, .ref gk, .ref gi, .ref gp, .ref go, .ref gg, .ref hm])), (wi, .inl (d1, 6, .inl fw)), (co, .inl (d2, 6, .inl fc)), (sl, .inl (d3, 6, .inl fs)), (gr, .inl (d4, 6, .inl fg)), (gt, .inl (d8, 6, .inl (fun _ => 0))), (gw, .inl (d9, 6, .inl (fun _ => 0))), (gk, .inl (d10, 360, .inl fk)), (gi, .inl (d11, 360, .inl (fun _ => 0)))]) [5, 6, 7, 8, 9, 10, 11, 12, 13, 14] (by decide) rfl
      have hFc := va_free (wc := [(hm, .inr (3, [.int 0, .int 6, .ref wi, .ref co, .ref sl, .ref rn, .ref so, .ref bn, .ref sm, .ref ah])), (sm, .inr (2, [.int 0, .ref gr, .ref gt, .ref gw, .ref gk, .ref gi, .ref gp, .ref go, .ref gg, .ref hm])), (wi, .inl (d1, 6, .inl fw)), (co, .inl (d2, 6, .inl fc)), (sl, .inl (d3, 6, .inl fs)), (gr, .inl (d4, 6, .inl fg)), (gt, .inl (d8, 6, .inl (fun _ => 0))), (gw, .inl (d9, 6, .inl (fun _ => 0))), (gk, .inl (d10, 360, .inl fk)), (gi, .inl (d11, 360, .inl (fun _ => 0)))]) hD hS hA [5, 6, 7, 8, 9, 10, 11, 12, 13, 14] rfl
      refine va_calli (va_runV (As := [.int (nI i), .int 2]) (rest := [.long w67]) ⟨hx, hb, hml, hown, hts⟩ (r3_roofTold2 l dC dI H.size hm wi co sl rn so bn sm ah 0 gr gt gw gk gi gp go gg d1 d2 d3 d4 d8 d9 d10 d11 fw fc fs fg fk i (by first | assumption | decide | omega) (by first | assumption | decide | omega) (by first | assumption | decide | omega) (by first | assumption | decide | omega) (by first | assumption | decide | omega) (by first | assumption | decide | omega)) (cwV 2 hts gX3_digest_X3_roofTold rfl rfl rfl (by decide +kernel) ⟨Nat.le_of_ble_eq_true rfl, Nat.le_of_ble_eq_true rfl⟩) ⟨fun a U g mk q => by obtain ⟨q0, q1, qP, qK, qD, qN⟩ := q; exact ⟨q0, q1, qP, va_K.moved (u := U) (U := U.calling g mk a) (Vm.Alike.refl U.vm) qK, qD, zNs.calling qN⟩, va_recv hKc hPc (ci := 3) (q0 := 0) rfl rfl, fun U hU hW => ⟨rfl, by rw [hU], by rw [hU]; exact hPc, va_K.moved hW.alike hKc, hDc.weaken (fun _ _ _ _ => trivial), zNs.warm hW hZN⟩⟩ rfl rfl hl.1 rfl (lv_room (Nat.le_of_ble_eq_true rfl)) dX3_digest_104 ⟨by show _ ≤ 2223; omega, by show _ ≤ 13527; omega⟩) hS (fun q _ h => hFc q h) hFc (fun r68 u t H1 locs ht hvm hr68 hB hz1 hk1 hS => ?_)
      obtain ⟨hP1, hK1, hD1, hZ1⟩ := hB
      rw [ht] at hP1 hZ1
      have hZ : s.heap.size + (dd77 + 3) ≤ H1.size := by omega
      have hK1 := va_K.moved hvm.symm hK1
      try dsimp only at hr68
      obtain ⟨hP, hD⟩ := va_join (wr := [(gp, .inl (d12, 360, .inl (fun _ => 0))), (go, .inl (d13, 360, .inl (fun _ => 0))), (bn, .inl (d5, 3, .inl (fun _ => 0))), (rn, .inl (d6, 12, .inl fn)), (so, .inl (d7, 12, .inl (fun _ => 0)))]) (w1 := [(hm, .inr (3, [.int 0, .int 6, .ref wi, .ref co, .ref sl, .ref rn, .ref so, .ref bn, .ref sm, .ref ah])), (sm, .inr (2, [.int 0, .ref gr, .ref gt, .ref gw, .ref gk, .ref gi, .ref gp, .ref go, .ref gg, .ref hm])), (wi, .inl (d1, 6, .inl fw)), (co, .inl (d2, 6, .inl fc)), (sl, .inl (d3, 6, .inl fs)), (gr, .inl (d4, 6, .inl fg)), (gt, .inl (d8, 6, .inl (fun _ => 0))), (gw, .inl (d9, 6, .inl (fun _ => 0))), (gk, .inl (d10, 360, .inl fk)), (gi, .inl (d11, 360, .inl (fun _ => 0)))]) hP hD [5, 6, 7, 8, 9, 10, 11, 12, 13, 14] [0, 1, 2, 3, 4] rfl rfl (by decide) (by decide) hk1 hFc hP1 hD1
      generalize H1 = H at hP hS hZ ⊢
      have hP : va_P (dC, dI) vwCl [(gp, .inl (d12, 360, .inl (fun _ => 0))), (go, .inl (d13, 360, .inl (fun _ => 0))), (bn, .inl (d5, 3, .inl (fun _ => 0))), (rn, .inl (d6, 12, .inl fn)), (so, .inl (d7, 12, .inl (fun _ => 0))), (hm, .inr (3, [.int 0, .int 6, .ref wi, .ref co, .ref sl, .ref rn, .ref so, .ref bn, .ref sm, .ref ah])), (sm, .inr (2, [.int 0, .ref gr, .ref gt, .ref gw, .ref gk, .ref gi, .ref gp, .ref go, .ref gg, .ref hm])), (wi, .inl (d1, 6, .inl fw)), (co, .inl (d2, 6, .inl fc)), (sl, .inl (d3, 6, .inl fs)), (gr, .inl (d4, 6, .inl fg)), (gt, .inl (d8, 6, .inl (fun _ => 0))), (gw, .inl (d9, 6, .inl (fun _ => 0))), (gk, .inl (d10, 360, .inl fk)), (gi, .inl (d11, 360, .inl (fun _ => 0)))] H := hP
      have hD : va_D A [(gp, .inl (d12, 360, .inl (fun _ => 0))), (go, .inl (d13, 360, .inl (fun _ => 0))), (bn, .inl (d5, 3, .inl (fun _ => 0))), (rn, .inl (d6, 12, .inl fn)), (so, .inl (d7, 12, .inl (fun _ => 0))), (hm, .inr (3, [.int 0, .int 6, .ref wi, .ref co, .ref sl, .ref rn, .ref so, .ref bn, .ref sm, .ref ah])), (sm, .inr (2, [.int 0, .ref gr, .ref gt, .ref gw, .ref gk, .ref gi, .ref gp, .ref go, .ref gg, .ref hm])), (wi, .inl (d1, 6, .inl fw)), (co, .inl (d2, 6, .inl fc)), (sl, .inl (d3, 6, .inl fs)), (gr, .inl (d4, 6, .inl fg)), (gt, .inl (d8, 6, .inl (fun _ => 0))), (gw, .inl (d9, 6, .inl (fun _ => 0))), (gk, .inl (d10, 360, .inl fk)), (gi, .inl (d11, 360, .inl (fun _ => 0)))] := hD
      refine W.widen (k := (cc77 + 3)) (n := (ss77 + 27)) (by omega) (by omega) ?_
      obtain rfl := hr68
      refine lv_i2l (v := 30) hx hb dX3_digest_107 (by first | rfl | decide) ?_
      refine lv_ladd hx hb dX3_digest_108 ?_
      refine lv_topl (fun w69 ew69 => ?_)
      refine lv_lstore_n (lv' := [(1, .long w69), (4, .int 2), (0, .ref hm), (3, .int (nI i))]) hx hb dX3_digest_109 rfl hl (by decide) rfl (fun ls hl => ?_)
      refine lv_iinc (v := 3) (lv' := [(4, .int 3), (1, .long w69), (0, .ref hm), (3, .int (nI i))]) hx hb dX3_digest_110 hl (k := 1) rfl (by decide) (by decide) rfl (fun ls hl => ?_)
      refine lv_goto (tgt := 88) hx hb dX3_digest_113 (by decide) ?_
      refine lv_iload hx hb dX3_digest_88 (lv_at hl 0 rfl) ?_
      refine lv_bipush (v := 8) hx hb dX3_digest_90 (by decide) ?_
      refine lv_icmp_gt (tgt := 116) hx hb dX3_digest_92 (by decide) (fun c70 => absurd c70 (by decide)) (fun c70 => ?_)
      refine lv_lload_n hx hb dX3_digest_95 rfl (lv_at hl 1 rfl) ?_
      refine lv_ldc2 (v := 31) hx hb hown (hts (.constantLong RX3 151 31) (by decide +kernel)) dX3_digest_96 ?_
      refine lv_lmul hx hb dX3_digest_99 ?_
      refine lv_topl (fun w71 ew71 => ?_)
      refine lv_aload_n hx hb dX3_digest_100 rfl (lv_at hl 2 rfl) ?_
      refine lv_iload_n hx hb dX3_digest_101 rfl (lv_at hl 3 rfl) ?_
      refine lv_iload hx hb dX3_digest_102 (lv_at hl 0 rfl) ?_
      have hPc := hP.sub (ws' := [(hm, .inr (3, [.int 0, .int 6, .ref wi, .ref co, .ref sl, .ref rn, .ref so, .ref bn, .ref sm, .ref ah])), (sm, .inr (2, [.int 0, .ref gr, .ref gt, .ref gw, .ref gk, .ref gi, .ref gp, .ref go, .ref gg, .ref hm])), (wi, .inl (d1, 6, .inl fw)), (co, .inl (d2, 6, .inl fc)), (sl, .inl (d3, 6, .inl fs)), (gr, .inl (d4, 6, .inl fg)), (gt, .inl (d8, 6, .inl (fun _ => 0))), (gw, .inl (d9, 6, .inl (fun _ => 0))), (gk, .inl (d10, 360, .inl fk)), (gi, .inl (d11, 360, .inl (fun _ => 0)))]) [5, 6, 7, 8, 9, 10, 11, 12, 13, 14] rfl
      have hKc := hK.sub (tys' := [(d1, .int), (d2, .int), (d3, .int), (d4, .int), (d8, .int), (d9, .int), (d10, .int), (d11, .int)]) [0, 1, 2, 3, 7, 8, 9, 10] rfl
      have hDc := hD.sub (ws' := [(hm, .inr (3, [.int 0, .int 6, .ref wi, .ref co, .ref sl, .ref rn, .ref so, .ref bn, .ref sm, .ref ah])), (sm, .inr (2, [.int 0, .ref gr, .ref gt, .ref gw, .ref gk, .ref gi, .ref gp, .ref go, .ref gg, .ref hm])), (wi, .inl (d1, 6, .inl fw)), (co, .inl (d2, 6, .inl fc)), (sl, .inl (d3, 6, .inl fs)), (gr, .inl (d4, 6, .inl fg)), (gt, .inl (d8, 6, .inl (fun _ => 0))), (gw, .inl (d9, 6, .inl (fun _ => 0))), (gk, .inl (d10, 360, .inl fk)), (gi, .inl (d11, 360, .inl (fun _ => 0)))]) [5, 6, 7, 8, 9, 10, 11, 12, 13, 14] (by decide) rfl
      have hFc := va_free (wc := [(hm, .inr (3, [.int 0, .int 6, .ref wi, .ref co, .ref sl, .ref rn, .ref so, .ref bn, .ref sm, .ref ah])), (sm, .inr (2, [.int 0, .ref gr, .ref gt, .ref gw, .ref gk, .ref gi, .ref gp, .ref go, .ref gg, .ref hm])), (wi, .inl (d1, 6, .inl fw)), (co, .inl (d2, 6, .inl fc)), (sl, .inl (d3, 6, .inl fs)), (gr, .inl (d4, 6, .inl fg)), (gt, .inl (d8, 6, .inl (fun _ => 0))), (gw, .inl (d9, 6, .inl (fun _ => 0))), (gk, .inl (d10, 360, .inl fk)), (gi, .inl (d11, 360, .inl (fun _ => 0)))]) hD hS hA [5, 6, 7, 8, 9, 10, 11, 12, 13, 14] rfl
      refine va_calli (va_runV (As := [.int (nI i), .int 3]) (rest := [.long w71]) ⟨hx, hb, hml, hown, hts⟩ (r3_roofTold3 l dC dI H.size hm wi co sl rn so bn sm ah 0 gr gt gw gk gi gp go gg d1 d2 d3 d4 d8 d9 d10 d11 fw fc fs fg fk i (by first | assumption | decide | omega) (by first | assumption | decide | omega) (by first | assumption | decide | omega) (by first | assumption | decide | omega) (by first | assumption | decide | omega) (by first | assumption | decide | omega)) (cwV 2 hts gX3_digest_X3_roofTold rfl rfl rfl (by decide +kernel) ⟨Nat.le_of_ble_eq_true rfl, Nat.le_of_ble_eq_true rfl⟩) ⟨fun a U g mk q => by obtain ⟨q0, q1, qP, qK, qD, qN⟩ := q; exact ⟨q0, q1, qP, va_K.moved (u := U) (U := U.calling g mk a) (Vm.Alike.refl U.vm) qK, qD, zNs.calling qN⟩, va_recv hKc hPc (ci := 3) (q0 := 0) rfl rfl, fun U hU hW => ⟨rfl, by rw [hU], by rw [hU]; exact hPc, va_K.moved hW.alike hKc, hDc.weaken (fun _ _ _ _ => trivial), zNs.warm hW hZN⟩⟩ rfl rfl hl.1 rfl (lv_room (Nat.le_of_ble_eq_true rfl)) dX3_digest_104 ⟨by show _ ≤ 2223; omega, by show _ ≤ 13527; omega⟩) hS (fun q _ h => hFc q h) hFc (fun r72 u t H1 locs ht hvm hr72 hB hz1 hk1 hS => ?_)
      obtain ⟨hP1, hK1, hD1, hZ1⟩ := hB
      rw [ht] at hP1 hZ1
      have hZ : s.heap.size + (dd77 + 4) ≤ H1.size := by omega
      have hK1 := va_K.moved hvm.symm hK1
      try dsimp only at hr72
      obtain ⟨hP, hD⟩ := va_join (wr := [(gp, .inl (d12, 360, .inl (fun _ => 0))), (go, .inl (d13, 360, .inl (fun _ => 0))), (bn, .inl (d5, 3, .inl (fun _ => 0))), (rn, .inl (d6, 12, .inl fn)), (so, .inl (d7, 12, .inl (fun _ => 0)))]) (w1 := [(hm, .inr (3, [.int 0, .int 6, .ref wi, .ref co, .ref sl, .ref rn, .ref so, .ref bn, .ref sm, .ref ah])), (sm, .inr (2, [.int 0, .ref gr, .ref gt, .ref gw, .ref gk, .ref gi, .ref gp, .ref go, .ref gg, .ref hm])), (wi, .inl (d1, 6, .inl fw)), (co, .inl (d2, 6, .inl fc)), (sl, .inl (d3, 6, .inl fs)), (gr, .inl (d4, 6, .inl fg)), (gt, .inl (d8, 6, .inl (fun _ => 0))), (gw, .inl (d9, 6, .inl (fun _ => 0))), (gk, .inl (d10, 360, .inl fk)), (gi, .inl (d11, 360, .inl (fun _ => 0)))]) hP hD [5, 6, 7, 8, 9, 10, 11, 12, 13, 14] [0, 1, 2, 3, 4] rfl rfl (by decide) (by decide) hk1 hFc hP1 hD1
      generalize H1 = H at hP hS hZ ⊢
      have hP : va_P (dC, dI) vwCl [(gp, .inl (d12, 360, .inl (fun _ => 0))), (go, .inl (d13, 360, .inl (fun _ => 0))), (bn, .inl (d5, 3, .inl (fun _ => 0))), (rn, .inl (d6, 12, .inl fn)), (so, .inl (d7, 12, .inl (fun _ => 0))), (hm, .inr (3, [.int 0, .int 6, .ref wi, .ref co, .ref sl, .ref rn, .ref so, .ref bn, .ref sm, .ref ah])), (sm, .inr (2, [.int 0, .ref gr, .ref gt, .ref gw, .ref gk, .ref gi, .ref gp, .ref go, .ref gg, .ref hm])), (wi, .inl (d1, 6, .inl fw)), (co, .inl (d2, 6, .inl fc)), (sl, .inl (d3, 6, .inl fs)), (gr, .inl (d4, 6, .inl fg)), (gt, .inl (d8, 6, .inl (fun _ => 0))), (gw, .inl (d9, 6, .inl (fun _ => 0))), (gk, .inl (d10, 360, .inl fk)), (gi, .inl (d11, 360, .inl (fun _ => 0)))] H := hP
      have hD : va_D A [(gp, .inl (d12, 360, .inl (fun _ => 0))), (go, .inl (d13, 360, .inl (fun _ => 0))), (bn, .inl (d5, 3, .inl (fun _ => 0))), (rn, .inl (d6, 12, .inl fn)), (so, .inl (d7, 12, .inl (fun _ => 0))), (hm, .inr (3, [.int 0, .int 6, .ref wi, .ref co, .ref sl, .ref rn, .ref so, .ref bn, .ref sm, .ref ah])), (sm, .inr (2, [.int 0, .ref gr, .ref gt, .ref gw, .ref gk, .ref gi, .ref gp, .ref go, .ref gg, .ref hm])), (wi, .inl (d1, 6, .inl fw)), (co, .inl (d2, 6, .inl fc)), (sl, .inl (d3, 6, .inl fs)), (gr, .inl (d4, 6, .inl fg)), (gt, .inl (d8, 6, .inl (fun _ => 0))), (gw, .inl (d9, 6, .inl (fun _ => 0))), (gk, .inl (d10, 360, .inl fk)), (gi, .inl (d11, 360, .inl (fun _ => 0)))] := hD
      refine W.widen (k := (cc77 + 4)) (n := (ss77 + 36)) (by omega) (by omega) ?_
      obtain rfl := hr72
      refine lv_i2l (v := 100) hx hb dX3_digest_107 (by first | rfl | decide) ?_
      refine lv_ladd hx hb dX3_digest_108 ?_
      refine lv_topl (fun w73 ew73 => ?_)
      refine lv_lstore_n (lv' := [(1, .long w73), (4, .int 3), (0, .ref hm), (3, .int (nI i))]) hx hb dX3_digest_109 rfl hl (by decide) rfl (fun ls hl => ?_)
      refine lv_iinc (v := 4) (lv' := [(4, .int 4), (1, .long w73), (0, .ref hm), (3, .int (nI i))]) hx hb dX3_digest_110 hl (k := 1) rfl (by decide) (by decide) rfl (fun ls hl => ?_)
      refine lv_goto (tgt := 88) hx hb dX3_digest_113 (by decide) ?_
      refine lv_iload hx hb dX3_digest_88 (lv_at hl 0 rfl) ?_
      refine lv_bipush (v := 8) hx hb dX3_digest_90 (by decide) ?_
      refine lv_icmp_gt (tgt := 116) hx hb dX3_digest_92 (by decide) (fun c74 => absurd c74 (by decide)) (fun c74 => ?_)
      refine lv_lload_n hx hb dX3_digest_95 rfl (lv_at hl 1 rfl) ?_
      refine lv_ldc2 (v := 31) hx hb hown (hts (.constantLong RX3 151 31) (by decide +kernel)) dX3_digest_96 ?_
      refine lv_lmul hx hb dX3_digest_99 ?_
      refine lv_topl (fun w75 ew75 => ?_)
      refine lv_aload_n hx hb dX3_digest_100 rfl (lv_at hl 2 rfl) ?_
      refine lv_iload_n hx hb dX3_digest_101 rfl (lv_at hl 3 rfl) ?_
      refine lv_iload hx hb dX3_digest_102 (lv_at hl 0 rfl) ?_
      have hPc := hP.sub (ws' := [(hm, .inr (3, [.int 0, .int 6, .ref wi, .ref co, .ref sl, .ref rn, .ref so, .ref bn, .ref sm, .ref ah])), (sm, .inr (2, [.int 0, .ref gr, .ref gt, .ref gw, .ref gk, .ref gi, .ref gp, .ref go, .ref gg, .ref hm])), (wi, .inl (d1, 6, .inl fw)), (co, .inl (d2, 6, .inl fc)), (sl, .inl (d3, 6, .inl fs)), (gr, .inl (d4, 6, .inl fg)), (gt, .inl (d8, 6, .inl (fun _ => 0))), (gw, .inl (d9, 6, .inl (fun _ => 0))), (gk, .inl (d10, 360, .inl fk)), (gi, .inl (d11, 360, .inl (fun _ => 0)))]) [5, 6, 7, 8, 9, 10, 11, 12, 13, 14] rfl
      have hKc := hK.sub (tys' := [(d1, .int), (d2, .int), (d3, .int), (d4, .int), (d8, .int), (d9, .int), (d10, .int), (d11, .int)]) [0, 1, 2, 3, 7, 8, 9, 10] rfl
      have hDc := hD.sub (ws' := [(hm, .inr (3, [.int 0, .int 6, .ref wi, .ref co, .ref sl, .ref rn, .ref so, .ref bn, .ref sm, .ref ah])), (sm, .inr (2, [.int 0, .ref gr, .ref gt, .ref gw, .ref gk, .ref gi, .ref gp, .ref go, .ref gg, .ref hm])), (wi, .inl (d1, 6, .inl fw)), (co, .inl (d2, 6, .inl fc)), (sl, .inl (d3, 6, .inl fs)), (gr, .inl (d4, 6, .inl fg)), (gt, .inl (d8, 6, .inl (fun _ => 0))), (gw, .inl (d9, 6, .inl (fun _ => 0))), (gk, .inl (d10, 360, .inl fk)), (gi, .inl (d11, 360, .inl (fun _ => 0)))]) [5, 6, 7, 8, 9, 10, 11, 12, 13, 14] (by decide) rfl
      have hFc := va_free (wc := [(hm, .inr (3, [.int 0, .int 6, .ref wi, .ref co, .ref sl, .ref rn, .ref so, .ref bn, .ref sm, .ref ah])), (sm, .inr (2, [.int 0, .ref gr, .ref gt, .ref gw, .ref gk, .ref gi, .ref gp, .ref go, .ref gg, .ref hm])), (wi, .inl (d1, 6, .inl fw)), (co, .inl (d2, 6, .inl fc)), (sl, .inl (d3, 6, .inl fs)), (gr, .inl (d4, 6, .inl fg)), (gt, .inl (d8, 6, .inl (fun _ => 0))), (gw, .inl (d9, 6, .inl (fun _ => 0))), (gk, .inl (d10, 360, .inl fk)), (gi, .inl (d11, 360, .inl (fun _ => 0)))]) hD hS hA [5, 6, 7, 8, 9, 10, 11, 12, 13, 14] rfl
      refine va_calli (va_runV (As := [.int (nI i), .int 4]) (rest := [.long w75]) ⟨hx, hb, hml, hown, hts⟩ (r3_roofTold4 l dC dI H.size hm wi co sl rn so bn sm ah 0 gr gt gw gk gi gp go gg d1 d2 d3 d4 d8 d9 d10 d11 fw fc fs fg fk i (by first | assumption | decide | omega) (by first | assumption | decide | omega) (by first | assumption | decide | omega) (by first | assumption | decide | omega) (by first | assumption | decide | omega) (by first | assumption | decide | omega)) (cwV 2 hts gX3_digest_X3_roofTold rfl rfl rfl (by decide +kernel) ⟨Nat.le_of_ble_eq_true rfl, Nat.le_of_ble_eq_true rfl⟩) ⟨fun a U g mk q => by obtain ⟨q0, q1, qP, qK, qD, qN⟩ := q; exact ⟨q0, q1, qP, va_K.moved (u := U) (U := U.calling g mk a) (Vm.Alike.refl U.vm) qK, qD, zNs.calling qN⟩, va_recv hKc hPc (ci := 3) (q0 := 0) rfl rfl, fun U hU hW => ⟨rfl, by rw [hU], by rw [hU]; exact hPc, va_K.moved hW.alike hKc, hDc.weaken (fun _ _ _ _ => trivial), zNs.warm hW hZN⟩⟩ rfl rfl hl.1 rfl (lv_room (Nat.le_of_ble_eq_true rfl)) dX3_digest_104 ⟨by show _ ≤ 2223; omega, by show _ ≤ 13527; omega⟩) hS (fun q _ h => hFc q h) hFc (fun r76 u t H1 locs ht hvm hr76 hB hz1 hk1 hS => ?_)
      obtain ⟨hP1, hK1, hD1, hZ1⟩ := hB
      rw [ht] at hP1 hZ1
      have hZ : s.heap.size + (dd77 + 5) ≤ H1.size := by omega
      have hK1 := va_K.moved hvm.symm hK1
      try dsimp only at hr76
      obtain ⟨hP, hD⟩ := va_join (wr := [(gp, .inl (d12, 360, .inl (fun _ => 0))), (go, .inl (d13, 360, .inl (fun _ => 0))), (bn, .inl (d5, 3, .inl (fun _ => 0))), (rn, .inl (d6, 12, .inl fn)), (so, .inl (d7, 12, .inl (fun _ => 0)))]) (w1 := [(hm, .inr (3, [.int 0, .int 6, .ref wi, .ref co, .ref sl, .ref rn, .ref so, .ref bn, .ref sm, .ref ah])), (sm, .inr (2, [.int 0, .ref gr, .ref gt, .ref gw, .ref gk, .ref gi, .ref gp, .ref go, .ref gg, .ref hm])), (wi, .inl (d1, 6, .inl fw)), (co, .inl (d2, 6, .inl fc)), (sl, .inl (d3, 6, .inl fs)), (gr, .inl (d4, 6, .inl fg)), (gt, .inl (d8, 6, .inl (fun _ => 0))), (gw, .inl (d9, 6, .inl (fun _ => 0))), (gk, .inl (d10, 360, .inl fk)), (gi, .inl (d11, 360, .inl (fun _ => 0)))]) hP hD [5, 6, 7, 8, 9, 10, 11, 12, 13, 14] [0, 1, 2, 3, 4] rfl rfl (by decide) (by decide) hk1 hFc hP1 hD1
      generalize H1 = H at hP hS hZ ⊢
      have hP : va_P (dC, dI) vwCl [(gp, .inl (d12, 360, .inl (fun _ => 0))), (go, .inl (d13, 360, .inl (fun _ => 0))), (bn, .inl (d5, 3, .inl (fun _ => 0))), (rn, .inl (d6, 12, .inl fn)), (so, .inl (d7, 12, .inl (fun _ => 0))), (hm, .inr (3, [.int 0, .int 6, .ref wi, .ref co, .ref sl, .ref rn, .ref so, .ref bn, .ref sm, .ref ah])), (sm, .inr (2, [.int 0, .ref gr, .ref gt, .ref gw, .ref gk, .ref gi, .ref gp, .ref go, .ref gg, .ref hm])), (wi, .inl (d1, 6, .inl fw)), (co, .inl (d2, 6, .inl fc)), (sl, .inl (d3, 6, .inl fs)), (gr, .inl (d4, 6, .inl fg)), (gt, .inl (d8, 6, .inl (fun _ => 0))), (gw, .inl (d9, 6, .inl (fun _ => 0))), (gk, .inl (d10, 360, .inl fk)), (gi, .inl (d11, 360, .inl (fun _ => 0)))] H := hP
      have hD : va_D A [(gp, .inl (d12, 360, .inl (fun _ => 0))), (go, .inl (d13, 360, .inl (fun _ => 0))), (bn, .inl (d5, 3, .inl (fun _ => 0))), (rn, .inl (d6, 12, .inl fn)), (so, .inl (d7, 12, .inl (fun _ => 0))), (hm, .inr (3, [.int 0, .int 6, .ref wi, .ref co, .ref sl, .ref rn, .ref so, .ref bn, .ref sm, .ref ah])), (sm, .inr (2, [.int 0, .ref gr, .ref gt, .ref gw, .ref gk, .ref gi, .ref gp, .ref go, .ref gg, .ref hm])), (wi, .inl (d1, 6, .inl fw)), (co, .inl (d2, 6, .inl fc)), (sl, .inl (d3, 6, .inl fs)), (gr, .inl (d4, 6, .inl fg)), (gt, .inl (d8, 6, .inl (fun _ => 0))), (gw, .inl (d9, 6, .inl (fun _ => 0))), (gk, .inl (d10, 360, .inl fk)), (gi, .inl (d11, 360, .inl (fun _ => 0)))] := hD
      refine W.widen (k := (cc77 + 5)) (n := (ss77 + 45)) (by omega) (by omega) ?_
      obtain rfl := hr76
      refine lv_i2l (v := 0) hx hb dX3_digest_107 (by first | rfl | decide) ?_
      refine lv_ladd hx hb dX3_digest_108 ?_
      refine lv_topl (fun w77 ew77 => ?_)
      refine lv_lstore_n (lv' := [(1, .long w77), (4, .int 4), (0, .ref hm), (3, .int (nI i))]) hx hb dX3_digest_109 rfl hl (by decide) rfl (fun ls hl => ?_)
      refine lv_iinc (v := 5) (lv' := [(4, .int 5), (1, .long w77), (0, .ref hm), (3, .int (nI i))]) hx hb dX3_digest_110 hl (k := 1) rfl (by decide) (by decide) rfl (fun ls hl => ?_)
      refine lv_goto (tgt := 88) hx hb dX3_digest_113 (by decide) ?_
      refine lv_iload hx hb dX3_digest_88 (lv_at hl 0 rfl) ?_
      refine lv_bipush (v := 8) hx hb dX3_digest_90 (by decide) ?_
      refine lv_icmp_gt (tgt := 116) hx hb dX3_digest_92 (by decide) (fun c78 => absurd c78 (by decide)) (fun c78 => ?_)
      refine lv_lload_n hx hb dX3_digest_95 rfl (lv_at hl 1 rfl) ?_
      refine lv_ldc2 (v := 31) hx hb hown (hts (.constantLong RX3 151 31) (by decide +kernel)) dX3_digest_96 ?_
      refine lv_lmul hx hb dX3_digest_99 ?_
      refine lv_topl (fun w79 ew79 => ?_)
      refine lv_aload_n hx hb dX3_digest_100 rfl (lv_at hl 2 rfl) ?_
      refine lv_iload_n hx hb dX3_digest_101 rfl (lv_at hl 3 rfl) ?_
      refine lv_iload hx hb dX3_digest_102 (lv_at hl 0 rfl) ?_
      have hPc := hP.sub (ws' := [(hm, .inr (3, [.int 0, .int 6, .ref wi, .ref co, .ref sl, .ref rn, .ref so, .ref bn, .ref sm, .ref ah])), (sm, .inr (2, [.int 0, .ref gr, .ref gt, .ref gw, .ref gk, .ref gi, .ref gp, .ref go, .ref gg, .ref hm])), (wi, .inl (d1, 6, .inl fw)), (co, .inl (d2, 6, .inl fc)), (sl, .inl (d3, 6, .inl fs)), (gr, .inl (d4, 6, .inl fg)), (gt, .inl (d8, 6, .inl (fun _ => 0))), (gw, .inl (d9, 6, .inl (fun _ => 0))), (gk, .inl (d10, 360, .inl fk)), (gi, .inl (d11, 360, .inl (fun _ => 0)))]) [5, 6, 7, 8, 9, 10, 11, 12, 13, 14] rfl
      have hKc := hK.sub (tys' := [(d1, .int), (d2, .int), (d3, .int), (d4, .int), (d8, .int), (d9, .int), (d10, .int), (d11, .int)]) [0, 1, 2, 3, 7, 8, 9, 10] rfl
      have hDc := hD.sub (ws' := [(hm, .inr (3, [.int 0, .int 6, .ref wi, .ref co, .ref sl, .ref rn, .ref so, .ref bn, .ref sm, .ref ah])), (sm, .inr (2, [.int 0, .ref gr, .ref gt, .ref gw, .ref gk, .ref gi, .ref gp, .ref go, .ref gg, .ref hm])), (wi, .inl (d1, 6, .inl fw)), (co, .inl (d2, 6, .inl fc)), (sl, .inl (d3, 6, .inl fs)), (gr, .inl (d4, 6, .inl fg)), (gt, .inl (d8, 6, .inl (fun _ => 0))), (gw, .inl (d9, 6, .inl (fun _ => 0))), (gk, .inl (d10, 360, .inl fk)), (gi, .inl (d11, 360, .inl (fun _ => 0)))]) [5, 6, 7, 8, 9, 10, 11, 12, 13, 14] (by decide) rfl
      have hFc := va_free (wc := [(hm, .inr (3, [.int 0, .int 6, .ref wi, .ref co, .ref sl, .ref rn, .ref so, .ref bn, .ref sm, .ref ah])), (sm, .inr (2, [.int 0, .ref gr, .ref gt, .ref gw, .ref gk, .ref gi, .ref gp, .ref go, .ref gg, .ref hm])), (wi, .inl (d1, 6, .inl fw)), (co, .inl (d2, 6, .inl fc)), (sl, .inl (d3, 6, .inl fs)), (gr, .inl (d4, 6, .inl fg)), (gt, .inl (d8, 6, .inl (fun _ => 0))), (gw, .inl (d9, 6, .inl (fun _ => 0))), (gk, .inl (d10, 360, .inl fk)), (gi, .inl (d11, 360, .inl (fun _ => 0)))]) hD hS hA [5, 6, 7, 8, 9, 10, 11, 12, 13, 14] rfl
      refine va_calli (va_runV (As := [.int (nI i), .int 5]) (rest := [.long w79]) ⟨hx, hb, hml, hown, hts⟩ (r3_roofTold5 l dC dI H.size hm wi co sl rn so bn sm ah 0 gr gt gw gk gi gp go gg d1 d2 d3 d4 d8 d9 d10 d11 fw fc fs fg fk i (by first | assumption | decide | omega) (by first | assumption | decide | omega) (by first | assumption | decide | omega) (by first | assumption | decide | omega) (by first | assumption | decide | omega) (by first | assumption | decide | omega)) (cwV 2 hts gX3_digest_X3_roofTold rfl rfl rfl (by decide +kernel) ⟨Nat.le_of_ble_eq_true rfl, Nat.le_of_ble_eq_true rfl⟩) ⟨fun a U g mk q => by obtain ⟨q0, q1, qP, qK, qD, qN⟩ := q; exact ⟨q0, q1, qP, va_K.moved (u := U) (U := U.calling g mk a) (Vm.Alike.refl U.vm) qK, qD, zNs.calling qN⟩, va_recv hKc hPc (ci := 3) (q0 := 0) rfl rfl, fun U hU hW => ⟨rfl, by rw [hU], by rw [hU]; exact hPc, va_K.moved hW.alike hKc, hDc.weaken (fun _ _ _ _ => trivial), zNs.warm hW hZN⟩⟩ rfl rfl hl.1 rfl (lv_room (Nat.le_of_ble_eq_true rfl)) dX3_digest_104 ⟨by show _ ≤ 2223; omega, by show _ ≤ 13527; omega⟩) hS (fun q _ h => hFc q h) hFc (fun r80 u t H1 locs ht hvm hr80 hB hz1 hk1 hS => ?_)
      obtain ⟨hP1, hK1, hD1, hZ1⟩ := hB
      rw [ht] at hP1 hZ1
      have hZ : s.heap.size + (dd77 + 6) ≤ H1.size := by omega
      have hK1 := va_K.moved hvm.symm hK1
      try dsimp only at hr80
      obtain ⟨hP, hD⟩ := va_join (wr := [(gp, .inl (d12, 360, .inl (fun _ => 0))), (go, .inl (d13, 360, .inl (fun _ => 0))), (bn, .inl (d5, 3, .inl (fun _ => 0))), (rn, .inl (d6, 12, .inl fn)), (so, .inl (d7, 12, .inl (fun _ => 0)))]) (w1 := [(hm, .inr (3, [.int 0, .int 6, .ref wi, .ref co, .ref sl, .ref rn, .ref so, .ref bn, .ref sm, .ref ah])), (sm, .inr (2, [.int 0, .ref gr, .ref gt, .ref gw, .ref gk, .ref gi, .ref gp, .ref go, .ref gg, .ref hm])), (wi, .inl (d1, 6, .inl fw)), (co, .inl (d2, 6, .inl fc)), (sl, .inl (d3, 6, .inl fs)), (gr, .inl (d4, 6, .inl fg)), (gt, .inl (d8, 6, .inl (fun _ => 0))), (gw, .inl (d9, 6, .inl (fun _ => 0))), (gk, .inl (d10, 360, .inl fk)), (gi, .inl (d11, 360, .inl (fun _ => 0)))]) hP hD [5, 6, 7, 8, 9, 10, 11, 12, 13, 14] [0, 1, 2, 3, 4] rfl rfl (by decide) (by decide) hk1 hFc hP1 hD1
      generalize H1 = H at hP hS hZ ⊢
      have hP : va_P (dC, dI) vwCl [(gp, .inl (d12, 360, .inl (fun _ => 0))), (go, .inl (d13, 360, .inl (fun _ => 0))), (bn, .inl (d5, 3, .inl (fun _ => 0))), (rn, .inl (d6, 12, .inl fn)), (so, .inl (d7, 12, .inl (fun _ => 0))), (hm, .inr (3, [.int 0, .int 6, .ref wi, .ref co, .ref sl, .ref rn, .ref so, .ref bn, .ref sm, .ref ah])), (sm, .inr (2, [.int 0, .ref gr, .ref gt, .ref gw, .ref gk, .ref gi, .ref gp, .ref go, .ref gg, .ref hm])), (wi, .inl (d1, 6, .inl fw)), (co, .inl (d2, 6, .inl fc)), (sl, .inl (d3, 6, .inl fs)), (gr, .inl (d4, 6, .inl fg)), (gt, .inl (d8, 6, .inl (fun _ => 0))), (gw, .inl (d9, 6, .inl (fun _ => 0))), (gk, .inl (d10, 360, .inl fk)), (gi, .inl (d11, 360, .inl (fun _ => 0)))] H := hP
      have hD : va_D A [(gp, .inl (d12, 360, .inl (fun _ => 0))), (go, .inl (d13, 360, .inl (fun _ => 0))), (bn, .inl (d5, 3, .inl (fun _ => 0))), (rn, .inl (d6, 12, .inl fn)), (so, .inl (d7, 12, .inl (fun _ => 0))), (hm, .inr (3, [.int 0, .int 6, .ref wi, .ref co, .ref sl, .ref rn, .ref so, .ref bn, .ref sm, .ref ah])), (sm, .inr (2, [.int 0, .ref gr, .ref gt, .ref gw, .ref gk, .ref gi, .ref gp, .ref go, .ref gg, .ref hm])), (wi, .inl (d1, 6, .inl fw)), (co, .inl (d2, 6, .inl fc)), (sl, .inl (d3, 6, .inl fs)), (gr, .inl (d4, 6, .inl fg)), (gt, .inl (d8, 6, .inl (fun _ => 0))), (gw, .inl (d9, 6, .inl (fun _ => 0))), (gk, .inl (d10, 360, .inl fk)), (gi, .inl (d11, 360, .inl (fun _ => 0)))] := hD
      refine W.widen (k := (cc77 + 6)) (n := (ss77 + 54)) (by omega) (by omega) ?_
      obtain rfl := hr80
      refine lv_i2l (v := 0) hx hb dX3_digest_107 (by first | rfl | decide) ?_
      refine lv_ladd hx hb dX3_digest_108 ?_
      refine lv_topl (fun w81 ew81 => ?_)
      refine lv_lstore_n (lv' := [(1, .long w81), (4, .int 5), (0, .ref hm), (3, .int (nI i))]) hx hb dX3_digest_109 rfl hl (by decide) rfl (fun ls hl => ?_)
      refine lv_iinc (v := 6) (lv' := [(4, .int 6), (1, .long w81), (0, .ref hm), (3, .int (nI i))]) hx hb dX3_digest_110 hl (k := 1) rfl (by decide) (by decide) rfl (fun ls hl => ?_)
      refine lv_goto (tgt := 88) hx hb dX3_digest_113 (by decide) ?_
      refine lv_iload hx hb dX3_digest_88 (lv_at hl 0 rfl) ?_
      refine lv_bipush (v := 8) hx hb dX3_digest_90 (by decide) ?_
      refine lv_icmp_gt (tgt := 116) hx hb dX3_digest_92 (by decide) (fun c82 => absurd c82 (by decide)) (fun c82 => ?_)
      refine lv_lload_n hx hb dX3_digest_95 rfl (lv_at hl 1 rfl) ?_
      refine lv_ldc2 (v := 31) hx hb hown (hts (.constantLong RX3 151 31) (by decide +kernel)) dX3_digest_96 ?_
      refine lv_lmul hx hb dX3_digest_99 ?_
      refine lv_topl (fun w83 ew83 => ?_)
      refine lv_aload_n hx hb dX3_digest_100 rfl (lv_at hl 2 rfl) ?_
      refine lv_iload_n hx hb dX3_digest_101 rfl (lv_at hl 3 rfl) ?_
      refine lv_iload hx hb dX3_digest_102 (lv_at hl 0 rfl) ?_
      have hPc := hP.sub (ws' := [(hm, .inr (3, [.int 0, .int 6, .ref wi, .ref co, .ref sl, .ref rn, .ref so, .ref bn, .ref sm, .ref ah])), (sm, .inr (2, [.int 0, .ref gr, .ref gt, .ref gw, .ref gk, .ref gi, .ref gp, .ref go, .ref gg, .ref hm])), (wi, .inl (d1, 6, .inl fw)), (co, .inl (d2, 6, .inl fc)), (sl, .inl (d3, 6, .inl fs)), (gr, .inl (d4, 6, .inl fg)), (gt, .inl (d8, 6, .inl (fun _ => 0))), (gw, .inl (d9, 6, .inl (fun _ => 0))), (gk, .inl (d10, 360, .inl fk)), (gi, .inl (d11, 360, .inl (fun _ => 0)))]) [5, 6, 7, 8, 9, 10, 11, 12, 13, 14] rfl
      have hKc := hK.sub (tys' := [(d1, .int), (d2, .int), (d3, .int), (d4, .int), (d8, .int), (d9, .int), (d10, .int), (d11, .int)]) [0, 1, 2, 3, 7, 8, 9, 10] rfl
      have hDc := hD.sub (ws' := [(hm, .inr (3, [.int 0, .int 6, .ref wi, .ref co, .ref sl, .ref rn, .ref so, .ref bn, .ref sm, .ref ah])), (sm, .inr (2, [.int 0, .ref gr, .ref gt, .ref gw, .ref gk, .ref gi, .ref gp, .ref go, .ref gg, .ref hm])), (wi, .inl (d1, 6, .inl fw)), (co, .inl (d2, 6, .inl fc)), (sl, .inl (d3, 6, .inl fs)), (gr, .inl (d4, 6, .inl fg)), (gt, .inl (d8, 6, .inl (fun _ => 0))), (gw, .inl (d9, 6, .inl (fun _ => 0))), (gk, .inl (d10, 360, .inl fk)), (gi, .inl (d11, 360, .inl (fun _ => 0)))]) [5, 6, 7, 8, 9, 10, 11, 12, 13, 14] (by decide) rfl
      have hFc := va_free (wc := [(hm, .inr (3, [.int 0, .int 6, .ref wi, .ref co, .ref sl, .ref rn, .ref so, .ref bn, .ref sm, .ref ah])), (sm, .inr (2, [.int 0, .ref gr, .ref gt, .ref gw, .ref gk, .ref gi, .ref gp, .ref go, .ref gg, .ref hm])), (wi, .inl (d1, 6, .inl fw)), (co, .inl (d2, 6, .inl fc)), (sl, .inl (d3, 6, .inl fs)), (gr, .inl (d4, 6, .inl fg)), (gt, .inl (d8, 6, .inl (fun _ => 0))), (gw, .inl (d9, 6, .inl (fun _ => 0))), (gk, .inl (d10, 360, .inl fk)), (gi, .inl (d11, 360, .inl (fun _ => 0)))]) hD hS hA [5, 6, 7, 8, 9, 10, 11, 12, 13, 14] rfl
      refine va_calli (va_runV (As := [.int (nI i), .int 6]) (rest := [.long w83]) ⟨hx, hb, hml, hown, hts⟩ (r3_roofTold6 l dC dI H.size hm wi co sl rn so bn sm ah 0 gr gt gw gk gi gp go gg d1 d2 d3 d4 d8 d9 d10 d11 fw fc fs fg fk i (by first | assumption | decide | omega) (by first | assumption | decide | omega) (by first | assumption | decide | omega) (by first | assumption | decide | omega) (by first | assumption | decide | omega) (by first | assumption | decide | omega)) (cwV 2 hts gX3_digest_X3_roofTold rfl rfl rfl (by decide +kernel) ⟨Nat.le_of_ble_eq_true rfl, Nat.le_of_ble_eq_true rfl⟩) ⟨fun a U g mk q => by obtain ⟨q0, q1, qP, qK, qD, qN⟩ := q; exact ⟨q0, q1, qP, va_K.moved (u := U) (U := U.calling g mk a) (Vm.Alike.refl U.vm) qK, qD, zNs.calling qN⟩, va_recv hKc hPc (ci := 3) (q0 := 0) rfl rfl, fun U hU hW => ⟨rfl, by rw [hU], by rw [hU]; exact hPc, va_K.moved hW.alike hKc, hDc.weaken (fun _ _ _ _ => trivial), zNs.warm hW hZN⟩⟩ rfl rfl hl.1 rfl (lv_room (Nat.le_of_ble_eq_true rfl)) dX3_digest_104 ⟨by show _ ≤ 2223; omega, by show _ ≤ 13527; omega⟩) hS (fun q _ h => hFc q h) hFc (fun r84 u t H1 locs ht hvm hr84 hB hz1 hk1 hS => ?_)
      obtain ⟨hP1, hK1, hD1, hZ1⟩ := hB
      rw [ht] at hP1 hZ1
      have hZ : s.heap.size + (dd77 + 7) ≤ H1.size := by omega
      have hK1 := va_K.moved hvm.symm hK1
      try dsimp only at hr84
      obtain ⟨hP, hD⟩ := va_join (wr := [(gp, .inl (d12, 360, .inl (fun _ => 0))), (go, .inl (d13, 360, .inl (fun _ => 0))), (bn, .inl (d5, 3, .inl (fun _ => 0))), (rn, .inl (d6, 12, .inl fn)), (so, .inl (d7, 12, .inl (fun _ => 0)))]) (w1 := [(hm, .inr (3, [.int 0, .int 6, .ref wi, .ref co, .ref sl, .ref rn, .ref so, .ref bn, .ref sm, .ref ah])), (sm, .inr (2, [.int 0, .ref gr, .ref gt, .ref gw, .ref gk, .ref gi, .ref gp, .ref go, .ref gg, .ref hm])), (wi, .inl (d1, 6, .inl fw)), (co, .inl (d2, 6, .inl fc)), (sl, .inl (d3, 6, .inl fs)), (gr, .inl (d4, 6, .inl fg)), (gt, .inl (d8, 6, .inl (fun _ => 0))), (gw, .inl (d9, 6, .inl (fun _ => 0))), (gk, .inl (d10, 360, .inl fk)), (gi, .inl (d11, 360, .inl (fun _ => 0)))]) hP hD [5, 6, 7, 8, 9, 10, 11, 12, 13, 14] [0, 1, 2, 3, 4] rfl rfl (by decide) (by decide) hk1 hFc hP1 hD1
      generalize H1 = H at hP hS hZ ⊢
      have hP : va_P (dC, dI) vwCl [(gp, .inl (d12, 360, .inl (fun _ => 0))), (go, .inl (d13, 360, .inl (fun _ => 0))), (bn, .inl (d5, 3, .inl (fun _ => 0))), (rn, .inl (d6, 12, .inl fn)), (so, .inl (d7, 12, .inl (fun _ => 0))), (hm, .inr (3, [.int 0, .int 6, .ref wi, .ref co, .ref sl, .ref rn, .ref so, .ref bn, .ref sm, .ref ah])), (sm, .inr (2, [.int 0, .ref gr, .ref gt, .ref gw, .ref gk, .ref gi, .ref gp, .ref go, .ref gg, .ref hm])), (wi, .inl (d1, 6, .inl fw)), (co, .inl (d2, 6, .inl fc)), (sl, .inl (d3, 6, .inl fs)), (gr, .inl (d4, 6, .inl fg)), (gt, .inl (d8, 6, .inl (fun _ => 0))), (gw, .inl (d9, 6, .inl (fun _ => 0))), (gk, .inl (d10, 360, .inl fk)), (gi, .inl (d11, 360, .inl (fun _ => 0)))] H := hP
      have hD : va_D A [(gp, .inl (d12, 360, .inl (fun _ => 0))), (go, .inl (d13, 360, .inl (fun _ => 0))), (bn, .inl (d5, 3, .inl (fun _ => 0))), (rn, .inl (d6, 12, .inl fn)), (so, .inl (d7, 12, .inl (fun _ => 0))), (hm, .inr (3, [.int 0, .int 6, .ref wi, .ref co, .ref sl, .ref rn, .ref so, .ref bn, .ref sm, .ref ah])), (sm, .inr (2, [.int 0, .ref gr, .ref gt, .ref gw, .ref gk, .ref gi, .ref gp, .ref go, .ref gg, .ref hm])), (wi, .inl (d1, 6, .inl fw)), (co, .inl (d2, 6, .inl fc)), (sl, .inl (d3, 6, .inl fs)), (gr, .inl (d4, 6, .inl fg)), (gt, .inl (d8, 6, .inl (fun _ => 0))), (gw, .inl (d9, 6, .inl (fun _ => 0))), (gk, .inl (d10, 360, .inl fk)), (gi, .inl (d11, 360, .inl (fun _ => 0)))] := hD
      refine W.widen (k := (cc77 + 7)) (n := (ss77 + 63)) (by omega) (by omega) ?_
      obtain rfl := hr84
      refine lv_i2l (v := 10) hx hb dX3_digest_107 (by first | rfl | decide) ?_
      refine lv_ladd hx hb dX3_digest_108 ?_
      refine lv_topl (fun w85 ew85 => ?_)
      refine lv_lstore_n (lv' := [(1, .long w85), (4, .int 6), (0, .ref hm), (3, .int (nI i))]) hx hb dX3_digest_109 rfl hl (by decide) rfl (fun ls hl => ?_)
      refine lv_iinc (v := 7) (lv' := [(4, .int 7), (1, .long w85), (0, .ref hm), (3, .int (nI i))]) hx hb dX3_digest_110 hl (k := 1) rfl (by decide) (by decide) rfl (fun ls hl => ?_)
      refine lv_goto (tgt := 88) hx hb dX3_digest_113 (by decide) ?_
      refine lv_iload hx hb dX3_digest_88 (lv_at hl 0 rfl) ?_
      refine lv_bipush (v := 8) hx hb dX3_digest_90 (by decide) ?_
      refine lv_icmp_gt (tgt := 116) hx hb dX3_digest_92 (by decide) (fun c86 => absurd c86 (by decide)) (fun c86 => ?_)
      refine lv_lload_n hx hb dX3_digest_95 rfl (lv_at hl 1 rfl) ?_
      refine lv_ldc2 (v := 31) hx hb hown (hts (.constantLong RX3 151 31) (by decide +kernel)) dX3_digest_96 ?_
      refine lv_lmul hx hb dX3_digest_99 ?_
      refine lv_topl (fun w87 ew87 => ?_)
      refine lv_aload_n hx hb dX3_digest_100 rfl (lv_at hl 2 rfl) ?_
      refine lv_iload_n hx hb dX3_digest_101 rfl (lv_at hl 3 rfl) ?_
      refine lv_iload hx hb dX3_digest_102 (lv_at hl 0 rfl) ?_
      have hPc := hP.sub (ws' := [(hm, .inr (3, [.int 0, .int 6, .ref wi, .ref co, .ref sl, .ref rn, .ref so, .ref bn, .ref sm, .ref ah])), (sm, .inr (2, [.int 0, .ref gr, .ref gt, .ref gw, .ref gk, .ref gi, .ref gp, .ref go, .ref gg, .ref hm])), (wi, .inl (d1, 6, .inl fw)), (co, .inl (d2, 6, .inl fc)), (sl, .inl (d3, 6, .inl fs)), (gr, .inl (d4, 6, .inl fg)), (gt, .inl (d8, 6, .inl (fun _ => 0))), (gw, .inl (d9, 6, .inl (fun _ => 0))), (gk, .inl (d10, 360, .inl fk)), (gi, .inl (d11, 360, .inl (fun _ => 0)))]) [5, 6, 7, 8, 9, 10, 11, 12, 13, 14] rfl
      have hKc := hK.sub (tys' := [(d1, .int), (d2, .int), (d3, .int), (d4, .int), (d8, .int), (d9, .int), (d10, .int), (d11, .int)]) [0, 1, 2, 3, 7, 8, 9, 10] rfl
      have hDc := hD.sub (ws' := [(hm, .inr (3, [.int 0, .int 6, .ref wi, .ref co, .ref sl, .ref rn, .ref so, .ref bn, .ref sm, .ref ah])), (sm, .inr (2, [.int 0, .ref gr, .ref gt, .ref gw, .ref gk, .ref gi, .ref gp, .ref go, .ref gg, .ref hm])), (wi, .inl (d1, 6, .inl fw)), (co, .inl (d2, 6, .inl fc)), (sl, .inl (d3, 6, .inl fs)), (gr, .inl (d4, 6, .inl fg)), (gt, .inl (d8, 6, .inl (fun _ => 0))), (gw, .inl (d9, 6, .inl (fun _ => 0))), (gk, .inl (d10, 360, .inl fk)), (gi, .inl (d11, 360, .inl (fun _ => 0)))]) [5, 6, 7, 8, 9, 10, 11, 12, 13, 14] (by decide) rfl
      have hFc := va_free (wc := [(hm, .inr (3, [.int 0, .int 6, .ref wi, .ref co, .ref sl, .ref rn, .ref so, .ref bn, .ref sm, .ref ah])), (sm, .inr (2, [.int 0, .ref gr, .ref gt, .ref gw, .ref gk, .ref gi, .ref gp, .ref go, .ref gg, .ref hm])), (wi, .inl (d1, 6, .inl fw)), (co, .inl (d2, 6, .inl fc)), (sl, .inl (d3, 6, .inl fs)), (gr, .inl (d4, 6, .inl fg)), (gt, .inl (d8, 6, .inl (fun _ => 0))), (gw, .inl (d9, 6, .inl (fun _ => 0))), (gk, .inl (d10, 360, .inl fk)), (gi, .inl (d11, 360, .inl (fun _ => 0)))]) hD hS hA [5, 6, 7, 8, 9, 10, 11, 12, 13, 14] rfl
      refine va_calli (va_runV (As := [.int (nI i), .int 7]) (rest := [.long w87]) ⟨hx, hb, hml, hown, hts⟩ (r3_roofTold7 l dC dI H.size hm wi co sl rn so bn sm ah 0 gr gt gw gk gi gp go gg d1 d2 d3 d4 d8 d9 d10 d11 fw fc fs fg fk i (by first | assumption | decide | omega) (by first | assumption | decide | omega) (by first | assumption | decide | omega) (by first | assumption | decide | omega) (by first | assumption | decide | omega) (by first | assumption | decide | omega)) (cwV 2 hts gX3_digest_X3_roofTold rfl rfl rfl (by decide +kernel) ⟨Nat.le_of_ble_eq_true rfl, Nat.le_of_ble_eq_true rfl⟩) ⟨fun a U g mk q => by obtain ⟨q0, q1, qP, qK, qD, qN⟩ := q; exact ⟨q0, q1, qP, va_K.moved (u := U) (U := U.calling g mk a) (Vm.Alike.refl U.vm) qK, qD, zNs.calling qN⟩, va_recv hKc hPc (ci := 3) (q0 := 0) rfl rfl, fun U hU hW => ⟨rfl, by rw [hU], by rw [hU]; exact hPc, va_K.moved hW.alike hKc, hDc.weaken (fun _ _ _ _ => trivial), zNs.warm hW hZN⟩⟩ rfl rfl hl.1 rfl (lv_room (Nat.le_of_ble_eq_true rfl)) dX3_digest_104 ⟨by show _ ≤ 2223; omega, by show _ ≤ 13527; omega⟩) hS (fun q _ h => hFc q h) hFc (fun r88 u t H1 locs ht hvm hr88 hB hz1 hk1 hS => ?_)
      obtain ⟨hP1, hK1, hD1, hZ1⟩ := hB
      rw [ht] at hP1 hZ1
      have hZ : s.heap.size + (dd77 + 8) ≤ H1.size := by omega
      have hK1 := va_K.moved hvm.symm hK1
      try dsimp only at hr88
      obtain ⟨hP, hD⟩ := va_join (wr := [(gp, .inl (d12, 360, .inl (fun _ => 0))), (go, .inl (d13, 360, .inl (fun _ => 0))), (bn, .inl (d5, 3, .inl (fun _ => 0))), (rn, .inl (d6, 12, .inl fn)), (so, .inl (d7, 12, .inl (fun _ => 0)))]) (w1 := [(hm, .inr (3, [.int 0, .int 6, .ref wi, .ref co, .ref sl, .ref rn, .ref so, .ref bn, .ref sm, .ref ah])), (sm, .inr (2, [.int 0, .ref gr, .ref gt, .ref gw, .ref gk, .ref gi, .ref gp, .ref go, .ref gg, .ref hm])), (wi, .inl (d1, 6, .inl fw)), (co, .inl (d2, 6, .inl fc)), (sl, .inl (d3, 6, .inl fs)), (gr, .inl (d4, 6, .inl fg)), (gt, .inl (d8, 6, .inl (fun _ => 0))), (gw, .inl (d9, 6, .inl (fun _ => 0))), (gk, .inl (d10, 360, .inl fk)), (gi, .inl (d11, 360, .inl (fun _ => 0)))]) hP hD [5, 6, 7, 8, 9, 10, 11, 12, 13, 14] [0, 1, 2, 3, 4] rfl rfl (by decide) (by decide) hk1 hFc hP1 hD1
      generalize H1 = H at hP hS hZ ⊢
      have hP : va_P (dC, dI) vwCl [(gp, .inl (d12, 360, .inl (fun _ => 0))), (go, .inl (d13, 360, .inl (fun _ => 0))), (bn, .inl (d5, 3, .inl (fun _ => 0))), (rn, .inl (d6, 12, .inl fn)), (so, .inl (d7, 12, .inl (fun _ => 0))), (hm, .inr (3, [.int 0, .int 6, .ref wi, .ref co, .ref sl, .ref rn, .ref so, .ref bn, .ref sm, .ref ah])), (sm, .inr (2, [.int 0, .ref gr, .ref gt, .ref gw, .ref gk, .ref gi, .ref gp, .ref go, .ref gg, .ref hm])), (wi, .inl (d1, 6, .inl fw)), (co, .inl (d2, 6, .inl fc)), (sl, .inl (d3, 6, .inl fs)), (gr, .inl (d4, 6, .inl fg)), (gt, .inl (d8, 6, .inl (fun _ => 0))), (gw, .inl (d9, 6, .inl (fun _ => 0))), (gk, .inl (d10, 360, .inl fk)), (gi, .inl (d11, 360, .inl (fun _ => 0)))] H := hP
      have hD : va_D A [(gp, .inl (d12, 360, .inl (fun _ => 0))), (go, .inl (d13, 360, .inl (fun _ => 0))), (bn, .inl (d5, 3, .inl (fun _ => 0))), (rn, .inl (d6, 12, .inl fn)), (so, .inl (d7, 12, .inl (fun _ => 0))), (hm, .inr (3, [.int 0, .int 6, .ref wi, .ref co, .ref sl, .ref rn, .ref so, .ref bn, .ref sm, .ref ah])), (sm, .inr (2, [.int 0, .ref gr, .ref gt, .ref gw, .ref gk, .ref gi, .ref gp, .ref go, .ref gg, .ref hm])), (wi, .inl (d1, 6, .inl fw)), (co, .inl (d2, 6, .inl fc)), (sl, .inl (d3, 6, .inl fs)), (gr, .inl (d4, 6, .inl fg)), (gt, .inl (d8, 6, .inl (fun _ => 0))), (gw, .inl (d9, 6, .inl (fun _ => 0))), (gk, .inl (d10, 360, .inl fk)), (gi, .inl (d11, 360, .inl (fun _ => 0)))] := hD
      refine W.widen (k := (cc77 + 8)) (n := (ss77 + 72)) (by omega) (by omega) ?_
      obtain rfl := hr88
      refine lv_i2l (v := 0) hx hb dX3_digest_107 (by first | rfl | decide) ?_
      refine lv_ladd hx hb dX3_digest_108 ?_
      refine lv_topl (fun w89 ew89 => ?_)
      refine lv_lstore_n (lv' := [(1, .long w89), (4, .int 7), (0, .ref hm), (3, .int (nI i))]) hx hb dX3_digest_109 rfl hl (by decide) rfl (fun ls hl => ?_)
      refine lv_iinc (v := 8) (lv' := [(4, .int 8), (1, .long w89), (0, .ref hm), (3, .int (nI i))]) hx hb dX3_digest_110 hl (k := 1) rfl (by decide) (by decide) rfl (fun ls hl => ?_)
      refine lv_goto (tgt := 88) hx hb dX3_digest_113 (by decide) ?_
      refine lv_iload hx hb dX3_digest_88 (lv_at hl 0 rfl) ?_
      refine lv_bipush (v := 8) hx hb dX3_digest_90 (by decide) ?_
      refine lv_icmp_gt (tgt := 116) hx hb dX3_digest_92 (by decide) (fun c90 => absurd c90 (by decide)) (fun c90 => ?_)
      refine lv_lload_n hx hb dX3_digest_95 rfl (lv_at hl 1 rfl) ?_
      refine lv_ldc2 (v := 31) hx hb hown (hts (.constantLong RX3 151 31) (by decide +kernel)) dX3_digest_96 ?_
      refine lv_lmul hx hb dX3_digest_99 ?_
      refine lv_topl (fun w91 ew91 => ?_)
      refine lv_aload_n hx hb dX3_digest_100 rfl (lv_at hl 2 rfl) ?_
      refine lv_iload_n hx hb dX3_digest_101 rfl (lv_at hl 3 rfl) ?_
      refine lv_iload hx hb dX3_digest_102 (lv_at hl 0 rfl) ?_
      have hPc := hP.sub (ws' := [(hm, .inr (3, [.int 0, .int 6, .ref wi, .ref co, .ref sl, .ref rn, .ref so, .ref bn, .ref sm, .ref ah])), (sm, .inr (2, [.int 0, .ref gr, .ref gt, .ref gw, .ref gk, .ref gi, .ref gp, .ref go, .ref gg, .ref hm])), (wi, .inl (d1, 6, .inl fw)), (co, .inl (d2, 6, .inl fc)), (sl, .inl (d3, 6, .inl fs)), (gr, .inl (d4, 6, .inl fg)), (gt, .inl (d8, 6, .inl (fun _ => 0))), (gw, .inl (d9, 6, .inl (fun _ => 0))), (gk, .inl (d10, 360, .inl fk)), (gi, .inl (d11, 360, .inl (fun _ => 0)))]) [5, 6, 7, 8, 9, 10, 11, 12, 13, 14] rfl
      have hKc := hK.sub (tys' := [(d1, .int), (d2, .int), (d3, .int), (d4, .int), (d8, .int), (d9, .int), (d10, .int), (d11, .int)]) [0, 1, 2, 3, 7, 8, 9, 10] rfl
      have hDc := hD.sub (ws' := [(hm, .inr (3, [.int 0, .int 6, .ref wi, .ref co, .ref sl, .ref rn, .ref so, .ref bn, .ref sm, .ref ah])), (sm, .inr (2, [.int 0, .ref gr, .ref gt, .ref gw, .ref gk, .ref gi, .ref gp, .ref go, .ref gg, .ref hm])), (wi, .inl (d1, 6, .inl fw)), (co, .inl (d2, 6, .inl fc)), (sl, .inl (d3, 6, .inl fs)), (gr, .inl (d4, 6, .inl fg)), (gt, .inl (d8, 6, .inl (fun _ => 0))), (gw, .inl (d9, 6, .inl (fun _ => 0))), (gk, .inl (d10, 360, .inl fk)), (gi, .inl (d11, 360, .inl (fun _ => 0)))]) [5, 6, 7, 8, 9, 10, 11, 12, 13, 14] (by decide) rfl
      have hFc := va_free (wc := [(hm, .inr (3, [.int 0, .int 6, .ref wi, .ref co, .ref sl, .ref rn, .ref so, .ref bn, .ref sm, .ref ah])), (sm, .inr (2, [.int 0, .ref gr, .ref gt, .ref gw, .ref gk, .ref gi, .ref gp, .ref go, .ref gg, .ref hm])), (wi, .inl (d1, 6, .inl fw)), (co, .inl (d2, 6, .inl fc)), (sl, .inl (d3, 6, .inl fs)), (gr, .inl (d4, 6, .inl fg)), (gt, .inl (d8, 6, .inl (fun _ => 0))), (gw, .inl (d9, 6, .inl (fun _ => 0))), (gk, .inl (d10, 360, .inl fk)), (gi, .inl (d11, 360, .inl (fun _ => 0)))]) hD hS hA [5, 6, 7, 8, 9, 10, 11, 12, 13, 14] rfl
      refine va_calli (va_runV (As := [.int (nI i), .int 8]) (rest := [.long w91]) ⟨hx, hb, hml, hown, hts⟩ (r3_roofTold8 l dC dI H.size hm wi co sl rn so bn sm ah 0 gr gt gw gk gi gp go gg d1 d2 d3 d4 d8 d9 d10 d11 fw fc fs fg fk i (by first | assumption | decide | omega) (by first | assumption | decide | omega) (by first | assumption | decide | omega) (by first | assumption | decide | omega) (by first | assumption | decide | omega) (by first | assumption | decide | omega)) (cwV 2 hts gX3_digest_X3_roofTold rfl rfl rfl (by decide +kernel) ⟨Nat.le_of_ble_eq_true rfl, Nat.le_of_ble_eq_true rfl⟩) ⟨fun a U g mk q => by obtain ⟨q0, q1, qP, qK, qD, qN⟩ := q; exact ⟨q0, q1, qP, va_K.moved (u := U) (U := U.calling g mk a) (Vm.Alike.refl U.vm) qK, qD, zNs.calling qN⟩, va_recv hKc hPc (ci := 3) (q0 := 0) rfl rfl, fun U hU hW => ⟨rfl, by rw [hU], by rw [hU]; exact hPc, va_K.moved hW.alike hKc, hDc.weaken (fun _ _ _ _ => trivial), zNs.warm hW hZN⟩⟩ rfl rfl hl.1 rfl (lv_room (Nat.le_of_ble_eq_true rfl)) dX3_digest_104 ⟨by show _ ≤ 2223; omega, by show _ ≤ 13527; omega⟩) hS (fun q _ h => hFc q h) hFc (fun r92 u t H1 locs ht hvm hr92 hB hz1 hk1 hS => ?_)
      obtain ⟨hP1, hK1, hD1, hZ1⟩ := hB
      rw [ht] at hP1 hZ1
      have hZ : s.heap.size + (dd77 + 9) ≤ H1.size := by omega
      have hK1 := va_K.moved hvm.symm hK1
      try dsimp only at hr92
      obtain ⟨hP, hD⟩ := va_join (wr := [(gp, .inl (d12, 360, .inl (fun _ => 0))), (go, .inl (d13, 360, .inl (fun _ => 0))), (bn, .inl (d5, 3, .inl (fun _ => 0))), (rn, .inl (d6, 12, .inl fn)), (so, .inl (d7, 12, .inl (fun _ => 0)))]) (w1 := [(hm, .inr (3, [.int 0, .int 6, .ref wi, .ref co, .ref sl, .ref rn, .ref so, .ref bn, .ref sm, .ref ah])), (sm, .inr (2, [.int 0, .ref gr, .ref gt, .ref gw, .ref gk, .ref gi, .ref gp, .ref go, .ref gg, .ref hm])), (wi, .inl (d1, 6, .inl fw)), (co, .inl (d2, 6, .inl fc)), (sl, .inl (d3, 6, .inl fs)), (gr, .inl (d4, 6, .inl fg)), (gt, .inl (d8, 6, .inl (fun _ => 0))), (gw, .inl (d9, 6, .inl (fun _ => 0))), (gk, .inl (d10, 360, .inl fk)), (gi, .inl (d11, 360, .inl (fun _ => 0)))]) hP hD [5, 6, 7, 8, 9, 10, 11, 12, 13, 14] [0, 1, 2, 3, 4] rfl rfl (by decide) (by decide) hk1 hFc hP1 hD1
      generalize H1 = H at hP hS hZ ⊢
      have hP : va_P (dC, dI) vwCl [(gp, .inl (d12, 360, .inl (fun _ => 0))), (go, .inl (d13, 360, .inl (fun _ => 0))), (bn, .inl (d5, 3, .inl (fun _ => 0))), (rn, .inl (d6, 12, .inl fn)), (so, .inl (d7, 12, .inl (fun _ => 0))), (hm, .inr (3, [.int 0, .int 6, .ref wi, .ref co, .ref sl, .ref rn, .ref so, .ref bn, .ref sm, .ref ah])), (sm, .inr (2, [.int 0, .ref gr, .ref gt, .ref gw, .ref gk, .ref gi, .ref gp, .ref go, .ref gg, .ref hm])), (wi, .inl (d1, 6, .inl fw)), (co, .inl (d2, 6, .inl fc)), (sl, .inl (d3, 6, .inl fs)), (gr, .inl (d4, 6, .inl fg)), (gt, .inl (d8, 6, .inl (fun _ => 0))), (gw, .inl (d9, 6, .inl (fun _ => 0))), (gk, .inl (d10, 360, .inl fk)), (gi, .inl (d11, 360, .inl (fun _ => 0)))] H := hP
      have hD : va_D A [(gp, .inl (d12, 360, .inl (fun _ => 0))), (go, .inl (d13, 360, .inl (fun _ => 0))), (bn, .inl (d5, 3, .inl (fun _ => 0))), (rn, .inl (d6, 12, .inl fn)), (so, .inl (d7, 12, .inl (fun _ => 0))), (hm, .inr (3, [.int 0, .int 6, .ref wi, .ref co, .ref sl, .ref rn, .ref so, .ref bn, .ref sm, .ref ah])), (sm, .inr (2, [.int 0, .ref gr, .ref gt, .ref gw, .ref gk, .ref gi, .ref gp, .ref go, .ref gg, .ref hm])), (wi, .inl (d1, 6, .inl fw)), (co, .inl (d2, 6, .inl fc)), (sl, .inl (d3, 6, .inl fs)), (gr, .inl (d4, 6, .inl fg)), (gt, .inl (d8, 6, .inl (fun _ => 0))), (gw, .inl (d9, 6, .inl (fun _ => 0))), (gk, .inl (d10, 360, .inl fk)), (gi, .inl (d11, 360, .inl (fun _ => 0)))] := hD
      refine W.widen (k := (cc77 + 9)) (n := (ss77 + 81)) (by omega) (by omega) ?_
      obtain rfl := hr92
      refine lv_i2l (v := 0) hx hb dX3_digest_107 (by first | rfl | decide) ?_
      refine lv_ladd hx hb dX3_digest_108 ?_
      refine lv_topl (fun w93 ew93 => ?_)
      refine lv_lstore_n (lv' := [(1, .long w93), (4, .int 8), (0, .ref hm), (3, .int (nI i))]) hx hb dX3_digest_109 rfl hl (by decide) rfl (fun ls hl => ?_)
      refine lv_iinc (v := 9) (lv' := [(4, .int 9), (1, .long w93), (0, .ref hm), (3, .int (nI i))]) hx hb dX3_digest_110 hl (k := 1) rfl (by decide) (by decide) rfl (fun ls hl => ?_)
      refine lv_goto (tgt := 88) hx hb dX3_digest_113 (by decide) ?_
      refine lv_iload hx hb dX3_digest_88 (lv_at hl 0 rfl) ?_
      refine lv_bipush (v := 8) hx hb dX3_digest_90 (by decide) ?_
      refine lv_icmp_gt (tgt := 116) hx hb dX3_digest_92 (by decide) (fun c94 => ?_) (fun c94 => absurd c94 (by decide))
      refine lv_iconst (v := 0) hx hb dX3_digest_116 (by decide) ?_
      refine lv_istore (lv' := [(4, .int 0), (1, .long w93), (0, .ref hm), (3, .int (nI i))]) hx hb dX3_digest_117 hl (by decide) rfl (fun ls hl => ?_)
      suffices K119 : ∀ (n : Nat) (cc119 ss119 dd119 : Nat) (j : Nat) (db : Int64), (cc119 = 18 + 369 * i + 60 * j) → (ss119 = 162 + 2241 * i + 360 * j) → (dd119 = 18 + 369 * i + 60 * j) → (j ≤ 6) → (db = zz_it (10 * j) (zz_r9 da)) → 6 - j < n → ∀ (H : Heap) (locs : List Loc), va_P (dC, dI) vwCl [(gp, .inl (d12, 360, .inl (fun _ => 0))), (go, .inl (d13, 360, .inl (fun _ => 0))), (bn, .inl (d5, 3, .inl (fun _ => 0))), (rn, .inl (d6, 12, .inl fn)), (so, .inl (d7, 12, .inl (fun _ => 0))), (hm, .inr (3, [.int 0, .int 6, .ref wi, .ref co, .ref sl, .ref rn, .ref so, .ref bn, .ref sm, .ref ah])), (sm, .inr (2, [.int 0, .ref gr, .ref gt, .ref gw, .ref gk, .ref gi, .ref gp, .ref go, .ref gg, .ref hm])), (wi, .inl (d1, 6, .inl fw)), (co, .inl (d2, 6, .inl fc)), (sl, .inl (d3, 6, .inl fs)), (gr, .inl (d4, 6, .inl fg)), (gt, .inl (d8, 6, .inl (fun _ => 0))), (gw, .inl (d9, 6, .inl (fun _ => 0))), (gk, .inl (d10, 360, .inl fk)), (gi, .inl (d11, 360, .inl (fun _ => 0)))] H → va_D A [(gp, .inl (d12, 360, .inl (fun _ => 0))), (go, .inl (d13, 360, .inl (fun _ => 0))), (bn, .inl (d5, 3, .inl (fun _ => 0))), (rn, .inl (d6, 12, .inl fn)), (so, .inl (d7, 12, .inl (fun _ => 0))), (hm, .inr (3, [.int 0, .int 6, .ref wi, .ref co, .ref sl, .ref rn, .ref so, .ref bn, .ref sm, .ref ah])), (sm, .inr (2, [.int 0, .ref gr, .ref gt, .ref gw, .ref gk, .ref gi, .ref gp, .ref go, .ref gg, .ref hm])), (wi, .inl (d1, 6, .inl fw)), (co, .inl (d2, 6, .inl fc)), (sl, .inl (d3, 6, .inl fs)), (gr, .inl (d4, 6, .inl fg)), (gt, .inl (d8, 6, .inl (fun _ => 0))), (gw, .inl (d9, 6, .inl (fun _ => 0))), (gk, .inl (d10, 360, .inl fk)), (gi, .inl (d11, 360, .inl (fun _ => 0)))] → va_S A s.heap H locs → s.heap.size + dd119 ≤ H.size → ∀ ls : Array Slot, lv_has ls 7 [(0, .ref hm), (1, .long db), (3, .int (nI i)), (4, .int (nI j))] → W p l e ({ frames := 4, cells := 2223, slots := 13527, locals := 94 } : Room) s m (([.ref hm] : List Value).toArray) below meth c H locs cc119 ss119 (MQ below (va_Ql (fun (r : Int64) (u : Unit) => r = zz_itr 6 2576564512762243823) (fun (u : Unit) (t : State) => va_P (dC, dI) vwCl [(hm, .inr (3, [.int 0, .int 6, .ref wi, .ref co, .ref sl, .ref rn, .ref so, .ref bn, .ref sm, .ref ah])), (sm, .inr (2, [.int 0, .ref gr, .ref gt, .ref gw, .ref gk, .ref gi, .ref gp, .ref go, .ref gg, .ref hm])), (wi, .inl (d1, 6, .inl fw)), (co, .inl (d2, 6, .inl fc)), (sl, .inl (d3, 6, .inl fs)), (gr, .inl (d4, 6, .inl fg)), (bn, .inl (d5, 3, .inl (fun _ => 0))), (rn, .inl (d6, 12, .inl fn)), (so, .inl (d7, 12, .inl (fun _ => 0))), (gt, .inl (d8, 6, .inl (fun _ => 0))), (gw, .inl (d9, 6, .inl (fun _ => 0))), (gk, .inl (d10, 360, .inl fk)), (gi, .inl (d11, 360, .inl (fun _ => 0))), (gp, .inl (d12, 360, .inl (fun _ => 0))), (go, .inl (d13, 360, .inl (fun _ => 0)))] t.heap ∧ va_K (dC, dI) vwCl [] t ∧ va_D A [(hm, .inr (3, [.int 0, .int 6, .ref wi, .ref co, .ref sl, .ref rn, .ref so, .ref bn, .ref sm, .ref ah])), (sm, .inr (2, [.int 0, .ref gr, .ref gt, .ref gw, .ref gk, .ref gi, .ref gp, .ref go, .ref gg, .ref hm])), (wi, .inl (d1, 6, .inl fw)), (co, .inl (d2, 6, .inl fc)), (sl, .inl (d3, 6, .inl fs)), (gr, .inl (d4, 6, .inl fg)), (bn, .inl (d5, 3, .inl (fun _ => 0))), (rn, .inl (d6, 12, .inl fn)), (so, .inl (d7, 12, .inl (fun _ => 0))), (gt, .inl (d8, 6, .inl (fun _ => 0))), (gw, .inl (d9, 6, .inl (fun _ => 0))), (gk, .inl (d10, 360, .inl fk)), (gi, .inl (d11, 360, .inl (fun _ => 0))), (gp, .inl (d12, 360, .inl (fun _ => 0))), (go, .inl (d13, 360, .inl (fun _ => 0)))] ∧ s.heap.size + 2223 ≤ t.heap.size) A) (([.ref hm] : List Value).toArray) s 2223 13527 A) (F0 m 119 ls []) from
        K119 _ (cc77 + 9) (ss77 + 81) (dd77 + 9) 0 w93 (by omega) (by omega) (by omega) (by decide) (by rw [ew93, ew91, ew89, ew87, ew85, ew83, ew81, ew79, ew77, ew75, ew73, ew71, ew69, ew67, ew65, ew63, ew61, ew59]; rfl) (Nat.lt_succ_self _) _ _ hP hD hS hZ _ (lv_sub hl [2, 1, 3, 0] rfl)
      intro n
      induction n with
      | zero =>
        intro cc119 ss119 dd119 j db hcc119 hss119 hdd119 hj hdb hn
        exact absurd hn (Nat.not_lt_zero _)
      | succ n ih119 =>
        intro cc119 ss119 dd119 j db hcc119 hss119 hdd119 hj hdb hn119 H locs hP hD hS hZ ls hl
        refine lv_iload hx hb dX3_digest_119 (lv_at hl 3 rfl) ?_
        refine lv_aload_n hx hb dX3_digest_121 rfl (lv_at hl 0 rfl) ?_
        refine va_get (D := (dC, dI)) (ci := 3) (v := .ref co) (C := RX3) (T := TX3) (N := 10) hx hb hts (by decide +kernel) hown hK hP 5 rfl rfl 3 (by decide) (hts (.fieldLink RX3 13 "ThatchRoofModel" "courses" "[I") (by decide +kernel)) (fun _ h9 => h9) rfl dX3_digest_122 ?_
        refine lv_iload_n hx hb dX3_digest_125 rfl (lv_at hl 2 rfl) ?_
        refine va_iald hx hb hK hP 8 1 rfl rfl (vp_in_nI (by omega) (by omega)) dX3_digest_126 ?_
        refine lv_topi (fun x95 ex95 => ?_)
        rw [nI_clamp (show i < 2 ^ 31 by omega)] at ex95
        obtain rfl : x95 = 6 := ex95.trans (hc _ (by omega))
        refine lv_icmp_ge (tgt := 190) hx hb dX3_digest_127 (by decide) (fun c96 => ?_) (fun c96 => ?_)
        · have nc96 : 6 ≤ j := (nI_leI (a := 6) (b := j) (by omega) (by omega)).mp c96
          refine lv_iinc (v := nI (i + 1)) (lv' := [(3, .int (nI (i + 1))), (0, .ref hm), (1, .long db), (4, .int (nI j))]) hx hb dX3_digest_190 hl (k := 2) rfl (by exact nI_1 i) (by decide) rfl (fun ls hl => ?_)
          refine lv_goto (tgt := 77) hx hb dX3_digest_193 (by decide) ?_
          exact ih77 _ _ _ (i + 1) db (by omega) (by omega) (by omega) (by omega) (by have h9 : j = 6 := (by omega); subst h9; rw [hdb, hda]; rfl) (by omega) _ _ (hP.sub [9, 10, 11, 12, 0, 1, 5, 6, 7, 8, 2, 3, 4, 13, 14] rfl) (hD.sub [9, 10, 11, 12, 0, 1, 5, 6, 7, 8, 2, 3, 4, 13, 14] (by decide) rfl) hS hZ _ (lv_sub hl [1, 2, 0] rfl)
        · have nc96 : j < 6 := Nat.lt_of_not_le (fun q => c96 ((nI_leI (a := 6) (b := j) (by omega) (by omega)).mpr q))
          refine lv_iconst (v := 0) hx hb dX3_digest_130 (by decide) ?_
          refine lv_istore (lv' := [(5, .int 0), (0, .ref hm), (1, .long db), (3, .int (nI i)), (4, .int (nI j))]) hx hb dX3_digest_131 hl (by decide) rfl (fun ls hl => ?_)
          suffices K133 : ∀ (n : Nat) (cc133 ss133 dd133 : Nat) (k : Nat) (dc : Int64), (cc133 = 18 + 369 * i + 60 * j + 6 * k) → (ss133 = 162 + 2241 * i + 360 * j + 36 * k) → (dd133 = 18 + 369 * i + 60 * j + 6 * k) → (k ≤ 10) → (dc = zz_it (10 * j + k) (zz_r9 da)) → 10 - k < n → ∀ (H : Heap) (locs : List Loc), va_P (dC, dI) vwCl [(gp, .inl (d12, 360, .inl (fun _ => 0))), (go, .inl (d13, 360, .inl (fun _ => 0))), (bn, .inl (d5, 3, .inl (fun _ => 0))), (rn, .inl (d6, 12, .inl fn)), (so, .inl (d7, 12, .inl (fun _ => 0))), (hm, .inr (3, [.int 0, .int 6, .ref wi, .ref co, .ref sl, .ref rn, .ref so, .ref bn, .ref sm, .ref ah])), (sm, .inr (2, [.int 0, .ref gr, .ref gt, .ref gw, .ref gk, .ref gi, .ref gp, .ref go, .ref gg, .ref hm])), (wi, .inl (d1, 6, .inl fw)), (co, .inl (d2, 6, .inl fc)), (sl, .inl (d3, 6, .inl fs)), (gr, .inl (d4, 6, .inl fg)), (gt, .inl (d8, 6, .inl (fun _ => 0))), (gw, .inl (d9, 6, .inl (fun _ => 0))), (gk, .inl (d10, 360, .inl fk)), (gi, .inl (d11, 360, .inl (fun _ => 0)))] H → va_D A [(gp, .inl (d12, 360, .inl (fun _ => 0))), (go, .inl (d13, 360, .inl (fun _ => 0))), (bn, .inl (d5, 3, .inl (fun _ => 0))), (rn, .inl (d6, 12, .inl fn)), (so, .inl (d7, 12, .inl (fun _ => 0))), (hm, .inr (3, [.int 0, .int 6, .ref wi, .ref co, .ref sl, .ref rn, .ref so, .ref bn, .ref sm, .ref ah])), (sm, .inr (2, [.int 0, .ref gr, .ref gt, .ref gw, .ref gk, .ref gi, .ref gp, .ref go, .ref gg, .ref hm])), (wi, .inl (d1, 6, .inl fw)), (co, .inl (d2, 6, .inl fc)), (sl, .inl (d3, 6, .inl fs)), (gr, .inl (d4, 6, .inl fg)), (gt, .inl (d8, 6, .inl (fun _ => 0))), (gw, .inl (d9, 6, .inl (fun _ => 0))), (gk, .inl (d10, 360, .inl fk)), (gi, .inl (d11, 360, .inl (fun _ => 0)))] → va_S A s.heap H locs → s.heap.size + dd133 ≤ H.size → ∀ ls : Array Slot, lv_has ls 7 [(0, .ref hm), (1, .long dc), (3, .int (nI i)), (4, .int (nI j)), (5, .int (nI k))] → W p l e ({ frames := 4, cells := 2223, slots := 13527, locals := 94 } : Room) s m (([.ref hm] : List Value).toArray) below meth c H locs cc133 ss133 (MQ below (va_Ql (fun (r : Int64) (u : Unit) => r = zz_itr 6 2576564512762243823) (fun (u : Unit) (t : State) => va_P (dC, dI) vwCl [(hm, .inr (3, [.int 0, .int 6, .ref wi, .ref co, .ref sl, .ref rn, .ref so, .ref bn, .ref sm, .ref ah])), (sm, .inr (2, [.int 0, .ref gr, .ref gt, .ref gw, .ref gk, .ref gi, .ref gp, .ref go, .ref gg, .ref hm])), (wi, .inl (d1, 6, .inl fw)), (co, .inl (d2, 6, .inl fc)), (sl, .inl (d3, 6, .inl fs)), (gr, .inl (d4, 6, .inl fg)), (bn, .inl (d5, 3, .inl (fun _ => 0))), (rn, .inl (d6, 12, .inl fn)), (so, .inl (d7, 12, .inl (fun _ => 0))), (gt, .inl (d8, 6, .inl (fun _ => 0))), (gw, .inl (d9, 6, .inl (fun _ => 0))), (gk, .inl (d10, 360, .inl fk)), (gi, .inl (d11, 360, .inl (fun _ => 0))), (gp, .inl (d12, 360, .inl (fun _ => 0))), (go, .inl (d13, 360, .inl (fun _ => 0)))] t.heap ∧ va_K (dC, dI) vwCl [] t ∧ va_D A [(hm, .inr (3, [.int 0, .int 6, .ref wi, .ref co, .ref sl, .ref rn, .ref so, .ref bn, .ref sm, .ref ah])), (sm, .inr (2, [.int 0, .ref gr, .ref gt, .ref gw, .ref gk, .ref gi, .ref gp, .ref go, .ref gg, .ref hm])), (wi, .inl (d1, 6, .inl fw)), (co, .inl (d2, 6, .inl fc)), (sl, .inl (d3, 6, .inl fs)), (gr, .inl (d4, 6, .inl fg)), (bn, .inl (d5, 3, .inl (fun _ => 0))), (rn, .inl (d6, 12, .inl fn)), (so, .inl (d7, 12, .inl (fun _ => 0))), (gt, .inl (d8, 6, .inl (fun _ => 0))), (gw, .inl (d9, 6, .inl (fun _ => 0))), (gk, .inl (d10, 360, .inl fk)), (gi, .inl (d11, 360, .inl (fun _ => 0))), (gp, .inl (d12, 360, .inl (fun _ => 0))), (go, .inl (d13, 360, .inl (fun _ => 0)))] ∧ s.heap.size + 2223 ≤ t.heap.size) A) (([.ref hm] : List Value).toArray) s 2223 13527 A) (F0 m 133 ls []) from
            K133 _ cc119 ss119 dd119 0 db (by omega) (by omega) (by omega) (by decide) (hdb) (Nat.lt_succ_self _) _ _ hP hD hS hZ _ (lv_sub hl [1, 2, 3, 4, 0] rfl)
          intro n
          induction n with
          | zero =>
            intro cc133 ss133 dd133 k dc hcc133 hss133 hdd133 hk hdc hn
            exact absurd hn (Nat.not_lt_zero _)
          | succ n ih133 =>
            intro cc133 ss133 dd133 k dc hcc133 hss133 hdd133 hk hdc hn133 H locs hP hD hS hZ ls hl
            refine lv_iload hx hb dX3_digest_133 (lv_at hl 4 rfl) ?_
            refine lv_aload_n hx hb dX3_digest_135 rfl (lv_at hl 0 rfl) ?_
            refine va_get (D := (dC, dI)) (ci := 3) (v := .ref wi) (C := RX3) (T := TX3) (N := 10) hx hb hts (by decide +kernel) hown hK hP 5 rfl rfl 2 (by decide) (hts (.fieldLink RX3 9 "ThatchRoofModel" "width" "[I") (by decide +kernel)) (fun _ h9 => h9) rfl dX3_digest_136 ?_
            refine lv_iload_n hx hb dX3_digest_139 rfl (lv_at hl 2 rfl) ?_
            refine va_iald hx hb hK hP 7 0 rfl rfl (vp_in_nI (by omega) (by omega)) dX3_digest_140 ?_
            refine lv_topi (fun x97 ex97 => ?_)
            rw [nI_clamp (show i < 2 ^ 31 by omega)] at ex97
            obtain rfl : x97 = 10 := ex97.trans (hw _ (by omega))
            refine lv_icmp_ge (tgt := 184) hx hb dX3_digest_141 (by decide) (fun c98 => ?_) (fun c98 => ?_)
            · have nc98 : 10 ≤ k := (nI_leI (a := 10) (b := k) (by omega) (by omega)).mp c98
              refine lv_iinc (v := nI (j + 1)) (lv' := [(4, .int (nI (j + 1))), (0, .ref hm), (1, .long dc), (3, .int (nI i)), (5, .int (nI k))]) hx hb dX3_digest_184 hl (k := 3) rfl (by exact nI_1 j) (by decide) rfl (fun ls hl => ?_)
              refine lv_goto (tgt := 119) hx hb dX3_digest_187 (by decide) ?_
              exact ih119 _ _ _ (j + 1) dc (by omega) (by omega) (by omega) (by omega) (by have h9 : k = 10 := (by omega); subst h9; exact hdc) (by omega) _ _ (hP.sub [0, 1, 2, 3, 4, 5, 6, 7, 8, 9, 10, 11, 12, 13, 14] rfl) (hD.sub [0, 1, 2, 3, 4, 5, 6, 7, 8, 9, 10, 11, 12, 13, 14] (by decide) rfl) hS hZ _ (lv_sub hl [1, 2, 3, 0] rfl)
            · have nc98 : k < 10 := Nat.lt_of_not_le (fun q => c98 ((nI_leI (a := 10) (b := k) (by omega) (by omega)).mpr q))
              refine lv_iconst (v := 0) hx hb dX3_digest_144 (by decide) ?_
              refine lv_istore (lv' := [(6, .int 0), (0, .ref hm), (1, .long dc), (3, .int (nI i)), (4, .int (nI j)), (5, .int (nI k))]) hx hb dX3_digest_145 hl (by decide) rfl (fun ls hl => ?_)
              refine lv_iload hx hb dX3_digest_147 (lv_at hl 0 rfl) ?_
              refine lv_iconst (v := 5) hx hb dX3_digest_149 (by decide) ?_
              refine lv_icmp_gt (tgt := 178) hx hb dX3_digest_150 (by decide) (fun c99 => absurd c99 (by decide)) (fun c99 => ?_)
              refine lv_lload_n hx hb dX3_digest_153 rfl (lv_at hl 2 rfl) ?_
              refine lv_ldc2 (v := 31) hx hb hown (hts (.constantLong RX3 151 31) (by decide +kernel)) dX3_digest_154 ?_
              refine lv_lmul hx hb dX3_digest_157 ?_
              refine lv_topl (fun w100 ew100 => ?_)
              refine lv_aload_n hx hb dX3_digest_158 rfl (lv_at hl 1 rfl) ?_
              refine lv_iload_n hx hb dX3_digest_159 rfl (lv_at hl 3 rfl) ?_
              refine lv_iload hx hb dX3_digest_160 (lv_at hl 4 rfl) ?_
              refine lv_iload hx hb dX3_digest_162 (lv_at hl 5 rfl) ?_
              refine lv_iload hx hb dX3_digest_164 (lv_at hl 0 rfl) ?_
              have hPc := hP.sub (ws' := [(hm, .inr (3, [.int 0, .int 6, .ref wi, .ref co, .ref sl, .ref rn, .ref so, .ref bn, .ref sm, .ref ah])), (sm, .inr (2, [.int 0, .ref gr, .ref gt, .ref gw, .ref gk, .ref gi, .ref gp, .ref go, .ref gg, .ref hm])), (gk, .inl (d10, 360, .inl fk)), (gi, .inl (d11, 360, .inl (fun _ => 0))), (gp, .inl (d12, 360, .inl (fun _ => 0))), (go, .inl (d13, 360, .inl (fun _ => 0)))]) [5, 6, 13, 14, 0, 1] rfl
              have hKc := hK.sub (tys' := [(d10, .int), (d11, .int), (d12, .int), (d13, .int)]) [9, 10, 11, 12] rfl
              have hDc := hD.sub (ws' := [(hm, .inr (3, [.int 0, .int 6, .ref wi, .ref co, .ref sl, .ref rn, .ref so, .ref bn, .ref sm, .ref ah])), (sm, .inr (2, [.int 0, .ref gr, .ref gt, .ref gw, .ref gk, .ref gi, .ref gp, .ref go, .ref gg, .ref hm])), (gk, .inl (d10, 360, .inl fk)), (gi, .inl (d11, 360, .inl (fun _ => 0))), (gp, .inl (d12, 360, .inl (fun _ => 0))), (go, .inl (d13, 360, .inl (fun _ => 0)))]) [5, 6, 13, 14, 0, 1] (by decide) rfl
              have hFc := va_free (wc := [(hm, .inr (3, [.int 0, .int 6, .ref wi, .ref co, .ref sl, .ref rn, .ref so, .ref bn, .ref sm, .ref ah])), (sm, .inr (2, [.int 0, .ref gr, .ref gt, .ref gw, .ref gk, .ref gi, .ref gp, .ref go, .ref gg, .ref hm])), (gk, .inl (d10, 360, .inl fk)), (gi, .inl (d11, 360, .inl (fun _ => 0))), (gp, .inl (d12, 360, .inl (fun _ => 0))), (go, .inl (d13, 360, .inl (fun _ => 0)))]) hD hS hA [5, 6, 13, 14, 0, 1] rfl
              refine va_calli (va_runV (As := [.int (nI i), .int (nI j), .int (nI k), .int 0]) (rest := [.long w100]) ⟨hx, hb, hml, hown, hts⟩ (r3_yealmTold0 l dC dI H.size hm wi co sl rn so bn sm ah 0 gr gt gw gk gi gp go gg d10 d11 d12 d13 fk i j k (by first | assumption | decide | omega) (by first | assumption | decide | omega) (by first | assumption | decide | omega) (by first | assumption | decide | omega)) (cwV 4 hts gX3_digest_X3_yealmTold rfl rfl rfl (by decide +kernel) ⟨Nat.le_of_ble_eq_true rfl, Nat.le_of_ble_eq_true rfl⟩) ⟨fun a U g mk q => by obtain ⟨q0, q1, qP, qK, qD, qN⟩ := q; exact ⟨q0, q1, qP, va_K.moved (u := U) (U := U.calling g mk a) (Vm.Alike.refl U.vm) qK, qD, zNs.calling qN⟩, va_recv hKc hPc (ci := 3) (q0 := 0) rfl rfl, fun U hU hW => ⟨rfl, by rw [hU], by rw [hU]; exact hPc, va_K.moved hW.alike hKc, hDc.weaken (fun _ _ _ _ => trivial), zNs.warm hW hZN⟩⟩ rfl rfl hl.1 rfl (lv_room (Nat.le_of_ble_eq_true rfl)) dX3_digest_166 ⟨by show _ ≤ 2223; omega, by show _ ≤ 13527; omega⟩) hS (fun q _ h => hFc q h) hFc (fun r101 u t H1 locs ht hvm hr101 hB hz1 hk1 hS => ?_)
              obtain ⟨hP1, hK1, hD1, hZ1⟩ := hB
              rw [ht] at hP1 hZ1
              have hZ : s.heap.size + (dd133 + 1) ≤ H1.size := by omega
              have hK1 := va_K.moved hvm.symm hK1
              try dsimp only at hr101
              obtain ⟨hP, hD⟩ := va_join (wr := [(bn, .inl (d5, 3, .inl (fun _ => 0))), (rn, .inl (d6, 12, .inl fn)), (so, .inl (d7, 12, .inl (fun _ => 0))), (wi, .inl (d1, 6, .inl fw)), (co, .inl (d2, 6, .inl fc)), (sl, .inl (d3, 6, .inl fs)), (gr, .inl (d4, 6, .inl fg)), (gt, .inl (d8, 6, .inl (fun _ => 0))), (gw, .inl (d9, 6, .inl (fun _ => 0)))]) (w1 := [(hm, .inr (3, [.int 0, .int 6, .ref wi, .ref co, .ref sl, .ref rn, .ref so, .ref bn, .ref sm, .ref ah])), (sm, .inr (2, [.int 0, .ref gr, .ref gt, .ref gw, .ref gk, .ref gi, .ref gp, .ref go, .ref gg, .ref hm])), (gk, .inl (d10, 360, .inl fk)), (gi, .inl (d11, 360, .inl (fun _ => 0))), (gp, .inl (d12, 360, .inl (fun _ => 0))), (go, .inl (d13, 360, .inl (fun _ => 0)))]) hP hD [5, 6, 13, 14, 0, 1] [2, 3, 4, 7, 8, 9, 10, 11, 12] rfl rfl (by decide) (by decide) hk1 hFc hP1 hD1
              generalize H1 = H at hP hS hZ ⊢
              have hP : va_P (dC, dI) vwCl [(bn, .inl (d5, 3, .inl (fun _ => 0))), (rn, .inl (d6, 12, .inl fn)), (so, .inl (d7, 12, .inl (fun _ => 0))), (wi, .inl (d1, 6, .inl fw)), (co, .inl (d2, 6, .inl fc)), (sl, .inl (d3, 6, .inl fs)), (gr, .inl (d4, 6, .inl fg)), (gt, .inl (d8, 6, .inl (fun _ => 0))), (gw, .inl (d9, 6, .inl (fun _ => 0))), (hm, .inr (3, [.int 0, .int 6, .ref wi, .ref co, .ref sl, .ref rn, .ref so, .ref bn, .ref sm, .ref ah])), (sm, .inr (2, [.int 0, .ref gr, .ref gt, .ref gw, .ref gk, .ref gi, .ref gp, .ref go, .ref gg, .ref hm])), (gk, .inl (d10, 360, .inl fk)), (gi, .inl (d11, 360, .inl (fun _ => 0))), (gp, .inl (d12, 360, .inl (fun _ => 0))), (go, .inl (d13, 360, .inl (fun _ => 0)))] H := hP
              have hD : va_D A [(bn, .inl (d5, 3, .inl (fun _ => 0))), (rn, .inl (d6, 12, .inl fn)), (so, .inl (d7, 12, .inl (fun _ => 0))), (wi, .inl (d1, 6, .inl fw)), (co, .inl (d2, 6, .inl fc)), (sl, .inl (d3, 6, .inl fs)), (gr, .inl (d4, 6, .inl fg)), (gt, .inl (d8, 6, .inl (fun _ => 0))), (gw, .inl (d9, 6, .inl (fun _ => 0))), (hm, .inr (3, [.int 0, .int 6, .ref wi, .ref co, .ref sl, .ref rn, .ref so, .ref bn, .ref sm, .ref ah])), (sm, .inr (2, [.int 0, .ref gr, .ref gt, .ref gw, .ref gk, .ref gi, .ref gp, .ref go, .ref gg, .ref hm])), (gk, .inl (d10, 360, .inl fk)), (gi, .inl (d11, 360, .inl (fun _ => 0))), (gp, .inl (d12, 360, .inl (fun _ => 0))), (go, .inl (d13, 360, .inl (fun _ => 0)))] := hD
              refine W.widen (k := (cc133 + 1)) (n := (ss133 + 6)) (by omega) (by omega) ?_
              obtain rfl := hr101
              refine lv_i2l (v := 0) hx hb dX3_digest_169 (by first | rfl | decide) ?_
              refine lv_ladd hx hb dX3_digest_170 ?_
              refine lv_topl (fun w102 ew102 => ?_)
              refine lv_lstore_n (lv' := [(1, .long w102), (6, .int 0), (0, .ref hm), (3, .int (nI i)), (4, .int (nI j)), (5, .int (nI k))]) hx hb dX3_digest_171 rfl hl (by decide) rfl (fun ls hl => ?_)
              refine lv_iinc (v := 1) (lv' := [(6, .int 1), (1, .long w102), (0, .ref hm), (3, .int (nI i)), (4, .int (nI j)), (5, .int (nI k))]) hx hb dX3_digest_172 hl (k := 1) rfl (by decide) (by decide) rfl (fun ls hl => ?_)
              refine lv_goto (tgt := 147) hx hb dX3_digest_175 (by decide) ?_
              refine lv_iload hx hb dX3_digest_147 (lv_at hl 0 rfl) ?_
              refine lv_iconst (v := 5) hx hb dX3_digest_149 (by decide) ?_
              refine lv_icmp_gt (tgt := 178) hx hb dX3_digest_150 (by decide) (fun c103 => absurd c103 (by decide)) (fun c103 => ?_)
              refine lv_lload_n hx hb dX3_digest_153 rfl (lv_at hl 1 rfl) ?_
              refine lv_ldc2 (v := 31) hx hb hown (hts (.constantLong RX3 151 31) (by decide +kernel)) dX3_digest_154 ?_
              refine lv_lmul hx hb dX3_digest_157 ?_
              refine lv_topl (fun w104 ew104 => ?_)
              refine lv_aload_n hx hb dX3_digest_158 rfl (lv_at hl 2 rfl) ?_
              refine lv_iload_n hx hb dX3_digest_159 rfl (lv_at hl 3 rfl) ?_
              refine lv_iload hx hb dX3_digest_160 (lv_at hl 4 rfl) ?_
              refine lv_iload hx hb dX3_digest_162 (lv_at hl 5 rfl) ?_
              refine lv_iload hx hb dX3_digest_164 (lv_at hl 0 rfl) ?_
              have hPc := hP.sub (ws' := [(hm, .inr (3, [.int 0, .int 6, .ref wi, .ref co, .ref sl, .ref rn, .ref so, .ref bn, .ref sm, .ref ah])), (sm, .inr (2, [.int 0, .ref gr, .ref gt, .ref gw, .ref gk, .ref gi, .ref gp, .ref go, .ref gg, .ref hm])), (gk, .inl (d10, 360, .inl fk)), (gi, .inl (d11, 360, .inl (fun _ => 0))), (gp, .inl (d12, 360, .inl (fun _ => 0))), (go, .inl (d13, 360, .inl (fun _ => 0)))]) [9, 10, 11, 12, 13, 14] rfl
              have hKc := hK.sub (tys' := [(d10, .int), (d11, .int), (d12, .int), (d13, .int)]) [9, 10, 11, 12] rfl
              have hDc := hD.sub (ws' := [(hm, .inr (3, [.int 0, .int 6, .ref wi, .ref co, .ref sl, .ref rn, .ref so, .ref bn, .ref sm, .ref ah])), (sm, .inr (2, [.int 0, .ref gr, .ref gt, .ref gw, .ref gk, .ref gi, .ref gp, .ref go, .ref gg, .ref hm])), (gk, .inl (d10, 360, .inl fk)), (gi, .inl (d11, 360, .inl (fun _ => 0))), (gp, .inl (d12, 360, .inl (fun _ => 0))), (go, .inl (d13, 360, .inl (fun _ => 0)))]) [9, 10, 11, 12, 13, 14] (by decide) rfl
              have hFc := va_free (wc := [(hm, .inr (3, [.int 0, .int 6, .ref wi, .ref co, .ref sl, .ref rn, .ref so, .ref bn, .ref sm, .ref ah])), (sm, .inr (2, [.int 0, .ref gr, .ref gt, .ref gw, .ref gk, .ref gi, .ref gp, .ref go, .ref gg, .ref hm])), (gk, .inl (d10, 360, .inl fk)), (gi, .inl (d11, 360, .inl (fun _ => 0))), (gp, .inl (d12, 360, .inl (fun _ => 0))), (go, .inl (d13, 360, .inl (fun _ => 0)))]) hD hS hA [9, 10, 11, 12, 13, 14] rfl
              refine va_calli (va_runV (As := [.int (nI i), .int (nI j), .int (nI k), .int 1]) (rest := [.long w104]) ⟨hx, hb, hml, hown, hts⟩ (r3_yealmTold1 l dC dI H.size hm wi co sl rn so bn sm ah 0 gr gt gw gk gi gp go gg d10 d11 d12 d13 fk i j k (by first | assumption | decide | omega) (by first | assumption | decide | omega) (by first | assumption | decide | omega) (by first | assumption | decide | omega)) (cwV 4 hts gX3_digest_X3_yealmTold rfl rfl rfl (by decide +kernel) ⟨Nat.le_of_ble_eq_true rfl, Nat.le_of_ble_eq_true rfl⟩) ⟨fun a U g mk q => by obtain ⟨q0, q1, qP, qK, qD, qN⟩ := q; exact ⟨q0, q1, qP, va_K.moved (u := U) (U := U.calling g mk a) (Vm.Alike.refl U.vm) qK, qD, zNs.calling qN⟩, va_recv hKc hPc (ci := 3) (q0 := 0) rfl rfl, fun U hU hW => ⟨rfl, by rw [hU], by rw [hU]; exact hPc, va_K.moved hW.alike hKc, hDc.weaken (fun _ _ _ _ => trivial), zNs.warm hW hZN⟩⟩ rfl rfl hl.1 rfl (lv_room (Nat.le_of_ble_eq_true rfl)) dX3_digest_166 ⟨by show _ ≤ 2223; omega, by show _ ≤ 13527; omega⟩) hS (fun q _ h => hFc q h) hFc (fun r105 u t H1 locs ht hvm hr105 hB hz1 hk1 hS => ?_)
              obtain ⟨hP1, hK1, hD1, hZ1⟩ := hB
              rw [ht] at hP1 hZ1
              have hZ : s.heap.size + (dd133 + 2) ≤ H1.size := by omega
              have hK1 := va_K.moved hvm.symm hK1
              try dsimp only at hr105
              obtain ⟨hP, hD⟩ := va_join (wr := [(bn, .inl (d5, 3, .inl (fun _ => 0))), (rn, .inl (d6, 12, .inl fn)), (so, .inl (d7, 12, .inl (fun _ => 0))), (wi, .inl (d1, 6, .inl fw)), (co, .inl (d2, 6, .inl fc)), (sl, .inl (d3, 6, .inl fs)), (gr, .inl (d4, 6, .inl fg)), (gt, .inl (d8, 6, .inl (fun _ => 0))), (gw, .inl (d9, 6, .inl (fun _ => 0)))]) (w1 := [(hm, .inr (3, [.int 0, .int 6, .ref wi, .ref co, .ref sl, .ref rn, .ref so, .ref bn, .ref sm, .ref ah])), (sm, .inr (2, [.int 0, .ref gr, .ref gt, .ref gw, .ref gk, .ref gi, .ref gp, .ref go, .ref gg, .ref hm])), (gk, .inl (d10, 360, .inl fk)), (gi, .inl (d11, 360, .inl (fun _ => 0))), (gp, .inl (d12, 360, .inl (fun _ => 0))), (go, .inl (d13, 360, .inl (fun _ => 0)))]) hP hD [9, 10, 11, 12, 13, 14] [0, 1, 2, 3, 4, 5, 6, 7, 8] rfl rfl (by decide) (by decide) hk1 hFc hP1 hD1
              generalize H1 = H at hP hS hZ ⊢
              have hP : va_P (dC, dI) vwCl [(bn, .inl (d5, 3, .inl (fun _ => 0))), (rn, .inl (d6, 12, .inl fn)), (so, .inl (d7, 12, .inl (fun _ => 0))), (wi, .inl (d1, 6, .inl fw)), (co, .inl (d2, 6, .inl fc)), (sl, .inl (d3, 6, .inl fs)), (gr, .inl (d4, 6, .inl fg)), (gt, .inl (d8, 6, .inl (fun _ => 0))), (gw, .inl (d9, 6, .inl (fun _ => 0))), (hm, .inr (3, [.int 0, .int 6, .ref wi, .ref co, .ref sl, .ref rn, .ref so, .ref bn, .ref sm, .ref ah])), (sm, .inr (2, [.int 0, .ref gr, .ref gt, .ref gw, .ref gk, .ref gi, .ref gp, .ref go, .ref gg, .ref hm])), (gk, .inl (d10, 360, .inl fk)), (gi, .inl (d11, 360, .inl (fun _ => 0))), (gp, .inl (d12, 360, .inl (fun _ => 0))), (go, .inl (d13, 360, .inl (fun _ => 0)))] H := hP
              have hD : va_D A [(bn, .inl (d5, 3, .inl (fun _ => 0))), (rn, .inl (d6, 12, .inl fn)), (so, .inl (d7, 12, .inl (fun _ => 0))), (wi, .inl (d1, 6, .inl fw)), (co, .inl (d2, 6, .inl fc)), (sl, .inl (d3, 6, .inl fs)), (gr, .inl (d4, 6, .inl fg)), (gt, .inl (d8, 6, .inl (fun _ => 0))), (gw, .inl (d9, 6, .inl (fun _ => 0))), (hm, .inr (3, [.int 0, .int 6, .ref wi, .ref co, .ref sl, .ref rn, .ref so, .ref bn, .ref sm, .ref ah])), (sm, .inr (2, [.int 0, .ref gr, .ref gt, .ref gw, .ref gk, .ref gi, .ref gp, .ref go, .ref gg, .ref hm])), (gk, .inl (d10, 360, .inl fk)), (gi, .inl (d11, 360, .inl (fun _ => 0))), (gp, .inl (d12, 360, .inl (fun _ => 0))), (go, .inl (d13, 360, .inl (fun _ => 0)))] := hD
              refine W.widen (k := (cc133 + 2)) (n := (ss133 + 12)) (by omega) (by omega) ?_
              obtain rfl := hr105
              refine lv_i2l (v := (-1)) hx hb dX3_digest_169 (by first | rfl | decide) ?_
              refine lv_ladd hx hb dX3_digest_170 ?_
              refine lv_topl (fun w106 ew106 => ?_)
              refine lv_lstore_n (lv' := [(1, .long w106), (6, .int 1), (0, .ref hm), (3, .int (nI i)), (4, .int (nI j)), (5, .int (nI k))]) hx hb dX3_digest_171 rfl hl (by decide) rfl (fun ls hl => ?_)
              refine lv_iinc (v := 2) (lv' := [(6, .int 2), (1, .long w106), (0, .ref hm), (3, .int (nI i)), (4, .int (nI j)), (5, .int (nI k))]) hx hb dX3_digest_172 hl (k := 1) rfl (by decide) (by decide) rfl (fun ls hl => ?_)
              refine lv_goto (tgt := 147) hx hb dX3_digest_175 (by decide) ?_
              refine lv_iload hx hb dX3_digest_147 (lv_at hl 0 rfl) ?_
              refine lv_iconst (v := 5) hx hb dX3_digest_149 (by decide) ?_
              refine lv_icmp_gt (tgt := 178) hx hb dX3_digest_150 (by decide) (fun c107 => absurd c107 (by decide)) (fun c107 => ?_)
              refine lv_lload_n hx hb dX3_digest_153 rfl (lv_at hl 1 rfl) ?_
              refine lv_ldc2 (v := 31) hx hb hown (hts (.constantLong RX3 151 31) (by decide +kernel)) dX3_digest_154 ?_
              refine lv_lmul hx hb dX3_digest_157 ?_
              refine lv_topl (fun w108 ew108 => ?_)
              refine lv_aload_n hx hb dX3_digest_158 rfl (lv_at hl 2 rfl) ?_
              refine lv_iload_n hx hb dX3_digest_159 rfl (lv_at hl 3 rfl) ?_
              refine lv_iload hx hb dX3_digest_160 (lv_at hl 4 rfl) ?_
              refine lv_iload hx hb dX3_digest_162 (lv_at hl 5 rfl) ?_
              refine lv_iload hx hb dX3_digest_164 (lv_at hl 0 rfl) ?_
              have hPc := hP.sub (ws' := [(hm, .inr (3, [.int 0, .int 6, .ref wi, .ref co, .ref sl, .ref rn, .ref so, .ref bn, .ref sm, .ref ah])), (sm, .inr (2, [.int 0, .ref gr, .ref gt, .ref gw, .ref gk, .ref gi, .ref gp, .ref go, .ref gg, .ref hm])), (gk, .inl (d10, 360, .inl fk)), (gi, .inl (d11, 360, .inl (fun _ => 0))), (gp, .inl (d12, 360, .inl (fun _ => 0))), (go, .inl (d13, 360, .inl (fun _ => 0)))]) [9, 10, 11, 12, 13, 14] rfl
              have hKc := hK.sub (tys' := [(d10, .int), (d11, .int), (d12, .int), (d13, .int)]) [9, 10, 11, 12] rfl
              have hDc := hD.sub (ws' := [(hm, .inr (3, [.int 0, .int 6, .ref wi, .ref co, .ref sl, .ref rn, .ref so, .ref bn, .ref sm, .ref ah])), (sm, .inr (2, [.int 0, .ref gr, .ref gt, .ref gw, .ref gk, .ref gi, .ref gp, .ref go, .ref gg, .ref hm])), (gk, .inl (d10, 360, .inl fk)), (gi, .inl (d11, 360, .inl (fun _ => 0))), (gp, .inl (d12, 360, .inl (fun _ => 0))), (go, .inl (d13, 360, .inl (fun _ => 0)))]) [9, 10, 11, 12, 13, 14] (by decide) rfl
              have hFc := va_free (wc := [(hm, .inr (3, [.int 0, .int 6, .ref wi, .ref co, .ref sl, .ref rn, .ref so, .ref bn, .ref sm, .ref ah])), (sm, .inr (2, [.int 0, .ref gr, .ref gt, .ref gw, .ref gk, .ref gi, .ref gp, .ref go, .ref gg, .ref hm])), (gk, .inl (d10, 360, .inl fk)), (gi, .inl (d11, 360, .inl (fun _ => 0))), (gp, .inl (d12, 360, .inl (fun _ => 0))), (go, .inl (d13, 360, .inl (fun _ => 0)))]) hD hS hA [9, 10, 11, 12, 13, 14] rfl
              refine va_calli (va_runV (As := [.int (nI i), .int (nI j), .int (nI k), .int 2]) (rest := [.long w108]) ⟨hx, hb, hml, hown, hts⟩ (r3_yealmTold2 l dC dI H.size hm wi co sl rn so bn sm ah 0 gr gt gw gk gi gp go gg d10 d11 d12 d13 fk i j k (by first | assumption | decide | omega) (by first | assumption | decide | omega) (by first | assumption | decide | omega) (by first | assumption | decide | omega)) (cwV 4 hts gX3_digest_X3_yealmTold rfl rfl rfl (by decide +kernel) ⟨Nat.le_of_ble_eq_true rfl, Nat.le_of_ble_eq_true rfl⟩) ⟨fun a U g mk q => by obtain ⟨q0, q1, qP, qK, qD, qN⟩ := q; exact ⟨q0, q1, qP, va_K.moved (u := U) (U := U.calling g mk a) (Vm.Alike.refl U.vm) qK, qD, zNs.calling qN⟩, va_recv hKc hPc (ci := 3) (q0 := 0) rfl rfl, fun U hU hW => ⟨rfl, by rw [hU], by rw [hU]; exact hPc, va_K.moved hW.alike hKc, hDc.weaken (fun _ _ _ _ => trivial), zNs.warm hW hZN⟩⟩ rfl rfl hl.1 rfl (lv_room (Nat.le_of_ble_eq_true rfl)) dX3_digest_166 ⟨by show _ ≤ 2223; omega, by show _ ≤ 13527; omega⟩) hS (fun q _ h => hFc q h) hFc (fun r109 u t H1 locs ht hvm hr109 hB hz1 hk1 hS => ?_)
              obtain ⟨hP1, hK1, hD1, hZ1⟩ := hB
              rw [ht] at hP1 hZ1
              have hZ : s.heap.size + (dd133 + 3) ≤ H1.size := by omega
              have hK1 := va_K.moved hvm.symm hK1
              try dsimp only at hr109
              obtain ⟨hP, hD⟩ := va_join (wr := [(bn, .inl (d5, 3, .inl (fun _ => 0))), (rn, .inl (d6, 12, .inl fn)), (so, .inl (d7, 12, .inl (fun _ => 0))), (wi, .inl (d1, 6, .inl fw)), (co, .inl (d2, 6, .inl fc)), (sl, .inl (d3, 6, .inl fs)), (gr, .inl (d4, 6, .inl fg)), (gt, .inl (d8, 6, .inl (fun _ => 0))), (gw, .inl (d9, 6, .inl (fun _ => 0)))]) (w1 := [(hm, .inr (3, [.int 0, .int 6, .ref wi, .ref co, .ref sl, .ref rn, .ref so, .ref bn, .ref sm, .ref ah])), (sm, .inr (2, [.int 0, .ref gr, .ref gt, .ref gw, .ref gk, .ref gi, .ref gp, .ref go, .ref gg, .ref hm])), (gk, .inl (d10, 360, .inl fk)), (gi, .inl (d11, 360, .inl (fun _ => 0))), (gp, .inl (d12, 360, .inl (fun _ => 0))), (go, .inl (d13, 360, .inl (fun _ => 0)))]) hP hD [9, 10, 11, 12, 13, 14] [0, 1, 2, 3, 4, 5, 6, 7, 8] rfl rfl (by decide) (by decide) hk1 hFc hP1 hD1
              generalize H1 = H at hP hS hZ ⊢
              have hP : va_P (dC, dI) vwCl [(bn, .inl (d5, 3, .inl (fun _ => 0))), (rn, .inl (d6, 12, .inl fn)), (so, .inl (d7, 12, .inl (fun _ => 0))), (wi, .inl (d1, 6, .inl fw)), (co, .inl (d2, 6, .inl fc)), (sl, .inl (d3, 6, .inl fs)), (gr, .inl (d4, 6, .inl fg)), (gt, .inl (d8, 6, .inl (fun _ => 0))), (gw, .inl (d9, 6, .inl (fun _ => 0))), (hm, .inr (3, [.int 0, .int 6, .ref wi, .ref co, .ref sl, .ref rn, .ref so, .ref bn, .ref sm, .ref ah])), (sm, .inr (2, [.int 0, .ref gr, .ref gt, .ref gw, .ref gk, .ref gi, .ref gp, .ref go, .ref gg, .ref hm])), (gk, .inl (d10, 360, .inl fk)), (gi, .inl (d11, 360, .inl (fun _ => 0))), (gp, .inl (d12, 360, .inl (fun _ => 0))), (go, .inl (d13, 360, .inl (fun _ => 0)))] H := hP
              have hD : va_D A [(bn, .inl (d5, 3, .inl (fun _ => 0))), (rn, .inl (d6, 12, .inl fn)), (so, .inl (d7, 12, .inl (fun _ => 0))), (wi, .inl (d1, 6, .inl fw)), (co, .inl (d2, 6, .inl fc)), (sl, .inl (d3, 6, .inl fs)), (gr, .inl (d4, 6, .inl fg)), (gt, .inl (d8, 6, .inl (fun _ => 0))), (gw, .inl (d9, 6, .inl (fun _ => 0))), (hm, .inr (3, [.int 0, .int 6, .ref wi, .ref co, .ref sl, .ref rn, .ref so, .ref bn, .ref sm, .ref ah])), (sm, .inr (2, [.int 0, .ref gr, .ref gt, .ref gw, .ref gk, .ref gi, .ref gp, .ref go, .ref gg, .ref hm])), (gk, .inl (d10, 360, .inl fk)), (gi, .inl (d11, 360, .inl (fun _ => 0))), (gp, .inl (d12, 360, .inl (fun _ => 0))), (go, .inl (d13, 360, .inl (fun _ => 0)))] := hD
              refine W.widen (k := (cc133 + 3)) (n := (ss133 + 18)) (by omega) (by omega) ?_
              obtain rfl := hr109
              refine lv_i2l (v := 0) hx hb dX3_digest_169 (by first | rfl | decide) ?_
              refine lv_ladd hx hb dX3_digest_170 ?_
              refine lv_topl (fun w110 ew110 => ?_)
              refine lv_lstore_n (lv' := [(1, .long w110), (6, .int 2), (0, .ref hm), (3, .int (nI i)), (4, .int (nI j)), (5, .int (nI k))]) hx hb dX3_digest_171 rfl hl (by decide) rfl (fun ls hl => ?_)
              refine lv_iinc (v := 3) (lv' := [(6, .int 3), (1, .long w110), (0, .ref hm), (3, .int (nI i)), (4, .int (nI j)), (5, .int (nI k))]) hx hb dX3_digest_172 hl (k := 1) rfl (by decide) (by decide) rfl (fun ls hl => ?_)
              refine lv_goto (tgt := 147) hx hb dX3_digest_175 (by decide) ?_
              refine lv_iload hx hb dX3_digest_147 (lv_at hl 0 rfl) ?_
              refine lv_iconst (v := 5) hx hb dX3_digest_149 (by decide) ?_
              refine lv_icmp_gt (tgt := 178) hx hb dX3_digest_150 (by decide) (fun c111 => absurd c111 (by decide)) (fun c111 => ?_)
              refine lv_lload_n hx hb dX3_digest_153 rfl (lv_at hl 1 rfl) ?_
              refine lv_ldc2 (v := 31) hx hb hown (hts (.constantLong RX3 151 31) (by decide +kernel)) dX3_digest_154 ?_
              refine lv_lmul hx hb dX3_digest_157 ?_
              refine lv_topl (fun w112 ew112 => ?_)
              refine lv_aload_n hx hb dX3_digest_158 rfl (lv_at hl 2 rfl) ?_
              refine lv_iload_n hx hb dX3_digest_159 rfl (lv_at hl 3 rfl) ?_
              refine lv_iload hx hb dX3_digest_160 (lv_at hl 4 rfl) ?_
              refine lv_iload hx hb dX3_digest_162 (lv_at hl 5 rfl) ?_
              refine lv_iload hx hb dX3_digest_164 (lv_at hl 0 rfl) ?_
              have hPc := hP.sub (ws' := [(hm, .inr (3, [.int 0, .int 6, .ref wi, .ref co, .ref sl, .ref rn, .ref so, .ref bn, .ref sm, .ref ah])), (sm, .inr (2, [.int 0, .ref gr, .ref gt, .ref gw, .ref gk, .ref gi, .ref gp, .ref go, .ref gg, .ref hm])), (gk, .inl (d10, 360, .inl fk)), (gi, .inl (d11, 360, .inl (fun _ => 0))), (gp, .inl (d12, 360, .inl (fun _ => 0))), (go, .inl (d13, 360, .inl (fun _ => 0)))]) [9, 10, 11, 12, 13, 14] rfl
              have hKc := hK.sub (tys' := [(d10, .int), (d11, .int), (d12, .int), (d13, .int)]) [9, 10, 11, 12] rfl
              have hDc := hD.sub (ws' := [(hm, .inr (3, [.int 0, .int 6, .ref wi, .ref co, .ref sl, .ref rn, .ref so, .ref bn, .ref sm, .ref ah])), (sm, .inr (2, [.int 0, .ref gr, .ref gt, .ref gw, .ref gk, .ref gi, .ref gp, .ref go, .ref gg, .ref hm])), (gk, .inl (d10, 360, .inl fk)), (gi, .inl (d11, 360, .inl (fun _ => 0))), (gp, .inl (d12, 360, .inl (fun _ => 0))), (go, .inl (d13, 360, .inl (fun _ => 0)))]) [9, 10, 11, 12, 13, 14] (by decide) rfl
              have hFc := va_free (wc := [(hm, .inr (3, [.int 0, .int 6, .ref wi, .ref co, .ref sl, .ref rn, .ref so, .ref bn, .ref sm, .ref ah])), (sm, .inr (2, [.int 0, .ref gr, .ref gt, .ref gw, .ref gk, .ref gi, .ref gp, .ref go, .ref gg, .ref hm])), (gk, .inl (d10, 360, .inl fk)), (gi, .inl (d11, 360, .inl (fun _ => 0))), (gp, .inl (d12, 360, .inl (fun _ => 0))), (go, .inl (d13, 360, .inl (fun _ => 0)))]) hD hS hA [9, 10, 11, 12, 13, 14] rfl
              refine va_calli (va_runV (As := [.int (nI i), .int (nI j), .int (nI k), .int 3]) (rest := [.long w112]) ⟨hx, hb, hml, hown, hts⟩ (r3_yealmTold3 l dC dI H.size hm wi co sl rn so bn sm ah 0 gr gt gw gk gi gp go gg d10 d11 d12 d13 fk i j k (by first | assumption | decide | omega) (by first | assumption | decide | omega) (by first | assumption | decide | omega) (by first | assumption | decide | omega)) (cwV 4 hts gX3_digest_X3_yealmTold rfl rfl rfl (by decide +kernel) ⟨Nat.le_of_ble_eq_true rfl, Nat.le_of_ble_eq_true rfl⟩) ⟨fun a U g mk q => by obtain ⟨q0, q1, qP, qK, qD, qN⟩ := q; exact ⟨q0, q1, qP, va_K.moved (u := U) (U := U.calling g mk a) (Vm.Alike.refl U.vm) qK, qD, zNs.calling qN⟩, va_recv hKc hPc (ci := 3) (q0 := 0) rfl rfl, fun U hU hW => ⟨rfl, by rw [hU], by rw [hU]; exact hPc, va_K.moved hW.alike hKc, hDc.weaken (fun _ _ _ _ => trivial), zNs.warm hW hZN⟩⟩ rfl rfl hl.1 rfl (lv_room (Nat.le_of_ble_eq_true rfl)) dX3_digest_166 ⟨by show _ ≤ 2223; omega, by show _ ≤ 13527; omega⟩) hS (fun q _ h => hFc q h) hFc (fun r113 u t H1 locs ht hvm hr113 hB hz1 hk1 hS => ?_)
              obtain ⟨hP1, hK1, hD1, hZ1⟩ := hB
              rw [ht] at hP1 hZ1
              have hZ : s.heap.size + (dd133 + 4) ≤ H1.size := by omega
              have hK1 := va_K.moved hvm.symm hK1
              try dsimp only at hr113
              obtain ⟨hP, hD⟩ := va_join (wr := [(bn, .inl (d5, 3, .inl (fun _ => 0))), (rn, .inl (d6, 12, .inl fn)), (so, .inl (d7, 12, .inl (fun _ => 0))), (wi, .inl (d1, 6, .inl fw)), (co, .inl (d2, 6, .inl fc)), (sl, .inl (d3, 6, .inl fs)), (gr, .inl (d4, 6, .inl fg)), (gt, .inl (d8, 6, .inl (fun _ => 0))), (gw, .inl (d9, 6, .inl (fun _ => 0)))]) (w1 := [(hm, .inr (3, [.int 0, .int 6, .ref wi, .ref co, .ref sl, .ref rn, .ref so, .ref bn, .ref sm, .ref ah])), (sm, .inr (2, [.int 0, .ref gr, .ref gt, .ref gw, .ref gk, .ref gi, .ref gp, .ref go, .ref gg, .ref hm])), (gk, .inl (d10, 360, .inl fk)), (gi, .inl (d11, 360, .inl (fun _ => 0))), (gp, .inl (d12, 360, .inl (fun _ => 0))), (go, .inl (d13, 360, .inl (fun _ => 0)))]) hP hD [9, 10, 11, 12, 13, 14] [0, 1, 2, 3, 4, 5, 6, 7, 8] rfl rfl (by decide) (by decide) hk1 hFc hP1 hD1
              generalize H1 = H at hP hS hZ ⊢
              have hP : va_P (dC, dI) vwCl [(bn, .inl (d5, 3, .inl (fun _ => 0))), (rn, .inl (d6, 12, .inl fn)), (so, .inl (d7, 12, .inl (fun _ => 0))), (wi, .inl (d1, 6, .inl fw)), (co, .inl (d2, 6, .inl fc)), (sl, .inl (d3, 6, .inl fs)), (gr, .inl (d4, 6, .inl fg)), (gt, .inl (d8, 6, .inl (fun _ => 0))), (gw, .inl (d9, 6, .inl (fun _ => 0))), (hm, .inr (3, [.int 0, .int 6, .ref wi, .ref co, .ref sl, .ref rn, .ref so, .ref bn, .ref sm, .ref ah])), (sm, .inr (2, [.int 0, .ref gr, .ref gt, .ref gw, .ref gk, .ref gi, .ref gp, .ref go, .ref gg, .ref hm])), (gk, .inl (d10, 360, .inl fk)), (gi, .inl (d11, 360, .inl (fun _ => 0))), (gp, .inl (d12, 360, .inl (fun _ => 0))), (go, .inl (d13, 360, .inl (fun _ => 0)))] H := hP
              have hD : va_D A [(bn, .inl (d5, 3, .inl (fun _ => 0))), (rn, .inl (d6, 12, .inl fn)), (so, .inl (d7, 12, .inl (fun _ => 0))), (wi, .inl (d1, 6, .inl fw)), (co, .inl (d2, 6, .inl fc)), (sl, .inl (d3, 6, .inl fs)), (gr, .inl (d4, 6, .inl fg)), (gt, .inl (d8, 6, .inl (fun _ => 0))), (gw, .inl (d9, 6, .inl (fun _ => 0))), (hm, .inr (3, [.int 0, .int 6, .ref wi, .ref co, .ref sl, .ref rn, .ref so, .ref bn, .ref sm, .ref ah])), (sm, .inr (2, [.int 0, .ref gr, .ref gt, .ref gw, .ref gk, .ref gi, .ref gp, .ref go, .ref gg, .ref hm])), (gk, .inl (d10, 360, .inl fk)), (gi, .inl (d11, 360, .inl (fun _ => 0))), (gp, .inl (d12, 360, .inl (fun _ => 0))), (go, .inl (d13, 360, .inl (fun _ => 0)))] := hD
              refine W.widen (k := (cc133 + 4)) (n := (ss133 + 24)) (by omega) (by omega) ?_
              obtain rfl := hr113
              refine lv_i2l (v := 0) hx hb dX3_digest_169 (by first | rfl | decide) ?_
              refine lv_ladd hx hb dX3_digest_170 ?_
              refine lv_topl (fun w114 ew114 => ?_)
              refine lv_lstore_n (lv' := [(1, .long w114), (6, .int 3), (0, .ref hm), (3, .int (nI i)), (4, .int (nI j)), (5, .int (nI k))]) hx hb dX3_digest_171 rfl hl (by decide) rfl (fun ls hl => ?_)
              refine lv_iinc (v := 4) (lv' := [(6, .int 4), (1, .long w114), (0, .ref hm), (3, .int (nI i)), (4, .int (nI j)), (5, .int (nI k))]) hx hb dX3_digest_172 hl (k := 1) rfl (by decide) (by decide) rfl (fun ls hl => ?_)
              refine lv_goto (tgt := 147) hx hb dX3_digest_175 (by decide) ?_
              refine lv_iload hx hb dX3_digest_147 (lv_at hl 0 rfl) ?_
              refine lv_iconst (v := 5) hx hb dX3_digest_149 (by decide) ?_
              refine lv_icmp_gt (tgt := 178) hx hb dX3_digest_150 (by decide) (fun c115 => absurd c115 (by decide)) (fun c115 => ?_)
              refine lv_lload_n hx hb dX3_digest_153 rfl (lv_at hl 1 rfl) ?_
              refine lv_ldc2 (v := 31) hx hb hown (hts (.constantLong RX3 151 31) (by decide +kernel)) dX3_digest_154 ?_
              refine lv_lmul hx hb dX3_digest_157 ?_
              refine lv_topl (fun w116 ew116 => ?_)
              refine lv_aload_n hx hb dX3_digest_158 rfl (lv_at hl 2 rfl) ?_
              refine lv_iload_n hx hb dX3_digest_159 rfl (lv_at hl 3 rfl) ?_
              refine lv_iload hx hb dX3_digest_160 (lv_at hl 4 rfl) ?_
              refine lv_iload hx hb dX3_digest_162 (lv_at hl 5 rfl) ?_
              refine lv_iload hx hb dX3_digest_164 (lv_at hl 0 rfl) ?_
              have hPc := hP.sub (ws' := [(hm, .inr (3, [.int 0, .int 6, .ref wi, .ref co, .ref sl, .ref rn, .ref so, .ref bn, .ref sm, .ref ah])), (sm, .inr (2, [.int 0, .ref gr, .ref gt, .ref gw, .ref gk, .ref gi, .ref gp, .ref go, .ref gg, .ref hm])), (gk, .inl (d10, 360, .inl fk)), (gi, .inl (d11, 360, .inl (fun _ => 0))), (gp, .inl (d12, 360, .inl (fun _ => 0))), (go, .inl (d13, 360, .inl (fun _ => 0)))]) [9, 10, 11, 12, 13, 14] rfl
              have hKc := hK.sub (tys' := [(d10, .int), (d11, .int), (d12, .int), (d13, .int)]) [9, 10, 11, 12] rfl
              have hDc := hD.sub (ws' := [(hm, .inr (3, [.int 0, .int 6, .ref wi, .ref co, .ref sl, .ref rn, .ref so, .ref bn, .ref sm, .ref ah])), (sm, .inr (2, [.int 0, .ref gr, .ref gt, .ref gw, .ref gk, .ref gi, .ref gp, .ref go, .ref gg, .ref hm])), (gk, .inl (d10, 360, .inl fk)), (gi, .inl (d11, 360, .inl (fun _ => 0))), (gp, .inl (d12, 360, .inl (fun _ => 0))), (go, .inl (d13, 360, .inl (fun _ => 0)))]) [9, 10, 11, 12, 13, 14] (by decide) rfl
              have hFc := va_free (wc := [(hm, .inr (3, [.int 0, .int 6, .ref wi, .ref co, .ref sl, .ref rn, .ref so, .ref bn, .ref sm, .ref ah])), (sm, .inr (2, [.int 0, .ref gr, .ref gt, .ref gw, .ref gk, .ref gi, .ref gp, .ref go, .ref gg, .ref hm])), (gk, .inl (d10, 360, .inl fk)), (gi, .inl (d11, 360, .inl (fun _ => 0))), (gp, .inl (d12, 360, .inl (fun _ => 0))), (go, .inl (d13, 360, .inl (fun _ => 0)))]) hD hS hA [9, 10, 11, 12, 13, 14] rfl
              refine va_calli (va_runV (As := [.int (nI i), .int (nI j), .int (nI k), .int 4]) (rest := [.long w116]) ⟨hx, hb, hml, hown, hts⟩ (r3_yealmTold4 l dC dI H.size hm wi co sl rn so bn sm ah 0 gr gt gw gk gi gp go gg d10 d11 d12 d13 fk i j k (by first | assumption | decide | omega) (by first | assumption | decide | omega) (by first | assumption | decide | omega) (by first | assumption | decide | omega)) (cwV 4 hts gX3_digest_X3_yealmTold rfl rfl rfl (by decide +kernel) ⟨Nat.le_of_ble_eq_true rfl, Nat.le_of_ble_eq_true rfl⟩) ⟨fun a U g mk q => by obtain ⟨q0, q1, qP, qK, qD, qN⟩ := q; exact ⟨q0, q1, qP, va_K.moved (u := U) (U := U.calling g mk a) (Vm.Alike.refl U.vm) qK, qD, zNs.calling qN⟩, va_recv hKc hPc (ci := 3) (q0 := 0) rfl rfl, fun U hU hW => ⟨rfl, by rw [hU], by rw [hU]; exact hPc, va_K.moved hW.alike hKc, hDc.weaken (fun _ _ _ _ => trivial), zNs.warm hW hZN⟩⟩ rfl rfl hl.1 rfl (lv_room (Nat.le_of_ble_eq_true rfl)) dX3_digest_166 ⟨by show _ ≤ 2223; omega, by show _ ≤ 13527; omega⟩) hS (fun q _ h => hFc q h) hFc (fun r117 u t H1 locs ht hvm hr117 hB hz1 hk1 hS => ?_)
              obtain ⟨hP1, hK1, hD1, hZ1⟩ := hB
              rw [ht] at hP1 hZ1
              have hZ : s.heap.size + (dd133 + 5) ≤ H1.size := by omega
              have hK1 := va_K.moved hvm.symm hK1
              try dsimp only at hr117
              obtain ⟨hP, hD⟩ := va_join (wr := [(bn, .inl (d5, 3, .inl (fun _ => 0))), (rn, .inl (d6, 12, .inl fn)), (so, .inl (d7, 12, .inl (fun _ => 0))), (wi, .inl (d1, 6, .inl fw)), (co, .inl (d2, 6, .inl fc)), (sl, .inl (d3, 6, .inl fs)), (gr, .inl (d4, 6, .inl fg)), (gt, .inl (d8, 6, .inl (fun _ => 0))), (gw, .inl (d9, 6, .inl (fun _ => 0)))]) (w1 := [(hm, .inr (3, [.int 0, .int 6, .ref wi, .ref co, .ref sl, .ref rn, .ref so, .ref bn, .ref sm, .ref ah])), (sm, .inr (2, [.int 0, .ref gr, .ref gt, .ref gw, .ref gk, .ref gi, .ref gp, .ref go, .ref gg, .ref hm])), (gk, .inl (d10, 360, .inl fk)), (gi, .inl (d11, 360, .inl (fun _ => 0))), (gp, .inl (d12, 360, .inl (fun _ => 0))), (go, .inl (d13, 360, .inl (fun _ => 0)))]) hP hD [9, 10, 11, 12, 13, 14] [0, 1, 2, 3, 4, 5, 6, 7, 8] rfl rfl (by decide) (by decide) hk1 hFc hP1 hD1
              generalize H1 = H at hP hS hZ ⊢
              have hP : va_P (dC, dI) vwCl [(bn, .inl (d5, 3, .inl (fun _ => 0))), (rn, .inl (d6, 12, .inl fn)), (so, .inl (d7, 12, .inl (fun _ => 0))), (wi, .inl (d1, 6, .inl fw)), (co, .inl (d2, 6, .inl fc)), (sl, .inl (d3, 6, .inl fs)), (gr, .inl (d4, 6, .inl fg)), (gt, .inl (d8, 6, .inl (fun _ => 0))), (gw, .inl (d9, 6, .inl (fun _ => 0))), (hm, .inr (3, [.int 0, .int 6, .ref wi, .ref co, .ref sl, .ref rn, .ref so, .ref bn, .ref sm, .ref ah])), (sm, .inr (2, [.int 0, .ref gr, .ref gt, .ref gw, .ref gk, .ref gi, .ref gp, .ref go, .ref gg, .ref hm])), (gk, .inl (d10, 360, .inl fk)), (gi, .inl (d11, 360, .inl (fun _ => 0))), (gp, .inl (d12, 360, .inl (fun _ => 0))), (go, .inl (d13, 360, .inl (fun _ => 0)))] H := hP
              have hD : va_D A [(bn, .inl (d5, 3, .inl (fun _ => 0))), (rn, .inl (d6, 12, .inl fn)), (so, .inl (d7, 12, .inl (fun _ => 0))), (wi, .inl (d1, 6, .inl fw)), (co, .inl (d2, 6, .inl fc)), (sl, .inl (d3, 6, .inl fs)), (gr, .inl (d4, 6, .inl fg)), (gt, .inl (d8, 6, .inl (fun _ => 0))), (gw, .inl (d9, 6, .inl (fun _ => 0))), (hm, .inr (3, [.int 0, .int 6, .ref wi, .ref co, .ref sl, .ref rn, .ref so, .ref bn, .ref sm, .ref ah])), (sm, .inr (2, [.int 0, .ref gr, .ref gt, .ref gw, .ref gk, .ref gi, .ref gp, .ref go, .ref gg, .ref hm])), (gk, .inl (d10, 360, .inl fk)), (gi, .inl (d11, 360, .inl (fun _ => 0))), (gp, .inl (d12, 360, .inl (fun _ => 0))), (go, .inl (d13, 360, .inl (fun _ => 0)))] := hD
              refine W.widen (k := (cc133 + 5)) (n := (ss133 + 30)) (by omega) (by omega) ?_
              obtain rfl := hr117
              refine lv_i2l (v := 0) hx hb dX3_digest_169 (by first | rfl | decide) ?_
              refine lv_ladd hx hb dX3_digest_170 ?_
              refine lv_topl (fun w118 ew118 => ?_)
              refine lv_lstore_n (lv' := [(1, .long w118), (6, .int 4), (0, .ref hm), (3, .int (nI i)), (4, .int (nI j)), (5, .int (nI k))]) hx hb dX3_digest_171 rfl hl (by decide) rfl (fun ls hl => ?_)
              refine lv_iinc (v := 5) (lv' := [(6, .int 5), (1, .long w118), (0, .ref hm), (3, .int (nI i)), (4, .int (nI j)), (5, .int (nI k))]) hx hb dX3_digest_172 hl (k := 1) rfl (by decide) (by decide) rfl (fun ls hl => ?_)
              refine lv_goto (tgt := 147) hx hb dX3_digest_175 (by decide) ?_
              refine lv_iload hx hb dX3_digest_147 (lv_at hl 0 rfl) ?_
              refine lv_iconst (v := 5) hx hb dX3_digest_149 (by decide) ?_
              refine lv_icmp_gt (tgt := 178) hx hb dX3_digest_150 (by decide) (fun c119 => absurd c119 (by decide)) (fun c119 => ?_)
              refine lv_lload_n hx hb dX3_digest_153 rfl (lv_at hl 1 rfl) ?_
              refine lv_ldc2 (v := 31) hx hb hown (hts (.constantLong RX3 151 31) (by decide +kernel)) dX3_digest_154 ?_
              refine lv_lmul hx hb dX3_digest_157 ?_
              refine lv_topl (fun w120 ew120 => ?_)
              refine lv_aload_n hx hb dX3_digest_158 rfl (lv_at hl 2 rfl) ?_
              refine lv_iload_n hx hb dX3_digest_159 rfl (lv_at hl 3 rfl) ?_
              refine lv_iload hx hb dX3_digest_160 (lv_at hl 4 rfl) ?_
              refine lv_iload hx hb dX3_digest_162 (lv_at hl 5 rfl) ?_
              refine lv_iload hx hb dX3_digest_164 (lv_at hl 0 rfl) ?_
              have hPc := hP.sub (ws' := [(hm, .inr (3, [.int 0, .int 6, .ref wi, .ref co, .ref sl, .ref rn, .ref so, .ref bn, .ref sm, .ref ah])), (sm, .inr (2, [.int 0, .ref gr, .ref gt, .ref gw, .ref gk, .ref gi, .ref gp, .ref go, .ref gg, .ref hm])), (gk, .inl (d10, 360, .inl fk)), (gi, .inl (d11, 360, .inl (fun _ => 0))), (gp, .inl (d12, 360, .inl (fun _ => 0))), (go, .inl (d13, 360, .inl (fun _ => 0)))]) [9, 10, 11, 12, 13, 14] rfl
              have hKc := hK.sub (tys' := [(d10, .int), (d11, .int), (d12, .int), (d13, .int)]) [9, 10, 11, 12] rfl
              have hDc := hD.sub (ws' := [(hm, .inr (3, [.int 0, .int 6, .ref wi, .ref co, .ref sl, .ref rn, .ref so, .ref bn, .ref sm, .ref ah])), (sm, .inr (2, [.int 0, .ref gr, .ref gt, .ref gw, .ref gk, .ref gi, .ref gp, .ref go, .ref gg, .ref hm])), (gk, .inl (d10, 360, .inl fk)), (gi, .inl (d11, 360, .inl (fun _ => 0))), (gp, .inl (d12, 360, .inl (fun _ => 0))), (go, .inl (d13, 360, .inl (fun _ => 0)))]) [9, 10, 11, 12, 13, 14] (by decide) rfl
              have hFc := va_free (wc := [(hm, .inr (3, [.int 0, .int 6, .ref wi, .ref co, .ref sl, .ref rn, .ref so, .ref bn, .ref sm, .ref ah])), (sm, .inr (2, [.int 0, .ref gr, .ref gt, .ref gw, .ref gk, .ref gi, .ref gp, .ref go, .ref gg, .ref hm])), (gk, .inl (d10, 360, .inl fk)), (gi, .inl (d11, 360, .inl (fun _ => 0))), (gp, .inl (d12, 360, .inl (fun _ => 0))), (go, .inl (d13, 360, .inl (fun _ => 0)))]) hD hS hA [9, 10, 11, 12, 13, 14] rfl
              refine va_calli (va_runV (As := [.int (nI i), .int (nI j), .int (nI k), .int 5]) (rest := [.long w120]) ⟨hx, hb, hml, hown, hts⟩ (r3_yealmTold5 l dC dI H.size hm wi co sl rn so bn sm ah 0 gr gt gw gk gi gp go gg d10 d11 d12 d13 fk i j k (by first | assumption | decide | omega) (by first | assumption | decide | omega) (by first | assumption | decide | omega) (by first | assumption | decide | omega)) (cwV 4 hts gX3_digest_X3_yealmTold rfl rfl rfl (by decide +kernel) ⟨Nat.le_of_ble_eq_true rfl, Nat.le_of_ble_eq_true rfl⟩) ⟨fun a U g mk q => by obtain ⟨q0, q1, qP, qK, qD, qN⟩ := q; exact ⟨q0, q1, qP, va_K.moved (u := U) (U := U.calling g mk a) (Vm.Alike.refl U.vm) qK, qD, zNs.calling qN⟩, va_recv hKc hPc (ci := 3) (q0 := 0) rfl rfl, fun U hU hW => ⟨rfl, by rw [hU], by rw [hU]; exact hPc, va_K.moved hW.alike hKc, hDc.weaken (fun _ _ _ _ => trivial), zNs.warm hW hZN⟩⟩ rfl rfl hl.1 rfl (lv_room (Nat.le_of_ble_eq_true rfl)) dX3_digest_166 ⟨by show _ ≤ 2223; omega, by show _ ≤ 13527; omega⟩) hS (fun q _ h => hFc q h) hFc (fun r121 u t H1 locs ht hvm hr121 hB hz1 hk1 hS => ?_)
              obtain ⟨hP1, hK1, hD1, hZ1⟩ := hB
              rw [ht] at hP1 hZ1
              have hZ : s.heap.size + (dd133 + 6) ≤ H1.size := by omega
              have hK1 := va_K.moved hvm.symm hK1
              try dsimp only at hr121
              obtain ⟨hP, hD⟩ := va_join (wr := [(bn, .inl (d5, 3, .inl (fun _ => 0))), (rn, .inl (d6, 12, .inl fn)), (so, .inl (d7, 12, .inl (fun _ => 0))), (wi, .inl (d1, 6, .inl fw)), (co, .inl (d2, 6, .inl fc)), (sl, .inl (d3, 6, .inl fs)), (gr, .inl (d4, 6, .inl fg)), (gt, .inl (d8, 6, .inl (fun _ => 0))), (gw, .inl (d9, 6, .inl (fun _ => 0)))]) (w1 := [(hm, .inr (3, [.int 0, .int 6, .ref wi, .ref co, .ref sl, .ref rn, .ref so, .ref bn, .ref sm, .ref ah])), (sm, .inr (2, [.int 0, .ref gr, .ref gt, .ref gw, .ref gk, .ref gi, .ref gp, .ref go, .ref gg, .ref hm])), (gk, .inl (d10, 360, .inl fk)), (gi, .inl (d11, 360, .inl (fun _ => 0))), (gp, .inl (d12, 360, .inl (fun _ => 0))), (go, .inl (d13, 360, .inl (fun _ => 0)))]) hP hD [9, 10, 11, 12, 13, 14] [0, 1, 2, 3, 4, 5, 6, 7, 8] rfl rfl (by decide) (by decide) hk1 hFc hP1 hD1
              generalize H1 = H at hP hS hZ ⊢
              have hP : va_P (dC, dI) vwCl [(bn, .inl (d5, 3, .inl (fun _ => 0))), (rn, .inl (d6, 12, .inl fn)), (so, .inl (d7, 12, .inl (fun _ => 0))), (wi, .inl (d1, 6, .inl fw)), (co, .inl (d2, 6, .inl fc)), (sl, .inl (d3, 6, .inl fs)), (gr, .inl (d4, 6, .inl fg)), (gt, .inl (d8, 6, .inl (fun _ => 0))), (gw, .inl (d9, 6, .inl (fun _ => 0))), (hm, .inr (3, [.int 0, .int 6, .ref wi, .ref co, .ref sl, .ref rn, .ref so, .ref bn, .ref sm, .ref ah])), (sm, .inr (2, [.int 0, .ref gr, .ref gt, .ref gw, .ref gk, .ref gi, .ref gp, .ref go, .ref gg, .ref hm])), (gk, .inl (d10, 360, .inl fk)), (gi, .inl (d11, 360, .inl (fun _ => 0))), (gp, .inl (d12, 360, .inl (fun _ => 0))), (go, .inl (d13, 360, .inl (fun _ => 0)))] H := hP
              have hD : va_D A [(bn, .inl (d5, 3, .inl (fun _ => 0))), (rn, .inl (d6, 12, .inl fn)), (so, .inl (d7, 12, .inl (fun _ => 0))), (wi, .inl (d1, 6, .inl fw)), (co, .inl (d2, 6, .inl fc)), (sl, .inl (d3, 6, .inl fs)), (gr, .inl (d4, 6, .inl fg)), (gt, .inl (d8, 6, .inl (fun _ => 0))), (gw, .inl (d9, 6, .inl (fun _ => 0))), (hm, .inr (3, [.int 0, .int 6, .ref wi, .ref co, .ref sl, .ref rn, .ref so, .ref bn, .ref sm, .ref ah])), (sm, .inr (2, [.int 0, .ref gr, .ref gt, .ref gw, .ref gk, .ref gi, .ref gp, .ref go, .ref gg, .ref hm])), (gk, .inl (d10, 360, .inl fk)), (gi, .inl (d11, 360, .inl (fun _ => 0))), (gp, .inl (d12, 360, .inl (fun _ => 0))), (go, .inl (d13, 360, .inl (fun _ => 0)))] := hD
              refine W.widen (k := (cc133 + 6)) (n := (ss133 + 36)) (by omega) (by omega) ?_
              obtain rfl := hr121
              refine lv_i2l (v := 0) hx hb dX3_digest_169 (by first | rfl | decide) ?_
              refine lv_ladd hx hb dX3_digest_170 ?_
              refine lv_topl (fun w122 ew122 => ?_)
              refine lv_lstore_n (lv' := [(1, .long w122), (6, .int 5), (0, .ref hm), (3, .int (nI i)), (4, .int (nI j)), (5, .int (nI k))]) hx hb dX3_digest_171 rfl hl (by decide) rfl (fun ls hl => ?_)
              refine lv_iinc (v := 6) (lv' := [(6, .int 6), (1, .long w122), (0, .ref hm), (3, .int (nI i)), (4, .int (nI j)), (5, .int (nI k))]) hx hb dX3_digest_172 hl (k := 1) rfl (by decide) (by decide) rfl (fun ls hl => ?_)
              refine lv_goto (tgt := 147) hx hb dX3_digest_175 (by decide) ?_
              refine lv_iload hx hb dX3_digest_147 (lv_at hl 0 rfl) ?_
              refine lv_iconst (v := 5) hx hb dX3_digest_149 (by decide) ?_
              refine lv_icmp_gt (tgt := 178) hx hb dX3_digest_150 (by decide) (fun c123 => ?_) (fun c123 => absurd c123 (by decide))
              refine lv_iinc (v := nI (k + 1)) (lv' := [(5, .int (nI (k + 1))), (6, .int 6), (1, .long w122), (0, .ref hm), (3, .int (nI i)), (4, .int (nI j))]) hx hb dX3_digest_178 hl (k := 5) rfl (by exact nI_1 k) (by decide) rfl (fun ls hl => ?_)
              refine lv_goto (tgt := 133) hx hb dX3_digest_181 (by decide) ?_
              exact ih133 _ _ _ (k + 1) w122 (by omega) (by omega) (by omega) (by omega) (by rw [ew122, ew120, ew118, ew116, ew114, ew112, ew110, ew108, ew106, ew104, ew102, ew100, hdc]; rfl) (by omega) _ _ (hP.sub [13, 14, 0, 1, 2, 9, 10, 3, 4, 5, 6, 7, 8, 11, 12] rfl) (hD.sub [13, 14, 0, 1, 2, 9, 10, 3, 4, 5, 6, 7, 8, 11, 12] (by decide) rfl) hS hZ _ (lv_sub hl [3, 2, 4, 5, 0] rfl)

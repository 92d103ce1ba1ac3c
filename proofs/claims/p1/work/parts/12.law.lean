set_option maxHeartbeats 8000000 in
set_option maxRecDepth 100000 in
/-- THE LAW, from its entry: the script holds one call at the most -/
theorem whole_start {p : Program} {e : Env} {s : State} {m : MethodId} {below : List Frame} {meth : Method} {c : Code} (l : Launch) (hflags : l.flags = flags0) {b L : Nat} {xs : Nat → Int32} (hL : L ≤ 7) (C0 : lw_At p s m meth c b L xs) : W p l e room_1 s m #[Value.ref b] below meth c s.heap [] 0 0 (lw_Z below #[Value.ref b] s) (entryFrame m ([Value.ref b] : List Value).toArray 9) := by
  obtain ⟨hx, hb, hr, hml, hown, hts0, hX, hbl, hlocks, hgv⟩ := id C0
  have hst : l.stackTraces = false := by unfold Launch.stackTraces; rw [hflags]; decide
  have hZX := zX_start hts0 hgv
  have hZN := zNs_start hts0
  have hts : ∀ w ∈ wsL_law, w.before #[Value.ref b] s = true := fun w h => hts0 w (wsL_law_in w h)
  obtain ⟨A, hAe⟩ : ∃ A : Nat → Prop, A = fun q : Nat => s.heap.size ≤ q := ⟨_, rfl⟩
  have hA : ∀ q : Nat, s.heap.size ≤ q → A q := fun q h => by rw [hAe]; exact h
  have hAs : ∀ q : Nat, A q → s.heap.size ≤ q := fun q h => by rw [hAe] at h; exact h
  have hbA : ¬ A b := fun h => absurd (hAs b h) (Nat.not_le.mpr hbl)
  have hZT : zTh A s s.heap := zTh_start hts0 hgv (fun a ha h => absurd (hAs a h) (Nat.not_le.mpr ha))
  obtain ⟨dC, dI, hKc⟩ := zK_start hts0
  have hS : va_S A s.heap s.heap [] := va_S.rf
  have hK : va_K (dC, dI) vwCl [] s := ⟨hKc, fun k q h => by simp at h⟩
  have hP : va_P (dC, dI) vwCl [] s.heap := fun k q h => by simp at h
  have hD : va_D A [] := ⟨fun i j p q h => by simp at h, fun k q h => by simp at h⟩
  have hl := lv_entry ([.ref b]) (n := 9) (Nat.le_of_ble_eq_true rfl)
  rw [lg_entry_eq]
  generalize (lg_sl ([.ref b]) ++ List.replicate (9 - (lg_sl ([.ref b])).length) Slot.unset).toArray = ls at hl ⊢
  have hl : lv_has ls 9 [(0, .ref b)] := hl
  refine va_new (ci := 1) (fs := [.null, .int 0, .null, .null, .null, .int 0, .null]) (C := RX1) (T := TX1) (N := 7) hx hb hts (by decide +kernel) tyX1 tyX1_ok hown (hts (.classLink RL 8 RX1) (by decide +kernel)) (hts (.instantiable RX1 7) (by decide +kernel)) (hts (.initialized RX1) (by decide +kernel)) hK hP hD hS hA rfl (fun j hj => by rcases (show j = 0 ∨ j = 1 ∨ j = 2 ∨ j = 3 ∨ j = 4 ∨ j = 5 ∨ j = 6 by omega) with rfl | rfl | rfl | rfl | rfl | rfl | rfl <;> rfl) (Nat.le_of_ble_eq_true rfl) (Nat.le_of_ble_eq_true rfl) dL_law_0 (fun q1 H hP hD hS => ?_)
  refine W.widen (k := 1) (n := 7) (Nat.le_of_ble_eq_true rfl) (Nat.le_of_ble_eq_true rfl) ?_
  have hP : va_P (dC, dI) vwCl [(q1, .inr (1, [.null, .int 0, .null, .null, .null, .int 0, .null]))] H := hP
  have hD : va_D A [(q1, .inr (1, [.null, .int 0, .null, .null, .null, .int 0, .null]))] := hD
  refine lv_dup hx hb dL_law_3 rfl ?_
  have hPc := hP.sub (ws' := [(q1, .inr (1, [.null, .int 0, .null, .null, .null, .int 0, .null]))]) [0] rfl
  have hKc := hK.sub (tys' := []) [] rfl
  have hDc := hD.sub (ws' := [(q1, .inr (1, [.null, .int 0, .null, .null, .null, .int 0, .null]))]) [0] (by decide) rfl
  have hFc := va_free (wc := [(q1, .inr (1, [.null, .int 0, .null, .null, .null, .int 0, .null]))]) hD hS hA [0] rfl
  refine va_callv (va_runI (As := []) (rest := [.ref q1]) ⟨hx, hb, hml, hown, hts⟩ (k1_init l hst dC dI H.size q1 ) (cwI 0 hts gL_law_X1_init rfl rfl rfl (hts (.initialized RX1) (by decide +kernel)) (hts (.methodLink RL 69 yX1_init) (by decide +kernel)) (hts (.instanceMethod yX1_init) (by decide +kernel)) rfl (by decide +kernel) ⟨Nat.le_of_ble_eq_true rfl, Nat.le_of_ble_eq_true rfl⟩) ⟨fun a U g mk q => by obtain ⟨q0, q1, qP, qK, qD, qX, qT⟩ := q; exact ⟨q0, q1, qP, va_K.moved (u := U) (U := U.calling g mk a) (Vm.Alike.refl U.vm) qK, qD, zX.calling qX, zTh.calling qT⟩, fun U hU hW => ⟨rfl, by rw [hU], by rw [hU]; exact hPc, va_K.moved hW.alike hKc, hDc.weaken (fun _ _ _ _ => trivial), zX.warm hW hZX, by rw [hU]; exact zTh.at hW hZT hS hFc⟩⟩ rfl rfl hl.1 rfl (lv_room (Nat.le_of_ble_eq_true rfl)) dL_law_4 ⟨Nat.le_of_ble_eq_true rfl, Nat.le_of_ble_eq_true rfl⟩) hS (fun q _ h => hFc q h) hFc (fun u t H1 locs ht hvm hr2 hB hz1 hk1 hS => ?_)
  obtain ⟨ro_3, ba_4, ra_5, su_6, tr_7, cR_8, cB_9, cA_10, cS_11, fr_12⟩ := u
  obtain ⟨hP1, hK1, hD1⟩ := hB
  rw [ht] at hP1
  have hK1 := va_K.moved hvm.symm hK1
  try dsimp only at hr2
  obtain ⟨hP, hD⟩ := va_join (wr := []) (w1 := [(q1, .inr (1, [.ref ro_3, .int 0, .ref ba_4, .ref ra_5, .ref su_6, .int 0, .ref tr_7])), (ro_3, .inl (cR_8, 6, .inr (.inr (.inr (.inr (fun _ => none)))))), (ba_4, .inl (cB_9, 3, .inl (fun _ => 0))), (ra_5, .inl (cA_10, 12, .inl fr_12)), (su_6, .inl (cS_11, 12, .inl (fun _ => 0)))]) hP hD [0] [] rfl rfl (by decide) (by decide) hk1 hFc hP1 hD1
  have hK := hK.app hK1
  have hK : va_K (dC, dI) vwCl [(cR_8, .object RX0), (cB_9, .int), (cA_10, .int), (cS_11, .int)] s := hK
  generalize H1 = H at hP hS ⊢
  have hP : va_P (dC, dI) vwCl [(q1, .inr (1, [.ref ro_3, .int 0, .ref ba_4, .ref ra_5, .ref su_6, .int 0, .ref tr_7])), (ro_3, .inl (cR_8, 6, .inr (.inr (.inr (.inr (fun _ => none)))))), (ba_4, .inl (cB_9, 3, .inl (fun _ => 0))), (ra_5, .inl (cA_10, 12, .inl fr_12)), (su_6, .inl (cS_11, 12, .inl (fun _ => 0)))] H := hP
  have hD : va_D A [(q1, .inr (1, [.ref ro_3, .int 0, .ref ba_4, .ref ra_5, .ref su_6, .int 0, .ref tr_7])), (ro_3, .inl (cR_8, 6, .inr (.inr (.inr (.inr (fun _ => none)))))), (ba_4, .inl (cB_9, 3, .inl (fun _ => 0))), (ra_5, .inl (cA_10, 12, .inl fr_12)), (su_6, .inl (cS_11, 12, .inl (fun _ => 0)))] := hD
  refine W.widen (k := 10) (n := 290) (Nat.le_of_ble_eq_true rfl) (Nat.le_of_ble_eq_true rfl) ?_
  obtain fr2_0_0 := hr2
  refine lv_astore_n (lv' := [(1, .ref q1), (0, .ref b)]) hx hb dL_law_7 rfl hl (by decide) rfl (fun ls hl => ?_)
  refine va_new (ci := 3) (fs := [.int 0, .int 0, .null, .null, .null, .null, .null, .null, .null, .null]) (C := RX3) (T := TX3) (N := 10) hx hb hts (by decide +kernel) tyX3 tyX3_ok hown (hts (.classLink RL 70 RX3) (by decide +kernel)) (hts (.instantiable RX3 10) (by decide +kernel)) (hts (.initialized RX3) (by decide +kernel)) hK hP hD hS hA rfl (fun j hj => by rcases (show j = 0 ∨ j = 1 ∨ j = 2 ∨ j = 3 ∨ j = 4 ∨ j = 5 ∨ j = 6 ∨ j = 7 ∨ j = 8 ∨ j = 9 by omega) with rfl | rfl | rfl | rfl | rfl | rfl | rfl | rfl | rfl | rfl <;> rfl) (Nat.le_of_ble_eq_true rfl) (Nat.le_of_ble_eq_true rfl) dL_law_8 (fun q13 H hP hD hS => ?_)
  refine W.widen (k := 11) (n := 300) (Nat.le_of_ble_eq_true rfl) (Nat.le_of_ble_eq_true rfl) ?_
  have hP : va_P (dC, dI) vwCl [(q1, .inr (1, [.ref ro_3, .int 0, .ref ba_4, .ref ra_5, .ref su_6, .int 0, .ref tr_7])), (ro_3, .inl (cR_8, 6, .inr (.inr (.inr (.inr (fun _ => none)))))), (ba_4, .inl (cB_9, 3, .inl (fun _ => 0))), (ra_5, .inl (cA_10, 12, .inl fr_12)), (su_6, .inl (cS_11, 12, .inl (fun _ => 0))), (q13, .inr (3, [.int 0, .int 0, .null, .null, .null, .null, .null, .null, .null, .null]))] H := hP
  have hD : va_D A [(q1, .inr (1, [.ref ro_3, .int 0, .ref ba_4, .ref ra_5, .ref su_6, .int 0, .ref tr_7])), (ro_3, .inl (cR_8, 6, .inr (.inr (.inr (.inr (fun _ => none)))))), (ba_4, .inl (cB_9, 3, .inl (fun _ => 0))), (ra_5, .inl (cA_10, 12, .inl fr_12)), (su_6, .inl (cS_11, 12, .inl (fun _ => 0))), (q13, .inr (3, [.int 0, .int 0, .null, .null, .null, .null, .null, .null, .null, .null]))] := hD
  refine lv_dup hx hb dL_law_11 rfl ?_
  have hPc := hP.sub (ws' := [(q13, .inr (3, [.int 0, .int 0, .null, .null, .null, .null, .null, .null, .null, .null]))]) [5] rfl
  have hKc := hK.sub (tys' := []) [] rfl
  have hDc := hD.sub (ws' := [(q13, .inr (3, [.int 0, .int 0, .null, .null, .null, .null, .null, .null, .null, .null]))]) [5] (by decide) rfl
  have hFc := va_free (wc := [(q13, .inr (3, [.int 0, .int 0, .null, .null, .null, .null, .null, .null, .null, .null]))]) hD hS hA [5] rfl
  refine va_callv (va_runI (As := []) (rest := [.ref q13]) ⟨hx, hb, hml, hown, hts⟩ (k3_init l dC dI H.size q13 ) (cwI 0 hts gL_law_X3_init rfl rfl rfl (hts (.initialized RX3) (by decide +kernel)) (hts (.methodLink RL 72 yX3_init) (by decide +kernel)) (hts (.instanceMethod yX3_init) (by decide +kernel)) rfl (by decide +kernel) ⟨Nat.le_of_ble_eq_true rfl, Nat.le_of_ble_eq_true rfl⟩) ⟨fun a U g mk q => by obtain ⟨q0, q1, qP, qK, qD⟩ := q; exact ⟨q0, q1, qP, va_K.moved (u := U) (U := U.calling g mk a) (Vm.Alike.refl U.vm) qK, qD⟩, fun U hU hW => ⟨rfl, by rw [hU], by rw [hU]; exact hPc, va_K.moved hW.alike hKc, hDc.weaken (fun _ _ _ _ => trivial)⟩⟩ rfl rfl hl.1 rfl (lv_room (Nat.le_of_ble_eq_true rfl)) dL_law_12 ⟨Nat.le_of_ble_eq_true rfl, Nat.le_of_ble_eq_true rfl⟩) hS (fun q _ h => hFc q h) hFc (fun u t H1 locs ht hvm hr14 hB hz1 hk1 hS => ?_)
  obtain ⟨wi_15, co_16, sl_17, rn_18, so_19, bn_20, sm_21, ah_22, gr_23, gt_24, gw_25, gk_26, gi_27, gp_28, go_29, gg_30, d_31, d_32, d_33, d_34, d_35, d_36, d_37, fn_38⟩ := u
  obtain ⟨hP1, hK1, hD1⟩ := hB
  rw [ht] at hP1
  have hK1 := va_K.moved hvm.symm hK1
  try dsimp only at hr14
  obtain ⟨hP, hD⟩ := va_join (wr := [(q1, .inr (1, [.ref ro_3, .int 0, .ref ba_4, .ref ra_5, .ref su_6, .int 0, .ref tr_7])), (ro_3, .inl (cR_8, 6, .inr (.inr (.inr (.inr (fun _ => none)))))), (ba_4, .inl (cB_9, 3, .inl (fun _ => 0))), (ra_5, .inl (cA_10, 12, .inl fr_12)), (su_6, .inl (cS_11, 12, .inl (fun _ => 0)))]) (w1 := [(q13, .inr (3, [.int 0, .int 0, .ref wi_15, .ref co_16, .ref sl_17, .ref rn_18, .ref so_19, .ref bn_20, .ref sm_21, .ref ah_22])), (sm_21, .inr (2, [.int 0, .ref gr_23, .ref gt_24, .ref gw_25, .ref gk_26, .ref gi_27, .ref gp_28, .ref go_29, .ref gg_30, .ref q13])), (wi_15, .inl (d_31, 6, .inl (fun _ => 0))), (co_16, .inl (d_32, 6, .inl (fun _ => 0))), (sl_17, .inl (d_33, 6, .inl (fun _ => 0))), (gr_23, .inl (d_34, 6, .inl (fun _ => 0))), (bn_20, .inl (d_35, 3, .inl (fun _ => 0))), (rn_18, .inl (d_36, 12, .inl fn_38)), (so_19, .inl (d_37, 12, .inl (fun _ => 0)))]) hP hD [5] [0, 1, 2, 3, 4] rfl rfl (by decide) (by decide) hk1 hFc hP1 hD1
  have hK := hK.app hK1
  have hK : va_K (dC, dI) vwCl [(cR_8, .object RX0), (cB_9, .int), (cA_10, .int), (cS_11, .int), (d_31, .int), (d_32, .int), (d_33, .int), (d_34, .int), (d_35, .int), (d_36, .int), (d_37, .int)] s := hK
  generalize H1 = H at hP hS ⊢
  have hP : va_P (dC, dI) vwCl [(q1, .inr (1, [.ref ro_3, .int 0, .ref ba_4, .ref ra_5, .ref su_6, .int 0, .ref tr_7])), (ro_3, .inl (cR_8, 6, .inr (.inr (.inr (.inr (fun _ => none)))))), (ba_4, .inl (cB_9, 3, .inl (fun _ => 0))), (ra_5, .inl (cA_10, 12, .inl fr_12)), (su_6, .inl (cS_11, 12, .inl (fun _ => 0))), (q13, .inr (3, [.int 0, .int 0, .ref wi_15, .ref co_16, .ref sl_17, .ref rn_18, .ref so_19, .ref bn_20, .ref sm_21, .ref ah_22])), (sm_21, .inr (2, [.int 0, .ref gr_23, .ref gt_24, .ref gw_25, .ref gk_26, .ref gi_27, .ref gp_28, .ref go_29, .ref gg_30, .ref q13])), (wi_15, .inl (d_31, 6, .inl (fun _ => 0))), (co_16, .inl (d_32, 6, .inl (fun _ => 0))), (sl_17, .inl (d_33, 6, .inl (fun _ => 0))), (gr_23, .inl (d_34, 6, .inl (fun _ => 0))), (bn_20, .inl (d_35, 3, .inl (fun _ => 0))), (rn_18, .inl (d_36, 12, .inl fn_38)), (so_19, .inl (d_37, 12, .inl (fun _ => 0)))] H := hP
  have hD : va_D A [(q1, .inr (1, [.ref ro_3, .int 0, .ref ba_4, .ref ra_5, .ref su_6, .int 0, .ref tr_7])), (ro_3, .inl (cR_8, 6, .inr (.inr (.inr (.inr (fun _ => none)))))), (ba_4, .inl (cB_9, 3, .inl (fun _ => 0))), (ra_5, .inl (cA_10, 12, .inl fr_12)), (su_6, .inl (cS_11, 12, .inl (fun _ => 0))), (q13, .inr (3, [.int 0, .int 0, .ref wi_15, .ref co_16, .ref sl_17, .ref rn_18, .ref so_19, .ref bn_20, .ref sm_21, .ref ah_22])), (sm_21, .inr (2, [.int 0, .ref gr_23, .ref gt_24, .ref gw_25, .ref gk_26, .ref gi_27, .ref gp_28, .ref go_29, .ref gg_30, .ref q13])), (wi_15, .inl (d_31, 6, .inl (fun _ => 0))), (co_16, .inl (d_32, 6, .inl (fun _ => 0))), (sl_17, .inl (d_33, 6, .inl (fun _ => 0))), (gr_23, .inl (d_34, 6, .inl (fun _ => 0))), (bn_20, .inl (d_35, 3, .inl (fun _ => 0))), (rn_18, .inl (d_36, 12, .inl fn_38)), (so_19, .inl (d_37, 12, .inl (fun _ => 0)))] := hD
  refine W.widen (k := 35) (n := 3401) (Nat.le_of_ble_eq_true rfl) (Nat.le_of_ble_eq_true rfl) ?_
  obtain fr14_0_0 := hr14
  refine lv_astore_n (lv' := [(2, .ref q13), (1, .ref q1), (0, .ref b)]) hx hb dL_law_15 rfl hl (by decide) rfl (fun ls hl => ?_)
  refine lv_iconst (v := 1) hx hb dL_law_16 (by decide) ?_
  refine va_newa (atype := .long) (ty := .long) (N' := 1) (a0 := (1, .inr (.inl (fun _ => 0)))) hx hb (hts (.arrayClass .long) (by decide +kernel)) rfl hK hP hD hS hA (fun _ => rfl) (by decide) (by decide) (by decide) (Nat.le_of_ble_eq_true rfl) (Nat.le_of_ble_eq_true rfl) dL_law_17 (fun q39 cA40 H hK hP hD hS => ?_)
  refine W.widen (k := 36) (n := 3402) (Nat.le_of_ble_eq_true rfl) (Nat.le_of_ble_eq_true rfl) ?_
  have hK : va_K (dC, dI) vwCl [(cR_8, .object RX0), (cB_9, .int), (cA_10, .int), (cS_11, .int), (d_31, .int), (d_32, .int), (d_33, .int), (d_34, .int), (d_35, .int), (d_36, .int), (d_37, .int), (cA40, .long)] s := hK
  have hP : va_P (dC, dI) vwCl [(q1, .inr (1, [.ref ro_3, .int 0, .ref ba_4, .ref ra_5, .ref su_6, .int 0, .ref tr_7])), (ro_3, .inl (cR_8, 6, .inr (.inr (.inr (.inr (fun _ => none)))))), (ba_4, .inl (cB_9, 3, .inl (fun _ => 0))), (ra_5, .inl (cA_10, 12, .inl fr_12)), (su_6, .inl (cS_11, 12, .inl (fun _ => 0))), (q13, .inr (3, [.int 0, .int 0, .ref wi_15, .ref co_16, .ref sl_17, .ref rn_18, .ref so_19, .ref bn_20, .ref sm_21, .ref ah_22])), (sm_21, .inr (2, [.int 0, .ref gr_23, .ref gt_24, .ref gw_25, .ref gk_26, .ref gi_27, .ref gp_28, .ref go_29, .ref gg_30, .ref q13])), (wi_15, .inl (d_31, 6, .inl (fun _ => 0))), (co_16, .inl (d_32, 6, .inl (fun _ => 0))), (sl_17, .inl (d_33, 6, .inl (fun _ => 0))), (gr_23, .inl (d_34, 6, .inl (fun _ => 0))), (bn_20, .inl (d_35, 3, .inl (fun _ => 0))), (rn_18, .inl (d_36, 12, .inl fn_38)), (so_19, .inl (d_37, 12, .inl (fun _ => 0))), (q39, .inl (cA40, 1, .inr (.inl (fun _ => 0))))] H := hP
  have hD : va_D A [(q1, .inr (1, [.ref ro_3, .int 0, .ref ba_4, .ref ra_5, .ref su_6, .int 0, .ref tr_7])), (ro_3, .inl (cR_8, 6, .inr (.inr (.inr (.inr (fun _ => none)))))), (ba_4, .inl (cB_9, 3, .inl (fun _ => 0))), (ra_5, .inl (cA_10, 12, .inl fr_12)), (su_6, .inl (cS_11, 12, .inl (fun _ => 0))), (q13, .inr (3, [.int 0, .int 0, .ref wi_15, .ref co_16, .ref sl_17, .ref rn_18, .ref so_19, .ref bn_20, .ref sm_21, .ref ah_22])), (sm_21, .inr (2, [.int 0, .ref gr_23, .ref gt_24, .ref gw_25, .ref gk_26, .ref gi_27, .ref gp_28, .ref go_29, .ref gg_30, .ref q13])), (wi_15, .inl (d_31, 6, .inl (fun _ => 0))), (co_16, .inl (d_32, 6, .inl (fun _ => 0))), (sl_17, .inl (d_33, 6, .inl (fun _ => 0))), (gr_23, .inl (d_34, 6, .inl (fun _ => 0))), (bn_20, .inl (d_35, 3, .inl (fun _ => 0))), (rn_18, .inl (d_36, 12, .inl fn_38)), (so_19, .inl (d_37, 12, .inl (fun _ => 0))), (q39, .inl (cA40, 1, .inr (.inl (fun _ => 0))))] := hD
  refine lv_astore_n (lv' := [(3, .ref q39), (2, .ref q13), (1, .ref q1), (0, .ref b)]) hx hb dL_law_19 rfl hl (by decide) rfl (fun ls hl => ?_)
  refine lv_iconst (v := 0) hx hb dL_law_20 (by decide) ?_
  refine lv_istore (lv' := [(4, .int 0), (3, .ref q39), (2, .ref q13), (1, .ref q1), (0, .ref b)]) hx hb dL_law_21 hl (by decide) rfl (fun ls hl => ?_)
  refine lv_iload hx hb dL_law_23 (lv_at hl 0 rfl) ?_
  rcases (show L = 0 ∨ L = 1 ∨ L = 2 ∨ L = 3 ∨ L = 4 ∨ L = 5 ∨ L = 6 ∨ L = 7 by omega) with rfl | rfl | rfl | rfl | rfl | rfl | rfl | rfl
  · refine lv_aload_n hx hb dL_law_25 rfl (lv_at hl 4 rfl) ?_
    refine va_slen hx hb hX hbl hbA hS dL_law_26 ?_
    refine W.eq (g2 := F0 m 27 ls [.int 0, .int 0]) rfl ?_
    refine lv_bipush (v := 7) hx hb dL_law_27 (by decide) ?_
    refine lv_isub hx hb dL_law_29 ?_
    refine W.eq (g2 := F0 m 30 ls [.int (-7), .int 0]) rfl ?_
    refine lv_icmp_gt (tgt := 1387) hx hb dL_law_30 (by decide) (fun c41 => ?_) (fun c41 => absurd c41 (by decide))
    refine lv_iconst (v := 1) hx hb dL_law_1387 (by decide) ?_
    refine va_forget (fun q hq => hAs _ (hS.2.2 q hq)) ?_
    refine W.widen (k := 600002) (n := 7302232) (Nat.le_of_ble_eq_true rfl) (Nat.le_of_ble_eq_true rfl) ?_
    exact lw_ret (d0 := s.drawn) (Drawn.sameBut.refl s.drawn lw_cs) hx hb hr hlocks dL_law_1388
  · refine lv_aload_n hx hb dL_law_25 rfl (lv_at hl 4 rfl) ?_
    refine va_slen hx hb hX hbl hbA hS dL_law_26 ?_
    refine W.eq (g2 := F0 m 27 ls [.int 1, .int 0]) rfl ?_
    refine lv_bipush (v := 7) hx hb dL_law_27 (by decide) ?_
    refine lv_isub hx hb dL_law_29 ?_
    refine W.eq (g2 := F0 m 30 ls [.int (-6), .int 0]) rfl ?_
    refine lv_icmp_gt (tgt := 1387) hx hb dL_law_30 (by decide) (fun c42 => ?_) (fun c42 => absurd c42 (by decide))
    refine lv_iconst (v := 1) hx hb dL_law_1387 (by decide) ?_
    refine va_forget (fun q hq => hAs _ (hS.2.2 q hq)) ?_
    refine W.widen (k := 600002) (n := 7302232) (Nat.le_of_ble_eq_true rfl) (Nat.le_of_ble_eq_true rfl) ?_
    exact lw_ret (d0 := s.drawn) (Drawn.sameBut.refl s.drawn lw_cs) hx hb hr hlocks dL_law_1388
  · refine lv_aload_n hx hb dL_law_25 rfl (lv_at hl 4 rfl) ?_
    refine va_slen hx hb hX hbl hbA hS dL_law_26 ?_
    refine W.eq (g2 := F0 m 27 ls [.int 2, .int 0]) rfl ?_
    refine lv_bipush (v := 7) hx hb dL_law_27 (by decide) ?_
    refine lv_isub hx hb dL_law_29 ?_
    refine W.eq (g2 := F0 m 30 ls [.int (-5), .int 0]) rfl ?_
    refine lv_icmp_gt (tgt := 1387) hx hb dL_law_30 (by decide) (fun c43 => ?_) (fun c43 => absurd c43 (by decide))
    refine lv_iconst (v := 1) hx hb dL_law_1387 (by decide) ?_
    refine va_forget (fun q hq => hAs _ (hS.2.2 q hq)) ?_
    refine W.widen (k := 600002) (n := 7302232) (Nat.le_of_ble_eq_true rfl) (Nat.le_of_ble_eq_true rfl) ?_
    exact lw_ret (d0 := s.drawn) (Drawn.sameBut.refl s.drawn lw_cs) hx hb hr hlocks dL_law_1388
  · refine lv_aload_n hx hb dL_law_25 rfl (lv_at hl 4 rfl) ?_
    refine va_slen hx hb hX hbl hbA hS dL_law_26 ?_
    refine W.eq (g2 := F0 m 27 ls [.int 3, .int 0]) rfl ?_
    refine lv_bipush (v := 7) hx hb dL_law_27 (by decide) ?_
    refine lv_isub hx hb dL_law_29 ?_
    refine W.eq (g2 := F0 m 30 ls [.int (-4), .int 0]) rfl ?_
    refine lv_icmp_gt (tgt := 1387) hx hb dL_law_30 (by decide) (fun c44 => ?_) (fun c44 => absurd c44 (by decide))
    refine lv_iconst (v := 1) hx hb dL_law_1387 (by decide) ?_
    refine va_forget (fun q hq => hAs _ (hS.2.2 q hq)) ?_
    refine W.widen (k := 600002) (n := 7302232) (Nat.le_of_ble_eq_true rfl) (Nat.le_of_ble_eq_true rfl) ?_
    exact lw_ret (d0 := s.drawn) (Drawn.sameBut.refl s.drawn lw_cs) hx hb hr hlocks dL_law_1388
  · refine lv_aload_n hx hb dL_law_25 rfl (lv_at hl 4 rfl) ?_
    refine va_slen hx hb hX hbl hbA hS dL_law_26 ?_
    refine W.eq (g2 := F0 m 27 ls [.int 4, .int 0]) rfl ?_
    refine lv_bipush (v := 7) hx hb dL_law_27 (by decide) ?_
    refine lv_isub hx hb dL_law_29 ?_
    refine W.eq (g2 := F0 m 30 ls [.int (-3), .int 0]) rfl ?_
    refine lv_icmp_gt (tgt := 1387) hx hb dL_law_30 (by decide) (fun c45 => ?_) (fun c45 => absurd c45 (by decide))
    refine lv_iconst (v := 1) hx hb dL_law_1387 (by decide) ?_
    refine va_forget (fun q hq => hAs _ (hS.2.2 q hq)) ?_
    refine W.widen (k := 600002) (n := 7302232) (Nat.le_of_ble_eq_true rfl) (Nat.le_of_ble_eq_true rfl) ?_
    exact lw_ret (d0 := s.drawn) (Drawn.sameBut.refl s.drawn lw_cs) hx hb hr hlocks dL_law_1388
  · refine lv_aload_n hx hb dL_law_25 rfl (lv_at hl 4 rfl) ?_
    refine va_slen hx hb hX hbl hbA hS dL_law_26 ?_
    refine W.eq (g2 := F0 m 27 ls [.int 5, .int 0]) rfl ?_
    refine lv_bipush (v := 7) hx hb dL_law_27 (by decide) ?_
    refine lv_isub hx hb dL_law_29 ?_
    refine W.eq (g2 := F0 m 30 ls [.int (-2), .int 0]) rfl ?_
    refine lv_icmp_gt (tgt := 1387) hx hb dL_law_30 (by decide) (fun c46 => ?_) (fun c46 => absurd c46 (by decide))
    refine lv_iconst (v := 1) hx hb dL_law_1387 (by decide) ?_
    refine va_forget (fun q hq => hAs _ (hS.2.2 q hq)) ?_
    refine W.widen (k := 600002) (n := 7302232) (Nat.le_of_ble_eq_true rfl) (Nat.le_of_ble_eq_true rfl) ?_
    exact lw_ret (d0 := s.drawn) (Drawn.sameBut.refl s.drawn lw_cs) hx hb hr hlocks dL_law_1388
  · refine lv_aload_n hx hb dL_law_25 rfl (lv_at hl 4 rfl) ?_
    refine va_slen hx hb hX hbl hbA hS dL_law_26 ?_
    refine W.eq (g2 := F0 m 27 ls [.int 6, .int 0]) rfl ?_
    refine lv_bipush (v := 7) hx hb dL_law_27 (by decide) ?_
    refine lv_isub hx hb dL_law_29 ?_
    refine W.eq (g2 := F0 m 30 ls [.int (-1), .int 0]) rfl ?_
    refine lv_icmp_gt (tgt := 1387) hx hb dL_law_30 (by decide) (fun c47 => ?_) (fun c47 => absurd c47 (by decide))
    refine lv_iconst (v := 1) hx hb dL_law_1387 (by decide) ?_
    refine va_forget (fun q hq => hAs _ (hS.2.2 q hq)) ?_
    refine W.widen (k := 600002) (n := 7302232) (Nat.le_of_ble_eq_true rfl) (Nat.le_of_ble_eq_true rfl) ?_
    exact lw_ret (d0 := s.drawn) (Drawn.sameBut.refl s.drawn lw_cs) hx hb hr hlocks dL_law_1388
  · refine lv_aload_n hx hb dL_law_25 rfl (lv_at hl 4 rfl) ?_
    refine va_slen hx hb hX hbl hbA hS dL_law_26 ?_
    refine W.eq (g2 := F0 m 27 ls [.int 7, .int 0]) rfl ?_
    refine lv_bipush (v := 7) hx hb dL_law_27 (by decide) ?_
    refine lv_isub hx hb dL_law_29 ?_
    refine W.eq (g2 := F0 m 30 ls [.int 0, .int 0]) rfl ?_
    refine lv_icmp_gt (tgt := 1387) hx hb dL_law_30 (by decide) (fun c48 => absurd c48 (by decide)) (fun c48 => ?_)
    refine lv_aload_n hx hb dL_law_33 rfl (lv_at hl 4 rfl) ?_
    refine lv_iload hx hb dL_law_34 (lv_at hl 0 rfl) ?_
    refine va_sld hx hb hX hbl hbA hS (vp_in_nI (n := 0) (by decide) (by decide)) dL_law_36 ?_
    refine W.eq (g2 := F0 m 37 ls [.int (xs 0)]) rfl ?_
    refine lv_bipush (v := 31) hx hb dL_law_37 (by decide) ?_
    refine lv_iand hx hb dL_law_39 ?_
    refine lv_topi (fun x49 ex49 => ?_)
    obtain ⟨j, hj, hje⟩ := pk_andE (xs 0) (m := 31) 5 (by decide)
    rw [← ex49] at hje
    rcases (show j = 0 ∨ j = 1 ∨ j = 2 ∨ j = 3 ∨ j = 4 ∨ j = 5 ∨ j = 6 ∨ j = 7 ∨ j = 8 ∨ j = 9 ∨ j = 10 ∨ j = 11 ∨ j = 12 ∨ j = 13 ∨ j = 14 ∨ j = 15 ∨ j = 16 ∨ j = 17 ∨ 17 < j by omega) with rfl | rfl | rfl | rfl | rfl | rfl | rfl | rfl | rfl | rfl | rfl | rfl | rfl | rfl | rfl | rfl | rfl | rfl | hj2
    · rw [hje]
      -- case 0
      refine W.eq (g2 := F0 m 40 ls [.int 0]) rfl ?_
      refine lv_tableIn (off := 88) (tgt := 128) hx hb dL_law_40 (by decide) (by decide) (by rfl) (by decide) ?_
      refine lv_aload_n hx hb dL_law_128 rfl (lv_at hl 3 rfl) ?_
      refine lv_aload_n hx hb dL_law_129 rfl (lv_at hl 4 rfl) ?_
      refine lv_iload hx hb dL_law_130 (lv_at hl 0 rfl) ?_
      refine lv_iconst (v := 1) hx hb dL_law_132 (by decide) ?_
      refine lv_iadd hx hb dL_law_133 ?_
      refine W.eq (g2 := F0 m 134 ls [.int 1, .ref b, .ref q1]) rfl ?_
      refine va_sld hx hb hX hbl hbA hS (vp_in_nI (n := 1) (by decide) (by decide)) dL_law_134 ?_
      refine W.eq (g2 := F0 m 135 ls [.int (xs 1), .ref q1]) rfl ?_
      refine lv_aload_n hx hb dL_law_135 rfl (lv_at hl 4 rfl) ?_
      refine lv_iload hx hb dL_law_136 (lv_at hl 0 rfl) ?_
      refine lv_iconst (v := 2) hx hb dL_law_138 (by decide) ?_
      refine lv_iadd hx hb dL_law_139 ?_
      refine W.eq (g2 := F0 m 140 ls [.int 2, .ref b, .int (xs 1), .ref q1]) rfl ?_
      refine va_sld hx hb hX hbl hbA hS (vp_in_nI (n := 2) (by decide) (by decide)) dL_law_140 ?_
      refine W.eq (g2 := F0 m 141 ls [.int (xs 2), .int (xs 1), .ref q1]) rfl ?_
      refine lv_aload_n hx hb dL_law_141 rfl (lv_at hl 4 rfl) ?_
      refine lv_iload hx hb dL_law_142 (lv_at hl 0 rfl) ?_
      refine lv_iconst (v := 3) hx hb dL_law_144 (by decide) ?_
      refine lv_iadd hx hb dL_law_145 ?_
      refine W.eq (g2 := F0 m 146 ls [.int 3, .ref b, .int (xs 2), .int (xs 1), .ref q1]) rfl ?_
      refine va_sld hx hb hX hbl hbA hS (vp_in_nI (n := 3) (by decide) (by decide)) dL_law_146 ?_
      refine W.eq (g2 := F0 m 147 ls [.int (xs 3), .int (xs 2), .int (xs 1), .ref q1]) rfl ?_
      refine lv_aload_n hx hb dL_law_147 rfl (lv_at hl 1 rfl) ?_
      have hPc := hP.sub (ws' := [(q1, .inr (1, [.ref ro_3, .int 0, .ref ba_4, .ref ra_5, .ref su_6, .int 0, .ref tr_7])), (ro_3, .inl (cR_8, 6, .inr (.inr (.inr (.inr (fun _ => none)))))), (q39, .inl (cA40, 1, .inr (.inl (fun _ => 0))))]) [0, 1, 14] rfl
      have hKc := hK.sub (tys' := [(cR_8, .object RX0), (cA40, .long)]) [0, 11] rfl
      have hDc := hD.sub (ws' := [(q1, .inr (1, [.ref ro_3, .int 0, .ref ba_4, .ref ra_5, .ref su_6, .int 0, .ref tr_7])), (ro_3, .inl (cR_8, 6, .inr (.inr (.inr (.inr (fun _ => none)))))), (q39, .inl (cA40, 1, .inr (.inl (fun _ => 0))))]) [0, 1, 14] (by decide) rfl
      have hFc := va_free (wc := [(q1, .inr (1, [.ref ro_3, .int 0, .ref ba_4, .ref ra_5, .ref su_6, .int 0, .ref tr_7])), (ro_3, .inl (cR_8, 6, .inr (.inr (.inr (.inr (fun _ => none)))))), (q39, .inl (cA40, 1, .inr (.inl (fun _ => 0))))]) hD hS hA [0, 1, 14] rfl
      refine va_calli (vx_runSW (As := [.ref q1, .int (xs 1), .int (xs 2), .int (xs 3), .ref q39]) (rest := []) ⟨hx, hb, hml, hown, hts⟩ (kL_build l hst dC dI H.size q1 ro_3 ba_4 ra_5 su_6 tr_7 cR_8 q39 cA40 (fun _ => 0) (xs 1) (xs 2) (xs 3) ) (vx_cwSW 5 hts gL_law_L_build rfl rfl rfl (by decide +kernel) ⟨Nat.le_of_ble_eq_true rfl, Nat.le_of_ble_eq_true rfl⟩) ⟨fun a U g mk q => by obtain ⟨q0, q1, qP, qK, qD, qX, qT⟩ := q; exact ⟨q0, q1, qP, va_K.moved (u := U) (U := U.calling g mk a) (Vm.Alike.refl U.vm) qK, qD, zX.calling qX, zTh.calling qT⟩, fun U hU hW => ⟨rfl, by rw [hU], by rw [hU]; exact hPc, va_K.moved hW.alike hKc, hDc.weaken (fun _ _ _ _ => trivial), zX.warm hW hZX, by rw [hU]; exact zTh.at hW hZT hS hFc⟩⟩ rfl rfl hl.1 rfl (lv_room (Nat.le_of_ble_eq_true rfl)) dL_law_148 ⟨Nat.le_of_ble_eq_true rfl, Nat.le_of_ble_eq_true rfl⟩) hS (fun q _ h => hFc q h) hFc (fun r50 u t H1 locs ht hvm hr50 hB hz1 hk1 hS => ?_)
      obtain ⟨fo_51, rfl⟩ : ∃ z, z = u := ⟨_, rfl⟩
      obtain ⟨hP1, hK1, hD1⟩ := hB
      rw [ht] at hP1
      have hK1 := va_K.moved hvm.symm hK1
      try dsimp only at hr50
      obtain ⟨hP, hD⟩ := va_join (wr := [(ba_4, .inl (cB_9, 3, .inl (fun _ => 0))), (ra_5, .inl (cA_10, 12, .inl fr_12)), (su_6, .inl (cS_11, 12, .inl (fun _ => 0))), (q13, .inr (3, [.int 0, .int 0, .ref wi_15, .ref co_16, .ref sl_17, .ref rn_18, .ref so_19, .ref bn_20, .ref sm_21, .ref ah_22])), (sm_21, .inr (2, [.int 0, .ref gr_23, .ref gt_24, .ref gw_25, .ref gk_26, .ref gi_27, .ref gp_28, .ref go_29, .ref gg_30, .ref q13])), (wi_15, .inl (d_31, 6, .inl (fun _ => 0))), (co_16, .inl (d_32, 6, .inl (fun _ => 0))), (sl_17, .inl (d_33, 6, .inl (fun _ => 0))), (gr_23, .inl (d_34, 6, .inl (fun _ => 0))), (bn_20, .inl (d_35, 3, .inl (fun _ => 0))), (rn_18, .inl (d_36, 12, .inl fn_38)), (so_19, .inl (d_37, 12, .inl (fun _ => 0)))]) (w1 := [(q39, .inl (cA40, 1, .inr (.inl fo_51)))]) hP hD [0, 1, 14] [2, 3, 4, 5, 6, 7, 8, 9, 10, 11, 12, 13] rfl rfl (by decide) (by decide) hk1 hFc hP1 hD1
      generalize H1 = H at hP hS ⊢
      have hP : va_P (dC, dI) vwCl [(ba_4, .inl (cB_9, 3, .inl (fun _ => 0))), (ra_5, .inl (cA_10, 12, .inl fr_12)), (su_6, .inl (cS_11, 12, .inl (fun _ => 0))), (q13, .inr (3, [.int 0, .int 0, .ref wi_15, .ref co_16, .ref sl_17, .ref rn_18, .ref so_19, .ref bn_20, .ref sm_21, .ref ah_22])), (sm_21, .inr (2, [.int 0, .ref gr_23, .ref gt_24, .ref gw_25, .ref gk_26, .ref gi_27, .ref gp_28, .ref go_29, .ref gg_30, .ref q13])), (wi_15, .inl (d_31, 6, .inl (fun _ => 0))), (co_16, .inl (d_32, 6, .inl (fun _ => 0))), (sl_17, .inl (d_33, 6, .inl (fun _ => 0))), (gr_23, .inl (d_34, 6, .inl (fun _ => 0))), (bn_20, .inl (d_35, 3, .inl (fun _ => 0))), (rn_18, .inl (d_36, 12, .inl fn_38)), (so_19, .inl (d_37, 12, .inl (fun _ => 0))), (q39, .inl (cA40, 1, .inr (.inl fo_51)))] H := hP
      have hD : va_D A [(ba_4, .inl (cB_9, 3, .inl (fun _ => 0))), (ra_5, .inl (cA_10, 12, .inl fr_12)), (su_6, .inl (cS_11, 12, .inl (fun _ => 0))), (q13, .inr (3, [.int 0, .int 0, .ref wi_15, .ref co_16, .ref sl_17, .ref rn_18, .ref so_19, .ref bn_20, .ref sm_21, .ref ah_22])), (sm_21, .inr (2, [.int 0, .ref gr_23, .ref gt_24, .ref gw_25, .ref gk_26, .ref gi_27, .ref gp_28, .ref go_29, .ref gg_30, .ref q13])), (wi_15, .inl (d_31, 6, .inl (fun _ => 0))), (co_16, .inl (d_32, 6, .inl (fun _ => 0))), (sl_17, .inl (d_33, 6, .inl (fun _ => 0))), (gr_23, .inl (d_34, 6, .inl (fun _ => 0))), (bn_20, .inl (d_35, 3, .inl (fun _ => 0))), (rn_18, .inl (d_36, 12, .inl fn_38)), (so_19, .inl (d_37, 12, .inl (fun _ => 0))), (q39, .inl (cA40, 1, .inr (.inl fo_51)))] := hD
      refine W.widen (k := 41) (n := 3652) (Nat.le_of_ble_eq_true rfl) (Nat.le_of_ble_eq_true rfl) ?_
      rcases hr50 with ⟨rfl, fr50_0_0, fr50_0_1⟩ | ⟨rfl, fr50_1_0⟩
      · refine lv_istore (lv' := [(5, .int 0), (4, .int 0), (3, .ref q39), (2, .ref q13), (1, .ref q1), (0, .ref b)]) hx hb dL_law_151 hl (by decide) rfl (fun ls hl => ?_)
        refine lv_aload_n hx hb dL_law_153 rfl (lv_at hl 3 rfl) ?_
        refine lv_aload_n hx hb dL_law_154 rfl (lv_at hl 5 rfl) ?_
        refine lv_iload hx hb dL_law_155 (lv_at hl 1 rfl) ?_
        refine lv_iconst (v := 1) hx hb dL_law_157 (by decide) ?_
        refine lv_iadd hx hb dL_law_158 ?_
        refine W.eq (g2 := F0 m 159 ls [.int 1, .ref b, .ref q13]) rfl ?_
        refine va_sld hx hb hX hbl hbA hS (vp_in_nI (n := 1) (by decide) (by decide)) dL_law_159 ?_
        refine W.eq (g2 := F0 m 160 ls [.int (xs 1), .ref q13]) rfl ?_
        refine lv_aload_n hx hb dL_law_160 rfl (lv_at hl 5 rfl) ?_
        refine lv_iload hx hb dL_law_161 (lv_at hl 1 rfl) ?_
        refine lv_iconst (v := 2) hx hb dL_law_163 (by decide) ?_
        refine lv_iadd hx hb dL_law_164 ?_
        refine W.eq (g2 := F0 m 165 ls [.int 2, .ref b, .int (xs 1), .ref q13]) rfl ?_
        refine va_sld hx hb hX hbl hbA hS (vp_in_nI (n := 2) (by decide) (by decide)) dL_law_165 ?_
        refine W.eq (g2 := F0 m 166 ls [.int (xs 2), .int (xs 1), .ref q13]) rfl ?_
        refine lv_aload_n hx hb dL_law_166 rfl (lv_at hl 5 rfl) ?_
        refine lv_iload hx hb dL_law_167 (lv_at hl 1 rfl) ?_
        refine lv_iconst (v := 3) hx hb dL_law_169 (by decide) ?_
        refine lv_iadd hx hb dL_law_170 ?_
        refine W.eq (g2 := F0 m 171 ls [.int 3, .ref b, .int (xs 2), .int (xs 1), .ref q13]) rfl ?_
        refine va_sld hx hb hX hbl hbA hS (vp_in_nI (n := 3) (by decide) (by decide)) dL_law_171 ?_
        refine W.eq (g2 := F0 m 172 ls [.int (xs 3), .int (xs 2), .int (xs 1), .ref q13]) rfl ?_
        have hPc := hP.sub (ws' := [(q13, .inr (3, [.int 0, .int 0, .ref wi_15, .ref co_16, .ref sl_17, .ref rn_18, .ref so_19, .ref bn_20, .ref sm_21, .ref ah_22])), (sm_21, .inr (2, [.int 0, .ref gr_23, .ref gt_24, .ref gw_25, .ref gk_26, .ref gi_27, .ref gp_28, .ref go_29, .ref gg_30, .ref q13])), (wi_15, .inl (d_31, 6, .inl (fun _ => 0))), (co_16, .inl (d_32, 6, .inl (fun _ => 0))), (sl_17, .inl (d_33, 6, .inl (fun _ => 0))), (gr_23, .inl (d_34, 6, .inl (fun _ => 0)))]) [3, 4, 5, 6, 7, 8] rfl
        have hKc := hK.sub (tys' := [(d_31, .int), (d_32, .int), (d_33, .int), (d_34, .int)]) [4, 5, 6, 7] rfl
        have hDc := hD.sub (ws' := [(q13, .inr (3, [.int 0, .int 0, .ref wi_15, .ref co_16, .ref sl_17, .ref rn_18, .ref so_19, .ref bn_20, .ref sm_21, .ref ah_22])), (sm_21, .inr (2, [.int 0, .ref gr_23, .ref gt_24, .ref gw_25, .ref gk_26, .ref gi_27, .ref gp_28, .ref go_29, .ref gg_30, .ref q13])), (wi_15, .inl (d_31, 6, .inl (fun _ => 0))), (co_16, .inl (d_32, 6, .inl (fun _ => 0))), (sl_17, .inl (d_33, 6, .inl (fun _ => 0))), (gr_23, .inl (d_34, 6, .inl (fun _ => 0)))]) [3, 4, 5, 6, 7, 8] (by decide) rfl
        have hFc := va_free (wc := [(q13, .inr (3, [.int 0, .int 0, .ref wi_15, .ref co_16, .ref sl_17, .ref rn_18, .ref so_19, .ref bn_20, .ref sm_21, .ref ah_22])), (sm_21, .inr (2, [.int 0, .ref gr_23, .ref gt_24, .ref gw_25, .ref gk_26, .ref gi_27, .ref gp_28, .ref go_29, .ref gg_30, .ref q13])), (wi_15, .inl (d_31, 6, .inl (fun _ => 0))), (co_16, .inl (d_32, 6, .inl (fun _ => 0))), (sl_17, .inl (d_33, 6, .inl (fun _ => 0))), (gr_23, .inl (d_34, 6, .inl (fun _ => 0)))]) hD hS hA [3, 4, 5, 6, 7, 8] rfl
        refine va_calli (va_runV (As := [.int (xs 1), .int (xs 2), .int (xs 3)]) (rest := []) ⟨hx, hb, hml, hown, hts⟩ (k3_build l dC dI H.size q13 wi_15 co_16 sl_17 rn_18 so_19 bn_20 sm_21 ah_22 0 gr_23 gt_24 gw_25 gk_26 gi_27 gp_28 go_29 gg_30 q13 d_31 d_32 d_33 d_34 (xs 1) (xs 2) (xs 3) ) (cwV 3 hts gL_law_X3_build rfl rfl rfl (by decide +kernel) ⟨Nat.le_of_ble_eq_true rfl, Nat.le_of_ble_eq_true rfl⟩) ⟨fun a U g mk q => by obtain ⟨q0, q1, qP, qK, qD, qN⟩ := q; exact ⟨q0, q1, qP, va_K.moved (u := U) (U := U.calling g mk a) (Vm.Alike.refl U.vm) qK, qD, zNs.calling qN⟩, va_recv hKc hPc (ci := 3) (q0 := 0) rfl rfl, fun U hU hW => ⟨rfl, by rw [hU], by rw [hU]; exact hPc, va_K.moved hW.alike hKc, hDc.weaken (fun _ _ _ _ => trivial), zNs.warm hW hZN⟩⟩ rfl rfl hl.1 rfl (lv_room (Nat.le_of_ble_eq_true rfl)) dL_law_172 ⟨Nat.le_of_ble_eq_true rfl, Nat.le_of_ble_eq_true rfl⟩) hS (fun q _ h => hFc q h) hFc (fun r52 u t H1 locs ht hvm hr52 hB hz1 hk1 hS => ?_)
        obtain ⟨th_53, rf_54⟩ := u
        obtain ⟨hP1, hK1, hD1⟩ := hB
        rw [ht] at hP1
        have hK1 := va_K.moved hvm.symm hK1
        try dsimp only at hr52
        obtain ⟨hP, hD⟩ := va_join (wr := [(ba_4, .inl (cB_9, 3, .inl (fun _ => 0))), (ra_5, .inl (cA_10, 12, .inl fr_12)), (su_6, .inl (cS_11, 12, .inl (fun _ => 0))), (bn_20, .inl (d_35, 3, .inl (fun _ => 0))), (rn_18, .inl (d_36, 12, .inl fn_38)), (so_19, .inl (d_37, 12, .inl (fun _ => 0))), (q39, .inl (cA40, 1, .inr (.inl fo_51)))]) (w1 := [(q13, .inr (3, [.int th_53, .int rf_54, .ref wi_15, .ref co_16, .ref sl_17, .ref rn_18, .ref so_19, .ref bn_20, .ref sm_21, .ref ah_22]))]) hP hD [3, 4, 5, 6, 7, 8] [0, 1, 2, 9, 10, 11, 12] rfl rfl (by decide) (by decide) hk1 hFc hP1 hD1
        generalize H1 = H at hP hS ⊢
        have hP : va_P (dC, dI) vwCl [(ba_4, .inl (cB_9, 3, .inl (fun _ => 0))), (ra_5, .inl (cA_10, 12, .inl fr_12)), (su_6, .inl (cS_11, 12, .inl (fun _ => 0))), (bn_20, .inl (d_35, 3, .inl (fun _ => 0))), (rn_18, .inl (d_36, 12, .inl fn_38)), (so_19, .inl (d_37, 12, .inl (fun _ => 0))), (q39, .inl (cA40, 1, .inr (.inl fo_51))), (q13, .inr (3, [.int th_53, .int rf_54, .ref wi_15, .ref co_16, .ref sl_17, .ref rn_18, .ref so_19, .ref bn_20, .ref sm_21, .ref ah_22]))] H := hP
        have hD : va_D A [(ba_4, .inl (cB_9, 3, .inl (fun _ => 0))), (ra_5, .inl (cA_10, 12, .inl fr_12)), (su_6, .inl (cS_11, 12, .inl (fun _ => 0))), (bn_20, .inl (d_35, 3, .inl (fun _ => 0))), (rn_18, .inl (d_36, 12, .inl fn_38)), (so_19, .inl (d_37, 12, .inl (fun _ => 0))), (q39, .inl (cA40, 1, .inr (.inl fo_51))), (q13, .inr (3, [.int th_53, .int rf_54, .ref wi_15, .ref co_16, .ref sl_17, .ref rn_18, .ref so_19, .ref bn_20, .ref sm_21, .ref ah_22]))] := hD
        rcases hr52 with ⟨rfl, rfl, fr52_0_1⟩ | ⟨rfl, rfl, fr52_1_1⟩
        · refine lv_istore (lv' := [(6, .int 0), (5, .int 0), (4, .int 0), (3, .ref q39), (2, .ref q13), (1, .ref q1), (0, .ref b)]) hx hb dL_law_175 hl (by decide) rfl (fun ls hl => ?_)
          refine lv_aload_n hx hb dL_law_177 rfl (lv_at hl 4 rfl) ?_
          have hPc := hP.sub (ws' := [(q13, .inr (3, [.int 0, .int rf_54, .ref wi_15, .ref co_16, .ref sl_17, .ref rn_18, .ref so_19, .ref bn_20, .ref sm_21, .ref ah_22]))]) [7] rfl
          have hKc := hK.sub (tys' := []) [] rfl
          refine vp_callSi (va_runV (As := []) (rest := []) ⟨hx, hb, hml, hown, hts⟩ (k3_thrown l dC dI q13 wi_15 co_16 sl_17 rn_18 so_19 bn_20 sm_21 ah_22 0 rf_54 ) (cwV 0 hts gL_law_X3_thrown rfl rfl rfl (by decide +kernel) ⟨Nat.le_of_ble_eq_true rfl, Nat.le_of_ble_eq_true rfl⟩) ⟨fun a U g mk q => by obtain ⟨q0, qP, qK⟩ := q; exact ⟨q0, qP, va_K.moved (u := U) (U := U.calling g mk a) (Vm.Alike.refl U.vm) qK⟩, va_recv hKc hPc (ci := 3) (q0 := 0) rfl rfl, fun U hU hW => ⟨rfl, by rw [hU]; exact hPc, va_K.moved hW.alike hKc⟩⟩ rfl rfl hl.1 rfl (lv_room (Nat.le_of_ble_eq_true rfl)) dL_law_178 ⟨Nat.le_of_ble_eq_true rfl, Nat.le_of_ble_eq_true rfl⟩).run (fun r55 hr55 => ?_)
          obtain rfl := hr55
          refine lv_iload hx hb dL_law_181 (lv_at hl 1 rfl) ?_
          refine lv_icmp_eq (tgt := 188) hx hb dL_law_183 (by decide) (fun c56 => ?_) (fun c56 => absurd c56 (by decide))
          refine lv_iload hx hb dL_law_188 (lv_at hl 1 rfl) ?_
          refine lv_if_ne (tgt := 205) hx hb dL_law_190 (by decide) (fun c57 => absurd c57 (by decide)) (fun c57 => ?_)
          refine lv_aload_n hx hb dL_law_193 rfl (lv_at hl 3 rfl) ?_
          refine lv_iconst (v := 0) hx hb dL_law_194 (by decide) ?_
          refine va_lald hx hb hK hP 6 11 rfl rfl (vp_in_nI (n := 0) (by decide) (by decide)) dL_law_195 ?_
          refine lv_topl (fun w58 ew58 => ?_)
          refine lv_iload hx hb dL_law_196 (lv_at hl 0 rfl) ?_
          refine lv_i2l (v := 0) hx hb dL_law_198 (by first | rfl | decide) ?_
          refine W.lcmp hx hb dL_law_199 ?_
          refine lv_topi (fun x59 ex59 => ?_)
          refine lv_if_eq (tgt := 205) hx hb dL_law_200 (by decide) (fun c60 => ?_) (fun c60 => absurd (ex59.trans (zCmp (ew58.trans (by assumption)))) c60)
          refine lv_goto (tgt := 1381) hx hb dL_law_205 (by decide) ?_
          refine lv_iinc (v := 7) (lv' := [(4, .int 7), (6, .int 0), (5, .int 0), (3, .ref q39), (2, .ref q13), (1, .ref q1), (0, .ref b)]) hx hb dL_law_1381 hl (k := 2) rfl (by decide) (by decide) rfl (fun ls hl => ?_)
          refine lv_goto (tgt := 23) hx hb dL_law_1384 (by decide) ?_
          refine lv_iload hx hb dL_law_23 (lv_at hl 0 rfl) ?_
          refine lv_aload_n hx hb dL_law_25 rfl (lv_at hl 6 rfl) ?_
          refine va_slen hx hb hX hbl hbA hS dL_law_26 ?_
          refine W.eq (g2 := F0 m 27 ls [.int 7, .int 7]) rfl ?_
          refine lv_bipush (v := 7) hx hb dL_law_27 (by decide) ?_
          refine lv_isub hx hb dL_law_29 ?_
          refine W.eq (g2 := F0 m 30 ls [.int 0, .int 7]) rfl ?_
          refine lv_icmp_gt (tgt := 1387) hx hb dL_law_30 (by decide) (fun c61 => ?_) (fun c61 => absurd c61 (by decide))
          refine lv_iconst (v := 1) hx hb dL_law_1387 (by decide) ?_
          refine va_forget (fun q hq => hAs _ (hS.2.2 q hq)) ?_
          refine W.widen (k := 600002) (n := 7302232) (Nat.le_of_ble_eq_true rfl) (Nat.le_of_ble_eq_true rfl) ?_
          exact lw_ret (d0 := s.drawn) (Drawn.sameBut.refl s.drawn lw_cs) hx hb hr hlocks dL_law_1388
        · refine lv_istore (lv' := [(6, .int 0), (5, .int 0), (4, .int 0), (3, .ref q39), (2, .ref q13), (1, .ref q1), (0, .ref b)]) hx hb dL_law_175 hl (by decide) rfl (fun ls hl => ?_)
          refine lv_aload_n hx hb dL_law_177 rfl (lv_at hl 4 rfl) ?_
          have hPc := hP.sub (ws' := [(q13, .inr (3, [.int 1, .int rf_54, .ref wi_15, .ref co_16, .ref sl_17, .ref rn_18, .ref so_19, .ref bn_20, .ref sm_21, .ref ah_22]))]) [7] rfl
          have hKc := hK.sub (tys' := []) [] rfl
          refine vp_callSi (va_runV (As := []) (rest := []) ⟨hx, hb, hml, hown, hts⟩ (k3_thrown l dC dI q13 wi_15 co_16 sl_17 rn_18 so_19 bn_20 sm_21 ah_22 1 rf_54 ) (cwV 0 hts gL_law_X3_thrown rfl rfl rfl (by decide +kernel) ⟨Nat.le_of_ble_eq_true rfl, Nat.le_of_ble_eq_true rfl⟩) ⟨fun a U g mk q => by obtain ⟨q0, qP, qK⟩ := q; exact ⟨q0, qP, va_K.moved (u := U) (U := U.calling g mk a) (Vm.Alike.refl U.vm) qK⟩, va_recv hKc hPc (ci := 3) (q0 := 0) rfl rfl, fun U hU hW => ⟨rfl, by rw [hU]; exact hPc, va_K.moved hW.alike hKc⟩⟩ rfl rfl hl.1 rfl (lv_room (Nat.le_of_ble_eq_true rfl)) dL_law_178 ⟨Nat.le_of_ble_eq_true rfl, Nat.le_of_ble_eq_true rfl⟩).run (fun r62 hr62 => ?_)
          obtain rfl := hr62
          refine lv_iload hx hb dL_law_181 (lv_at hl 1 rfl) ?_
          refine lv_icmp_eq (tgt := 188) hx hb dL_law_183 (by decide) (fun c63 => absurd c63 (by decide)) (fun c63 => ?_)
          refine lv_iconst (v := 0) hx hb dL_law_186 (by decide) ?_
          exact (by first | contradiction | (simp_all; done) | grind : False).elim
      · refine lv_istore (lv' := [(5, .int 1), (4, .int 0), (3, .ref q39), (2, .ref q13), (1, .ref q1), (0, .ref b)]) hx hb dL_law_151 hl (by decide) rfl (fun ls hl => ?_)
        refine lv_aload_n hx hb dL_law_153 rfl (lv_at hl 3 rfl) ?_
        refine lv_aload_n hx hb dL_law_154 rfl (lv_at hl 5 rfl) ?_
        refine lv_iload hx hb dL_law_155 (lv_at hl 1 rfl) ?_
        refine lv_iconst (v := 1) hx hb dL_law_157 (by decide) ?_
        refine lv_iadd hx hb dL_law_158 ?_
        refine W.eq (g2 := F0 m 159 ls [.int 1, .ref b, .ref q13]) rfl ?_
        refine va_sld hx hb hX hbl hbA hS (vp_in_nI (n := 1) (by decide) (by decide)) dL_law_159 ?_
        refine W.eq (g2 := F0 m 160 ls [.int (xs 1), .ref q13]) rfl ?_
        refine lv_aload_n hx hb dL_law_160 rfl (lv_at hl 5 rfl) ?_
        refine lv_iload hx hb dL_law_161 (lv_at hl 1 rfl) ?_
        refine lv_iconst (v := 2) hx hb dL_law_163 (by decide) ?_
        refine lv_iadd hx hb dL_law_164 ?_
        refine W.eq (g2 := F0 m 165 ls [.int 2, .ref b, .int (xs 1), .ref q13]) rfl ?_
        refine va_sld hx hb hX hbl hbA hS (vp_in_nI (n := 2) (by decide) (by decide)) dL_law_165 ?_
        refine W.eq (g2 := F0 m 166 ls [.int (xs 2), .int (xs 1), .ref q13]) rfl ?_
        refine lv_aload_n hx hb dL_law_166 rfl (lv_at hl 5 rfl) ?_
        refine lv_iload hx hb dL_law_167 (lv_at hl 1 rfl) ?_
        refine lv_iconst (v := 3) hx hb dL_law_169 (by decide) ?_
        refine lv_iadd hx hb dL_law_170 ?_
        refine W.eq (g2 := F0 m 171 ls [.int 3, .ref b, .int (xs 2), .int (xs 1), .ref q13]) rfl ?_
        refine va_sld hx hb hX hbl hbA hS (vp_in_nI (n := 3) (by decide) (by decide)) dL_law_171 ?_
        refine W.eq (g2 := F0 m 172 ls [.int (xs 3), .int (xs 2), .int (xs 1), .ref q13]) rfl ?_
        have hPc := hP.sub (ws' := [(q13, .inr (3, [.int 0, .int 0, .ref wi_15, .ref co_16, .ref sl_17, .ref rn_18, .ref so_19, .ref bn_20, .ref sm_21, .ref ah_22])), (sm_21, .inr (2, [.int 0, .ref gr_23, .ref gt_24, .ref gw_25, .ref gk_26, .ref gi_27, .ref gp_28, .ref go_29, .ref gg_30, .ref q13])), (wi_15, .inl (d_31, 6, .inl (fun _ => 0))), (co_16, .inl (d_32, 6, .inl (fun _ => 0))), (sl_17, .inl (d_33, 6, .inl (fun _ => 0))), (gr_23, .inl (d_34, 6, .inl (fun _ => 0)))]) [3, 4, 5, 6, 7, 8] rfl
        have hKc := hK.sub (tys' := [(d_31, .int), (d_32, .int), (d_33, .int), (d_34, .int)]) [4, 5, 6, 7] rfl
        have hDc := hD.sub (ws' := [(q13, .inr (3, [.int 0, .int 0, .ref wi_15, .ref co_16, .ref sl_17, .ref rn_18, .ref so_19, .ref bn_20, .ref sm_21, .ref ah_22])), (sm_21, .inr (2, [.int 0, .ref gr_23, .ref gt_24, .ref gw_25, .ref gk_26, .ref gi_27, .ref gp_28, .ref go_29, .ref gg_30, .ref q13])), (wi_15, .inl (d_31, 6, .inl (fun _ => 0))), (co_16, .inl (d_32, 6, .inl (fun _ => 0))), (sl_17, .inl (d_33, 6, .inl (fun _ => 0))), (gr_23, .inl (d_34, 6, .inl (fun _ => 0)))]) [3, 4, 5, 6, 7, 8] (by decide) rfl
        have hFc := va_free (wc := [(q13, .inr (3, [.int 0, .int 0, .ref wi_15, .ref co_16, .ref sl_17, .ref rn_18, .ref so_19, .ref bn_20, .ref sm_21, .ref ah_22])), (sm_21, .inr (2, [.int 0, .ref gr_23, .ref gt_24, .ref gw_25, .ref gk_26, .ref gi_27, .ref gp_28, .ref go_29, .ref gg_30, .ref q13])), (wi_15, .inl (d_31, 6, .inl (fun _ => 0))), (co_16, .inl (d_32, 6, .inl (fun _ => 0))), (sl_17, .inl (d_33, 6, .inl (fun _ => 0))), (gr_23, .inl (d_34, 6, .inl (fun _ => 0)))]) hD hS hA [3, 4, 5, 6, 7, 8] rfl
        refine va_calli (va_runV (As := [.int (xs 1), .int (xs 2), .int (xs 3)]) (rest := []) ⟨hx, hb, hml, hown, hts⟩ (k3_build l dC dI H.size q13 wi_15 co_16 sl_17 rn_18 so_19 bn_20 sm_21 ah_22 0 gr_23 gt_24 gw_25 gk_26 gi_27 gp_28 go_29 gg_30 q13 d_31 d_32 d_33 d_34 (xs 1) (xs 2) (xs 3) ) (cwV 3 hts gL_law_X3_build rfl rfl rfl (by decide +kernel) ⟨Nat.le_of_ble_eq_true rfl, Nat.le_of_ble_eq_true rfl⟩) ⟨fun a U g mk q => by obtain ⟨q0, q1, qP, qK, qD, qN⟩ := q; exact ⟨q0, q1, qP, va_K.moved (u := U) (U := U.calling g mk a) (Vm.Alike.refl U.vm) qK, qD, zNs.calling qN⟩, va_recv hKc hPc (ci := 3) (q0 := 0) rfl rfl, fun U hU hW => ⟨rfl, by rw [hU], by rw [hU]; exact hPc, va_K.moved hW.alike hKc, hDc.weaken (fun _ _ _ _ => trivial), zNs.warm hW hZN⟩⟩ rfl rfl hl.1 rfl (lv_room (Nat.le_of_ble_eq_true rfl)) dL_law_172 ⟨Nat.le_of_ble_eq_true rfl, Nat.le_of_ble_eq_true rfl⟩) hS (fun q _ h => hFc q h) hFc (fun r64 u t H1 locs ht hvm hr64 hB hz1 hk1 hS => ?_)
        obtain ⟨th_65, rf_66⟩ := u
        obtain ⟨hP1, hK1, hD1⟩ := hB
        rw [ht] at hP1
        have hK1 := va_K.moved hvm.symm hK1
        try dsimp only at hr64
        obtain ⟨hP, hD⟩ := va_join (wr := [(ba_4, .inl (cB_9, 3, .inl (fun _ => 0))), (ra_5, .inl (cA_10, 12, .inl fr_12)), (su_6, .inl (cS_11, 12, .inl (fun _ => 0))), (bn_20, .inl (d_35, 3, .inl (fun _ => 0))), (rn_18, .inl (d_36, 12, .inl fn_38)), (so_19, .inl (d_37, 12, .inl (fun _ => 0))), (q39, .inl (cA40, 1, .inr (.inl fo_51)))]) (w1 := [(q13, .inr (3, [.int th_65, .int rf_66, .ref wi_15, .ref co_16, .ref sl_17, .ref rn_18, .ref so_19, .ref bn_20, .ref sm_21, .ref ah_22]))]) hP hD [3, 4, 5, 6, 7, 8] [0, 1, 2, 9, 10, 11, 12] rfl rfl (by decide) (by decide) hk1 hFc hP1 hD1
        generalize H1 = H at hP hS ⊢
        have hP : va_P (dC, dI) vwCl [(ba_4, .inl (cB_9, 3, .inl (fun _ => 0))), (ra_5, .inl (cA_10, 12, .inl fr_12)), (su_6, .inl (cS_11, 12, .inl (fun _ => 0))), (bn_20, .inl (d_35, 3, .inl (fun _ => 0))), (rn_18, .inl (d_36, 12, .inl fn_38)), (so_19, .inl (d_37, 12, .inl (fun _ => 0))), (q39, .inl (cA40, 1, .inr (.inl fo_51))), (q13, .inr (3, [.int th_65, .int rf_66, .ref wi_15, .ref co_16, .ref sl_17, .ref rn_18, .ref so_19, .ref bn_20, .ref sm_21, .ref ah_22]))] H := hP
        have hD : va_D A [(ba_4, .inl (cB_9, 3, .inl (fun _ => 0))), (ra_5, .inl (cA_10, 12, .inl fr_12)), (su_6, .inl (cS_11, 12, .inl (fun _ => 0))), (bn_20, .inl (d_35, 3, .inl (fun _ => 0))), (rn_18, .inl (d_36, 12, .inl fn_38)), (so_19, .inl (d_37, 12, .inl (fun _ => 0))), (q39, .inl (cA40, 1, .inr (.inl fo_51))), (q13, .inr (3, [.int th_65, .int rf_66, .ref wi_15, .ref co_16, .ref sl_17, .ref rn_18, .ref so_19, .ref bn_20, .ref sm_21, .ref ah_22]))] := hD
        rcases hr64 with ⟨rfl, rfl, fr64_0_1⟩ | ⟨rfl, rfl, fr64_1_1⟩
        · refine lv_istore (lv' := [(6, .int 0), (5, .int 1), (4, .int 0), (3, .ref q39), (2, .ref q13), (1, .ref q1), (0, .ref b)]) hx hb dL_law_175 hl (by decide) rfl (fun ls hl => ?_)
          refine lv_aload_n hx hb dL_law_177 rfl (lv_at hl 4 rfl) ?_
          have hPc := hP.sub (ws' := [(q13, .inr (3, [.int 0, .int rf_66, .ref wi_15, .ref co_16, .ref sl_17, .ref rn_18, .ref so_19, .ref bn_20, .ref sm_21, .ref ah_22]))]) [7] rfl
          have hKc := hK.sub (tys' := []) [] rfl
          refine vp_callSi (va_runV (As := []) (rest := []) ⟨hx, hb, hml, hown, hts⟩ (k3_thrown l dC dI q13 wi_15 co_16 sl_17 rn_18 so_19 bn_20 sm_21 ah_22 0 rf_66 ) (cwV 0 hts gL_law_X3_thrown rfl rfl rfl (by decide +kernel) ⟨Nat.le_of_ble_eq_true rfl, Nat.le_of_ble_eq_true rfl⟩) ⟨fun a U g mk q => by obtain ⟨q0, qP, qK⟩ := q; exact ⟨q0, qP, va_K.moved (u := U) (U := U.calling g mk a) (Vm.Alike.refl U.vm) qK⟩, va_recv hKc hPc (ci := 3) (q0 := 0) rfl rfl, fun U hU hW => ⟨rfl, by rw [hU]; exact hPc, va_K.moved hW.alike hKc⟩⟩ rfl rfl hl.1 rfl (lv_room (Nat.le_of_ble_eq_true rfl)) dL_law_178 ⟨Nat.le_of_ble_eq_true rfl, Nat.le_of_ble_eq_true rfl⟩).run (fun r67 hr67 => ?_)
          obtain rfl := hr67
          refine lv_iload hx hb dL_law_181 (lv_at hl 1 rfl) ?_
          refine lv_icmp_eq (tgt := 188) hx hb dL_law_183 (by decide) (fun c68 => absurd c68 (by decide)) (fun c68 => ?_)
          refine lv_iconst (v := 0) hx hb dL_law_186 (by decide) ?_
          exact (by first | contradiction | (simp_all; done) | grind : False).elim
        · refine lv_istore (lv' := [(6, .int 0), (5, .int 1), (4, .int 0), (3, .ref q39), (2, .ref q13), (1, .ref q1), (0, .ref b)]) hx hb dL_law_175 hl (by decide) rfl (fun ls hl => ?_)
          refine lv_aload_n hx hb dL_law_177 rfl (lv_at hl 4 rfl) ?_
          have hPc := hP.sub (ws' := [(q13, .inr (3, [.int 1, .int rf_66, .ref wi_15, .ref co_16, .ref sl_17, .ref rn_18, .ref so_19, .ref bn_20, .ref sm_21, .ref ah_22]))]) [7] rfl
          have hKc := hK.sub (tys' := []) [] rfl
          refine vp_callSi (va_runV (As := []) (rest := []) ⟨hx, hb, hml, hown, hts⟩ (k3_thrown l dC dI q13 wi_15 co_16 sl_17 rn_18 so_19 bn_20 sm_21 ah_22 1 rf_66 ) (cwV 0 hts gL_law_X3_thrown rfl rfl rfl (by decide +kernel) ⟨Nat.le_of_ble_eq_true rfl, Nat.le_of_ble_eq_true rfl⟩) ⟨fun a U g mk q => by obtain ⟨q0, qP, qK⟩ := q; exact ⟨q0, qP, va_K.moved (u := U) (U := U.calling g mk a) (Vm.Alike.refl U.vm) qK⟩, va_recv hKc hPc (ci := 3) (q0 := 0) rfl rfl, fun U hU hW => ⟨rfl, by rw [hU]; exact hPc, va_K.moved hW.alike hKc⟩⟩ rfl rfl hl.1 rfl (lv_room (Nat.le_of_ble_eq_true rfl)) dL_law_178 ⟨Nat.le_of_ble_eq_true rfl, Nat.le_of_ble_eq_true rfl⟩).run (fun r69 hr69 => ?_)
          obtain rfl := hr69
          refine lv_iload hx hb dL_law_181 (lv_at hl 1 rfl) ?_
          refine lv_icmp_eq (tgt := 188) hx hb dL_law_183 (by decide) (fun c70 => ?_) (fun c70 => absurd c70 (by decide))
          refine lv_iload hx hb dL_law_188 (lv_at hl 1 rfl) ?_
          refine lv_if_ne (tgt := 205) hx hb dL_law_190 (by decide) (fun c71 => ?_) (fun c71 => absurd c71 (by decide))
          refine lv_goto (tgt := 1381) hx hb dL_law_205 (by decide) ?_
          refine lv_iinc (v := 7) (lv' := [(4, .int 7), (6, .int 0), (5, .int 1), (3, .ref q39), (2, .ref q13), (1, .ref q1), (0, .ref b)]) hx hb dL_law_1381 hl (k := 2) rfl (by decide) (by decide) rfl (fun ls hl => ?_)
          refine lv_goto (tgt := 23) hx hb dL_law_1384 (by decide) ?_
          refine lv_iload hx hb dL_law_23 (lv_at hl 0 rfl) ?_
          refine lv_aload_n hx hb dL_law_25 rfl (lv_at hl 6 rfl) ?_
          refine va_slen hx hb hX hbl hbA hS dL_law_26 ?_
          refine W.eq (g2 := F0 m 27 ls [.int 7, .int 7]) rfl ?_
          refine lv_bipush (v := 7) hx hb dL_law_27 (by decide) ?_
          refine lv_isub hx hb dL_law_29 ?_
          refine W.eq (g2 := F0 m 30 ls [.int 0, .int 7]) rfl ?_
          refine lv_icmp_gt (tgt := 1387) hx hb dL_law_30 (by decide) (fun c72 => ?_) (fun c72 => absurd c72 (by decide))
          refine lv_iconst (v := 1) hx hb dL_law_1387 (by decide) ?_
          refine va_forget (fun q hq => hAs _ (hS.2.2 q hq)) ?_
          refine W.widen (k := 600002) (n := 7302232) (Nat.le_of_ble_eq_true rfl) (Nat.le_of_ble_eq_true rfl) ?_
          exact lw_ret (d0 := s.drawn) (Drawn.sameBut.refl s.drawn lw_cs) hx hb hr hlocks dL_law_1388
    · rw [hje]
      -- case 1
      refine W.eq (g2 := F0 m 40 ls [.int 1]) rfl ?_
      refine lv_tableIn (off := 168) (tgt := 208) hx hb dL_law_40 (by decide) (by decide) (by rfl) (by decide) ?_
      refine lv_aload_n hx hb dL_law_208 rfl (lv_at hl 3 rfl) ?_
      refine lv_aload_n hx hb dL_law_209 rfl (lv_at hl 4 rfl) ?_
      refine lv_iload hx hb dL_law_210 (lv_at hl 0 rfl) ?_
      refine lv_iconst (v := 1) hx hb dL_law_212 (by decide) ?_
      refine lv_iadd hx hb dL_law_213 ?_
      refine W.eq (g2 := F0 m 214 ls [.int 1, .ref b, .ref q1]) rfl ?_
      refine va_sld hx hb hX hbl hbA hS (vp_in_nI (n := 1) (by decide) (by decide)) dL_law_214 ?_
      refine W.eq (g2 := F0 m 215 ls [.int (xs 1), .ref q1]) rfl ?_
      refine lv_aload_n hx hb dL_law_215 rfl (lv_at hl 4 rfl) ?_
      refine lv_iload hx hb dL_law_216 (lv_at hl 0 rfl) ?_
      refine lv_iconst (v := 2) hx hb dL_law_218 (by decide) ?_
      refine lv_iadd hx hb dL_law_219 ?_
      refine W.eq (g2 := F0 m 220 ls [.int 2, .ref b, .int (xs 1), .ref q1]) rfl ?_
      refine va_sld hx hb hX hbl hbA hS (vp_in_nI (n := 2) (by decide) (by decide)) dL_law_220 ?_
      refine W.eq (g2 := F0 m 221 ls [.int (xs 2), .int (xs 1), .ref q1]) rfl ?_
      refine lv_aload_n hx hb dL_law_221 rfl (lv_at hl 1 rfl) ?_
      have hPc := hP.sub (ws' := [(q1, .inr (1, [.ref ro_3, .int 0, .ref ba_4, .ref ra_5, .ref su_6, .int 0, .ref tr_7])), (ba_4, .inl (cB_9, 3, .inl (fun _ => 0))), (q39, .inl (cA40, 1, .inr (.inl (fun _ => 0))))]) [0, 2, 14] rfl
      have hKc := hK.sub (tys' := [(cB_9, .int), (cA40, .long)]) [1, 11] rfl
      have hDc := hD.sub (ws' := [(q1, .inr (1, [.ref ro_3, .int 0, .ref ba_4, .ref ra_5, .ref su_6, .int 0, .ref tr_7])), (ba_4, .inl (cB_9, 3, .inl (fun _ => 0))), (q39, .inl (cA40, 1, .inr (.inl (fun _ => 0))))]) [0, 2, 14] (by decide) rfl
      have hFc := va_free (wc := [(q1, .inr (1, [.ref ro_3, .int 0, .ref ba_4, .ref ra_5, .ref su_6, .int 0, .ref tr_7])), (ba_4, .inl (cB_9, 3, .inl (fun _ => 0))), (q39, .inl (cA40, 1, .inr (.inl (fun _ => 0))))]) hD hS hA [0, 2, 14] rfl
      refine va_calli (vx_runSW (As := [.ref q1, .int (xs 1), .int (xs 2), .ref q39]) (rest := []) ⟨hx, hb, hml, hown, hts⟩ (kL_bring l hst dC dI H.size q1 ro_3 ba_4 ra_5 su_6 tr_7 cB_9 q39 cA40 (fun _ => 0) (xs 1) (xs 2) ) (vx_cwSW 4 hts gL_law_L_bring rfl rfl rfl (by decide +kernel) ⟨Nat.le_of_ble_eq_true rfl, Nat.le_of_ble_eq_true rfl⟩) ⟨fun a U g mk q => by obtain ⟨q0, q1, qP, qK, qD, qX, qT⟩ := q; exact ⟨q0, q1, qP, va_K.moved (u := U) (U := U.calling g mk a) (Vm.Alike.refl U.vm) qK, qD, zX.calling qX, zTh.calling qT⟩, fun U hU hW => ⟨rfl, by rw [hU], by rw [hU]; exact hPc, va_K.moved hW.alike hKc, hDc.weaken (fun _ _ _ _ => trivial), zX.warm hW hZX, by rw [hU]; exact zTh.at hW hZT hS hFc⟩⟩ rfl rfl hl.1 rfl (lv_room (Nat.le_of_ble_eq_true rfl)) dL_law_222 ⟨Nat.le_of_ble_eq_true rfl, Nat.le_of_ble_eq_true rfl⟩) hS (fun q _ h => hFc q h) hFc (fun r73 u t H1 locs ht hvm hr73 hB hz1 hk1 hS => ?_)
      obtain ⟨fo_74, rfl⟩ : ∃ z, z = u := ⟨_, rfl⟩
      obtain ⟨hP1, hK1, hD1⟩ := hB
      rw [ht] at hP1
      have hK1 := va_K.moved hvm.symm hK1
      try dsimp only at hr73
      obtain ⟨hP, hD⟩ := va_join (wr := [(ro_3, .inl (cR_8, 6, .inr (.inr (.inr (.inr (fun _ => none)))))), (ra_5, .inl (cA_10, 12, .inl fr_12)), (su_6, .inl (cS_11, 12, .inl (fun _ => 0))), (q13, .inr (3, [.int 0, .int 0, .ref wi_15, .ref co_16, .ref sl_17, .ref rn_18, .ref so_19, .ref bn_20, .ref sm_21, .ref ah_22])), (sm_21, .inr (2, [.int 0, .ref gr_23, .ref gt_24, .ref gw_25, .ref gk_26, .ref gi_27, .ref gp_28, .ref go_29, .ref gg_30, .ref q13])), (wi_15, .inl (d_31, 6, .inl (fun _ => 0))), (co_16, .inl (d_32, 6, .inl (fun _ => 0))), (sl_17, .inl (d_33, 6, .inl (fun _ => 0))), (gr_23, .inl (d_34, 6, .inl (fun _ => 0))), (bn_20, .inl (d_35, 3, .inl (fun _ => 0))), (rn_18, .inl (d_36, 12, .inl fn_38)), (so_19, .inl (d_37, 12, .inl (fun _ => 0)))]) (w1 := [(q39, .inl (cA40, 1, .inr (.inl fo_74)))]) hP hD [0, 2, 14] [1, 3, 4, 5, 6, 7, 8, 9, 10, 11, 12, 13] rfl rfl (by decide) (by decide) hk1 hFc hP1 hD1
      generalize H1 = H at hP hS ⊢
      have hP : va_P (dC, dI) vwCl [(ro_3, .inl (cR_8, 6, .inr (.inr (.inr (.inr (fun _ => none)))))), (ra_5, .inl (cA_10, 12, .inl fr_12)), (su_6, .inl (cS_11, 12, .inl (fun _ => 0))), (q13, .inr (3, [.int 0, .int 0, .ref wi_15, .ref co_16, .ref sl_17, .ref rn_18, .ref so_19, .ref bn_20, .ref sm_21, .ref ah_22])), (sm_21, .inr (2, [.int 0, .ref gr_23, .ref gt_24, .ref gw_25, .ref gk_26, .ref gi_27, .ref gp_28, .ref go_29, .ref gg_30, .ref q13])), (wi_15, .inl (d_31, 6, .inl (fun _ => 0))), (co_16, .inl (d_32, 6, .inl (fun _ => 0))), (sl_17, .inl (d_33, 6, .inl (fun _ => 0))), (gr_23, .inl (d_34, 6, .inl (fun _ => 0))), (bn_20, .inl (d_35, 3, .inl (fun _ => 0))), (rn_18, .inl (d_36, 12, .inl fn_38)), (so_19, .inl (d_37, 12, .inl (fun _ => 0))), (q39, .inl (cA40, 1, .inr (.inl fo_74)))] H := hP
      have hD : va_D A [(ro_3, .inl (cR_8, 6, .inr (.inr (.inr (.inr (fun _ => none)))))), (ra_5, .inl (cA_10, 12, .inl fr_12)), (su_6, .inl (cS_11, 12, .inl (fun _ => 0))), (q13, .inr (3, [.int 0, .int 0, .ref wi_15, .ref co_16, .ref sl_17, .ref rn_18, .ref so_19, .ref bn_20, .ref sm_21, .ref ah_22])), (sm_21, .inr (2, [.int 0, .ref gr_23, .ref gt_24, .ref gw_25, .ref gk_26, .ref gi_27, .ref gp_28, .ref go_29, .ref gg_30, .ref q13])), (wi_15, .inl (d_31, 6, .inl (fun _ => 0))), (co_16, .inl (d_32, 6, .inl (fun _ => 0))), (sl_17, .inl (d_33, 6, .inl (fun _ => 0))), (gr_23, .inl (d_34, 6, .inl (fun _ => 0))), (bn_20, .inl (d_35, 3, .inl (fun _ => 0))), (rn_18, .inl (d_36, 12, .inl fn_38)), (so_19, .inl (d_37, 12, .inl (fun _ => 0))), (q39, .inl (cA40, 1, .inr (.inl fo_74)))] := hD
      refine W.widen (k := 37) (n := 3408) (Nat.le_of_ble_eq_true rfl) (Nat.le_of_ble_eq_true rfl) ?_
      rcases hr73 with ⟨rfl, fr73_0_0, fr73_0_1, fr73_0_2⟩ | ⟨rfl, fr73_1_0⟩ | ⟨rfl, fr73_2_0, fr73_2_1⟩
      · refine lv_istore (lv' := [(5, .int 0), (4, .int 0), (3, .ref q39), (2, .ref q13), (1, .ref q1), (0, .ref b)]) hx hb dL_law_225 hl (by decide) rfl (fun ls hl => ?_)
        refine lv_aload_n hx hb dL_law_227 rfl (lv_at hl 3 rfl) ?_
        refine lv_aload_n hx hb dL_law_228 rfl (lv_at hl 5 rfl) ?_
        refine lv_iload hx hb dL_law_229 (lv_at hl 1 rfl) ?_
        refine lv_iconst (v := 1) hx hb dL_law_231 (by decide) ?_
        refine lv_iadd hx hb dL_law_232 ?_
        refine W.eq (g2 := F0 m 233 ls [.int 1, .ref b, .ref q13]) rfl ?_
        refine va_sld hx hb hX hbl hbA hS (vp_in_nI (n := 1) (by decide) (by decide)) dL_law_233 ?_
        refine W.eq (g2 := F0 m 234 ls [.int (xs 1), .ref q13]) rfl ?_
        refine lv_aload_n hx hb dL_law_234 rfl (lv_at hl 5 rfl) ?_
        refine lv_iload hx hb dL_law_235 (lv_at hl 1 rfl) ?_
        refine lv_iconst (v := 2) hx hb dL_law_237 (by decide) ?_
        refine lv_iadd hx hb dL_law_238 ?_
        refine W.eq (g2 := F0 m 239 ls [.int 2, .ref b, .int (xs 1), .ref q13]) rfl ?_
        refine va_sld hx hb hX hbl hbA hS (vp_in_nI (n := 2) (by decide) (by decide)) dL_law_239 ?_
        refine W.eq (g2 := F0 m 240 ls [.int (xs 2), .int (xs 1), .ref q13]) rfl ?_
        have hPc := hP.sub (ws' := [(q13, .inr (3, [.int 0, .int 0, .ref wi_15, .ref co_16, .ref sl_17, .ref rn_18, .ref so_19, .ref bn_20, .ref sm_21, .ref ah_22])), (bn_20, .inl (d_35, 3, .inl (fun _ => 0)))]) [3, 9] rfl
        have hKc := hK.sub (tys' := [(d_35, .int)]) [8] rfl
        have hDc := hD.sub (ws' := [(q13, .inr (3, [.int 0, .int 0, .ref wi_15, .ref co_16, .ref sl_17, .ref rn_18, .ref so_19, .ref bn_20, .ref sm_21, .ref ah_22])), (bn_20, .inl (d_35, 3, .inl (fun _ => 0)))]) [3, 9] (by decide) rfl
        have hFc := va_free (wc := [(q13, .inr (3, [.int 0, .int 0, .ref wi_15, .ref co_16, .ref sl_17, .ref rn_18, .ref so_19, .ref bn_20, .ref sm_21, .ref ah_22])), (bn_20, .inl (d_35, 3, .inl (fun _ => 0)))]) hD hS hA [3, 9] rfl
        refine va_calli (va_runV (As := [.int (xs 1), .int (xs 2)]) (rest := []) ⟨hx, hb, hml, hown, hts⟩ (k3_bring l dC dI H.size q13 wi_15 co_16 sl_17 rn_18 so_19 bn_20 sm_21 ah_22 0 d_35 (xs 1) (xs 2) ) (cwV 2 hts gL_law_X3_bring rfl rfl rfl (by decide +kernel) ⟨Nat.le_of_ble_eq_true rfl, Nat.le_of_ble_eq_true rfl⟩) ⟨fun a U g mk q => by obtain ⟨q0, q1, qP, qK, qD⟩ := q; exact ⟨q0, q1, qP, va_K.moved (u := U) (U := U.calling g mk a) (Vm.Alike.refl U.vm) qK, qD⟩, va_recv hKc hPc (ci := 3) (q0 := 0) rfl rfl, fun U hU hW => ⟨rfl, by rw [hU], by rw [hU]; exact hPc, va_K.moved hW.alike hKc, hDc.weaken (fun _ _ _ _ => trivial)⟩⟩ rfl rfl hl.1 rfl (lv_room (Nat.le_of_ble_eq_true rfl)) dL_law_240 ⟨Nat.le_of_ble_eq_true rfl, Nat.le_of_ble_eq_true rfl⟩) hS (fun q _ h => hFc q h) hFc (fun r75 u t H1 locs ht hvm hr75 hB hz1 hk1 hS => ?_)
        obtain ⟨th_76, rf_77⟩ := u
        obtain ⟨hP1, hK1, hD1⟩ := hB
        rw [ht] at hP1
        have hK1 := va_K.moved hvm.symm hK1
        try dsimp only at hr75
        obtain ⟨hP, hD⟩ := va_join (wr := [(ro_3, .inl (cR_8, 6, .inr (.inr (.inr (.inr (fun _ => none)))))), (ra_5, .inl (cA_10, 12, .inl fr_12)), (su_6, .inl (cS_11, 12, .inl (fun _ => 0))), (sm_21, .inr (2, [.int 0, .ref gr_23, .ref gt_24, .ref gw_25, .ref gk_26, .ref gi_27, .ref gp_28, .ref go_29, .ref gg_30, .ref q13])), (wi_15, .inl (d_31, 6, .inl (fun _ => 0))), (co_16, .inl (d_32, 6, .inl (fun _ => 0))), (sl_17, .inl (d_33, 6, .inl (fun _ => 0))), (gr_23, .inl (d_34, 6, .inl (fun _ => 0))), (rn_18, .inl (d_36, 12, .inl fn_38)), (so_19, .inl (d_37, 12, .inl (fun _ => 0))), (q39, .inl (cA40, 1, .inr (.inl fo_74)))]) (w1 := [(q13, .inr (3, [.int th_76, .int rf_77, .ref wi_15, .ref co_16, .ref sl_17, .ref rn_18, .ref so_19, .ref bn_20, .ref sm_21, .ref ah_22]))]) hP hD [3, 9] [0, 1, 2, 4, 5, 6, 7, 8, 10, 11, 12] rfl rfl (by decide) (by decide) hk1 hFc hP1 hD1
        generalize H1 = H at hP hS ⊢
        have hP : va_P (dC, dI) vwCl [(ro_3, .inl (cR_8, 6, .inr (.inr (.inr (.inr (fun _ => none)))))), (ra_5, .inl (cA_10, 12, .inl fr_12)), (su_6, .inl (cS_11, 12, .inl (fun _ => 0))), (sm_21, .inr (2, [.int 0, .ref gr_23, .ref gt_24, .ref gw_25, .ref gk_26, .ref gi_27, .ref gp_28, .ref go_29, .ref gg_30, .ref q13])), (wi_15, .inl (d_31, 6, .inl (fun _ => 0))), (co_16, .inl (d_32, 6, .inl (fun _ => 0))), (sl_17, .inl (d_33, 6, .inl (fun _ => 0))), (gr_23, .inl (d_34, 6, .inl (fun _ => 0))), (rn_18, .inl (d_36, 12, .inl fn_38)), (so_19, .inl (d_37, 12, .inl (fun _ => 0))), (q39, .inl (cA40, 1, .inr (.inl fo_74))), (q13, .inr (3, [.int th_76, .int rf_77, .ref wi_15, .ref co_16, .ref sl_17, .ref rn_18, .ref so_19, .ref bn_20, .ref sm_21, .ref ah_22]))] H := hP
        have hD : va_D A [(ro_3, .inl (cR_8, 6, .inr (.inr (.inr (.inr (fun _ => none)))))), (ra_5, .inl (cA_10, 12, .inl fr_12)), (su_6, .inl (cS_11, 12, .inl (fun _ => 0))), (sm_21, .inr (2, [.int 0, .ref gr_23, .ref gt_24, .ref gw_25, .ref gk_26, .ref gi_27, .ref gp_28, .ref go_29, .ref gg_30, .ref q13])), (wi_15, .inl (d_31, 6, .inl (fun _ => 0))), (co_16, .inl (d_32, 6, .inl (fun _ => 0))), (sl_17, .inl (d_33, 6, .inl (fun _ => 0))), (gr_23, .inl (d_34, 6, .inl (fun _ => 0))), (rn_18, .inl (d_36, 12, .inl fn_38)), (so_19, .inl (d_37, 12, .inl (fun _ => 0))), (q39, .inl (cA40, 1, .inr (.inl fo_74))), (q13, .inr (3, [.int th_76, .int rf_77, .ref wi_15, .ref co_16, .ref sl_17, .ref rn_18, .ref so_19, .ref bn_20, .ref sm_21, .ref ah_22]))] := hD
        rcases hr75 with ⟨evr75_0, rfl, fr75_0_1, fr75_0_2⟩ | ⟨rfl, rfl, fr75_1_1⟩ | ⟨rfl, rfl, fr75_2_1, fr75_2_2⟩
        · rw [evr75_0]
          refine lv_istore (lv' := [(6, .int (xs 2)), (5, .int 0), (4, .int 0), (3, .ref q39), (2, .ref q13), (1, .ref q1), (0, .ref b)]) hx hb dL_law_243 hl (by decide) rfl (fun ls hl => ?_)
          refine lv_aload_n hx hb dL_law_245 rfl (lv_at hl 4 rfl) ?_
          have hPc := hP.sub (ws' := [(q13, .inr (3, [.int 0, .int rf_77, .ref wi_15, .ref co_16, .ref sl_17, .ref rn_18, .ref so_19, .ref bn_20, .ref sm_21, .ref ah_22]))]) [11] rfl
          have hKc := hK.sub (tys' := []) [] rfl
          refine vp_callSi (va_runV (As := []) (rest := []) ⟨hx, hb, hml, hown, hts⟩ (k3_thrown l dC dI q13 wi_15 co_16 sl_17 rn_18 so_19 bn_20 sm_21 ah_22 0 rf_77 ) (cwV 0 hts gL_law_X3_thrown rfl rfl rfl (by decide +kernel) ⟨Nat.le_of_ble_eq_true rfl, Nat.le_of_ble_eq_true rfl⟩) ⟨fun a U g mk q => by obtain ⟨q0, qP, qK⟩ := q; exact ⟨q0, qP, va_K.moved (u := U) (U := U.calling g mk a) (Vm.Alike.refl U.vm) qK⟩, va_recv hKc hPc (ci := 3) (q0 := 0) rfl rfl, fun U hU hW => ⟨rfl, by rw [hU]; exact hPc, va_K.moved hW.alike hKc⟩⟩ rfl rfl hl.1 rfl (lv_room (Nat.le_of_ble_eq_true rfl)) dL_law_246 ⟨Nat.le_of_ble_eq_true rfl, Nat.le_of_ble_eq_true rfl⟩).run (fun r78 hr78 => ?_)
          obtain rfl := hr78
          refine lv_iload hx hb dL_law_249 (lv_at hl 1 rfl) ?_
          refine lv_icmp_eq (tgt := 256) hx hb dL_law_251 (by decide) (fun c79 => ?_) (fun c79 => absurd c79 (by decide))
          refine lv_iload hx hb dL_law_256 (lv_at hl 1 rfl) ?_
          refine lv_if_ne (tgt := 273) hx hb dL_law_258 (by decide) (fun c80 => absurd c80 (by decide)) (fun c80 => ?_)
          refine lv_aload_n hx hb dL_law_261 rfl (lv_at hl 3 rfl) ?_
          refine lv_iconst (v := 0) hx hb dL_law_262 (by decide) ?_
          refine va_lald hx hb hK hP 10 11 rfl rfl (vp_in_nI (n := 0) (by decide) (by decide)) dL_law_263 ?_
          refine lv_topl (fun w81 ew81 => ?_)
          refine lv_iload hx hb dL_law_264 (lv_at hl 0 rfl) ?_
          refine lv_i2l (v := (xs 2).toInt64) hx hb dL_law_266 (by first | rfl | decide) ?_
          refine W.lcmp hx hb dL_law_267 ?_
          refine lv_topi (fun x82 ex82 => ?_)
          refine lv_if_eq (tgt := 273) hx hb dL_law_268 (by decide) (fun c83 => ?_) (fun c83 => absurd (ex82.trans (zCmp (ew81.trans (by assumption)))) c83)
          refine lv_goto (tgt := 1381) hx hb dL_law_273 (by decide) ?_
          refine lv_iinc (v := 7) (lv' := [(4, .int 7), (6, .int (xs 2)), (5, .int 0), (3, .ref q39), (2, .ref q13), (1, .ref q1), (0, .ref b)]) hx hb dL_law_1381 hl (k := 2) rfl (by decide) (by decide) rfl (fun ls hl => ?_)
          refine lv_goto (tgt := 23) hx hb dL_law_1384 (by decide) ?_
          refine lv_iload hx hb dL_law_23 (lv_at hl 0 rfl) ?_
          refine lv_aload_n hx hb dL_law_25 rfl (lv_at hl 6 rfl) ?_
          refine va_slen hx hb hX hbl hbA hS dL_law_26 ?_
          refine W.eq (g2 := F0 m 27 ls [.int 7, .int 7]) rfl ?_
          refine lv_bipush (v := 7) hx hb dL_law_27 (by decide) ?_
          refine lv_isub hx hb dL_law_29 ?_
          refine W.eq (g2 := F0 m 30 ls [.int 0, .int 7]) rfl ?_
          refine lv_icmp_gt (tgt := 1387) hx hb dL_law_30 (by decide) (fun c84 => ?_) (fun c84 => absurd c84 (by decide))
          refine lv_iconst (v := 1) hx hb dL_law_1387 (by decide) ?_
          refine va_forget (fun q hq => hAs _ (hS.2.2 q hq)) ?_
          refine W.widen (k := 600002) (n := 7302232) (Nat.le_of_ble_eq_true rfl) (Nat.le_of_ble_eq_true rfl) ?_
          exact lw_ret (d0 := s.drawn) (Drawn.sameBut.refl s.drawn lw_cs) hx hb hr hlocks dL_law_1388
        · refine lv_istore (lv' := [(6, .int 0), (5, .int 0), (4, .int 0), (3, .ref q39), (2, .ref q13), (1, .ref q1), (0, .ref b)]) hx hb dL_law_243 hl (by decide) rfl (fun ls hl => ?_)
          refine lv_aload_n hx hb dL_law_245 rfl (lv_at hl 4 rfl) ?_
          have hPc := hP.sub (ws' := [(q13, .inr (3, [.int 1, .int rf_77, .ref wi_15, .ref co_16, .ref sl_17, .ref rn_18, .ref so_19, .ref bn_20, .ref sm_21, .ref ah_22]))]) [11] rfl
          have hKc := hK.sub (tys' := []) [] rfl
          refine vp_callSi (va_runV (As := []) (rest := []) ⟨hx, hb, hml, hown, hts⟩ (k3_thrown l dC dI q13 wi_15 co_16 sl_17 rn_18 so_19 bn_20 sm_21 ah_22 1 rf_77 ) (cwV 0 hts gL_law_X3_thrown rfl rfl rfl (by decide +kernel) ⟨Nat.le_of_ble_eq_true rfl, Nat.le_of_ble_eq_true rfl⟩) ⟨fun a U g mk q => by obtain ⟨q0, qP, qK⟩ := q; exact ⟨q0, qP, va_K.moved (u := U) (U := U.calling g mk a) (Vm.Alike.refl U.vm) qK⟩, va_recv hKc hPc (ci := 3) (q0 := 0) rfl rfl, fun U hU hW => ⟨rfl, by rw [hU]; exact hPc, va_K.moved hW.alike hKc⟩⟩ rfl rfl hl.1 rfl (lv_room (Nat.le_of_ble_eq_true rfl)) dL_law_246 ⟨Nat.le_of_ble_eq_true rfl, Nat.le_of_ble_eq_true rfl⟩).run (fun r85 hr85 => ?_)
          obtain rfl := hr85
          refine lv_iload hx hb dL_law_249 (lv_at hl 1 rfl) ?_
          refine lv_icmp_eq (tgt := 256) hx hb dL_law_251 (by decide) (fun c86 => absurd c86 (by decide)) (fun c86 => ?_)
          refine lv_iconst (v := 0) hx hb dL_law_254 (by decide) ?_
          exact (by first | contradiction | (simp_all; done) | grind : False).elim
        · refine lv_istore (lv' := [(6, .int 0), (5, .int 0), (4, .int 0), (3, .ref q39), (2, .ref q13), (1, .ref q1), (0, .ref b)]) hx hb dL_law_243 hl (by decide) rfl (fun ls hl => ?_)
          refine lv_aload_n hx hb dL_law_245 rfl (lv_at hl 4 rfl) ?_
          have hPc := hP.sub (ws' := [(q13, .inr (3, [.int 2, .int rf_77, .ref wi_15, .ref co_16, .ref sl_17, .ref rn_18, .ref so_19, .ref bn_20, .ref sm_21, .ref ah_22]))]) [11] rfl
          have hKc := hK.sub (tys' := []) [] rfl
          refine vp_callSi (va_runV (As := []) (rest := []) ⟨hx, hb, hml, hown, hts⟩ (k3_thrown l dC dI q13 wi_15 co_16 sl_17 rn_18 so_19 bn_20 sm_21 ah_22 2 rf_77 ) (cwV 0 hts gL_law_X3_thrown rfl rfl rfl (by decide +kernel) ⟨Nat.le_of_ble_eq_true rfl, Nat.le_of_ble_eq_true rfl⟩) ⟨fun a U g mk q => by obtain ⟨q0, qP, qK⟩ := q; exact ⟨q0, qP, va_K.moved (u := U) (U := U.calling g mk a) (Vm.Alike.refl U.vm) qK⟩, va_recv hKc hPc (ci := 3) (q0 := 0) rfl rfl, fun U hU hW => ⟨rfl, by rw [hU]; exact hPc, va_K.moved hW.alike hKc⟩⟩ rfl rfl hl.1 rfl (lv_room (Nat.le_of_ble_eq_true rfl)) dL_law_246 ⟨Nat.le_of_ble_eq_true rfl, Nat.le_of_ble_eq_true rfl⟩).run (fun r87 hr87 => ?_)
          obtain rfl := hr87
          refine lv_iload hx hb dL_law_249 (lv_at hl 1 rfl) ?_
          refine lv_icmp_eq (tgt := 256) hx hb dL_law_251 (by decide) (fun c88 => absurd c88 (by decide)) (fun c88 => ?_)
          refine lv_iconst (v := 0) hx hb dL_law_254 (by decide) ?_
          exact (by first | contradiction | (simp_all; done) | grind : False).elim
      · refine lv_istore (lv' := [(5, .int 1), (4, .int 0), (3, .ref q39), (2, .ref q13), (1, .ref q1), (0, .ref b)]) hx hb dL_law_225 hl (by decide) rfl (fun ls hl => ?_)
        refine lv_aload_n hx hb dL_law_227 rfl (lv_at hl 3 rfl) ?_
        refine lv_aload_n hx hb dL_law_228 rfl (lv_at hl 5 rfl) ?_
        refine lv_iload hx hb dL_law_229 (lv_at hl 1 rfl) ?_
        refine lv_iconst (v := 1) hx hb dL_law_231 (by decide) ?_
        refine lv_iadd hx hb dL_law_232 ?_
        refine W.eq (g2 := F0 m 233 ls [.int 1, .ref b, .ref q13]) rfl ?_
        refine va_sld hx hb hX hbl hbA hS (vp_in_nI (n := 1) (by decide) (by decide)) dL_law_233 ?_
        refine W.eq (g2 := F0 m 234 ls [.int (xs 1), .ref q13]) rfl ?_
        refine lv_aload_n hx hb dL_law_234 rfl (lv_at hl 5 rfl) ?_
        refine lv_iload hx hb dL_law_235 (lv_at hl 1 rfl) ?_
        refine lv_iconst (v := 2) hx hb dL_law_237 (by decide) ?_
        refine lv_iadd hx hb dL_law_238 ?_
        refine W.eq (g2 := F0 m 239 ls [.int 2, .ref b, .int (xs 1), .ref q13]) rfl ?_
        refine va_sld hx hb hX hbl hbA hS (vp_in_nI (n := 2) (by decide) (by decide)) dL_law_239 ?_
        refine W.eq (g2 := F0 m 240 ls [.int (xs 2), .int (xs 1), .ref q13]) rfl ?_
        have hPc := hP.sub (ws' := [(q13, .inr (3, [.int 0, .int 0, .ref wi_15, .ref co_16, .ref sl_17, .ref rn_18, .ref so_19, .ref bn_20, .ref sm_21, .ref ah_22])), (bn_20, .inl (d_35, 3, .inl (fun _ => 0)))]) [3, 9] rfl
        have hKc := hK.sub (tys' := [(d_35, .int)]) [8] rfl
        have hDc := hD.sub (ws' := [(q13, .inr (3, [.int 0, .int 0, .ref wi_15, .ref co_16, .ref sl_17, .ref rn_18, .ref so_19, .ref bn_20, .ref sm_21, .ref ah_22])), (bn_20, .inl (d_35, 3, .inl (fun _ => 0)))]) [3, 9] (by decide) rfl
        have hFc := va_free (wc := [(q13, .inr (3, [.int 0, .int 0, .ref wi_15, .ref co_16, .ref sl_17, .ref rn_18, .ref so_19, .ref bn_20, .ref sm_21, .ref ah_22])), (bn_20, .inl (d_35, 3, .inl (fun _ => 0)))]) hD hS hA [3, 9] rfl
        refine va_calli (va_runV (As := [.int (xs 1), .int (xs 2)]) (rest := []) ⟨hx, hb, hml, hown, hts⟩ (k3_bring l dC dI H.size q13 wi_15 co_16 sl_17 rn_18 so_19 bn_20 sm_21 ah_22 0 d_35 (xs 1) (xs 2) ) (cwV 2 hts gL_law_X3_bring rfl rfl rfl (by decide +kernel) ⟨Nat.le_of_ble_eq_true rfl, Nat.le_of_ble_eq_true rfl⟩) ⟨fun a U g mk q => by obtain ⟨q0, q1, qP, qK, qD⟩ := q; exact ⟨q0, q1, qP, va_K.moved (u := U) (U := U.calling g mk a) (Vm.Alike.refl U.vm) qK, qD⟩, va_recv hKc hPc (ci := 3) (q0 := 0) rfl rfl, fun U hU hW => ⟨rfl, by rw [hU], by rw [hU]; exact hPc, va_K.moved hW.alike hKc, hDc.weaken (fun _ _ _ _ => trivial)⟩⟩ rfl rfl hl.1 rfl (lv_room (Nat.le_of_ble_eq_true rfl)) dL_law_240 ⟨Nat.le_of_ble_eq_true rfl, Nat.le_of_ble_eq_true rfl⟩) hS (fun q _ h => hFc q h) hFc (fun r89 u t H1 locs ht hvm hr89 hB hz1 hk1 hS => ?_)
        obtain ⟨th_90, rf_91⟩ := u
        obtain ⟨hP1, hK1, hD1⟩ := hB
        rw [ht] at hP1
        have hK1 := va_K.moved hvm.symm hK1
        try dsimp only at hr89
        obtain ⟨hP, hD⟩ := va_join (wr := [(ro_3, .inl (cR_8, 6, .inr (.inr (.inr (.inr (fun _ => none)))))), (ra_5, .inl (cA_10, 12, .inl fr_12)), (su_6, .inl (cS_11, 12, .inl (fun _ => 0))), (sm_21, .inr (2, [.int 0, .ref gr_23, .ref gt_24, .ref gw_25, .ref gk_26, .ref gi_27, .ref gp_28, .ref go_29, .ref gg_30, .ref q13])), (wi_15, .inl (d_31, 6, .inl (fun _ => 0))), (co_16, .inl (d_32, 6, .inl (fun _ => 0))), (sl_17, .inl (d_33, 6, .inl (fun _ => 0))), (gr_23, .inl (d_34, 6, .inl (fun _ => 0))), (rn_18, .inl (d_36, 12, .inl fn_38)), (so_19, .inl (d_37, 12, .inl (fun _ => 0))), (q39, .inl (cA40, 1, .inr (.inl fo_74)))]) (w1 := [(q13, .inr (3, [.int th_90, .int rf_91, .ref wi_15, .ref co_16, .ref sl_17, .ref rn_18, .ref so_19, .ref bn_20, .ref sm_21, .ref ah_22]))]) hP hD [3, 9] [0, 1, 2, 4, 5, 6, 7, 8, 10, 11, 12] rfl rfl (by decide) (by decide) hk1 hFc hP1 hD1
        generalize H1 = H at hP hS ⊢
        have hP : va_P (dC, dI) vwCl [(ro_3, .inl (cR_8, 6, .inr (.inr (.inr (.inr (fun _ => none)))))), (ra_5, .inl (cA_10, 12, .inl fr_12)), (su_6, .inl (cS_11, 12, .inl (fun _ => 0))), (sm_21, .inr (2, [.int 0, .ref gr_23, .ref gt_24, .ref gw_25, .ref gk_26, .ref gi_27, .ref gp_28, .ref go_29, .ref gg_30, .ref q13])), (wi_15, .inl (d_31, 6, .inl (fun _ => 0))), (co_16, .inl (d_32, 6, .inl (fun _ => 0))), (sl_17, .inl (d_33, 6, .inl (fun _ => 0))), (gr_23, .inl (d_34, 6, .inl (fun _ => 0))), (rn_18, .inl (d_36, 12, .inl fn_38)), (so_19, .inl (d_37, 12, .inl (fun _ => 0))), (q39, .inl (cA40, 1, .inr (.inl fo_74))), (q13, .inr (3, [.int th_90, .int rf_91, .ref wi_15, .ref co_16, .ref sl_17, .ref rn_18, .ref so_19, .ref bn_20, .ref sm_21, .ref ah_22]))] H := hP
        have hD : va_D A [(ro_3, .inl (cR_8, 6, .inr (.inr (.inr (.inr (fun _ => none)))))), (ra_5, .inl (cA_10, 12, .inl fr_12)), (su_6, .inl (cS_11, 12, .inl (fun _ => 0))), (sm_21, .inr (2, [.int 0, .ref gr_23, .ref gt_24, .ref gw_25, .ref gk_26, .ref gi_27, .ref gp_28, .ref go_29, .ref gg_30, .ref q13])), (wi_15, .inl (d_31, 6, .inl (fun _ => 0))), (co_16, .inl (d_32, 6, .inl (fun _ => 0))), (sl_17, .inl (d_33, 6, .inl (fun _ => 0))), (gr_23, .inl (d_34, 6, .inl (fun _ => 0))), (rn_18, .inl (d_36, 12, .inl fn_38)), (so_19, .inl (d_37, 12, .inl (fun _ => 0))), (q39, .inl (cA40, 1, .inr (.inl fo_74))), (q13, .inr (3, [.int th_90, .int rf_91, .ref wi_15, .ref co_16, .ref sl_17, .ref rn_18, .ref so_19, .ref bn_20, .ref sm_21, .ref ah_22]))] := hD
        rcases hr89 with ⟨evr89_0, rfl, fr89_0_1, fr89_0_2⟩ | ⟨rfl, rfl, fr89_1_1⟩ | ⟨rfl, rfl, fr89_2_1, fr89_2_2⟩
        · rw [evr89_0]
          refine lv_istore (lv' := [(6, .int (xs 2)), (5, .int 1), (4, .int 0), (3, .ref q39), (2, .ref q13), (1, .ref q1), (0, .ref b)]) hx hb dL_law_243 hl (by decide) rfl (fun ls hl => ?_)
          refine lv_aload_n hx hb dL_law_245 rfl (lv_at hl 4 rfl) ?_
          have hPc := hP.sub (ws' := [(q13, .inr (3, [.int 0, .int rf_91, .ref wi_15, .ref co_16, .ref sl_17, .ref rn_18, .ref so_19, .ref bn_20, .ref sm_21, .ref ah_22]))]) [11] rfl
          have hKc := hK.sub (tys' := []) [] rfl
          refine vp_callSi (va_runV (As := []) (rest := []) ⟨hx, hb, hml, hown, hts⟩ (k3_thrown l dC dI q13 wi_15 co_16 sl_17 rn_18 so_19 bn_20 sm_21 ah_22 0 rf_91 ) (cwV 0 hts gL_law_X3_thrown rfl rfl rfl (by decide +kernel) ⟨Nat.le_of_ble_eq_true rfl, Nat.le_of_ble_eq_true rfl⟩) ⟨fun a U g mk q => by obtain ⟨q0, qP, qK⟩ := q; exact ⟨q0, qP, va_K.moved (u := U) (U := U.calling g mk a) (Vm.Alike.refl U.vm) qK⟩, va_recv hKc hPc (ci := 3) (q0 := 0) rfl rfl, fun U hU hW => ⟨rfl, by rw [hU]; exact hPc, va_K.moved hW.alike hKc⟩⟩ rfl rfl hl.1 rfl (lv_room (Nat.le_of_ble_eq_true rfl)) dL_law_246 ⟨Nat.le_of_ble_eq_true rfl, Nat.le_of_ble_eq_true rfl⟩).run (fun r92 hr92 => ?_)
          obtain rfl := hr92
          refine lv_iload hx hb dL_law_249 (lv_at hl 1 rfl) ?_
          refine lv_icmp_eq (tgt := 256) hx hb dL_law_251 (by decide) (fun c93 => absurd c93 (by decide)) (fun c93 => ?_)
          refine lv_iconst (v := 0) hx hb dL_law_254 (by decide) ?_
          exact (by first | contradiction | (simp_all; done) | grind : False).elim
        · refine lv_istore (lv' := [(6, .int 0), (5, .int 1), (4, .int 0), (3, .ref q39), (2, .ref q13), (1, .ref q1), (0, .ref b)]) hx hb dL_law_243 hl (by decide) rfl (fun ls hl => ?_)
          refine lv_aload_n hx hb dL_law_245 rfl (lv_at hl 4 rfl) ?_
          have hPc := hP.sub (ws' := [(q13, .inr (3, [.int 1, .int rf_91, .ref wi_15, .ref co_16, .ref sl_17, .ref rn_18, .ref so_19, .ref bn_20, .ref sm_21, .ref ah_22]))]) [11] rfl
          have hKc := hK.sub (tys' := []) [] rfl
          refine vp_callSi (va_runV (As := []) (rest := []) ⟨hx, hb, hml, hown, hts⟩ (k3_thrown l dC dI q13 wi_15 co_16 sl_17 rn_18 so_19 bn_20 sm_21 ah_22 1 rf_91 ) (cwV 0 hts gL_law_X3_thrown rfl rfl rfl (by decide +kernel) ⟨Nat.le_of_ble_eq_true rfl, Nat.le_of_ble_eq_true rfl⟩) ⟨fun a U g mk q => by obtain ⟨q0, qP, qK⟩ := q; exact ⟨q0, qP, va_K.moved (u := U) (U := U.calling g mk a) (Vm.Alike.refl U.vm) qK⟩, va_recv hKc hPc (ci := 3) (q0 := 0) rfl rfl, fun U hU hW => ⟨rfl, by rw [hU]; exact hPc, va_K.moved hW.alike hKc⟩⟩ rfl rfl hl.1 rfl (lv_room (Nat.le_of_ble_eq_true rfl)) dL_law_246 ⟨Nat.le_of_ble_eq_true rfl, Nat.le_of_ble_eq_true rfl⟩).run (fun r94 hr94 => ?_)
          obtain rfl := hr94
          refine lv_iload hx hb dL_law_249 (lv_at hl 1 rfl) ?_
          refine lv_icmp_eq (tgt := 256) hx hb dL_law_251 (by decide) (fun c95 => ?_) (fun c95 => absurd c95 (by decide))
          refine lv_iload hx hb dL_law_256 (lv_at hl 1 rfl) ?_
          refine lv_if_ne (tgt := 273) hx hb dL_law_258 (by decide) (fun c96 => ?_) (fun c96 => absurd c96 (by decide))
          refine lv_goto (tgt := 1381) hx hb dL_law_273 (by decide) ?_
          refine lv_iinc (v := 7) (lv' := [(4, .int 7), (6, .int 0), (5, .int 1), (3, .ref q39), (2, .ref q13), (1, .ref q1), (0, .ref b)]) hx hb dL_law_1381 hl (k := 2) rfl (by decide) (by decide) rfl (fun ls hl => ?_)
          refine lv_goto (tgt := 23) hx hb dL_law_1384 (by decide) ?_
          refine lv_iload hx hb dL_law_23 (lv_at hl 0 rfl) ?_
          refine lv_aload_n hx hb dL_law_25 rfl (lv_at hl 6 rfl) ?_
          refine va_slen hx hb hX hbl hbA hS dL_law_26 ?_
          refine W.eq (g2 := F0 m 27 ls [.int 7, .int 7]) rfl ?_
          refine lv_bipush (v := 7) hx hb dL_law_27 (by decide) ?_
          refine lv_isub hx hb dL_law_29 ?_
          refine W.eq (g2 := F0 m 30 ls [.int 0, .int 7]) rfl ?_
          refine lv_icmp_gt (tgt := 1387) hx hb dL_law_30 (by decide) (fun c97 => ?_) (fun c97 => absurd c97 (by decide))
          refine lv_iconst (v := 1) hx hb dL_law_1387 (by decide) ?_
          refine va_forget (fun q hq => hAs _ (hS.2.2 q hq)) ?_
          refine W.widen (k := 600002) (n := 7302232) (Nat.le_of_ble_eq_true rfl) (Nat.le_of_ble_eq_true rfl) ?_
          exact lw_ret (d0 := s.drawn) (Drawn.sameBut.refl s.drawn lw_cs) hx hb hr hlocks dL_law_1388
        · refine lv_istore (lv' := [(6, .int 0), (5, .int 1), (4, .int 0), (3, .ref q39), (2, .ref q13), (1, .ref q1), (0, .ref b)]) hx hb dL_law_243 hl (by decide) rfl (fun ls hl => ?_)
          refine lv_aload_n hx hb dL_law_245 rfl (lv_at hl 4 rfl) ?_
          have hPc := hP.sub (ws' := [(q13, .inr (3, [.int 2, .int rf_91, .ref wi_15, .ref co_16, .ref sl_17, .ref rn_18, .ref so_19, .ref bn_20, .ref sm_21, .ref ah_22]))]) [11] rfl
          have hKc := hK.sub (tys' := []) [] rfl
          refine vp_callSi (va_runV (As := []) (rest := []) ⟨hx, hb, hml, hown, hts⟩ (k3_thrown l dC dI q13 wi_15 co_16 sl_17 rn_18 so_19 bn_20 sm_21 ah_22 2 rf_91 ) (cwV 0 hts gL_law_X3_thrown rfl rfl rfl (by decide +kernel) ⟨Nat.le_of_ble_eq_true rfl, Nat.le_of_ble_eq_true rfl⟩) ⟨fun a U g mk q => by obtain ⟨q0, qP, qK⟩ := q; exact ⟨q0, qP, va_K.moved (u := U) (U := U.calling g mk a) (Vm.Alike.refl U.vm) qK⟩, va_recv hKc hPc (ci := 3) (q0 := 0) rfl rfl, fun U hU hW => ⟨rfl, by rw [hU]; exact hPc, va_K.moved hW.alike hKc⟩⟩ rfl rfl hl.1 rfl (lv_room (Nat.le_of_ble_eq_true rfl)) dL_law_246 ⟨Nat.le_of_ble_eq_true rfl, Nat.le_of_ble_eq_true rfl⟩).run (fun r98 hr98 => ?_)
          obtain rfl := hr98
          refine lv_iload hx hb dL_law_249 (lv_at hl 1 rfl) ?_
          refine lv_icmp_eq (tgt := 256) hx hb dL_law_251 (by decide) (fun c99 => absurd c99 (by decide)) (fun c99 => ?_)
          refine lv_iconst (v := 0) hx hb dL_law_254 (by decide) ?_
          exact (by first | contradiction | (simp_all; done) | grind : False).elim
      · refine lv_istore (lv' := [(5, .int 2), (4, .int 0), (3, .ref q39), (2, .ref q13), (1, .ref q1), (0, .ref b)]) hx hb dL_law_225 hl (by decide) rfl (fun ls hl => ?_)
        refine lv_aload_n hx hb dL_law_227 rfl (lv_at hl 3 rfl) ?_
        refine lv_aload_n hx hb dL_law_228 rfl (lv_at hl 5 rfl) ?_
        refine lv_iload hx hb dL_law_229 (lv_at hl 1 rfl) ?_
        refine lv_iconst (v := 1) hx hb dL_law_231 (by decide) ?_
        refine lv_iadd hx hb dL_law_232 ?_
        refine W.eq (g2 := F0 m 233 ls [.int 1, .ref b, .ref q13]) rfl ?_
        refine va_sld hx hb hX hbl hbA hS (vp_in_nI (n := 1) (by decide) (by decide)) dL_law_233 ?_
        refine W.eq (g2 := F0 m 234 ls [.int (xs 1), .ref q13]) rfl ?_
        refine lv_aload_n hx hb dL_law_234 rfl (lv_at hl 5 rfl) ?_
        refine lv_iload hx hb dL_law_235 (lv_at hl 1 rfl) ?_
        refine lv_iconst (v := 2) hx hb dL_law_237 (by decide) ?_
        refine lv_iadd hx hb dL_law_238 ?_
        refine W.eq (g2 := F0 m 239 ls [.int 2, .ref b, .int (xs 1), .ref q13]) rfl ?_
        refine va_sld hx hb hX hbl hbA hS (vp_in_nI (n := 2) (by decide) (by decide)) dL_law_239 ?_
        refine W.eq (g2 := F0 m 240 ls [.int (xs 2), .int (xs 1), .ref q13]) rfl ?_
        have hPc := hP.sub (ws' := [(q13, .inr (3, [.int 0, .int 0, .ref wi_15, .ref co_16, .ref sl_17, .ref rn_18, .ref so_19, .ref bn_20, .ref sm_21, .ref ah_22])), (bn_20, .inl (d_35, 3, .inl (fun _ => 0)))]) [3, 9] rfl
        have hKc := hK.sub (tys' := [(d_35, .int)]) [8] rfl
        have hDc := hD.sub (ws' := [(q13, .inr (3, [.int 0, .int 0, .ref wi_15, .ref co_16, .ref sl_17, .ref rn_18, .ref so_19, .ref bn_20, .ref sm_21, .ref ah_22])), (bn_20, .inl (d_35, 3, .inl (fun _ => 0)))]) [3, 9] (by decide) rfl
        have hFc := va_free (wc := [(q13, .inr (3, [.int 0, .int 0, .ref wi_15, .ref co_16, .ref sl_17, .ref rn_18, .ref so_19, .ref bn_20, .ref sm_21, .ref ah_22])), (bn_20, .inl (d_35, 3, .inl (fun _ => 0)))]) hD hS hA [3, 9] rfl
        refine va_calli (va_runV (As := [.int (xs 1), .int (xs 2)]) (rest := []) ⟨hx, hb, hml, hown, hts⟩ (k3_bring l dC dI H.size q13 wi_15 co_16 sl_17 rn_18 so_19 bn_20 sm_21 ah_22 0 d_35 (xs 1) (xs 2) ) (cwV 2 hts gL_law_X3_bring rfl rfl rfl (by decide +kernel) ⟨Nat.le_of_ble_eq_true rfl, Nat.le_of_ble_eq_true rfl⟩) ⟨fun a U g mk q => by obtain ⟨q0, q1, qP, qK, qD⟩ := q; exact ⟨q0, q1, qP, va_K.moved (u := U) (U := U.calling g mk a) (Vm.Alike.refl U.vm) qK, qD⟩, va_recv hKc hPc (ci := 3) (q0 := 0) rfl rfl, fun U hU hW => ⟨rfl, by rw [hU], by rw [hU]; exact hPc, va_K.moved hW.alike hKc, hDc.weaken (fun _ _ _ _ => trivial)⟩⟩ rfl rfl hl.1 rfl (lv_room (Nat.le_of_ble_eq_true rfl)) dL_law_240 ⟨Nat.le_of_ble_eq_true rfl, Nat.le_of_ble_eq_true rfl⟩) hS (fun q _ h => hFc q h) hFc (fun r100 u t H1 locs ht hvm hr100 hB hz1 hk1 hS => ?_)
        obtain ⟨th_101, rf_102⟩ := u
        obtain ⟨hP1, hK1, hD1⟩ := hB
        rw [ht] at hP1
        have hK1 := va_K.moved hvm.symm hK1
        try dsimp only at hr100
        obtain ⟨hP, hD⟩ := va_join (wr := [(ro_3, .inl (cR_8, 6, .inr (.inr (.inr (.inr (fun _ => none)))))), (ra_5, .inl (cA_10, 12, .inl fr_12)), (su_6, .inl (cS_11, 12, .inl (fun _ => 0))), (sm_21, .inr (2, [.int 0, .ref gr_23, .ref gt_24, .ref gw_25, .ref gk_26, .ref gi_27, .ref gp_28, .ref go_29, .ref gg_30, .ref q13])), (wi_15, .inl (d_31, 6, .inl (fun _ => 0))), (co_16, .inl (d_32, 6, .inl (fun _ => 0))), (sl_17, .inl (d_33, 6, .inl (fun _ => 0))), (gr_23, .inl (d_34, 6, .inl (fun _ => 0))), (rn_18, .inl (d_36, 12, .inl fn_38)), (so_19, .inl (d_37, 12, .inl (fun _ => 0))), (q39, .inl (cA40, 1, .inr (.inl fo_74)))]) (w1 := [(q13, .inr (3, [.int th_101, .int rf_102, .ref wi_15, .ref co_16, .ref sl_17, .ref rn_18, .ref so_19, .ref bn_20, .ref sm_21, .ref ah_22]))]) hP hD [3, 9] [0, 1, 2, 4, 5, 6, 7, 8, 10, 11, 12] rfl rfl (by decide) (by decide) hk1 hFc hP1 hD1
        generalize H1 = H at hP hS ⊢
        have hP : va_P (dC, dI) vwCl [(ro_3, .inl (cR_8, 6, .inr (.inr (.inr (.inr (fun _ => none)))))), (ra_5, .inl (cA_10, 12, .inl fr_12)), (su_6, .inl (cS_11, 12, .inl (fun _ => 0))), (sm_21, .inr (2, [.int 0, .ref gr_23, .ref gt_24, .ref gw_25, .ref gk_26, .ref gi_27, .ref gp_28, .ref go_29, .ref gg_30, .ref q13])), (wi_15, .inl (d_31, 6, .inl (fun _ => 0))), (co_16, .inl (d_32, 6, .inl (fun _ => 0))), (sl_17, .inl (d_33, 6, .inl (fun _ => 0))), (gr_23, .inl (d_34, 6, .inl (fun _ => 0))), (rn_18, .inl (d_36, 12, .inl fn_38)), (so_19, .inl (d_37, 12, .inl (fun _ => 0))), (q39, .inl (cA40, 1, .inr (.inl fo_74))), (q13, .inr (3, [.int th_101, .int rf_102, .ref wi_15, .ref co_16, .ref sl_17, .ref rn_18, .ref so_19, .ref bn_20, .ref sm_21, .ref ah_22]))] H := hP
        have hD : va_D A [(ro_3, .inl (cR_8, 6, .inr (.inr (.inr (.inr (fun _ => none)))))), (ra_5, .inl (cA_10, 12, .inl fr_12)), (su_6, .inl (cS_11, 12, .inl (fun _ => 0))), (sm_21, .inr (2, [.int 0, .ref gr_23, .ref gt_24, .ref gw_25, .ref gk_26, .ref gi_27, .ref gp_28, .ref go_29, .ref gg_30, .ref q13])), (wi_15, .inl (d_31, 6, .inl (fun _ => 0))), (co_16, .inl (d_32, 6, .inl (fun _ => 0))), (sl_17, .inl (d_33, 6, .inl (fun _ => 0))), (gr_23, .inl (d_34, 6, .inl (fun _ => 0))), (rn_18, .inl (d_36, 12, .inl fn_38)), (so_19, .inl (d_37, 12, .inl (fun _ => 0))), (q39, .inl (cA40, 1, .inr (.inl fo_74))), (q13, .inr (3, [.int th_101, .int rf_102, .ref wi_15, .ref co_16, .ref sl_17, .ref rn_18, .ref so_19, .ref bn_20, .ref sm_21, .ref ah_22]))] := hD
        rcases hr100 with ⟨evr100_0, rfl, fr100_0_1, fr100_0_2⟩ | ⟨rfl, rfl, fr100_1_1⟩ | ⟨rfl, rfl, fr100_2_1, fr100_2_2⟩
        · rw [evr100_0]
          refine lv_istore (lv' := [(6, .int (xs 2)), (5, .int 2), (4, .int 0), (3, .ref q39), (2, .ref q13), (1, .ref q1), (0, .ref b)]) hx hb dL_law_243 hl (by decide) rfl (fun ls hl => ?_)
          refine lv_aload_n hx hb dL_law_245 rfl (lv_at hl 4 rfl) ?_
          have hPc := hP.sub (ws' := [(q13, .inr (3, [.int 0, .int rf_102, .ref wi_15, .ref co_16, .ref sl_17, .ref rn_18, .ref so_19, .ref bn_20, .ref sm_21, .ref ah_22]))]) [11] rfl
          have hKc := hK.sub (tys' := []) [] rfl
          refine vp_callSi (va_runV (As := []) (rest := []) ⟨hx, hb, hml, hown, hts⟩ (k3_thrown l dC dI q13 wi_15 co_16 sl_17 rn_18 so_19 bn_20 sm_21 ah_22 0 rf_102 ) (cwV 0 hts gL_law_X3_thrown rfl rfl rfl (by decide +kernel) ⟨Nat.le_of_ble_eq_true rfl, Nat.le_of_ble_eq_true rfl⟩) ⟨fun a U g mk q => by obtain ⟨q0, qP, qK⟩ := q; exact ⟨q0, qP, va_K.moved (u := U) (U := U.calling g mk a) (Vm.Alike.refl U.vm) qK⟩, va_recv hKc hPc (ci := 3) (q0 := 0) rfl rfl, fun U hU hW => ⟨rfl, by rw [hU]; exact hPc, va_K.moved hW.alike hKc⟩⟩ rfl rfl hl.1 rfl (lv_room (Nat.le_of_ble_eq_true rfl)) dL_law_246 ⟨Nat.le_of_ble_eq_true rfl, Nat.le_of_ble_eq_true rfl⟩).run (fun r103 hr103 => ?_)
          obtain rfl := hr103
          refine lv_iload hx hb dL_law_249 (lv_at hl 1 rfl) ?_
          refine lv_icmp_eq (tgt := 256) hx hb dL_law_251 (by decide) (fun c104 => absurd c104 (by decide)) (fun c104 => ?_)
          refine lv_iconst (v := 0) hx hb dL_law_254 (by decide) ?_
          exact (by first | contradiction | (simp_all; done) | grind : False).elim
        · refine lv_istore (lv' := [(6, .int 0), (5, .int 2), (4, .int 0), (3, .ref q39), (2, .ref q13), (1, .ref q1), (0, .ref b)]) hx hb dL_law_243 hl (by decide) rfl (fun ls hl => ?_)
          refine lv_aload_n hx hb dL_law_245 rfl (lv_at hl 4 rfl) ?_
          have hPc := hP.sub (ws' := [(q13, .inr (3, [.int 1, .int rf_102, .ref wi_15, .ref co_16, .ref sl_17, .ref rn_18, .ref so_19, .ref bn_20, .ref sm_21, .ref ah_22]))]) [11] rfl
          have hKc := hK.sub (tys' := []) [] rfl
          refine vp_callSi (va_runV (As := []) (rest := []) ⟨hx, hb, hml, hown, hts⟩ (k3_thrown l dC dI q13 wi_15 co_16 sl_17 rn_18 so_19 bn_20 sm_21 ah_22 1 rf_102 ) (cwV 0 hts gL_law_X3_thrown rfl rfl rfl (by decide +kernel) ⟨Nat.le_of_ble_eq_true rfl, Nat.le_of_ble_eq_true rfl⟩) ⟨fun a U g mk q => by obtain ⟨q0, qP, qK⟩ := q; exact ⟨q0, qP, va_K.moved (u := U) (U := U.calling g mk a) (Vm.Alike.refl U.vm) qK⟩, va_recv hKc hPc (ci := 3) (q0 := 0) rfl rfl, fun U hU hW => ⟨rfl, by rw [hU]; exact hPc, va_K.moved hW.alike hKc⟩⟩ rfl rfl hl.1 rfl (lv_room (Nat.le_of_ble_eq_true rfl)) dL_law_246 ⟨Nat.le_of_ble_eq_true rfl, Nat.le_of_ble_eq_true rfl⟩).run (fun r105 hr105 => ?_)
          obtain rfl := hr105
          refine lv_iload hx hb dL_law_249 (lv_at hl 1 rfl) ?_
          refine lv_icmp_eq (tgt := 256) hx hb dL_law_251 (by decide) (fun c106 => absurd c106 (by decide)) (fun c106 => ?_)
          refine lv_iconst (v := 0) hx hb dL_law_254 (by decide) ?_
          exact (by first | contradiction | (simp_all; done) | grind : False).elim
        · refine lv_istore (lv' := [(6, .int 0), (5, .int 2), (4, .int 0), (3, .ref q39), (2, .ref q13), (1, .ref q1), (0, .ref b)]) hx hb dL_law_243 hl (by decide) rfl (fun ls hl => ?_)
          refine lv_aload_n hx hb dL_law_245 rfl (lv_at hl 4 rfl) ?_
          have hPc := hP.sub (ws' := [(q13, .inr (3, [.int 2, .int rf_102, .ref wi_15, .ref co_16, .ref sl_17, .ref rn_18, .ref so_19, .ref bn_20, .ref sm_21, .ref ah_22]))]) [11] rfl
          have hKc := hK.sub (tys' := []) [] rfl
          refine vp_callSi (va_runV (As := []) (rest := []) ⟨hx, hb, hml, hown, hts⟩ (k3_thrown l dC dI q13 wi_15 co_16 sl_17 rn_18 so_19 bn_20 sm_21 ah_22 2 rf_102 ) (cwV 0 hts gL_law_X3_thrown rfl rfl rfl (by decide +kernel) ⟨Nat.le_of_ble_eq_true rfl, Nat.le_of_ble_eq_true rfl⟩) ⟨fun a U g mk q => by obtain ⟨q0, qP, qK⟩ := q; exact ⟨q0, qP, va_K.moved (u := U) (U := U.calling g mk a) (Vm.Alike.refl U.vm) qK⟩, va_recv hKc hPc (ci := 3) (q0 := 0) rfl rfl, fun U hU hW => ⟨rfl, by rw [hU]; exact hPc, va_K.moved hW.alike hKc⟩⟩ rfl rfl hl.1 rfl (lv_room (Nat.le_of_ble_eq_true rfl)) dL_law_246 ⟨Nat.le_of_ble_eq_true rfl, Nat.le_of_ble_eq_true rfl⟩).run (fun r107 hr107 => ?_)
          obtain rfl := hr107
          refine lv_iload hx hb dL_law_249 (lv_at hl 1 rfl) ?_
          refine lv_icmp_eq (tgt := 256) hx hb dL_law_251 (by decide) (fun c108 => ?_) (fun c108 => absurd c108 (by decide))
          refine lv_iload hx hb dL_law_256 (lv_at hl 1 rfl) ?_
          refine lv_if_ne (tgt := 273) hx hb dL_law_258 (by decide) (fun c109 => ?_) (fun c109 => absurd c109 (by decide))
          refine lv_goto (tgt := 1381) hx hb dL_law_273 (by decide) ?_
          refine lv_iinc (v := 7) (lv' := [(4, .int 7), (6, .int 0), (5, .int 2), (3, .ref q39), (2, .ref q13), (1, .ref q1), (0, .ref b)]) hx hb dL_law_1381 hl (k := 2) rfl (by decide) (by decide) rfl (fun ls hl => ?_)
          refine lv_goto (tgt := 23) hx hb dL_law_1384 (by decide) ?_
          refine lv_iload hx hb dL_law_23 (lv_at hl 0 rfl) ?_
          refine lv_aload_n hx hb dL_law_25 rfl (lv_at hl 6 rfl) ?_
          refine va_slen hx hb hX hbl hbA hS dL_law_26 ?_
          refine W.eq (g2 := F0 m 27 ls [.int 7, .int 7]) rfl ?_
          refine lv_bipush (v := 7) hx hb dL_law_27 (by decide) ?_
          refine lv_isub hx hb dL_law_29 ?_
          refine W.eq (g2 := F0 m 30 ls [.int 0, .int 7]) rfl ?_
          refine lv_icmp_gt (tgt := 1387) hx hb dL_law_30 (by decide) (fun c110 => ?_) (fun c110 => absurd c110 (by decide))
          refine lv_iconst (v := 1) hx hb dL_law_1387 (by decide) ?_
          refine va_forget (fun q hq => hAs _ (hS.2.2 q hq)) ?_
          refine W.widen (k := 600002) (n := 7302232) (Nat.le_of_ble_eq_true rfl) (Nat.le_of_ble_eq_true rfl) ?_
          exact lw_ret (d0 := s.drawn) (Drawn.sameBut.refl s.drawn lw_cs) hx hb hr hlocks dL_law_1388
    · rw [hje]
      -- case 2
      refine W.eq (g2 := F0 m 40 ls [.int 2]) rfl ?_
      refine lv_tableIn (off := 236) (tgt := 276) hx hb dL_law_40 (by decide) (by decide) (by rfl) (by decide) ?_
      refine lv_aload_n hx hb dL_law_276 rfl (lv_at hl 3 rfl) ?_
      refine lv_aload_n hx hb dL_law_277 rfl (lv_at hl 4 rfl) ?_
      refine lv_iload hx hb dL_law_278 (lv_at hl 0 rfl) ?_
      refine lv_iconst (v := 1) hx hb dL_law_280 (by decide) ?_
      refine lv_iadd hx hb dL_law_281 ?_
      refine W.eq (g2 := F0 m 282 ls [.int 1, .ref b, .ref q1]) rfl ?_
      refine va_sld hx hb hX hbl hbA hS (vp_in_nI (n := 1) (by decide) (by decide)) dL_law_282 ?_
      refine W.eq (g2 := F0 m 283 ls [.int (xs 1), .ref q1]) rfl ?_
      refine lv_aload_n hx hb dL_law_283 rfl (lv_at hl 4 rfl) ?_
      refine lv_iload hx hb dL_law_284 (lv_at hl 0 rfl) ?_
      refine lv_iconst (v := 2) hx hb dL_law_286 (by decide) ?_
      refine lv_iadd hx hb dL_law_287 ?_
      refine W.eq (g2 := F0 m 288 ls [.int 2, .ref b, .int (xs 1), .ref q1]) rfl ?_
      refine va_sld hx hb hX hbl hbA hS (vp_in_nI (n := 2) (by decide) (by decide)) dL_law_288 ?_
      refine W.eq (g2 := F0 m 289 ls [.int (xs 2), .int (xs 1), .ref q1]) rfl ?_
      refine lv_aload_n hx hb dL_law_289 rfl (lv_at hl 4 rfl) ?_
      refine lv_iload hx hb dL_law_290 (lv_at hl 0 rfl) ?_
      refine lv_iconst (v := 3) hx hb dL_law_292 (by decide) ?_
      refine lv_iadd hx hb dL_law_293 ?_
      refine W.eq (g2 := F0 m 294 ls [.int 3, .ref b, .int (xs 2), .int (xs 1), .ref q1]) rfl ?_
      refine va_sld hx hb hX hbl hbA hS (vp_in_nI (n := 3) (by decide) (by decide)) dL_law_294 ?_
      refine W.eq (g2 := F0 m 295 ls [.int (xs 3), .int (xs 2), .int (xs 1), .ref q1]) rfl ?_
      refine lv_aload_n hx hb dL_law_295 rfl (lv_at hl 1 rfl) ?_
      have hPc := hP.sub (ws' := [(q1, .inr (1, [.ref ro_3, .int 0, .ref ba_4, .ref ra_5, .ref su_6, .int 0, .ref tr_7])), (ra_5, .inl (cA_10, 12, .inl fr_12)), (su_6, .inl (cS_11, 12, .inl (fun _ => 0))), (q39, .inl (cA40, 1, .inr (.inl (fun _ => 0))))]) [0, 3, 4, 14] rfl
      have hKc := hK.sub (tys' := [(cA_10, .int), (cS_11, .int), (cA40, .long)]) [2, 3, 11] rfl
      have hDc := hD.sub (ws' := [(q1, .inr (1, [.ref ro_3, .int 0, .ref ba_4, .ref ra_5, .ref su_6, .int 0, .ref tr_7])), (ra_5, .inl (cA_10, 12, .inl fr_12)), (su_6, .inl (cS_11, 12, .inl (fun _ => 0))), (q39, .inl (cA40, 1, .inr (.inl (fun _ => 0))))]) [0, 3, 4, 14] (by decide) rfl
      have hFc := va_free (wc := [(q1, .inr (1, [.ref ro_3, .int 0, .ref ba_4, .ref ra_5, .ref su_6, .int 0, .ref tr_7])), (ra_5, .inl (cA_10, 12, .inl fr_12)), (su_6, .inl (cS_11, 12, .inl (fun _ => 0))), (q39, .inl (cA40, 1, .inr (.inl (fun _ => 0))))]) hD hS hA [0, 3, 4, 14] rfl
      refine va_calli (vx_runSW (As := [.ref q1, .int (xs 1), .int (xs 2), .int (xs 3), .ref q39]) (rest := []) ⟨hx, hb, hml, hown, hts⟩ (kL_setWeather l hst dC dI H.size q1 ro_3 ba_4 ra_5 su_6 tr_7 cA_10 fr_12 cS_11 q39 cA40 (fun _ => 0) (xs 1) (xs 2) (xs 3) (by first | assumption | decide | omega)) (vx_cwSW 5 hts gL_law_L_setWeather rfl rfl rfl (by decide +kernel) ⟨Nat.le_of_ble_eq_true rfl, Nat.le_of_ble_eq_true rfl⟩) ⟨fun a U g mk q => by obtain ⟨q0, q1, qP, qK, qD, qX, qT⟩ := q; exact ⟨q0, q1, qP, va_K.moved (u := U) (U := U.calling g mk a) (Vm.Alike.refl U.vm) qK, qD, zX.calling qX, zTh.calling qT⟩, fun U hU hW => ⟨rfl, by rw [hU], by rw [hU]; exact hPc, va_K.moved hW.alike hKc, hDc.weaken (fun _ _ _ _ => trivial), zX.warm hW hZX, by rw [hU]; exact zTh.at hW hZT hS hFc⟩⟩ rfl rfl hl.1 rfl (lv_room (Nat.le_of_ble_eq_true rfl)) dL_law_296 ⟨Nat.le_of_ble_eq_true rfl, Nat.le_of_ble_eq_true rfl⟩) hS (fun q _ h => hFc q h) hFc (fun r111 u t H1 locs ht hvm hr111 hB hz1 hk1 hS => ?_)
      obtain ⟨fo_112, rfl⟩ : ∃ z, z = u := ⟨_, rfl⟩
      obtain ⟨hP1, hK1, hD1⟩ := hB
      rw [ht] at hP1
      have hK1 := va_K.moved hvm.symm hK1
      try dsimp only at hr111
      obtain ⟨hP, hD⟩ := va_join (wr := [(ro_3, .inl (cR_8, 6, .inr (.inr (.inr (.inr (fun _ => none)))))), (ba_4, .inl (cB_9, 3, .inl (fun _ => 0))), (q13, .inr (3, [.int 0, .int 0, .ref wi_15, .ref co_16, .ref sl_17, .ref rn_18, .ref so_19, .ref bn_20, .ref sm_21, .ref ah_22])), (sm_21, .inr (2, [.int 0, .ref gr_23, .ref gt_24, .ref gw_25, .ref gk_26, .ref gi_27, .ref gp_28, .ref go_29, .ref gg_30, .ref q13])), (wi_15, .inl (d_31, 6, .inl (fun _ => 0))), (co_16, .inl (d_32, 6, .inl (fun _ => 0))), (sl_17, .inl (d_33, 6, .inl (fun _ => 0))), (gr_23, .inl (d_34, 6, .inl (fun _ => 0))), (bn_20, .inl (d_35, 3, .inl (fun _ => 0))), (rn_18, .inl (d_36, 12, .inl fn_38)), (so_19, .inl (d_37, 12, .inl (fun _ => 0)))]) (w1 := [(q39, .inl (cA40, 1, .inr (.inl fo_112)))]) hP hD [0, 3, 4, 14] [1, 2, 5, 6, 7, 8, 9, 10, 11, 12, 13] rfl rfl (by decide) (by decide) hk1 hFc hP1 hD1
      generalize H1 = H at hP hS ⊢
      have hP : va_P (dC, dI) vwCl [(ro_3, .inl (cR_8, 6, .inr (.inr (.inr (.inr (fun _ => none)))))), (ba_4, .inl (cB_9, 3, .inl (fun _ => 0))), (q13, .inr (3, [.int 0, .int 0, .ref wi_15, .ref co_16, .ref sl_17, .ref rn_18, .ref so_19, .ref bn_20, .ref sm_21, .ref ah_22])), (sm_21, .inr (2, [.int 0, .ref gr_23, .ref gt_24, .ref gw_25, .ref gk_26, .ref gi_27, .ref gp_28, .ref go_29, .ref gg_30, .ref q13])), (wi_15, .inl (d_31, 6, .inl (fun _ => 0))), (co_16, .inl (d_32, 6, .inl (fun _ => 0))), (sl_17, .inl (d_33, 6, .inl (fun _ => 0))), (gr_23, .inl (d_34, 6, .inl (fun _ => 0))), (bn_20, .inl (d_35, 3, .inl (fun _ => 0))), (rn_18, .inl (d_36, 12, .inl fn_38)), (so_19, .inl (d_37, 12, .inl (fun _ => 0))), (q39, .inl (cA40, 1, .inr (.inl fo_112)))] H := hP
      have hD : va_D A [(ro_3, .inl (cR_8, 6, .inr (.inr (.inr (.inr (fun _ => none)))))), (ba_4, .inl (cB_9, 3, .inl (fun _ => 0))), (q13, .inr (3, [.int 0, .int 0, .ref wi_15, .ref co_16, .ref sl_17, .ref rn_18, .ref so_19, .ref bn_20, .ref sm_21, .ref ah_22])), (sm_21, .inr (2, [.int 0, .ref gr_23, .ref gt_24, .ref gw_25, .ref gk_26, .ref gi_27, .ref gp_28, .ref go_29, .ref gg_30, .ref q13])), (wi_15, .inl (d_31, 6, .inl (fun _ => 0))), (co_16, .inl (d_32, 6, .inl (fun _ => 0))), (sl_17, .inl (d_33, 6, .inl (fun _ => 0))), (gr_23, .inl (d_34, 6, .inl (fun _ => 0))), (bn_20, .inl (d_35, 3, .inl (fun _ => 0))), (rn_18, .inl (d_36, 12, .inl fn_38)), (so_19, .inl (d_37, 12, .inl (fun _ => 0))), (q39, .inl (cA40, 1, .inr (.inl fo_112)))] := hD
      refine W.widen (k := 37) (n := 3408) (Nat.le_of_ble_eq_true rfl) (Nat.le_of_ble_eq_true rfl) ?_
      rcases hr111 with ⟨rfl, fr111_0_0, fr111_0_1, fr111_0_2⟩ | ⟨rfl, fr111_1_0⟩ | ⟨rfl, fr111_2_0, fr111_2_1⟩
      · refine lv_istore (lv' := [(5, .int 0), (4, .int 0), (3, .ref q39), (2, .ref q13), (1, .ref q1), (0, .ref b)]) hx hb dL_law_299 hl (by decide) rfl (fun ls hl => ?_)
        refine lv_aload_n hx hb dL_law_301 rfl (lv_at hl 3 rfl) ?_
        refine lv_aload_n hx hb dL_law_302 rfl (lv_at hl 5 rfl) ?_
        refine lv_iload hx hb dL_law_303 (lv_at hl 1 rfl) ?_
        refine lv_iconst (v := 1) hx hb dL_law_305 (by decide) ?_
        refine lv_iadd hx hb dL_law_306 ?_
        refine W.eq (g2 := F0 m 307 ls [.int 1, .ref b, .ref q13]) rfl ?_
        refine va_sld hx hb hX hbl hbA hS (vp_in_nI (n := 1) (by decide) (by decide)) dL_law_307 ?_
        refine W.eq (g2 := F0 m 308 ls [.int (xs 1), .ref q13]) rfl ?_
        refine lv_aload_n hx hb dL_law_308 rfl (lv_at hl 5 rfl) ?_
        refine lv_iload hx hb dL_law_309 (lv_at hl 1 rfl) ?_
        refine lv_iconst (v := 2) hx hb dL_law_311 (by decide) ?_
        refine lv_iadd hx hb dL_law_312 ?_
        refine W.eq (g2 := F0 m 313 ls [.int 2, .ref b, .int (xs 1), .ref q13]) rfl ?_
        refine va_sld hx hb hX hbl hbA hS (vp_in_nI (n := 2) (by decide) (by decide)) dL_law_313 ?_
        refine W.eq (g2 := F0 m 314 ls [.int (xs 2), .int (xs 1), .ref q13]) rfl ?_
        refine lv_aload_n hx hb dL_law_314 rfl (lv_at hl 5 rfl) ?_
        refine lv_iload hx hb dL_law_315 (lv_at hl 1 rfl) ?_
        refine lv_iconst (v := 3) hx hb dL_law_317 (by decide) ?_
        refine lv_iadd hx hb dL_law_318 ?_
        refine W.eq (g2 := F0 m 319 ls [.int 3, .ref b, .int (xs 2), .int (xs 1), .ref q13]) rfl ?_
        refine va_sld hx hb hX hbl hbA hS (vp_in_nI (n := 3) (by decide) (by decide)) dL_law_319 ?_
        refine W.eq (g2 := F0 m 320 ls [.int (xs 3), .int (xs 2), .int (xs 1), .ref q13]) rfl ?_
        have hPc := hP.sub (ws' := [(q13, .inr (3, [.int 0, .int 0, .ref wi_15, .ref co_16, .ref sl_17, .ref rn_18, .ref so_19, .ref bn_20, .ref sm_21, .ref ah_22])), (rn_18, .inl (d_36, 12, .inl fn_38)), (so_19, .inl (d_37, 12, .inl (fun _ => 0)))]) [2, 9, 10] rfl
        have hKc := hK.sub (tys' := [(d_36, .int), (d_37, .int)]) [9, 10] rfl
        have hDc := hD.sub (ws' := [(q13, .inr (3, [.int 0, .int 0, .ref wi_15, .ref co_16, .ref sl_17, .ref rn_18, .ref so_19, .ref bn_20, .ref sm_21, .ref ah_22])), (rn_18, .inl (d_36, 12, .inl fn_38)), (so_19, .inl (d_37, 12, .inl (fun _ => 0)))]) [2, 9, 10] (by decide) rfl
        have hFc := va_free (wc := [(q13, .inr (3, [.int 0, .int 0, .ref wi_15, .ref co_16, .ref sl_17, .ref rn_18, .ref so_19, .ref bn_20, .ref sm_21, .ref ah_22])), (rn_18, .inl (d_36, 12, .inl fn_38)), (so_19, .inl (d_37, 12, .inl (fun _ => 0)))]) hD hS hA [2, 9, 10] rfl
        refine va_calli (va_runV (As := [.int (xs 1), .int (xs 2), .int (xs 3)]) (rest := []) ⟨hx, hb, hml, hown, hts⟩ (k3_setWeather l dC dI H.size q13 wi_15 co_16 sl_17 rn_18 so_19 bn_20 sm_21 ah_22 0 d_36 d_37 fn_38 (xs 1) (xs 2) (xs 3) (by first | assumption | decide | omega)) (cwV 3 hts gL_law_X3_setWeather rfl rfl rfl (by decide +kernel) ⟨Nat.le_of_ble_eq_true rfl, Nat.le_of_ble_eq_true rfl⟩) ⟨fun a U g mk q => by obtain ⟨q0, q1, qP, qK, qD⟩ := q; exact ⟨q0, q1, qP, va_K.moved (u := U) (U := U.calling g mk a) (Vm.Alike.refl U.vm) qK, qD⟩, va_recv hKc hPc (ci := 3) (q0 := 0) rfl rfl, fun U hU hW => ⟨rfl, by rw [hU], by rw [hU]; exact hPc, va_K.moved hW.alike hKc, hDc.weaken (fun _ _ _ _ => trivial)⟩⟩ rfl rfl hl.1 rfl (lv_room (Nat.le_of_ble_eq_true rfl)) dL_law_320 ⟨Nat.le_of_ble_eq_true rfl, Nat.le_of_ble_eq_true rfl⟩) hS (fun q _ h => hFc q h) hFc (fun r113 u t H1 locs ht hvm hr113 hB hz1 hk1 hS => ?_)
        obtain ⟨th_114, rf_115⟩ := u
        obtain ⟨hP1, hK1, hD1⟩ := hB
        rw [ht] at hP1
        have hK1 := va_K.moved hvm.symm hK1
        try dsimp only at hr113
        obtain ⟨hP, hD⟩ := va_join (wr := [(ro_3, .inl (cR_8, 6, .inr (.inr (.inr (.inr (fun _ => none)))))), (ba_4, .inl (cB_9, 3, .inl (fun _ => 0))), (sm_21, .inr (2, [.int 0, .ref gr_23, .ref gt_24, .ref gw_25, .ref gk_26, .ref gi_27, .ref gp_28, .ref go_29, .ref gg_30, .ref q13])), (wi_15, .inl (d_31, 6, .inl (fun _ => 0))), (co_16, .inl (d_32, 6, .inl (fun _ => 0))), (sl_17, .inl (d_33, 6, .inl (fun _ => 0))), (gr_23, .inl (d_34, 6, .inl (fun _ => 0))), (bn_20, .inl (d_35, 3, .inl (fun _ => 0))), (q39, .inl (cA40, 1, .inr (.inl fo_112)))]) (w1 := [(q13, .inr (3, [.int th_114, .int rf_115, .ref wi_15, .ref co_16, .ref sl_17, .ref rn_18, .ref so_19, .ref bn_20, .ref sm_21, .ref ah_22]))]) hP hD [2, 9, 10] [0, 1, 3, 4, 5, 6, 7, 8, 11] rfl rfl (by decide) (by decide) hk1 hFc hP1 hD1
        generalize H1 = H at hP hS ⊢
        have hP : va_P (dC, dI) vwCl [(ro_3, .inl (cR_8, 6, .inr (.inr (.inr (.inr (fun _ => none)))))), (ba_4, .inl (cB_9, 3, .inl (fun _ => 0))), (sm_21, .inr (2, [.int 0, .ref gr_23, .ref gt_24, .ref gw_25, .ref gk_26, .ref gi_27, .ref gp_28, .ref go_29, .ref gg_30, .ref q13])), (wi_15, .inl (d_31, 6, .inl (fun _ => 0))), (co_16, .inl (d_32, 6, .inl (fun _ => 0))), (sl_17, .inl (d_33, 6, .inl (fun _ => 0))), (gr_23, .inl (d_34, 6, .inl (fun _ => 0))), (bn_20, .inl (d_35, 3, .inl (fun _ => 0))), (q39, .inl (cA40, 1, .inr (.inl fo_112))), (q13, .inr (3, [.int th_114, .int rf_115, .ref wi_15, .ref co_16, .ref sl_17, .ref rn_18, .ref so_19, .ref bn_20, .ref sm_21, .ref ah_22]))] H := hP
        have hD : va_D A [(ro_3, .inl (cR_8, 6, .inr (.inr (.inr (.inr (fun _ => none)))))), (ba_4, .inl (cB_9, 3, .inl (fun _ => 0))), (sm_21, .inr (2, [.int 0, .ref gr_23, .ref gt_24, .ref gw_25, .ref gk_26, .ref gi_27, .ref gp_28, .ref go_29, .ref gg_30, .ref q13])), (wi_15, .inl (d_31, 6, .inl (fun _ => 0))), (co_16, .inl (d_32, 6, .inl (fun _ => 0))), (sl_17, .inl (d_33, 6, .inl (fun _ => 0))), (gr_23, .inl (d_34, 6, .inl (fun _ => 0))), (bn_20, .inl (d_35, 3, .inl (fun _ => 0))), (q39, .inl (cA40, 1, .inr (.inl fo_112))), (q13, .inr (3, [.int th_114, .int rf_115, .ref wi_15, .ref co_16, .ref sl_17, .ref rn_18, .ref so_19, .ref bn_20, .ref sm_21, .ref ah_22]))] := hD
        rcases hr113 with ⟨rfl, rfl, fr113_0_1, fr113_0_2⟩ | ⟨rfl, rfl, fr113_1_1⟩ | ⟨rfl, rfl, fr113_2_1, fr113_2_2⟩
        · refine lv_istore (lv' := [(6, .int 40), (5, .int 0), (4, .int 0), (3, .ref q39), (2, .ref q13), (1, .ref q1), (0, .ref b)]) hx hb dL_law_323 hl (by decide) rfl (fun ls hl => ?_)
          refine lv_aload_n hx hb dL_law_325 rfl (lv_at hl 4 rfl) ?_
          have hPc := hP.sub (ws' := [(q13, .inr (3, [.int 0, .int rf_115, .ref wi_15, .ref co_16, .ref sl_17, .ref rn_18, .ref so_19, .ref bn_20, .ref sm_21, .ref ah_22]))]) [9] rfl
          have hKc := hK.sub (tys' := []) [] rfl
          refine vp_callSi (va_runV (As := []) (rest := []) ⟨hx, hb, hml, hown, hts⟩ (k3_thrown l dC dI q13 wi_15 co_16 sl_17 rn_18 so_19 bn_20 sm_21 ah_22 0 rf_115 ) (cwV 0 hts gL_law_X3_thrown rfl rfl rfl (by decide +kernel) ⟨Nat.le_of_ble_eq_true rfl, Nat.le_of_ble_eq_true rfl⟩) ⟨fun a U g mk q => by obtain ⟨q0, qP, qK⟩ := q; exact ⟨q0, qP, va_K.moved (u := U) (U := U.calling g mk a) (Vm.Alike.refl U.vm) qK⟩, va_recv hKc hPc (ci := 3) (q0 := 0) rfl rfl, fun U hU hW => ⟨rfl, by rw [hU]; exact hPc, va_K.moved hW.alike hKc⟩⟩ rfl rfl hl.1 rfl (lv_room (Nat.le_of_ble_eq_true rfl)) dL_law_326 ⟨Nat.le_of_ble_eq_true rfl, Nat.le_of_ble_eq_true rfl⟩).run (fun r116 hr116 => ?_)
          obtain rfl := hr116
          refine lv_iload hx hb dL_law_329 (lv_at hl 1 rfl) ?_
          refine lv_icmp_eq (tgt := 336) hx hb dL_law_331 (by decide) (fun c117 => ?_) (fun c117 => absurd c117 (by decide))
          refine lv_iload hx hb dL_law_336 (lv_at hl 1 rfl) ?_
          refine lv_if_ne (tgt := 353) hx hb dL_law_338 (by decide) (fun c118 => absurd c118 (by decide)) (fun c118 => ?_)
          refine lv_aload_n hx hb dL_law_341 rfl (lv_at hl 3 rfl) ?_
          refine lv_iconst (v := 0) hx hb dL_law_342 (by decide) ?_
          refine va_lald hx hb hK hP 8 11 rfl rfl (vp_in_nI (n := 0) (by decide) (by decide)) dL_law_343 ?_
          refine lv_topl (fun w119 ew119 => ?_)
          refine lv_iload hx hb dL_law_344 (lv_at hl 0 rfl) ?_
          refine lv_i2l (v := 40) hx hb dL_law_346 (by first | rfl | decide) ?_
          refine W.lcmp hx hb dL_law_347 ?_
          refine lv_topi (fun x120 ex120 => ?_)
          refine lv_if_eq (tgt := 353) hx hb dL_law_348 (by decide) (fun c121 => ?_) (fun c121 => absurd (ex120.trans (zCmp (ew119.trans (by assumption)))) c121)
          refine lv_goto (tgt := 1381) hx hb dL_law_353 (by decide) ?_
          refine lv_iinc (v := 7) (lv' := [(4, .int 7), (6, .int 40), (5, .int 0), (3, .ref q39), (2, .ref q13), (1, .ref q1), (0, .ref b)]) hx hb dL_law_1381 hl (k := 2) rfl (by decide) (by decide) rfl (fun ls hl => ?_)
          refine lv_goto (tgt := 23) hx hb dL_law_1384 (by decide) ?_
          refine lv_iload hx hb dL_law_23 (lv_at hl 0 rfl) ?_
          refine lv_aload_n hx hb dL_law_25 rfl (lv_at hl 6 rfl) ?_
          refine va_slen hx hb hX hbl hbA hS dL_law_26 ?_
          refine W.eq (g2 := F0 m 27 ls [.int 7, .int 7]) rfl ?_
          refine lv_bipush (v := 7) hx hb dL_law_27 (by decide) ?_
          refine lv_isub hx hb dL_law_29 ?_
          refine W.eq (g2 := F0 m 30 ls [.int 0, .int 7]) rfl ?_
          refine lv_icmp_gt (tgt := 1387) hx hb dL_law_30 (by decide) (fun c122 => ?_) (fun c122 => absurd c122 (by decide))
          refine lv_iconst (v := 1) hx hb dL_law_1387 (by decide) ?_
          refine va_forget (fun q hq => hAs _ (hS.2.2 q hq)) ?_
          refine W.widen (k := 600002) (n := 7302232) (Nat.le_of_ble_eq_true rfl) (Nat.le_of_ble_eq_true rfl) ?_
          exact lw_ret (d0 := s.drawn) (Drawn.sameBut.refl s.drawn lw_cs) hx hb hr hlocks dL_law_1388
        · refine lv_istore (lv' := [(6, .int 0), (5, .int 0), (4, .int 0), (3, .ref q39), (2, .ref q13), (1, .ref q1), (0, .ref b)]) hx hb dL_law_323 hl (by decide) rfl (fun ls hl => ?_)
          refine lv_aload_n hx hb dL_law_325 rfl (lv_at hl 4 rfl) ?_
          have hPc := hP.sub (ws' := [(q13, .inr (3, [.int 1, .int rf_115, .ref wi_15, .ref co_16, .ref sl_17, .ref rn_18, .ref so_19, .ref bn_20, .ref sm_21, .ref ah_22]))]) [9] rfl
          have hKc := hK.sub (tys' := []) [] rfl
          refine vp_callSi (va_runV (As := []) (rest := []) ⟨hx, hb, hml, hown, hts⟩ (k3_thrown l dC dI q13 wi_15 co_16 sl_17 rn_18 so_19 bn_20 sm_21 ah_22 1 rf_115 ) (cwV 0 hts gL_law_X3_thrown rfl rfl rfl (by decide +kernel) ⟨Nat.le_of_ble_eq_true rfl, Nat.le_of_ble_eq_true rfl⟩) ⟨fun a U g mk q => by obtain ⟨q0, qP, qK⟩ := q; exact ⟨q0, qP, va_K.moved (u := U) (U := U.calling g mk a) (Vm.Alike.refl U.vm) qK⟩, va_recv hKc hPc (ci := 3) (q0 := 0) rfl rfl, fun U hU hW => ⟨rfl, by rw [hU]; exact hPc, va_K.moved hW.alike hKc⟩⟩ rfl rfl hl.1 rfl (lv_room (Nat.le_of_ble_eq_true rfl)) dL_law_326 ⟨Nat.le_of_ble_eq_true rfl, Nat.le_of_ble_eq_true rfl⟩).run (fun r123 hr123 => ?_)
          obtain rfl := hr123
          refine lv_iload hx hb dL_law_329 (lv_at hl 1 rfl) ?_
          refine lv_icmp_eq (tgt := 336) hx hb dL_law_331 (by decide) (fun c124 => absurd c124 (by decide)) (fun c124 => ?_)
          refine lv_iconst (v := 0) hx hb dL_law_334 (by decide) ?_
          exact (by first | contradiction | (simp_all; done) | grind : False).elim
        · refine lv_istore (lv' := [(6, .int 0), (5, .int 0), (4, .int 0), (3, .ref q39), (2, .ref q13), (1, .ref q1), (0, .ref b)]) hx hb dL_law_323 hl (by decide) rfl (fun ls hl => ?_)
          refine lv_aload_n hx hb dL_law_325 rfl (lv_at hl 4 rfl) ?_
          have hPc := hP.sub (ws' := [(q13, .inr (3, [.int 2, .int rf_115, .ref wi_15, .ref co_16, .ref sl_17, .ref rn_18, .ref so_19, .ref bn_20, .ref sm_21, .ref ah_22]))]) [9] rfl
          have hKc := hK.sub (tys' := []) [] rfl
          refine vp_callSi (va_runV (As := []) (rest := []) ⟨hx, hb, hml, hown, hts⟩ (k3_thrown l dC dI q13 wi_15 co_16 sl_17 rn_18 so_19 bn_20 sm_21 ah_22 2 rf_115 ) (cwV 0 hts gL_law_X3_thrown rfl rfl rfl (by decide +kernel) ⟨Nat.le_of_ble_eq_true rfl, Nat.le_of_ble_eq_true rfl⟩) ⟨fun a U g mk q => by obtain ⟨q0, qP, qK⟩ := q; exact ⟨q0, qP, va_K.moved (u := U) (U := U.calling g mk a) (Vm.Alike.refl U.vm) qK⟩, va_recv hKc hPc (ci := 3) (q0 := 0) rfl rfl, fun U hU hW => ⟨rfl, by rw [hU]; exact hPc, va_K.moved hW.alike hKc⟩⟩ rfl rfl hl.1 rfl (lv_room (Nat.le_of_ble_eq_true rfl)) dL_law_326 ⟨Nat.le_of_ble_eq_true rfl, Nat.le_of_ble_eq_true rfl⟩).run (fun r125 hr125 => ?_)
          obtain rfl := hr125
          refine lv_iload hx hb dL_law_329 (lv_at hl 1 rfl) ?_
          refine lv_icmp_eq (tgt := 336) hx hb dL_law_331 (by decide) (fun c126 => absurd c126 (by decide)) (fun c126 => ?_)
          refine lv_iconst (v := 0) hx hb dL_law_334 (by decide) ?_
          exact (by first | contradiction | (simp_all; done) | grind : False).elim
      · refine lv_istore (lv' := [(5, .int 1), (4, .int 0), (3, .ref q39), (2, .ref q13), (1, .ref q1), (0, .ref b)]) hx hb dL_law_299 hl (by decide) rfl (fun ls hl => ?_)
        refine lv_aload_n hx hb dL_law_301 rfl (lv_at hl 3 rfl) ?_
        refine lv_aload_n hx hb dL_law_302 rfl (lv_at hl 5 rfl) ?_
        refine lv_iload hx hb dL_law_303 (lv_at hl 1 rfl) ?_
        refine lv_iconst (v := 1) hx hb dL_law_305 (by decide) ?_
        refine lv_iadd hx hb dL_law_306 ?_
        refine W.eq (g2 := F0 m 307 ls [.int 1, .ref b, .ref q13]) rfl ?_
        refine va_sld hx hb hX hbl hbA hS (vp_in_nI (n := 1) (by decide) (by decide)) dL_law_307 ?_
        refine W.eq (g2 := F0 m 308 ls [.int (xs 1), .ref q13]) rfl ?_
        refine lv_aload_n hx hb dL_law_308 rfl (lv_at hl 5 rfl) ?_
        refine lv_iload hx hb dL_law_309 (lv_at hl 1 rfl) ?_
        refine lv_iconst (v := 2) hx hb dL_law_311 (by decide) ?_
        refine lv_iadd hx hb dL_law_312 ?_
        refine W.eq (g2 := F0 m 313 ls [.int 2, .ref b, .int (xs 1), .ref q13]) rfl ?_
        refine va_sld hx hb hX hbl hbA hS (vp_in_nI (n := 2) (by decide) (by decide)) dL_law_313 ?_
        refine W.eq (g2 := F0 m 314 ls [.int (xs 2), .int (xs 1), .ref q13]) rfl ?_
        refine lv_aload_n hx hb dL_law_314 rfl (lv_at hl 5 rfl) ?_
        refine lv_iload hx hb dL_law_315 (lv_at hl 1 rfl) ?_
        refine lv_iconst (v := 3) hx hb dL_law_317 (by decide) ?_
        refine lv_iadd hx hb dL_law_318 ?_
        refine W.eq (g2 := F0 m 319 ls [.int 3, .ref b, .int (xs 2), .int (xs 1), .ref q13]) rfl ?_
        refine va_sld hx hb hX hbl hbA hS (vp_in_nI (n := 3) (by decide) (by decide)) dL_law_319 ?_
        refine W.eq (g2 := F0 m 320 ls [.int (xs 3), .int (xs 2), .int (xs 1), .ref q13]) rfl ?_
        have hPc := hP.sub (ws' := [(q13, .inr (3, [.int 0, .int 0, .ref wi_15, .ref co_16, .ref sl_17, .ref rn_18, .ref so_19, .ref bn_20, .ref sm_21, .ref ah_22])), (rn_18, .inl (d_36, 12, .inl fn_38)), (so_19, .inl (d_37, 12, .inl (fun _ => 0)))]) [2, 9, 10] rfl
        have hKc := hK.sub (tys' := [(d_36, .int), (d_37, .int)]) [9, 10] rfl
        have hDc := hD.sub (ws' := [(q13, .inr (3, [.int 0, .int 0, .ref wi_15, .ref co_16, .ref sl_17, .ref rn_18, .ref so_19, .ref bn_20, .ref sm_21, .ref ah_22])), (rn_18, .inl (d_36, 12, .inl fn_38)), (so_19, .inl (d_37, 12, .inl (fun _ => 0)))]) [2, 9, 10] (by decide) rfl
        have hFc := va_free (wc := [(q13, .inr (3, [.int 0, .int 0, .ref wi_15, .ref co_16, .ref sl_17, .ref rn_18, .ref so_19, .ref bn_20, .ref sm_21, .ref ah_22])), (rn_18, .inl (d_36, 12, .inl fn_38)), (so_19, .inl (d_37, 12, .inl (fun _ => 0)))]) hD hS hA [2, 9, 10] rfl
        refine va_calli (va_runV (As := [.int (xs 1), .int (xs 2), .int (xs 3)]) (rest := []) ⟨hx, hb, hml, hown, hts⟩ (k3_setWeather l dC dI H.size q13 wi_15 co_16 sl_17 rn_18 so_19 bn_20 sm_21 ah_22 0 d_36 d_37 fn_38 (xs 1) (xs 2) (xs 3) (by first | assumption | decide | omega)) (cwV 3 hts gL_law_X3_setWeather rfl rfl rfl (by decide +kernel) ⟨Nat.le_of_ble_eq_true rfl, Nat.le_of_ble_eq_true rfl⟩) ⟨fun a U g mk q => by obtain ⟨q0, q1, qP, qK, qD⟩ := q; exact ⟨q0, q1, qP, va_K.moved (u := U) (U := U.calling g mk a) (Vm.Alike.refl U.vm) qK, qD⟩, va_recv hKc hPc (ci := 3) (q0 := 0) rfl rfl, fun U hU hW => ⟨rfl, by rw [hU], by rw [hU]; exact hPc, va_K.moved hW.alike hKc, hDc.weaken (fun _ _ _ _ => trivial)⟩⟩ rfl rfl hl.1 rfl (lv_room (Nat.le_of_ble_eq_true rfl)) dL_law_320 ⟨Nat.le_of_ble_eq_true rfl, Nat.le_of_ble_eq_true rfl⟩) hS (fun q _ h => hFc q h) hFc (fun r127 u t H1 locs ht hvm hr127 hB hz1 hk1 hS => ?_)
        obtain ⟨th_128, rf_129⟩ := u
        obtain ⟨hP1, hK1, hD1⟩ := hB
        rw [ht] at hP1
        have hK1 := va_K.moved hvm.symm hK1
        try dsimp only at hr127
        obtain ⟨hP, hD⟩ := va_join (wr := [(ro_3, .inl (cR_8, 6, .inr (.inr (.inr (.inr (fun _ => none)))))), (ba_4, .inl (cB_9, 3, .inl (fun _ => 0))), (sm_21, .inr (2, [.int 0, .ref gr_23, .ref gt_24, .ref gw_25, .ref gk_26, .ref gi_27, .ref gp_28, .ref go_29, .ref gg_30, .ref q13])), (wi_15, .inl (d_31, 6, .inl (fun _ => 0))), (co_16, .inl (d_32, 6, .inl (fun _ => 0))), (sl_17, .inl (d_33, 6, .inl (fun _ => 0))), (gr_23, .inl (d_34, 6, .inl (fun _ => 0))), (bn_20, .inl (d_35, 3, .inl (fun _ => 0))), (q39, .inl (cA40, 1, .inr (.inl fo_112)))]) (w1 := [(q13, .inr (3, [.int th_128, .int rf_129, .ref wi_15, .ref co_16, .ref sl_17, .ref rn_18, .ref so_19, .ref bn_20, .ref sm_21, .ref ah_22]))]) hP hD [2, 9, 10] [0, 1, 3, 4, 5, 6, 7, 8, 11] rfl rfl (by decide) (by decide) hk1 hFc hP1 hD1
        generalize H1 = H at hP hS ⊢
        have hP : va_P (dC, dI) vwCl [(ro_3, .inl (cR_8, 6, .inr (.inr (.inr (.inr (fun _ => none)))))), (ba_4, .inl (cB_9, 3, .inl (fun _ => 0))), (sm_21, .inr (2, [.int 0, .ref gr_23, .ref gt_24, .ref gw_25, .ref gk_26, .ref gi_27, .ref gp_28, .ref go_29, .ref gg_30, .ref q13])), (wi_15, .inl (d_31, 6, .inl (fun _ => 0))), (co_16, .inl (d_32, 6, .inl (fun _ => 0))), (sl_17, .inl (d_33, 6, .inl (fun _ => 0))), (gr_23, .inl (d_34, 6, .inl (fun _ => 0))), (bn_20, .inl (d_35, 3, .inl (fun _ => 0))), (q39, .inl (cA40, 1, .inr (.inl fo_112))), (q13, .inr (3, [.int th_128, .int rf_129, .ref wi_15, .ref co_16, .ref sl_17, .ref rn_18, .ref so_19, .ref bn_20, .ref sm_21, .ref ah_22]))] H := hP
        have hD : va_D A [(ro_3, .inl (cR_8, 6, .inr (.inr (.inr (.inr (fun _ => none)))))), (ba_4, .inl (cB_9, 3, .inl (fun _ => 0))), (sm_21, .inr (2, [.int 0, .ref gr_23, .ref gt_24, .ref gw_25, .ref gk_26, .ref gi_27, .ref gp_28, .ref go_29, .ref gg_30, .ref q13])), (wi_15, .inl (d_31, 6, .inl (fun _ => 0))), (co_16, .inl (d_32, 6, .inl (fun _ => 0))), (sl_17, .inl (d_33, 6, .inl (fun _ => 0))), (gr_23, .inl (d_34, 6, .inl (fun _ => 0))), (bn_20, .inl (d_35, 3, .inl (fun _ => 0))), (q39, .inl (cA40, 1, .inr (.inl fo_112))), (q13, .inr (3, [.int th_128, .int rf_129, .ref wi_15, .ref co_16, .ref sl_17, .ref rn_18, .ref so_19, .ref bn_20, .ref sm_21, .ref ah_22]))] := hD
        rcases hr127 with ⟨rfl, rfl, fr127_0_1, fr127_0_2⟩ | ⟨rfl, rfl, fr127_1_1⟩ | ⟨rfl, rfl, fr127_2_1, fr127_2_2⟩
        · refine lv_istore (lv' := [(6, .int 40), (5, .int 1), (4, .int 0), (3, .ref q39), (2, .ref q13), (1, .ref q1), (0, .ref b)]) hx hb dL_law_323 hl (by decide) rfl (fun ls hl => ?_)
          refine lv_aload_n hx hb dL_law_325 rfl (lv_at hl 4 rfl) ?_
          have hPc := hP.sub (ws' := [(q13, .inr (3, [.int 0, .int rf_129, .ref wi_15, .ref co_16, .ref sl_17, .ref rn_18, .ref so_19, .ref bn_20, .ref sm_21, .ref ah_22]))]) [9] rfl
          have hKc := hK.sub (tys' := []) [] rfl
          refine vp_callSi (va_runV (As := []) (rest := []) ⟨hx, hb, hml, hown, hts⟩ (k3_thrown l dC dI q13 wi_15 co_16 sl_17 rn_18 so_19 bn_20 sm_21 ah_22 0 rf_129 ) (cwV 0 hts gL_law_X3_thrown rfl rfl rfl (by decide +kernel) ⟨Nat.le_of_ble_eq_true rfl, Nat.le_of_ble_eq_true rfl⟩) ⟨fun a U g mk q => by obtain ⟨q0, qP, qK⟩ := q; exact ⟨q0, qP, va_K.moved (u := U) (U := U.calling g mk a) (Vm.Alike.refl U.vm) qK⟩, va_recv hKc hPc (ci := 3) (q0 := 0) rfl rfl, fun U hU hW => ⟨rfl, by rw [hU]; exact hPc, va_K.moved hW.alike hKc⟩⟩ rfl rfl hl.1 rfl (lv_room (Nat.le_of_ble_eq_true rfl)) dL_law_326 ⟨Nat.le_of_ble_eq_true rfl, Nat.le_of_ble_eq_true rfl⟩).run (fun r130 hr130 => ?_)
          obtain rfl := hr130
          refine lv_iload hx hb dL_law_329 (lv_at hl 1 rfl) ?_
          refine lv_icmp_eq (tgt := 336) hx hb dL_law_331 (by decide) (fun c131 => absurd c131 (by decide)) (fun c131 => ?_)
          refine lv_iconst (v := 0) hx hb dL_law_334 (by decide) ?_
          exact (by first | contradiction | (simp_all; done) | grind : False).elim
        · refine lv_istore (lv' := [(6, .int 0), (5, .int 1), (4, .int 0), (3, .ref q39), (2, .ref q13), (1, .ref q1), (0, .ref b)]) hx hb dL_law_323 hl (by decide) rfl (fun ls hl => ?_)
          refine lv_aload_n hx hb dL_law_325 rfl (lv_at hl 4 rfl) ?_
          have hPc := hP.sub (ws' := [(q13, .inr (3, [.int 1, .int rf_129, .ref wi_15, .ref co_16, .ref sl_17, .ref rn_18, .ref so_19, .ref bn_20, .ref sm_21, .ref ah_22]))]) [9] rfl
          have hKc := hK.sub (tys' := []) [] rfl
          refine vp_callSi (va_runV (As := []) (rest := []) ⟨hx, hb, hml, hown, hts⟩ (k3_thrown l dC dI q13 wi_15 co_16 sl_17 rn_18 so_19 bn_20 sm_21 ah_22 1 rf_129 ) (cwV 0 hts gL_law_X3_thrown rfl rfl rfl (by decide +kernel) ⟨Nat.le_of_ble_eq_true rfl, Nat.le_of_ble_eq_true rfl⟩) ⟨fun a U g mk q => by obtain ⟨q0, qP, qK⟩ := q; exact ⟨q0, qP, va_K.moved (u := U) (U := U.calling g mk a) (Vm.Alike.refl U.vm) qK⟩, va_recv hKc hPc (ci := 3) (q0 := 0) rfl rfl, fun U hU hW => ⟨rfl, by rw [hU]; exact hPc, va_K.moved hW.alike hKc⟩⟩ rfl rfl hl.1 rfl (lv_room (Nat.le_of_ble_eq_true rfl)) dL_law_326 ⟨Nat.le_of_ble_eq_true rfl, Nat.le_of_ble_eq_true rfl⟩).run (fun r132 hr132 => ?_)
          obtain rfl := hr132
          refine lv_iload hx hb dL_law_329 (lv_at hl 1 rfl) ?_
          refine lv_icmp_eq (tgt := 336) hx hb dL_law_331 (by decide) (fun c133 => ?_) (fun c133 => absurd c133 (by decide))
          refine lv_iload hx hb dL_law_336 (lv_at hl 1 rfl) ?_
          refine lv_if_ne (tgt := 353) hx hb dL_law_338 (by decide) (fun c134 => ?_) (fun c134 => absurd c134 (by decide))
          refine lv_goto (tgt := 1381) hx hb dL_law_353 (by decide) ?_
          refine lv_iinc (v := 7) (lv' := [(4, .int 7), (6, .int 0), (5, .int 1), (3, .ref q39), (2, .ref q13), (1, .ref q1), (0, .ref b)]) hx hb dL_law_1381 hl (k := 2) rfl (by decide) (by decide) rfl (fun ls hl => ?_)
          refine lv_goto (tgt := 23) hx hb dL_law_1384 (by decide) ?_
          refine lv_iload hx hb dL_law_23 (lv_at hl 0 rfl) ?_
          refine lv_aload_n hx hb dL_law_25 rfl (lv_at hl 6 rfl) ?_
          refine va_slen hx hb hX hbl hbA hS dL_law_26 ?_
          refine W.eq (g2 := F0 m 27 ls [.int 7, .int 7]) rfl ?_
          refine lv_bipush (v := 7) hx hb dL_law_27 (by decide) ?_
          refine lv_isub hx hb dL_law_29 ?_
          refine W.eq (g2 := F0 m 30 ls [.int 0, .int 7]) rfl ?_
          refine lv_icmp_gt (tgt := 1387) hx hb dL_law_30 (by decide) (fun c135 => ?_) (fun c135 => absurd c135 (by decide))
          refine lv_iconst (v := 1) hx hb dL_law_1387 (by decide) ?_
          refine va_forget (fun q hq => hAs _ (hS.2.2 q hq)) ?_
          refine W.widen (k := 600002) (n := 7302232) (Nat.le_of_ble_eq_true rfl) (Nat.le_of_ble_eq_true rfl) ?_
          exact lw_ret (d0 := s.drawn) (Drawn.sameBut.refl s.drawn lw_cs) hx hb hr hlocks dL_law_1388
        · refine lv_istore (lv' := [(6, .int 0), (5, .int 1), (4, .int 0), (3, .ref q39), (2, .ref q13), (1, .ref q1), (0, .ref b)]) hx hb dL_law_323 hl (by decide) rfl (fun ls hl => ?_)
          refine lv_aload_n hx hb dL_law_325 rfl (lv_at hl 4 rfl) ?_
          have hPc := hP.sub (ws' := [(q13, .inr (3, [.int 2, .int rf_129, .ref wi_15, .ref co_16, .ref sl_17, .ref rn_18, .ref so_19, .ref bn_20, .ref sm_21, .ref ah_22]))]) [9] rfl
          have hKc := hK.sub (tys' := []) [] rfl
          refine vp_callSi (va_runV (As := []) (rest := []) ⟨hx, hb, hml, hown, hts⟩ (k3_thrown l dC dI q13 wi_15 co_16 sl_17 rn_18 so_19 bn_20 sm_21 ah_22 2 rf_129 ) (cwV 0 hts gL_law_X3_thrown rfl rfl rfl (by decide +kernel) ⟨Nat.le_of_ble_eq_true rfl, Nat.le_of_ble_eq_true rfl⟩) ⟨fun a U g mk q => by obtain ⟨q0, qP, qK⟩ := q; exact ⟨q0, qP, va_K.moved (u := U) (U := U.calling g mk a) (Vm.Alike.refl U.vm) qK⟩, va_recv hKc hPc (ci := 3) (q0 := 0) rfl rfl, fun U hU hW => ⟨rfl, by rw [hU]; exact hPc, va_K.moved hW.alike hKc⟩⟩ rfl rfl hl.1 rfl (lv_room (Nat.le_of_ble_eq_true rfl)) dL_law_326 ⟨Nat.le_of_ble_eq_true rfl, Nat.le_of_ble_eq_true rfl⟩).run (fun r136 hr136 => ?_)
          obtain rfl := hr136
          refine lv_iload hx hb dL_law_329 (lv_at hl 1 rfl) ?_
          refine lv_icmp_eq (tgt := 336) hx hb dL_law_331 (by decide) (fun c137 => absurd c137 (by decide)) (fun c137 => ?_)
          refine lv_iconst (v := 0) hx hb dL_law_334 (by decide) ?_
          exact (by first | contradiction | (simp_all; done) | grind : False).elim
      · refine lv_istore (lv' := [(5, .int 2), (4, .int 0), (3, .ref q39), (2, .ref q13), (1, .ref q1), (0, .ref b)]) hx hb dL_law_299 hl (by decide) rfl (fun ls hl => ?_)
        refine lv_aload_n hx hb dL_law_301 rfl (lv_at hl 3 rfl) ?_
        refine lv_aload_n hx hb dL_law_302 rfl (lv_at hl 5 rfl) ?_
        refine lv_iload hx hb dL_law_303 (lv_at hl 1 rfl) ?_
        refine lv_iconst (v := 1) hx hb dL_law_305 (by decide) ?_
        refine lv_iadd hx hb dL_law_306 ?_
        refine W.eq (g2 := F0 m 307 ls [.int 1, .ref b, .ref q13]) rfl ?_
        refine va_sld hx hb hX hbl hbA hS (vp_in_nI (n := 1) (by decide) (by decide)) dL_law_307 ?_
        refine W.eq (g2 := F0 m 308 ls [.int (xs 1), .ref q13]) rfl ?_
        refine lv_aload_n hx hb dL_law_308 rfl (lv_at hl 5 rfl) ?_
        refine lv_iload hx hb dL_law_309 (lv_at hl 1 rfl) ?_
        refine lv_iconst (v := 2) hx hb dL_law_311 (by decide) ?_
        refine lv_iadd hx hb dL_law_312 ?_
        refine W.eq (g2 := F0 m 313 ls [.int 2, .ref b, .int (xs 1), .ref q13]) rfl ?_
        refine va_sld hx hb hX hbl hbA hS (vp_in_nI (n := 2) (by decide) (by decide)) dL_law_313 ?_
        refine W.eq (g2 := F0 m 314 ls [.int (xs 2), .int (xs 1), .ref q13]) rfl ?_
        refine lv_aload_n hx hb dL_law_314 rfl (lv_at hl 5 rfl) ?_
        refine lv_iload hx hb dL_law_315 (lv_at hl 1 rfl) ?_
        refine lv_iconst (v := 3) hx hb dL_law_317 (by decide) ?_
        refine lv_iadd hx hb dL_law_318 ?_
        refine W.eq (g2 := F0 m 319 ls [.int 3, .ref b, .int (xs 2), .int (xs 1), .ref q13]) rfl ?_
        refine va_sld hx hb hX hbl hbA hS (vp_in_nI (n := 3) (by decide) (by decide)) dL_law_319 ?_
        refine W.eq (g2 := F0 m 320 ls [.int (xs 3), .int (xs 2), .int (xs 1), .ref q13]) rfl ?_
        have hPc := hP.sub (ws' := [(q13, .inr (3, [.int 0, .int 0, .ref wi_15, .ref co_16, .ref sl_17, .ref rn_18, .ref so_19, .ref bn_20, .ref sm_21, .ref ah_22])), (rn_18, .inl (d_36, 12, .inl fn_38)), (so_19, .inl (d_37, 12, .inl (fun _ => 0)))]) [2, 9, 10] rfl
        have hKc := hK.sub (tys' := [(d_36, .int), (d_37, .int)]) [9, 10] rfl
        have hDc := hD.sub (ws' := [(q13, .inr (3, [.int 0, .int 0, .ref wi_15, .ref co_16, .ref sl_17, .ref rn_18, .ref so_19, .ref bn_20, .ref sm_21, .ref ah_22])), (rn_18, .inl (d_36, 12, .inl fn_38)), (so_19, .inl (d_37, 12, .inl (fun _ => 0)))]) [2, 9, 10] (by decide) rfl
        have hFc := va_free (wc := [(q13, .inr (3, [.int 0, .int 0, .ref wi_15, .ref co_16, .ref sl_17, .ref rn_18, .ref so_19, .ref bn_20, .ref sm_21, .ref ah_22])), (rn_18, .inl (d_36, 12, .inl fn_38)), (so_19, .inl (d_37, 12, .inl (fun _ => 0)))]) hD hS hA [2, 9, 10] rfl
        refine va_calli (va_runV (As := [.int (xs 1), .int (xs 2), .int (xs 3)]) (rest := []) ⟨hx, hb, hml, hown, hts⟩ (k3_setWeather l dC dI H.size q13 wi_15 co_16 sl_17 rn_18 so_19 bn_20 sm_21 ah_22 0 d_36 d_37 fn_38 (xs 1) (xs 2) (xs 3) (by first | assumption | decide | omega)) (cwV 3 hts gL_law_X3_setWeather rfl rfl rfl (by decide +kernel) ⟨Nat.le_of_ble_eq_true rfl, Nat.le_of_ble_eq_true rfl⟩) ⟨fun a U g mk q => by obtain ⟨q0, q1, qP, qK, qD⟩ := q; exact ⟨q0, q1, qP, va_K.moved (u := U) (U := U.calling g mk a) (Vm.Alike.refl U.vm) qK, qD⟩, va_recv hKc hPc (ci := 3) (q0 := 0) rfl rfl, fun U hU hW => ⟨rfl, by rw [hU], by rw [hU]; exact hPc, va_K.moved hW.alike hKc, hDc.weaken (fun _ _ _ _ => trivial)⟩⟩ rfl rfl hl.1 rfl (lv_room (Nat.le_of_ble_eq_true rfl)) dL_law_320 ⟨Nat.le_of_ble_eq_true rfl, Nat.le_of_ble_eq_true rfl⟩) hS (fun q _ h => hFc q h) hFc (fun r138 u t H1 locs ht hvm hr138 hB hz1 hk1 hS => ?_)
        obtain ⟨th_139, rf_140⟩ := u
        obtain ⟨hP1, hK1, hD1⟩ := hB
        rw [ht] at hP1
        have hK1 := va_K.moved hvm.symm hK1
        try dsimp only at hr138
        obtain ⟨hP, hD⟩ := va_join (wr := [(ro_3, .inl (cR_8, 6, .inr (.inr (.inr (.inr (fun _ => none)))))), (ba_4, .inl (cB_9, 3, .inl (fun _ => 0))), (sm_21, .inr (2, [.int 0, .ref gr_23, .ref gt_24, .ref gw_25, .ref gk_26, .ref gi_27, .ref gp_28, .ref go_29, .ref gg_30, .ref q13])), (wi_15, .inl (d_31, 6, .inl (fun _ => 0))), (co_16, .inl (d_32, 6, .inl (fun _ => 0))), (sl_17, .inl (d_33, 6, .inl (fun _ => 0))), (gr_23, .inl (d_34, 6, .inl (fun _ => 0))), (bn_20, .inl (d_35, 3, .inl (fun _ => 0))), (q39, .inl (cA40, 1, .inr (.inl fo_112)))]) (w1 := [(q13, .inr (3, [.int th_139, .int rf_140, .ref wi_15, .ref co_16, .ref sl_17, .ref rn_18, .ref so_19, .ref bn_20, .ref sm_21, .ref ah_22]))]) hP hD [2, 9, 10] [0, 1, 3, 4, 5, 6, 7, 8, 11] rfl rfl (by decide) (by decide) hk1 hFc hP1 hD1
        generalize H1 = H at hP hS ⊢
        have hP : va_P (dC, dI) vwCl [(ro_3, .inl (cR_8, 6, .inr (.inr (.inr (.inr (fun _ => none)))))), (ba_4, .inl (cB_9, 3, .inl (fun _ => 0))), (sm_21, .inr (2, [.int 0, .ref gr_23, .ref gt_24, .ref gw_25, .ref gk_26, .ref gi_27, .ref gp_28, .ref go_29, .ref gg_30, .ref q13])), (wi_15, .inl (d_31, 6, .inl (fun _ => 0))), (co_16, .inl (d_32, 6, .inl (fun _ => 0))), (sl_17, .inl (d_33, 6, .inl (fun _ => 0))), (gr_23, .inl (d_34, 6, .inl (fun _ => 0))), (bn_20, .inl (d_35, 3, .inl (fun _ => 0))), (q39, .inl (cA40, 1, .inr (.inl fo_112))), (q13, .inr (3, [.int th_139, .int rf_140, .ref wi_15, .ref co_16, .ref sl_17, .ref rn_18, .ref so_19, .ref bn_20, .ref sm_21, .ref ah_22]))] H := hP
        have hD : va_D A [(ro_3, .inl (cR_8, 6, .inr (.inr (.inr (.inr (fun _ => none)))))), (ba_4, .inl (cB_9, 3, .inl (fun _ => 0))), (sm_21, .inr (2, [.int 0, .ref gr_23, .ref gt_24, .ref gw_25, .ref gk_26, .ref gi_27, .ref gp_28, .ref go_29, .ref gg_30, .ref q13])), (wi_15, .inl (d_31, 6, .inl (fun _ => 0))), (co_16, .inl (d_32, 6, .inl (fun _ => 0))), (sl_17, .inl (d_33, 6, .inl (fun _ => 0))), (gr_23, .inl (d_34, 6, .inl (fun _ => 0))), (bn_20, .inl (d_35, 3, .inl (fun _ => 0))), (q39, .inl (cA40, 1, .inr (.inl fo_112))), (q13, .inr (3, [.int th_139, .int rf_140, .ref wi_15, .ref co_16, .ref sl_17, .ref rn_18, .ref so_19, .ref bn_20, .ref sm_21, .ref ah_22]))] := hD
        rcases hr138 with ⟨rfl, rfl, fr138_0_1, fr138_0_2⟩ | ⟨rfl, rfl, fr138_1_1⟩ | ⟨rfl, rfl, fr138_2_1, fr138_2_2⟩
        · refine lv_istore (lv' := [(6, .int 40), (5, .int 2), (4, .int 0), (3, .ref q39), (2, .ref q13), (1, .ref q1), (0, .ref b)]) hx hb dL_law_323 hl (by decide) rfl (fun ls hl => ?_)
          refine lv_aload_n hx hb dL_law_325 rfl (lv_at hl 4 rfl) ?_
          have hPc := hP.sub (ws' := [(q13, .inr (3, [.int 0, .int rf_140, .ref wi_15, .ref co_16, .ref sl_17, .ref rn_18, .ref so_19, .ref bn_20, .ref sm_21, .ref ah_22]))]) [9] rfl
          have hKc := hK.sub (tys' := []) [] rfl
          refine vp_callSi (va_runV (As := []) (rest := []) ⟨hx, hb, hml, hown, hts⟩ (k3_thrown l dC dI q13 wi_15 co_16 sl_17 rn_18 so_19 bn_20 sm_21 ah_22 0 rf_140 ) (cwV 0 hts gL_law_X3_thrown rfl rfl rfl (by decide +kernel) ⟨Nat.le_of_ble_eq_true rfl, Nat.le_of_ble_eq_true rfl⟩) ⟨fun a U g mk q => by obtain ⟨q0, qP, qK⟩ := q; exact ⟨q0, qP, va_K.moved (u := U) (U := U.calling g mk a) (Vm.Alike.refl U.vm) qK⟩, va_recv hKc hPc (ci := 3) (q0 := 0) rfl rfl, fun U hU hW => ⟨rfl, by rw [hU]; exact hPc, va_K.moved hW.alike hKc⟩⟩ rfl rfl hl.1 rfl (lv_room (Nat.le_of_ble_eq_true rfl)) dL_law_326 ⟨Nat.le_of_ble_eq_true rfl, Nat.le_of_ble_eq_true rfl⟩).run (fun r141 hr141 => ?_)
          obtain rfl := hr141
          refine lv_iload hx hb dL_law_329 (lv_at hl 1 rfl) ?_
          refine lv_icmp_eq (tgt := 336) hx hb dL_law_331 (by decide) (fun c142 => absurd c142 (by decide)) (fun c142 => ?_)
          refine lv_iconst (v := 0) hx hb dL_law_334 (by decide) ?_
          exact (by first | contradiction | (simp_all; done) | grind : False).elim
        · refine lv_istore (lv' := [(6, .int 0), (5, .int 2), (4, .int 0), (3, .ref q39), (2, .ref q13), (1, .ref q1), (0, .ref b)]) hx hb dL_law_323 hl (by decide) rfl (fun ls hl => ?_)
          refine lv_aload_n hx hb dL_law_325 rfl (lv_at hl 4 rfl) ?_
          have hPc := hP.sub (ws' := [(q13, .inr (3, [.int 1, .int rf_140, .ref wi_15, .ref co_16, .ref sl_17, .ref rn_18, .ref so_19, .ref bn_20, .ref sm_21, .ref ah_22]))]) [9] rfl
          have hKc := hK.sub (tys' := []) [] rfl
          refine vp_callSi (va_runV (As := []) (rest := []) ⟨hx, hb, hml, hown, hts⟩ (k3_thrown l dC dI q13 wi_15 co_16 sl_17 rn_18 so_19 bn_20 sm_21 ah_22 1 rf_140 ) (cwV 0 hts gL_law_X3_thrown rfl rfl rfl (by decide +kernel) ⟨Nat.le_of_ble_eq_true rfl, Nat.le_of_ble_eq_true rfl⟩) ⟨fun a U g mk q => by obtain ⟨q0, qP, qK⟩ := q; exact ⟨q0, qP, va_K.moved (u := U) (U := U.calling g mk a) (Vm.Alike.refl U.vm) qK⟩, va_recv hKc hPc (ci := 3) (q0 := 0) rfl rfl, fun U hU hW => ⟨rfl, by rw [hU]; exact hPc, va_K.moved hW.alike hKc⟩⟩ rfl rfl hl.1 rfl (lv_room (Nat.le_of_ble_eq_true rfl)) dL_law_326 ⟨Nat.le_of_ble_eq_true rfl, Nat.le_of_ble_eq_true rfl⟩).run (fun r143 hr143 => ?_)
          obtain rfl := hr143
          refine lv_iload hx hb dL_law_329 (lv_at hl 1 rfl) ?_
          refine lv_icmp_eq (tgt := 336) hx hb dL_law_331 (by decide) (fun c144 => absurd c144 (by decide)) (fun c144 => ?_)
          refine lv_iconst (v := 0) hx hb dL_law_334 (by decide) ?_
          exact (by first | contradiction | (simp_all; done) | grind : False).elim
        · refine lv_istore (lv' := [(6, .int 0), (5, .int 2), (4, .int 0), (3, .ref q39), (2, .ref q13), (1, .ref q1), (0, .ref b)]) hx hb dL_law_323 hl (by decide) rfl (fun ls hl => ?_)
          refine lv_aload_n hx hb dL_law_325 rfl (lv_at hl 4 rfl) ?_
          have hPc := hP.sub (ws' := [(q13, .inr (3, [.int 2, .int rf_140, .ref wi_15, .ref co_16, .ref sl_17, .ref rn_18, .ref so_19, .ref bn_20, .ref sm_21, .ref ah_22]))]) [9] rfl
          have hKc := hK.sub (tys' := []) [] rfl
          refine vp_callSi (va_runV (As := []) (rest := []) ⟨hx, hb, hml, hown, hts⟩ (k3_thrown l dC dI q13 wi_15 co_16 sl_17 rn_18 so_19 bn_20 sm_21 ah_22 2 rf_140 ) (cwV 0 hts gL_law_X3_thrown rfl rfl rfl (by decide +kernel) ⟨Nat.le_of_ble_eq_true rfl, Nat.le_of_ble_eq_true rfl⟩) ⟨fun a U g mk q => by obtain ⟨q0, qP, qK⟩ := q; exact ⟨q0, qP, va_K.moved (u := U) (U := U.calling g mk a) (Vm.Alike.refl U.vm) qK⟩, va_recv hKc hPc (ci := 3) (q0 := 0) rfl rfl, fun U hU hW => ⟨rfl, by rw [hU]; exact hPc, va_K.moved hW.alike hKc⟩⟩ rfl rfl hl.1 rfl (lv_room (Nat.le_of_ble_eq_true rfl)) dL_law_326 ⟨Nat.le_of_ble_eq_true rfl, Nat.le_of_ble_eq_true rfl⟩).run (fun r145 hr145 => ?_)
          obtain rfl := hr145
          refine lv_iload hx hb dL_law_329 (lv_at hl 1 rfl) ?_
          refine lv_icmp_eq (tgt := 336) hx hb dL_law_331 (by decide) (fun c146 => ?_) (fun c146 => absurd c146 (by decide))
          refine lv_iload hx hb dL_law_336 (lv_at hl 1 rfl) ?_
          refine lv_if_ne (tgt := 353) hx hb dL_law_338 (by decide) (fun c147 => ?_) (fun c147 => absurd c147 (by decide))
          refine lv_goto (tgt := 1381) hx hb dL_law_353 (by decide) ?_
          refine lv_iinc (v := 7) (lv' := [(4, .int 7), (6, .int 0), (5, .int 2), (3, .ref q39), (2, .ref q13), (1, .ref q1), (0, .ref b)]) hx hb dL_law_1381 hl (k := 2) rfl (by decide) (by decide) rfl (fun ls hl => ?_)
          refine lv_goto (tgt := 23) hx hb dL_law_1384 (by decide) ?_
          refine lv_iload hx hb dL_law_23 (lv_at hl 0 rfl) ?_
          refine lv_aload_n hx hb dL_law_25 rfl (lv_at hl 6 rfl) ?_
          refine va_slen hx hb hX hbl hbA hS dL_law_26 ?_
          refine W.eq (g2 := F0 m 27 ls [.int 7, .int 7]) rfl ?_
          refine lv_bipush (v := 7) hx hb dL_law_27 (by decide) ?_
          refine lv_isub hx hb dL_law_29 ?_
          refine W.eq (g2 := F0 m 30 ls [.int 0, .int 7]) rfl ?_
          refine lv_icmp_gt (tgt := 1387) hx hb dL_law_30 (by decide) (fun c148 => ?_) (fun c148 => absurd c148 (by decide))
          refine lv_iconst (v := 1) hx hb dL_law_1387 (by decide) ?_
          refine va_forget (fun q hq => hAs _ (hS.2.2 q hq)) ?_
          refine W.widen (k := 600002) (n := 7302232) (Nat.le_of_ble_eq_true rfl) (Nat.le_of_ble_eq_true rfl) ?_
          exact lw_ret (d0 := s.drawn) (Drawn.sameBut.refl s.drawn lw_cs) hx hb hr hlocks dL_law_1388
    · rw [hje]
      -- case 3
      refine W.eq (g2 := F0 m 40 ls [.int 3]) rfl ?_
      refine lv_tableIn (off := 316) (tgt := 356) hx hb dL_law_40 (by decide) (by decide) (by rfl) (by decide) ?_
      refine lv_aload_n hx hb dL_law_356 rfl (lv_at hl 3 rfl) ?_
      refine lv_aload_n hx hb dL_law_357 rfl (lv_at hl 4 rfl) ?_
      refine lv_iload hx hb dL_law_358 (lv_at hl 0 rfl) ?_
      refine lv_iconst (v := 1) hx hb dL_law_360 (by decide) ?_
      refine lv_iadd hx hb dL_law_361 ?_
      refine W.eq (g2 := F0 m 362 ls [.int 1, .ref b, .ref q1]) rfl ?_
      refine va_sld hx hb hX hbl hbA hS (vp_in_nI (n := 1) (by decide) (by decide)) dL_law_362 ?_
      refine W.eq (g2 := F0 m 363 ls [.int (xs 1), .ref q1]) rfl ?_
      refine lv_aload_n hx hb dL_law_363 rfl (lv_at hl 4 rfl) ?_
      refine lv_iload hx hb dL_law_364 (lv_at hl 0 rfl) ?_
      refine lv_iconst (v := 2) hx hb dL_law_366 (by decide) ?_
      refine lv_iadd hx hb dL_law_367 ?_
      refine W.eq (g2 := F0 m 368 ls [.int 2, .ref b, .int (xs 1), .ref q1]) rfl ?_
      refine va_sld hx hb hX hbl hbA hS (vp_in_nI (n := 2) (by decide) (by decide)) dL_law_368 ?_
      refine W.eq (g2 := F0 m 369 ls [.int (xs 2), .int (xs 1), .ref q1]) rfl ?_
      refine lv_aload_n hx hb dL_law_369 rfl (lv_at hl 4 rfl) ?_
      refine lv_iload hx hb dL_law_370 (lv_at hl 0 rfl) ?_
      refine lv_iconst (v := 3) hx hb dL_law_372 (by decide) ?_
      refine lv_iadd hx hb dL_law_373 ?_
      refine W.eq (g2 := F0 m 374 ls [.int 3, .ref b, .int (xs 2), .int (xs 1), .ref q1]) rfl ?_
      refine va_sld hx hb hX hbl hbA hS (vp_in_nI (n := 3) (by decide) (by decide)) dL_law_374 ?_
      refine W.eq (g2 := F0 m 375 ls [.int (xs 3), .int (xs 2), .int (xs 1), .ref q1]) rfl ?_
      refine lv_aload_n hx hb dL_law_375 rfl (lv_at hl 4 rfl) ?_
      refine lv_iload hx hb dL_law_376 (lv_at hl 0 rfl) ?_
      refine lv_iconst (v := 4) hx hb dL_law_378 (by decide) ?_
      refine lv_iadd hx hb dL_law_379 ?_
      refine W.eq (g2 := F0 m 380 ls [.int 4, .ref b, .int (xs 3), .int (xs 2), .int (xs 1), .ref q1]) rfl ?_
      refine va_sld hx hb hX hbl hbA hS (vp_in_nI (n := 4) (by decide) (by decide)) dL_law_380 ?_
      refine W.eq (g2 := F0 m 381 ls [.int (xs 4), .int (xs 3), .int (xs 2), .int (xs 1), .ref q1]) rfl ?_
      refine lv_aload_n hx hb dL_law_381 rfl (lv_at hl 4 rfl) ?_
      refine lv_iload hx hb dL_law_382 (lv_at hl 0 rfl) ?_
      refine lv_iconst (v := 5) hx hb dL_law_384 (by decide) ?_
      refine lv_iadd hx hb dL_law_385 ?_
      refine W.eq (g2 := F0 m 386 ls [.int 5, .ref b, .int (xs 4), .int (xs 3), .int (xs 2), .int (xs 1), .ref q1]) rfl ?_
      refine va_sld hx hb hX hbl hbA hS (vp_in_nI (n := 5) (by decide) (by decide)) dL_law_386 ?_
      refine W.eq (g2 := F0 m 387 ls [.int (xs 5), .int (xs 4), .int (xs 3), .int (xs 2), .int (xs 1), .ref q1]) rfl ?_
      refine lv_aload_n hx hb dL_law_387 rfl (lv_at hl 4 rfl) ?_
      refine lv_iload hx hb dL_law_388 (lv_at hl 0 rfl) ?_
      refine lv_bipush (v := 6) hx hb dL_law_390 (by decide) ?_
      refine lv_iadd hx hb dL_law_392 ?_
      refine W.eq (g2 := F0 m 393 ls [.int 6, .ref b, .int (xs 5), .int (xs 4), .int (xs 3), .int (xs 2), .int (xs 1), .ref q1]) rfl ?_
      refine va_sld hx hb hX hbl hbA hS (vp_in_nI (n := 6) (by decide) (by decide)) dL_law_393 ?_
      refine W.eq (g2 := F0 m 394 ls [.int (xs 6), .int (xs 5), .int (xs 4), .int (xs 3), .int (xs 2), .int (xs 1), .ref q1]) rfl ?_
      refine lv_aload_n hx hb dL_law_394 rfl (lv_at hl 1 rfl) ?_
      have hPc := hP.sub (ws' := [(q1, .inr (1, [.ref ro_3, .int 0, .ref ba_4, .ref ra_5, .ref su_6, .int 0, .ref tr_7])), (ro_3, .inl (cR_8, 6, .inr (.inr (.inr (.inr (fun _ => none)))))), (q39, .inl (cA40, 1, .inr (.inl (fun _ => 0))))]) [0, 1, 14] rfl
      have hKc := hK.sub (tys' := [(cR_8, .object RX0), (cA40, .long)]) [0, 11] rfl
      have hDc := hD.sub (ws' := [(q1, .inr (1, [.ref ro_3, .int 0, .ref ba_4, .ref ra_5, .ref su_6, .int 0, .ref tr_7])), (ro_3, .inl (cR_8, 6, .inr (.inr (.inr (.inr (fun _ => none)))))), (q39, .inl (cA40, 1, .inr (.inl (fun _ => 0))))]) [0, 1, 14] (by decide) rfl
      have hFc := va_free (wc := [(q1, .inr (1, [.ref ro_3, .int 0, .ref ba_4, .ref ra_5, .ref su_6, .int 0, .ref tr_7])), (ro_3, .inl (cR_8, 6, .inr (.inr (.inr (.inr (fun _ => none)))))), (q39, .inl (cA40, 1, .inr (.inl (fun _ => 0))))]) hD hS hA [0, 1, 14] rfl
      refine va_calli (vx_runSW (As := [.ref q1, .int (xs 1), .int (xs 2), .int (xs 3), .int (xs 4), .int (xs 5), .int (xs 6), .ref q39]) (rest := []) ⟨hx, hb, hml, hown, hts⟩ (kL_lay l hst dC dI H.size q1 ro_3 ba_4 ra_5 su_6 tr_7 cR_8 q39 cA40 (fun _ => 0) (xs 1) (xs 2) (xs 3) (xs 4) (xs 5) (xs 6) ) (vx_cwSW 8 hts gL_law_L_lay rfl rfl rfl (by decide +kernel) ⟨Nat.le_of_ble_eq_true rfl, Nat.le_of_ble_eq_true rfl⟩) ⟨fun a U g mk q => by obtain ⟨q0, q1, qP, qK, qD, qX, qT⟩ := q; exact ⟨q0, q1, qP, va_K.moved (u := U) (U := U.calling g mk a) (Vm.Alike.refl U.vm) qK, qD, zX.calling qX, zTh.calling qT⟩, fun U hU hW => ⟨rfl, by rw [hU], by rw [hU]; exact hPc, va_K.moved hW.alike hKc, hDc.weaken (fun _ _ _ _ => trivial), zX.warm hW hZX, by rw [hU]; exact zTh.at hW hZT hS hFc⟩⟩ rfl rfl hl.1 rfl (lv_room (Nat.le_of_ble_eq_true rfl)) dL_law_395 ⟨Nat.le_of_ble_eq_true rfl, Nat.le_of_ble_eq_true rfl⟩) hS (fun q _ h => hFc q h) hFc (fun r149 u t H1 locs ht hvm hr149 hB hz1 hk1 hS => ?_)
      obtain ⟨fo_150, rfl⟩ : ∃ z, z = u := ⟨_, rfl⟩
      obtain ⟨hP1, hK1, hD1⟩ := hB
      rw [ht] at hP1
      have hK1 := va_K.moved hvm.symm hK1
      try dsimp only at hr149
      obtain ⟨hP, hD⟩ := va_join (wr := [(ba_4, .inl (cB_9, 3, .inl (fun _ => 0))), (ra_5, .inl (cA_10, 12, .inl fr_12)), (su_6, .inl (cS_11, 12, .inl (fun _ => 0))), (q13, .inr (3, [.int 0, .int 0, .ref wi_15, .ref co_16, .ref sl_17, .ref rn_18, .ref so_19, .ref bn_20, .ref sm_21, .ref ah_22])), (sm_21, .inr (2, [.int 0, .ref gr_23, .ref gt_24, .ref gw_25, .ref gk_26, .ref gi_27, .ref gp_28, .ref go_29, .ref gg_30, .ref q13])), (wi_15, .inl (d_31, 6, .inl (fun _ => 0))), (co_16, .inl (d_32, 6, .inl (fun _ => 0))), (sl_17, .inl (d_33, 6, .inl (fun _ => 0))), (gr_23, .inl (d_34, 6, .inl (fun _ => 0))), (bn_20, .inl (d_35, 3, .inl (fun _ => 0))), (rn_18, .inl (d_36, 12, .inl fn_38)), (so_19, .inl (d_37, 12, .inl (fun _ => 0)))]) (w1 := [(q39, .inl (cA40, 1, .inr (.inl fo_150)))]) hP hD [0, 1, 14] [2, 3, 4, 5, 6, 7, 8, 9, 10, 11, 12, 13] rfl rfl (by decide) (by decide) hk1 hFc hP1 hD1
      generalize H1 = H at hP hS ⊢
      have hP : va_P (dC, dI) vwCl [(ba_4, .inl (cB_9, 3, .inl (fun _ => 0))), (ra_5, .inl (cA_10, 12, .inl fr_12)), (su_6, .inl (cS_11, 12, .inl (fun _ => 0))), (q13, .inr (3, [.int 0, .int 0, .ref wi_15, .ref co_16, .ref sl_17, .ref rn_18, .ref so_19, .ref bn_20, .ref sm_21, .ref ah_22])), (sm_21, .inr (2, [.int 0, .ref gr_23, .ref gt_24, .ref gw_25, .ref gk_26, .ref gi_27, .ref gp_28, .ref go_29, .ref gg_30, .ref q13])), (wi_15, .inl (d_31, 6, .inl (fun _ => 0))), (co_16, .inl (d_32, 6, .inl (fun _ => 0))), (sl_17, .inl (d_33, 6, .inl (fun _ => 0))), (gr_23, .inl (d_34, 6, .inl (fun _ => 0))), (bn_20, .inl (d_35, 3, .inl (fun _ => 0))), (rn_18, .inl (d_36, 12, .inl fn_38)), (so_19, .inl (d_37, 12, .inl (fun _ => 0))), (q39, .inl (cA40, 1, .inr (.inl fo_150)))] H := hP
      have hD : va_D A [(ba_4, .inl (cB_9, 3, .inl (fun _ => 0))), (ra_5, .inl (cA_10, 12, .inl fr_12)), (su_6, .inl (cS_11, 12, .inl (fun _ => 0))), (q13, .inr (3, [.int 0, .int 0, .ref wi_15, .ref co_16, .ref sl_17, .ref rn_18, .ref so_19, .ref bn_20, .ref sm_21, .ref ah_22])), (sm_21, .inr (2, [.int 0, .ref gr_23, .ref gt_24, .ref gw_25, .ref gk_26, .ref gi_27, .ref gp_28, .ref go_29, .ref gg_30, .ref q13])), (wi_15, .inl (d_31, 6, .inl (fun _ => 0))), (co_16, .inl (d_32, 6, .inl (fun _ => 0))), (sl_17, .inl (d_33, 6, .inl (fun _ => 0))), (gr_23, .inl (d_34, 6, .inl (fun _ => 0))), (bn_20, .inl (d_35, 3, .inl (fun _ => 0))), (rn_18, .inl (d_36, 12, .inl fn_38)), (so_19, .inl (d_37, 12, .inl (fun _ => 0))), (q39, .inl (cA40, 1, .inr (.inl fo_150)))] := hD
      refine W.widen (k := 37) (n := 3408) (Nat.le_of_ble_eq_true rfl) (Nat.le_of_ble_eq_true rfl) ?_
      obtain rfl := hr149
      refine lv_istore (lv' := [(5, .int 1), (4, .int 0), (3, .ref q39), (2, .ref q13), (1, .ref q1), (0, .ref b)]) hx hb dL_law_398 hl (by decide) rfl (fun ls hl => ?_)
      refine lv_aload_n hx hb dL_law_400 rfl (lv_at hl 3 rfl) ?_
      refine lv_aload_n hx hb dL_law_401 rfl (lv_at hl 5 rfl) ?_
      refine lv_iload hx hb dL_law_402 (lv_at hl 1 rfl) ?_
      refine lv_iconst (v := 1) hx hb dL_law_404 (by decide) ?_
      refine lv_iadd hx hb dL_law_405 ?_
      refine W.eq (g2 := F0 m 406 ls [.int 1, .ref b, .ref q13]) rfl ?_
      refine va_sld hx hb hX hbl hbA hS (vp_in_nI (n := 1) (by decide) (by decide)) dL_law_406 ?_
      refine W.eq (g2 := F0 m 407 ls [.int (xs 1), .ref q13]) rfl ?_
      refine lv_aload_n hx hb dL_law_407 rfl (lv_at hl 5 rfl) ?_
      refine lv_iload hx hb dL_law_408 (lv_at hl 1 rfl) ?_
      refine lv_iconst (v := 2) hx hb dL_law_410 (by decide) ?_
      refine lv_iadd hx hb dL_law_411 ?_
      refine W.eq (g2 := F0 m 412 ls [.int 2, .ref b, .int (xs 1), .ref q13]) rfl ?_
      refine va_sld hx hb hX hbl hbA hS (vp_in_nI (n := 2) (by decide) (by decide)) dL_law_412 ?_
      refine W.eq (g2 := F0 m 413 ls [.int (xs 2), .int (xs 1), .ref q13]) rfl ?_
      refine lv_aload_n hx hb dL_law_413 rfl (lv_at hl 5 rfl) ?_
      refine lv_iload hx hb dL_law_414 (lv_at hl 1 rfl) ?_
      refine lv_iconst (v := 3) hx hb dL_law_416 (by decide) ?_
      refine lv_iadd hx hb dL_law_417 ?_
      refine W.eq (g2 := F0 m 418 ls [.int 3, .ref b, .int (xs 2), .int (xs 1), .ref q13]) rfl ?_
      refine va_sld hx hb hX hbl hbA hS (vp_in_nI (n := 3) (by decide) (by decide)) dL_law_418 ?_
      refine W.eq (g2 := F0 m 419 ls [.int (xs 3), .int (xs 2), .int (xs 1), .ref q13]) rfl ?_
      refine lv_aload_n hx hb dL_law_419 rfl (lv_at hl 5 rfl) ?_
      refine lv_iload hx hb dL_law_420 (lv_at hl 1 rfl) ?_
      refine lv_iconst (v := 4) hx hb dL_law_422 (by decide) ?_
      refine lv_iadd hx hb dL_law_423 ?_
      refine W.eq (g2 := F0 m 424 ls [.int 4, .ref b, .int (xs 3), .int (xs 2), .int (xs 1), .ref q13]) rfl ?_
      refine va_sld hx hb hX hbl hbA hS (vp_in_nI (n := 4) (by decide) (by decide)) dL_law_424 ?_
      refine W.eq (g2 := F0 m 425 ls [.int (xs 4), .int (xs 3), .int (xs 2), .int (xs 1), .ref q13]) rfl ?_
      refine lv_aload_n hx hb dL_law_425 rfl (lv_at hl 5 rfl) ?_
      refine lv_iload hx hb dL_law_426 (lv_at hl 1 rfl) ?_
      refine lv_iconst (v := 5) hx hb dL_law_428 (by decide) ?_
      refine lv_iadd hx hb dL_law_429 ?_
      refine W.eq (g2 := F0 m 430 ls [.int 5, .ref b, .int (xs 4), .int (xs 3), .int (xs 2), .int (xs 1), .ref q13]) rfl ?_
      refine va_sld hx hb hX hbl hbA hS (vp_in_nI (n := 5) (by decide) (by decide)) dL_law_430 ?_
      refine W.eq (g2 := F0 m 431 ls [.int (xs 5), .int (xs 4), .int (xs 3), .int (xs 2), .int (xs 1), .ref q13]) rfl ?_
      refine lv_aload_n hx hb dL_law_431 rfl (lv_at hl 5 rfl) ?_
      refine lv_iload hx hb dL_law_432 (lv_at hl 1 rfl) ?_
      refine lv_bipush (v := 6) hx hb dL_law_434 (by decide) ?_
      refine lv_iadd hx hb dL_law_436 ?_
      refine W.eq (g2 := F0 m 437 ls [.int 6, .ref b, .int (xs 5), .int (xs 4), .int (xs 3), .int (xs 2), .int (xs 1), .ref q13]) rfl ?_
      refine va_sld hx hb hX hbl hbA hS (vp_in_nI (n := 6) (by decide) (by decide)) dL_law_437 ?_
      refine W.eq (g2 := F0 m 438 ls [.int (xs 6), .int (xs 5), .int (xs 4), .int (xs 3), .int (xs 2), .int (xs 1), .ref q13]) rfl ?_
      have hPc := hP.sub (ws' := [(q13, .inr (3, [.int 0, .int 0, .ref wi_15, .ref co_16, .ref sl_17, .ref rn_18, .ref so_19, .ref bn_20, .ref sm_21, .ref ah_22]))]) [3] rfl
      have hKc := hK.sub (tys' := []) [] rfl
      have hDc := hD.sub (ws' := [(q13, .inr (3, [.int 0, .int 0, .ref wi_15, .ref co_16, .ref sl_17, .ref rn_18, .ref so_19, .ref bn_20, .ref sm_21, .ref ah_22]))]) [3] (by decide) rfl
      have hFc := va_free (wc := [(q13, .inr (3, [.int 0, .int 0, .ref wi_15, .ref co_16, .ref sl_17, .ref rn_18, .ref so_19, .ref bn_20, .ref sm_21, .ref ah_22]))]) hD hS hA [3] rfl
      refine va_calli (va_runV (As := [.int (xs 1), .int (xs 2), .int (xs 3), .int (xs 4), .int (xs 5), .int (xs 6)]) (rest := []) ⟨hx, hb, hml, hown, hts⟩ (k3_lay l dC dI H.size q13 wi_15 co_16 sl_17 rn_18 so_19 bn_20 sm_21 ah_22 0 (xs 1) (xs 2) (xs 3) (xs 4) (xs 5) (xs 6) ) (cwV 6 hts gL_law_X3_lay rfl rfl rfl (by decide +kernel) ⟨Nat.le_of_ble_eq_true rfl, Nat.le_of_ble_eq_true rfl⟩) ⟨fun a U g mk q => by obtain ⟨q0, q1, qP, qK, qD⟩ := q; exact ⟨q0, q1, qP, va_K.moved (u := U) (U := U.calling g mk a) (Vm.Alike.refl U.vm) qK, qD⟩, va_recv hKc hPc (ci := 3) (q0 := 0) rfl rfl, fun U hU hW => ⟨rfl, by rw [hU], by rw [hU]; exact hPc, va_K.moved hW.alike hKc, hDc.weaken (fun _ _ _ _ => trivial)⟩⟩ rfl rfl hl.1 rfl (lv_room (Nat.le_of_ble_eq_true rfl)) dL_law_438 ⟨Nat.le_of_ble_eq_true rfl, Nat.le_of_ble_eq_true rfl⟩) hS (fun q _ h => hFc q h) hFc (fun r151 u t H1 locs ht hvm hr151 hB hz1 hk1 hS => ?_)
      obtain ⟨hP1, hK1, hD1⟩ := hB
      rw [ht] at hP1
      have hK1 := va_K.moved hvm.symm hK1
      try dsimp only at hr151
      obtain ⟨hP, hD⟩ := va_join (wr := [(ba_4, .inl (cB_9, 3, .inl (fun _ => 0))), (ra_5, .inl (cA_10, 12, .inl fr_12)), (su_6, .inl (cS_11, 12, .inl (fun _ => 0))), (sm_21, .inr (2, [.int 0, .ref gr_23, .ref gt_24, .ref gw_25, .ref gk_26, .ref gi_27, .ref gp_28, .ref go_29, .ref gg_30, .ref q13])), (wi_15, .inl (d_31, 6, .inl (fun _ => 0))), (co_16, .inl (d_32, 6, .inl (fun _ => 0))), (sl_17, .inl (d_33, 6, .inl (fun _ => 0))), (gr_23, .inl (d_34, 6, .inl (fun _ => 0))), (bn_20, .inl (d_35, 3, .inl (fun _ => 0))), (rn_18, .inl (d_36, 12, .inl fn_38)), (so_19, .inl (d_37, 12, .inl (fun _ => 0))), (q39, .inl (cA40, 1, .inr (.inl fo_150)))]) (w1 := [(q13, .inr (3, [.int 1, .int 0, .ref wi_15, .ref co_16, .ref sl_17, .ref rn_18, .ref so_19, .ref bn_20, .ref sm_21, .ref ah_22]))]) hP hD [3] [0, 1, 2, 4, 5, 6, 7, 8, 9, 10, 11, 12] rfl rfl (by decide) (by decide) hk1 hFc hP1 hD1
      generalize H1 = H at hP hS ⊢
      have hP : va_P (dC, dI) vwCl [(ba_4, .inl (cB_9, 3, .inl (fun _ => 0))), (ra_5, .inl (cA_10, 12, .inl fr_12)), (su_6, .inl (cS_11, 12, .inl (fun _ => 0))), (sm_21, .inr (2, [.int 0, .ref gr_23, .ref gt_24, .ref gw_25, .ref gk_26, .ref gi_27, .ref gp_28, .ref go_29, .ref gg_30, .ref q13])), (wi_15, .inl (d_31, 6, .inl (fun _ => 0))), (co_16, .inl (d_32, 6, .inl (fun _ => 0))), (sl_17, .inl (d_33, 6, .inl (fun _ => 0))), (gr_23, .inl (d_34, 6, .inl (fun _ => 0))), (bn_20, .inl (d_35, 3, .inl (fun _ => 0))), (rn_18, .inl (d_36, 12, .inl fn_38)), (so_19, .inl (d_37, 12, .inl (fun _ => 0))), (q39, .inl (cA40, 1, .inr (.inl fo_150))), (q13, .inr (3, [.int 1, .int 0, .ref wi_15, .ref co_16, .ref sl_17, .ref rn_18, .ref so_19, .ref bn_20, .ref sm_21, .ref ah_22]))] H := hP
      have hD : va_D A [(ba_4, .inl (cB_9, 3, .inl (fun _ => 0))), (ra_5, .inl (cA_10, 12, .inl fr_12)), (su_6, .inl (cS_11, 12, .inl (fun _ => 0))), (sm_21, .inr (2, [.int 0, .ref gr_23, .ref gt_24, .ref gw_25, .ref gk_26, .ref gi_27, .ref gp_28, .ref go_29, .ref gg_30, .ref q13])), (wi_15, .inl (d_31, 6, .inl (fun _ => 0))), (co_16, .inl (d_32, 6, .inl (fun _ => 0))), (sl_17, .inl (d_33, 6, .inl (fun _ => 0))), (gr_23, .inl (d_34, 6, .inl (fun _ => 0))), (bn_20, .inl (d_35, 3, .inl (fun _ => 0))), (rn_18, .inl (d_36, 12, .inl fn_38)), (so_19, .inl (d_37, 12, .inl (fun _ => 0))), (q39, .inl (cA40, 1, .inr (.inl fo_150))), (q13, .inr (3, [.int 1, .int 0, .ref wi_15, .ref co_16, .ref sl_17, .ref rn_18, .ref so_19, .ref bn_20, .ref sm_21, .ref ah_22]))] := hD
      obtain rfl := hr151
      refine lv_istore (lv' := [(6, .int 0), (5, .int 1), (4, .int 0), (3, .ref q39), (2, .ref q13), (1, .ref q1), (0, .ref b)]) hx hb dL_law_441 hl (by decide) rfl (fun ls hl => ?_)
      refine lv_aload_n hx hb dL_law_443 rfl (lv_at hl 4 rfl) ?_
      have hPc := hP.sub (ws' := [(q13, .inr (3, [.int 1, .int 0, .ref wi_15, .ref co_16, .ref sl_17, .ref rn_18, .ref so_19, .ref bn_20, .ref sm_21, .ref ah_22]))]) [12] rfl
      have hKc := hK.sub (tys' := []) [] rfl
      refine vp_callSi (va_runV (As := []) (rest := []) ⟨hx, hb, hml, hown, hts⟩ (k3_thrown l dC dI q13 wi_15 co_16 sl_17 rn_18 so_19 bn_20 sm_21 ah_22 1 0 ) (cwV 0 hts gL_law_X3_thrown rfl rfl rfl (by decide +kernel) ⟨Nat.le_of_ble_eq_true rfl, Nat.le_of_ble_eq_true rfl⟩) ⟨fun a U g mk q => by obtain ⟨q0, qP, qK⟩ := q; exact ⟨q0, qP, va_K.moved (u := U) (U := U.calling g mk a) (Vm.Alike.refl U.vm) qK⟩, va_recv hKc hPc (ci := 3) (q0 := 0) rfl rfl, fun U hU hW => ⟨rfl, by rw [hU]; exact hPc, va_K.moved hW.alike hKc⟩⟩ rfl rfl hl.1 rfl (lv_room (Nat.le_of_ble_eq_true rfl)) dL_law_444 ⟨Nat.le_of_ble_eq_true rfl, Nat.le_of_ble_eq_true rfl⟩).run (fun r152 hr152 => ?_)
      obtain rfl := hr152
      refine lv_iload hx hb dL_law_447 (lv_at hl 1 rfl) ?_
      refine lv_icmp_eq (tgt := 454) hx hb dL_law_449 (by decide) (fun c153 => ?_) (fun c153 => absurd c153 (by decide))
      refine lv_iload hx hb dL_law_454 (lv_at hl 1 rfl) ?_
      refine lv_if_ne (tgt := 471) hx hb dL_law_456 (by decide) (fun c154 => ?_) (fun c154 => absurd c154 (by decide))
      refine lv_goto (tgt := 1381) hx hb dL_law_471 (by decide) ?_
      refine lv_iinc (v := 7) (lv' := [(4, .int 7), (6, .int 0), (5, .int 1), (3, .ref q39), (2, .ref q13), (1, .ref q1), (0, .ref b)]) hx hb dL_law_1381 hl (k := 2) rfl (by decide) (by decide) rfl (fun ls hl => ?_)
      refine lv_goto (tgt := 23) hx hb dL_law_1384 (by decide) ?_
      refine lv_iload hx hb dL_law_23 (lv_at hl 0 rfl) ?_
      refine lv_aload_n hx hb dL_law_25 rfl (lv_at hl 6 rfl) ?_
      refine va_slen hx hb hX hbl hbA hS dL_law_26 ?_
      refine W.eq (g2 := F0 m 27 ls [.int 7, .int 7]) rfl ?_
      refine lv_bipush (v := 7) hx hb dL_law_27 (by decide) ?_
      refine lv_isub hx hb dL_law_29 ?_
      refine W.eq (g2 := F0 m 30 ls [.int 0, .int 7]) rfl ?_
      refine lv_icmp_gt (tgt := 1387) hx hb dL_law_30 (by decide) (fun c155 => ?_) (fun c155 => absurd c155 (by decide))
      refine lv_iconst (v := 1) hx hb dL_law_1387 (by decide) ?_
      refine va_forget (fun q hq => hAs _ (hS.2.2 q hq)) ?_
      refine W.widen (k := 600002) (n := 7302232) (Nat.le_of_ble_eq_true rfl) (Nat.le_of_ble_eq_true rfl) ?_
      exact lw_ret (d0 := s.drawn) (Drawn.sameBut.refl s.drawn lw_cs) hx hb hr hlocks dL_law_1388
    · rw [hje]
      -- case 4
      refine W.eq (g2 := F0 m 40 ls [.int 4]) rfl ?_
      refine lv_tableIn (off := 434) (tgt := 474) hx hb dL_law_40 (by decide) (by decide) (by rfl) (by decide) ?_
      refine lv_aload_n hx hb dL_law_474 rfl (lv_at hl 3 rfl) ?_
      refine lv_aload_n hx hb dL_law_475 rfl (lv_at hl 4 rfl) ?_
      refine lv_iload hx hb dL_law_476 (lv_at hl 0 rfl) ?_
      refine lv_iconst (v := 1) hx hb dL_law_478 (by decide) ?_
      refine lv_iadd hx hb dL_law_479 ?_
      refine W.eq (g2 := F0 m 480 ls [.int 1, .ref b, .ref q1]) rfl ?_
      refine va_sld hx hb hX hbl hbA hS (vp_in_nI (n := 1) (by decide) (by decide)) dL_law_480 ?_
      refine W.eq (g2 := F0 m 481 ls [.int (xs 1), .ref q1]) rfl ?_
      refine lv_aload_n hx hb dL_law_481 rfl (lv_at hl 4 rfl) ?_
      refine lv_iload hx hb dL_law_482 (lv_at hl 0 rfl) ?_
      refine lv_iconst (v := 2) hx hb dL_law_484 (by decide) ?_
      refine lv_iadd hx hb dL_law_485 ?_
      refine W.eq (g2 := F0 m 486 ls [.int 2, .ref b, .int (xs 1), .ref q1]) rfl ?_
      refine va_sld hx hb hX hbl hbA hS (vp_in_nI (n := 2) (by decide) (by decide)) dL_law_486 ?_
      refine W.eq (g2 := F0 m 487 ls [.int (xs 2), .int (xs 1), .ref q1]) rfl ?_
      refine lv_aload_n hx hb dL_law_487 rfl (lv_at hl 4 rfl) ?_
      refine lv_iload hx hb dL_law_488 (lv_at hl 0 rfl) ?_
      refine lv_iconst (v := 3) hx hb dL_law_490 (by decide) ?_
      refine lv_iadd hx hb dL_law_491 ?_
      refine W.eq (g2 := F0 m 492 ls [.int 3, .ref b, .int (xs 2), .int (xs 1), .ref q1]) rfl ?_
      refine va_sld hx hb hX hbl hbA hS (vp_in_nI (n := 3) (by decide) (by decide)) dL_law_492 ?_
      refine W.eq (g2 := F0 m 493 ls [.int (xs 3), .int (xs 2), .int (xs 1), .ref q1]) rfl ?_
      refine lv_aload_n hx hb dL_law_493 rfl (lv_at hl 4 rfl) ?_
      refine lv_iload hx hb dL_law_494 (lv_at hl 0 rfl) ?_
      refine lv_iconst (v := 4) hx hb dL_law_496 (by decide) ?_
      refine lv_iadd hx hb dL_law_497 ?_
      refine W.eq (g2 := F0 m 498 ls [.int 4, .ref b, .int (xs 3), .int (xs 2), .int (xs 1), .ref q1]) rfl ?_
      refine va_sld hx hb hX hbl hbA hS (vp_in_nI (n := 4) (by decide) (by decide)) dL_law_498 ?_
      refine W.eq (g2 := F0 m 499 ls [.int (xs 4), .int (xs 3), .int (xs 2), .int (xs 1), .ref q1]) rfl ?_
      refine lv_aload_n hx hb dL_law_499 rfl (lv_at hl 4 rfl) ?_
      refine lv_iload hx hb dL_law_500 (lv_at hl 0 rfl) ?_
      refine lv_iconst (v := 5) hx hb dL_law_502 (by decide) ?_
      refine lv_iadd hx hb dL_law_503 ?_
      refine W.eq (g2 := F0 m 504 ls [.int 5, .ref b, .int (xs 4), .int (xs 3), .int (xs 2), .int (xs 1), .ref q1]) rfl ?_
      refine va_sld hx hb hX hbl hbA hS (vp_in_nI (n := 5) (by decide) (by decide)) dL_law_504 ?_
      refine W.eq (g2 := F0 m 505 ls [.int (xs 5), .int (xs 4), .int (xs 3), .int (xs 2), .int (xs 1), .ref q1]) rfl ?_
      refine lv_aload_n hx hb dL_law_505 rfl (lv_at hl 1 rfl) ?_
      have hPc := hP.sub (ws' := [(q1, .inr (1, [.ref ro_3, .int 0, .ref ba_4, .ref ra_5, .ref su_6, .int 0, .ref tr_7])), (ro_3, .inl (cR_8, 6, .inr (.inr (.inr (.inr (fun _ => none)))))), (q39, .inl (cA40, 1, .inr (.inl (fun _ => 0))))]) [0, 1, 14] rfl
      have hKc := hK.sub (tys' := [(cR_8, .object RX0), (cA40, .long)]) [0, 11] rfl
      have hDc := hD.sub (ws' := [(q1, .inr (1, [.ref ro_3, .int 0, .ref ba_4, .ref ra_5, .ref su_6, .int 0, .ref tr_7])), (ro_3, .inl (cR_8, 6, .inr (.inr (.inr (.inr (fun _ => none)))))), (q39, .inl (cA40, 1, .inr (.inl (fun _ => 0))))]) [0, 1, 14] (by decide) rfl
      have hFc := va_free (wc := [(q1, .inr (1, [.ref ro_3, .int 0, .ref ba_4, .ref ra_5, .ref su_6, .int 0, .ref tr_7])), (ro_3, .inl (cR_8, 6, .inr (.inr (.inr (.inr (fun _ => none)))))), (q39, .inl (cA40, 1, .inr (.inl (fun _ => 0))))]) hD hS hA [0, 1, 14] rfl
      refine va_calli (vx_runSW (As := [.ref q1, .int (xs 1), .int (xs 2), .int (xs 3), .int (xs 4), .int (xs 5), .ref q39]) (rest := []) ⟨hx, hb, hml, hown, hts⟩ (kL_layCourse l hst dC dI H.size q1 ro_3 ba_4 ra_5 su_6 tr_7 cR_8 q39 cA40 (fun _ => 0) (xs 1) (xs 2) (xs 3) (xs 4) (xs 5) ) (vx_cwSW 7 hts gL_law_L_layCourse rfl rfl rfl (by decide +kernel) ⟨Nat.le_of_ble_eq_true rfl, Nat.le_of_ble_eq_true rfl⟩) ⟨fun a U g mk q => by obtain ⟨q0, q1, qP, qK, qD, qX, qT⟩ := q; exact ⟨q0, q1, qP, va_K.moved (u := U) (U := U.calling g mk a) (Vm.Alike.refl U.vm) qK, qD, zX.calling qX, zTh.calling qT⟩, fun U hU hW => ⟨rfl, by rw [hU], by rw [hU]; exact hPc, va_K.moved hW.alike hKc, hDc.weaken (fun _ _ _ _ => trivial), zX.warm hW hZX, by rw [hU]; exact zTh.at hW hZT hS hFc⟩⟩ rfl rfl hl.1 rfl (lv_room (Nat.le_of_ble_eq_true rfl)) dL_law_506 ⟨Nat.le_of_ble_eq_true rfl, Nat.le_of_ble_eq_true rfl⟩) hS (fun q _ h => hFc q h) hFc (fun r156 u t H1 locs ht hvm hr156 hB hz1 hk1 hS => ?_)
      obtain ⟨fo_157, rfl⟩ : ∃ z, z = u := ⟨_, rfl⟩
      obtain ⟨hP1, hK1, hD1⟩ := hB
      rw [ht] at hP1
      have hK1 := va_K.moved hvm.symm hK1
      try dsimp only at hr156
      obtain ⟨hP, hD⟩ := va_join (wr := [(ba_4, .inl (cB_9, 3, .inl (fun _ => 0))), (ra_5, .inl (cA_10, 12, .inl fr_12)), (su_6, .inl (cS_11, 12, .inl (fun _ => 0))), (q13, .inr (3, [.int 0, .int 0, .ref wi_15, .ref co_16, .ref sl_17, .ref rn_18, .ref so_19, .ref bn_20, .ref sm_21, .ref ah_22])), (sm_21, .inr (2, [.int 0, .ref gr_23, .ref gt_24, .ref gw_25, .ref gk_26, .ref gi_27, .ref gp_28, .ref go_29, .ref gg_30, .ref q13])), (wi_15, .inl (d_31, 6, .inl (fun _ => 0))), (co_16, .inl (d_32, 6, .inl (fun _ => 0))), (sl_17, .inl (d_33, 6, .inl (fun _ => 0))), (gr_23, .inl (d_34, 6, .inl (fun _ => 0))), (bn_20, .inl (d_35, 3, .inl (fun _ => 0))), (rn_18, .inl (d_36, 12, .inl fn_38)), (so_19, .inl (d_37, 12, .inl (fun _ => 0)))]) (w1 := [(q39, .inl (cA40, 1, .inr (.inl fo_157)))]) hP hD [0, 1, 14] [2, 3, 4, 5, 6, 7, 8, 9, 10, 11, 12, 13] rfl rfl (by decide) (by decide) hk1 hFc hP1 hD1
      generalize H1 = H at hP hS ⊢
      have hP : va_P (dC, dI) vwCl [(ba_4, .inl (cB_9, 3, .inl (fun _ => 0))), (ra_5, .inl (cA_10, 12, .inl fr_12)), (su_6, .inl (cS_11, 12, .inl (fun _ => 0))), (q13, .inr (3, [.int 0, .int 0, .ref wi_15, .ref co_16, .ref sl_17, .ref rn_18, .ref so_19, .ref bn_20, .ref sm_21, .ref ah_22])), (sm_21, .inr (2, [.int 0, .ref gr_23, .ref gt_24, .ref gw_25, .ref gk_26, .ref gi_27, .ref gp_28, .ref go_29, .ref gg_30, .ref q13])), (wi_15, .inl (d_31, 6, .inl (fun _ => 0))), (co_16, .inl (d_32, 6, .inl (fun _ => 0))), (sl_17, .inl (d_33, 6, .inl (fun _ => 0))), (gr_23, .inl (d_34, 6, .inl (fun _ => 0))), (bn_20, .inl (d_35, 3, .inl (fun _ => 0))), (rn_18, .inl (d_36, 12, .inl fn_38)), (so_19, .inl (d_37, 12, .inl (fun _ => 0))), (q39, .inl (cA40, 1, .inr (.inl fo_157)))] H := hP
      have hD : va_D A [(ba_4, .inl (cB_9, 3, .inl (fun _ => 0))), (ra_5, .inl (cA_10, 12, .inl fr_12)), (su_6, .inl (cS_11, 12, .inl (fun _ => 0))), (q13, .inr (3, [.int 0, .int 0, .ref wi_15, .ref co_16, .ref sl_17, .ref rn_18, .ref so_19, .ref bn_20, .ref sm_21, .ref ah_22])), (sm_21, .inr (2, [.int 0, .ref gr_23, .ref gt_24, .ref gw_25, .ref gk_26, .ref gi_27, .ref gp_28, .ref go_29, .ref gg_30, .ref q13])), (wi_15, .inl (d_31, 6, .inl (fun _ => 0))), (co_16, .inl (d_32, 6, .inl (fun _ => 0))), (sl_17, .inl (d_33, 6, .inl (fun _ => 0))), (gr_23, .inl (d_34, 6, .inl (fun _ => 0))), (bn_20, .inl (d_35, 3, .inl (fun _ => 0))), (rn_18, .inl (d_36, 12, .inl fn_38)), (so_19, .inl (d_37, 12, .inl (fun _ => 0))), (q39, .inl (cA40, 1, .inr (.inl fo_157)))] := hD
      refine W.widen (k := 37) (n := 3408) (Nat.le_of_ble_eq_true rfl) (Nat.le_of_ble_eq_true rfl) ?_
      obtain rfl := hr156
      refine lv_istore (lv' := [(5, .int 1), (4, .int 0), (3, .ref q39), (2, .ref q13), (1, .ref q1), (0, .ref b)]) hx hb dL_law_509 hl (by decide) rfl (fun ls hl => ?_)
      refine lv_aload_n hx hb dL_law_511 rfl (lv_at hl 3 rfl) ?_
      refine lv_aload_n hx hb dL_law_512 rfl (lv_at hl 5 rfl) ?_
      refine lv_iload hx hb dL_law_513 (lv_at hl 1 rfl) ?_
      refine lv_iconst (v := 1) hx hb dL_law_515 (by decide) ?_
      refine lv_iadd hx hb dL_law_516 ?_
      refine W.eq (g2 := F0 m 517 ls [.int 1, .ref b, .ref q13]) rfl ?_
      refine va_sld hx hb hX hbl hbA hS (vp_in_nI (n := 1) (by decide) (by decide)) dL_law_517 ?_
      refine W.eq (g2 := F0 m 518 ls [.int (xs 1), .ref q13]) rfl ?_
      refine lv_aload_n hx hb dL_law_518 rfl (lv_at hl 5 rfl) ?_
      refine lv_iload hx hb dL_law_519 (lv_at hl 1 rfl) ?_
      refine lv_iconst (v := 2) hx hb dL_law_521 (by decide) ?_
      refine lv_iadd hx hb dL_law_522 ?_
      refine W.eq (g2 := F0 m 523 ls [.int 2, .ref b, .int (xs 1), .ref q13]) rfl ?_
      refine va_sld hx hb hX hbl hbA hS (vp_in_nI (n := 2) (by decide) (by decide)) dL_law_523 ?_
      refine W.eq (g2 := F0 m 524 ls [.int (xs 2), .int (xs 1), .ref q13]) rfl ?_
      refine lv_aload_n hx hb dL_law_524 rfl (lv_at hl 5 rfl) ?_
      refine lv_iload hx hb dL_law_525 (lv_at hl 1 rfl) ?_
      refine lv_iconst (v := 3) hx hb dL_law_527 (by decide) ?_
      refine lv_iadd hx hb dL_law_528 ?_
      refine W.eq (g2 := F0 m 529 ls [.int 3, .ref b, .int (xs 2), .int (xs 1), .ref q13]) rfl ?_
      refine va_sld hx hb hX hbl hbA hS (vp_in_nI (n := 3) (by decide) (by decide)) dL_law_529 ?_
      refine W.eq (g2 := F0 m 530 ls [.int (xs 3), .int (xs 2), .int (xs 1), .ref q13]) rfl ?_
      refine lv_aload_n hx hb dL_law_530 rfl (lv_at hl 5 rfl) ?_
      refine lv_iload hx hb dL_law_531 (lv_at hl 1 rfl) ?_
      refine lv_iconst (v := 4) hx hb dL_law_533 (by decide) ?_
      refine lv_iadd hx hb dL_law_534 ?_
      refine W.eq (g2 := F0 m 535 ls [.int 4, .ref b, .int (xs 3), .int (xs 2), .int (xs 1), .ref q13]) rfl ?_
      refine va_sld hx hb hX hbl hbA hS (vp_in_nI (n := 4) (by decide) (by decide)) dL_law_535 ?_
      refine W.eq (g2 := F0 m 536 ls [.int (xs 4), .int (xs 3), .int (xs 2), .int (xs 1), .ref q13]) rfl ?_
      refine lv_aload_n hx hb dL_law_536 rfl (lv_at hl 5 rfl) ?_
      refine lv_iload hx hb dL_law_537 (lv_at hl 1 rfl) ?_
      refine lv_iconst (v := 5) hx hb dL_law_539 (by decide) ?_
      refine lv_iadd hx hb dL_law_540 ?_
      refine W.eq (g2 := F0 m 541 ls [.int 5, .ref b, .int (xs 4), .int (xs 3), .int (xs 2), .int (xs 1), .ref q13]) rfl ?_
      refine va_sld hx hb hX hbl hbA hS (vp_in_nI (n := 5) (by decide) (by decide)) dL_law_541 ?_
      refine W.eq (g2 := F0 m 542 ls [.int (xs 5), .int (xs 4), .int (xs 3), .int (xs 2), .int (xs 1), .ref q13]) rfl ?_
      have hPc := hP.sub (ws' := [(q13, .inr (3, [.int 0, .int 0, .ref wi_15, .ref co_16, .ref sl_17, .ref rn_18, .ref so_19, .ref bn_20, .ref sm_21, .ref ah_22]))]) [3] rfl
      have hKc := hK.sub (tys' := []) [] rfl
      have hDc := hD.sub (ws' := [(q13, .inr (3, [.int 0, .int 0, .ref wi_15, .ref co_16, .ref sl_17, .ref rn_18, .ref so_19, .ref bn_20, .ref sm_21, .ref ah_22]))]) [3] (by decide) rfl
      have hFc := va_free (wc := [(q13, .inr (3, [.int 0, .int 0, .ref wi_15, .ref co_16, .ref sl_17, .ref rn_18, .ref so_19, .ref bn_20, .ref sm_21, .ref ah_22]))]) hD hS hA [3] rfl
      refine va_calli (va_runV (As := [.int (xs 1), .int (xs 2), .int (xs 3), .int (xs 4), .int (xs 5)]) (rest := []) ⟨hx, hb, hml, hown, hts⟩ (k3_layCourse l dC dI H.size q13 wi_15 co_16 sl_17 rn_18 so_19 bn_20 sm_21 ah_22 0 (xs 1) (xs 2) (xs 3) (xs 4) (xs 5) ) (cwV 5 hts gL_law_X3_layCourse rfl rfl rfl (by decide +kernel) ⟨Nat.le_of_ble_eq_true rfl, Nat.le_of_ble_eq_true rfl⟩) ⟨fun a U g mk q => by obtain ⟨q0, q1, qP, qK, qD⟩ := q; exact ⟨q0, q1, qP, va_K.moved (u := U) (U := U.calling g mk a) (Vm.Alike.refl U.vm) qK, qD⟩, va_recv hKc hPc (ci := 3) (q0 := 0) rfl rfl, fun U hU hW => ⟨rfl, by rw [hU], by rw [hU]; exact hPc, va_K.moved hW.alike hKc, hDc.weaken (fun _ _ _ _ => trivial)⟩⟩ rfl rfl hl.1 rfl (lv_room (Nat.le_of_ble_eq_true rfl)) dL_law_542 ⟨Nat.le_of_ble_eq_true rfl, Nat.le_of_ble_eq_true rfl⟩) hS (fun q _ h => hFc q h) hFc (fun r158 u t H1 locs ht hvm hr158 hB hz1 hk1 hS => ?_)
      obtain ⟨hP1, hK1, hD1⟩ := hB
      rw [ht] at hP1
      have hK1 := va_K.moved hvm.symm hK1
      try dsimp only at hr158
      obtain ⟨hP, hD⟩ := va_join (wr := [(ba_4, .inl (cB_9, 3, .inl (fun _ => 0))), (ra_5, .inl (cA_10, 12, .inl fr_12)), (su_6, .inl (cS_11, 12, .inl (fun _ => 0))), (sm_21, .inr (2, [.int 0, .ref gr_23, .ref gt_24, .ref gw_25, .ref gk_26, .ref gi_27, .ref gp_28, .ref go_29, .ref gg_30, .ref q13])), (wi_15, .inl (d_31, 6, .inl (fun _ => 0))), (co_16, .inl (d_32, 6, .inl (fun _ => 0))), (sl_17, .inl (d_33, 6, .inl (fun _ => 0))), (gr_23, .inl (d_34, 6, .inl (fun _ => 0))), (bn_20, .inl (d_35, 3, .inl (fun _ => 0))), (rn_18, .inl (d_36, 12, .inl fn_38)), (so_19, .inl (d_37, 12, .inl (fun _ => 0))), (q39, .inl (cA40, 1, .inr (.inl fo_157)))]) (w1 := [(q13, .inr (3, [.int 1, .int 0, .ref wi_15, .ref co_16, .ref sl_17, .ref rn_18, .ref so_19, .ref bn_20, .ref sm_21, .ref ah_22]))]) hP hD [3] [0, 1, 2, 4, 5, 6, 7, 8, 9, 10, 11, 12] rfl rfl (by decide) (by decide) hk1 hFc hP1 hD1
      generalize H1 = H at hP hS ⊢
      have hP : va_P (dC, dI) vwCl [(ba_4, .inl (cB_9, 3, .inl (fun _ => 0))), (ra_5, .inl (cA_10, 12, .inl fr_12)), (su_6, .inl (cS_11, 12, .inl (fun _ => 0))), (sm_21, .inr (2, [.int 0, .ref gr_23, .ref gt_24, .ref gw_25, .ref gk_26, .ref gi_27, .ref gp_28, .ref go_29, .ref gg_30, .ref q13])), (wi_15, .inl (d_31, 6, .inl (fun _ => 0))), (co_16, .inl (d_32, 6, .inl (fun _ => 0))), (sl_17, .inl (d_33, 6, .inl (fun _ => 0))), (gr_23, .inl (d_34, 6, .inl (fun _ => 0))), (bn_20, .inl (d_35, 3, .inl (fun _ => 0))), (rn_18, .inl (d_36, 12, .inl fn_38)), (so_19, .inl (d_37, 12, .inl (fun _ => 0))), (q39, .inl (cA40, 1, .inr (.inl fo_157))), (q13, .inr (3, [.int 1, .int 0, .ref wi_15, .ref co_16, .ref sl_17, .ref rn_18, .ref so_19, .ref bn_20, .ref sm_21, .ref ah_22]))] H := hP
      have hD : va_D A [(ba_4, .inl (cB_9, 3, .inl (fun _ => 0))), (ra_5, .inl (cA_10, 12, .inl fr_12)), (su_6, .inl (cS_11, 12, .inl (fun _ => 0))), (sm_21, .inr (2, [.int 0, .ref gr_23, .ref gt_24, .ref gw_25, .ref gk_26, .ref gi_27, .ref gp_28, .ref go_29, .ref gg_30, .ref q13])), (wi_15, .inl (d_31, 6, .inl (fun _ => 0))), (co_16, .inl (d_32, 6, .inl (fun _ => 0))), (sl_17, .inl (d_33, 6, .inl (fun _ => 0))), (gr_23, .inl (d_34, 6, .inl (fun _ => 0))), (bn_20, .inl (d_35, 3, .inl (fun _ => 0))), (rn_18, .inl (d_36, 12, .inl fn_38)), (so_19, .inl (d_37, 12, .inl (fun _ => 0))), (q39, .inl (cA40, 1, .inr (.inl fo_157))), (q13, .inr (3, [.int 1, .int 0, .ref wi_15, .ref co_16, .ref sl_17, .ref rn_18, .ref so_19, .ref bn_20, .ref sm_21, .ref ah_22]))] := hD
      obtain rfl := hr158
      refine lv_istore (lv' := [(6, .int 0), (5, .int 1), (4, .int 0), (3, .ref q39), (2, .ref q13), (1, .ref q1), (0, .ref b)]) hx hb dL_law_545 hl (by decide) rfl (fun ls hl => ?_)
      refine lv_aload_n hx hb dL_law_547 rfl (lv_at hl 4 rfl) ?_
      have hPc := hP.sub (ws' := [(q13, .inr (3, [.int 1, .int 0, .ref wi_15, .ref co_16, .ref sl_17, .ref rn_18, .ref so_19, .ref bn_20, .ref sm_21, .ref ah_22]))]) [12] rfl
      have hKc := hK.sub (tys' := []) [] rfl
      refine vp_callSi (va_runV (As := []) (rest := []) ⟨hx, hb, hml, hown, hts⟩ (k3_thrown l dC dI q13 wi_15 co_16 sl_17 rn_18 so_19 bn_20 sm_21 ah_22 1 0 ) (cwV 0 hts gL_law_X3_thrown rfl rfl rfl (by decide +kernel) ⟨Nat.le_of_ble_eq_true rfl, Nat.le_of_ble_eq_true rfl⟩) ⟨fun a U g mk q => by obtain ⟨q0, qP, qK⟩ := q; exact ⟨q0, qP, va_K.moved (u := U) (U := U.calling g mk a) (Vm.Alike.refl U.vm) qK⟩, va_recv hKc hPc (ci := 3) (q0 := 0) rfl rfl, fun U hU hW => ⟨rfl, by rw [hU]; exact hPc, va_K.moved hW.alike hKc⟩⟩ rfl rfl hl.1 rfl (lv_room (Nat.le_of_ble_eq_true rfl)) dL_law_548 ⟨Nat.le_of_ble_eq_true rfl, Nat.le_of_ble_eq_true rfl⟩).run (fun r159 hr159 => ?_)
      obtain rfl := hr159
      refine lv_iload hx hb dL_law_551 (lv_at hl 1 rfl) ?_
      refine lv_icmp_eq (tgt := 558) hx hb dL_law_553 (by decide) (fun c160 => ?_) (fun c160 => absurd c160 (by decide))
      refine lv_iload hx hb dL_law_558 (lv_at hl 1 rfl) ?_
      refine lv_if_ne (tgt := 575) hx hb dL_law_560 (by decide) (fun c161 => ?_) (fun c161 => absurd c161 (by decide))
      refine lv_goto (tgt := 1381) hx hb dL_law_575 (by decide) ?_
      refine lv_iinc (v := 7) (lv' := [(4, .int 7), (6, .int 0), (5, .int 1), (3, .ref q39), (2, .ref q13), (1, .ref q1), (0, .ref b)]) hx hb dL_law_1381 hl (k := 2) rfl (by decide) (by decide) rfl (fun ls hl => ?_)
      refine lv_goto (tgt := 23) hx hb dL_law_1384 (by decide) ?_
      refine lv_iload hx hb dL_law_23 (lv_at hl 0 rfl) ?_
      refine lv_aload_n hx hb dL_law_25 rfl (lv_at hl 6 rfl) ?_
      refine va_slen hx hb hX hbl hbA hS dL_law_26 ?_
      refine W.eq (g2 := F0 m 27 ls [.int 7, .int 7]) rfl ?_
      refine lv_bipush (v := 7) hx hb dL_law_27 (by decide) ?_
      refine lv_isub hx hb dL_law_29 ?_
      refine W.eq (g2 := F0 m 30 ls [.int 0, .int 7]) rfl ?_
      refine lv_icmp_gt (tgt := 1387) hx hb dL_law_30 (by decide) (fun c162 => ?_) (fun c162 => absurd c162 (by decide))
      refine lv_iconst (v := 1) hx hb dL_law_1387 (by decide) ?_
      refine va_forget (fun q hq => hAs _ (hS.2.2 q hq)) ?_
      refine W.widen (k := 600002) (n := 7302232) (Nat.le_of_ble_eq_true rfl) (Nat.le_of_ble_eq_true rfl) ?_
      exact lw_ret (d0 := s.drawn) (Drawn.sameBut.refl s.drawn lw_cs) hx hb hr hlocks dL_law_1388
    · rw [hje]
      -- case 5
      refine W.eq (g2 := F0 m 40 ls [.int 5]) rfl ?_
      refine lv_tableIn (off := 538) (tgt := 578) hx hb dL_law_40 (by decide) (by decide) (by rfl) (by decide) ?_
      refine lv_aload_n hx hb dL_law_578 rfl (lv_at hl 3 rfl) ?_
      refine lv_aload_n hx hb dL_law_579 rfl (lv_at hl 4 rfl) ?_
      refine lv_iload hx hb dL_law_580 (lv_at hl 0 rfl) ?_
      refine lv_iconst (v := 1) hx hb dL_law_582 (by decide) ?_
      refine lv_iadd hx hb dL_law_583 ?_
      refine W.eq (g2 := F0 m 584 ls [.int 1, .ref b, .ref q1]) rfl ?_
      refine va_sld hx hb hX hbl hbA hS (vp_in_nI (n := 1) (by decide) (by decide)) dL_law_584 ?_
      refine W.eq (g2 := F0 m 585 ls [.int (xs 1), .ref q1]) rfl ?_
      refine lv_aload_n hx hb dL_law_585 rfl (lv_at hl 4 rfl) ?_
      refine lv_iload hx hb dL_law_586 (lv_at hl 0 rfl) ?_
      refine lv_iconst (v := 2) hx hb dL_law_588 (by decide) ?_
      refine lv_iadd hx hb dL_law_589 ?_
      refine W.eq (g2 := F0 m 590 ls [.int 2, .ref b, .int (xs 1), .ref q1]) rfl ?_
      refine va_sld hx hb hX hbl hbA hS (vp_in_nI (n := 2) (by decide) (by decide)) dL_law_590 ?_
      refine W.eq (g2 := F0 m 591 ls [.int (xs 2), .int (xs 1), .ref q1]) rfl ?_
      refine lv_aload_n hx hb dL_law_591 rfl (lv_at hl 4 rfl) ?_
      refine lv_iload hx hb dL_law_592 (lv_at hl 0 rfl) ?_
      refine lv_iconst (v := 3) hx hb dL_law_594 (by decide) ?_
      refine lv_iadd hx hb dL_law_595 ?_
      refine W.eq (g2 := F0 m 596 ls [.int 3, .ref b, .int (xs 2), .int (xs 1), .ref q1]) rfl ?_
      refine va_sld hx hb hX hbl hbA hS (vp_in_nI (n := 3) (by decide) (by decide)) dL_law_596 ?_
      refine W.eq (g2 := F0 m 597 ls [.int (xs 3), .int (xs 2), .int (xs 1), .ref q1]) rfl ?_
      refine lv_aload_n hx hb dL_law_597 rfl (lv_at hl 1 rfl) ?_
      have hPc := hP.sub (ws' := [(q1, .inr (1, [.ref ro_3, .int 0, .ref ba_4, .ref ra_5, .ref su_6, .int 0, .ref tr_7])), (ro_3, .inl (cR_8, 6, .inr (.inr (.inr (.inr (fun _ => none)))))), (q39, .inl (cA40, 1, .inr (.inl (fun _ => 0))))]) [0, 1, 14] rfl
      have hKc := hK.sub (tys' := [(cR_8, .object RX0), (cA40, .long)]) [0, 11] rfl
      have hDc := hD.sub (ws' := [(q1, .inr (1, [.ref ro_3, .int 0, .ref ba_4, .ref ra_5, .ref su_6, .int 0, .ref tr_7])), (ro_3, .inl (cR_8, 6, .inr (.inr (.inr (.inr (fun _ => none)))))), (q39, .inl (cA40, 1, .inr (.inl (fun _ => 0))))]) [0, 1, 14] (by decide) rfl
      have hFc := va_free (wc := [(q1, .inr (1, [.ref ro_3, .int 0, .ref ba_4, .ref ra_5, .ref su_6, .int 0, .ref tr_7])), (ro_3, .inl (cR_8, 6, .inr (.inr (.inr (.inr (fun _ => none)))))), (q39, .inl (cA40, 1, .inr (.inl (fun _ => 0))))]) hD hS hA [0, 1, 14] rfl
      refine va_calli (vx_runSW (As := [.ref q1, .int (xs 1), .int (xs 2), .int (xs 3), .ref q39]) (rest := []) ⟨hx, hb, hml, hown, hts⟩ (kL_mend l hst dC dI H.size q1 ro_3 ba_4 ra_5 su_6 tr_7 cR_8 q39 cA40 (fun _ => 0) (xs 1) (xs 2) (xs 3) ) (vx_cwSW 5 hts gL_law_L_mend rfl rfl rfl (by decide +kernel) ⟨Nat.le_of_ble_eq_true rfl, Nat.le_of_ble_eq_true rfl⟩) ⟨fun a U g mk q => by obtain ⟨q0, q1, qP, qK, qD, qX, qT⟩ := q; exact ⟨q0, q1, qP, va_K.moved (u := U) (U := U.calling g mk a) (Vm.Alike.refl U.vm) qK, qD, zX.calling qX, zTh.calling qT⟩, fun U hU hW => ⟨rfl, by rw [hU], by rw [hU]; exact hPc, va_K.moved hW.alike hKc, hDc.weaken (fun _ _ _ _ => trivial), zX.warm hW hZX, by rw [hU]; exact zTh.at hW hZT hS hFc⟩⟩ rfl rfl hl.1 rfl (lv_room (Nat.le_of_ble_eq_true rfl)) dL_law_598 ⟨Nat.le_of_ble_eq_true rfl, Nat.le_of_ble_eq_true rfl⟩) hS (fun q _ h => hFc q h) hFc (fun r163 u t H1 locs ht hvm hr163 hB hz1 hk1 hS => ?_)
      obtain ⟨fo_164, rfl⟩ : ∃ z, z = u := ⟨_, rfl⟩
      obtain ⟨hP1, hK1, hD1⟩ := hB
      rw [ht] at hP1
      have hK1 := va_K.moved hvm.symm hK1
      try dsimp only at hr163
      obtain ⟨hP, hD⟩ := va_join (wr := [(ba_4, .inl (cB_9, 3, .inl (fun _ => 0))), (ra_5, .inl (cA_10, 12, .inl fr_12)), (su_6, .inl (cS_11, 12, .inl (fun _ => 0))), (q13, .inr (3, [.int 0, .int 0, .ref wi_15, .ref co_16, .ref sl_17, .ref rn_18, .ref so_19, .ref bn_20, .ref sm_21, .ref ah_22])), (sm_21, .inr (2, [.int 0, .ref gr_23, .ref gt_24, .ref gw_25, .ref gk_26, .ref gi_27, .ref gp_28, .ref go_29, .ref gg_30, .ref q13])), (wi_15, .inl (d_31, 6, .inl (fun _ => 0))), (co_16, .inl (d_32, 6, .inl (fun _ => 0))), (sl_17, .inl (d_33, 6, .inl (fun _ => 0))), (gr_23, .inl (d_34, 6, .inl (fun _ => 0))), (bn_20, .inl (d_35, 3, .inl (fun _ => 0))), (rn_18, .inl (d_36, 12, .inl fn_38)), (so_19, .inl (d_37, 12, .inl (fun _ => 0)))]) (w1 := [(q39, .inl (cA40, 1, .inr (.inl fo_164)))]) hP hD [0, 1, 14] [2, 3, 4, 5, 6, 7, 8, 9, 10, 11, 12, 13] rfl rfl (by decide) (by decide) hk1 hFc hP1 hD1
      generalize H1 = H at hP hS ⊢
      have hP : va_P (dC, dI) vwCl [(ba_4, .inl (cB_9, 3, .inl (fun _ => 0))), (ra_5, .inl (cA_10, 12, .inl fr_12)), (su_6, .inl (cS_11, 12, .inl (fun _ => 0))), (q13, .inr (3, [.int 0, .int 0, .ref wi_15, .ref co_16, .ref sl_17, .ref rn_18, .ref so_19, .ref bn_20, .ref sm_21, .ref ah_22])), (sm_21, .inr (2, [.int 0, .ref gr_23, .ref gt_24, .ref gw_25, .ref gk_26, .ref gi_27, .ref gp_28, .ref go_29, .ref gg_30, .ref q13])), (wi_15, .inl (d_31, 6, .inl (fun _ => 0))), (co_16, .inl (d_32, 6, .inl (fun _ => 0))), (sl_17, .inl (d_33, 6, .inl (fun _ => 0))), (gr_23, .inl (d_34, 6, .inl (fun _ => 0))), (bn_20, .inl (d_35, 3, .inl (fun _ => 0))), (rn_18, .inl (d_36, 12, .inl fn_38)), (so_19, .inl (d_37, 12, .inl (fun _ => 0))), (q39, .inl (cA40, 1, .inr (.inl fo_164)))] H := hP
      have hD : va_D A [(ba_4, .inl (cB_9, 3, .inl (fun _ => 0))), (ra_5, .inl (cA_10, 12, .inl fr_12)), (su_6, .inl (cS_11, 12, .inl (fun _ => 0))), (q13, .inr (3, [.int 0, .int 0, .ref wi_15, .ref co_16, .ref sl_17, .ref rn_18, .ref so_19, .ref bn_20, .ref sm_21, .ref ah_22])), (sm_21, .inr (2, [.int 0, .ref gr_23, .ref gt_24, .ref gw_25, .ref gk_26, .ref gi_27, .ref gp_28, .ref go_29, .ref gg_30, .ref q13])), (wi_15, .inl (d_31, 6, .inl (fun _ => 0))), (co_16, .inl (d_32, 6, .inl (fun _ => 0))), (sl_17, .inl (d_33, 6, .inl (fun _ => 0))), (gr_23, .inl (d_34, 6, .inl (fun _ => 0))), (bn_20, .inl (d_35, 3, .inl (fun _ => 0))), (rn_18, .inl (d_36, 12, .inl fn_38)), (so_19, .inl (d_37, 12, .inl (fun _ => 0))), (q39, .inl (cA40, 1, .inr (.inl fo_164)))] := hD
      refine W.widen (k := 37) (n := 3408) (Nat.le_of_ble_eq_true rfl) (Nat.le_of_ble_eq_true rfl) ?_
      obtain rfl := hr163
      refine lv_istore (lv' := [(5, .int 1), (4, .int 0), (3, .ref q39), (2, .ref q13), (1, .ref q1), (0, .ref b)]) hx hb dL_law_601 hl (by decide) rfl (fun ls hl => ?_)
      refine lv_aload_n hx hb dL_law_603 rfl (lv_at hl 3 rfl) ?_
      refine lv_aload_n hx hb dL_law_604 rfl (lv_at hl 5 rfl) ?_
      refine lv_iload hx hb dL_law_605 (lv_at hl 1 rfl) ?_
      refine lv_iconst (v := 1) hx hb dL_law_607 (by decide) ?_
      refine lv_iadd hx hb dL_law_608 ?_
      refine W.eq (g2 := F0 m 609 ls [.int 1, .ref b, .ref q13]) rfl ?_
      refine va_sld hx hb hX hbl hbA hS (vp_in_nI (n := 1) (by decide) (by decide)) dL_law_609 ?_
      refine W.eq (g2 := F0 m 610 ls [.int (xs 1), .ref q13]) rfl ?_
      refine lv_aload_n hx hb dL_law_610 rfl (lv_at hl 5 rfl) ?_
      refine lv_iload hx hb dL_law_611 (lv_at hl 1 rfl) ?_
      refine lv_iconst (v := 2) hx hb dL_law_613 (by decide) ?_
      refine lv_iadd hx hb dL_law_614 ?_
      refine W.eq (g2 := F0 m 615 ls [.int 2, .ref b, .int (xs 1), .ref q13]) rfl ?_
      refine va_sld hx hb hX hbl hbA hS (vp_in_nI (n := 2) (by decide) (by decide)) dL_law_615 ?_
      refine W.eq (g2 := F0 m 616 ls [.int (xs 2), .int (xs 1), .ref q13]) rfl ?_
      refine lv_aload_n hx hb dL_law_616 rfl (lv_at hl 5 rfl) ?_
      refine lv_iload hx hb dL_law_617 (lv_at hl 1 rfl) ?_
      refine lv_iconst (v := 3) hx hb dL_law_619 (by decide) ?_
      refine lv_iadd hx hb dL_law_620 ?_
      refine W.eq (g2 := F0 m 621 ls [.int 3, .ref b, .int (xs 2), .int (xs 1), .ref q13]) rfl ?_
      refine va_sld hx hb hX hbl hbA hS (vp_in_nI (n := 3) (by decide) (by decide)) dL_law_621 ?_
      refine W.eq (g2 := F0 m 622 ls [.int (xs 3), .int (xs 2), .int (xs 1), .ref q13]) rfl ?_
      have hPc := hP.sub (ws' := [(q13, .inr (3, [.int 0, .int 0, .ref wi_15, .ref co_16, .ref sl_17, .ref rn_18, .ref so_19, .ref bn_20, .ref sm_21, .ref ah_22]))]) [3] rfl
      have hKc := hK.sub (tys' := []) [] rfl
      have hDc := hD.sub (ws' := [(q13, .inr (3, [.int 0, .int 0, .ref wi_15, .ref co_16, .ref sl_17, .ref rn_18, .ref so_19, .ref bn_20, .ref sm_21, .ref ah_22]))]) [3] (by decide) rfl
      have hFc := va_free (wc := [(q13, .inr (3, [.int 0, .int 0, .ref wi_15, .ref co_16, .ref sl_17, .ref rn_18, .ref so_19, .ref bn_20, .ref sm_21, .ref ah_22]))]) hD hS hA [3] rfl
      refine va_calli (va_runV (As := [.int (xs 1), .int (xs 2), .int (xs 3)]) (rest := []) ⟨hx, hb, hml, hown, hts⟩ (k3_mend l dC dI H.size q13 wi_15 co_16 sl_17 rn_18 so_19 bn_20 sm_21 ah_22 0 (xs 1) (xs 2) (xs 3) ) (cwV 3 hts gL_law_X3_mend rfl rfl rfl (by decide +kernel) ⟨Nat.le_of_ble_eq_true rfl, Nat.le_of_ble_eq_true rfl⟩) ⟨fun a U g mk q => by obtain ⟨q0, q1, qP, qK, qD⟩ := q; exact ⟨q0, q1, qP, va_K.moved (u := U) (U := U.calling g mk a) (Vm.Alike.refl U.vm) qK, qD⟩, va_recv hKc hPc (ci := 3) (q0 := 0) rfl rfl, fun U hU hW => ⟨rfl, by rw [hU], by rw [hU]; exact hPc, va_K.moved hW.alike hKc, hDc.weaken (fun _ _ _ _ => trivial)⟩⟩ rfl rfl hl.1 rfl (lv_room (Nat.le_of_ble_eq_true rfl)) dL_law_622 ⟨Nat.le_of_ble_eq_true rfl, Nat.le_of_ble_eq_true rfl⟩) hS (fun q _ h => hFc q h) hFc (fun r165 u t H1 locs ht hvm hr165 hB hz1 hk1 hS => ?_)
      obtain ⟨hP1, hK1, hD1⟩ := hB
      rw [ht] at hP1
      have hK1 := va_K.moved hvm.symm hK1
      try dsimp only at hr165
      obtain ⟨hP, hD⟩ := va_join (wr := [(ba_4, .inl (cB_9, 3, .inl (fun _ => 0))), (ra_5, .inl (cA_10, 12, .inl fr_12)), (su_6, .inl (cS_11, 12, .inl (fun _ => 0))), (sm_21, .inr (2, [.int 0, .ref gr_23, .ref gt_24, .ref gw_25, .ref gk_26, .ref gi_27, .ref gp_28, .ref go_29, .ref gg_30, .ref q13])), (wi_15, .inl (d_31, 6, .inl (fun _ => 0))), (co_16, .inl (d_32, 6, .inl (fun _ => 0))), (sl_17, .inl (d_33, 6, .inl (fun _ => 0))), (gr_23, .inl (d_34, 6, .inl (fun _ => 0))), (bn_20, .inl (d_35, 3, .inl (fun _ => 0))), (rn_18, .inl (d_36, 12, .inl fn_38)), (so_19, .inl (d_37, 12, .inl (fun _ => 0))), (q39, .inl (cA40, 1, .inr (.inl fo_164)))]) (w1 := [(q13, .inr (3, [.int 1, .int 0, .ref wi_15, .ref co_16, .ref sl_17, .ref rn_18, .ref so_19, .ref bn_20, .ref sm_21, .ref ah_22]))]) hP hD [3] [0, 1, 2, 4, 5, 6, 7, 8, 9, 10, 11, 12] rfl rfl (by decide) (by decide) hk1 hFc hP1 hD1
      generalize H1 = H at hP hS ⊢
      have hP : va_P (dC, dI) vwCl [(ba_4, .inl (cB_9, 3, .inl (fun _ => 0))), (ra_5, .inl (cA_10, 12, .inl fr_12)), (su_6, .inl (cS_11, 12, .inl (fun _ => 0))), (sm_21, .inr (2, [.int 0, .ref gr_23, .ref gt_24, .ref gw_25, .ref gk_26, .ref gi_27, .ref gp_28, .ref go_29, .ref gg_30, .ref q13])), (wi_15, .inl (d_31, 6, .inl (fun _ => 0))), (co_16, .inl (d_32, 6, .inl (fun _ => 0))), (sl_17, .inl (d_33, 6, .inl (fun _ => 0))), (gr_23, .inl (d_34, 6, .inl (fun _ => 0))), (bn_20, .inl (d_35, 3, .inl (fun _ => 0))), (rn_18, .inl (d_36, 12, .inl fn_38)), (so_19, .inl (d_37, 12, .inl (fun _ => 0))), (q39, .inl (cA40, 1, .inr (.inl fo_164))), (q13, .inr (3, [.int 1, .int 0, .ref wi_15, .ref co_16, .ref sl_17, .ref rn_18, .ref so_19, .ref bn_20, .ref sm_21, .ref ah_22]))] H := hP
      have hD : va_D A [(ba_4, .inl (cB_9, 3, .inl (fun _ => 0))), (ra_5, .inl (cA_10, 12, .inl fr_12)), (su_6, .inl (cS_11, 12, .inl (fun _ => 0))), (sm_21, .inr (2, [.int 0, .ref gr_23, .ref gt_24, .ref gw_25, .ref gk_26, .ref gi_27, .ref gp_28, .ref go_29, .ref gg_30, .ref q13])), (wi_15, .inl (d_31, 6, .inl (fun _ => 0))), (co_16, .inl (d_32, 6, .inl (fun _ => 0))), (sl_17, .inl (d_33, 6, .inl (fun _ => 0))), (gr_23, .inl (d_34, 6, .inl (fun _ => 0))), (bn_20, .inl (d_35, 3, .inl (fun _ => 0))), (rn_18, .inl (d_36, 12, .inl fn_38)), (so_19, .inl (d_37, 12, .inl (fun _ => 0))), (q39, .inl (cA40, 1, .inr (.inl fo_164))), (q13, .inr (3, [.int 1, .int 0, .ref wi_15, .ref co_16, .ref sl_17, .ref rn_18, .ref so_19, .ref bn_20, .ref sm_21, .ref ah_22]))] := hD
      obtain rfl := hr165
      refine lv_istore (lv' := [(6, .int 0), (5, .int 1), (4, .int 0), (3, .ref q39), (2, .ref q13), (1, .ref q1), (0, .ref b)]) hx hb dL_law_625 hl (by decide) rfl (fun ls hl => ?_)
      refine lv_aload_n hx hb dL_law_627 rfl (lv_at hl 4 rfl) ?_
      have hPc := hP.sub (ws' := [(q13, .inr (3, [.int 1, .int 0, .ref wi_15, .ref co_16, .ref sl_17, .ref rn_18, .ref so_19, .ref bn_20, .ref sm_21, .ref ah_22]))]) [12] rfl
      have hKc := hK.sub (tys' := []) [] rfl
      refine vp_callSi (va_runV (As := []) (rest := []) ⟨hx, hb, hml, hown, hts⟩ (k3_thrown l dC dI q13 wi_15 co_16 sl_17 rn_18 so_19 bn_20 sm_21 ah_22 1 0 ) (cwV 0 hts gL_law_X3_thrown rfl rfl rfl (by decide +kernel) ⟨Nat.le_of_ble_eq_true rfl, Nat.le_of_ble_eq_true rfl⟩) ⟨fun a U g mk q => by obtain ⟨q0, qP, qK⟩ := q; exact ⟨q0, qP, va_K.moved (u := U) (U := U.calling g mk a) (Vm.Alike.refl U.vm) qK⟩, va_recv hKc hPc (ci := 3) (q0 := 0) rfl rfl, fun U hU hW => ⟨rfl, by rw [hU]; exact hPc, va_K.moved hW.alike hKc⟩⟩ rfl rfl hl.1 rfl (lv_room (Nat.le_of_ble_eq_true rfl)) dL_law_628 ⟨Nat.le_of_ble_eq_true rfl, Nat.le_of_ble_eq_true rfl⟩).run (fun r166 hr166 => ?_)
      obtain rfl := hr166
      refine lv_iload hx hb dL_law_631 (lv_at hl 1 rfl) ?_
      refine lv_icmp_eq (tgt := 638) hx hb dL_law_633 (by decide) (fun c167 => ?_) (fun c167 => absurd c167 (by decide))
      refine lv_iload hx hb dL_law_638 (lv_at hl 1 rfl) ?_
      refine lv_if_ne (tgt := 655) hx hb dL_law_640 (by decide) (fun c168 => ?_) (fun c168 => absurd c168 (by decide))
      refine lv_goto (tgt := 1381) hx hb dL_law_655 (by decide) ?_
      refine lv_iinc (v := 7) (lv' := [(4, .int 7), (6, .int 0), (5, .int 1), (3, .ref q39), (2, .ref q13), (1, .ref q1), (0, .ref b)]) hx hb dL_law_1381 hl (k := 2) rfl (by decide) (by decide) rfl (fun ls hl => ?_)
      refine lv_goto (tgt := 23) hx hb dL_law_1384 (by decide) ?_
      refine lv_iload hx hb dL_law_23 (lv_at hl 0 rfl) ?_
      refine lv_aload_n hx hb dL_law_25 rfl (lv_at hl 6 rfl) ?_
      refine va_slen hx hb hX hbl hbA hS dL_law_26 ?_
      refine W.eq (g2 := F0 m 27 ls [.int 7, .int 7]) rfl ?_
      refine lv_bipush (v := 7) hx hb dL_law_27 (by decide) ?_
      refine lv_isub hx hb dL_law_29 ?_
      refine W.eq (g2 := F0 m 30 ls [.int 0, .int 7]) rfl ?_
      refine lv_icmp_gt (tgt := 1387) hx hb dL_law_30 (by decide) (fun c169 => ?_) (fun c169 => absurd c169 (by decide))
      refine lv_iconst (v := 1) hx hb dL_law_1387 (by decide) ?_
      refine va_forget (fun q hq => hAs _ (hS.2.2 q hq)) ?_
      refine W.widen (k := 600002) (n := 7302232) (Nat.le_of_ble_eq_true rfl) (Nat.le_of_ble_eq_true rfl) ?_
      exact lw_ret (d0 := s.drawn) (Drawn.sameBut.refl s.drawn lw_cs) hx hb hr hlocks dL_law_1388
    · rw [hje]
      -- case 6
      refine W.eq (g2 := F0 m 40 ls [.int 6]) rfl ?_
      refine lv_tableIn (off := 618) (tgt := 658) hx hb dL_law_40 (by decide) (by decide) (by rfl) (by decide) ?_
      refine lv_aload_n hx hb dL_law_658 rfl (lv_at hl 3 rfl) ?_
      refine lv_aload_n hx hb dL_law_659 rfl (lv_at hl 4 rfl) ?_
      refine lv_iload hx hb dL_law_660 (lv_at hl 0 rfl) ?_
      refine lv_iconst (v := 1) hx hb dL_law_662 (by decide) ?_
      refine lv_iadd hx hb dL_law_663 ?_
      refine W.eq (g2 := F0 m 664 ls [.int 1, .ref b, .ref q1]) rfl ?_
      refine va_sld hx hb hX hbl hbA hS (vp_in_nI (n := 1) (by decide) (by decide)) dL_law_664 ?_
      refine W.eq (g2 := F0 m 665 ls [.int (xs 1), .ref q1]) rfl ?_
      refine lv_aload_n hx hb dL_law_665 rfl (lv_at hl 1 rfl) ?_
      have hPc := hP.sub (ws' := [(q1, .inr (1, [.ref ro_3, .int 0, .ref ba_4, .ref ra_5, .ref su_6, .int 0, .ref tr_7])), (ro_3, .inl (cR_8, 6, .inr (.inr (.inr (.inr (fun _ => none)))))), (q39, .inl (cA40, 1, .inr (.inl (fun _ => 0))))]) [0, 1, 14] rfl
      have hKc := hK.sub (tys' := [(cR_8, .object RX0), (cA40, .long)]) [0, 11] rfl
      have hDc := hD.sub (ws' := [(q1, .inr (1, [.ref ro_3, .int 0, .ref ba_4, .ref ra_5, .ref su_6, .int 0, .ref tr_7])), (ro_3, .inl (cR_8, 6, .inr (.inr (.inr (.inr (fun _ => none)))))), (q39, .inl (cA40, 1, .inr (.inl (fun _ => 0))))]) [0, 1, 14] (by decide) rfl
      have hFc := va_free (wc := [(q1, .inr (1, [.ref ro_3, .int 0, .ref ba_4, .ref ra_5, .ref su_6, .int 0, .ref tr_7])), (ro_3, .inl (cR_8, 6, .inr (.inr (.inr (.inr (fun _ => none)))))), (q39, .inl (cA40, 1, .inr (.inl (fun _ => 0))))]) hD hS hA [0, 1, 14] rfl
      refine va_calli (vx_runSW (As := [.ref q1, .int (xs 1), .ref q39]) (rest := []) ⟨hx, hb, hml, hown, hts⟩ (kL_bind l hst dC dI H.size q1 ro_3 ba_4 ra_5 su_6 tr_7 cR_8 q39 cA40 (fun _ => 0) (xs 1) ) (vx_cwSW 3 hts gL_law_L_bind rfl rfl rfl (by decide +kernel) ⟨Nat.le_of_ble_eq_true rfl, Nat.le_of_ble_eq_true rfl⟩) ⟨fun a U g mk q => by obtain ⟨q0, q1, qP, qK, qD, qX, qT⟩ := q; exact ⟨q0, q1, qP, va_K.moved (u := U) (U := U.calling g mk a) (Vm.Alike.refl U.vm) qK, qD, zX.calling qX, zTh.calling qT⟩, fun U hU hW => ⟨rfl, by rw [hU], by rw [hU]; exact hPc, va_K.moved hW.alike hKc, hDc.weaken (fun _ _ _ _ => trivial), zX.warm hW hZX, by rw [hU]; exact zTh.at hW hZT hS hFc⟩⟩ rfl rfl hl.1 rfl (lv_room (Nat.le_of_ble_eq_true rfl)) dL_law_666 ⟨Nat.le_of_ble_eq_true rfl, Nat.le_of_ble_eq_true rfl⟩) hS (fun q _ h => hFc q h) hFc (fun r170 u t H1 locs ht hvm hr170 hB hz1 hk1 hS => ?_)
      obtain ⟨fo_171, rfl⟩ : ∃ z, z = u := ⟨_, rfl⟩
      obtain ⟨hP1, hK1, hD1⟩ := hB
      rw [ht] at hP1
      have hK1 := va_K.moved hvm.symm hK1
      try dsimp only at hr170
      obtain ⟨hP, hD⟩ := va_join (wr := [(ba_4, .inl (cB_9, 3, .inl (fun _ => 0))), (ra_5, .inl (cA_10, 12, .inl fr_12)), (su_6, .inl (cS_11, 12, .inl (fun _ => 0))), (q13, .inr (3, [.int 0, .int 0, .ref wi_15, .ref co_16, .ref sl_17, .ref rn_18, .ref so_19, .ref bn_20, .ref sm_21, .ref ah_22])), (sm_21, .inr (2, [.int 0, .ref gr_23, .ref gt_24, .ref gw_25, .ref gk_26, .ref gi_27, .ref gp_28, .ref go_29, .ref gg_30, .ref q13])), (wi_15, .inl (d_31, 6, .inl (fun _ => 0))), (co_16, .inl (d_32, 6, .inl (fun _ => 0))), (sl_17, .inl (d_33, 6, .inl (fun _ => 0))), (gr_23, .inl (d_34, 6, .inl (fun _ => 0))), (bn_20, .inl (d_35, 3, .inl (fun _ => 0))), (rn_18, .inl (d_36, 12, .inl fn_38)), (so_19, .inl (d_37, 12, .inl (fun _ => 0)))]) (w1 := [(q39, .inl (cA40, 1, .inr (.inl fo_171)))]) hP hD [0, 1, 14] [2, 3, 4, 5, 6, 7, 8, 9, 10, 11, 12, 13] rfl rfl (by decide) (by decide) hk1 hFc hP1 hD1
      generalize H1 = H at hP hS ⊢
      have hP : va_P (dC, dI) vwCl [(ba_4, .inl (cB_9, 3, .inl (fun _ => 0))), (ra_5, .inl (cA_10, 12, .inl fr_12)), (su_6, .inl (cS_11, 12, .inl (fun _ => 0))), (q13, .inr (3, [.int 0, .int 0, .ref wi_15, .ref co_16, .ref sl_17, .ref rn_18, .ref so_19, .ref bn_20, .ref sm_21, .ref ah_22])), (sm_21, .inr (2, [.int 0, .ref gr_23, .ref gt_24, .ref gw_25, .ref gk_26, .ref gi_27, .ref gp_28, .ref go_29, .ref gg_30, .ref q13])), (wi_15, .inl (d_31, 6, .inl (fun _ => 0))), (co_16, .inl (d_32, 6, .inl (fun _ => 0))), (sl_17, .inl (d_33, 6, .inl (fun _ => 0))), (gr_23, .inl (d_34, 6, .inl (fun _ => 0))), (bn_20, .inl (d_35, 3, .inl (fun _ => 0))), (rn_18, .inl (d_36, 12, .inl fn_38)), (so_19, .inl (d_37, 12, .inl (fun _ => 0))), (q39, .inl (cA40, 1, .inr (.inl fo_171)))] H := hP
      have hD : va_D A [(ba_4, .inl (cB_9, 3, .inl (fun _ => 0))), (ra_5, .inl (cA_10, 12, .inl fr_12)), (su_6, .inl (cS_11, 12, .inl (fun _ => 0))), (q13, .inr (3, [.int 0, .int 0, .ref wi_15, .ref co_16, .ref sl_17, .ref rn_18, .ref so_19, .ref bn_20, .ref sm_21, .ref ah_22])), (sm_21, .inr (2, [.int 0, .ref gr_23, .ref gt_24, .ref gw_25, .ref gk_26, .ref gi_27, .ref gp_28, .ref go_29, .ref gg_30, .ref q13])), (wi_15, .inl (d_31, 6, .inl (fun _ => 0))), (co_16, .inl (d_32, 6, .inl (fun _ => 0))), (sl_17, .inl (d_33, 6, .inl (fun _ => 0))), (gr_23, .inl (d_34, 6, .inl (fun _ => 0))), (bn_20, .inl (d_35, 3, .inl (fun _ => 0))), (rn_18, .inl (d_36, 12, .inl fn_38)), (so_19, .inl (d_37, 12, .inl (fun _ => 0))), (q39, .inl (cA40, 1, .inr (.inl fo_171)))] := hD
      refine W.widen (k := 37) (n := 3408) (Nat.le_of_ble_eq_true rfl) (Nat.le_of_ble_eq_true rfl) ?_
      obtain rfl := hr170
      refine lv_istore (lv' := [(5, .int 1), (4, .int 0), (3, .ref q39), (2, .ref q13), (1, .ref q1), (0, .ref b)]) hx hb dL_law_669 hl (by decide) rfl (fun ls hl => ?_)
      refine lv_aload_n hx hb dL_law_671 rfl (lv_at hl 3 rfl) ?_
      refine lv_aload_n hx hb dL_law_672 rfl (lv_at hl 5 rfl) ?_
      refine lv_iload hx hb dL_law_673 (lv_at hl 1 rfl) ?_
      refine lv_iconst (v := 1) hx hb dL_law_675 (by decide) ?_
      refine lv_iadd hx hb dL_law_676 ?_
      refine W.eq (g2 := F0 m 677 ls [.int 1, .ref b, .ref q13]) rfl ?_
      refine va_sld hx hb hX hbl hbA hS (vp_in_nI (n := 1) (by decide) (by decide)) dL_law_677 ?_
      refine W.eq (g2 := F0 m 678 ls [.int (xs 1), .ref q13]) rfl ?_
      have hPc := hP.sub (ws' := [(q13, .inr (3, [.int 0, .int 0, .ref wi_15, .ref co_16, .ref sl_17, .ref rn_18, .ref so_19, .ref bn_20, .ref sm_21, .ref ah_22]))]) [3] rfl
      have hKc := hK.sub (tys' := []) [] rfl
      have hDc := hD.sub (ws' := [(q13, .inr (3, [.int 0, .int 0, .ref wi_15, .ref co_16, .ref sl_17, .ref rn_18, .ref so_19, .ref bn_20, .ref sm_21, .ref ah_22]))]) [3] (by decide) rfl
      have hFc := va_free (wc := [(q13, .inr (3, [.int 0, .int 0, .ref wi_15, .ref co_16, .ref sl_17, .ref rn_18, .ref so_19, .ref bn_20, .ref sm_21, .ref ah_22]))]) hD hS hA [3] rfl
      refine va_calli (va_runV (As := [.int (xs 1)]) (rest := []) ⟨hx, hb, hml, hown, hts⟩ (k3_bind l dC dI H.size q13 wi_15 co_16 sl_17 rn_18 so_19 bn_20 sm_21 ah_22 0 (xs 1) ) (cwV 1 hts gL_law_X3_bind rfl rfl rfl (by decide +kernel) ⟨Nat.le_of_ble_eq_true rfl, Nat.le_of_ble_eq_true rfl⟩) ⟨fun a U g mk q => by obtain ⟨q0, q1, qP, qK, qD⟩ := q; exact ⟨q0, q1, qP, va_K.moved (u := U) (U := U.calling g mk a) (Vm.Alike.refl U.vm) qK, qD⟩, va_recv hKc hPc (ci := 3) (q0 := 0) rfl rfl, fun U hU hW => ⟨rfl, by rw [hU], by rw [hU]; exact hPc, va_K.moved hW.alike hKc, hDc.weaken (fun _ _ _ _ => trivial)⟩⟩ rfl rfl hl.1 rfl (lv_room (Nat.le_of_ble_eq_true rfl)) dL_law_678 ⟨Nat.le_of_ble_eq_true rfl, Nat.le_of_ble_eq_true rfl⟩) hS (fun q _ h => hFc q h) hFc (fun r172 u t H1 locs ht hvm hr172 hB hz1 hk1 hS => ?_)
      obtain ⟨hP1, hK1, hD1⟩ := hB
      rw [ht] at hP1
      have hK1 := va_K.moved hvm.symm hK1
      try dsimp only at hr172
      obtain ⟨hP, hD⟩ := va_join (wr := [(ba_4, .inl (cB_9, 3, .inl (fun _ => 0))), (ra_5, .inl (cA_10, 12, .inl fr_12)), (su_6, .inl (cS_11, 12, .inl (fun _ => 0))), (sm_21, .inr (2, [.int 0, .ref gr_23, .ref gt_24, .ref gw_25, .ref gk_26, .ref gi_27, .ref gp_28, .ref go_29, .ref gg_30, .ref q13])), (wi_15, .inl (d_31, 6, .inl (fun _ => 0))), (co_16, .inl (d_32, 6, .inl (fun _ => 0))), (sl_17, .inl (d_33, 6, .inl (fun _ => 0))), (gr_23, .inl (d_34, 6, .inl (fun _ => 0))), (bn_20, .inl (d_35, 3, .inl (fun _ => 0))), (rn_18, .inl (d_36, 12, .inl fn_38)), (so_19, .inl (d_37, 12, .inl (fun _ => 0))), (q39, .inl (cA40, 1, .inr (.inl fo_171)))]) (w1 := [(q13, .inr (3, [.int 1, .int 0, .ref wi_15, .ref co_16, .ref sl_17, .ref rn_18, .ref so_19, .ref bn_20, .ref sm_21, .ref ah_22]))]) hP hD [3] [0, 1, 2, 4, 5, 6, 7, 8, 9, 10, 11, 12] rfl rfl (by decide) (by decide) hk1 hFc hP1 hD1
      generalize H1 = H at hP hS ⊢
      have hP : va_P (dC, dI) vwCl [(ba_4, .inl (cB_9, 3, .inl (fun _ => 0))), (ra_5, .inl (cA_10, 12, .inl fr_12)), (su_6, .inl (cS_11, 12, .inl (fun _ => 0))), (sm_21, .inr (2, [.int 0, .ref gr_23, .ref gt_24, .ref gw_25, .ref gk_26, .ref gi_27, .ref gp_28, .ref go_29, .ref gg_30, .ref q13])), (wi_15, .inl (d_31, 6, .inl (fun _ => 0))), (co_16, .inl (d_32, 6, .inl (fun _ => 0))), (sl_17, .inl (d_33, 6, .inl (fun _ => 0))), (gr_23, .inl (d_34, 6, .inl (fun _ => 0))), (bn_20, .inl (d_35, 3, .inl (fun _ => 0))), (rn_18, .inl (d_36, 12, .inl fn_38)), (so_19, .inl (d_37, 12, .inl (fun _ => 0))), (q39, .inl (cA40, 1, .inr (.inl fo_171))), (q13, .inr (3, [.int 1, .int 0, .ref wi_15, .ref co_16, .ref sl_17, .ref rn_18, .ref so_19, .ref bn_20, .ref sm_21, .ref ah_22]))] H := hP
      have hD : va_D A [(ba_4, .inl (cB_9, 3, .inl (fun _ => 0))), (ra_5, .inl (cA_10, 12, .inl fr_12)), (su_6, .inl (cS_11, 12, .inl (fun _ => 0))), (sm_21, .inr (2, [.int 0, .ref gr_23, .ref gt_24, .ref gw_25, .ref gk_26, .ref gi_27, .ref gp_28, .ref go_29, .ref gg_30, .ref q13])), (wi_15, .inl (d_31, 6, .inl (fun _ => 0))), (co_16, .inl (d_32, 6, .inl (fun _ => 0))), (sl_17, .inl (d_33, 6, .inl (fun _ => 0))), (gr_23, .inl (d_34, 6, .inl (fun _ => 0))), (bn_20, .inl (d_35, 3, .inl (fun _ => 0))), (rn_18, .inl (d_36, 12, .inl fn_38)), (so_19, .inl (d_37, 12, .inl (fun _ => 0))), (q39, .inl (cA40, 1, .inr (.inl fo_171))), (q13, .inr (3, [.int 1, .int 0, .ref wi_15, .ref co_16, .ref sl_17, .ref rn_18, .ref so_19, .ref bn_20, .ref sm_21, .ref ah_22]))] := hD
      obtain rfl := hr172
      refine lv_istore (lv' := [(6, .int 0), (5, .int 1), (4, .int 0), (3, .ref q39), (2, .ref q13), (1, .ref q1), (0, .ref b)]) hx hb dL_law_681 hl (by decide) rfl (fun ls hl => ?_)
      refine lv_aload_n hx hb dL_law_683 rfl (lv_at hl 4 rfl) ?_
      have hPc := hP.sub (ws' := [(q13, .inr (3, [.int 1, .int 0, .ref wi_15, .ref co_16, .ref sl_17, .ref rn_18, .ref so_19, .ref bn_20, .ref sm_21, .ref ah_22]))]) [12] rfl
      have hKc := hK.sub (tys' := []) [] rfl
      refine vp_callSi (va_runV (As := []) (rest := []) ⟨hx, hb, hml, hown, hts⟩ (k3_thrown l dC dI q13 wi_15 co_16 sl_17 rn_18 so_19 bn_20 sm_21 ah_22 1 0 ) (cwV 0 hts gL_law_X3_thrown rfl rfl rfl (by decide +kernel) ⟨Nat.le_of_ble_eq_true rfl, Nat.le_of_ble_eq_true rfl⟩) ⟨fun a U g mk q => by obtain ⟨q0, qP, qK⟩ := q; exact ⟨q0, qP, va_K.moved (u := U) (U := U.calling g mk a) (Vm.Alike.refl U.vm) qK⟩, va_recv hKc hPc (ci := 3) (q0 := 0) rfl rfl, fun U hU hW => ⟨rfl, by rw [hU]; exact hPc, va_K.moved hW.alike hKc⟩⟩ rfl rfl hl.1 rfl (lv_room (Nat.le_of_ble_eq_true rfl)) dL_law_684 ⟨Nat.le_of_ble_eq_true rfl, Nat.le_of_ble_eq_true rfl⟩).run (fun r173 hr173 => ?_)
      obtain rfl := hr173
      refine lv_iload hx hb dL_law_687 (lv_at hl 1 rfl) ?_
      refine lv_icmp_eq (tgt := 694) hx hb dL_law_689 (by decide) (fun c174 => ?_) (fun c174 => absurd c174 (by decide))
      refine lv_iload hx hb dL_law_694 (lv_at hl 1 rfl) ?_
      refine lv_if_ne (tgt := 711) hx hb dL_law_696 (by decide) (fun c175 => ?_) (fun c175 => absurd c175 (by decide))
      refine lv_goto (tgt := 1381) hx hb dL_law_711 (by decide) ?_
      refine lv_iinc (v := 7) (lv' := [(4, .int 7), (6, .int 0), (5, .int 1), (3, .ref q39), (2, .ref q13), (1, .ref q1), (0, .ref b)]) hx hb dL_law_1381 hl (k := 2) rfl (by decide) (by decide) rfl (fun ls hl => ?_)
      refine lv_goto (tgt := 23) hx hb dL_law_1384 (by decide) ?_
      refine lv_iload hx hb dL_law_23 (lv_at hl 0 rfl) ?_
      refine lv_aload_n hx hb dL_law_25 rfl (lv_at hl 6 rfl) ?_
      refine va_slen hx hb hX hbl hbA hS dL_law_26 ?_
      refine W.eq (g2 := F0 m 27 ls [.int 7, .int 7]) rfl ?_
      refine lv_bipush (v := 7) hx hb dL_law_27 (by decide) ?_
      refine lv_isub hx hb dL_law_29 ?_
      refine W.eq (g2 := F0 m 30 ls [.int 0, .int 7]) rfl ?_
      refine lv_icmp_gt (tgt := 1387) hx hb dL_law_30 (by decide) (fun c176 => ?_) (fun c176 => absurd c176 (by decide))
      refine lv_iconst (v := 1) hx hb dL_law_1387 (by decide) ?_
      refine va_forget (fun q hq => hAs _ (hS.2.2 q hq)) ?_
      refine W.widen (k := 600002) (n := 7302232) (Nat.le_of_ble_eq_true rfl) (Nat.le_of_ble_eq_true rfl) ?_
      exact lw_ret (d0 := s.drawn) (Drawn.sameBut.refl s.drawn lw_cs) hx hb hr hlocks dL_law_1388
    · rw [hje]
      -- case 7
      refine W.eq (g2 := F0 m 40 ls [.int 7]) rfl ?_
      refine lv_tableIn (off := 674) (tgt := 714) hx hb dL_law_40 (by decide) (by decide) (by rfl) (by decide) ?_
      refine lv_aload_n hx hb dL_law_714 rfl (lv_at hl 3 rfl) ?_
      refine lv_aload_n hx hb dL_law_715 rfl (lv_at hl 4 rfl) ?_
      refine lv_iload hx hb dL_law_716 (lv_at hl 0 rfl) ?_
      refine lv_iconst (v := 1) hx hb dL_law_718 (by decide) ?_
      refine lv_iadd hx hb dL_law_719 ?_
      refine W.eq (g2 := F0 m 720 ls [.int 1, .ref b, .ref q1]) rfl ?_
      refine va_sld hx hb hX hbl hbA hS (vp_in_nI (n := 1) (by decide) (by decide)) dL_law_720 ?_
      refine W.eq (g2 := F0 m 721 ls [.int (xs 1), .ref q1]) rfl ?_
      refine lv_aload_n hx hb dL_law_721 rfl (lv_at hl 4 rfl) ?_
      refine lv_iload hx hb dL_law_722 (lv_at hl 0 rfl) ?_
      refine lv_iconst (v := 2) hx hb dL_law_724 (by decide) ?_
      refine lv_iadd hx hb dL_law_725 ?_
      refine W.eq (g2 := F0 m 726 ls [.int 2, .ref b, .int (xs 1), .ref q1]) rfl ?_
      refine va_sld hx hb hX hbl hbA hS (vp_in_nI (n := 2) (by decide) (by decide)) dL_law_726 ?_
      refine W.eq (g2 := F0 m 727 ls [.int (xs 2), .int (xs 1), .ref q1]) rfl ?_
      refine lv_aload_n hx hb dL_law_727 rfl (lv_at hl 4 rfl) ?_
      refine lv_iload hx hb dL_law_728 (lv_at hl 0 rfl) ?_
      refine lv_iconst (v := 3) hx hb dL_law_730 (by decide) ?_
      refine lv_iadd hx hb dL_law_731 ?_
      refine W.eq (g2 := F0 m 732 ls [.int 3, .ref b, .int (xs 2), .int (xs 1), .ref q1]) rfl ?_
      refine va_sld hx hb hX hbl hbA hS (vp_in_nI (n := 3) (by decide) (by decide)) dL_law_732 ?_
      refine W.eq (g2 := F0 m 733 ls [.int (xs 3), .int (xs 2), .int (xs 1), .ref q1]) rfl ?_
      refine lv_aload_n hx hb dL_law_733 rfl (lv_at hl 4 rfl) ?_
      refine lv_iload hx hb dL_law_734 (lv_at hl 0 rfl) ?_
      refine lv_iconst (v := 4) hx hb dL_law_736 (by decide) ?_
      refine lv_iadd hx hb dL_law_737 ?_
      refine W.eq (g2 := F0 m 738 ls [.int 4, .ref b, .int (xs 3), .int (xs 2), .int (xs 1), .ref q1]) rfl ?_
      refine va_sld hx hb hX hbl hbA hS (vp_in_nI (n := 4) (by decide) (by decide)) dL_law_738 ?_
      refine W.eq (g2 := F0 m 739 ls [.int (xs 4), .int (xs 3), .int (xs 2), .int (xs 1), .ref q1]) rfl ?_
      refine lv_aload_n hx hb dL_law_739 rfl (lv_at hl 1 rfl) ?_
      have hPc := hP.sub (ws' := [(q1, .inr (1, [.ref ro_3, .int 0, .ref ba_4, .ref ra_5, .ref su_6, .int 0, .ref tr_7])), (ro_3, .inl (cR_8, 6, .inr (.inr (.inr (.inr (fun _ => none)))))), (q39, .inl (cA40, 1, .inr (.inl (fun _ => 0))))]) [0, 1, 14] rfl
      have hKc := hK.sub (tys' := [(cR_8, .object RX0), (cA40, .long)]) [0, 11] rfl
      have hDc := hD.sub (ws' := [(q1, .inr (1, [.ref ro_3, .int 0, .ref ba_4, .ref ra_5, .ref su_6, .int 0, .ref tr_7])), (ro_3, .inl (cR_8, 6, .inr (.inr (.inr (.inr (fun _ => none)))))), (q39, .inl (cA40, 1, .inr (.inl (fun _ => 0))))]) [0, 1, 14] (by decide) rfl
      have hFc := va_free (wc := [(q1, .inr (1, [.ref ro_3, .int 0, .ref ba_4, .ref ra_5, .ref su_6, .int 0, .ref tr_7])), (ro_3, .inl (cR_8, 6, .inr (.inr (.inr (.inr (fun _ => none)))))), (q39, .inl (cA40, 1, .inr (.inl (fun _ => 0))))]) hD hS hA [0, 1, 14] rfl
      refine va_calli (vx_runSW (As := [.ref q1, .int (xs 1), .int (xs 2), .int (xs 3), .int (xs 4), .ref q39]) (rest := []) ⟨hx, hb, hml, hown, hts⟩ (kL_yealm l hst dC dI H.size q1 ro_3 ba_4 ra_5 su_6 tr_7 cR_8 q39 cA40 (fun _ => 0) (xs 1) (xs 2) (xs 3) (xs 4) ) (vx_cwSW 6 hts gL_law_L_yealm rfl rfl rfl (by decide +kernel) ⟨Nat.le_of_ble_eq_true rfl, Nat.le_of_ble_eq_true rfl⟩) ⟨fun a U g mk q => by obtain ⟨q0, q1, qP, qK, qD, qX, qT⟩ := q; exact ⟨q0, q1, qP, va_K.moved (u := U) (U := U.calling g mk a) (Vm.Alike.refl U.vm) qK, qD, zX.calling qX, zTh.calling qT⟩, fun U hU hW => ⟨rfl, by rw [hU], by rw [hU]; exact hPc, va_K.moved hW.alike hKc, hDc.weaken (fun _ _ _ _ => trivial), zX.warm hW hZX, by rw [hU]; exact zTh.at hW hZT hS hFc⟩⟩ rfl rfl hl.1 rfl (lv_room (Nat.le_of_ble_eq_true rfl)) dL_law_740 ⟨Nat.le_of_ble_eq_true rfl, Nat.le_of_ble_eq_true rfl⟩) hS (fun q _ h => hFc q h) hFc (fun r177 u t H1 locs ht hvm hr177 hB hz1 hk1 hS => ?_)
      obtain ⟨fo_178, rfl⟩ : ∃ z, z = u := ⟨_, rfl⟩
      obtain ⟨hP1, hK1, hD1⟩ := hB
      rw [ht] at hP1
      have hK1 := va_K.moved hvm.symm hK1
      try dsimp only at hr177
      obtain ⟨hP, hD⟩ := va_join (wr := [(ba_4, .inl (cB_9, 3, .inl (fun _ => 0))), (ra_5, .inl (cA_10, 12, .inl fr_12)), (su_6, .inl (cS_11, 12, .inl (fun _ => 0))), (q13, .inr (3, [.int 0, .int 0, .ref wi_15, .ref co_16, .ref sl_17, .ref rn_18, .ref so_19, .ref bn_20, .ref sm_21, .ref ah_22])), (sm_21, .inr (2, [.int 0, .ref gr_23, .ref gt_24, .ref gw_25, .ref gk_26, .ref gi_27, .ref gp_28, .ref go_29, .ref gg_30, .ref q13])), (wi_15, .inl (d_31, 6, .inl (fun _ => 0))), (co_16, .inl (d_32, 6, .inl (fun _ => 0))), (sl_17, .inl (d_33, 6, .inl (fun _ => 0))), (gr_23, .inl (d_34, 6, .inl (fun _ => 0))), (bn_20, .inl (d_35, 3, .inl (fun _ => 0))), (rn_18, .inl (d_36, 12, .inl fn_38)), (so_19, .inl (d_37, 12, .inl (fun _ => 0)))]) (w1 := [(q39, .inl (cA40, 1, .inr (.inl fo_178)))]) hP hD [0, 1, 14] [2, 3, 4, 5, 6, 7, 8, 9, 10, 11, 12, 13] rfl rfl (by decide) (by decide) hk1 hFc hP1 hD1
      generalize H1 = H at hP hS ⊢
      have hP : va_P (dC, dI) vwCl [(ba_4, .inl (cB_9, 3, .inl (fun _ => 0))), (ra_5, .inl (cA_10, 12, .inl fr_12)), (su_6, .inl (cS_11, 12, .inl (fun _ => 0))), (q13, .inr (3, [.int 0, .int 0, .ref wi_15, .ref co_16, .ref sl_17, .ref rn_18, .ref so_19, .ref bn_20, .ref sm_21, .ref ah_22])), (sm_21, .inr (2, [.int 0, .ref gr_23, .ref gt_24, .ref gw_25, .ref gk_26, .ref gi_27, .ref gp_28, .ref go_29, .ref gg_30, .ref q13])), (wi_15, .inl (d_31, 6, .inl (fun _ => 0))), (co_16, .inl (d_32, 6, .inl (fun _ => 0))), (sl_17, .inl (d_33, 6, .inl (fun _ => 0))), (gr_23, .inl (d_34, 6, .inl (fun _ => 0))), (bn_20, .inl (d_35, 3, .inl (fun _ => 0))), (rn_18, .inl (d_36, 12, .inl fn_38)), (so_19, .inl (d_37, 12, .inl (fun _ => 0))), (q39, .inl (cA40, 1, .inr (.inl fo_178)))] H := hP
      have hD : va_D A [(ba_4, .inl (cB_9, 3, .inl (fun _ => 0))), (ra_5, .inl (cA_10, 12, .inl fr_12)), (su_6, .inl (cS_11, 12, .inl (fun _ => 0))), (q13, .inr (3, [.int 0, .int 0, .ref wi_15, .ref co_16, .ref sl_17, .ref rn_18, .ref so_19, .ref bn_20, .ref sm_21, .ref ah_22])), (sm_21, .inr (2, [.int 0, .ref gr_23, .ref gt_24, .ref gw_25, .ref gk_26, .ref gi_27, .ref gp_28, .ref go_29, .ref gg_30, .ref q13])), (wi_15, .inl (d_31, 6, .inl (fun _ => 0))), (co_16, .inl (d_32, 6, .inl (fun _ => 0))), (sl_17, .inl (d_33, 6, .inl (fun _ => 0))), (gr_23, .inl (d_34, 6, .inl (fun _ => 0))), (bn_20, .inl (d_35, 3, .inl (fun _ => 0))), (rn_18, .inl (d_36, 12, .inl fn_38)), (so_19, .inl (d_37, 12, .inl (fun _ => 0))), (q39, .inl (cA40, 1, .inr (.inl fo_178)))] := hD
      refine W.widen (k := 37) (n := 3408) (Nat.le_of_ble_eq_true rfl) (Nat.le_of_ble_eq_true rfl) ?_
      obtain rfl := hr177
      refine lv_istore (lv' := [(5, .int 1), (4, .int 0), (3, .ref q39), (2, .ref q13), (1, .ref q1), (0, .ref b)]) hx hb dL_law_743 hl (by decide) rfl (fun ls hl => ?_)
      refine lv_aload_n hx hb dL_law_745 rfl (lv_at hl 3 rfl) ?_
      refine lv_aload_n hx hb dL_law_746 rfl (lv_at hl 5 rfl) ?_
      refine lv_iload hx hb dL_law_747 (lv_at hl 1 rfl) ?_
      refine lv_iconst (v := 1) hx hb dL_law_749 (by decide) ?_
      refine lv_iadd hx hb dL_law_750 ?_
      refine W.eq (g2 := F0 m 751 ls [.int 1, .ref b, .ref q13]) rfl ?_
      refine va_sld hx hb hX hbl hbA hS (vp_in_nI (n := 1) (by decide) (by decide)) dL_law_751 ?_
      refine W.eq (g2 := F0 m 752 ls [.int (xs 1), .ref q13]) rfl ?_
      refine lv_aload_n hx hb dL_law_752 rfl (lv_at hl 5 rfl) ?_
      refine lv_iload hx hb dL_law_753 (lv_at hl 1 rfl) ?_
      refine lv_iconst (v := 2) hx hb dL_law_755 (by decide) ?_
      refine lv_iadd hx hb dL_law_756 ?_
      refine W.eq (g2 := F0 m 757 ls [.int 2, .ref b, .int (xs 1), .ref q13]) rfl ?_
      refine va_sld hx hb hX hbl hbA hS (vp_in_nI (n := 2) (by decide) (by decide)) dL_law_757 ?_
      refine W.eq (g2 := F0 m 758 ls [.int (xs 2), .int (xs 1), .ref q13]) rfl ?_
      refine lv_aload_n hx hb dL_law_758 rfl (lv_at hl 5 rfl) ?_
      refine lv_iload hx hb dL_law_759 (lv_at hl 1 rfl) ?_
      refine lv_iconst (v := 3) hx hb dL_law_761 (by decide) ?_
      refine lv_iadd hx hb dL_law_762 ?_
      refine W.eq (g2 := F0 m 763 ls [.int 3, .ref b, .int (xs 2), .int (xs 1), .ref q13]) rfl ?_
      refine va_sld hx hb hX hbl hbA hS (vp_in_nI (n := 3) (by decide) (by decide)) dL_law_763 ?_
      refine W.eq (g2 := F0 m 764 ls [.int (xs 3), .int (xs 2), .int (xs 1), .ref q13]) rfl ?_
      refine lv_aload_n hx hb dL_law_764 rfl (lv_at hl 5 rfl) ?_
      refine lv_iload hx hb dL_law_765 (lv_at hl 1 rfl) ?_
      refine lv_iconst (v := 4) hx hb dL_law_767 (by decide) ?_
      refine lv_iadd hx hb dL_law_768 ?_
      refine W.eq (g2 := F0 m 769 ls [.int 4, .ref b, .int (xs 3), .int (xs 2), .int (xs 1), .ref q13]) rfl ?_
      refine va_sld hx hb hX hbl hbA hS (vp_in_nI (n := 4) (by decide) (by decide)) dL_law_769 ?_
      refine W.eq (g2 := F0 m 770 ls [.int (xs 4), .int (xs 3), .int (xs 2), .int (xs 1), .ref q13]) rfl ?_
      have hPc := hP.sub (ws' := [(q13, .inr (3, [.int 0, .int 0, .ref wi_15, .ref co_16, .ref sl_17, .ref rn_18, .ref so_19, .ref bn_20, .ref sm_21, .ref ah_22]))]) [3] rfl
      have hKc := hK.sub (tys' := []) [] rfl
      have hDc := hD.sub (ws' := [(q13, .inr (3, [.int 0, .int 0, .ref wi_15, .ref co_16, .ref sl_17, .ref rn_18, .ref so_19, .ref bn_20, .ref sm_21, .ref ah_22]))]) [3] (by decide) rfl
      have hFc := va_free (wc := [(q13, .inr (3, [.int 0, .int 0, .ref wi_15, .ref co_16, .ref sl_17, .ref rn_18, .ref so_19, .ref bn_20, .ref sm_21, .ref ah_22]))]) hD hS hA [3] rfl
      refine va_calli (va_runV (As := [.int (xs 1), .int (xs 2), .int (xs 3), .int (xs 4)]) (rest := []) ⟨hx, hb, hml, hown, hts⟩ (k3_yealm l dC dI H.size q13 wi_15 co_16 sl_17 rn_18 so_19 bn_20 sm_21 ah_22 0 (xs 1) (xs 2) (xs 3) (xs 4) ) (cwV 4 hts gL_law_X3_yealm rfl rfl rfl (by decide +kernel) ⟨Nat.le_of_ble_eq_true rfl, Nat.le_of_ble_eq_true rfl⟩) ⟨fun a U g mk q => by obtain ⟨q0, q1, qP, qK, qD⟩ := q; exact ⟨q0, q1, qP, va_K.moved (u := U) (U := U.calling g mk a) (Vm.Alike.refl U.vm) qK, qD⟩, va_recv hKc hPc (ci := 3) (q0 := 0) rfl rfl, fun U hU hW => ⟨rfl, by rw [hU], by rw [hU]; exact hPc, va_K.moved hW.alike hKc, hDc.weaken (fun _ _ _ _ => trivial)⟩⟩ rfl rfl hl.1 rfl (lv_room (Nat.le_of_ble_eq_true rfl)) dL_law_770 ⟨Nat.le_of_ble_eq_true rfl, Nat.le_of_ble_eq_true rfl⟩) hS (fun q _ h => hFc q h) hFc (fun r179 u t H1 locs ht hvm hr179 hB hz1 hk1 hS => ?_)
      obtain ⟨hP1, hK1, hD1⟩ := hB
      rw [ht] at hP1
      have hK1 := va_K.moved hvm.symm hK1
      try dsimp only at hr179
      obtain ⟨hP, hD⟩ := va_join (wr := [(ba_4, .inl (cB_9, 3, .inl (fun _ => 0))), (ra_5, .inl (cA_10, 12, .inl fr_12)), (su_6, .inl (cS_11, 12, .inl (fun _ => 0))), (sm_21, .inr (2, [.int 0, .ref gr_23, .ref gt_24, .ref gw_25, .ref gk_26, .ref gi_27, .ref gp_28, .ref go_29, .ref gg_30, .ref q13])), (wi_15, .inl (d_31, 6, .inl (fun _ => 0))), (co_16, .inl (d_32, 6, .inl (fun _ => 0))), (sl_17, .inl (d_33, 6, .inl (fun _ => 0))), (gr_23, .inl (d_34, 6, .inl (fun _ => 0))), (bn_20, .inl (d_35, 3, .inl (fun _ => 0))), (rn_18, .inl (d_36, 12, .inl fn_38)), (so_19, .inl (d_37, 12, .inl (fun _ => 0))), (q39, .inl (cA40, 1, .inr (.inl fo_178)))]) (w1 := [(q13, .inr (3, [.int 1, .int 0, .ref wi_15, .ref co_16, .ref sl_17, .ref rn_18, .ref so_19, .ref bn_20, .ref sm_21, .ref ah_22]))]) hP hD [3] [0, 1, 2, 4, 5, 6, 7, 8, 9, 10, 11, 12] rfl rfl (by decide) (by decide) hk1 hFc hP1 hD1
      generalize H1 = H at hP hS ⊢
      have hP : va_P (dC, dI) vwCl [(ba_4, .inl (cB_9, 3, .inl (fun _ => 0))), (ra_5, .inl (cA_10, 12, .inl fr_12)), (su_6, .inl (cS_11, 12, .inl (fun _ => 0))), (sm_21, .inr (2, [.int 0, .ref gr_23, .ref gt_24, .ref gw_25, .ref gk_26, .ref gi_27, .ref gp_28, .ref go_29, .ref gg_30, .ref q13])), (wi_15, .inl (d_31, 6, .inl (fun _ => 0))), (co_16, .inl (d_32, 6, .inl (fun _ => 0))), (sl_17, .inl (d_33, 6, .inl (fun _ => 0))), (gr_23, .inl (d_34, 6, .inl (fun _ => 0))), (bn_20, .inl (d_35, 3, .inl (fun _ => 0))), (rn_18, .inl (d_36, 12, .inl fn_38)), (so_19, .inl (d_37, 12, .inl (fun _ => 0))), (q39, .inl (cA40, 1, .inr (.inl fo_178))), (q13, .inr (3, [.int 1, .int 0, .ref wi_15, .ref co_16, .ref sl_17, .ref rn_18, .ref so_19, .ref bn_20, .ref sm_21, .ref ah_22]))] H := hP
      have hD : va_D A [(ba_4, .inl (cB_9, 3, .inl (fun _ => 0))), (ra_5, .inl (cA_10, 12, .inl fr_12)), (su_6, .inl (cS_11, 12, .inl (fun _ => 0))), (sm_21, .inr (2, [.int 0, .ref gr_23, .ref gt_24, .ref gw_25, .ref gk_26, .ref gi_27, .ref gp_28, .ref go_29, .ref gg_30, .ref q13])), (wi_15, .inl (d_31, 6, .inl (fun _ => 0))), (co_16, .inl (d_32, 6, .inl (fun _ => 0))), (sl_17, .inl (d_33, 6, .inl (fun _ => 0))), (gr_23, .inl (d_34, 6, .inl (fun _ => 0))), (bn_20, .inl (d_35, 3, .inl (fun _ => 0))), (rn_18, .inl (d_36, 12, .inl fn_38)), (so_19, .inl (d_37, 12, .inl (fun _ => 0))), (q39, .inl (cA40, 1, .inr (.inl fo_178))), (q13, .inr (3, [.int 1, .int 0, .ref wi_15, .ref co_16, .ref sl_17, .ref rn_18, .ref so_19, .ref bn_20, .ref sm_21, .ref ah_22]))] := hD
      obtain rfl := hr179
      refine lv_istore (lv' := [(6, .int 0), (5, .int 1), (4, .int 0), (3, .ref q39), (2, .ref q13), (1, .ref q1), (0, .ref b)]) hx hb dL_law_773 hl (by decide) rfl (fun ls hl => ?_)
      refine lv_aload_n hx hb dL_law_775 rfl (lv_at hl 4 rfl) ?_
      have hPc := hP.sub (ws' := [(q13, .inr (3, [.int 1, .int 0, .ref wi_15, .ref co_16, .ref sl_17, .ref rn_18, .ref so_19, .ref bn_20, .ref sm_21, .ref ah_22]))]) [12] rfl
      have hKc := hK.sub (tys' := []) [] rfl
      refine vp_callSi (va_runV (As := []) (rest := []) ⟨hx, hb, hml, hown, hts⟩ (k3_thrown l dC dI q13 wi_15 co_16 sl_17 rn_18 so_19 bn_20 sm_21 ah_22 1 0 ) (cwV 0 hts gL_law_X3_thrown rfl rfl rfl (by decide +kernel) ⟨Nat.le_of_ble_eq_true rfl, Nat.le_of_ble_eq_true rfl⟩) ⟨fun a U g mk q => by obtain ⟨q0, qP, qK⟩ := q; exact ⟨q0, qP, va_K.moved (u := U) (U := U.calling g mk a) (Vm.Alike.refl U.vm) qK⟩, va_recv hKc hPc (ci := 3) (q0 := 0) rfl rfl, fun U hU hW => ⟨rfl, by rw [hU]; exact hPc, va_K.moved hW.alike hKc⟩⟩ rfl rfl hl.1 rfl (lv_room (Nat.le_of_ble_eq_true rfl)) dL_law_776 ⟨Nat.le_of_ble_eq_true rfl, Nat.le_of_ble_eq_true rfl⟩).run (fun r180 hr180 => ?_)
      obtain rfl := hr180
      refine lv_iload hx hb dL_law_779 (lv_at hl 1 rfl) ?_
      refine lv_icmp_eq (tgt := 786) hx hb dL_law_781 (by decide) (fun c181 => ?_) (fun c181 => absurd c181 (by decide))
      refine lv_iload hx hb dL_law_786 (lv_at hl 1 rfl) ?_
      refine lv_if_ne (tgt := 803) hx hb dL_law_788 (by decide) (fun c182 => ?_) (fun c182 => absurd c182 (by decide))
      refine lv_goto (tgt := 1381) hx hb dL_law_803 (by decide) ?_
      refine lv_iinc (v := 7) (lv' := [(4, .int 7), (6, .int 0), (5, .int 1), (3, .ref q39), (2, .ref q13), (1, .ref q1), (0, .ref b)]) hx hb dL_law_1381 hl (k := 2) rfl (by decide) (by decide) rfl (fun ls hl => ?_)
      refine lv_goto (tgt := 23) hx hb dL_law_1384 (by decide) ?_
      refine lv_iload hx hb dL_law_23 (lv_at hl 0 rfl) ?_
      refine lv_aload_n hx hb dL_law_25 rfl (lv_at hl 6 rfl) ?_
      refine va_slen hx hb hX hbl hbA hS dL_law_26 ?_
      refine W.eq (g2 := F0 m 27 ls [.int 7, .int 7]) rfl ?_
      refine lv_bipush (v := 7) hx hb dL_law_27 (by decide) ?_
      refine lv_isub hx hb dL_law_29 ?_
      refine W.eq (g2 := F0 m 30 ls [.int 0, .int 7]) rfl ?_
      refine lv_icmp_gt (tgt := 1387) hx hb dL_law_30 (by decide) (fun c183 => ?_) (fun c183 => absurd c183 (by decide))
      refine lv_iconst (v := 1) hx hb dL_law_1387 (by decide) ?_
      refine va_forget (fun q hq => hAs _ (hS.2.2 q hq)) ?_
      refine W.widen (k := 600002) (n := 7302232) (Nat.le_of_ble_eq_true rfl) (Nat.le_of_ble_eq_true rfl) ?_
      exact lw_ret (d0 := s.drawn) (Drawn.sameBut.refl s.drawn lw_cs) hx hb hr hlocks dL_law_1388
    · rw [hje]
      -- case 8
      refine W.eq (g2 := F0 m 40 ls [.int 8]) rfl ?_
      refine lv_tableIn (off := 766) (tgt := 806) hx hb dL_law_40 (by decide) (by decide) (by rfl) (by decide) ?_
      refine lv_aload_n hx hb dL_law_806 rfl (lv_at hl 3 rfl) ?_
      refine lv_aload_n hx hb dL_law_807 rfl (lv_at hl 4 rfl) ?_
      refine lv_iload hx hb dL_law_808 (lv_at hl 0 rfl) ?_
      refine lv_iconst (v := 1) hx hb dL_law_810 (by decide) ?_
      refine lv_iadd hx hb dL_law_811 ?_
      refine W.eq (g2 := F0 m 812 ls [.int 1, .ref b, .ref q1]) rfl ?_
      refine va_sld hx hb hX hbl hbA hS (vp_in_nI (n := 1) (by decide) (by decide)) dL_law_812 ?_
      refine W.eq (g2 := F0 m 813 ls [.int (xs 1), .ref q1]) rfl ?_
      refine lv_aload_n hx hb dL_law_813 rfl (lv_at hl 4 rfl) ?_
      refine lv_iload hx hb dL_law_814 (lv_at hl 0 rfl) ?_
      refine lv_iconst (v := 2) hx hb dL_law_816 (by decide) ?_
      refine lv_iadd hx hb dL_law_817 ?_
      refine W.eq (g2 := F0 m 818 ls [.int 2, .ref b, .int (xs 1), .ref q1]) rfl ?_
      refine va_sld hx hb hX hbl hbA hS (vp_in_nI (n := 2) (by decide) (by decide)) dL_law_818 ?_
      refine W.eq (g2 := F0 m 819 ls [.int (xs 2), .int (xs 1), .ref q1]) rfl ?_
      refine lv_aload_n hx hb dL_law_819 rfl (lv_at hl 1 rfl) ?_
      have hPc := hP.sub (ws' := [(q1, .inr (1, [.ref ro_3, .int 0, .ref ba_4, .ref ra_5, .ref su_6, .int 0, .ref tr_7])), (ro_3, .inl (cR_8, 6, .inr (.inr (.inr (.inr (fun _ => none)))))), (q39, .inl (cA40, 1, .inr (.inl (fun _ => 0))))]) [0, 1, 14] rfl
      have hKc := hK.sub (tys' := [(cR_8, .object RX0), (cA40, .long)]) [0, 11] rfl
      have hDc := hD.sub (ws' := [(q1, .inr (1, [.ref ro_3, .int 0, .ref ba_4, .ref ra_5, .ref su_6, .int 0, .ref tr_7])), (ro_3, .inl (cR_8, 6, .inr (.inr (.inr (.inr (fun _ => none)))))), (q39, .inl (cA40, 1, .inr (.inl (fun _ => 0))))]) [0, 1, 14] (by decide) rfl
      have hFc := va_free (wc := [(q1, .inr (1, [.ref ro_3, .int 0, .ref ba_4, .ref ra_5, .ref su_6, .int 0, .ref tr_7])), (ro_3, .inl (cR_8, 6, .inr (.inr (.inr (.inr (fun _ => none)))))), (q39, .inl (cA40, 1, .inr (.inl (fun _ => 0))))]) hD hS hA [0, 1, 14] rfl
      refine va_calli (vx_runSW (As := [.ref q1, .int (xs 1), .int (xs 2), .ref q39]) (rest := []) ⟨hx, hb, hml, hown, hts⟩ (kL_roof l hst dC dI H.size q1 ro_3 ba_4 ra_5 su_6 tr_7 cR_8 q39 cA40 (fun _ => 0) (xs 1) (xs 2) ) (vx_cwSW 4 hts gL_law_L_roof rfl rfl rfl (by decide +kernel) ⟨Nat.le_of_ble_eq_true rfl, Nat.le_of_ble_eq_true rfl⟩) ⟨fun a U g mk q => by obtain ⟨q0, q1, qP, qK, qD, qX, qT⟩ := q; exact ⟨q0, q1, qP, va_K.moved (u := U) (U := U.calling g mk a) (Vm.Alike.refl U.vm) qK, qD, zX.calling qX, zTh.calling qT⟩, fun U hU hW => ⟨rfl, by rw [hU], by rw [hU]; exact hPc, va_K.moved hW.alike hKc, hDc.weaken (fun _ _ _ _ => trivial), zX.warm hW hZX, by rw [hU]; exact zTh.at hW hZT hS hFc⟩⟩ rfl rfl hl.1 rfl (lv_room (Nat.le_of_ble_eq_true rfl)) dL_law_820 ⟨Nat.le_of_ble_eq_true rfl, Nat.le_of_ble_eq_true rfl⟩) hS (fun q _ h => hFc q h) hFc (fun r184 u t H1 locs ht hvm hr184 hB hz1 hk1 hS => ?_)
      obtain ⟨fo_185, rfl⟩ : ∃ z, z = u := ⟨_, rfl⟩
      obtain ⟨hP1, hK1, hD1⟩ := hB
      rw [ht] at hP1
      have hK1 := va_K.moved hvm.symm hK1
      try dsimp only at hr184
      obtain ⟨hP, hD⟩ := va_join (wr := [(ba_4, .inl (cB_9, 3, .inl (fun _ => 0))), (ra_5, .inl (cA_10, 12, .inl fr_12)), (su_6, .inl (cS_11, 12, .inl (fun _ => 0))), (q13, .inr (3, [.int 0, .int 0, .ref wi_15, .ref co_16, .ref sl_17, .ref rn_18, .ref so_19, .ref bn_20, .ref sm_21, .ref ah_22])), (sm_21, .inr (2, [.int 0, .ref gr_23, .ref gt_24, .ref gw_25, .ref gk_26, .ref gi_27, .ref gp_28, .ref go_29, .ref gg_30, .ref q13])), (wi_15, .inl (d_31, 6, .inl (fun _ => 0))), (co_16, .inl (d_32, 6, .inl (fun _ => 0))), (sl_17, .inl (d_33, 6, .inl (fun _ => 0))), (gr_23, .inl (d_34, 6, .inl (fun _ => 0))), (bn_20, .inl (d_35, 3, .inl (fun _ => 0))), (rn_18, .inl (d_36, 12, .inl fn_38)), (so_19, .inl (d_37, 12, .inl (fun _ => 0)))]) (w1 := [(q39, .inl (cA40, 1, .inr (.inl fo_185)))]) hP hD [0, 1, 14] [2, 3, 4, 5, 6, 7, 8, 9, 10, 11, 12, 13] rfl rfl (by decide) (by decide) hk1 hFc hP1 hD1
      generalize H1 = H at hP hS ⊢
      have hP : va_P (dC, dI) vwCl [(ba_4, .inl (cB_9, 3, .inl (fun _ => 0))), (ra_5, .inl (cA_10, 12, .inl fr_12)), (su_6, .inl (cS_11, 12, .inl (fun _ => 0))), (q13, .inr (3, [.int 0, .int 0, .ref wi_15, .ref co_16, .ref sl_17, .ref rn_18, .ref so_19, .ref bn_20, .ref sm_21, .ref ah_22])), (sm_21, .inr (2, [.int 0, .ref gr_23, .ref gt_24, .ref gw_25, .ref gk_26, .ref gi_27, .ref gp_28, .ref go_29, .ref gg_30, .ref q13])), (wi_15, .inl (d_31, 6, .inl (fun _ => 0))), (co_16, .inl (d_32, 6, .inl (fun _ => 0))), (sl_17, .inl (d_33, 6, .inl (fun _ => 0))), (gr_23, .inl (d_34, 6, .inl (fun _ => 0))), (bn_20, .inl (d_35, 3, .inl (fun _ => 0))), (rn_18, .inl (d_36, 12, .inl fn_38)), (so_19, .inl (d_37, 12, .inl (fun _ => 0))), (q39, .inl (cA40, 1, .inr (.inl fo_185)))] H := hP
      have hD : va_D A [(ba_4, .inl (cB_9, 3, .inl (fun _ => 0))), (ra_5, .inl (cA_10, 12, .inl fr_12)), (su_6, .inl (cS_11, 12, .inl (fun _ => 0))), (q13, .inr (3, [.int 0, .int 0, .ref wi_15, .ref co_16, .ref sl_17, .ref rn_18, .ref so_19, .ref bn_20, .ref sm_21, .ref ah_22])), (sm_21, .inr (2, [.int 0, .ref gr_23, .ref gt_24, .ref gw_25, .ref gk_26, .ref gi_27, .ref gp_28, .ref go_29, .ref gg_30, .ref q13])), (wi_15, .inl (d_31, 6, .inl (fun _ => 0))), (co_16, .inl (d_32, 6, .inl (fun _ => 0))), (sl_17, .inl (d_33, 6, .inl (fun _ => 0))), (gr_23, .inl (d_34, 6, .inl (fun _ => 0))), (bn_20, .inl (d_35, 3, .inl (fun _ => 0))), (rn_18, .inl (d_36, 12, .inl fn_38)), (so_19, .inl (d_37, 12, .inl (fun _ => 0))), (q39, .inl (cA40, 1, .inr (.inl fo_185)))] := hD
      refine W.widen (k := 37) (n := 3408) (Nat.le_of_ble_eq_true rfl) (Nat.le_of_ble_eq_true rfl) ?_
      obtain rfl := hr184
      refine lv_istore (lv' := [(5, .int 1), (4, .int 0), (3, .ref q39), (2, .ref q13), (1, .ref q1), (0, .ref b)]) hx hb dL_law_823 hl (by decide) rfl (fun ls hl => ?_)
      refine lv_aload_n hx hb dL_law_825 rfl (lv_at hl 3 rfl) ?_
      refine lv_aload_n hx hb dL_law_826 rfl (lv_at hl 5 rfl) ?_
      refine lv_iload hx hb dL_law_827 (lv_at hl 1 rfl) ?_
      refine lv_iconst (v := 1) hx hb dL_law_829 (by decide) ?_
      refine lv_iadd hx hb dL_law_830 ?_
      refine W.eq (g2 := F0 m 831 ls [.int 1, .ref b, .ref q13]) rfl ?_
      refine va_sld hx hb hX hbl hbA hS (vp_in_nI (n := 1) (by decide) (by decide)) dL_law_831 ?_
      refine W.eq (g2 := F0 m 832 ls [.int (xs 1), .ref q13]) rfl ?_
      refine lv_aload_n hx hb dL_law_832 rfl (lv_at hl 5 rfl) ?_
      refine lv_iload hx hb dL_law_833 (lv_at hl 1 rfl) ?_
      refine lv_iconst (v := 2) hx hb dL_law_835 (by decide) ?_
      refine lv_iadd hx hb dL_law_836 ?_
      refine W.eq (g2 := F0 m 837 ls [.int 2, .ref b, .int (xs 1), .ref q13]) rfl ?_
      refine va_sld hx hb hX hbl hbA hS (vp_in_nI (n := 2) (by decide) (by decide)) dL_law_837 ?_
      refine W.eq (g2 := F0 m 838 ls [.int (xs 2), .int (xs 1), .ref q13]) rfl ?_
      have hPc := hP.sub (ws' := [(q13, .inr (3, [.int 0, .int 0, .ref wi_15, .ref co_16, .ref sl_17, .ref rn_18, .ref so_19, .ref bn_20, .ref sm_21, .ref ah_22]))]) [3] rfl
      have hKc := hK.sub (tys' := []) [] rfl
      have hDc := hD.sub (ws' := [(q13, .inr (3, [.int 0, .int 0, .ref wi_15, .ref co_16, .ref sl_17, .ref rn_18, .ref so_19, .ref bn_20, .ref sm_21, .ref ah_22]))]) [3] (by decide) rfl
      have hFc := va_free (wc := [(q13, .inr (3, [.int 0, .int 0, .ref wi_15, .ref co_16, .ref sl_17, .ref rn_18, .ref so_19, .ref bn_20, .ref sm_21, .ref ah_22]))]) hD hS hA [3] rfl
      refine va_calli (va_runV (As := [.int (xs 1), .int (xs 2)]) (rest := []) ⟨hx, hb, hml, hown, hts⟩ (k3_roof l dC dI H.size q13 wi_15 co_16 sl_17 rn_18 so_19 bn_20 sm_21 ah_22 0 (xs 1) (xs 2) ) (cwV 2 hts gL_law_X3_roof rfl rfl rfl (by decide +kernel) ⟨Nat.le_of_ble_eq_true rfl, Nat.le_of_ble_eq_true rfl⟩) ⟨fun a U g mk q => by obtain ⟨q0, q1, qP, qK, qD⟩ := q; exact ⟨q0, q1, qP, va_K.moved (u := U) (U := U.calling g mk a) (Vm.Alike.refl U.vm) qK, qD⟩, va_recv hKc hPc (ci := 3) (q0 := 0) rfl rfl, fun U hU hW => ⟨rfl, by rw [hU], by rw [hU]; exact hPc, va_K.moved hW.alike hKc, hDc.weaken (fun _ _ _ _ => trivial)⟩⟩ rfl rfl hl.1 rfl (lv_room (Nat.le_of_ble_eq_true rfl)) dL_law_838 ⟨Nat.le_of_ble_eq_true rfl, Nat.le_of_ble_eq_true rfl⟩) hS (fun q _ h => hFc q h) hFc (fun r186 u t H1 locs ht hvm hr186 hB hz1 hk1 hS => ?_)
      obtain ⟨hP1, hK1, hD1⟩ := hB
      rw [ht] at hP1
      have hK1 := va_K.moved hvm.symm hK1
      try dsimp only at hr186
      obtain ⟨hP, hD⟩ := va_join (wr := [(ba_4, .inl (cB_9, 3, .inl (fun _ => 0))), (ra_5, .inl (cA_10, 12, .inl fr_12)), (su_6, .inl (cS_11, 12, .inl (fun _ => 0))), (sm_21, .inr (2, [.int 0, .ref gr_23, .ref gt_24, .ref gw_25, .ref gk_26, .ref gi_27, .ref gp_28, .ref go_29, .ref gg_30, .ref q13])), (wi_15, .inl (d_31, 6, .inl (fun _ => 0))), (co_16, .inl (d_32, 6, .inl (fun _ => 0))), (sl_17, .inl (d_33, 6, .inl (fun _ => 0))), (gr_23, .inl (d_34, 6, .inl (fun _ => 0))), (bn_20, .inl (d_35, 3, .inl (fun _ => 0))), (rn_18, .inl (d_36, 12, .inl fn_38)), (so_19, .inl (d_37, 12, .inl (fun _ => 0))), (q39, .inl (cA40, 1, .inr (.inl fo_185)))]) (w1 := [(q13, .inr (3, [.int 1, .int 0, .ref wi_15, .ref co_16, .ref sl_17, .ref rn_18, .ref so_19, .ref bn_20, .ref sm_21, .ref ah_22]))]) hP hD [3] [0, 1, 2, 4, 5, 6, 7, 8, 9, 10, 11, 12] rfl rfl (by decide) (by decide) hk1 hFc hP1 hD1
      generalize H1 = H at hP hS ⊢
      have hP : va_P (dC, dI) vwCl [(ba_4, .inl (cB_9, 3, .inl (fun _ => 0))), (ra_5, .inl (cA_10, 12, .inl fr_12)), (su_6, .inl (cS_11, 12, .inl (fun _ => 0))), (sm_21, .inr (2, [.int 0, .ref gr_23, .ref gt_24, .ref gw_25, .ref gk_26, .ref gi_27, .ref gp_28, .ref go_29, .ref gg_30, .ref q13])), (wi_15, .inl (d_31, 6, .inl (fun _ => 0))), (co_16, .inl (d_32, 6, .inl (fun _ => 0))), (sl_17, .inl (d_33, 6, .inl (fun _ => 0))), (gr_23, .inl (d_34, 6, .inl (fun _ => 0))), (bn_20, .inl (d_35, 3, .inl (fun _ => 0))), (rn_18, .inl (d_36, 12, .inl fn_38)), (so_19, .inl (d_37, 12, .inl (fun _ => 0))), (q39, .inl (cA40, 1, .inr (.inl fo_185))), (q13, .inr (3, [.int 1, .int 0, .ref wi_15, .ref co_16, .ref sl_17, .ref rn_18, .ref so_19, .ref bn_20, .ref sm_21, .ref ah_22]))] H := hP
      have hD : va_D A [(ba_4, .inl (cB_9, 3, .inl (fun _ => 0))), (ra_5, .inl (cA_10, 12, .inl fr_12)), (su_6, .inl (cS_11, 12, .inl (fun _ => 0))), (sm_21, .inr (2, [.int 0, .ref gr_23, .ref gt_24, .ref gw_25, .ref gk_26, .ref gi_27, .ref gp_28, .ref go_29, .ref gg_30, .ref q13])), (wi_15, .inl (d_31, 6, .inl (fun _ => 0))), (co_16, .inl (d_32, 6, .inl (fun _ => 0))), (sl_17, .inl (d_33, 6, .inl (fun _ => 0))), (gr_23, .inl (d_34, 6, .inl (fun _ => 0))), (bn_20, .inl (d_35, 3, .inl (fun _ => 0))), (rn_18, .inl (d_36, 12, .inl fn_38)), (so_19, .inl (d_37, 12, .inl (fun _ => 0))), (q39, .inl (cA40, 1, .inr (.inl fo_185))), (q13, .inr (3, [.int 1, .int 0, .ref wi_15, .ref co_16, .ref sl_17, .ref rn_18, .ref so_19, .ref bn_20, .ref sm_21, .ref ah_22]))] := hD
      obtain rfl := hr186
      refine lv_istore (lv' := [(6, .int 0), (5, .int 1), (4, .int 0), (3, .ref q39), (2, .ref q13), (1, .ref q1), (0, .ref b)]) hx hb dL_law_841 hl (by decide) rfl (fun ls hl => ?_)
      refine lv_aload_n hx hb dL_law_843 rfl (lv_at hl 4 rfl) ?_
      have hPc := hP.sub (ws' := [(q13, .inr (3, [.int 1, .int 0, .ref wi_15, .ref co_16, .ref sl_17, .ref rn_18, .ref so_19, .ref bn_20, .ref sm_21, .ref ah_22]))]) [12] rfl
      have hKc := hK.sub (tys' := []) [] rfl
      refine vp_callSi (va_runV (As := []) (rest := []) ⟨hx, hb, hml, hown, hts⟩ (k3_thrown l dC dI q13 wi_15 co_16 sl_17 rn_18 so_19 bn_20 sm_21 ah_22 1 0 ) (cwV 0 hts gL_law_X3_thrown rfl rfl rfl (by decide +kernel) ⟨Nat.le_of_ble_eq_true rfl, Nat.le_of_ble_eq_true rfl⟩) ⟨fun a U g mk q => by obtain ⟨q0, qP, qK⟩ := q; exact ⟨q0, qP, va_K.moved (u := U) (U := U.calling g mk a) (Vm.Alike.refl U.vm) qK⟩, va_recv hKc hPc (ci := 3) (q0 := 0) rfl rfl, fun U hU hW => ⟨rfl, by rw [hU]; exact hPc, va_K.moved hW.alike hKc⟩⟩ rfl rfl hl.1 rfl (lv_room (Nat.le_of_ble_eq_true rfl)) dL_law_844 ⟨Nat.le_of_ble_eq_true rfl, Nat.le_of_ble_eq_true rfl⟩).run (fun r187 hr187 => ?_)
      obtain rfl := hr187
      refine lv_iload hx hb dL_law_847 (lv_at hl 1 rfl) ?_
      refine lv_icmp_eq (tgt := 854) hx hb dL_law_849 (by decide) (fun c188 => ?_) (fun c188 => absurd c188 (by decide))
      refine lv_iload hx hb dL_law_854 (lv_at hl 1 rfl) ?_
      refine lv_if_ne (tgt := 871) hx hb dL_law_856 (by decide) (fun c189 => ?_) (fun c189 => absurd c189 (by decide))
      refine lv_goto (tgt := 1381) hx hb dL_law_871 (by decide) ?_
      refine lv_iinc (v := 7) (lv' := [(4, .int 7), (6, .int 0), (5, .int 1), (3, .ref q39), (2, .ref q13), (1, .ref q1), (0, .ref b)]) hx hb dL_law_1381 hl (k := 2) rfl (by decide) (by decide) rfl (fun ls hl => ?_)
      refine lv_goto (tgt := 23) hx hb dL_law_1384 (by decide) ?_
      refine lv_iload hx hb dL_law_23 (lv_at hl 0 rfl) ?_
      refine lv_aload_n hx hb dL_law_25 rfl (lv_at hl 6 rfl) ?_
      refine va_slen hx hb hX hbl hbA hS dL_law_26 ?_
      refine W.eq (g2 := F0 m 27 ls [.int 7, .int 7]) rfl ?_
      refine lv_bipush (v := 7) hx hb dL_law_27 (by decide) ?_
      refine lv_isub hx hb dL_law_29 ?_
      refine W.eq (g2 := F0 m 30 ls [.int 0, .int 7]) rfl ?_
      refine lv_icmp_gt (tgt := 1387) hx hb dL_law_30 (by decide) (fun c190 => ?_) (fun c190 => absurd c190 (by decide))
      refine lv_iconst (v := 1) hx hb dL_law_1387 (by decide) ?_
      refine va_forget (fun q hq => hAs _ (hS.2.2 q hq)) ?_
      refine W.widen (k := 600002) (n := 7302232) (Nat.le_of_ble_eq_true rfl) (Nat.le_of_ble_eq_true rfl) ?_
      exact lw_ret (d0 := s.drawn) (Drawn.sameBut.refl s.drawn lw_cs) hx hb hr hlocks dL_law_1388
    · rw [hje]
      -- case 9
      refine W.eq (g2 := F0 m 40 ls [.int 9]) rfl ?_
      refine lv_tableIn (off := 834) (tgt := 874) hx hb dL_law_40 (by decide) (by decide) (by rfl) (by decide) ?_
      refine lv_aload_n hx hb dL_law_874 rfl (lv_at hl 3 rfl) ?_
      refine lv_aload_n hx hb dL_law_875 rfl (lv_at hl 4 rfl) ?_
      refine lv_iload hx hb dL_law_876 (lv_at hl 0 rfl) ?_
      refine lv_iconst (v := 1) hx hb dL_law_878 (by decide) ?_
      refine lv_iadd hx hb dL_law_879 ?_
      refine W.eq (g2 := F0 m 880 ls [.int 1, .ref b, .ref q1]) rfl ?_
      refine va_sld hx hb hX hbl hbA hS (vp_in_nI (n := 1) (by decide) (by decide)) dL_law_880 ?_
      refine W.eq (g2 := F0 m 881 ls [.int (xs 1), .ref q1]) rfl ?_
      refine lv_aload_n hx hb dL_law_881 rfl (lv_at hl 1 rfl) ?_
      have hPc := hP.sub (ws' := [(q1, .inr (1, [.ref ro_3, .int 0, .ref ba_4, .ref ra_5, .ref su_6, .int 0, .ref tr_7])), (ro_3, .inl (cR_8, 6, .inr (.inr (.inr (.inr (fun _ => none)))))), (ba_4, .inl (cB_9, 3, .inl (fun _ => 0))), (ra_5, .inl (cA_10, 12, .inl fr_12)), (su_6, .inl (cS_11, 12, .inl (fun _ => 0))), (q39, .inl (cA40, 1, .inr (.inl (fun _ => 0))))]) [0, 1, 2, 3, 4, 14] rfl
      have hKc := hK.sub (tys' := [(cR_8, .object RX0), (cB_9, .int), (cA_10, .int), (cS_11, .int), (cA40, .long)]) [0, 1, 2, 3, 11] rfl
      have hDc := hD.sub (ws' := [(q1, .inr (1, [.ref ro_3, .int 0, .ref ba_4, .ref ra_5, .ref su_6, .int 0, .ref tr_7])), (ro_3, .inl (cR_8, 6, .inr (.inr (.inr (.inr (fun _ => none)))))), (ba_4, .inl (cB_9, 3, .inl (fun _ => 0))), (ra_5, .inl (cA_10, 12, .inl fr_12)), (su_6, .inl (cS_11, 12, .inl (fun _ => 0))), (q39, .inl (cA40, 1, .inr (.inl (fun _ => 0))))]) [0, 1, 2, 3, 4, 14] (by decide) rfl
      have hFc := va_free (wc := [(q1, .inr (1, [.ref ro_3, .int 0, .ref ba_4, .ref ra_5, .ref su_6, .int 0, .ref tr_7])), (ro_3, .inl (cR_8, 6, .inr (.inr (.inr (.inr (fun _ => none)))))), (ba_4, .inl (cB_9, 3, .inl (fun _ => 0))), (ra_5, .inl (cA_10, 12, .inl fr_12)), (su_6, .inl (cS_11, 12, .inl (fun _ => 0))), (q39, .inl (cA40, 1, .inr (.inl (fun _ => 0))))]) hD hS hA [0, 1, 2, 3, 4, 14] rfl
      refine va_calli (vx_runSW (As := [.ref q1, .int (xs 1), .ref q39]) (rest := []) ⟨hx, hb, hml, hown, hts⟩ (kL_count l hst dC dI H.size q1 ro_3 ba_4 ra_5 su_6 tr_7 cR_8 cB_9 cA_10 fr_12 cS_11 q39 cA40 (fun _ => 0) (xs 1) (by first | assumption | decide | omega)) (vx_cwSW 3 hts gL_law_L_count rfl rfl rfl (by decide +kernel) ⟨Nat.le_of_ble_eq_true rfl, Nat.le_of_ble_eq_true rfl⟩) ⟨fun a U g mk q => by obtain ⟨q0, q1, qP, qK, qD, qX, qT⟩ := q; exact ⟨q0, q1, qP, va_K.moved (u := U) (U := U.calling g mk a) (Vm.Alike.refl U.vm) qK, qD, zX.calling qX, zTh.calling qT⟩, fun U hU hW => ⟨rfl, by rw [hU], by rw [hU]; exact hPc, va_K.moved hW.alike hKc, hDc.weaken (fun _ _ _ _ => trivial), zX.warm hW hZX, by rw [hU]; exact zTh.at hW hZT hS hFc⟩⟩ rfl rfl hl.1 rfl (lv_room (Nat.le_of_ble_eq_true rfl)) dL_law_882 ⟨Nat.le_of_ble_eq_true rfl, Nat.le_of_ble_eq_true rfl⟩) hS (fun q _ h => hFc q h) hFc (fun r191 u t H1 locs ht hvm hr191 hB hz1 hk1 hS => ?_)
      obtain ⟨fo_192, rfl⟩ : ∃ z, z = u := ⟨_, rfl⟩
      obtain ⟨hP1, hK1, hD1⟩ := hB
      rw [ht] at hP1
      have hK1 := va_K.moved hvm.symm hK1
      try dsimp only at hr191
      obtain ⟨hP, hD⟩ := va_join (wr := [(q13, .inr (3, [.int 0, .int 0, .ref wi_15, .ref co_16, .ref sl_17, .ref rn_18, .ref so_19, .ref bn_20, .ref sm_21, .ref ah_22])), (sm_21, .inr (2, [.int 0, .ref gr_23, .ref gt_24, .ref gw_25, .ref gk_26, .ref gi_27, .ref gp_28, .ref go_29, .ref gg_30, .ref q13])), (wi_15, .inl (d_31, 6, .inl (fun _ => 0))), (co_16, .inl (d_32, 6, .inl (fun _ => 0))), (sl_17, .inl (d_33, 6, .inl (fun _ => 0))), (gr_23, .inl (d_34, 6, .inl (fun _ => 0))), (bn_20, .inl (d_35, 3, .inl (fun _ => 0))), (rn_18, .inl (d_36, 12, .inl fn_38)), (so_19, .inl (d_37, 12, .inl (fun _ => 0)))]) (w1 := [(q39, .inl (cA40, 1, .inr (.inl fo_192)))]) hP hD [0, 1, 2, 3, 4, 14] [5, 6, 7, 8, 9, 10, 11, 12, 13] rfl rfl (by decide) (by decide) hk1 hFc hP1 hD1
      generalize H1 = H at hP hS ⊢
      have hP : va_P (dC, dI) vwCl [(q13, .inr (3, [.int 0, .int 0, .ref wi_15, .ref co_16, .ref sl_17, .ref rn_18, .ref so_19, .ref bn_20, .ref sm_21, .ref ah_22])), (sm_21, .inr (2, [.int 0, .ref gr_23, .ref gt_24, .ref gw_25, .ref gk_26, .ref gi_27, .ref gp_28, .ref go_29, .ref gg_30, .ref q13])), (wi_15, .inl (d_31, 6, .inl (fun _ => 0))), (co_16, .inl (d_32, 6, .inl (fun _ => 0))), (sl_17, .inl (d_33, 6, .inl (fun _ => 0))), (gr_23, .inl (d_34, 6, .inl (fun _ => 0))), (bn_20, .inl (d_35, 3, .inl (fun _ => 0))), (rn_18, .inl (d_36, 12, .inl fn_38)), (so_19, .inl (d_37, 12, .inl (fun _ => 0))), (q39, .inl (cA40, 1, .inr (.inl fo_192)))] H := hP
      have hD : va_D A [(q13, .inr (3, [.int 0, .int 0, .ref wi_15, .ref co_16, .ref sl_17, .ref rn_18, .ref so_19, .ref bn_20, .ref sm_21, .ref ah_22])), (sm_21, .inr (2, [.int 0, .ref gr_23, .ref gt_24, .ref gw_25, .ref gk_26, .ref gi_27, .ref gp_28, .ref go_29, .ref gg_30, .ref q13])), (wi_15, .inl (d_31, 6, .inl (fun _ => 0))), (co_16, .inl (d_32, 6, .inl (fun _ => 0))), (sl_17, .inl (d_33, 6, .inl (fun _ => 0))), (gr_23, .inl (d_34, 6, .inl (fun _ => 0))), (bn_20, .inl (d_35, 3, .inl (fun _ => 0))), (rn_18, .inl (d_36, 12, .inl fn_38)), (so_19, .inl (d_37, 12, .inl (fun _ => 0))), (q39, .inl (cA40, 1, .inr (.inl fo_192)))] := hD
      refine W.widen (k := 37) (n := 3408) (Nat.le_of_ble_eq_true rfl) (Nat.le_of_ble_eq_true rfl) ?_
      rcases hr191 with ⟨rfl, fr191_0_0, fr191_0_1⟩ | ⟨rfl, fr191_1_0⟩
      · refine lv_istore (lv' := [(5, .int 0), (4, .int 0), (3, .ref q39), (2, .ref q13), (1, .ref q1), (0, .ref b)]) hx hb dL_law_885 hl (by decide) rfl (fun ls hl => ?_)
        refine lv_aload_n hx hb dL_law_887 rfl (lv_at hl 3 rfl) ?_
        refine lv_aload_n hx hb dL_law_888 rfl (lv_at hl 5 rfl) ?_
        refine lv_iload hx hb dL_law_889 (lv_at hl 1 rfl) ?_
        refine lv_iconst (v := 1) hx hb dL_law_891 (by decide) ?_
        refine lv_iadd hx hb dL_law_892 ?_
        refine W.eq (g2 := F0 m 893 ls [.int 1, .ref b, .ref q13]) rfl ?_
        refine va_sld hx hb hX hbl hbA hS (vp_in_nI (n := 1) (by decide) (by decide)) dL_law_893 ?_
        refine W.eq (g2 := F0 m 894 ls [.int (xs 1), .ref q13]) rfl ?_
        have hPc := hP.sub (ws' := [(q13, .inr (3, [.int 0, .int 0, .ref wi_15, .ref co_16, .ref sl_17, .ref rn_18, .ref so_19, .ref bn_20, .ref sm_21, .ref ah_22])), (sm_21, .inr (2, [.int 0, .ref gr_23, .ref gt_24, .ref gw_25, .ref gk_26, .ref gi_27, .ref gp_28, .ref go_29, .ref gg_30, .ref q13])), (bn_20, .inl (d_35, 3, .inl (fun _ => 0))), (rn_18, .inl (d_36, 12, .inl fn_38)), (so_19, .inl (d_37, 12, .inl (fun _ => 0)))]) [0, 1, 6, 7, 8] rfl
        have hKc := hK.sub (tys' := [(d_35, .int), (d_36, .int), (d_37, .int)]) [8, 9, 10] rfl
        have hDc := hD.sub (ws' := [(q13, .inr (3, [.int 0, .int 0, .ref wi_15, .ref co_16, .ref sl_17, .ref rn_18, .ref so_19, .ref bn_20, .ref sm_21, .ref ah_22])), (sm_21, .inr (2, [.int 0, .ref gr_23, .ref gt_24, .ref gw_25, .ref gk_26, .ref gi_27, .ref gp_28, .ref go_29, .ref gg_30, .ref q13])), (bn_20, .inl (d_35, 3, .inl (fun _ => 0))), (rn_18, .inl (d_36, 12, .inl fn_38)), (so_19, .inl (d_37, 12, .inl (fun _ => 0)))]) [0, 1, 6, 7, 8] (by decide) rfl
        have hFc := va_free (wc := [(q13, .inr (3, [.int 0, .int 0, .ref wi_15, .ref co_16, .ref sl_17, .ref rn_18, .ref so_19, .ref bn_20, .ref sm_21, .ref ah_22])), (sm_21, .inr (2, [.int 0, .ref gr_23, .ref gt_24, .ref gw_25, .ref gk_26, .ref gi_27, .ref gp_28, .ref go_29, .ref gg_30, .ref q13])), (bn_20, .inl (d_35, 3, .inl (fun _ => 0))), (rn_18, .inl (d_36, 12, .inl fn_38)), (so_19, .inl (d_37, 12, .inl (fun _ => 0)))]) hD hS hA [0, 1, 6, 7, 8] rfl
        refine va_calli (va_runV (As := [.int (xs 1)]) (rest := []) ⟨hx, hb, hml, hown, hts⟩ (k3_count l dC dI H.size q13 wi_15 co_16 sl_17 rn_18 so_19 bn_20 sm_21 ah_22 0 gr_23 gt_24 gw_25 gk_26 gi_27 gp_28 go_29 gg_30 q13 d_35 d_36 d_37 fn_38 (xs 1) (by first | assumption | decide | omega)) (cwV 1 hts gL_law_X3_count rfl rfl rfl (by decide +kernel) ⟨Nat.le_of_ble_eq_true rfl, Nat.le_of_ble_eq_true rfl⟩) ⟨fun a U g mk q => by obtain ⟨q0, q1, qP, qK, qD, qN⟩ := q; exact ⟨q0, q1, qP, va_K.moved (u := U) (U := U.calling g mk a) (Vm.Alike.refl U.vm) qK, qD, zNs.calling qN⟩, va_recv hKc hPc (ci := 3) (q0 := 0) rfl rfl, fun U hU hW => ⟨rfl, by rw [hU], by rw [hU]; exact hPc, va_K.moved hW.alike hKc, hDc.weaken (fun _ _ _ _ => trivial), zNs.warm hW hZN⟩⟩ rfl rfl hl.1 rfl (lv_room (Nat.le_of_ble_eq_true rfl)) dL_law_894 ⟨Nat.le_of_ble_eq_true rfl, Nat.le_of_ble_eq_true rfl⟩) hS (fun q _ h => hFc q h) hFc (fun r193 u t H1 locs ht hvm hr193 hB hz1 hk1 hS => ?_)
        obtain ⟨th_194, rf_195⟩ := u
        obtain ⟨hP1, hK1, hD1⟩ := hB
        rw [ht] at hP1
        have hK1 := va_K.moved hvm.symm hK1
        try dsimp only at hr193
        obtain ⟨hP, hD⟩ := va_join (wr := [(wi_15, .inl (d_31, 6, .inl (fun _ => 0))), (co_16, .inl (d_32, 6, .inl (fun _ => 0))), (sl_17, .inl (d_33, 6, .inl (fun _ => 0))), (gr_23, .inl (d_34, 6, .inl (fun _ => 0))), (q39, .inl (cA40, 1, .inr (.inl fo_192)))]) (w1 := [(q13, .inr (3, [.int th_194, .int rf_195, .ref wi_15, .ref co_16, .ref sl_17, .ref rn_18, .ref so_19, .ref bn_20, .ref sm_21, .ref ah_22]))]) hP hD [0, 1, 6, 7, 8] [2, 3, 4, 5, 9] rfl rfl (by decide) (by decide) hk1 hFc hP1 hD1
        generalize H1 = H at hP hS ⊢
        have hP : va_P (dC, dI) vwCl [(wi_15, .inl (d_31, 6, .inl (fun _ => 0))), (co_16, .inl (d_32, 6, .inl (fun _ => 0))), (sl_17, .inl (d_33, 6, .inl (fun _ => 0))), (gr_23, .inl (d_34, 6, .inl (fun _ => 0))), (q39, .inl (cA40, 1, .inr (.inl fo_192))), (q13, .inr (3, [.int th_194, .int rf_195, .ref wi_15, .ref co_16, .ref sl_17, .ref rn_18, .ref so_19, .ref bn_20, .ref sm_21, .ref ah_22]))] H := hP
        have hD : va_D A [(wi_15, .inl (d_31, 6, .inl (fun _ => 0))), (co_16, .inl (d_32, 6, .inl (fun _ => 0))), (sl_17, .inl (d_33, 6, .inl (fun _ => 0))), (gr_23, .inl (d_34, 6, .inl (fun _ => 0))), (q39, .inl (cA40, 1, .inr (.inl fo_192))), (q13, .inr (3, [.int th_194, .int rf_195, .ref wi_15, .ref co_16, .ref sl_17, .ref rn_18, .ref so_19, .ref bn_20, .ref sm_21, .ref ah_22]))] := hD
        refine W.widen (k := 38) (n := 3417) (Nat.le_of_ble_eq_true rfl) (Nat.le_of_ble_eq_true rfl) ?_
        rcases hr193 with ⟨evr193_0, rfl, fr193_0_1⟩ | ⟨rfl, rfl, fr193_1_1⟩
        · rw [evr193_0]
          refine lv_istore (lv' := [(6, .int (zTal (xs 1))), (5, .int 0), (4, .int 0), (3, .ref q39), (2, .ref q13), (1, .ref q1), (0, .ref b)]) hx hb dL_law_897 hl (by decide) rfl (fun ls hl => ?_)
          refine lv_aload_n hx hb dL_law_899 rfl (lv_at hl 4 rfl) ?_
          have hPc := hP.sub (ws' := [(q13, .inr (3, [.int 0, .int rf_195, .ref wi_15, .ref co_16, .ref sl_17, .ref rn_18, .ref so_19, .ref bn_20, .ref sm_21, .ref ah_22]))]) [5] rfl
          have hKc := hK.sub (tys' := []) [] rfl
          refine vp_callSi (va_runV (As := []) (rest := []) ⟨hx, hb, hml, hown, hts⟩ (k3_thrown l dC dI q13 wi_15 co_16 sl_17 rn_18 so_19 bn_20 sm_21 ah_22 0 rf_195 ) (cwV 0 hts gL_law_X3_thrown rfl rfl rfl (by decide +kernel) ⟨Nat.le_of_ble_eq_true rfl, Nat.le_of_ble_eq_true rfl⟩) ⟨fun a U g mk q => by obtain ⟨q0, qP, qK⟩ := q; exact ⟨q0, qP, va_K.moved (u := U) (U := U.calling g mk a) (Vm.Alike.refl U.vm) qK⟩, va_recv hKc hPc (ci := 3) (q0 := 0) rfl rfl, fun U hU hW => ⟨rfl, by rw [hU]; exact hPc, va_K.moved hW.alike hKc⟩⟩ rfl rfl hl.1 rfl (lv_room (Nat.le_of_ble_eq_true rfl)) dL_law_900 ⟨Nat.le_of_ble_eq_true rfl, Nat.le_of_ble_eq_true rfl⟩).run (fun r196 hr196 => ?_)
          obtain rfl := hr196
          refine lv_iload hx hb dL_law_903 (lv_at hl 1 rfl) ?_
          refine lv_icmp_eq (tgt := 910) hx hb dL_law_905 (by decide) (fun c197 => ?_) (fun c197 => absurd c197 (by decide))
          refine lv_iload hx hb dL_law_910 (lv_at hl 1 rfl) ?_
          refine lv_if_ne (tgt := 927) hx hb dL_law_912 (by decide) (fun c198 => absurd c198 (by decide)) (fun c198 => ?_)
          refine lv_aload_n hx hb dL_law_915 rfl (lv_at hl 3 rfl) ?_
          refine lv_iconst (v := 0) hx hb dL_law_916 (by decide) ?_
          refine va_lald hx hb hK hP 4 11 rfl rfl (vp_in_nI (n := 0) (by decide) (by decide)) dL_law_917 ?_
          refine lv_topl (fun w199 ew199 => ?_)
          refine lv_iload hx hb dL_law_918 (lv_at hl 0 rfl) ?_
          refine lv_i2l (v := (zTal (xs 1)).toInt64) hx hb dL_law_920 (by first | rfl | decide) ?_
          refine W.lcmp hx hb dL_law_921 ?_
          refine lv_topi (fun x200 ex200 => ?_)
          refine lv_if_eq (tgt := 927) hx hb dL_law_922 (by decide) (fun c201 => ?_) (fun c201 => absurd (ex200.trans (zCmp (ew199.trans (by assumption)))) c201)
          refine lv_goto (tgt := 1381) hx hb dL_law_927 (by decide) ?_
          refine lv_iinc (v := 7) (lv' := [(4, .int 7), (6, .int (zTal (xs 1))), (5, .int 0), (3, .ref q39), (2, .ref q13), (1, .ref q1), (0, .ref b)]) hx hb dL_law_1381 hl (k := 2) rfl (by decide) (by decide) rfl (fun ls hl => ?_)
          refine lv_goto (tgt := 23) hx hb dL_law_1384 (by decide) ?_
          refine lv_iload hx hb dL_law_23 (lv_at hl 0 rfl) ?_
          refine lv_aload_n hx hb dL_law_25 rfl (lv_at hl 6 rfl) ?_
          refine va_slen hx hb hX hbl hbA hS dL_law_26 ?_
          refine W.eq (g2 := F0 m 27 ls [.int 7, .int 7]) rfl ?_
          refine lv_bipush (v := 7) hx hb dL_law_27 (by decide) ?_
          refine lv_isub hx hb dL_law_29 ?_
          refine W.eq (g2 := F0 m 30 ls [.int 0, .int 7]) rfl ?_
          refine lv_icmp_gt (tgt := 1387) hx hb dL_law_30 (by decide) (fun c202 => ?_) (fun c202 => absurd c202 (by decide))
          refine lv_iconst (v := 1) hx hb dL_law_1387 (by decide) ?_
          refine va_forget (fun q hq => hAs _ (hS.2.2 q hq)) ?_
          refine W.widen (k := 600002) (n := 7302232) (Nat.le_of_ble_eq_true rfl) (Nat.le_of_ble_eq_true rfl) ?_
          exact lw_ret (d0 := s.drawn) (Drawn.sameBut.refl s.drawn lw_cs) hx hb hr hlocks dL_law_1388
        · refine lv_istore (lv' := [(6, .int 0), (5, .int 0), (4, .int 0), (3, .ref q39), (2, .ref q13), (1, .ref q1), (0, .ref b)]) hx hb dL_law_897 hl (by decide) rfl (fun ls hl => ?_)
          refine lv_aload_n hx hb dL_law_899 rfl (lv_at hl 4 rfl) ?_
          have hPc := hP.sub (ws' := [(q13, .inr (3, [.int 1, .int rf_195, .ref wi_15, .ref co_16, .ref sl_17, .ref rn_18, .ref so_19, .ref bn_20, .ref sm_21, .ref ah_22]))]) [5] rfl
          have hKc := hK.sub (tys' := []) [] rfl
          refine vp_callSi (va_runV (As := []) (rest := []) ⟨hx, hb, hml, hown, hts⟩ (k3_thrown l dC dI q13 wi_15 co_16 sl_17 rn_18 so_19 bn_20 sm_21 ah_22 1 rf_195 ) (cwV 0 hts gL_law_X3_thrown rfl rfl rfl (by decide +kernel) ⟨Nat.le_of_ble_eq_true rfl, Nat.le_of_ble_eq_true rfl⟩) ⟨fun a U g mk q => by obtain ⟨q0, qP, qK⟩ := q; exact ⟨q0, qP, va_K.moved (u := U) (U := U.calling g mk a) (Vm.Alike.refl U.vm) qK⟩, va_recv hKc hPc (ci := 3) (q0 := 0) rfl rfl, fun U hU hW => ⟨rfl, by rw [hU]; exact hPc, va_K.moved hW.alike hKc⟩⟩ rfl rfl hl.1 rfl (lv_room (Nat.le_of_ble_eq_true rfl)) dL_law_900 ⟨Nat.le_of_ble_eq_true rfl, Nat.le_of_ble_eq_true rfl⟩).run (fun r203 hr203 => ?_)
          obtain rfl := hr203
          refine lv_iload hx hb dL_law_903 (lv_at hl 1 rfl) ?_
          refine lv_icmp_eq (tgt := 910) hx hb dL_law_905 (by decide) (fun c204 => absurd c204 (by decide)) (fun c204 => ?_)
          refine lv_iconst (v := 0) hx hb dL_law_908 (by decide) ?_
          exact (by first | contradiction | (simp_all; done) | grind : False).elim
      · refine lv_istore (lv' := [(5, .int 1), (4, .int 0), (3, .ref q39), (2, .ref q13), (1, .ref q1), (0, .ref b)]) hx hb dL_law_885 hl (by decide) rfl (fun ls hl => ?_)
        refine lv_aload_n hx hb dL_law_887 rfl (lv_at hl 3 rfl) ?_
        refine lv_aload_n hx hb dL_law_888 rfl (lv_at hl 5 rfl) ?_
        refine lv_iload hx hb dL_law_889 (lv_at hl 1 rfl) ?_
        refine lv_iconst (v := 1) hx hb dL_law_891 (by decide) ?_
        refine lv_iadd hx hb dL_law_892 ?_
        refine W.eq (g2 := F0 m 893 ls [.int 1, .ref b, .ref q13]) rfl ?_
        refine va_sld hx hb hX hbl hbA hS (vp_in_nI (n := 1) (by decide) (by decide)) dL_law_893 ?_
        refine W.eq (g2 := F0 m 894 ls [.int (xs 1), .ref q13]) rfl ?_
        have hPc := hP.sub (ws' := [(q13, .inr (3, [.int 0, .int 0, .ref wi_15, .ref co_16, .ref sl_17, .ref rn_18, .ref so_19, .ref bn_20, .ref sm_21, .ref ah_22])), (sm_21, .inr (2, [.int 0, .ref gr_23, .ref gt_24, .ref gw_25, .ref gk_26, .ref gi_27, .ref gp_28, .ref go_29, .ref gg_30, .ref q13])), (bn_20, .inl (d_35, 3, .inl (fun _ => 0))), (rn_18, .inl (d_36, 12, .inl fn_38)), (so_19, .inl (d_37, 12, .inl (fun _ => 0)))]) [0, 1, 6, 7, 8] rfl
        have hKc := hK.sub (tys' := [(d_35, .int), (d_36, .int), (d_37, .int)]) [8, 9, 10] rfl
        have hDc := hD.sub (ws' := [(q13, .inr (3, [.int 0, .int 0, .ref wi_15, .ref co_16, .ref sl_17, .ref rn_18, .ref so_19, .ref bn_20, .ref sm_21, .ref ah_22])), (sm_21, .inr (2, [.int 0, .ref gr_23, .ref gt_24, .ref gw_25, .ref gk_26, .ref gi_27, .ref gp_28, .ref go_29, .ref gg_30, .ref q13])), (bn_20, .inl (d_35, 3, .inl (fun _ => 0))), (rn_18, .inl (d_36, 12, .inl fn_38)), (so_19, .inl (d_37, 12, .inl (fun _ => 0)))]) [0, 1, 6, 7, 8] (by decide) rfl
        have hFc := va_free (wc := [(q13, .inr (3, [.int 0, .int 0, .ref wi_15, .ref co_16, .ref sl_17, .ref rn_18, .ref so_19, .ref bn_20, .ref sm_21, .ref ah_22])), (sm_21, .inr (2, [.int 0, .ref gr_23, .ref gt_24, .ref gw_25, .ref gk_26, .ref gi_27, .ref gp_28, .ref go_29, .ref gg_30, .ref q13])), (bn_20, .inl (d_35, 3, .inl (fun _ => 0))), (rn_18, .inl (d_36, 12, .inl fn_38)), (so_19, .inl (d_37, 12, .inl (fun _ => 0)))]) hD hS hA [0, 1, 6, 7, 8] rfl
        refine va_calli (va_runV (As := [.int (xs 1)]) (rest := []) ⟨hx, hb, hml, hown, hts⟩ (k3_count l dC dI H.size q13 wi_15 co_16 sl_17 rn_18 so_19 bn_20 sm_21 ah_22 0 gr_23 gt_24 gw_25 gk_26 gi_27 gp_28 go_29 gg_30 q13 d_35 d_36 d_37 fn_38 (xs 1) (by first | assumption | decide | omega)) (cwV 1 hts gL_law_X3_count rfl rfl rfl (by decide +kernel) ⟨Nat.le_of_ble_eq_true rfl, Nat.le_of_ble_eq_true rfl⟩) ⟨fun a U g mk q => by obtain ⟨q0, q1, qP, qK, qD, qN⟩ := q; exact ⟨q0, q1, qP, va_K.moved (u := U) (U := U.calling g mk a) (Vm.Alike.refl U.vm) qK, qD, zNs.calling qN⟩, va_recv hKc hPc (ci := 3) (q0 := 0) rfl rfl, fun U hU hW => ⟨rfl, by rw [hU], by rw [hU]; exact hPc, va_K.moved hW.alike hKc, hDc.weaken (fun _ _ _ _ => trivial), zNs.warm hW hZN⟩⟩ rfl rfl hl.1 rfl (lv_room (Nat.le_of_ble_eq_true rfl)) dL_law_894 ⟨Nat.le_of_ble_eq_true rfl, Nat.le_of_ble_eq_true rfl⟩) hS (fun q _ h => hFc q h) hFc (fun r205 u t H1 locs ht hvm hr205 hB hz1 hk1 hS => ?_)
        obtain ⟨th_206, rf_207⟩ := u
        obtain ⟨hP1, hK1, hD1⟩ := hB
        rw [ht] at hP1
        have hK1 := va_K.moved hvm.symm hK1
        try dsimp only at hr205
        obtain ⟨hP, hD⟩ := va_join (wr := [(wi_15, .inl (d_31, 6, .inl (fun _ => 0))), (co_16, .inl (d_32, 6, .inl (fun _ => 0))), (sl_17, .inl (d_33, 6, .inl (fun _ => 0))), (gr_23, .inl (d_34, 6, .inl (fun _ => 0))), (q39, .inl (cA40, 1, .inr (.inl fo_192)))]) (w1 := [(q13, .inr (3, [.int th_206, .int rf_207, .ref wi_15, .ref co_16, .ref sl_17, .ref rn_18, .ref so_19, .ref bn_20, .ref sm_21, .ref ah_22]))]) hP hD [0, 1, 6, 7, 8] [2, 3, 4, 5, 9] rfl rfl (by decide) (by decide) hk1 hFc hP1 hD1
        generalize H1 = H at hP hS ⊢
        have hP : va_P (dC, dI) vwCl [(wi_15, .inl (d_31, 6, .inl (fun _ => 0))), (co_16, .inl (d_32, 6, .inl (fun _ => 0))), (sl_17, .inl (d_33, 6, .inl (fun _ => 0))), (gr_23, .inl (d_34, 6, .inl (fun _ => 0))), (q39, .inl (cA40, 1, .inr (.inl fo_192))), (q13, .inr (3, [.int th_206, .int rf_207, .ref wi_15, .ref co_16, .ref sl_17, .ref rn_18, .ref so_19, .ref bn_20, .ref sm_21, .ref ah_22]))] H := hP
        have hD : va_D A [(wi_15, .inl (d_31, 6, .inl (fun _ => 0))), (co_16, .inl (d_32, 6, .inl (fun _ => 0))), (sl_17, .inl (d_33, 6, .inl (fun _ => 0))), (gr_23, .inl (d_34, 6, .inl (fun _ => 0))), (q39, .inl (cA40, 1, .inr (.inl fo_192))), (q13, .inr (3, [.int th_206, .int rf_207, .ref wi_15, .ref co_16, .ref sl_17, .ref rn_18, .ref so_19, .ref bn_20, .ref sm_21, .ref ah_22]))] := hD
        refine W.widen (k := 38) (n := 3417) (Nat.le_of_ble_eq_true rfl) (Nat.le_of_ble_eq_true rfl) ?_
        rcases hr205 with ⟨evr205_0, rfl, fr205_0_1⟩ | ⟨rfl, rfl, fr205_1_1⟩
        · rw [evr205_0]
          refine lv_istore (lv' := [(6, .int (zTal (xs 1))), (5, .int 1), (4, .int 0), (3, .ref q39), (2, .ref q13), (1, .ref q1), (0, .ref b)]) hx hb dL_law_897 hl (by decide) rfl (fun ls hl => ?_)
          refine lv_aload_n hx hb dL_law_899 rfl (lv_at hl 4 rfl) ?_
          have hPc := hP.sub (ws' := [(q13, .inr (3, [.int 0, .int rf_207, .ref wi_15, .ref co_16, .ref sl_17, .ref rn_18, .ref so_19, .ref bn_20, .ref sm_21, .ref ah_22]))]) [5] rfl
          have hKc := hK.sub (tys' := []) [] rfl
          refine vp_callSi (va_runV (As := []) (rest := []) ⟨hx, hb, hml, hown, hts⟩ (k3_thrown l dC dI q13 wi_15 co_16 sl_17 rn_18 so_19 bn_20 sm_21 ah_22 0 rf_207 ) (cwV 0 hts gL_law_X3_thrown rfl rfl rfl (by decide +kernel) ⟨Nat.le_of_ble_eq_true rfl, Nat.le_of_ble_eq_true rfl⟩) ⟨fun a U g mk q => by obtain ⟨q0, qP, qK⟩ := q; exact ⟨q0, qP, va_K.moved (u := U) (U := U.calling g mk a) (Vm.Alike.refl U.vm) qK⟩, va_recv hKc hPc (ci := 3) (q0 := 0) rfl rfl, fun U hU hW => ⟨rfl, by rw [hU]; exact hPc, va_K.moved hW.alike hKc⟩⟩ rfl rfl hl.1 rfl (lv_room (Nat.le_of_ble_eq_true rfl)) dL_law_900 ⟨Nat.le_of_ble_eq_true rfl, Nat.le_of_ble_eq_true rfl⟩).run (fun r208 hr208 => ?_)
          obtain rfl := hr208
          refine lv_iload hx hb dL_law_903 (lv_at hl 1 rfl) ?_
          refine lv_icmp_eq (tgt := 910) hx hb dL_law_905 (by decide) (fun c209 => absurd c209 (by decide)) (fun c209 => ?_)
          refine lv_iconst (v := 0) hx hb dL_law_908 (by decide) ?_
          exact (by first | contradiction | (simp_all; done) | grind : False).elim
        · refine lv_istore (lv' := [(6, .int 0), (5, .int 1), (4, .int 0), (3, .ref q39), (2, .ref q13), (1, .ref q1), (0, .ref b)]) hx hb dL_law_897 hl (by decide) rfl (fun ls hl => ?_)
          refine lv_aload_n hx hb dL_law_899 rfl (lv_at hl 4 rfl) ?_
          have hPc := hP.sub (ws' := [(q13, .inr (3, [.int 1, .int rf_207, .ref wi_15, .ref co_16, .ref sl_17, .ref rn_18, .ref so_19, .ref bn_20, .ref sm_21, .ref ah_22]))]) [5] rfl
          have hKc := hK.sub (tys' := []) [] rfl
          refine vp_callSi (va_runV (As := []) (rest := []) ⟨hx, hb, hml, hown, hts⟩ (k3_thrown l dC dI q13 wi_15 co_16 sl_17 rn_18 so_19 bn_20 sm_21 ah_22 1 rf_207 ) (cwV 0 hts gL_law_X3_thrown rfl rfl rfl (by decide +kernel) ⟨Nat.le_of_ble_eq_true rfl, Nat.le_of_ble_eq_true rfl⟩) ⟨fun a U g mk q => by obtain ⟨q0, qP, qK⟩ := q; exact ⟨q0, qP, va_K.moved (u := U) (U := U.calling g mk a) (Vm.Alike.refl U.vm) qK⟩, va_recv hKc hPc (ci := 3) (q0 := 0) rfl rfl, fun U hU hW => ⟨rfl, by rw [hU]; exact hPc, va_K.moved hW.alike hKc⟩⟩ rfl rfl hl.1 rfl (lv_room (Nat.le_of_ble_eq_true rfl)) dL_law_900 ⟨Nat.le_of_ble_eq_true rfl, Nat.le_of_ble_eq_true rfl⟩).run (fun r210 hr210 => ?_)
          obtain rfl := hr210
          refine lv_iload hx hb dL_law_903 (lv_at hl 1 rfl) ?_
          refine lv_icmp_eq (tgt := 910) hx hb dL_law_905 (by decide) (fun c211 => ?_) (fun c211 => absurd c211 (by decide))
          refine lv_iload hx hb dL_law_910 (lv_at hl 1 rfl) ?_
          refine lv_if_ne (tgt := 927) hx hb dL_law_912 (by decide) (fun c212 => ?_) (fun c212 => absurd c212 (by decide))
          refine lv_goto (tgt := 1381) hx hb dL_law_927 (by decide) ?_
          refine lv_iinc (v := 7) (lv' := [(4, .int 7), (6, .int 0), (5, .int 1), (3, .ref q39), (2, .ref q13), (1, .ref q1), (0, .ref b)]) hx hb dL_law_1381 hl (k := 2) rfl (by decide) (by decide) rfl (fun ls hl => ?_)
          refine lv_goto (tgt := 23) hx hb dL_law_1384 (by decide) ?_
          refine lv_iload hx hb dL_law_23 (lv_at hl 0 rfl) ?_
          refine lv_aload_n hx hb dL_law_25 rfl (lv_at hl 6 rfl) ?_
          refine va_slen hx hb hX hbl hbA hS dL_law_26 ?_
          refine W.eq (g2 := F0 m 27 ls [.int 7, .int 7]) rfl ?_
          refine lv_bipush (v := 7) hx hb dL_law_27 (by decide) ?_
          refine lv_isub hx hb dL_law_29 ?_
          refine W.eq (g2 := F0 m 30 ls [.int 0, .int 7]) rfl ?_
          refine lv_icmp_gt (tgt := 1387) hx hb dL_law_30 (by decide) (fun c213 => ?_) (fun c213 => absurd c213 (by decide))
          refine lv_iconst (v := 1) hx hb dL_law_1387 (by decide) ?_
          refine va_forget (fun q hq => hAs _ (hS.2.2 q hq)) ?_
          refine W.widen (k := 600002) (n := 7302232) (Nat.le_of_ble_eq_true rfl) (Nat.le_of_ble_eq_true rfl) ?_
          exact lw_ret (d0 := s.drawn) (Drawn.sameBut.refl s.drawn lw_cs) hx hb hr hlocks dL_law_1388
    · rw [hje]
      -- case 10
      refine W.eq (g2 := F0 m 40 ls [.int 10]) rfl ?_
      refine lv_tableIn (off := 890) (tgt := 930) hx hb dL_law_40 (by decide) (by decide) (by rfl) (by decide) ?_
      refine lv_aload_n hx hb dL_law_930 rfl (lv_at hl 3 rfl) ?_
      refine lv_aload_n hx hb dL_law_931 rfl (lv_at hl 4 rfl) ?_
      refine lv_iload hx hb dL_law_932 (lv_at hl 0 rfl) ?_
      refine lv_iconst (v := 1) hx hb dL_law_934 (by decide) ?_
      refine lv_iadd hx hb dL_law_935 ?_
      refine W.eq (g2 := F0 m 936 ls [.int 1, .ref b, .ref q1]) rfl ?_
      refine va_sld hx hb hX hbl hbA hS (vp_in_nI (n := 1) (by decide) (by decide)) dL_law_936 ?_
      refine W.eq (g2 := F0 m 937 ls [.int (xs 1), .ref q1]) rfl ?_
      refine lv_aload_n hx hb dL_law_937 rfl (lv_at hl 1 rfl) ?_
      have hPc := hP.sub (ws' := [(q1, .inr (1, [.ref ro_3, .int 0, .ref ba_4, .ref ra_5, .ref su_6, .int 0, .ref tr_7])), (ro_3, .inl (cR_8, 6, .inr (.inr (.inr (.inr (fun _ => none)))))), (q39, .inl (cA40, 1, .inr (.inl (fun _ => 0))))]) [0, 1, 14] rfl
      have hKc := hK.sub (tys' := [(cR_8, .object RX0), (cA40, .long)]) [0, 11] rfl
      have hDc := hD.sub (ws' := [(q1, .inr (1, [.ref ro_3, .int 0, .ref ba_4, .ref ra_5, .ref su_6, .int 0, .ref tr_7])), (ro_3, .inl (cR_8, 6, .inr (.inr (.inr (.inr (fun _ => none)))))), (q39, .inl (cA40, 1, .inr (.inl (fun _ => 0))))]) [0, 1, 14] (by decide) rfl
      have hFc := va_free (wc := [(q1, .inr (1, [.ref ro_3, .int 0, .ref ba_4, .ref ra_5, .ref su_6, .int 0, .ref tr_7])), (ro_3, .inl (cR_8, 6, .inr (.inr (.inr (.inr (fun _ => none)))))), (q39, .inl (cA40, 1, .inr (.inl (fun _ => 0))))]) hD hS hA [0, 1, 14] rfl
      refine va_calli (vx_runSW (As := [.ref q1, .int (xs 1), .ref q39]) (rest := []) ⟨hx, hb, hml, hown, hts⟩ (kL_pass l hst dC dI H.size q1 ro_3 ba_4 ra_5 su_6 tr_7 cR_8 q39 cA40 (fun _ => 0) (xs 1) ) (vx_cwSW 3 hts gL_law_L_pass rfl rfl rfl (by decide +kernel) ⟨Nat.le_of_ble_eq_true rfl, Nat.le_of_ble_eq_true rfl⟩) ⟨fun a U g mk q => by obtain ⟨q0, q1, qP, qK, qD, qX, qT⟩ := q; exact ⟨q0, q1, qP, va_K.moved (u := U) (U := U.calling g mk a) (Vm.Alike.refl U.vm) qK, qD, zX.calling qX, zTh.calling qT⟩, fun U hU hW => ⟨rfl, by rw [hU], by rw [hU]; exact hPc, va_K.moved hW.alike hKc, hDc.weaken (fun _ _ _ _ => trivial), zX.warm hW hZX, by rw [hU]; exact zTh.at hW hZT hS hFc⟩⟩ rfl rfl hl.1 rfl (lv_room (Nat.le_of_ble_eq_true rfl)) dL_law_938 ⟨Nat.le_of_ble_eq_true rfl, Nat.le_of_ble_eq_true rfl⟩) hS (fun q _ h => hFc q h) hFc (fun r214 u t H1 locs ht hvm hr214 hB hz1 hk1 hS => ?_)
      obtain ⟨fo_215, rfl⟩ : ∃ z, z = u := ⟨_, rfl⟩
      obtain ⟨hP1, hK1, hD1⟩ := hB
      rw [ht] at hP1
      have hK1 := va_K.moved hvm.symm hK1
      try dsimp only at hr214
      obtain ⟨hP, hD⟩ := va_join (wr := [(ba_4, .inl (cB_9, 3, .inl (fun _ => 0))), (ra_5, .inl (cA_10, 12, .inl fr_12)), (su_6, .inl (cS_11, 12, .inl (fun _ => 0))), (q13, .inr (3, [.int 0, .int 0, .ref wi_15, .ref co_16, .ref sl_17, .ref rn_18, .ref so_19, .ref bn_20, .ref sm_21, .ref ah_22])), (sm_21, .inr (2, [.int 0, .ref gr_23, .ref gt_24, .ref gw_25, .ref gk_26, .ref gi_27, .ref gp_28, .ref go_29, .ref gg_30, .ref q13])), (wi_15, .inl (d_31, 6, .inl (fun _ => 0))), (co_16, .inl (d_32, 6, .inl (fun _ => 0))), (sl_17, .inl (d_33, 6, .inl (fun _ => 0))), (gr_23, .inl (d_34, 6, .inl (fun _ => 0))), (bn_20, .inl (d_35, 3, .inl (fun _ => 0))), (rn_18, .inl (d_36, 12, .inl fn_38)), (so_19, .inl (d_37, 12, .inl (fun _ => 0)))]) (w1 := [(q39, .inl (cA40, 1, .inr (.inl fo_215)))]) hP hD [0, 1, 14] [2, 3, 4, 5, 6, 7, 8, 9, 10, 11, 12, 13] rfl rfl (by decide) (by decide) hk1 hFc hP1 hD1
      generalize H1 = H at hP hS ⊢
      have hP : va_P (dC, dI) vwCl [(ba_4, .inl (cB_9, 3, .inl (fun _ => 0))), (ra_5, .inl (cA_10, 12, .inl fr_12)), (su_6, .inl (cS_11, 12, .inl (fun _ => 0))), (q13, .inr (3, [.int 0, .int 0, .ref wi_15, .ref co_16, .ref sl_17, .ref rn_18, .ref so_19, .ref bn_20, .ref sm_21, .ref ah_22])), (sm_21, .inr (2, [.int 0, .ref gr_23, .ref gt_24, .ref gw_25, .ref gk_26, .ref gi_27, .ref gp_28, .ref go_29, .ref gg_30, .ref q13])), (wi_15, .inl (d_31, 6, .inl (fun _ => 0))), (co_16, .inl (d_32, 6, .inl (fun _ => 0))), (sl_17, .inl (d_33, 6, .inl (fun _ => 0))), (gr_23, .inl (d_34, 6, .inl (fun _ => 0))), (bn_20, .inl (d_35, 3, .inl (fun _ => 0))), (rn_18, .inl (d_36, 12, .inl fn_38)), (so_19, .inl (d_37, 12, .inl (fun _ => 0))), (q39, .inl (cA40, 1, .inr (.inl fo_215)))] H := hP
      have hD : va_D A [(ba_4, .inl (cB_9, 3, .inl (fun _ => 0))), (ra_5, .inl (cA_10, 12, .inl fr_12)), (su_6, .inl (cS_11, 12, .inl (fun _ => 0))), (q13, .inr (3, [.int 0, .int 0, .ref wi_15, .ref co_16, .ref sl_17, .ref rn_18, .ref so_19, .ref bn_20, .ref sm_21, .ref ah_22])), (sm_21, .inr (2, [.int 0, .ref gr_23, .ref gt_24, .ref gw_25, .ref gk_26, .ref gi_27, .ref gp_28, .ref go_29, .ref gg_30, .ref q13])), (wi_15, .inl (d_31, 6, .inl (fun _ => 0))), (co_16, .inl (d_32, 6, .inl (fun _ => 0))), (sl_17, .inl (d_33, 6, .inl (fun _ => 0))), (gr_23, .inl (d_34, 6, .inl (fun _ => 0))), (bn_20, .inl (d_35, 3, .inl (fun _ => 0))), (rn_18, .inl (d_36, 12, .inl fn_38)), (so_19, .inl (d_37, 12, .inl (fun _ => 0))), (q39, .inl (cA40, 1, .inr (.inl fo_215)))] := hD
      refine W.widen (k := 37) (n := 3408) (Nat.le_of_ble_eq_true rfl) (Nat.le_of_ble_eq_true rfl) ?_
      rcases hr214 with ⟨rfl, fr214_0_0, fr214_0_1⟩ | ⟨rfl, fr214_1_0⟩
      · refine lv_istore (lv' := [(5, .int 0), (4, .int 0), (3, .ref q39), (2, .ref q13), (1, .ref q1), (0, .ref b)]) hx hb dL_law_941 hl (by decide) rfl (fun ls hl => ?_)
        refine lv_aload_n hx hb dL_law_943 rfl (lv_at hl 3 rfl) ?_
        refine lv_aload_n hx hb dL_law_944 rfl (lv_at hl 5 rfl) ?_
        refine lv_iload hx hb dL_law_945 (lv_at hl 1 rfl) ?_
        refine lv_iconst (v := 1) hx hb dL_law_947 (by decide) ?_
        refine lv_iadd hx hb dL_law_948 ?_
        refine W.eq (g2 := F0 m 949 ls [.int 1, .ref b, .ref q13]) rfl ?_
        refine va_sld hx hb hX hbl hbA hS (vp_in_nI (n := 1) (by decide) (by decide)) dL_law_949 ?_
        refine W.eq (g2 := F0 m 950 ls [.int (xs 1), .ref q13]) rfl ?_
        have hPc := hP.sub (ws' := [(q13, .inr (3, [.int 0, .int 0, .ref wi_15, .ref co_16, .ref sl_17, .ref rn_18, .ref so_19, .ref bn_20, .ref sm_21, .ref ah_22])), (sm_21, .inr (2, [.int 0, .ref gr_23, .ref gt_24, .ref gw_25, .ref gk_26, .ref gi_27, .ref gp_28, .ref go_29, .ref gg_30, .ref q13]))]) [3, 4] rfl
        have hKc := hK.sub (tys' := []) [] rfl
        have hDc := hD.sub (ws' := [(q13, .inr (3, [.int 0, .int 0, .ref wi_15, .ref co_16, .ref sl_17, .ref rn_18, .ref so_19, .ref bn_20, .ref sm_21, .ref ah_22])), (sm_21, .inr (2, [.int 0, .ref gr_23, .ref gt_24, .ref gw_25, .ref gk_26, .ref gi_27, .ref gp_28, .ref go_29, .ref gg_30, .ref q13]))]) [3, 4] (by decide) rfl
        have hFc := va_free (wc := [(q13, .inr (3, [.int 0, .int 0, .ref wi_15, .ref co_16, .ref sl_17, .ref rn_18, .ref so_19, .ref bn_20, .ref sm_21, .ref ah_22])), (sm_21, .inr (2, [.int 0, .ref gr_23, .ref gt_24, .ref gw_25, .ref gk_26, .ref gi_27, .ref gp_28, .ref go_29, .ref gg_30, .ref q13]))]) hD hS hA [3, 4] rfl
        refine va_calli (va_runV (As := [.int (xs 1)]) (rest := []) ⟨hx, hb, hml, hown, hts⟩ (k3_pass l dC dI H.size q13 wi_15 co_16 sl_17 rn_18 so_19 bn_20 sm_21 ah_22 0 gr_23 gt_24 gw_25 gk_26 gi_27 gp_28 go_29 gg_30 q13 (xs 1) ) (cwV 1 hts gL_law_X3_pass rfl rfl rfl (by decide +kernel) ⟨Nat.le_of_ble_eq_true rfl, Nat.le_of_ble_eq_true rfl⟩) ⟨fun a U g mk q => by obtain ⟨q0, q1, qP, qK, qD, qN⟩ := q; exact ⟨q0, q1, qP, va_K.moved (u := U) (U := U.calling g mk a) (Vm.Alike.refl U.vm) qK, qD, zNs.calling qN⟩, va_recv hKc hPc (ci := 3) (q0 := 0) rfl rfl, fun U hU hW => ⟨rfl, by rw [hU], by rw [hU]; exact hPc, va_K.moved hW.alike hKc, hDc.weaken (fun _ _ _ _ => trivial), zNs.warm hW hZN⟩⟩ rfl rfl hl.1 rfl (lv_room (Nat.le_of_ble_eq_true rfl)) dL_law_950 ⟨Nat.le_of_ble_eq_true rfl, Nat.le_of_ble_eq_true rfl⟩) hS (fun q _ h => hFc q h) hFc (fun r216 u t H1 locs ht hvm hr216 hB hz1 hk1 hS => ?_)
        obtain ⟨th_217, rf_218⟩ := u
        obtain ⟨hP1, hK1, hD1⟩ := hB
        rw [ht] at hP1
        have hK1 := va_K.moved hvm.symm hK1
        try dsimp only at hr216
        obtain ⟨hP, hD⟩ := va_join (wr := [(ba_4, .inl (cB_9, 3, .inl (fun _ => 0))), (ra_5, .inl (cA_10, 12, .inl fr_12)), (su_6, .inl (cS_11, 12, .inl (fun _ => 0))), (wi_15, .inl (d_31, 6, .inl (fun _ => 0))), (co_16, .inl (d_32, 6, .inl (fun _ => 0))), (sl_17, .inl (d_33, 6, .inl (fun _ => 0))), (gr_23, .inl (d_34, 6, .inl (fun _ => 0))), (bn_20, .inl (d_35, 3, .inl (fun _ => 0))), (rn_18, .inl (d_36, 12, .inl fn_38)), (so_19, .inl (d_37, 12, .inl (fun _ => 0))), (q39, .inl (cA40, 1, .inr (.inl fo_215)))]) (w1 := [(q13, .inr (3, [.int th_217, .int rf_218, .ref wi_15, .ref co_16, .ref sl_17, .ref rn_18, .ref so_19, .ref bn_20, .ref sm_21, .ref ah_22]))]) hP hD [3, 4] [0, 1, 2, 5, 6, 7, 8, 9, 10, 11, 12] rfl rfl (by decide) (by decide) hk1 hFc hP1 hD1
        generalize H1 = H at hP hS ⊢
        have hP : va_P (dC, dI) vwCl [(ba_4, .inl (cB_9, 3, .inl (fun _ => 0))), (ra_5, .inl (cA_10, 12, .inl fr_12)), (su_6, .inl (cS_11, 12, .inl (fun _ => 0))), (wi_15, .inl (d_31, 6, .inl (fun _ => 0))), (co_16, .inl (d_32, 6, .inl (fun _ => 0))), (sl_17, .inl (d_33, 6, .inl (fun _ => 0))), (gr_23, .inl (d_34, 6, .inl (fun _ => 0))), (bn_20, .inl (d_35, 3, .inl (fun _ => 0))), (rn_18, .inl (d_36, 12, .inl fn_38)), (so_19, .inl (d_37, 12, .inl (fun _ => 0))), (q39, .inl (cA40, 1, .inr (.inl fo_215))), (q13, .inr (3, [.int th_217, .int rf_218, .ref wi_15, .ref co_16, .ref sl_17, .ref rn_18, .ref so_19, .ref bn_20, .ref sm_21, .ref ah_22]))] H := hP
        have hD : va_D A [(ba_4, .inl (cB_9, 3, .inl (fun _ => 0))), (ra_5, .inl (cA_10, 12, .inl fr_12)), (su_6, .inl (cS_11, 12, .inl (fun _ => 0))), (wi_15, .inl (d_31, 6, .inl (fun _ => 0))), (co_16, .inl (d_32, 6, .inl (fun _ => 0))), (sl_17, .inl (d_33, 6, .inl (fun _ => 0))), (gr_23, .inl (d_34, 6, .inl (fun _ => 0))), (bn_20, .inl (d_35, 3, .inl (fun _ => 0))), (rn_18, .inl (d_36, 12, .inl fn_38)), (so_19, .inl (d_37, 12, .inl (fun _ => 0))), (q39, .inl (cA40, 1, .inr (.inl fo_215))), (q13, .inr (3, [.int th_217, .int rf_218, .ref wi_15, .ref co_16, .ref sl_17, .ref rn_18, .ref so_19, .ref bn_20, .ref sm_21, .ref ah_22]))] := hD
        rcases hr216 with ⟨rfl, rfl, fr216_0_1⟩ | ⟨rfl, rfl, fr216_1_1⟩
        · refine lv_istore (lv' := [(6, .int 0), (5, .int 0), (4, .int 0), (3, .ref q39), (2, .ref q13), (1, .ref q1), (0, .ref b)]) hx hb dL_law_953 hl (by decide) rfl (fun ls hl => ?_)
          refine lv_aload_n hx hb dL_law_955 rfl (lv_at hl 4 rfl) ?_
          have hPc := hP.sub (ws' := [(q13, .inr (3, [.int 0, .int rf_218, .ref wi_15, .ref co_16, .ref sl_17, .ref rn_18, .ref so_19, .ref bn_20, .ref sm_21, .ref ah_22]))]) [11] rfl
          have hKc := hK.sub (tys' := []) [] rfl
          refine vp_callSi (va_runV (As := []) (rest := []) ⟨hx, hb, hml, hown, hts⟩ (k3_thrown l dC dI q13 wi_15 co_16 sl_17 rn_18 so_19 bn_20 sm_21 ah_22 0 rf_218 ) (cwV 0 hts gL_law_X3_thrown rfl rfl rfl (by decide +kernel) ⟨Nat.le_of_ble_eq_true rfl, Nat.le_of_ble_eq_true rfl⟩) ⟨fun a U g mk q => by obtain ⟨q0, qP, qK⟩ := q; exact ⟨q0, qP, va_K.moved (u := U) (U := U.calling g mk a) (Vm.Alike.refl U.vm) qK⟩, va_recv hKc hPc (ci := 3) (q0 := 0) rfl rfl, fun U hU hW => ⟨rfl, by rw [hU]; exact hPc, va_K.moved hW.alike hKc⟩⟩ rfl rfl hl.1 rfl (lv_room (Nat.le_of_ble_eq_true rfl)) dL_law_956 ⟨Nat.le_of_ble_eq_true rfl, Nat.le_of_ble_eq_true rfl⟩).run (fun r219 hr219 => ?_)
          obtain rfl := hr219
          refine lv_iload hx hb dL_law_959 (lv_at hl 1 rfl) ?_
          refine lv_icmp_eq (tgt := 966) hx hb dL_law_961 (by decide) (fun c220 => ?_) (fun c220 => absurd c220 (by decide))
          refine lv_iload hx hb dL_law_966 (lv_at hl 1 rfl) ?_
          refine lv_if_ne (tgt := 983) hx hb dL_law_968 (by decide) (fun c221 => absurd c221 (by decide)) (fun c221 => ?_)
          refine lv_aload_n hx hb dL_law_971 rfl (lv_at hl 3 rfl) ?_
          refine lv_iconst (v := 0) hx hb dL_law_972 (by decide) ?_
          refine va_lald hx hb hK hP 10 11 rfl rfl (vp_in_nI (n := 0) (by decide) (by decide)) dL_law_973 ?_
          refine lv_topl (fun w222 ew222 => ?_)
          refine lv_iload hx hb dL_law_974 (lv_at hl 0 rfl) ?_
          refine lv_i2l (v := 0) hx hb dL_law_976 (by first | rfl | decide) ?_
          refine W.lcmp hx hb dL_law_977 ?_
          refine lv_topi (fun x223 ex223 => ?_)
          refine lv_if_eq (tgt := 983) hx hb dL_law_978 (by decide) (fun c224 => ?_) (fun c224 => absurd (ex223.trans (zCmp (ew222.trans (by assumption)))) c224)
          refine lv_goto (tgt := 1381) hx hb dL_law_983 (by decide) ?_
          refine lv_iinc (v := 7) (lv' := [(4, .int 7), (6, .int 0), (5, .int 0), (3, .ref q39), (2, .ref q13), (1, .ref q1), (0, .ref b)]) hx hb dL_law_1381 hl (k := 2) rfl (by decide) (by decide) rfl (fun ls hl => ?_)
          refine lv_goto (tgt := 23) hx hb dL_law_1384 (by decide) ?_
          refine lv_iload hx hb dL_law_23 (lv_at hl 0 rfl) ?_
          refine lv_aload_n hx hb dL_law_25 rfl (lv_at hl 6 rfl) ?_
          refine va_slen hx hb hX hbl hbA hS dL_law_26 ?_
          refine W.eq (g2 := F0 m 27 ls [.int 7, .int 7]) rfl ?_
          refine lv_bipush (v := 7) hx hb dL_law_27 (by decide) ?_
          refine lv_isub hx hb dL_law_29 ?_
          refine W.eq (g2 := F0 m 30 ls [.int 0, .int 7]) rfl ?_
          refine lv_icmp_gt (tgt := 1387) hx hb dL_law_30 (by decide) (fun c225 => ?_) (fun c225 => absurd c225 (by decide))
          refine lv_iconst (v := 1) hx hb dL_law_1387 (by decide) ?_
          refine va_forget (fun q hq => hAs _ (hS.2.2 q hq)) ?_
          refine W.widen (k := 600002) (n := 7302232) (Nat.le_of_ble_eq_true rfl) (Nat.le_of_ble_eq_true rfl) ?_
          exact lw_ret (d0 := s.drawn) (Drawn.sameBut.refl s.drawn lw_cs) hx hb hr hlocks dL_law_1388
        · refine lv_istore (lv' := [(6, .int 0), (5, .int 0), (4, .int 0), (3, .ref q39), (2, .ref q13), (1, .ref q1), (0, .ref b)]) hx hb dL_law_953 hl (by decide) rfl (fun ls hl => ?_)
          refine lv_aload_n hx hb dL_law_955 rfl (lv_at hl 4 rfl) ?_
          have hPc := hP.sub (ws' := [(q13, .inr (3, [.int 1, .int rf_218, .ref wi_15, .ref co_16, .ref sl_17, .ref rn_18, .ref so_19, .ref bn_20, .ref sm_21, .ref ah_22]))]) [11] rfl
          have hKc := hK.sub (tys' := []) [] rfl
          refine vp_callSi (va_runV (As := []) (rest := []) ⟨hx, hb, hml, hown, hts⟩ (k3_thrown l dC dI q13 wi_15 co_16 sl_17 rn_18 so_19 bn_20 sm_21 ah_22 1 rf_218 ) (cwV 0 hts gL_law_X3_thrown rfl rfl rfl (by decide +kernel) ⟨Nat.le_of_ble_eq_true rfl, Nat.le_of_ble_eq_true rfl⟩) ⟨fun a U g mk q => by obtain ⟨q0, qP, qK⟩ := q; exact ⟨q0, qP, va_K.moved (u := U) (U := U.calling g mk a) (Vm.Alike.refl U.vm) qK⟩, va_recv hKc hPc (ci := 3) (q0 := 0) rfl rfl, fun U hU hW => ⟨rfl, by rw [hU]; exact hPc, va_K.moved hW.alike hKc⟩⟩ rfl rfl hl.1 rfl (lv_room (Nat.le_of_ble_eq_true rfl)) dL_law_956 ⟨Nat.le_of_ble_eq_true rfl, Nat.le_of_ble_eq_true rfl⟩).run (fun r226 hr226 => ?_)
          obtain rfl := hr226
          refine lv_iload hx hb dL_law_959 (lv_at hl 1 rfl) ?_
          refine lv_icmp_eq (tgt := 966) hx hb dL_law_961 (by decide) (fun c227 => absurd c227 (by decide)) (fun c227 => ?_)
          refine lv_iconst (v := 0) hx hb dL_law_964 (by decide) ?_
          exact (by first | contradiction | (simp_all; done) | grind : False).elim
      · refine lv_istore (lv' := [(5, .int 1), (4, .int 0), (3, .ref q39), (2, .ref q13), (1, .ref q1), (0, .ref b)]) hx hb dL_law_941 hl (by decide) rfl (fun ls hl => ?_)
        refine lv_aload_n hx hb dL_law_943 rfl (lv_at hl 3 rfl) ?_
        refine lv_aload_n hx hb dL_law_944 rfl (lv_at hl 5 rfl) ?_
        refine lv_iload hx hb dL_law_945 (lv_at hl 1 rfl) ?_
        refine lv_iconst (v := 1) hx hb dL_law_947 (by decide) ?_
        refine lv_iadd hx hb dL_law_948 ?_
        refine W.eq (g2 := F0 m 949 ls [.int 1, .ref b, .ref q13]) rfl ?_
        refine va_sld hx hb hX hbl hbA hS (vp_in_nI (n := 1) (by decide) (by decide)) dL_law_949 ?_
        refine W.eq (g2 := F0 m 950 ls [.int (xs 1), .ref q13]) rfl ?_
        have hPc := hP.sub (ws' := [(q13, .inr (3, [.int 0, .int 0, .ref wi_15, .ref co_16, .ref sl_17, .ref rn_18, .ref so_19, .ref bn_20, .ref sm_21, .ref ah_22])), (sm_21, .inr (2, [.int 0, .ref gr_23, .ref gt_24, .ref gw_25, .ref gk_26, .ref gi_27, .ref gp_28, .ref go_29, .ref gg_30, .ref q13]))]) [3, 4] rfl
        have hKc := hK.sub (tys' := []) [] rfl
        have hDc := hD.sub (ws' := [(q13, .inr (3, [.int 0, .int 0, .ref wi_15, .ref co_16, .ref sl_17, .ref rn_18, .ref so_19, .ref bn_20, .ref sm_21, .ref ah_22])), (sm_21, .inr (2, [.int 0, .ref gr_23, .ref gt_24, .ref gw_25, .ref gk_26, .ref gi_27, .ref gp_28, .ref go_29, .ref gg_30, .ref q13]))]) [3, 4] (by decide) rfl
        have hFc := va_free (wc := [(q13, .inr (3, [.int 0, .int 0, .ref wi_15, .ref co_16, .ref sl_17, .ref rn_18, .ref so_19, .ref bn_20, .ref sm_21, .ref ah_22])), (sm_21, .inr (2, [.int 0, .ref gr_23, .ref gt_24, .ref gw_25, .ref gk_26, .ref gi_27, .ref gp_28, .ref go_29, .ref gg_30, .ref q13]))]) hD hS hA [3, 4] rfl
        refine va_calli (va_runV (As := [.int (xs 1)]) (rest := []) ⟨hx, hb, hml, hown, hts⟩ (k3_pass l dC dI H.size q13 wi_15 co_16 sl_17 rn_18 so_19 bn_20 sm_21 ah_22 0 gr_23 gt_24 gw_25 gk_26 gi_27 gp_28 go_29 gg_30 q13 (xs 1) ) (cwV 1 hts gL_law_X3_pass rfl rfl rfl (by decide +kernel) ⟨Nat.le_of_ble_eq_true rfl, Nat.le_of_ble_eq_true rfl⟩) ⟨fun a U g mk q => by obtain ⟨q0, q1, qP, qK, qD, qN⟩ := q; exact ⟨q0, q1, qP, va_K.moved (u := U) (U := U.calling g mk a) (Vm.Alike.refl U.vm) qK, qD, zNs.calling qN⟩, va_recv hKc hPc (ci := 3) (q0 := 0) rfl rfl, fun U hU hW => ⟨rfl, by rw [hU], by rw [hU]; exact hPc, va_K.moved hW.alike hKc, hDc.weaken (fun _ _ _ _ => trivial), zNs.warm hW hZN⟩⟩ rfl rfl hl.1 rfl (lv_room (Nat.le_of_ble_eq_true rfl)) dL_law_950 ⟨Nat.le_of_ble_eq_true rfl, Nat.le_of_ble_eq_true rfl⟩) hS (fun q _ h => hFc q h) hFc (fun r228 u t H1 locs ht hvm hr228 hB hz1 hk1 hS => ?_)
        obtain ⟨th_229, rf_230⟩ := u
        obtain ⟨hP1, hK1, hD1⟩ := hB
        rw [ht] at hP1
        have hK1 := va_K.moved hvm.symm hK1
        try dsimp only at hr228
        obtain ⟨hP, hD⟩ := va_join (wr := [(ba_4, .inl (cB_9, 3, .inl (fun _ => 0))), (ra_5, .inl (cA_10, 12, .inl fr_12)), (su_6, .inl (cS_11, 12, .inl (fun _ => 0))), (wi_15, .inl (d_31, 6, .inl (fun _ => 0))), (co_16, .inl (d_32, 6, .inl (fun _ => 0))), (sl_17, .inl (d_33, 6, .inl (fun _ => 0))), (gr_23, .inl (d_34, 6, .inl (fun _ => 0))), (bn_20, .inl (d_35, 3, .inl (fun _ => 0))), (rn_18, .inl (d_36, 12, .inl fn_38)), (so_19, .inl (d_37, 12, .inl (fun _ => 0))), (q39, .inl (cA40, 1, .inr (.inl fo_215)))]) (w1 := [(q13, .inr (3, [.int th_229, .int rf_230, .ref wi_15, .ref co_16, .ref sl_17, .ref rn_18, .ref so_19, .ref bn_20, .ref sm_21, .ref ah_22]))]) hP hD [3, 4] [0, 1, 2, 5, 6, 7, 8, 9, 10, 11, 12] rfl rfl (by decide) (by decide) hk1 hFc hP1 hD1
        generalize H1 = H at hP hS ⊢
        have hP : va_P (dC, dI) vwCl [(ba_4, .inl (cB_9, 3, .inl (fun _ => 0))), (ra_5, .inl (cA_10, 12, .inl fr_12)), (su_6, .inl (cS_11, 12, .inl (fun _ => 0))), (wi_15, .inl (d_31, 6, .inl (fun _ => 0))), (co_16, .inl (d_32, 6, .inl (fun _ => 0))), (sl_17, .inl (d_33, 6, .inl (fun _ => 0))), (gr_23, .inl (d_34, 6, .inl (fun _ => 0))), (bn_20, .inl (d_35, 3, .inl (fun _ => 0))), (rn_18, .inl (d_36, 12, .inl fn_38)), (so_19, .inl (d_37, 12, .inl (fun _ => 0))), (q39, .inl (cA40, 1, .inr (.inl fo_215))), (q13, .inr (3, [.int th_229, .int rf_230, .ref wi_15, .ref co_16, .ref sl_17, .ref rn_18, .ref so_19, .ref bn_20, .ref sm_21, .ref ah_22]))] H := hP
        have hD : va_D A [(ba_4, .inl (cB_9, 3, .inl (fun _ => 0))), (ra_5, .inl (cA_10, 12, .inl fr_12)), (su_6, .inl (cS_11, 12, .inl (fun _ => 0))), (wi_15, .inl (d_31, 6, .inl (fun _ => 0))), (co_16, .inl (d_32, 6, .inl (fun _ => 0))), (sl_17, .inl (d_33, 6, .inl (fun _ => 0))), (gr_23, .inl (d_34, 6, .inl (fun _ => 0))), (bn_20, .inl (d_35, 3, .inl (fun _ => 0))), (rn_18, .inl (d_36, 12, .inl fn_38)), (so_19, .inl (d_37, 12, .inl (fun _ => 0))), (q39, .inl (cA40, 1, .inr (.inl fo_215))), (q13, .inr (3, [.int th_229, .int rf_230, .ref wi_15, .ref co_16, .ref sl_17, .ref rn_18, .ref so_19, .ref bn_20, .ref sm_21, .ref ah_22]))] := hD
        rcases hr228 with ⟨rfl, rfl, fr228_0_1⟩ | ⟨rfl, rfl, fr228_1_1⟩
        · refine lv_istore (lv' := [(6, .int 0), (5, .int 1), (4, .int 0), (3, .ref q39), (2, .ref q13), (1, .ref q1), (0, .ref b)]) hx hb dL_law_953 hl (by decide) rfl (fun ls hl => ?_)
          refine lv_aload_n hx hb dL_law_955 rfl (lv_at hl 4 rfl) ?_
          have hPc := hP.sub (ws' := [(q13, .inr (3, [.int 0, .int rf_230, .ref wi_15, .ref co_16, .ref sl_17, .ref rn_18, .ref so_19, .ref bn_20, .ref sm_21, .ref ah_22]))]) [11] rfl
          have hKc := hK.sub (tys' := []) [] rfl
          refine vp_callSi (va_runV (As := []) (rest := []) ⟨hx, hb, hml, hown, hts⟩ (k3_thrown l dC dI q13 wi_15 co_16 sl_17 rn_18 so_19 bn_20 sm_21 ah_22 0 rf_230 ) (cwV 0 hts gL_law_X3_thrown rfl rfl rfl (by decide +kernel) ⟨Nat.le_of_ble_eq_true rfl, Nat.le_of_ble_eq_true rfl⟩) ⟨fun a U g mk q => by obtain ⟨q0, qP, qK⟩ := q; exact ⟨q0, qP, va_K.moved (u := U) (U := U.calling g mk a) (Vm.Alike.refl U.vm) qK⟩, va_recv hKc hPc (ci := 3) (q0 := 0) rfl rfl, fun U hU hW => ⟨rfl, by rw [hU]; exact hPc, va_K.moved hW.alike hKc⟩⟩ rfl rfl hl.1 rfl (lv_room (Nat.le_of_ble_eq_true rfl)) dL_law_956 ⟨Nat.le_of_ble_eq_true rfl, Nat.le_of_ble_eq_true rfl⟩).run (fun r231 hr231 => ?_)
          obtain rfl := hr231
          refine lv_iload hx hb dL_law_959 (lv_at hl 1 rfl) ?_
          refine lv_icmp_eq (tgt := 966) hx hb dL_law_961 (by decide) (fun c232 => absurd c232 (by decide)) (fun c232 => ?_)
          refine lv_iconst (v := 0) hx hb dL_law_964 (by decide) ?_
          exact (by first | contradiction | (simp_all; done) | grind : False).elim
        · refine lv_istore (lv' := [(6, .int 0), (5, .int 1), (4, .int 0), (3, .ref q39), (2, .ref q13), (1, .ref q1), (0, .ref b)]) hx hb dL_law_953 hl (by decide) rfl (fun ls hl => ?_)
          refine lv_aload_n hx hb dL_law_955 rfl (lv_at hl 4 rfl) ?_
          have hPc := hP.sub (ws' := [(q13, .inr (3, [.int 1, .int rf_230, .ref wi_15, .ref co_16, .ref sl_17, .ref rn_18, .ref so_19, .ref bn_20, .ref sm_21, .ref ah_22]))]) [11] rfl
          have hKc := hK.sub (tys' := []) [] rfl
          refine vp_callSi (va_runV (As := []) (rest := []) ⟨hx, hb, hml, hown, hts⟩ (k3_thrown l dC dI q13 wi_15 co_16 sl_17 rn_18 so_19 bn_20 sm_21 ah_22 1 rf_230 ) (cwV 0 hts gL_law_X3_thrown rfl rfl rfl (by decide +kernel) ⟨Nat.le_of_ble_eq_true rfl, Nat.le_of_ble_eq_true rfl⟩) ⟨fun a U g mk q => by obtain ⟨q0, qP, qK⟩ := q; exact ⟨q0, qP, va_K.moved (u := U) (U := U.calling g mk a) (Vm.Alike.refl U.vm) qK⟩, va_recv hKc hPc (ci := 3) (q0 := 0) rfl rfl, fun U hU hW => ⟨rfl, by rw [hU]; exact hPc, va_K.moved hW.alike hKc⟩⟩ rfl rfl hl.1 rfl (lv_room (Nat.le_of_ble_eq_true rfl)) dL_law_956 ⟨Nat.le_of_ble_eq_true rfl, Nat.le_of_ble_eq_true rfl⟩).run (fun r233 hr233 => ?_)
          obtain rfl := hr233
          refine lv_iload hx hb dL_law_959 (lv_at hl 1 rfl) ?_
          refine lv_icmp_eq (tgt := 966) hx hb dL_law_961 (by decide) (fun c234 => ?_) (fun c234 => absurd c234 (by decide))
          refine lv_iload hx hb dL_law_966 (lv_at hl 1 rfl) ?_
          refine lv_if_ne (tgt := 983) hx hb dL_law_968 (by decide) (fun c235 => ?_) (fun c235 => absurd c235 (by decide))
          refine lv_goto (tgt := 1381) hx hb dL_law_983 (by decide) ?_
          refine lv_iinc (v := 7) (lv' := [(4, .int 7), (6, .int 0), (5, .int 1), (3, .ref q39), (2, .ref q13), (1, .ref q1), (0, .ref b)]) hx hb dL_law_1381 hl (k := 2) rfl (by decide) (by decide) rfl (fun ls hl => ?_)
          refine lv_goto (tgt := 23) hx hb dL_law_1384 (by decide) ?_
          refine lv_iload hx hb dL_law_23 (lv_at hl 0 rfl) ?_
          refine lv_aload_n hx hb dL_law_25 rfl (lv_at hl 6 rfl) ?_
          refine va_slen hx hb hX hbl hbA hS dL_law_26 ?_
          refine W.eq (g2 := F0 m 27 ls [.int 7, .int 7]) rfl ?_
          refine lv_bipush (v := 7) hx hb dL_law_27 (by decide) ?_
          refine lv_isub hx hb dL_law_29 ?_
          refine W.eq (g2 := F0 m 30 ls [.int 0, .int 7]) rfl ?_
          refine lv_icmp_gt (tgt := 1387) hx hb dL_law_30 (by decide) (fun c236 => ?_) (fun c236 => absurd c236 (by decide))
          refine lv_iconst (v := 1) hx hb dL_law_1387 (by decide) ?_
          refine va_forget (fun q hq => hAs _ (hS.2.2 q hq)) ?_
          refine W.widen (k := 600002) (n := 7302232) (Nat.le_of_ble_eq_true rfl) (Nat.le_of_ble_eq_true rfl) ?_
          exact lw_ret (d0 := s.drawn) (Drawn.sameBut.refl s.drawn lw_cs) hx hb hr hlocks dL_law_1388
    · rw [hje]
      -- case 11
      refine W.eq (g2 := F0 m 40 ls [.int 11]) rfl ?_
      refine lv_tableIn (off := 946) (tgt := 986) hx hb dL_law_40 (by decide) (by decide) (by rfl) (by decide) ?_
      refine lv_aload_n hx hb dL_law_986 rfl (lv_at hl 3 rfl) ?_
      refine lv_aload_n hx hb dL_law_987 rfl (lv_at hl 4 rfl) ?_
      refine lv_iload hx hb dL_law_988 (lv_at hl 0 rfl) ?_
      refine lv_iconst (v := 1) hx hb dL_law_990 (by decide) ?_
      refine lv_iadd hx hb dL_law_991 ?_
      refine W.eq (g2 := F0 m 992 ls [.int 1, .ref b, .ref q1]) rfl ?_
      refine va_sld hx hb hX hbl hbA hS (vp_in_nI (n := 1) (by decide) (by decide)) dL_law_992 ?_
      refine W.eq (g2 := F0 m 993 ls [.int (xs 1), .ref q1]) rfl ?_
      refine lv_aload_n hx hb dL_law_993 rfl (lv_at hl 4 rfl) ?_
      refine lv_iload hx hb dL_law_994 (lv_at hl 0 rfl) ?_
      refine lv_iconst (v := 2) hx hb dL_law_996 (by decide) ?_
      refine lv_iadd hx hb dL_law_997 ?_
      refine W.eq (g2 := F0 m 998 ls [.int 2, .ref b, .int (xs 1), .ref q1]) rfl ?_
      refine va_sld hx hb hX hbl hbA hS (vp_in_nI (n := 2) (by decide) (by decide)) dL_law_998 ?_
      refine W.eq (g2 := F0 m 999 ls [.int (xs 2), .int (xs 1), .ref q1]) rfl ?_
      refine lv_aload_n hx hb dL_law_999 rfl (lv_at hl 1 rfl) ?_
      have hPc := hP.sub (ws' := [(q1, .inr (1, [.ref ro_3, .int 0, .ref ba_4, .ref ra_5, .ref su_6, .int 0, .ref tr_7])), (ro_3, .inl (cR_8, 6, .inr (.inr (.inr (.inr (fun _ => none)))))), (q39, .inl (cA40, 1, .inr (.inl (fun _ => 0))))]) [0, 1, 14] rfl
      have hKc := hK.sub (tys' := [(cR_8, .object RX0), (cA40, .long)]) [0, 11] rfl
      have hDc := hD.sub (ws' := [(q1, .inr (1, [.ref ro_3, .int 0, .ref ba_4, .ref ra_5, .ref su_6, .int 0, .ref tr_7])), (ro_3, .inl (cR_8, 6, .inr (.inr (.inr (.inr (fun _ => none)))))), (q39, .inl (cA40, 1, .inr (.inl (fun _ => 0))))]) [0, 1, 14] (by decide) rfl
      have hFc := va_free (wc := [(q1, .inr (1, [.ref ro_3, .int 0, .ref ba_4, .ref ra_5, .ref su_6, .int 0, .ref tr_7])), (ro_3, .inl (cR_8, 6, .inr (.inr (.inr (.inr (fun _ => none)))))), (q39, .inl (cA40, 1, .inr (.inl (fun _ => 0))))]) hD hS hA [0, 1, 14] rfl
      refine va_calli (vx_runSW (As := [.ref q1, .int (xs 1), .int (xs 2), .ref q39]) (rest := []) ⟨hx, hb, hml, hown, hts⟩ (kL_tears l hst dC dI H.size q1 ro_3 ba_4 ra_5 su_6 tr_7 cR_8 q39 cA40 (fun _ => 0) (xs 1) (xs 2) ) (vx_cwSW 4 hts gL_law_L_tears rfl rfl rfl (by decide +kernel) ⟨Nat.le_of_ble_eq_true rfl, Nat.le_of_ble_eq_true rfl⟩) ⟨fun a U g mk q => by obtain ⟨q0, q1, qP, qK, qD, qX, qT⟩ := q; exact ⟨q0, q1, qP, va_K.moved (u := U) (U := U.calling g mk a) (Vm.Alike.refl U.vm) qK, qD, zX.calling qX, zTh.calling qT⟩, fun U hU hW => ⟨rfl, by rw [hU], by rw [hU]; exact hPc, va_K.moved hW.alike hKc, hDc.weaken (fun _ _ _ _ => trivial), zX.warm hW hZX, by rw [hU]; exact zTh.at hW hZT hS hFc⟩⟩ rfl rfl hl.1 rfl (lv_room (Nat.le_of_ble_eq_true rfl)) dL_law_1000 ⟨Nat.le_of_ble_eq_true rfl, Nat.le_of_ble_eq_true rfl⟩) hS (fun q _ h => hFc q h) hFc (fun r237 u t H1 locs ht hvm hr237 hB hz1 hk1 hS => ?_)
      obtain ⟨fo_238, rfl⟩ : ∃ z, z = u := ⟨_, rfl⟩
      obtain ⟨hP1, hK1, hD1⟩ := hB
      rw [ht] at hP1
      have hK1 := va_K.moved hvm.symm hK1
      try dsimp only at hr237
      obtain ⟨hP, hD⟩ := va_join (wr := [(ba_4, .inl (cB_9, 3, .inl (fun _ => 0))), (ra_5, .inl (cA_10, 12, .inl fr_12)), (su_6, .inl (cS_11, 12, .inl (fun _ => 0))), (q13, .inr (3, [.int 0, .int 0, .ref wi_15, .ref co_16, .ref sl_17, .ref rn_18, .ref so_19, .ref bn_20, .ref sm_21, .ref ah_22])), (sm_21, .inr (2, [.int 0, .ref gr_23, .ref gt_24, .ref gw_25, .ref gk_26, .ref gi_27, .ref gp_28, .ref go_29, .ref gg_30, .ref q13])), (wi_15, .inl (d_31, 6, .inl (fun _ => 0))), (co_16, .inl (d_32, 6, .inl (fun _ => 0))), (sl_17, .inl (d_33, 6, .inl (fun _ => 0))), (gr_23, .inl (d_34, 6, .inl (fun _ => 0))), (bn_20, .inl (d_35, 3, .inl (fun _ => 0))), (rn_18, .inl (d_36, 12, .inl fn_38)), (so_19, .inl (d_37, 12, .inl (fun _ => 0)))]) (w1 := [(q39, .inl (cA40, 1, .inr (.inl fo_238)))]) hP hD [0, 1, 14] [2, 3, 4, 5, 6, 7, 8, 9, 10, 11, 12, 13] rfl rfl (by decide) (by decide) hk1 hFc hP1 hD1
      generalize H1 = H at hP hS ⊢
      have hP : va_P (dC, dI) vwCl [(ba_4, .inl (cB_9, 3, .inl (fun _ => 0))), (ra_5, .inl (cA_10, 12, .inl fr_12)), (su_6, .inl (cS_11, 12, .inl (fun _ => 0))), (q13, .inr (3, [.int 0, .int 0, .ref wi_15, .ref co_16, .ref sl_17, .ref rn_18, .ref so_19, .ref bn_20, .ref sm_21, .ref ah_22])), (sm_21, .inr (2, [.int 0, .ref gr_23, .ref gt_24, .ref gw_25, .ref gk_26, .ref gi_27, .ref gp_28, .ref go_29, .ref gg_30, .ref q13])), (wi_15, .inl (d_31, 6, .inl (fun _ => 0))), (co_16, .inl (d_32, 6, .inl (fun _ => 0))), (sl_17, .inl (d_33, 6, .inl (fun _ => 0))), (gr_23, .inl (d_34, 6, .inl (fun _ => 0))), (bn_20, .inl (d_35, 3, .inl (fun _ => 0))), (rn_18, .inl (d_36, 12, .inl fn_38)), (so_19, .inl (d_37, 12, .inl (fun _ => 0))), (q39, .inl (cA40, 1, .inr (.inl fo_238)))] H := hP
      have hD : va_D A [(ba_4, .inl (cB_9, 3, .inl (fun _ => 0))), (ra_5, .inl (cA_10, 12, .inl fr_12)), (su_6, .inl (cS_11, 12, .inl (fun _ => 0))), (q13, .inr (3, [.int 0, .int 0, .ref wi_15, .ref co_16, .ref sl_17, .ref rn_18, .ref so_19, .ref bn_20, .ref sm_21, .ref ah_22])), (sm_21, .inr (2, [.int 0, .ref gr_23, .ref gt_24, .ref gw_25, .ref gk_26, .ref gi_27, .ref gp_28, .ref go_29, .ref gg_30, .ref q13])), (wi_15, .inl (d_31, 6, .inl (fun _ => 0))), (co_16, .inl (d_32, 6, .inl (fun _ => 0))), (sl_17, .inl (d_33, 6, .inl (fun _ => 0))), (gr_23, .inl (d_34, 6, .inl (fun _ => 0))), (bn_20, .inl (d_35, 3, .inl (fun _ => 0))), (rn_18, .inl (d_36, 12, .inl fn_38)), (so_19, .inl (d_37, 12, .inl (fun _ => 0))), (q39, .inl (cA40, 1, .inr (.inl fo_238)))] := hD
      refine W.widen (k := 37) (n := 3408) (Nat.le_of_ble_eq_true rfl) (Nat.le_of_ble_eq_true rfl) ?_
      obtain rfl := hr237
      refine lv_istore (lv' := [(5, .int 1), (4, .int 0), (3, .ref q39), (2, .ref q13), (1, .ref q1), (0, .ref b)]) hx hb dL_law_1003 hl (by decide) rfl (fun ls hl => ?_)
      refine lv_aload_n hx hb dL_law_1005 rfl (lv_at hl 3 rfl) ?_
      refine lv_aload_n hx hb dL_law_1006 rfl (lv_at hl 5 rfl) ?_
      refine lv_iload hx hb dL_law_1007 (lv_at hl 1 rfl) ?_
      refine lv_iconst (v := 1) hx hb dL_law_1009 (by decide) ?_
      refine lv_iadd hx hb dL_law_1010 ?_
      refine W.eq (g2 := F0 m 1011 ls [.int 1, .ref b, .ref q13]) rfl ?_
      refine va_sld hx hb hX hbl hbA hS (vp_in_nI (n := 1) (by decide) (by decide)) dL_law_1011 ?_
      refine W.eq (g2 := F0 m 1012 ls [.int (xs 1), .ref q13]) rfl ?_
      refine lv_aload_n hx hb dL_law_1012 rfl (lv_at hl 5 rfl) ?_
      refine lv_iload hx hb dL_law_1013 (lv_at hl 1 rfl) ?_
      refine lv_iconst (v := 2) hx hb dL_law_1015 (by decide) ?_
      refine lv_iadd hx hb dL_law_1016 ?_
      refine W.eq (g2 := F0 m 1017 ls [.int 2, .ref b, .int (xs 1), .ref q13]) rfl ?_
      refine va_sld hx hb hX hbl hbA hS (vp_in_nI (n := 2) (by decide) (by decide)) dL_law_1017 ?_
      refine W.eq (g2 := F0 m 1018 ls [.int (xs 2), .int (xs 1), .ref q13]) rfl ?_
      have hPc := hP.sub (ws' := [(q13, .inr (3, [.int 0, .int 0, .ref wi_15, .ref co_16, .ref sl_17, .ref rn_18, .ref so_19, .ref bn_20, .ref sm_21, .ref ah_22]))]) [3] rfl
      have hKc := hK.sub (tys' := []) [] rfl
      have hDc := hD.sub (ws' := [(q13, .inr (3, [.int 0, .int 0, .ref wi_15, .ref co_16, .ref sl_17, .ref rn_18, .ref so_19, .ref bn_20, .ref sm_21, .ref ah_22]))]) [3] (by decide) rfl
      have hFc := va_free (wc := [(q13, .inr (3, [.int 0, .int 0, .ref wi_15, .ref co_16, .ref sl_17, .ref rn_18, .ref so_19, .ref bn_20, .ref sm_21, .ref ah_22]))]) hD hS hA [3] rfl
      refine va_calli (va_runV (As := [.int (xs 1), .int (xs 2)]) (rest := []) ⟨hx, hb, hml, hown, hts⟩ (k3_tears l dC dI H.size q13 wi_15 co_16 sl_17 rn_18 so_19 bn_20 sm_21 ah_22 0 (xs 1) (xs 2) ) (cwV 2 hts gL_law_X3_tears rfl rfl rfl (by decide +kernel) ⟨Nat.le_of_ble_eq_true rfl, Nat.le_of_ble_eq_true rfl⟩) ⟨fun a U g mk q => by obtain ⟨q0, q1, qP, qK, qD⟩ := q; exact ⟨q0, q1, qP, va_K.moved (u := U) (U := U.calling g mk a) (Vm.Alike.refl U.vm) qK, qD⟩, va_recv hKc hPc (ci := 3) (q0 := 0) rfl rfl, fun U hU hW => ⟨rfl, by rw [hU], by rw [hU]; exact hPc, va_K.moved hW.alike hKc, hDc.weaken (fun _ _ _ _ => trivial)⟩⟩ rfl rfl hl.1 rfl (lv_room (Nat.le_of_ble_eq_true rfl)) dL_law_1018 ⟨Nat.le_of_ble_eq_true rfl, Nat.le_of_ble_eq_true rfl⟩) hS (fun q _ h => hFc q h) hFc (fun r239 u t H1 locs ht hvm hr239 hB hz1 hk1 hS => ?_)
      obtain ⟨hP1, hK1, hD1⟩ := hB
      rw [ht] at hP1
      have hK1 := va_K.moved hvm.symm hK1
      try dsimp only at hr239
      obtain ⟨hP, hD⟩ := va_join (wr := [(ba_4, .inl (cB_9, 3, .inl (fun _ => 0))), (ra_5, .inl (cA_10, 12, .inl fr_12)), (su_6, .inl (cS_11, 12, .inl (fun _ => 0))), (sm_21, .inr (2, [.int 0, .ref gr_23, .ref gt_24, .ref gw_25, .ref gk_26, .ref gi_27, .ref gp_28, .ref go_29, .ref gg_30, .ref q13])), (wi_15, .inl (d_31, 6, .inl (fun _ => 0))), (co_16, .inl (d_32, 6, .inl (fun _ => 0))), (sl_17, .inl (d_33, 6, .inl (fun _ => 0))), (gr_23, .inl (d_34, 6, .inl (fun _ => 0))), (bn_20, .inl (d_35, 3, .inl (fun _ => 0))), (rn_18, .inl (d_36, 12, .inl fn_38)), (so_19, .inl (d_37, 12, .inl (fun _ => 0))), (q39, .inl (cA40, 1, .inr (.inl fo_238)))]) (w1 := [(q13, .inr (3, [.int 1, .int 0, .ref wi_15, .ref co_16, .ref sl_17, .ref rn_18, .ref so_19, .ref bn_20, .ref sm_21, .ref ah_22]))]) hP hD [3] [0, 1, 2, 4, 5, 6, 7, 8, 9, 10, 11, 12] rfl rfl (by decide) (by decide) hk1 hFc hP1 hD1
      generalize H1 = H at hP hS ⊢
      have hP : va_P (dC, dI) vwCl [(ba_4, .inl (cB_9, 3, .inl (fun _ => 0))), (ra_5, .inl (cA_10, 12, .inl fr_12)), (su_6, .inl (cS_11, 12, .inl (fun _ => 0))), (sm_21, .inr (2, [.int 0, .ref gr_23, .ref gt_24, .ref gw_25, .ref gk_26, .ref gi_27, .ref gp_28, .ref go_29, .ref gg_30, .ref q13])), (wi_15, .inl (d_31, 6, .inl (fun _ => 0))), (co_16, .inl (d_32, 6, .inl (fun _ => 0))), (sl_17, .inl (d_33, 6, .inl (fun _ => 0))), (gr_23, .inl (d_34, 6, .inl (fun _ => 0))), (bn_20, .inl (d_35, 3, .inl (fun _ => 0))), (rn_18, .inl (d_36, 12, .inl fn_38)), (so_19, .inl (d_37, 12, .inl (fun _ => 0))), (q39, .inl (cA40, 1, .inr (.inl fo_238))), (q13, .inr (3, [.int 1, .int 0, .ref wi_15, .ref co_16, .ref sl_17, .ref rn_18, .ref so_19, .ref bn_20, .ref sm_21, .ref ah_22]))] H := hP
      have hD : va_D A [(ba_4, .inl (cB_9, 3, .inl (fun _ => 0))), (ra_5, .inl (cA_10, 12, .inl fr_12)), (su_6, .inl (cS_11, 12, .inl (fun _ => 0))), (sm_21, .inr (2, [.int 0, .ref gr_23, .ref gt_24, .ref gw_25, .ref gk_26, .ref gi_27, .ref gp_28, .ref go_29, .ref gg_30, .ref q13])), (wi_15, .inl (d_31, 6, .inl (fun _ => 0))), (co_16, .inl (d_32, 6, .inl (fun _ => 0))), (sl_17, .inl (d_33, 6, .inl (fun _ => 0))), (gr_23, .inl (d_34, 6, .inl (fun _ => 0))), (bn_20, .inl (d_35, 3, .inl (fun _ => 0))), (rn_18, .inl (d_36, 12, .inl fn_38)), (so_19, .inl (d_37, 12, .inl (fun _ => 0))), (q39, .inl (cA40, 1, .inr (.inl fo_238))), (q13, .inr (3, [.int 1, .int 0, .ref wi_15, .ref co_16, .ref sl_17, .ref rn_18, .ref so_19, .ref bn_20, .ref sm_21, .ref ah_22]))] := hD
      obtain rfl := hr239
      refine lv_istore (lv' := [(6, .int 0), (5, .int 1), (4, .int 0), (3, .ref q39), (2, .ref q13), (1, .ref q1), (0, .ref b)]) hx hb dL_law_1021 hl (by decide) rfl (fun ls hl => ?_)
      refine lv_aload_n hx hb dL_law_1023 rfl (lv_at hl 4 rfl) ?_
      have hPc := hP.sub (ws' := [(q13, .inr (3, [.int 1, .int 0, .ref wi_15, .ref co_16, .ref sl_17, .ref rn_18, .ref so_19, .ref bn_20, .ref sm_21, .ref ah_22]))]) [12] rfl
      have hKc := hK.sub (tys' := []) [] rfl
      refine vp_callSi (va_runV (As := []) (rest := []) ⟨hx, hb, hml, hown, hts⟩ (k3_thrown l dC dI q13 wi_15 co_16 sl_17 rn_18 so_19 bn_20 sm_21 ah_22 1 0 ) (cwV 0 hts gL_law_X3_thrown rfl rfl rfl (by decide +kernel) ⟨Nat.le_of_ble_eq_true rfl, Nat.le_of_ble_eq_true rfl⟩) ⟨fun a U g mk q => by obtain ⟨q0, qP, qK⟩ := q; exact ⟨q0, qP, va_K.moved (u := U) (U := U.calling g mk a) (Vm.Alike.refl U.vm) qK⟩, va_recv hKc hPc (ci := 3) (q0 := 0) rfl rfl, fun U hU hW => ⟨rfl, by rw [hU]; exact hPc, va_K.moved hW.alike hKc⟩⟩ rfl rfl hl.1 rfl (lv_room (Nat.le_of_ble_eq_true rfl)) dL_law_1024 ⟨Nat.le_of_ble_eq_true rfl, Nat.le_of_ble_eq_true rfl⟩).run (fun r240 hr240 => ?_)
      obtain rfl := hr240
      refine lv_iload hx hb dL_law_1027 (lv_at hl 1 rfl) ?_
      refine lv_icmp_eq (tgt := 1034) hx hb dL_law_1029 (by decide) (fun c241 => ?_) (fun c241 => absurd c241 (by decide))
      refine lv_iload hx hb dL_law_1034 (lv_at hl 1 rfl) ?_
      refine lv_if_ne (tgt := 1051) hx hb dL_law_1036 (by decide) (fun c242 => ?_) (fun c242 => absurd c242 (by decide))
      refine lv_goto (tgt := 1381) hx hb dL_law_1051 (by decide) ?_
      refine lv_iinc (v := 7) (lv' := [(4, .int 7), (6, .int 0), (5, .int 1), (3, .ref q39), (2, .ref q13), (1, .ref q1), (0, .ref b)]) hx hb dL_law_1381 hl (k := 2) rfl (by decide) (by decide) rfl (fun ls hl => ?_)
      refine lv_goto (tgt := 23) hx hb dL_law_1384 (by decide) ?_
      refine lv_iload hx hb dL_law_23 (lv_at hl 0 rfl) ?_
      refine lv_aload_n hx hb dL_law_25 rfl (lv_at hl 6 rfl) ?_
      refine va_slen hx hb hX hbl hbA hS dL_law_26 ?_
      refine W.eq (g2 := F0 m 27 ls [.int 7, .int 7]) rfl ?_
      refine lv_bipush (v := 7) hx hb dL_law_27 (by decide) ?_
      refine lv_isub hx hb dL_law_29 ?_
      refine W.eq (g2 := F0 m 30 ls [.int 0, .int 7]) rfl ?_
      refine lv_icmp_gt (tgt := 1387) hx hb dL_law_30 (by decide) (fun c243 => ?_) (fun c243 => absurd c243 (by decide))
      refine lv_iconst (v := 1) hx hb dL_law_1387 (by decide) ?_
      refine va_forget (fun q hq => hAs _ (hS.2.2 q hq)) ?_
      refine W.widen (k := 600002) (n := 7302232) (Nat.le_of_ble_eq_true rfl) (Nat.le_of_ble_eq_true rfl) ?_
      exact lw_ret (d0 := s.drawn) (Drawn.sameBut.refl s.drawn lw_cs) hx hb hr hlocks dL_law_1388
    · rw [hje]
      -- case 12
      refine W.eq (g2 := F0 m 40 ls [.int 12]) rfl ?_
      refine lv_tableIn (off := 1014) (tgt := 1054) hx hb dL_law_40 (by decide) (by decide) (by rfl) (by decide) ?_
      refine lv_aload_n hx hb dL_law_1054 rfl (lv_at hl 3 rfl) ?_
      refine lv_aload_n hx hb dL_law_1055 rfl (lv_at hl 4 rfl) ?_
      refine lv_iload hx hb dL_law_1056 (lv_at hl 0 rfl) ?_
      refine lv_iconst (v := 1) hx hb dL_law_1058 (by decide) ?_
      refine lv_iadd hx hb dL_law_1059 ?_
      refine W.eq (g2 := F0 m 1060 ls [.int 1, .ref b, .ref q1]) rfl ?_
      refine va_sld hx hb hX hbl hbA hS (vp_in_nI (n := 1) (by decide) (by decide)) dL_law_1060 ?_
      refine W.eq (g2 := F0 m 1061 ls [.int (xs 1), .ref q1]) rfl ?_
      refine lv_aload_n hx hb dL_law_1061 rfl (lv_at hl 1 rfl) ?_
      have hPc := hP.sub (ws' := [(q1, .inr (1, [.ref ro_3, .int 0, .ref ba_4, .ref ra_5, .ref su_6, .int 0, .ref tr_7])), (ro_3, .inl (cR_8, 6, .inr (.inr (.inr (.inr (fun _ => none)))))), (q39, .inl (cA40, 1, .inr (.inl (fun _ => 0))))]) [0, 1, 14] rfl
      have hKc := hK.sub (tys' := [(cR_8, .object RX0), (cA40, .long)]) [0, 11] rfl
      have hDc := hD.sub (ws' := [(q1, .inr (1, [.ref ro_3, .int 0, .ref ba_4, .ref ra_5, .ref su_6, .int 0, .ref tr_7])), (ro_3, .inl (cR_8, 6, .inr (.inr (.inr (.inr (fun _ => none)))))), (q39, .inl (cA40, 1, .inr (.inl (fun _ => 0))))]) [0, 1, 14] (by decide) rfl
      have hFc := va_free (wc := [(q1, .inr (1, [.ref ro_3, .int 0, .ref ba_4, .ref ra_5, .ref su_6, .int 0, .ref tr_7])), (ro_3, .inl (cR_8, 6, .inr (.inr (.inr (.inr (fun _ => none)))))), (q39, .inl (cA40, 1, .inr (.inl (fun _ => 0))))]) hD hS hA [0, 1, 14] rfl
      refine va_calli (vx_runSW (As := [.ref q1, .int (xs 1), .ref q39]) (rest := []) ⟨hx, hb, hml, hown, hts⟩ (kL_holds l hst dC dI H.size q1 ro_3 ba_4 ra_5 su_6 tr_7 cR_8 q39 cA40 (fun _ => 0) (xs 1) ) (vx_cwSW 3 hts gL_law_L_holds rfl rfl rfl (by decide +kernel) ⟨Nat.le_of_ble_eq_true rfl, Nat.le_of_ble_eq_true rfl⟩) ⟨fun a U g mk q => by obtain ⟨q0, q1, qP, qK, qD, qX, qT⟩ := q; exact ⟨q0, q1, qP, va_K.moved (u := U) (U := U.calling g mk a) (Vm.Alike.refl U.vm) qK, qD, zX.calling qX, zTh.calling qT⟩, fun U hU hW => ⟨rfl, by rw [hU], by rw [hU]; exact hPc, va_K.moved hW.alike hKc, hDc.weaken (fun _ _ _ _ => trivial), zX.warm hW hZX, by rw [hU]; exact zTh.at hW hZT hS hFc⟩⟩ rfl rfl hl.1 rfl (lv_room (Nat.le_of_ble_eq_true rfl)) dL_law_1062 ⟨Nat.le_of_ble_eq_true rfl, Nat.le_of_ble_eq_true rfl⟩) hS (fun q _ h => hFc q h) hFc (fun r244 u t H1 locs ht hvm hr244 hB hz1 hk1 hS => ?_)
      obtain ⟨fo_245, rfl⟩ : ∃ z, z = u := ⟨_, rfl⟩
      obtain ⟨hP1, hK1, hD1⟩ := hB
      rw [ht] at hP1
      have hK1 := va_K.moved hvm.symm hK1
      try dsimp only at hr244
      obtain ⟨hP, hD⟩ := va_join (wr := [(ba_4, .inl (cB_9, 3, .inl (fun _ => 0))), (ra_5, .inl (cA_10, 12, .inl fr_12)), (su_6, .inl (cS_11, 12, .inl (fun _ => 0))), (q13, .inr (3, [.int 0, .int 0, .ref wi_15, .ref co_16, .ref sl_17, .ref rn_18, .ref so_19, .ref bn_20, .ref sm_21, .ref ah_22])), (sm_21, .inr (2, [.int 0, .ref gr_23, .ref gt_24, .ref gw_25, .ref gk_26, .ref gi_27, .ref gp_28, .ref go_29, .ref gg_30, .ref q13])), (wi_15, .inl (d_31, 6, .inl (fun _ => 0))), (co_16, .inl (d_32, 6, .inl (fun _ => 0))), (sl_17, .inl (d_33, 6, .inl (fun _ => 0))), (gr_23, .inl (d_34, 6, .inl (fun _ => 0))), (bn_20, .inl (d_35, 3, .inl (fun _ => 0))), (rn_18, .inl (d_36, 12, .inl fn_38)), (so_19, .inl (d_37, 12, .inl (fun _ => 0)))]) (w1 := [(q39, .inl (cA40, 1, .inr (.inl fo_245)))]) hP hD [0, 1, 14] [2, 3, 4, 5, 6, 7, 8, 9, 10, 11, 12, 13] rfl rfl (by decide) (by decide) hk1 hFc hP1 hD1
      generalize H1 = H at hP hS ⊢
      have hP : va_P (dC, dI) vwCl [(ba_4, .inl (cB_9, 3, .inl (fun _ => 0))), (ra_5, .inl (cA_10, 12, .inl fr_12)), (su_6, .inl (cS_11, 12, .inl (fun _ => 0))), (q13, .inr (3, [.int 0, .int 0, .ref wi_15, .ref co_16, .ref sl_17, .ref rn_18, .ref so_19, .ref bn_20, .ref sm_21, .ref ah_22])), (sm_21, .inr (2, [.int 0, .ref gr_23, .ref gt_24, .ref gw_25, .ref gk_26, .ref gi_27, .ref gp_28, .ref go_29, .ref gg_30, .ref q13])), (wi_15, .inl (d_31, 6, .inl (fun _ => 0))), (co_16, .inl (d_32, 6, .inl (fun _ => 0))), (sl_17, .inl (d_33, 6, .inl (fun _ => 0))), (gr_23, .inl (d_34, 6, .inl (fun _ => 0))), (bn_20, .inl (d_35, 3, .inl (fun _ => 0))), (rn_18, .inl (d_36, 12, .inl fn_38)), (so_19, .inl (d_37, 12, .inl (fun _ => 0))), (q39, .inl (cA40, 1, .inr (.inl fo_245)))] H := hP
      have hD : va_D A [(ba_4, .inl (cB_9, 3, .inl (fun _ => 0))), (ra_5, .inl (cA_10, 12, .inl fr_12)), (su_6, .inl (cS_11, 12, .inl (fun _ => 0))), (q13, .inr (3, [.int 0, .int 0, .ref wi_15, .ref co_16, .ref sl_17, .ref rn_18, .ref so_19, .ref bn_20, .ref sm_21, .ref ah_22])), (sm_21, .inr (2, [.int 0, .ref gr_23, .ref gt_24, .ref gw_25, .ref gk_26, .ref gi_27, .ref gp_28, .ref go_29, .ref gg_30, .ref q13])), (wi_15, .inl (d_31, 6, .inl (fun _ => 0))), (co_16, .inl (d_32, 6, .inl (fun _ => 0))), (sl_17, .inl (d_33, 6, .inl (fun _ => 0))), (gr_23, .inl (d_34, 6, .inl (fun _ => 0))), (bn_20, .inl (d_35, 3, .inl (fun _ => 0))), (rn_18, .inl (d_36, 12, .inl fn_38)), (so_19, .inl (d_37, 12, .inl (fun _ => 0))), (q39, .inl (cA40, 1, .inr (.inl fo_245)))] := hD
      refine W.widen (k := 37) (n := 3408) (Nat.le_of_ble_eq_true rfl) (Nat.le_of_ble_eq_true rfl) ?_
      obtain rfl := hr244
      refine lv_istore (lv' := [(5, .int 1), (4, .int 0), (3, .ref q39), (2, .ref q13), (1, .ref q1), (0, .ref b)]) hx hb dL_law_1065 hl (by decide) rfl (fun ls hl => ?_)
      refine lv_aload_n hx hb dL_law_1067 rfl (lv_at hl 3 rfl) ?_
      refine lv_aload_n hx hb dL_law_1068 rfl (lv_at hl 5 rfl) ?_
      refine lv_iload hx hb dL_law_1069 (lv_at hl 1 rfl) ?_
      refine lv_iconst (v := 1) hx hb dL_law_1071 (by decide) ?_
      refine lv_iadd hx hb dL_law_1072 ?_
      refine W.eq (g2 := F0 m 1073 ls [.int 1, .ref b, .ref q13]) rfl ?_
      refine va_sld hx hb hX hbl hbA hS (vp_in_nI (n := 1) (by decide) (by decide)) dL_law_1073 ?_
      refine W.eq (g2 := F0 m 1074 ls [.int (xs 1), .ref q13]) rfl ?_
      have hPc := hP.sub (ws' := [(q13, .inr (3, [.int 0, .int 0, .ref wi_15, .ref co_16, .ref sl_17, .ref rn_18, .ref so_19, .ref bn_20, .ref sm_21, .ref ah_22]))]) [3] rfl
      have hKc := hK.sub (tys' := []) [] rfl
      have hDc := hD.sub (ws' := [(q13, .inr (3, [.int 0, .int 0, .ref wi_15, .ref co_16, .ref sl_17, .ref rn_18, .ref so_19, .ref bn_20, .ref sm_21, .ref ah_22]))]) [3] (by decide) rfl
      have hFc := va_free (wc := [(q13, .inr (3, [.int 0, .int 0, .ref wi_15, .ref co_16, .ref sl_17, .ref rn_18, .ref so_19, .ref bn_20, .ref sm_21, .ref ah_22]))]) hD hS hA [3] rfl
      refine va_calli (va_runV (As := [.int (xs 1)]) (rest := []) ⟨hx, hb, hml, hown, hts⟩ (k3_holds l dC dI H.size q13 wi_15 co_16 sl_17 rn_18 so_19 bn_20 sm_21 ah_22 0 (xs 1) ) (cwV 1 hts gL_law_X3_holds rfl rfl rfl (by decide +kernel) ⟨Nat.le_of_ble_eq_true rfl, Nat.le_of_ble_eq_true rfl⟩) ⟨fun a U g mk q => by obtain ⟨q0, q1, qP, qK, qD⟩ := q; exact ⟨q0, q1, qP, va_K.moved (u := U) (U := U.calling g mk a) (Vm.Alike.refl U.vm) qK, qD⟩, va_recv hKc hPc (ci := 3) (q0 := 0) rfl rfl, fun U hU hW => ⟨rfl, by rw [hU], by rw [hU]; exact hPc, va_K.moved hW.alike hKc, hDc.weaken (fun _ _ _ _ => trivial)⟩⟩ rfl rfl hl.1 rfl (lv_room (Nat.le_of_ble_eq_true rfl)) dL_law_1074 ⟨Nat.le_of_ble_eq_true rfl, Nat.le_of_ble_eq_true rfl⟩) hS (fun q _ h => hFc q h) hFc (fun r246 u t H1 locs ht hvm hr246 hB hz1 hk1 hS => ?_)
      obtain ⟨hP1, hK1, hD1⟩ := hB
      rw [ht] at hP1
      have hK1 := va_K.moved hvm.symm hK1
      try dsimp only at hr246
      obtain ⟨hP, hD⟩ := va_join (wr := [(ba_4, .inl (cB_9, 3, .inl (fun _ => 0))), (ra_5, .inl (cA_10, 12, .inl fr_12)), (su_6, .inl (cS_11, 12, .inl (fun _ => 0))), (sm_21, .inr (2, [.int 0, .ref gr_23, .ref gt_24, .ref gw_25, .ref gk_26, .ref gi_27, .ref gp_28, .ref go_29, .ref gg_30, .ref q13])), (wi_15, .inl (d_31, 6, .inl (fun _ => 0))), (co_16, .inl (d_32, 6, .inl (fun _ => 0))), (sl_17, .inl (d_33, 6, .inl (fun _ => 0))), (gr_23, .inl (d_34, 6, .inl (fun _ => 0))), (bn_20, .inl (d_35, 3, .inl (fun _ => 0))), (rn_18, .inl (d_36, 12, .inl fn_38)), (so_19, .inl (d_37, 12, .inl (fun _ => 0))), (q39, .inl (cA40, 1, .inr (.inl fo_245)))]) (w1 := [(q13, .inr (3, [.int 1, .int 0, .ref wi_15, .ref co_16, .ref sl_17, .ref rn_18, .ref so_19, .ref bn_20, .ref sm_21, .ref ah_22]))]) hP hD [3] [0, 1, 2, 4, 5, 6, 7, 8, 9, 10, 11, 12] rfl rfl (by decide) (by decide) hk1 hFc hP1 hD1
      generalize H1 = H at hP hS ⊢
      have hP : va_P (dC, dI) vwCl [(ba_4, .inl (cB_9, 3, .inl (fun _ => 0))), (ra_5, .inl (cA_10, 12, .inl fr_12)), (su_6, .inl (cS_11, 12, .inl (fun _ => 0))), (sm_21, .inr (2, [.int 0, .ref gr_23, .ref gt_24, .ref gw_25, .ref gk_26, .ref gi_27, .ref gp_28, .ref go_29, .ref gg_30, .ref q13])), (wi_15, .inl (d_31, 6, .inl (fun _ => 0))), (co_16, .inl (d_32, 6, .inl (fun _ => 0))), (sl_17, .inl (d_33, 6, .inl (fun _ => 0))), (gr_23, .inl (d_34, 6, .inl (fun _ => 0))), (bn_20, .inl (d_35, 3, .inl (fun _ => 0))), (rn_18, .inl (d_36, 12, .inl fn_38)), (so_19, .inl (d_37, 12, .inl (fun _ => 0))), (q39, .inl (cA40, 1, .inr (.inl fo_245))), (q13, .inr (3, [.int 1, .int 0, .ref wi_15, .ref co_16, .ref sl_17, .ref rn_18, .ref so_19, .ref bn_20, .ref sm_21, .ref ah_22]))] H := hP
      have hD : va_D A [(ba_4, .inl (cB_9, 3, .inl (fun _ => 0))), (ra_5, .inl (cA_10, 12, .inl fr_12)), (su_6, .inl (cS_11, 12, .inl (fun _ => 0))), (sm_21, .inr (2, [.int 0, .ref gr_23, .ref gt_24, .ref gw_25, .ref gk_26, .ref gi_27, .ref gp_28, .ref go_29, .ref gg_30, .ref q13])), (wi_15, .inl (d_31, 6, .inl (fun _ => 0))), (co_16, .inl (d_32, 6, .inl (fun _ => 0))), (sl_17, .inl (d_33, 6, .inl (fun _ => 0))), (gr_23, .inl (d_34, 6, .inl (fun _ => 0))), (bn_20, .inl (d_35, 3, .inl (fun _ => 0))), (rn_18, .inl (d_36, 12, .inl fn_38)), (so_19, .inl (d_37, 12, .inl (fun _ => 0))), (q39, .inl (cA40, 1, .inr (.inl fo_245))), (q13, .inr (3, [.int 1, .int 0, .ref wi_15, .ref co_16, .ref sl_17, .ref rn_18, .ref so_19, .ref bn_20, .ref sm_21, .ref ah_22]))] := hD
      obtain rfl := hr246
      refine lv_istore (lv' := [(6, .int 0), (5, .int 1), (4, .int 0), (3, .ref q39), (2, .ref q13), (1, .ref q1), (0, .ref b)]) hx hb dL_law_1077 hl (by decide) rfl (fun ls hl => ?_)
      refine lv_aload_n hx hb dL_law_1079 rfl (lv_at hl 4 rfl) ?_
      have hPc := hP.sub (ws' := [(q13, .inr (3, [.int 1, .int 0, .ref wi_15, .ref co_16, .ref sl_17, .ref rn_18, .ref so_19, .ref bn_20, .ref sm_21, .ref ah_22]))]) [12] rfl
      have hKc := hK.sub (tys' := []) [] rfl
      refine vp_callSi (va_runV (As := []) (rest := []) ⟨hx, hb, hml, hown, hts⟩ (k3_thrown l dC dI q13 wi_15 co_16 sl_17 rn_18 so_19 bn_20 sm_21 ah_22 1 0 ) (cwV 0 hts gL_law_X3_thrown rfl rfl rfl (by decide +kernel) ⟨Nat.le_of_ble_eq_true rfl, Nat.le_of_ble_eq_true rfl⟩) ⟨fun a U g mk q => by obtain ⟨q0, qP, qK⟩ := q; exact ⟨q0, qP, va_K.moved (u := U) (U := U.calling g mk a) (Vm.Alike.refl U.vm) qK⟩, va_recv hKc hPc (ci := 3) (q0 := 0) rfl rfl, fun U hU hW => ⟨rfl, by rw [hU]; exact hPc, va_K.moved hW.alike hKc⟩⟩ rfl rfl hl.1 rfl (lv_room (Nat.le_of_ble_eq_true rfl)) dL_law_1080 ⟨Nat.le_of_ble_eq_true rfl, Nat.le_of_ble_eq_true rfl⟩).run (fun r247 hr247 => ?_)
      obtain rfl := hr247
      refine lv_iload hx hb dL_law_1083 (lv_at hl 1 rfl) ?_
      refine lv_icmp_eq (tgt := 1090) hx hb dL_law_1085 (by decide) (fun c248 => ?_) (fun c248 => absurd c248 (by decide))
      refine lv_iload hx hb dL_law_1090 (lv_at hl 1 rfl) ?_
      refine lv_if_ne (tgt := 1107) hx hb dL_law_1092 (by decide) (fun c249 => ?_) (fun c249 => absurd c249 (by decide))
      refine lv_goto (tgt := 1381) hx hb dL_law_1107 (by decide) ?_
      refine lv_iinc (v := 7) (lv' := [(4, .int 7), (6, .int 0), (5, .int 1), (3, .ref q39), (2, .ref q13), (1, .ref q1), (0, .ref b)]) hx hb dL_law_1381 hl (k := 2) rfl (by decide) (by decide) rfl (fun ls hl => ?_)
      refine lv_goto (tgt := 23) hx hb dL_law_1384 (by decide) ?_
      refine lv_iload hx hb dL_law_23 (lv_at hl 0 rfl) ?_
      refine lv_aload_n hx hb dL_law_25 rfl (lv_at hl 6 rfl) ?_
      refine va_slen hx hb hX hbl hbA hS dL_law_26 ?_
      refine W.eq (g2 := F0 m 27 ls [.int 7, .int 7]) rfl ?_
      refine lv_bipush (v := 7) hx hb dL_law_27 (by decide) ?_
      refine lv_isub hx hb dL_law_29 ?_
      refine W.eq (g2 := F0 m 30 ls [.int 0, .int 7]) rfl ?_
      refine lv_icmp_gt (tgt := 1387) hx hb dL_law_30 (by decide) (fun c250 => ?_) (fun c250 => absurd c250 (by decide))
      refine lv_iconst (v := 1) hx hb dL_law_1387 (by decide) ?_
      refine va_forget (fun q hq => hAs _ (hS.2.2 q hq)) ?_
      refine W.widen (k := 600002) (n := 7302232) (Nat.le_of_ble_eq_true rfl) (Nat.le_of_ble_eq_true rfl) ?_
      exact lw_ret (d0 := s.drawn) (Drawn.sameBut.refl s.drawn lw_cs) hx hb hr hlocks dL_law_1388
    · rw [hje]
      -- case 13
      refine W.eq (g2 := F0 m 40 ls [.int 13]) rfl ?_
      refine lv_tableIn (off := 1070) (tgt := 1110) hx hb dL_law_40 (by decide) (by decide) (by rfl) (by decide) ?_
      refine lv_aload_n hx hb dL_law_1110 rfl (lv_at hl 3 rfl) ?_
      refine lv_aload_n hx hb dL_law_1111 rfl (lv_at hl 4 rfl) ?_
      refine lv_iload hx hb dL_law_1112 (lv_at hl 0 rfl) ?_
      refine lv_iconst (v := 1) hx hb dL_law_1114 (by decide) ?_
      refine lv_iadd hx hb dL_law_1115 ?_
      refine W.eq (g2 := F0 m 1116 ls [.int 1, .ref b, .ref q1]) rfl ?_
      refine va_sld hx hb hX hbl hbA hS (vp_in_nI (n := 1) (by decide) (by decide)) dL_law_1116 ?_
      refine W.eq (g2 := F0 m 1117 ls [.int (xs 1), .ref q1]) rfl ?_
      refine lv_aload_n hx hb dL_law_1117 rfl (lv_at hl 4 rfl) ?_
      refine lv_iload hx hb dL_law_1118 (lv_at hl 0 rfl) ?_
      refine lv_iconst (v := 2) hx hb dL_law_1120 (by decide) ?_
      refine lv_iadd hx hb dL_law_1121 ?_
      refine W.eq (g2 := F0 m 1122 ls [.int 2, .ref b, .int (xs 1), .ref q1]) rfl ?_
      refine va_sld hx hb hX hbl hbA hS (vp_in_nI (n := 2) (by decide) (by decide)) dL_law_1122 ?_
      refine W.eq (g2 := F0 m 1123 ls [.int (xs 2), .int (xs 1), .ref q1]) rfl ?_
      refine lv_aload_n hx hb dL_law_1123 rfl (lv_at hl 4 rfl) ?_
      refine lv_iload hx hb dL_law_1124 (lv_at hl 0 rfl) ?_
      refine lv_iconst (v := 3) hx hb dL_law_1126 (by decide) ?_
      refine lv_iadd hx hb dL_law_1127 ?_
      refine W.eq (g2 := F0 m 1128 ls [.int 3, .ref b, .int (xs 2), .int (xs 1), .ref q1]) rfl ?_
      refine va_sld hx hb hX hbl hbA hS (vp_in_nI (n := 3) (by decide) (by decide)) dL_law_1128 ?_
      refine W.eq (g2 := F0 m 1129 ls [.int (xs 3), .int (xs 2), .int (xs 1), .ref q1]) rfl ?_
      refine lv_aload_n hx hb dL_law_1129 rfl (lv_at hl 1 rfl) ?_
      have hPc := hP.sub (ws' := [(q1, .inr (1, [.ref ro_3, .int 0, .ref ba_4, .ref ra_5, .ref su_6, .int 0, .ref tr_7])), (ro_3, .inl (cR_8, 6, .inr (.inr (.inr (.inr (fun _ => none)))))), (q39, .inl (cA40, 1, .inr (.inl (fun _ => 0))))]) [0, 1, 14] rfl
      have hKc := hK.sub (tys' := [(cR_8, .object RX0), (cA40, .long)]) [0, 11] rfl
      have hDc := hD.sub (ws' := [(q1, .inr (1, [.ref ro_3, .int 0, .ref ba_4, .ref ra_5, .ref su_6, .int 0, .ref tr_7])), (ro_3, .inl (cR_8, 6, .inr (.inr (.inr (.inr (fun _ => none)))))), (q39, .inl (cA40, 1, .inr (.inl (fun _ => 0))))]) [0, 1, 14] (by decide) rfl
      have hFc := va_free (wc := [(q1, .inr (1, [.ref ro_3, .int 0, .ref ba_4, .ref ra_5, .ref su_6, .int 0, .ref tr_7])), (ro_3, .inl (cR_8, 6, .inr (.inr (.inr (.inr (fun _ => none)))))), (q39, .inl (cA40, 1, .inr (.inl (fun _ => 0))))]) hD hS hA [0, 1, 14] rfl
      refine va_calli (vx_runSW (As := [.ref q1, .int (xs 1), .int (xs 2), .int (xs 3), .ref q39]) (rest := []) ⟨hx, hb, hml, hown, hts⟩ (kL_foresee l hst dC dI H.size q1 ro_3 ba_4 ra_5 su_6 tr_7 cR_8 q39 cA40 (fun _ => 0) (xs 1) (xs 2) (xs 3) ) (vx_cwSW 5 hts gL_law_L_foresee rfl rfl rfl (by decide +kernel) ⟨Nat.le_of_ble_eq_true rfl, Nat.le_of_ble_eq_true rfl⟩) ⟨fun a U g mk q => by obtain ⟨q0, q1, qP, qK, qD, qX, qT⟩ := q; exact ⟨q0, q1, qP, va_K.moved (u := U) (U := U.calling g mk a) (Vm.Alike.refl U.vm) qK, qD, zX.calling qX, zTh.calling qT⟩, fun U hU hW => ⟨rfl, by rw [hU], by rw [hU]; exact hPc, va_K.moved hW.alike hKc, hDc.weaken (fun _ _ _ _ => trivial), zX.warm hW hZX, by rw [hU]; exact zTh.at hW hZT hS hFc⟩⟩ rfl rfl hl.1 rfl (lv_room (Nat.le_of_ble_eq_true rfl)) dL_law_1130 ⟨Nat.le_of_ble_eq_true rfl, Nat.le_of_ble_eq_true rfl⟩) hS (fun q _ h => hFc q h) hFc (fun r251 u t H1 locs ht hvm hr251 hB hz1 hk1 hS => ?_)
      obtain ⟨fo_252, rfl⟩ : ∃ z, z = u := ⟨_, rfl⟩
      obtain ⟨hP1, hK1, hD1⟩ := hB
      rw [ht] at hP1
      have hK1 := va_K.moved hvm.symm hK1
      try dsimp only at hr251
      obtain ⟨hP, hD⟩ := va_join (wr := [(ba_4, .inl (cB_9, 3, .inl (fun _ => 0))), (ra_5, .inl (cA_10, 12, .inl fr_12)), (su_6, .inl (cS_11, 12, .inl (fun _ => 0))), (q13, .inr (3, [.int 0, .int 0, .ref wi_15, .ref co_16, .ref sl_17, .ref rn_18, .ref so_19, .ref bn_20, .ref sm_21, .ref ah_22])), (sm_21, .inr (2, [.int 0, .ref gr_23, .ref gt_24, .ref gw_25, .ref gk_26, .ref gi_27, .ref gp_28, .ref go_29, .ref gg_30, .ref q13])), (wi_15, .inl (d_31, 6, .inl (fun _ => 0))), (co_16, .inl (d_32, 6, .inl (fun _ => 0))), (sl_17, .inl (d_33, 6, .inl (fun _ => 0))), (gr_23, .inl (d_34, 6, .inl (fun _ => 0))), (bn_20, .inl (d_35, 3, .inl (fun _ => 0))), (rn_18, .inl (d_36, 12, .inl fn_38)), (so_19, .inl (d_37, 12, .inl (fun _ => 0)))]) (w1 := [(q39, .inl (cA40, 1, .inr (.inl fo_252)))]) hP hD [0, 1, 14] [2, 3, 4, 5, 6, 7, 8, 9, 10, 11, 12, 13] rfl rfl (by decide) (by decide) hk1 hFc hP1 hD1
      generalize H1 = H at hP hS ⊢
      have hP : va_P (dC, dI) vwCl [(ba_4, .inl (cB_9, 3, .inl (fun _ => 0))), (ra_5, .inl (cA_10, 12, .inl fr_12)), (su_6, .inl (cS_11, 12, .inl (fun _ => 0))), (q13, .inr (3, [.int 0, .int 0, .ref wi_15, .ref co_16, .ref sl_17, .ref rn_18, .ref so_19, .ref bn_20, .ref sm_21, .ref ah_22])), (sm_21, .inr (2, [.int 0, .ref gr_23, .ref gt_24, .ref gw_25, .ref gk_26, .ref gi_27, .ref gp_28, .ref go_29, .ref gg_30, .ref q13])), (wi_15, .inl (d_31, 6, .inl (fun _ => 0))), (co_16, .inl (d_32, 6, .inl (fun _ => 0))), (sl_17, .inl (d_33, 6, .inl (fun _ => 0))), (gr_23, .inl (d_34, 6, .inl (fun _ => 0))), (bn_20, .inl (d_35, 3, .inl (fun _ => 0))), (rn_18, .inl (d_36, 12, .inl fn_38)), (so_19, .inl (d_37, 12, .inl (fun _ => 0))), (q39, .inl (cA40, 1, .inr (.inl fo_252)))] H := hP
      have hD : va_D A [(ba_4, .inl (cB_9, 3, .inl (fun _ => 0))), (ra_5, .inl (cA_10, 12, .inl fr_12)), (su_6, .inl (cS_11, 12, .inl (fun _ => 0))), (q13, .inr (3, [.int 0, .int 0, .ref wi_15, .ref co_16, .ref sl_17, .ref rn_18, .ref so_19, .ref bn_20, .ref sm_21, .ref ah_22])), (sm_21, .inr (2, [.int 0, .ref gr_23, .ref gt_24, .ref gw_25, .ref gk_26, .ref gi_27, .ref gp_28, .ref go_29, .ref gg_30, .ref q13])), (wi_15, .inl (d_31, 6, .inl (fun _ => 0))), (co_16, .inl (d_32, 6, .inl (fun _ => 0))), (sl_17, .inl (d_33, 6, .inl (fun _ => 0))), (gr_23, .inl (d_34, 6, .inl (fun _ => 0))), (bn_20, .inl (d_35, 3, .inl (fun _ => 0))), (rn_18, .inl (d_36, 12, .inl fn_38)), (so_19, .inl (d_37, 12, .inl (fun _ => 0))), (q39, .inl (cA40, 1, .inr (.inl fo_252)))] := hD
      refine W.widen (k := 37) (n := 3408) (Nat.le_of_ble_eq_true rfl) (Nat.le_of_ble_eq_true rfl) ?_
      obtain rfl := hr251
      refine lv_istore (lv' := [(5, .int 1), (4, .int 0), (3, .ref q39), (2, .ref q13), (1, .ref q1), (0, .ref b)]) hx hb dL_law_1133 hl (by decide) rfl (fun ls hl => ?_)
      refine lv_aload_n hx hb dL_law_1135 rfl (lv_at hl 3 rfl) ?_
      refine lv_aload_n hx hb dL_law_1136 rfl (lv_at hl 5 rfl) ?_
      refine lv_iload hx hb dL_law_1137 (lv_at hl 1 rfl) ?_
      refine lv_iconst (v := 1) hx hb dL_law_1139 (by decide) ?_
      refine lv_iadd hx hb dL_law_1140 ?_
      refine W.eq (g2 := F0 m 1141 ls [.int 1, .ref b, .ref q13]) rfl ?_
      refine va_sld hx hb hX hbl hbA hS (vp_in_nI (n := 1) (by decide) (by decide)) dL_law_1141 ?_
      refine W.eq (g2 := F0 m 1142 ls [.int (xs 1), .ref q13]) rfl ?_
      refine lv_aload_n hx hb dL_law_1142 rfl (lv_at hl 5 rfl) ?_
      refine lv_iload hx hb dL_law_1143 (lv_at hl 1 rfl) ?_
      refine lv_iconst (v := 2) hx hb dL_law_1145 (by decide) ?_
      refine lv_iadd hx hb dL_law_1146 ?_
      refine W.eq (g2 := F0 m 1147 ls [.int 2, .ref b, .int (xs 1), .ref q13]) rfl ?_
      refine va_sld hx hb hX hbl hbA hS (vp_in_nI (n := 2) (by decide) (by decide)) dL_law_1147 ?_
      refine W.eq (g2 := F0 m 1148 ls [.int (xs 2), .int (xs 1), .ref q13]) rfl ?_
      refine lv_aload_n hx hb dL_law_1148 rfl (lv_at hl 5 rfl) ?_
      refine lv_iload hx hb dL_law_1149 (lv_at hl 1 rfl) ?_
      refine lv_iconst (v := 3) hx hb dL_law_1151 (by decide) ?_
      refine lv_iadd hx hb dL_law_1152 ?_
      refine W.eq (g2 := F0 m 1153 ls [.int 3, .ref b, .int (xs 2), .int (xs 1), .ref q13]) rfl ?_
      refine va_sld hx hb hX hbl hbA hS (vp_in_nI (n := 3) (by decide) (by decide)) dL_law_1153 ?_
      refine W.eq (g2 := F0 m 1154 ls [.int (xs 3), .int (xs 2), .int (xs 1), .ref q13]) rfl ?_
      have hPc := hP.sub (ws' := [(q13, .inr (3, [.int 0, .int 0, .ref wi_15, .ref co_16, .ref sl_17, .ref rn_18, .ref so_19, .ref bn_20, .ref sm_21, .ref ah_22]))]) [3] rfl
      have hKc := hK.sub (tys' := []) [] rfl
      have hDc := hD.sub (ws' := [(q13, .inr (3, [.int 0, .int 0, .ref wi_15, .ref co_16, .ref sl_17, .ref rn_18, .ref so_19, .ref bn_20, .ref sm_21, .ref ah_22]))]) [3] (by decide) rfl
      have hFc := va_free (wc := [(q13, .inr (3, [.int 0, .int 0, .ref wi_15, .ref co_16, .ref sl_17, .ref rn_18, .ref so_19, .ref bn_20, .ref sm_21, .ref ah_22]))]) hD hS hA [3] rfl
      refine va_calli (va_runV (As := [.int (xs 1), .int (xs 2), .int (xs 3)]) (rest := []) ⟨hx, hb, hml, hown, hts⟩ (k3_foresee l dC dI H.size q13 wi_15 co_16 sl_17 rn_18 so_19 bn_20 sm_21 ah_22 0 (xs 1) (xs 2) (xs 3) ) (cwV 3 hts gL_law_X3_foresee rfl rfl rfl (by decide +kernel) ⟨Nat.le_of_ble_eq_true rfl, Nat.le_of_ble_eq_true rfl⟩) ⟨fun a U g mk q => by obtain ⟨q0, q1, qP, qK, qD⟩ := q; exact ⟨q0, q1, qP, va_K.moved (u := U) (U := U.calling g mk a) (Vm.Alike.refl U.vm) qK, qD⟩, va_recv hKc hPc (ci := 3) (q0 := 0) rfl rfl, fun U hU hW => ⟨rfl, by rw [hU], by rw [hU]; exact hPc, va_K.moved hW.alike hKc, hDc.weaken (fun _ _ _ _ => trivial)⟩⟩ rfl rfl hl.1 rfl (lv_room (Nat.le_of_ble_eq_true rfl)) dL_law_1154 ⟨Nat.le_of_ble_eq_true rfl, Nat.le_of_ble_eq_true rfl⟩) hS (fun q _ h => hFc q h) hFc (fun r253 u t H1 locs ht hvm hr253 hB hz1 hk1 hS => ?_)
      obtain ⟨hP1, hK1, hD1⟩ := hB
      rw [ht] at hP1
      have hK1 := va_K.moved hvm.symm hK1
      try dsimp only at hr253
      obtain ⟨hP, hD⟩ := va_join (wr := [(ba_4, .inl (cB_9, 3, .inl (fun _ => 0))), (ra_5, .inl (cA_10, 12, .inl fr_12)), (su_6, .inl (cS_11, 12, .inl (fun _ => 0))), (sm_21, .inr (2, [.int 0, .ref gr_23, .ref gt_24, .ref gw_25, .ref gk_26, .ref gi_27, .ref gp_28, .ref go_29, .ref gg_30, .ref q13])), (wi_15, .inl (d_31, 6, .inl (fun _ => 0))), (co_16, .inl (d_32, 6, .inl (fun _ => 0))), (sl_17, .inl (d_33, 6, .inl (fun _ => 0))), (gr_23, .inl (d_34, 6, .inl (fun _ => 0))), (bn_20, .inl (d_35, 3, .inl (fun _ => 0))), (rn_18, .inl (d_36, 12, .inl fn_38)), (so_19, .inl (d_37, 12, .inl (fun _ => 0))), (q39, .inl (cA40, 1, .inr (.inl fo_252)))]) (w1 := [(q13, .inr (3, [.int 1, .int 0, .ref wi_15, .ref co_16, .ref sl_17, .ref rn_18, .ref so_19, .ref bn_20, .ref sm_21, .ref ah_22]))]) hP hD [3] [0, 1, 2, 4, 5, 6, 7, 8, 9, 10, 11, 12] rfl rfl (by decide) (by decide) hk1 hFc hP1 hD1
      generalize H1 = H at hP hS ⊢
      have hP : va_P (dC, dI) vwCl [(ba_4, .inl (cB_9, 3, .inl (fun _ => 0))), (ra_5, .inl (cA_10, 12, .inl fr_12)), (su_6, .inl (cS_11, 12, .inl (fun _ => 0))), (sm_21, .inr (2, [.int 0, .ref gr_23, .ref gt_24, .ref gw_25, .ref gk_26, .ref gi_27, .ref gp_28, .ref go_29, .ref gg_30, .ref q13])), (wi_15, .inl (d_31, 6, .inl (fun _ => 0))), (co_16, .inl (d_32, 6, .inl (fun _ => 0))), (sl_17, .inl (d_33, 6, .inl (fun _ => 0))), (gr_23, .inl (d_34, 6, .inl (fun _ => 0))), (bn_20, .inl (d_35, 3, .inl (fun _ => 0))), (rn_18, .inl (d_36, 12, .inl fn_38)), (so_19, .inl (d_37, 12, .inl (fun _ => 0))), (q39, .inl (cA40, 1, .inr (.inl fo_252))), (q13, .inr (3, [.int 1, .int 0, .ref wi_15, .ref co_16, .ref sl_17, .ref rn_18, .ref so_19, .ref bn_20, .ref sm_21, .ref ah_22]))] H := hP
      have hD : va_D A [(ba_4, .inl (cB_9, 3, .inl (fun _ => 0))), (ra_5, .inl (cA_10, 12, .inl fr_12)), (su_6, .inl (cS_11, 12, .inl (fun _ => 0))), (sm_21, .inr (2, [.int 0, .ref gr_23, .ref gt_24, .ref gw_25, .ref gk_26, .ref gi_27, .ref gp_28, .ref go_29, .ref gg_30, .ref q13])), (wi_15, .inl (d_31, 6, .inl (fun _ => 0))), (co_16, .inl (d_32, 6, .inl (fun _ => 0))), (sl_17, .inl (d_33, 6, .inl (fun _ => 0))), (gr_23, .inl (d_34, 6, .inl (fun _ => 0))), (bn_20, .inl (d_35, 3, .inl (fun _ => 0))), (rn_18, .inl (d_36, 12, .inl fn_38)), (so_19, .inl (d_37, 12, .inl (fun _ => 0))), (q39, .inl (cA40, 1, .inr (.inl fo_252))), (q13, .inr (3, [.int 1, .int 0, .ref wi_15, .ref co_16, .ref sl_17, .ref rn_18, .ref so_19, .ref bn_20, .ref sm_21, .ref ah_22]))] := hD
      obtain rfl := hr253
      refine lv_istore (lv' := [(6, .int 0), (5, .int 1), (4, .int 0), (3, .ref q39), (2, .ref q13), (1, .ref q1), (0, .ref b)]) hx hb dL_law_1157 hl (by decide) rfl (fun ls hl => ?_)
      refine lv_aload_n hx hb dL_law_1159 rfl (lv_at hl 4 rfl) ?_
      have hPc := hP.sub (ws' := [(q13, .inr (3, [.int 1, .int 0, .ref wi_15, .ref co_16, .ref sl_17, .ref rn_18, .ref so_19, .ref bn_20, .ref sm_21, .ref ah_22]))]) [12] rfl
      have hKc := hK.sub (tys' := []) [] rfl
      refine vp_callSi (va_runV (As := []) (rest := []) ⟨hx, hb, hml, hown, hts⟩ (k3_thrown l dC dI q13 wi_15 co_16 sl_17 rn_18 so_19 bn_20 sm_21 ah_22 1 0 ) (cwV 0 hts gL_law_X3_thrown rfl rfl rfl (by decide +kernel) ⟨Nat.le_of_ble_eq_true rfl, Nat.le_of_ble_eq_true rfl⟩) ⟨fun a U g mk q => by obtain ⟨q0, qP, qK⟩ := q; exact ⟨q0, qP, va_K.moved (u := U) (U := U.calling g mk a) (Vm.Alike.refl U.vm) qK⟩, va_recv hKc hPc (ci := 3) (q0 := 0) rfl rfl, fun U hU hW => ⟨rfl, by rw [hU]; exact hPc, va_K.moved hW.alike hKc⟩⟩ rfl rfl hl.1 rfl (lv_room (Nat.le_of_ble_eq_true rfl)) dL_law_1160 ⟨Nat.le_of_ble_eq_true rfl, Nat.le_of_ble_eq_true rfl⟩).run (fun r254 hr254 => ?_)
      obtain rfl := hr254
      refine lv_iload hx hb dL_law_1163 (lv_at hl 1 rfl) ?_
      refine lv_icmp_eq (tgt := 1170) hx hb dL_law_1165 (by decide) (fun c255 => ?_) (fun c255 => absurd c255 (by decide))
      refine lv_iload hx hb dL_law_1170 (lv_at hl 1 rfl) ?_
      refine lv_if_ne (tgt := 1187) hx hb dL_law_1172 (by decide) (fun c256 => ?_) (fun c256 => absurd c256 (by decide))
      refine lv_goto (tgt := 1381) hx hb dL_law_1187 (by decide) ?_
      refine lv_iinc (v := 7) (lv' := [(4, .int 7), (6, .int 0), (5, .int 1), (3, .ref q39), (2, .ref q13), (1, .ref q1), (0, .ref b)]) hx hb dL_law_1381 hl (k := 2) rfl (by decide) (by decide) rfl (fun ls hl => ?_)
      refine lv_goto (tgt := 23) hx hb dL_law_1384 (by decide) ?_
      refine lv_iload hx hb dL_law_23 (lv_at hl 0 rfl) ?_
      refine lv_aload_n hx hb dL_law_25 rfl (lv_at hl 6 rfl) ?_
      refine va_slen hx hb hX hbl hbA hS dL_law_26 ?_
      refine W.eq (g2 := F0 m 27 ls [.int 7, .int 7]) rfl ?_
      refine lv_bipush (v := 7) hx hb dL_law_27 (by decide) ?_
      refine lv_isub hx hb dL_law_29 ?_
      refine W.eq (g2 := F0 m 30 ls [.int 0, .int 7]) rfl ?_
      refine lv_icmp_gt (tgt := 1387) hx hb dL_law_30 (by decide) (fun c257 => ?_) (fun c257 => absurd c257 (by decide))
      refine lv_iconst (v := 1) hx hb dL_law_1387 (by decide) ?_
      refine va_forget (fun q hq => hAs _ (hS.2.2 q hq)) ?_
      refine W.widen (k := 600002) (n := 7302232) (Nat.le_of_ble_eq_true rfl) (Nat.le_of_ble_eq_true rfl) ?_
      exact lw_ret (d0 := s.drawn) (Drawn.sameBut.refl s.drawn lw_cs) hx hb hr hlocks dL_law_1388
    · rw [hje]
      -- case 14
      refine W.eq (g2 := F0 m 40 ls [.int 14]) rfl ?_
      refine lv_tableIn (off := 1150) (tgt := 1190) hx hb dL_law_40 (by decide) (by decide) (by rfl) (by decide) ?_
      refine lv_aload_n hx hb dL_law_1190 rfl (lv_at hl 3 rfl) ?_
      refine lv_aload_n hx hb dL_law_1191 rfl (lv_at hl 4 rfl) ?_
      refine lv_iload hx hb dL_law_1192 (lv_at hl 0 rfl) ?_
      refine lv_iconst (v := 1) hx hb dL_law_1194 (by decide) ?_
      refine lv_iadd hx hb dL_law_1195 ?_
      refine W.eq (g2 := F0 m 1196 ls [.int 1, .ref b, .ref q1]) rfl ?_
      refine va_sld hx hb hX hbl hbA hS (vp_in_nI (n := 1) (by decide) (by decide)) dL_law_1196 ?_
      refine W.eq (g2 := F0 m 1197 ls [.int (xs 1), .ref q1]) rfl ?_
      refine lv_aload_n hx hb dL_law_1197 rfl (lv_at hl 4 rfl) ?_
      refine lv_iload hx hb dL_law_1198 (lv_at hl 0 rfl) ?_
      refine lv_iconst (v := 2) hx hb dL_law_1200 (by decide) ?_
      refine lv_iadd hx hb dL_law_1201 ?_
      refine W.eq (g2 := F0 m 1202 ls [.int 2, .ref b, .int (xs 1), .ref q1]) rfl ?_
      refine va_sld hx hb hX hbl hbA hS (vp_in_nI (n := 2) (by decide) (by decide)) dL_law_1202 ?_
      refine W.eq (g2 := F0 m 1203 ls [.int (xs 2), .int (xs 1), .ref q1]) rfl ?_
      refine lv_aload_n hx hb dL_law_1203 rfl (lv_at hl 1 rfl) ?_
      have hPc := hP.sub (ws' := [(q1, .inr (1, [.ref ro_3, .int 0, .ref ba_4, .ref ra_5, .ref su_6, .int 0, .ref tr_7])), (ro_3, .inl (cR_8, 6, .inr (.inr (.inr (.inr (fun _ => none)))))), (q39, .inl (cA40, 1, .inr (.inl (fun _ => 0))))]) [0, 1, 14] rfl
      have hKc := hK.sub (tys' := [(cR_8, .object RX0), (cA40, .long)]) [0, 11] rfl
      have hDc := hD.sub (ws' := [(q1, .inr (1, [.ref ro_3, .int 0, .ref ba_4, .ref ra_5, .ref su_6, .int 0, .ref tr_7])), (ro_3, .inl (cR_8, 6, .inr (.inr (.inr (.inr (fun _ => none)))))), (q39, .inl (cA40, 1, .inr (.inl (fun _ => 0))))]) [0, 1, 14] (by decide) rfl
      have hFc := va_free (wc := [(q1, .inr (1, [.ref ro_3, .int 0, .ref ba_4, .ref ra_5, .ref su_6, .int 0, .ref tr_7])), (ro_3, .inl (cR_8, 6, .inr (.inr (.inr (.inr (fun _ => none)))))), (q39, .inl (cA40, 1, .inr (.inl (fun _ => 0))))]) hD hS hA [0, 1, 14] rfl
      refine va_calli (vx_runSW (As := [.ref q1, .int (xs 1), .int (xs 2), .ref q39]) (rest := []) ⟨hx, hb, hml, hown, hts⟩ (kL_advise l hst dC dI H.size q1 ro_3 ba_4 ra_5 su_6 tr_7 cR_8 q39 cA40 (fun _ => 0) (xs 1) (xs 2) ) (vx_cwSW 4 hts gL_law_L_advise rfl rfl rfl (by decide +kernel) ⟨Nat.le_of_ble_eq_true rfl, Nat.le_of_ble_eq_true rfl⟩) ⟨fun a U g mk q => by obtain ⟨q0, q1, qP, qK, qD, qX, qT⟩ := q; exact ⟨q0, q1, qP, va_K.moved (u := U) (U := U.calling g mk a) (Vm.Alike.refl U.vm) qK, qD, zX.calling qX, zTh.calling qT⟩, fun U hU hW => ⟨rfl, by rw [hU], by rw [hU]; exact hPc, va_K.moved hW.alike hKc, hDc.weaken (fun _ _ _ _ => trivial), zX.warm hW hZX, by rw [hU]; exact zTh.at hW hZT hS hFc⟩⟩ rfl rfl hl.1 rfl (lv_room (Nat.le_of_ble_eq_true rfl)) dL_law_1204 ⟨Nat.le_of_ble_eq_true rfl, Nat.le_of_ble_eq_true rfl⟩) hS (fun q _ h => hFc q h) hFc (fun r258 u t H1 locs ht hvm hr258 hB hz1 hk1 hS => ?_)
      obtain ⟨fo_259, rfl⟩ : ∃ z, z = u := ⟨_, rfl⟩
      obtain ⟨hP1, hK1, hD1⟩ := hB
      rw [ht] at hP1
      have hK1 := va_K.moved hvm.symm hK1
      try dsimp only at hr258
      obtain ⟨hP, hD⟩ := va_join (wr := [(ba_4, .inl (cB_9, 3, .inl (fun _ => 0))), (ra_5, .inl (cA_10, 12, .inl fr_12)), (su_6, .inl (cS_11, 12, .inl (fun _ => 0))), (q13, .inr (3, [.int 0, .int 0, .ref wi_15, .ref co_16, .ref sl_17, .ref rn_18, .ref so_19, .ref bn_20, .ref sm_21, .ref ah_22])), (sm_21, .inr (2, [.int 0, .ref gr_23, .ref gt_24, .ref gw_25, .ref gk_26, .ref gi_27, .ref gp_28, .ref go_29, .ref gg_30, .ref q13])), (wi_15, .inl (d_31, 6, .inl (fun _ => 0))), (co_16, .inl (d_32, 6, .inl (fun _ => 0))), (sl_17, .inl (d_33, 6, .inl (fun _ => 0))), (gr_23, .inl (d_34, 6, .inl (fun _ => 0))), (bn_20, .inl (d_35, 3, .inl (fun _ => 0))), (rn_18, .inl (d_36, 12, .inl fn_38)), (so_19, .inl (d_37, 12, .inl (fun _ => 0)))]) (w1 := [(q39, .inl (cA40, 1, .inr (.inl fo_259)))]) hP hD [0, 1, 14] [2, 3, 4, 5, 6, 7, 8, 9, 10, 11, 12, 13] rfl rfl (by decide) (by decide) hk1 hFc hP1 hD1
      generalize H1 = H at hP hS ⊢
      have hP : va_P (dC, dI) vwCl [(ba_4, .inl (cB_9, 3, .inl (fun _ => 0))), (ra_5, .inl (cA_10, 12, .inl fr_12)), (su_6, .inl (cS_11, 12, .inl (fun _ => 0))), (q13, .inr (3, [.int 0, .int 0, .ref wi_15, .ref co_16, .ref sl_17, .ref rn_18, .ref so_19, .ref bn_20, .ref sm_21, .ref ah_22])), (sm_21, .inr (2, [.int 0, .ref gr_23, .ref gt_24, .ref gw_25, .ref gk_26, .ref gi_27, .ref gp_28, .ref go_29, .ref gg_30, .ref q13])), (wi_15, .inl (d_31, 6, .inl (fun _ => 0))), (co_16, .inl (d_32, 6, .inl (fun _ => 0))), (sl_17, .inl (d_33, 6, .inl (fun _ => 0))), (gr_23, .inl (d_34, 6, .inl (fun _ => 0))), (bn_20, .inl (d_35, 3, .inl (fun _ => 0))), (rn_18, .inl (d_36, 12, .inl fn_38)), (so_19, .inl (d_37, 12, .inl (fun _ => 0))), (q39, .inl (cA40, 1, .inr (.inl fo_259)))] H := hP
      have hD : va_D A [(ba_4, .inl (cB_9, 3, .inl (fun _ => 0))), (ra_5, .inl (cA_10, 12, .inl fr_12)), (su_6, .inl (cS_11, 12, .inl (fun _ => 0))), (q13, .inr (3, [.int 0, .int 0, .ref wi_15, .ref co_16, .ref sl_17, .ref rn_18, .ref so_19, .ref bn_20, .ref sm_21, .ref ah_22])), (sm_21, .inr (2, [.int 0, .ref gr_23, .ref gt_24, .ref gw_25, .ref gk_26, .ref gi_27, .ref gp_28, .ref go_29, .ref gg_30, .ref q13])), (wi_15, .inl (d_31, 6, .inl (fun _ => 0))), (co_16, .inl (d_32, 6, .inl (fun _ => 0))), (sl_17, .inl (d_33, 6, .inl (fun _ => 0))), (gr_23, .inl (d_34, 6, .inl (fun _ => 0))), (bn_20, .inl (d_35, 3, .inl (fun _ => 0))), (rn_18, .inl (d_36, 12, .inl fn_38)), (so_19, .inl (d_37, 12, .inl (fun _ => 0))), (q39, .inl (cA40, 1, .inr (.inl fo_259)))] := hD
      refine W.widen (k := 37) (n := 3408) (Nat.le_of_ble_eq_true rfl) (Nat.le_of_ble_eq_true rfl) ?_
      obtain rfl := hr258
      refine lv_istore (lv' := [(5, .int 1), (4, .int 0), (3, .ref q39), (2, .ref q13), (1, .ref q1), (0, .ref b)]) hx hb dL_law_1207 hl (by decide) rfl (fun ls hl => ?_)
      refine lv_aload_n hx hb dL_law_1209 rfl (lv_at hl 3 rfl) ?_
      refine lv_aload_n hx hb dL_law_1210 rfl (lv_at hl 5 rfl) ?_
      refine lv_iload hx hb dL_law_1211 (lv_at hl 1 rfl) ?_
      refine lv_iconst (v := 1) hx hb dL_law_1213 (by decide) ?_
      refine lv_iadd hx hb dL_law_1214 ?_
      refine W.eq (g2 := F0 m 1215 ls [.int 1, .ref b, .ref q13]) rfl ?_
      refine va_sld hx hb hX hbl hbA hS (vp_in_nI (n := 1) (by decide) (by decide)) dL_law_1215 ?_
      refine W.eq (g2 := F0 m 1216 ls [.int (xs 1), .ref q13]) rfl ?_
      refine lv_aload_n hx hb dL_law_1216 rfl (lv_at hl 5 rfl) ?_
      refine lv_iload hx hb dL_law_1217 (lv_at hl 1 rfl) ?_
      refine lv_iconst (v := 2) hx hb dL_law_1219 (by decide) ?_
      refine lv_iadd hx hb dL_law_1220 ?_
      refine W.eq (g2 := F0 m 1221 ls [.int 2, .ref b, .int (xs 1), .ref q13]) rfl ?_
      refine va_sld hx hb hX hbl hbA hS (vp_in_nI (n := 2) (by decide) (by decide)) dL_law_1221 ?_
      refine W.eq (g2 := F0 m 1222 ls [.int (xs 2), .int (xs 1), .ref q13]) rfl ?_
      have hPc := hP.sub (ws' := [(q13, .inr (3, [.int 0, .int 0, .ref wi_15, .ref co_16, .ref sl_17, .ref rn_18, .ref so_19, .ref bn_20, .ref sm_21, .ref ah_22]))]) [3] rfl
      have hKc := hK.sub (tys' := []) [] rfl
      have hDc := hD.sub (ws' := [(q13, .inr (3, [.int 0, .int 0, .ref wi_15, .ref co_16, .ref sl_17, .ref rn_18, .ref so_19, .ref bn_20, .ref sm_21, .ref ah_22]))]) [3] (by decide) rfl
      have hFc := va_free (wc := [(q13, .inr (3, [.int 0, .int 0, .ref wi_15, .ref co_16, .ref sl_17, .ref rn_18, .ref so_19, .ref bn_20, .ref sm_21, .ref ah_22]))]) hD hS hA [3] rfl
      refine va_calli (va_runV (As := [.int (xs 1), .int (xs 2)]) (rest := []) ⟨hx, hb, hml, hown, hts⟩ (k3_advise l dC dI H.size q13 wi_15 co_16 sl_17 rn_18 so_19 bn_20 sm_21 ah_22 0 (xs 1) (xs 2) ) (cwV 2 hts gL_law_X3_advise rfl rfl rfl (by decide +kernel) ⟨Nat.le_of_ble_eq_true rfl, Nat.le_of_ble_eq_true rfl⟩) ⟨fun a U g mk q => by obtain ⟨q0, q1, qP, qK, qD⟩ := q; exact ⟨q0, q1, qP, va_K.moved (u := U) (U := U.calling g mk a) (Vm.Alike.refl U.vm) qK, qD⟩, va_recv hKc hPc (ci := 3) (q0 := 0) rfl rfl, fun U hU hW => ⟨rfl, by rw [hU], by rw [hU]; exact hPc, va_K.moved hW.alike hKc, hDc.weaken (fun _ _ _ _ => trivial)⟩⟩ rfl rfl hl.1 rfl (lv_room (Nat.le_of_ble_eq_true rfl)) dL_law_1222 ⟨Nat.le_of_ble_eq_true rfl, Nat.le_of_ble_eq_true rfl⟩) hS (fun q _ h => hFc q h) hFc (fun r260 u t H1 locs ht hvm hr260 hB hz1 hk1 hS => ?_)
      obtain ⟨hP1, hK1, hD1⟩ := hB
      rw [ht] at hP1
      have hK1 := va_K.moved hvm.symm hK1
      try dsimp only at hr260
      obtain ⟨hP, hD⟩ := va_join (wr := [(ba_4, .inl (cB_9, 3, .inl (fun _ => 0))), (ra_5, .inl (cA_10, 12, .inl fr_12)), (su_6, .inl (cS_11, 12, .inl (fun _ => 0))), (sm_21, .inr (2, [.int 0, .ref gr_23, .ref gt_24, .ref gw_25, .ref gk_26, .ref gi_27, .ref gp_28, .ref go_29, .ref gg_30, .ref q13])), (wi_15, .inl (d_31, 6, .inl (fun _ => 0))), (co_16, .inl (d_32, 6, .inl (fun _ => 0))), (sl_17, .inl (d_33, 6, .inl (fun _ => 0))), (gr_23, .inl (d_34, 6, .inl (fun _ => 0))), (bn_20, .inl (d_35, 3, .inl (fun _ => 0))), (rn_18, .inl (d_36, 12, .inl fn_38)), (so_19, .inl (d_37, 12, .inl (fun _ => 0))), (q39, .inl (cA40, 1, .inr (.inl fo_259)))]) (w1 := [(q13, .inr (3, [.int 1, .int 0, .ref wi_15, .ref co_16, .ref sl_17, .ref rn_18, .ref so_19, .ref bn_20, .ref sm_21, .ref ah_22]))]) hP hD [3] [0, 1, 2, 4, 5, 6, 7, 8, 9, 10, 11, 12] rfl rfl (by decide) (by decide) hk1 hFc hP1 hD1
      generalize H1 = H at hP hS ⊢
      have hP : va_P (dC, dI) vwCl [(ba_4, .inl (cB_9, 3, .inl (fun _ => 0))), (ra_5, .inl (cA_10, 12, .inl fr_12)), (su_6, .inl (cS_11, 12, .inl (fun _ => 0))), (sm_21, .inr (2, [.int 0, .ref gr_23, .ref gt_24, .ref gw_25, .ref gk_26, .ref gi_27, .ref gp_28, .ref go_29, .ref gg_30, .ref q13])), (wi_15, .inl (d_31, 6, .inl (fun _ => 0))), (co_16, .inl (d_32, 6, .inl (fun _ => 0))), (sl_17, .inl (d_33, 6, .inl (fun _ => 0))), (gr_23, .inl (d_34, 6, .inl (fun _ => 0))), (bn_20, .inl (d_35, 3, .inl (fun _ => 0))), (rn_18, .inl (d_36, 12, .inl fn_38)), (so_19, .inl (d_37, 12, .inl (fun _ => 0))), (q39, .inl (cA40, 1, .inr (.inl fo_259))), (q13, .inr (3, [.int 1, .int 0, .ref wi_15, .ref co_16, .ref sl_17, .ref rn_18, .ref so_19, .ref bn_20, .ref sm_21, .ref ah_22]))] H := hP
      have hD : va_D A [(ba_4, .inl (cB_9, 3, .inl (fun _ => 0))), (ra_5, .inl (cA_10, 12, .inl fr_12)), (su_6, .inl (cS_11, 12, .inl (fun _ => 0))), (sm_21, .inr (2, [.int 0, .ref gr_23, .ref gt_24, .ref gw_25, .ref gk_26, .ref gi_27, .ref gp_28, .ref go_29, .ref gg_30, .ref q13])), (wi_15, .inl (d_31, 6, .inl (fun _ => 0))), (co_16, .inl (d_32, 6, .inl (fun _ => 0))), (sl_17, .inl (d_33, 6, .inl (fun _ => 0))), (gr_23, .inl (d_34, 6, .inl (fun _ => 0))), (bn_20, .inl (d_35, 3, .inl (fun _ => 0))), (rn_18, .inl (d_36, 12, .inl fn_38)), (so_19, .inl (d_37, 12, .inl (fun _ => 0))), (q39, .inl (cA40, 1, .inr (.inl fo_259))), (q13, .inr (3, [.int 1, .int 0, .ref wi_15, .ref co_16, .ref sl_17, .ref rn_18, .ref so_19, .ref bn_20, .ref sm_21, .ref ah_22]))] := hD
      obtain rfl := hr260
      refine lv_istore (lv' := [(6, .int 0), (5, .int 1), (4, .int 0), (3, .ref q39), (2, .ref q13), (1, .ref q1), (0, .ref b)]) hx hb dL_law_1225 hl (by decide) rfl (fun ls hl => ?_)
      refine lv_aload_n hx hb dL_law_1227 rfl (lv_at hl 4 rfl) ?_
      have hPc := hP.sub (ws' := [(q13, .inr (3, [.int 1, .int 0, .ref wi_15, .ref co_16, .ref sl_17, .ref rn_18, .ref so_19, .ref bn_20, .ref sm_21, .ref ah_22]))]) [12] rfl
      have hKc := hK.sub (tys' := []) [] rfl
      refine vp_callSi (va_runV (As := []) (rest := []) ⟨hx, hb, hml, hown, hts⟩ (k3_thrown l dC dI q13 wi_15 co_16 sl_17 rn_18 so_19 bn_20 sm_21 ah_22 1 0 ) (cwV 0 hts gL_law_X3_thrown rfl rfl rfl (by decide +kernel) ⟨Nat.le_of_ble_eq_true rfl, Nat.le_of_ble_eq_true rfl⟩) ⟨fun a U g mk q => by obtain ⟨q0, qP, qK⟩ := q; exact ⟨q0, qP, va_K.moved (u := U) (U := U.calling g mk a) (Vm.Alike.refl U.vm) qK⟩, va_recv hKc hPc (ci := 3) (q0 := 0) rfl rfl, fun U hU hW => ⟨rfl, by rw [hU]; exact hPc, va_K.moved hW.alike hKc⟩⟩ rfl rfl hl.1 rfl (lv_room (Nat.le_of_ble_eq_true rfl)) dL_law_1228 ⟨Nat.le_of_ble_eq_true rfl, Nat.le_of_ble_eq_true rfl⟩).run (fun r261 hr261 => ?_)
      obtain rfl := hr261
      refine lv_iload hx hb dL_law_1231 (lv_at hl 1 rfl) ?_
      refine lv_icmp_eq (tgt := 1238) hx hb dL_law_1233 (by decide) (fun c262 => ?_) (fun c262 => absurd c262 (by decide))
      refine lv_iload hx hb dL_law_1238 (lv_at hl 1 rfl) ?_
      refine lv_if_ne (tgt := 1255) hx hb dL_law_1240 (by decide) (fun c263 => ?_) (fun c263 => absurd c263 (by decide))
      refine lv_goto (tgt := 1381) hx hb dL_law_1255 (by decide) ?_
      refine lv_iinc (v := 7) (lv' := [(4, .int 7), (6, .int 0), (5, .int 1), (3, .ref q39), (2, .ref q13), (1, .ref q1), (0, .ref b)]) hx hb dL_law_1381 hl (k := 2) rfl (by decide) (by decide) rfl (fun ls hl => ?_)
      refine lv_goto (tgt := 23) hx hb dL_law_1384 (by decide) ?_
      refine lv_iload hx hb dL_law_23 (lv_at hl 0 rfl) ?_
      refine lv_aload_n hx hb dL_law_25 rfl (lv_at hl 6 rfl) ?_
      refine va_slen hx hb hX hbl hbA hS dL_law_26 ?_
      refine W.eq (g2 := F0 m 27 ls [.int 7, .int 7]) rfl ?_
      refine lv_bipush (v := 7) hx hb dL_law_27 (by decide) ?_
      refine lv_isub hx hb dL_law_29 ?_
      refine W.eq (g2 := F0 m 30 ls [.int 0, .int 7]) rfl ?_
      refine lv_icmp_gt (tgt := 1387) hx hb dL_law_30 (by decide) (fun c264 => ?_) (fun c264 => absurd c264 (by decide))
      refine lv_iconst (v := 1) hx hb dL_law_1387 (by decide) ?_
      refine va_forget (fun q hq => hAs _ (hS.2.2 q hq)) ?_
      refine W.widen (k := 600002) (n := 7302232) (Nat.le_of_ble_eq_true rfl) (Nat.le_of_ble_eq_true rfl) ?_
      exact lw_ret (d0 := s.drawn) (Drawn.sameBut.refl s.drawn lw_cs) hx hb hr hlocks dL_law_1388
    · rw [hje]
      -- case 15
      refine W.eq (g2 := F0 m 40 ls [.int 15]) rfl ?_
      refine lv_tableIn (off := 1218) (tgt := 1258) hx hb dL_law_40 (by decide) (by decide) (by rfl) (by decide) ?_
      refine lv_aload_n hx hb dL_law_1258 rfl (lv_at hl 3 rfl) ?_
      refine lv_aload_n hx hb dL_law_1259 rfl (lv_at hl 4 rfl) ?_
      refine lv_iload hx hb dL_law_1260 (lv_at hl 0 rfl) ?_
      refine lv_iconst (v := 1) hx hb dL_law_1262 (by decide) ?_
      refine lv_iadd hx hb dL_law_1263 ?_
      refine W.eq (g2 := F0 m 1264 ls [.int 1, .ref b, .ref q1]) rfl ?_
      refine va_sld hx hb hX hbl hbA hS (vp_in_nI (n := 1) (by decide) (by decide)) dL_law_1264 ?_
      refine W.eq (g2 := F0 m 1265 ls [.int (xs 1), .ref q1]) rfl ?_
      refine lv_aload_n hx hb dL_law_1265 rfl (lv_at hl 4 rfl) ?_
      refine lv_iload hx hb dL_law_1266 (lv_at hl 0 rfl) ?_
      refine lv_iconst (v := 2) hx hb dL_law_1268 (by decide) ?_
      refine lv_iadd hx hb dL_law_1269 ?_
      refine W.eq (g2 := F0 m 1270 ls [.int 2, .ref b, .int (xs 1), .ref q1]) rfl ?_
      refine va_sld hx hb hX hbl hbA hS (vp_in_nI (n := 2) (by decide) (by decide)) dL_law_1270 ?_
      refine W.eq (g2 := F0 m 1271 ls [.int (xs 2), .int (xs 1), .ref q1]) rfl ?_
      refine lv_aload_n hx hb dL_law_1271 rfl (lv_at hl 1 rfl) ?_
      have hPc := hP.sub (ws' := [(q1, .inr (1, [.ref ro_3, .int 0, .ref ba_4, .ref ra_5, .ref su_6, .int 0, .ref tr_7])), (ro_3, .inl (cR_8, 6, .inr (.inr (.inr (.inr (fun _ => none)))))), (q39, .inl (cA40, 1, .inr (.inl (fun _ => 0))))]) [0, 1, 14] rfl
      have hKc := hK.sub (tys' := [(cR_8, .object RX0), (cA40, .long)]) [0, 11] rfl
      have hDc := hD.sub (ws' := [(q1, .inr (1, [.ref ro_3, .int 0, .ref ba_4, .ref ra_5, .ref su_6, .int 0, .ref tr_7])), (ro_3, .inl (cR_8, 6, .inr (.inr (.inr (.inr (fun _ => none)))))), (q39, .inl (cA40, 1, .inr (.inl (fun _ => 0))))]) [0, 1, 14] (by decide) rfl
      have hFc := va_free (wc := [(q1, .inr (1, [.ref ro_3, .int 0, .ref ba_4, .ref ra_5, .ref su_6, .int 0, .ref tr_7])), (ro_3, .inl (cR_8, 6, .inr (.inr (.inr (.inr (fun _ => none)))))), (q39, .inl (cA40, 1, .inr (.inl (fun _ => 0))))]) hD hS hA [0, 1, 14] rfl
      refine va_calli (vx_runSW (As := [.ref q1, .int (xs 1), .int (xs 2), .ref q39]) (rest := []) ⟨hx, hb, hml, hown, hts⟩ (kL_needs l hst dC dI H.size q1 ro_3 ba_4 ra_5 su_6 tr_7 cR_8 q39 cA40 (fun _ => 0) (xs 1) (xs 2) ) (vx_cwSW 4 hts gL_law_L_needs rfl rfl rfl (by decide +kernel) ⟨Nat.le_of_ble_eq_true rfl, Nat.le_of_ble_eq_true rfl⟩) ⟨fun a U g mk q => by obtain ⟨q0, q1, qP, qK, qD, qX, qT⟩ := q; exact ⟨q0, q1, qP, va_K.moved (u := U) (U := U.calling g mk a) (Vm.Alike.refl U.vm) qK, qD, zX.calling qX, zTh.calling qT⟩, fun U hU hW => ⟨rfl, by rw [hU], by rw [hU]; exact hPc, va_K.moved hW.alike hKc, hDc.weaken (fun _ _ _ _ => trivial), zX.warm hW hZX, by rw [hU]; exact zTh.at hW hZT hS hFc⟩⟩ rfl rfl hl.1 rfl (lv_room (Nat.le_of_ble_eq_true rfl)) dL_law_1272 ⟨Nat.le_of_ble_eq_true rfl, Nat.le_of_ble_eq_true rfl⟩) hS (fun q _ h => hFc q h) hFc (fun r265 u t H1 locs ht hvm hr265 hB hz1 hk1 hS => ?_)
      obtain ⟨fo_266, rfl⟩ : ∃ z, z = u := ⟨_, rfl⟩
      obtain ⟨hP1, hK1, hD1⟩ := hB
      rw [ht] at hP1
      have hK1 := va_K.moved hvm.symm hK1
      try dsimp only at hr265
      obtain ⟨hP, hD⟩ := va_join (wr := [(ba_4, .inl (cB_9, 3, .inl (fun _ => 0))), (ra_5, .inl (cA_10, 12, .inl fr_12)), (su_6, .inl (cS_11, 12, .inl (fun _ => 0))), (q13, .inr (3, [.int 0, .int 0, .ref wi_15, .ref co_16, .ref sl_17, .ref rn_18, .ref so_19, .ref bn_20, .ref sm_21, .ref ah_22])), (sm_21, .inr (2, [.int 0, .ref gr_23, .ref gt_24, .ref gw_25, .ref gk_26, .ref gi_27, .ref gp_28, .ref go_29, .ref gg_30, .ref q13])), (wi_15, .inl (d_31, 6, .inl (fun _ => 0))), (co_16, .inl (d_32, 6, .inl (fun _ => 0))), (sl_17, .inl (d_33, 6, .inl (fun _ => 0))), (gr_23, .inl (d_34, 6, .inl (fun _ => 0))), (bn_20, .inl (d_35, 3, .inl (fun _ => 0))), (rn_18, .inl (d_36, 12, .inl fn_38)), (so_19, .inl (d_37, 12, .inl (fun _ => 0)))]) (w1 := [(q39, .inl (cA40, 1, .inr (.inl fo_266)))]) hP hD [0, 1, 14] [2, 3, 4, 5, 6, 7, 8, 9, 10, 11, 12, 13] rfl rfl (by decide) (by decide) hk1 hFc hP1 hD1
      generalize H1 = H at hP hS ⊢
      have hP : va_P (dC, dI) vwCl [(ba_4, .inl (cB_9, 3, .inl (fun _ => 0))), (ra_5, .inl (cA_10, 12, .inl fr_12)), (su_6, .inl (cS_11, 12, .inl (fun _ => 0))), (q13, .inr (3, [.int 0, .int 0, .ref wi_15, .ref co_16, .ref sl_17, .ref rn_18, .ref so_19, .ref bn_20, .ref sm_21, .ref ah_22])), (sm_21, .inr (2, [.int 0, .ref gr_23, .ref gt_24, .ref gw_25, .ref gk_26, .ref gi_27, .ref gp_28, .ref go_29, .ref gg_30, .ref q13])), (wi_15, .inl (d_31, 6, .inl (fun _ => 0))), (co_16, .inl (d_32, 6, .inl (fun _ => 0))), (sl_17, .inl (d_33, 6, .inl (fun _ => 0))), (gr_23, .inl (d_34, 6, .inl (fun _ => 0))), (bn_20, .inl (d_35, 3, .inl (fun _ => 0))), (rn_18, .inl (d_36, 12, .inl fn_38)), (so_19, .inl (d_37, 12, .inl (fun _ => 0))), (q39, .inl (cA40, 1, .inr (.inl fo_266)))] H := hP
      have hD : va_D A [(ba_4, .inl (cB_9, 3, .inl (fun _ => 0))), (ra_5, .inl (cA_10, 12, .inl fr_12)), (su_6, .inl (cS_11, 12, .inl (fun _ => 0))), (q13, .inr (3, [.int 0, .int 0, .ref wi_15, .ref co_16, .ref sl_17, .ref rn_18, .ref so_19, .ref bn_20, .ref sm_21, .ref ah_22])), (sm_21, .inr (2, [.int 0, .ref gr_23, .ref gt_24, .ref gw_25, .ref gk_26, .ref gi_27, .ref gp_28, .ref go_29, .ref gg_30, .ref q13])), (wi_15, .inl (d_31, 6, .inl (fun _ => 0))), (co_16, .inl (d_32, 6, .inl (fun _ => 0))), (sl_17, .inl (d_33, 6, .inl (fun _ => 0))), (gr_23, .inl (d_34, 6, .inl (fun _ => 0))), (bn_20, .inl (d_35, 3, .inl (fun _ => 0))), (rn_18, .inl (d_36, 12, .inl fn_38)), (so_19, .inl (d_37, 12, .inl (fun _ => 0))), (q39, .inl (cA40, 1, .inr (.inl fo_266)))] := hD
      refine W.widen (k := 37) (n := 3408) (Nat.le_of_ble_eq_true rfl) (Nat.le_of_ble_eq_true rfl) ?_
      obtain rfl := hr265
      refine lv_istore (lv' := [(5, .int 1), (4, .int 0), (3, .ref q39), (2, .ref q13), (1, .ref q1), (0, .ref b)]) hx hb dL_law_1275 hl (by decide) rfl (fun ls hl => ?_)
      refine lv_aload_n hx hb dL_law_1277 rfl (lv_at hl 3 rfl) ?_
      refine lv_aload_n hx hb dL_law_1278 rfl (lv_at hl 5 rfl) ?_
      refine lv_iload hx hb dL_law_1279 (lv_at hl 1 rfl) ?_
      refine lv_iconst (v := 1) hx hb dL_law_1281 (by decide) ?_
      refine lv_iadd hx hb dL_law_1282 ?_
      refine W.eq (g2 := F0 m 1283 ls [.int 1, .ref b, .ref q13]) rfl ?_
      refine va_sld hx hb hX hbl hbA hS (vp_in_nI (n := 1) (by decide) (by decide)) dL_law_1283 ?_
      refine W.eq (g2 := F0 m 1284 ls [.int (xs 1), .ref q13]) rfl ?_
      refine lv_aload_n hx hb dL_law_1284 rfl (lv_at hl 5 rfl) ?_
      refine lv_iload hx hb dL_law_1285 (lv_at hl 1 rfl) ?_
      refine lv_iconst (v := 2) hx hb dL_law_1287 (by decide) ?_
      refine lv_iadd hx hb dL_law_1288 ?_
      refine W.eq (g2 := F0 m 1289 ls [.int 2, .ref b, .int (xs 1), .ref q13]) rfl ?_
      refine va_sld hx hb hX hbl hbA hS (vp_in_nI (n := 2) (by decide) (by decide)) dL_law_1289 ?_
      refine W.eq (g2 := F0 m 1290 ls [.int (xs 2), .int (xs 1), .ref q13]) rfl ?_
      have hPc := hP.sub (ws' := [(q13, .inr (3, [.int 0, .int 0, .ref wi_15, .ref co_16, .ref sl_17, .ref rn_18, .ref so_19, .ref bn_20, .ref sm_21, .ref ah_22]))]) [3] rfl
      have hKc := hK.sub (tys' := []) [] rfl
      have hDc := hD.sub (ws' := [(q13, .inr (3, [.int 0, .int 0, .ref wi_15, .ref co_16, .ref sl_17, .ref rn_18, .ref so_19, .ref bn_20, .ref sm_21, .ref ah_22]))]) [3] (by decide) rfl
      have hFc := va_free (wc := [(q13, .inr (3, [.int 0, .int 0, .ref wi_15, .ref co_16, .ref sl_17, .ref rn_18, .ref so_19, .ref bn_20, .ref sm_21, .ref ah_22]))]) hD hS hA [3] rfl
      refine va_calli (va_runV (As := [.int (xs 1), .int (xs 2)]) (rest := []) ⟨hx, hb, hml, hown, hts⟩ (k3_needs l dC dI H.size q13 wi_15 co_16 sl_17 rn_18 so_19 bn_20 sm_21 ah_22 0 (xs 1) (xs 2) ) (cwV 2 hts gL_law_X3_needs rfl rfl rfl (by decide +kernel) ⟨Nat.le_of_ble_eq_true rfl, Nat.le_of_ble_eq_true rfl⟩) ⟨fun a U g mk q => by obtain ⟨q0, q1, qP, qK, qD⟩ := q; exact ⟨q0, q1, qP, va_K.moved (u := U) (U := U.calling g mk a) (Vm.Alike.refl U.vm) qK, qD⟩, va_recv hKc hPc (ci := 3) (q0 := 0) rfl rfl, fun U hU hW => ⟨rfl, by rw [hU], by rw [hU]; exact hPc, va_K.moved hW.alike hKc, hDc.weaken (fun _ _ _ _ => trivial)⟩⟩ rfl rfl hl.1 rfl (lv_room (Nat.le_of_ble_eq_true rfl)) dL_law_1290 ⟨Nat.le_of_ble_eq_true rfl, Nat.le_of_ble_eq_true rfl⟩) hS (fun q _ h => hFc q h) hFc (fun r267 u t H1 locs ht hvm hr267 hB hz1 hk1 hS => ?_)
      obtain ⟨hP1, hK1, hD1⟩ := hB
      rw [ht] at hP1
      have hK1 := va_K.moved hvm.symm hK1
      try dsimp only at hr267
      obtain ⟨hP, hD⟩ := va_join (wr := [(ba_4, .inl (cB_9, 3, .inl (fun _ => 0))), (ra_5, .inl (cA_10, 12, .inl fr_12)), (su_6, .inl (cS_11, 12, .inl (fun _ => 0))), (sm_21, .inr (2, [.int 0, .ref gr_23, .ref gt_24, .ref gw_25, .ref gk_26, .ref gi_27, .ref gp_28, .ref go_29, .ref gg_30, .ref q13])), (wi_15, .inl (d_31, 6, .inl (fun _ => 0))), (co_16, .inl (d_32, 6, .inl (fun _ => 0))), (sl_17, .inl (d_33, 6, .inl (fun _ => 0))), (gr_23, .inl (d_34, 6, .inl (fun _ => 0))), (bn_20, .inl (d_35, 3, .inl (fun _ => 0))), (rn_18, .inl (d_36, 12, .inl fn_38)), (so_19, .inl (d_37, 12, .inl (fun _ => 0))), (q39, .inl (cA40, 1, .inr (.inl fo_266)))]) (w1 := [(q13, .inr (3, [.int 1, .int 0, .ref wi_15, .ref co_16, .ref sl_17, .ref rn_18, .ref so_19, .ref bn_20, .ref sm_21, .ref ah_22]))]) hP hD [3] [0, 1, 2, 4, 5, 6, 7, 8, 9, 10, 11, 12] rfl rfl (by decide) (by decide) hk1 hFc hP1 hD1
      generalize H1 = H at hP hS ⊢
      have hP : va_P (dC, dI) vwCl [(ba_4, .inl (cB_9, 3, .inl (fun _ => 0))), (ra_5, .inl (cA_10, 12, .inl fr_12)), (su_6, .inl (cS_11, 12, .inl (fun _ => 0))), (sm_21, .inr (2, [.int 0, .ref gr_23, .ref gt_24, .ref gw_25, .ref gk_26, .ref gi_27, .ref gp_28, .ref go_29, .ref gg_30, .ref q13])), (wi_15, .inl (d_31, 6, .inl (fun _ => 0))), (co_16, .inl (d_32, 6, .inl (fun _ => 0))), (sl_17, .inl (d_33, 6, .inl (fun _ => 0))), (gr_23, .inl (d_34, 6, .inl (fun _ => 0))), (bn_20, .inl (d_35, 3, .inl (fun _ => 0))), (rn_18, .inl (d_36, 12, .inl fn_38)), (so_19, .inl (d_37, 12, .inl (fun _ => 0))), (q39, .inl (cA40, 1, .inr (.inl fo_266))), (q13, .inr (3, [.int 1, .int 0, .ref wi_15, .ref co_16, .ref sl_17, .ref rn_18, .ref so_19, .ref bn_20, .ref sm_21, .ref ah_22]))] H := hP
      have hD : va_D A [(ba_4, .inl (cB_9, 3, .inl (fun _ => 0))), (ra_5, .inl (cA_10, 12, .inl fr_12)), (su_6, .inl (cS_11, 12, .inl (fun _ => 0))), (sm_21, .inr (2, [.int 0, .ref gr_23, .ref gt_24, .ref gw_25, .ref gk_26, .ref gi_27, .ref gp_28, .ref go_29, .ref gg_30, .ref q13])), (wi_15, .inl (d_31, 6, .inl (fun _ => 0))), (co_16, .inl (d_32, 6, .inl (fun _ => 0))), (sl_17, .inl (d_33, 6, .inl (fun _ => 0))), (gr_23, .inl (d_34, 6, .inl (fun _ => 0))), (bn_20, .inl (d_35, 3, .inl (fun _ => 0))), (rn_18, .inl (d_36, 12, .inl fn_38)), (so_19, .inl (d_37, 12, .inl (fun _ => 0))), (q39, .inl (cA40, 1, .inr (.inl fo_266))), (q13, .inr (3, [.int 1, .int 0, .ref wi_15, .ref co_16, .ref sl_17, .ref rn_18, .ref so_19, .ref bn_20, .ref sm_21, .ref ah_22]))] := hD
      obtain rfl := hr267
      refine lv_istore (lv' := [(6, .int 0), (5, .int 1), (4, .int 0), (3, .ref q39), (2, .ref q13), (1, .ref q1), (0, .ref b)]) hx hb dL_law_1293 hl (by decide) rfl (fun ls hl => ?_)
      refine lv_aload_n hx hb dL_law_1295 rfl (lv_at hl 4 rfl) ?_
      have hPc := hP.sub (ws' := [(q13, .inr (3, [.int 1, .int 0, .ref wi_15, .ref co_16, .ref sl_17, .ref rn_18, .ref so_19, .ref bn_20, .ref sm_21, .ref ah_22]))]) [12] rfl
      have hKc := hK.sub (tys' := []) [] rfl
      refine vp_callSi (va_runV (As := []) (rest := []) ⟨hx, hb, hml, hown, hts⟩ (k3_thrown l dC dI q13 wi_15 co_16 sl_17 rn_18 so_19 bn_20 sm_21 ah_22 1 0 ) (cwV 0 hts gL_law_X3_thrown rfl rfl rfl (by decide +kernel) ⟨Nat.le_of_ble_eq_true rfl, Nat.le_of_ble_eq_true rfl⟩) ⟨fun a U g mk q => by obtain ⟨q0, qP, qK⟩ := q; exact ⟨q0, qP, va_K.moved (u := U) (U := U.calling g mk a) (Vm.Alike.refl U.vm) qK⟩, va_recv hKc hPc (ci := 3) (q0 := 0) rfl rfl, fun U hU hW => ⟨rfl, by rw [hU]; exact hPc, va_K.moved hW.alike hKc⟩⟩ rfl rfl hl.1 rfl (lv_room (Nat.le_of_ble_eq_true rfl)) dL_law_1296 ⟨Nat.le_of_ble_eq_true rfl, Nat.le_of_ble_eq_true rfl⟩).run (fun r268 hr268 => ?_)
      obtain rfl := hr268
      refine lv_iload hx hb dL_law_1299 (lv_at hl 1 rfl) ?_
      refine lv_icmp_eq (tgt := 1306) hx hb dL_law_1301 (by decide) (fun c269 => ?_) (fun c269 => absurd c269 (by decide))
      refine lv_iload hx hb dL_law_1306 (lv_at hl 1 rfl) ?_
      refine lv_if_ne (tgt := 1323) hx hb dL_law_1308 (by decide) (fun c270 => ?_) (fun c270 => absurd c270 (by decide))
      refine lv_goto (tgt := 1381) hx hb dL_law_1323 (by decide) ?_
      refine lv_iinc (v := 7) (lv' := [(4, .int 7), (6, .int 0), (5, .int 1), (3, .ref q39), (2, .ref q13), (1, .ref q1), (0, .ref b)]) hx hb dL_law_1381 hl (k := 2) rfl (by decide) (by decide) rfl (fun ls hl => ?_)
      refine lv_goto (tgt := 23) hx hb dL_law_1384 (by decide) ?_
      refine lv_iload hx hb dL_law_23 (lv_at hl 0 rfl) ?_
      refine lv_aload_n hx hb dL_law_25 rfl (lv_at hl 6 rfl) ?_
      refine va_slen hx hb hX hbl hbA hS dL_law_26 ?_
      refine W.eq (g2 := F0 m 27 ls [.int 7, .int 7]) rfl ?_
      refine lv_bipush (v := 7) hx hb dL_law_27 (by decide) ?_
      refine lv_isub hx hb dL_law_29 ?_
      refine W.eq (g2 := F0 m 30 ls [.int 0, .int 7]) rfl ?_
      refine lv_icmp_gt (tgt := 1387) hx hb dL_law_30 (by decide) (fun c271 => ?_) (fun c271 => absurd c271 (by decide))
      refine lv_iconst (v := 1) hx hb dL_law_1387 (by decide) ?_
      refine va_forget (fun q hq => hAs _ (hS.2.2 q hq)) ?_
      refine W.widen (k := 600002) (n := 7302232) (Nat.le_of_ble_eq_true rfl) (Nat.le_of_ble_eq_true rfl) ?_
      exact lw_ret (d0 := s.drawn) (Drawn.sameBut.refl s.drawn lw_cs) hx hb hr hlocks dL_law_1388
    · rw [hje]
      -- case 16
      refine W.eq (g2 := F0 m 40 ls [.int 16]) rfl ?_
      refine lv_tableIn (off := 1286) (tgt := 1326) hx hb dL_law_40 (by decide) (by decide) (by rfl) (by decide) ?_
      refine lv_aload_n hx hb dL_law_1326 rfl (lv_at hl 3 rfl) ?_
      have hPc := hP.sub (ws' := [(q1, .inr (1, [.ref ro_3, .int 0, .ref ba_4, .ref ra_5, .ref su_6, .int 0, .ref tr_7])), (ro_3, .inl (cR_8, 6, .inr (.inr (.inr (.inr (fun _ => none))))))]) [0, 1] rfl
      have hKc := hK.sub (tys' := [(cR_8, .object RX0)]) [0] rfl
      refine vp_callSd (va_runV (As := []) (rest := []) ⟨hx, hb, hml, hown, hts⟩ (k1_mean l dC dI q1 ro_3 ba_4 ra_5 su_6 tr_7 cR_8 ) (cwV 0 hts gL_law_X1_mean rfl rfl rfl (by decide +kernel) ⟨Nat.le_of_ble_eq_true rfl, Nat.le_of_ble_eq_true rfl⟩) ⟨fun a U g mk q => by obtain ⟨q0, qP, qK⟩ := q; exact ⟨q0, qP, va_K.moved (u := U) (U := U.calling g mk a) (Vm.Alike.refl U.vm) qK⟩, va_recv hKc hPc (ci := 1) (q0 := 0) rfl rfl, fun U hU hW => ⟨rfl, by rw [hU]; exact hPc, va_K.moved hW.alike hKc⟩⟩ rfl rfl hl.1 rfl (lv_room (Nat.le_of_ble_eq_true rfl)) dL_law_1327 ⟨Nat.le_of_ble_eq_true rfl, Nat.le_of_ble_eq_true rfl⟩).run (fun r272 hr272 => ?_)
      obtain rfl := hr272
      refine lv_dstore (lv' := [(5, .double 0), (4, .int 0), (3, .ref q39), (2, .ref q13), (1, .ref q1), (0, .ref b)]) hx hb dL_law_1330 hl (by decide) rfl (fun ls hl => ?_)
      refine lv_aload_n hx hb dL_law_1332 rfl (lv_at hl 3 rfl) ?_
      have hPc := hP.sub (ws' := [(q13, .inr (3, [.int 0, .int 0, .ref wi_15, .ref co_16, .ref sl_17, .ref rn_18, .ref so_19, .ref bn_20, .ref sm_21, .ref ah_22]))]) [5] rfl
      have hKc := hK.sub (tys' := []) [] rfl
      have hDc := hD.sub (ws' := [(q13, .inr (3, [.int 0, .int 0, .ref wi_15, .ref co_16, .ref sl_17, .ref rn_18, .ref so_19, .ref bn_20, .ref sm_21, .ref ah_22]))]) [5] (by decide) rfl
      have hFc := va_free (wc := [(q13, .inr (3, [.int 0, .int 0, .ref wi_15, .ref co_16, .ref sl_17, .ref rn_18, .ref so_19, .ref bn_20, .ref sm_21, .ref ah_22]))]) hD hS hA [5] rfl
      refine va_calld (va_runV (As := []) (rest := []) ⟨hx, hb, hml, hown, hts⟩ (k3_mean l dC dI H.size q13 wi_15 co_16 sl_17 rn_18 so_19 bn_20 sm_21 ah_22 0 ) (cwV 0 hts gL_law_X3_mean rfl rfl rfl (by decide +kernel) ⟨Nat.le_of_ble_eq_true rfl, Nat.le_of_ble_eq_true rfl⟩) ⟨fun a U g mk q => by obtain ⟨q0, q1, qP, qK, qD⟩ := q; exact ⟨q0, q1, qP, va_K.moved (u := U) (U := U.calling g mk a) (Vm.Alike.refl U.vm) qK, qD⟩, va_recv hKc hPc (ci := 3) (q0 := 0) rfl rfl, fun U hU hW => ⟨rfl, by rw [hU], by rw [hU]; exact hPc, va_K.moved hW.alike hKc, hDc.weaken (fun _ _ _ _ => trivial)⟩⟩ rfl rfl hl.1 rfl (lv_room (Nat.le_of_ble_eq_true rfl)) dL_law_1333 ⟨Nat.le_of_ble_eq_true rfl, Nat.le_of_ble_eq_true rfl⟩) hS (fun q _ h => hFc q h) hFc (fun r273 u t H1 locs ht hvm hr273 hB hz1 hk1 hS => ?_)
      obtain ⟨hP1, hK1, hD1⟩ := hB
      rw [ht] at hP1
      have hK1 := va_K.moved hvm.symm hK1
      try dsimp only at hr273
      obtain ⟨hP, hD⟩ := va_join (wr := [(q1, .inr (1, [.ref ro_3, .int 0, .ref ba_4, .ref ra_5, .ref su_6, .int 0, .ref tr_7])), (ro_3, .inl (cR_8, 6, .inr (.inr (.inr (.inr (fun _ => none)))))), (ba_4, .inl (cB_9, 3, .inl (fun _ => 0))), (ra_5, .inl (cA_10, 12, .inl fr_12)), (su_6, .inl (cS_11, 12, .inl (fun _ => 0))), (sm_21, .inr (2, [.int 0, .ref gr_23, .ref gt_24, .ref gw_25, .ref gk_26, .ref gi_27, .ref gp_28, .ref go_29, .ref gg_30, .ref q13])), (wi_15, .inl (d_31, 6, .inl (fun _ => 0))), (co_16, .inl (d_32, 6, .inl (fun _ => 0))), (sl_17, .inl (d_33, 6, .inl (fun _ => 0))), (gr_23, .inl (d_34, 6, .inl (fun _ => 0))), (bn_20, .inl (d_35, 3, .inl (fun _ => 0))), (rn_18, .inl (d_36, 12, .inl fn_38)), (so_19, .inl (d_37, 12, .inl (fun _ => 0))), (q39, .inl (cA40, 1, .inr (.inl (fun _ => 0))))]) (w1 := [(q13, .inr (3, [.int 0, .int 0, .ref wi_15, .ref co_16, .ref sl_17, .ref rn_18, .ref so_19, .ref bn_20, .ref sm_21, .ref ah_22]))]) hP hD [5] [0, 1, 2, 3, 4, 6, 7, 8, 9, 10, 11, 12, 13, 14] rfl rfl (by decide) (by decide) hk1 hFc hP1 hD1
      generalize H1 = H at hP hS ⊢
      have hP : va_P (dC, dI) vwCl [(q1, .inr (1, [.ref ro_3, .int 0, .ref ba_4, .ref ra_5, .ref su_6, .int 0, .ref tr_7])), (ro_3, .inl (cR_8, 6, .inr (.inr (.inr (.inr (fun _ => none)))))), (ba_4, .inl (cB_9, 3, .inl (fun _ => 0))), (ra_5, .inl (cA_10, 12, .inl fr_12)), (su_6, .inl (cS_11, 12, .inl (fun _ => 0))), (sm_21, .inr (2, [.int 0, .ref gr_23, .ref gt_24, .ref gw_25, .ref gk_26, .ref gi_27, .ref gp_28, .ref go_29, .ref gg_30, .ref q13])), (wi_15, .inl (d_31, 6, .inl (fun _ => 0))), (co_16, .inl (d_32, 6, .inl (fun _ => 0))), (sl_17, .inl (d_33, 6, .inl (fun _ => 0))), (gr_23, .inl (d_34, 6, .inl (fun _ => 0))), (bn_20, .inl (d_35, 3, .inl (fun _ => 0))), (rn_18, .inl (d_36, 12, .inl fn_38)), (so_19, .inl (d_37, 12, .inl (fun _ => 0))), (q39, .inl (cA40, 1, .inr (.inl (fun _ => 0)))), (q13, .inr (3, [.int 0, .int 0, .ref wi_15, .ref co_16, .ref sl_17, .ref rn_18, .ref so_19, .ref bn_20, .ref sm_21, .ref ah_22]))] H := hP
      have hD : va_D A [(q1, .inr (1, [.ref ro_3, .int 0, .ref ba_4, .ref ra_5, .ref su_6, .int 0, .ref tr_7])), (ro_3, .inl (cR_8, 6, .inr (.inr (.inr (.inr (fun _ => none)))))), (ba_4, .inl (cB_9, 3, .inl (fun _ => 0))), (ra_5, .inl (cA_10, 12, .inl fr_12)), (su_6, .inl (cS_11, 12, .inl (fun _ => 0))), (sm_21, .inr (2, [.int 0, .ref gr_23, .ref gt_24, .ref gw_25, .ref gk_26, .ref gi_27, .ref gp_28, .ref go_29, .ref gg_30, .ref q13])), (wi_15, .inl (d_31, 6, .inl (fun _ => 0))), (co_16, .inl (d_32, 6, .inl (fun _ => 0))), (sl_17, .inl (d_33, 6, .inl (fun _ => 0))), (gr_23, .inl (d_34, 6, .inl (fun _ => 0))), (bn_20, .inl (d_35, 3, .inl (fun _ => 0))), (rn_18, .inl (d_36, 12, .inl fn_38)), (so_19, .inl (d_37, 12, .inl (fun _ => 0))), (q39, .inl (cA40, 1, .inr (.inl (fun _ => 0)))), (q13, .inr (3, [.int 0, .int 0, .ref wi_15, .ref co_16, .ref sl_17, .ref rn_18, .ref so_19, .ref bn_20, .ref sm_21, .ref ah_22]))] := hD
      obtain rfl := hr273
      refine lv_dstore (lv' := [(7, .double 0), (5, .double 0), (4, .int 0), (3, .ref q39), (2, .ref q13), (1, .ref q1), (0, .ref b)]) hx hb dL_law_1336 hl (by decide) rfl (fun ls hl => ?_)
      refine lv_dload hx hb dL_law_1338 (lv_at hl 1 rfl) ?_
      refine lv_dload hx hb dL_law_1340 (lv_at hl 0 rfl) ?_
      refine lv_dcmp hx hb dL_law_1342 ?_
      refine W.eq (g2 := F0 m 1343 ls [.int 0]) rfl ?_
      refine lv_if_eq (tgt := 1364) hx hb dL_law_1343 (by decide) (fun c274 => ?_) (fun c274 => absurd c274 (by decide))
      refine lv_goto (tgt := 1381) hx hb dL_law_1364 (by decide) ?_
      refine lv_iinc (v := 7) (lv' := [(4, .int 7), (7, .double 0), (5, .double 0), (3, .ref q39), (2, .ref q13), (1, .ref q1), (0, .ref b)]) hx hb dL_law_1381 hl (k := 2) rfl (by decide) (by decide) rfl (fun ls hl => ?_)
      refine lv_goto (tgt := 23) hx hb dL_law_1384 (by decide) ?_
      refine lv_iload hx hb dL_law_23 (lv_at hl 0 rfl) ?_
      refine lv_aload_n hx hb dL_law_25 rfl (lv_at hl 6 rfl) ?_
      refine va_slen hx hb hX hbl hbA hS dL_law_26 ?_
      refine W.eq (g2 := F0 m 27 ls [.int 7, .int 7]) rfl ?_
      refine lv_bipush (v := 7) hx hb dL_law_27 (by decide) ?_
      refine lv_isub hx hb dL_law_29 ?_
      refine W.eq (g2 := F0 m 30 ls [.int 0, .int 7]) rfl ?_
      refine lv_icmp_gt (tgt := 1387) hx hb dL_law_30 (by decide) (fun c275 => ?_) (fun c275 => absurd c275 (by decide))
      refine lv_iconst (v := 1) hx hb dL_law_1387 (by decide) ?_
      refine va_forget (fun q hq => hAs _ (hS.2.2 q hq)) ?_
      refine W.widen (k := 600002) (n := 7302232) (Nat.le_of_ble_eq_true rfl) (Nat.le_of_ble_eq_true rfl) ?_
      exact lw_ret (d0 := s.drawn) (Drawn.sameBut.refl s.drawn lw_cs) hx hb hr hlocks dL_law_1388
    · rw [hje]
      -- case 17
      refine W.eq (g2 := F0 m 40 ls [.int 17]) rfl ?_
      refine lv_tableIn (off := 1327) (tgt := 1367) hx hb dL_law_40 (by decide) (by decide) (by rfl) (by decide) ?_
      refine lv_aload_n hx hb dL_law_1367 rfl (lv_at hl 3 rfl) ?_
      have hPc := hP.sub (ws' := [(q1, .inr (1, [.ref ro_3, .int 0, .ref ba_4, .ref ra_5, .ref su_6, .int 0, .ref tr_7])), (ro_3, .inl (cR_8, 6, .inr (.inr (.inr (.inr (fun _ => none)))))), (ba_4, .inl (cB_9, 3, .inl (fun _ => 0))), (ra_5, .inl (cA_10, 12, .inl fr_12)), (su_6, .inl (cS_11, 12, .inl (fun _ => 0)))]) [0, 1, 2, 3, 4] rfl
      have hKc := hK.sub (tys' := [(cR_8, .object RX0), (cB_9, .int), (cA_10, .int), (cS_11, .int)]) [0, 1, 2, 3] rfl
      refine vp_callSl (va_runV (As := []) (rest := []) ⟨hx, hb, hml, hown, hts⟩ (k1_digest l dC dI q1 ro_3 ba_4 ra_5 su_6 tr_7 cR_8 cB_9 cA_10 fr_12 cS_11 (by first | assumption | decide | omega)) (cwV 0 hts gL_law_X1_digest rfl rfl rfl (by decide +kernel) ⟨Nat.le_of_ble_eq_true rfl, Nat.le_of_ble_eq_true rfl⟩) ⟨fun a U g mk q => by obtain ⟨q0, qP, qK⟩ := q; exact ⟨q0, qP, va_K.moved (u := U) (U := U.calling g mk a) (Vm.Alike.refl U.vm) qK⟩, va_recv hKc hPc (ci := 1) (q0 := 0) rfl rfl, fun U hU hW => ⟨rfl, by rw [hU]; exact hPc, va_K.moved hW.alike hKc⟩⟩ rfl rfl hl.1 rfl (lv_room (Nat.le_of_ble_eq_true rfl)) dL_law_1368 ⟨Nat.le_of_ble_eq_true rfl, Nat.le_of_ble_eq_true rfl⟩).run (fun r276 hr276 => ?_)
      obtain rfl := hr276
      refine lv_aload_n hx hb dL_law_1371 rfl (lv_at hl 2 rfl) ?_
      have hPc := hP.sub (ws' := [(q13, .inr (3, [.int 0, .int 0, .ref wi_15, .ref co_16, .ref sl_17, .ref rn_18, .ref so_19, .ref bn_20, .ref sm_21, .ref ah_22])), (sm_21, .inr (2, [.int 0, .ref gr_23, .ref gt_24, .ref gw_25, .ref gk_26, .ref gi_27, .ref gp_28, .ref go_29, .ref gg_30, .ref q13])), (bn_20, .inl (d_35, 3, .inl (fun _ => 0))), (rn_18, .inl (d_36, 12, .inl fn_38)), (so_19, .inl (d_37, 12, .inl (fun _ => 0)))]) [5, 6, 11, 12, 13] rfl
      have hKc := hK.sub (tys' := [(d_35, .int), (d_36, .int), (d_37, .int)]) [8, 9, 10] rfl
      have hDc := hD.sub (ws' := [(q13, .inr (3, [.int 0, .int 0, .ref wi_15, .ref co_16, .ref sl_17, .ref rn_18, .ref so_19, .ref bn_20, .ref sm_21, .ref ah_22])), (sm_21, .inr (2, [.int 0, .ref gr_23, .ref gt_24, .ref gw_25, .ref gk_26, .ref gi_27, .ref gp_28, .ref go_29, .ref gg_30, .ref q13])), (bn_20, .inl (d_35, 3, .inl (fun _ => 0))), (rn_18, .inl (d_36, 12, .inl fn_38)), (so_19, .inl (d_37, 12, .inl (fun _ => 0)))]) [5, 6, 11, 12, 13] (by decide) rfl
      have hFc := va_free (wc := [(q13, .inr (3, [.int 0, .int 0, .ref wi_15, .ref co_16, .ref sl_17, .ref rn_18, .ref so_19, .ref bn_20, .ref sm_21, .ref ah_22])), (sm_21, .inr (2, [.int 0, .ref gr_23, .ref gt_24, .ref gw_25, .ref gk_26, .ref gi_27, .ref gp_28, .ref go_29, .ref gg_30, .ref q13])), (bn_20, .inl (d_35, 3, .inl (fun _ => 0))), (rn_18, .inl (d_36, 12, .inl fn_38)), (so_19, .inl (d_37, 12, .inl (fun _ => 0)))]) hD hS hA [5, 6, 11, 12, 13] rfl
      refine va_calll (va_runV (As := []) (rest := [.long (-6060411835929444999)]) ⟨hx, hb, hml, hown, hts⟩ (k3_digest l dC dI H.size q13 wi_15 co_16 sl_17 rn_18 so_19 bn_20 sm_21 ah_22 0 gr_23 gt_24 gw_25 gk_26 gi_27 gp_28 go_29 gg_30 q13 d_35 d_36 d_37 fn_38 (by first | assumption | decide | omega)) (cwV 0 hts gL_law_X3_digest rfl rfl rfl (by decide +kernel) ⟨Nat.le_of_ble_eq_true rfl, Nat.le_of_ble_eq_true rfl⟩) ⟨fun a U g mk q => by obtain ⟨q0, q1, qP, qK, qD, qN⟩ := q; exact ⟨q0, q1, qP, va_K.moved (u := U) (U := U.calling g mk a) (Vm.Alike.refl U.vm) qK, qD, zNs.calling qN⟩, va_recv hKc hPc (ci := 3) (q0 := 0) rfl rfl, fun U hU hW => ⟨rfl, by rw [hU], by rw [hU]; exact hPc, va_K.moved hW.alike hKc, hDc.weaken (fun _ _ _ _ => trivial), zNs.warm hW hZN⟩⟩ rfl rfl hl.1 rfl (lv_room (Nat.le_of_ble_eq_true rfl)) dL_law_1372 ⟨Nat.le_of_ble_eq_true rfl, Nat.le_of_ble_eq_true rfl⟩) hS (fun q _ h => hFc q h) hFc (fun r277 u t H1 locs ht hvm hr277 hB hz1 hk1 hS => ?_)
      obtain ⟨hP1, hK1, hD1⟩ := hB
      rw [ht] at hP1
      have hK1 := va_K.moved hvm.symm hK1
      try dsimp only at hr277
      obtain ⟨hP, hD⟩ := va_join (wr := [(q1, .inr (1, [.ref ro_3, .int 0, .ref ba_4, .ref ra_5, .ref su_6, .int 0, .ref tr_7])), (ro_3, .inl (cR_8, 6, .inr (.inr (.inr (.inr (fun _ => none)))))), (ba_4, .inl (cB_9, 3, .inl (fun _ => 0))), (ra_5, .inl (cA_10, 12, .inl fr_12)), (su_6, .inl (cS_11, 12, .inl (fun _ => 0))), (wi_15, .inl (d_31, 6, .inl (fun _ => 0))), (co_16, .inl (d_32, 6, .inl (fun _ => 0))), (sl_17, .inl (d_33, 6, .inl (fun _ => 0))), (gr_23, .inl (d_34, 6, .inl (fun _ => 0))), (q39, .inl (cA40, 1, .inr (.inl (fun _ => 0))))]) (w1 := [(q13, .inr (3, [.int 0, .int 0, .ref wi_15, .ref co_16, .ref sl_17, .ref rn_18, .ref so_19, .ref bn_20, .ref sm_21, .ref ah_22]))]) hP hD [5, 6, 11, 12, 13] [0, 1, 2, 3, 4, 7, 8, 9, 10, 14] rfl rfl (by decide) (by decide) hk1 hFc hP1 hD1
      generalize H1 = H at hP hS ⊢
      have hP : va_P (dC, dI) vwCl [(q1, .inr (1, [.ref ro_3, .int 0, .ref ba_4, .ref ra_5, .ref su_6, .int 0, .ref tr_7])), (ro_3, .inl (cR_8, 6, .inr (.inr (.inr (.inr (fun _ => none)))))), (ba_4, .inl (cB_9, 3, .inl (fun _ => 0))), (ra_5, .inl (cA_10, 12, .inl fr_12)), (su_6, .inl (cS_11, 12, .inl (fun _ => 0))), (wi_15, .inl (d_31, 6, .inl (fun _ => 0))), (co_16, .inl (d_32, 6, .inl (fun _ => 0))), (sl_17, .inl (d_33, 6, .inl (fun _ => 0))), (gr_23, .inl (d_34, 6, .inl (fun _ => 0))), (q39, .inl (cA40, 1, .inr (.inl (fun _ => 0)))), (q13, .inr (3, [.int 0, .int 0, .ref wi_15, .ref co_16, .ref sl_17, .ref rn_18, .ref so_19, .ref bn_20, .ref sm_21, .ref ah_22]))] H := hP
      have hD : va_D A [(q1, .inr (1, [.ref ro_3, .int 0, .ref ba_4, .ref ra_5, .ref su_6, .int 0, .ref tr_7])), (ro_3, .inl (cR_8, 6, .inr (.inr (.inr (.inr (fun _ => none)))))), (ba_4, .inl (cB_9, 3, .inl (fun _ => 0))), (ra_5, .inl (cA_10, 12, .inl fr_12)), (su_6, .inl (cS_11, 12, .inl (fun _ => 0))), (wi_15, .inl (d_31, 6, .inl (fun _ => 0))), (co_16, .inl (d_32, 6, .inl (fun _ => 0))), (sl_17, .inl (d_33, 6, .inl (fun _ => 0))), (gr_23, .inl (d_34, 6, .inl (fun _ => 0))), (q39, .inl (cA40, 1, .inr (.inl (fun _ => 0)))), (q13, .inr (3, [.int 0, .int 0, .ref wi_15, .ref co_16, .ref sl_17, .ref rn_18, .ref so_19, .ref bn_20, .ref sm_21, .ref ah_22]))] := hD
      refine W.widen (k := 45) (n := 3483) (Nat.le_of_ble_eq_true rfl) (Nat.le_of_ble_eq_true rfl) ?_
      obtain rfl := hr277
      refine W.lcmp hx hb dL_law_1375 ?_
      rw [show lg_cmp (-6060411835929444999) (-6060411835929444999) = 0 by decide]
      refine W.eq (g2 := F0 m 1376 ls [.int 0]) rfl ?_
      refine lv_if_eq (tgt := 1381) hx hb dL_law_1376 (by decide) (fun c278 => ?_) (fun c278 => absurd c278 (by decide))
      refine lv_iinc (v := 7) (lv' := [(4, .int 7), (3, .ref q39), (2, .ref q13), (1, .ref q1), (0, .ref b)]) hx hb dL_law_1381 hl (k := 0) rfl (by decide) (by decide) rfl (fun ls hl => ?_)
      refine lv_goto (tgt := 23) hx hb dL_law_1384 (by decide) ?_
      refine lv_iload hx hb dL_law_23 (lv_at hl 0 rfl) ?_
      refine lv_aload_n hx hb dL_law_25 rfl (lv_at hl 4 rfl) ?_
      refine va_slen hx hb hX hbl hbA hS dL_law_26 ?_
      refine W.eq (g2 := F0 m 27 ls [.int 7, .int 7]) rfl ?_
      refine lv_bipush (v := 7) hx hb dL_law_27 (by decide) ?_
      refine lv_isub hx hb dL_law_29 ?_
      refine W.eq (g2 := F0 m 30 ls [.int 0, .int 7]) rfl ?_
      refine lv_icmp_gt (tgt := 1387) hx hb dL_law_30 (by decide) (fun c279 => ?_) (fun c279 => absurd c279 (by decide))
      refine lv_iconst (v := 1) hx hb dL_law_1387 (by decide) ?_
      refine va_forget (fun q hq => hAs _ (hS.2.2 q hq)) ?_
      refine W.widen (k := 600002) (n := 7302232) (Nat.le_of_ble_eq_true rfl) (Nat.le_of_ble_eq_true rfl) ?_
      exact lw_ret (d0 := s.drawn) (Drawn.sameBut.refl s.drawn lw_cs) hx hb hr hlocks dL_law_1388
    · refine lv_tableOut (tgt := 1381) hx hb dL_law_40 (Or.inr (by rw [hje, nI_toInt (by omega)]; omega)) (by decide) ?_
      refine lv_iinc (v := 7) (lv' := [(4, .int 7), (3, .ref q39), (2, .ref q13), (1, .ref q1), (0, .ref b)]) hx hb dL_law_1381 hl (k := 0) rfl (by decide) (by decide) rfl (fun ls hl => ?_)
      refine lv_goto (tgt := 23) hx hb dL_law_1384 (by decide) ?_
      refine lv_iload hx hb dL_law_23 (lv_at hl 0 rfl) ?_
      refine lv_aload_n hx hb dL_law_25 rfl (lv_at hl 4 rfl) ?_
      refine va_slen hx hb hX hbl hbA hS dL_law_26 ?_
      refine W.eq (g2 := F0 m 27 ls [.int 7, .int 7]) rfl ?_
      refine lv_bipush (v := 7) hx hb dL_law_27 (by decide) ?_
      refine lv_isub hx hb dL_law_29 ?_
      refine W.eq (g2 := F0 m 30 ls [.int 0, .int 7]) rfl ?_
      refine lv_icmp_gt (tgt := 1387) hx hb dL_law_30 (by decide) (fun c280 => ?_) (fun c280 => absurd c280 (by decide))
      refine lv_iconst (v := 1) hx hb dL_law_1387 (by decide) ?_
      refine va_forget (fun q hq => hAs _ (hS.2.2 q hq)) ?_
      refine W.widen (k := 600002) (n := 7302232) (Nat.le_of_ble_eq_true rfl) (Nat.le_of_ble_eq_true rfl) ?_
      exact lw_ret (d0 := s.drawn) (Drawn.sameBut.refl s.drawn lw_cs) hx hb hr hlocks dL_law_1388

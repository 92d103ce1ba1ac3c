set_option maxHeartbeats 4000000 in
set_option maxRecDepth 100000 in
theorem r3_cell (l : Launch) (dC : Nat → ClassId) (dI : Nat → Nat → Nat) (ru : Nat) (cu : Nat) (pl : Nat) : Met l yX3_cell wsX3_cell ({ frames := 0, cells := 0, slots := 0, locals := 0 }) (va_Pc [.int (nI ru), .int (nI cu), .int (nI pl)] (fun _ => True)) (vp_Si (fun r : Int32 => r = nI (60 * ru + 10 * cu + pl))) 0 0 (fun _ => False) := by
  refine Met.ofW (cc := cX3_cell) (maxL := 3) (ret := (some .int)) (by decide) rfl ?_
  intro p e s m args below meth c s₁ B hml hv
  obtain ⟨rfl, -⟩ := hv
  have hx := B.exec
  have hb := B.bytes
  have hr := B.returns
  have hts := atoms_spec (ws := wsX3_cell) B.pre
  have hown : s.vm.findClass RX3 = some m.cls := findClass_of_methodNamed B.named
  have hlocks := B.notSynchronized
  have hl := lv_entry ([.int (nI ru), .int (nI cu), .int (nI pl)]) (n := 3) (Nat.le_of_ble_eq_true rfl)
  rw [lg_entry_eq]
  generalize (lg_sl ([.int (nI ru), .int (nI cu), .int (nI pl)]) ++ List.replicate (3 - (lg_sl ([.int (nI ru), .int (nI cu), .int (nI pl)])).length) Slot.unset).toArray = ls at hl ⊢
  have hl : lv_has ls 3 [(0, .int (nI ru)), (1, .int (nI cu)), (2, .int (nI pl))] := hl
  refine lv_bipush (v := 60) hx hb dX3_cell_0 (by decide) ?_
  refine lv_iload_n hx hb dX3_cell_2 rfl (lv_at hl 0 rfl) ?_
  refine lv_imul hx hb dX3_cell_3 ?_
  refine lv_topi (fun x1 ex1 => ?_)
  obtain rfl : x1 = nI (60 * ru) := ex1.trans (zN_mul 60 ru)
  refine lv_bipush (v := 10) hx hb dX3_cell_4 (by decide) ?_
  refine lv_iload_n hx hb dX3_cell_6 rfl (lv_at hl 1 rfl) ?_
  refine lv_imul hx hb dX3_cell_7 ?_
  refine lv_topi (fun x2 ex2 => ?_)
  obtain rfl : x2 = nI (10 * cu) := ex2.trans (zN_mul 10 cu)
  refine lv_iadd hx hb dX3_cell_8 ?_
  refine lv_topi (fun x3 ex3 => ?_)
  obtain rfl : x3 = nI ((60 * ru) + (10 * cu)) := ex3.trans (nI_add (60 * ru) (10 * cu))
  refine lv_iload_n hx hb dX3_cell_9 rfl (lv_at hl 2 rfl) ?_
  refine lv_iadd hx hb dX3_cell_10 ?_
  refine lv_topi (fun x4 ex4 => ?_)
  obtain rfl : x4 = nI ((((60 * ru) + (10 * cu))) + pl) := ex4.trans (nI_add (((60 * ru) + (10 * cu))) pl)
  exact W.iret (v := nI ((((60 * ru) + (10 * cu))) + pl)) hx hb hr (fun t ht hW => ⟨nI ((((60 * ru) + (10 * cu))) + pl), rfl, by (first | rfl | assumption | decide | (simp_all; done) | grind), ht⟩) (fun _ h => nomatch h) dX3_cell_11

set_option maxHeartbeats 4000000 in
set_option maxRecDepth 100000 in
theorem r2_isThere (l : Launch) (dC : Nat → ClassId) (dI : Nat → Nat → Nat) (sm : Nat) (hm : Nat) (gr : Nat) (gt : Nat) (gw : Nat) (gk : Nat) (gi : Nat) (gp : Nat) (go : Nat) (gg : Nat) (d10 : ClassId) (fk : Nat → Int32) (ru : Nat) (cu : Nat) (pl : Nat) (hk : ∀ j : Nat, j < 360 → fk j = -1) (hru : ru < 6) (hcu : cu < 6) (hpl : pl < 10) : Met l yX2_isThere wsX2_isThere ({ frames := 1, cells := 0, slots := 0, locals := 22 }) (va_Pc [.ref sm, .int (nI ru), .int (nI cu), .int (nI pl)] (fun U => va_P (dC, dI) vwCl [(sm, .inr (2, [.int 0, .ref gr, .ref gt, .ref gw, .ref gk, .ref gi, .ref gp, .ref go, .ref gg, .ref hm])), (gk, .inl (d10, 360, .inl fk))] U.heap ∧ va_K (dC, dI) vwCl [(d10, .int)] U ∧ zNs U)) (vp_Si (fun r : Int32 => r = 0)) 0 0 (fun _ => False) := by
  refine Met.ofW (cc := cX2_isThere) (maxL := 4) (ret := (some .boolean)) (by decide) rfl ?_
  intro p e s m args below meth c s₁ B hml hv
  obtain ⟨rfl, hP, hK, hZN⟩ := hv
  have hx := B.exec
  have hb := B.bytes
  have hr := B.returns
  have hts := atoms_spec (ws := wsX2_isThere) B.pre
  have hown : s.vm.findClass RX2 = some m.cls := findClass_of_methodNamed B.named
  have hlocks := B.notSynchronized
  have hP : va_P (dC, dI) vwCl [(sm, .inr (2, [.int 0, .ref gr, .ref gt, .ref gw, .ref gk, .ref gi, .ref gp, .ref go, .ref gg, .ref hm])), (gk, .inl (d10, 360, .inl fk))] s.heap := hP
  have hl := lv_entry ([.ref sm, .int (nI ru), .int (nI cu), .int (nI pl)]) (n := 4) (Nat.le_of_ble_eq_true rfl)
  rw [lg_entry_eq]
  generalize (lg_sl ([.ref sm, .int (nI ru), .int (nI cu), .int (nI pl)]) ++ List.replicate (4 - (lg_sl ([.ref sm, .int (nI ru), .int (nI cu), .int (nI pl)])).length) Slot.unset).toArray = ls at hl ⊢
  have hl : lv_has ls 4 [(0, .ref sm), (1, .int (nI ru)), (2, .int (nI cu)), (3, .int (nI pl))] := hl
  refine lv_aload_n hx hb dX2_isThere_0 rfl (lv_at hl 0 rfl) ?_
  refine va_get (D := (dC, dI)) (ci := 2) (v := .ref gk) (C := RX2) (T := TX2) (N := 10) hx hb hts (by decide +kernel) hown hK hP 0 rfl rfl 4 (by decide) (hts (.fieldLink RX2 25 "ThatchRoofModel$State" "kind" "[I") (by decide +kernel)) (fun _ h9 => h9) rfl dX2_isThere_1 ?_
  refine lv_iload_n hx hb dX2_isThere_4 rfl (lv_at hl 1 rfl) ?_
  refine lv_iload_n hx hb dX2_isThere_5 rfl (lv_at hl 2 rfl) ?_
  refine lv_iload_n hx hb dX2_isThere_6 rfl (lv_at hl 3 rfl) ?_
  refine vp_callSi (va_runSN (As := [.int (nI ru), .int (nI cu), .int (nI pl)]) (rest := [.ref gk]) ⟨hx, hb, hml, hown, hts⟩ (r3_cell l dC dI ru cu pl ) ⟨va_cnB 3 hts gX2_isThere_X3_cell_n55 rfl rfl rfl (zN_RX2_55 hZN) (hts (.initialized RX3) (by decide +kernel)) (by decide +kernel) ⟨Nat.le_of_ble_eq_true rfl, Nat.le_of_ble_eq_true rfl⟩, hts (.static yX3_cell) (by decide +kernel), trivial⟩ ⟨fun a U g mk q => q, fun U hU hW => ⟨rfl, trivial⟩⟩ rfl rfl hl.1 rfl (lv_room (Nat.le_of_ble_eq_true rfl)) dX2_isThere_7 ⟨Nat.le_of_ble_eq_true rfl, Nat.le_of_ble_eq_true rfl⟩).run (fun r1 hr1 => ?_)
  have evr1_0 := hr1
  rw [evr1_0]
  refine va_iald hx hb hK hP 1 0 rfl rfl (vp_in_nI (by omega) (by omega)) dX2_isThere_10 ?_
  refine lv_topi (fun x2 ex2 => ?_)
  rw [nI_clamp (show (60 * ru + 10 * cu + pl) < 2 ^ 31 by omega)] at ex2
  obtain rfl : x2 = (-1) := ex2.trans (hk _ (by omega))
  refine lv_iconst (v := (-1)) hx hb dX2_isThere_11 (by decide) ?_
  refine lv_icmp_eq (tgt := 19) hx hb dX2_isThere_12 (by decide) (fun c3 => ?_) (fun c3 => absurd c3 (by decide))
  refine lv_iconst (v := 0) hx hb dX2_isThere_19 (by decide) ?_
  exact W.zret (v := 0) hx hb hr (by decide) (fun t ht hW => ⟨0, rfl, by (first | rfl | assumption | decide | (simp_all; done) | grind), ht⟩) (fun _ h => nomatch h) dX2_isThere_20

set_option maxHeartbeats 4000000 in
set_option maxRecDepth 100000 in
theorem r2_isBare (l : Launch) (dC : Nat → ClassId) (dI : Nat → Nat → Nat) (sm : Nat) (hm : Nat) (gr : Nat) (gt : Nat) (gw : Nat) (gk : Nat) (gi : Nat) (gp : Nat) (go : Nat) (gg : Nat) (d10 : ClassId) (fk : Nat → Int32) (ru : Nat) (cu : Nat) (pl : Nat) (hk : ∀ j : Nat, j < 360 → fk j = -1) (hru : ru < 6) (hcu : cu < 6) (hpl : pl < 10) : Met l yX2_isBare wsX2_isBare ({ frames := 2, cells := 0, slots := 0, locals := 45 }) (va_Pc [.ref sm, .int (nI ru), .int (nI cu), .int (nI pl)] (fun U => va_P (dC, dI) vwCl [(sm, .inr (2, [.int 0, .ref gr, .ref gt, .ref gw, .ref gk, .ref gi, .ref gp, .ref go, .ref gg, .ref hm])), (gk, .inl (d10, 360, .inl fk))] U.heap ∧ va_K (dC, dI) vwCl [(d10, .int)] U ∧ zNs U)) (vp_Si (fun r : Int32 => r = 0)) 0 0 (fun _ => False) := by
  refine Met.ofW (cc := cX2_isBare) (maxL := 4) (ret := (some .boolean)) (by decide) rfl ?_
  intro p e s m args below meth c s₁ B hml hv
  obtain ⟨rfl, hP, hK, hZN⟩ := hv
  have hx := B.exec
  have hb := B.bytes
  have hr := B.returns
  have hts := atoms_spec (ws := wsX2_isBare) B.pre
  have hown : s.vm.findClass RX2 = some m.cls := findClass_of_methodNamed B.named
  have hlocks := B.notSynchronized
  have hP : va_P (dC, dI) vwCl [(sm, .inr (2, [.int 0, .ref gr, .ref gt, .ref gw, .ref gk, .ref gi, .ref gp, .ref go, .ref gg, .ref hm])), (gk, .inl (d10, 360, .inl fk))] s.heap := hP
  have hl := lv_entry ([.ref sm, .int (nI ru), .int (nI cu), .int (nI pl)]) (n := 4) (Nat.le_of_ble_eq_true rfl)
  rw [lg_entry_eq]
  generalize (lg_sl ([.ref sm, .int (nI ru), .int (nI cu), .int (nI pl)]) ++ List.replicate (4 - (lg_sl ([.ref sm, .int (nI ru), .int (nI cu), .int (nI pl)])).length) Slot.unset).toArray = ls at hl ⊢
  have hl : lv_has ls 4 [(0, .ref sm), (1, .int (nI ru)), (2, .int (nI cu)), (3, .int (nI pl))] := hl
  refine lv_aload_n hx hb dX2_isBare_0 rfl (lv_at hl 0 rfl) ?_
  refine lv_iload_n hx hb dX2_isBare_1 rfl (lv_at hl 1 rfl) ?_
  refine lv_iload_n hx hb dX2_isBare_2 rfl (lv_at hl 2 rfl) ?_
  refine lv_iload_n hx hb dX2_isBare_3 rfl (lv_at hl 3 rfl) ?_
  have hPc := hP.sub (ws' := [(sm, .inr (2, [.int 0, .ref gr, .ref gt, .ref gw, .ref gk, .ref gi, .ref gp, .ref go, .ref gg, .ref hm])), (gk, .inl (d10, 360, .inl fk))]) [0, 1] rfl
  have hKc := hK.sub (tys' := [(d10, .int)]) [0] rfl
  refine vp_callSi (va_runV (As := [.int (nI ru), .int (nI cu), .int (nI pl)]) (rest := []) ⟨hx, hb, hml, hown, hts⟩ (r2_isThere l dC dI sm hm gr gt gw gk gi gp go gg d10 fk ru cu pl (by first | assumption | decide | omega) (by first | assumption | decide | omega) (by first | assumption | decide | omega) (by first | assumption | decide | omega)) (cwV 3 hts gX2_isBare_X2_isThere rfl rfl rfl (by decide +kernel) ⟨Nat.le_of_ble_eq_true rfl, Nat.le_of_ble_eq_true rfl⟩) ⟨fun a U g mk q => by obtain ⟨q0, qP, qK, qN⟩ := q; exact ⟨q0, qP, va_K.moved (u := U) (U := U.calling g mk a) (Vm.Alike.refl U.vm) qK, zNs.calling qN⟩, va_recv hKc hPc (ci := 2) (q0 := 0) rfl rfl, fun U hU hW => ⟨rfl, by rw [hU]; exact hPc, va_K.moved hW.alike hKc, zNs.warm hW hZN⟩⟩ rfl rfl hl.1 rfl (lv_room (Nat.le_of_ble_eq_true rfl)) dX2_isBare_4 ⟨Nat.le_of_ble_eq_true rfl, Nat.le_of_ble_eq_true rfl⟩).run (fun r1 hr1 => ?_)
  obtain rfl := hr1
  refine lv_if_eq (tgt := 41) hx hb dX2_isBare_7 (by decide) (fun c2 => ?_) (fun c2 => absurd c2 (by decide))
  refine lv_iconst (v := 0) hx hb dX2_isBare_41 (by decide) ?_
  exact W.zret (v := 0) hx hb hr (by decide) (fun t ht hW => ⟨0, rfl, by (first | rfl | assumption | decide | (simp_all; done) | grind), ht⟩) (fun _ h => nomatch h) dX2_isBare_42

set_option maxHeartbeats 4000000 in
set_option maxRecDepth 100000 in
theorem r2_yealms (l : Launch) (dC : Nat → ClassId) (dI : Nat → Nat → Nat) (sm : Nat) (hm : Nat) (gr : Nat) (gt : Nat) (gw : Nat) (gk : Nat) (gi : Nat) (gp : Nat) (go : Nat) (gg : Nat) (d10 : ClassId) (fk : Nat → Int32) (ru : Nat) (hk : ∀ j : Nat, j < 360 → fk j = -1) (hru : ru < 6) : Met l yX2_yealms wsX2_yealms ({ frames := 0, cells := 0, slots := 0, locals := 0 }) (va_Pc [.ref sm, .int (nI ru)] (fun U => va_P (dC, dI) vwCl [(sm, .inr (2, [.int 0, .ref gr, .ref gt, .ref gw, .ref gk, .ref gi, .ref gp, .ref go, .ref gg, .ref hm])), (gk, .inl (d10, 360, .inl fk))] U.heap ∧ va_K (dC, dI) vwCl [(d10, .int)] U)) (vp_Si (fun r : Int32 => r = 0)) 0 0 (fun _ => False) := by
  refine Met.ofW (cc := cX2_yealms) (maxL := 4) (ret := (some .int)) (by decide) rfl ?_
  intro p e s m args below meth c s₁ B hml hv
  obtain ⟨rfl, hP, hK⟩ := hv
  have hx := B.exec
  have hb := B.bytes
  have hr := B.returns
  have hts := atoms_spec (ws := wsX2_yealms) B.pre
  have hown : s.vm.findClass RX2 = some m.cls := findClass_of_methodNamed B.named
  have hlocks := B.notSynchronized
  have hP : va_P (dC, dI) vwCl [(sm, .inr (2, [.int 0, .ref gr, .ref gt, .ref gw, .ref gk, .ref gi, .ref gp, .ref go, .ref gg, .ref hm])), (gk, .inl (d10, 360, .inl fk))] s.heap := hP
  have hl := lv_entry ([.ref sm, .int (nI ru)]) (n := 4) (Nat.le_of_ble_eq_true rfl)
  rw [lg_entry_eq]
  generalize (lg_sl ([.ref sm, .int (nI ru)]) ++ List.replicate (4 - (lg_sl ([.ref sm, .int (nI ru)])).length) Slot.unset).toArray = ls at hl ⊢
  have hl : lv_has ls 4 [(0, .ref sm), (1, .int (nI ru))] := hl
  refine lv_iconst (v := 0) hx hb dX2_yealms_0 (by decide) ?_
  refine lv_istore_n (lv' := [(2, .int 0), (0, .ref sm), (1, .int (nI ru))]) hx hb dX2_yealms_1 rfl hl (by decide) rfl (fun ls hl => ?_)
  refine lv_bipush (v := 60) hx hb dX2_yealms_2 (by decide) ?_
  refine lv_iload_n hx hb dX2_yealms_4 rfl (lv_at hl 2 rfl) ?_
  refine lv_imul hx hb dX2_yealms_5 ?_
  refine lv_topi (fun x1 ex1 => ?_)
  obtain rfl : x1 = nI (60 * ru) := ex1.trans (zN_mul 60 ru)
  refine lv_istore_n (lv' := [(3, .int (nI (60 * ru))), (2, .int 0), (0, .ref sm), (1, .int (nI ru))]) hx hb dX2_yealms_6 rfl hl (by decide) rfl (fun ls hl => ?_)
  suffices K7 : ∀ (n : Nat) (i : Nat), (60 * ru ≤ i) → (i ≤ 60 * ru + 60) → 60 * ru + 60 - i < n → ∀ ls : Array Slot, lv_has ls 4 [(0, .ref sm), (1, .int (nI ru)), (2, .int 0), (3, .int (nI i))] → W p l e ({ frames := 0, cells := 0, slots := 0, locals := 0 } : Room) s m (([.ref sm, .int (nI ru)] : List Value).toArray) below meth c s.heap [] 0 0 (MQ below (vp_Si (fun r : Int32 => r = 0)) (([.ref sm, .int (nI ru)] : List Value).toArray) s 0 0 (fun _ => False)) (F0 m 7 ls []) from
    K7 _ (60 * ru) (by omega) (by omega) (Nat.lt_succ_self _) _ (lv_sub hl [2, 3, 1, 0] rfl)
  intro n
  induction n with
  | zero =>
    intro i hi0 hi hn
    exact absurd hn (Nat.not_lt_zero _)
  | succ n ih7 =>
    intro i hi0 hi hn7 ls hl
    refine lv_iload_n hx hb dX2_yealms_7 rfl (lv_at hl 3 rfl) ?_
    refine lv_bipush (v := 60) hx hb dX2_yealms_8 (by decide) ?_
    refine lv_iload_n hx hb dX2_yealms_10 rfl (lv_at hl 1 rfl) ?_
    refine lv_imul hx hb dX2_yealms_11 ?_
    refine lv_topi (fun x2 ex2 => ?_)
    obtain rfl : x2 = nI (60 * ru) := ex2.trans (zN_mul 60 ru)
    refine lv_bipush (v := 60) hx hb dX2_yealms_12 (by decide) ?_
    refine lv_iadd hx hb dX2_yealms_14 ?_
    refine lv_topi (fun x3 ex3 => ?_)
    obtain rfl : x3 = nI ((60 * ru) + 60) := ex3.trans (nI_add (60 * ru) 60)
    refine lv_icmp_ge (tgt := 42) hx hb dX2_yealms_15 (by decide) (fun c4 => ?_) (fun c4 => ?_)
    · have nc4 : ((60 * ru) + 60) ≤ i := (nI_leI (a := ((60 * ru) + 60)) (b := i) (by omega) (by omega)).mp c4
      refine lv_iload_n hx hb dX2_yealms_42 rfl (lv_at hl 2 rfl) ?_
      exact W.iret (v := 0) hx hb hr (fun t ht hW => ⟨0, rfl, by (first | rfl | assumption | decide | (simp_all; done) | grind), ht⟩) (fun _ h => nomatch h) dX2_yealms_43
    · have nc4 : i < ((60 * ru) + 60) := Nat.lt_of_not_le (fun q => c4 ((nI_leI (a := ((60 * ru) + 60)) (b := i) (by omega) (by omega)).mpr q))
      refine lv_iload_n hx hb dX2_yealms_18 rfl (lv_at hl 2 rfl) ?_
      refine lv_aload_n hx hb dX2_yealms_19 rfl (lv_at hl 0 rfl) ?_
      refine va_get (D := (dC, dI)) (ci := 2) (v := .ref gk) (C := RX2) (T := TX2) (N := 10) hx hb hts (by decide +kernel) hown hK hP 0 rfl rfl 4 (by decide) (hts (.fieldLink RX2 25 "ThatchRoofModel$State" "kind" "[I") (by decide +kernel)) (fun _ h9 => h9) rfl dX2_yealms_20 ?_
      refine lv_iload_n hx hb dX2_yealms_23 rfl (lv_at hl 3 rfl) ?_
      refine va_iald hx hb hK hP 1 0 rfl rfl (vp_in_nI (by omega) (by omega)) dX2_yealms_24 ?_
      refine lv_topi (fun x5 ex5 => ?_)
      rw [nI_clamp (show i < 2 ^ 31 by omega)] at ex5
      obtain rfl : x5 = (-1) := ex5.trans (hk _ (by omega))
      refine lv_iconst (v := (-1)) hx hb dX2_yealms_25 (by decide) ?_
      refine lv_icmp_ne (tgt := 33) hx hb dX2_yealms_26 (by decide) (fun c6 => absurd c6 (by decide)) (fun c6 => ?_)
      refine lv_iconst (v := 0) hx hb dX2_yealms_29 (by decide) ?_
      refine lv_goto (tgt := 34) hx hb dX2_yealms_30 (by decide) ?_
      refine lv_iadd hx hb dX2_yealms_34 ?_
      refine W.eq (g2 := F0 m 35 ls [.int 0]) rfl ?_
      refine lv_istore_n (lv' := [(2, .int 0), (0, .ref sm), (1, .int (nI ru)), (3, .int (nI i))]) hx hb dX2_yealms_35 rfl hl (by decide) rfl (fun ls hl => ?_)
      refine lv_iinc (v := nI (i + 1)) (lv' := [(3, .int (nI (i + 1))), (2, .int 0), (0, .ref sm), (1, .int (nI ru))]) hx hb dX2_yealms_36 hl (k := 3) rfl (by exact nI_1 i) (by decide) rfl (fun ls hl => ?_)
      refine lv_goto (tgt := 7) hx hb dX2_yealms_39 (by decide) ?_
      exact ih7 (i + 1) (by omega) (by omega) (by omega) _ (lv_sub hl [2, 3, 1, 0] rfl)

set_option maxHeartbeats 4000000 in
set_option maxRecDepth 100000 in
theorem r2_thickness (l : Launch) (dC : Nat → ClassId) (dI : Nat → Nat → Nat) (sm : Nat) (hm : Nat) (gr : Nat) (gt : Nat) (gw : Nat) (gk : Nat) (gi : Nat) (gp : Nat) (go : Nat) (gg : Nat) (d11 : ClassId) (ru : Nat) (hru : ru < 6) : Met l yX2_thickness wsX2_thickness ({ frames := 0, cells := 0, slots := 0, locals := 0 }) (va_Pc [.ref sm, .int (nI ru)] (fun U => va_P (dC, dI) vwCl [(sm, .inr (2, [.int 0, .ref gr, .ref gt, .ref gw, .ref gk, .ref gi, .ref gp, .ref go, .ref gg, .ref hm])), (gi, .inl (d11, 360, .inl (fun _ => 0)))] U.heap ∧ va_K (dC, dI) vwCl [(d11, .int)] U)) (vp_Si (fun r : Int32 => r = 0)) 0 0 (fun _ => False) := by
  refine Met.ofW (cc := cX2_thickness) (maxL := 4) (ret := (some .int)) (by decide) rfl ?_
  intro p e s m args below meth c s₁ B hml hv
  obtain ⟨rfl, hP, hK⟩ := hv
  have hx := B.exec
  have hb := B.bytes
  have hr := B.returns
  have hts := atoms_spec (ws := wsX2_thickness) B.pre
  have hown : s.vm.findClass RX2 = some m.cls := findClass_of_methodNamed B.named
  have hlocks := B.notSynchronized
  have hP : va_P (dC, dI) vwCl [(sm, .inr (2, [.int 0, .ref gr, .ref gt, .ref gw, .ref gk, .ref gi, .ref gp, .ref go, .ref gg, .ref hm])), (gi, .inl (d11, 360, .inl (fun _ => 0)))] s.heap := hP
  have hl := lv_entry ([.ref sm, .int (nI ru)]) (n := 4) (Nat.le_of_ble_eq_true rfl)
  rw [lg_entry_eq]
  generalize (lg_sl ([.ref sm, .int (nI ru)]) ++ List.replicate (4 - (lg_sl ([.ref sm, .int (nI ru)])).length) Slot.unset).toArray = ls at hl ⊢
  have hl : lv_has ls 4 [(0, .ref sm), (1, .int (nI ru))] := hl
  refine lv_iconst (v := 0) hx hb dX2_thickness_0 (by decide) ?_
  refine lv_istore_n (lv' := [(2, .int 0), (0, .ref sm), (1, .int (nI ru))]) hx hb dX2_thickness_1 rfl hl (by decide) rfl (fun ls hl => ?_)
  refine lv_bipush (v := 60) hx hb dX2_thickness_2 (by decide) ?_
  refine lv_iload_n hx hb dX2_thickness_4 rfl (lv_at hl 2 rfl) ?_
  refine lv_imul hx hb dX2_thickness_5 ?_
  refine lv_topi (fun x1 ex1 => ?_)
  obtain rfl : x1 = nI (60 * ru) := ex1.trans (zN_mul 60 ru)
  refine lv_istore_n (lv' := [(3, .int (nI (60 * ru))), (2, .int 0), (0, .ref sm), (1, .int (nI ru))]) hx hb dX2_thickness_6 rfl hl (by decide) rfl (fun ls hl => ?_)
  suffices K7 : ∀ (n : Nat) (i : Nat), (60 * ru ≤ i) → (i ≤ 60 * ru + 60) → 60 * ru + 60 - i < n → ∀ ls : Array Slot, lv_has ls 4 [(0, .ref sm), (1, .int (nI ru)), (2, .int 0), (3, .int (nI i))] → W p l e ({ frames := 0, cells := 0, slots := 0, locals := 0 } : Room) s m (([.ref sm, .int (nI ru)] : List Value).toArray) below meth c s.heap [] 0 0 (MQ below (vp_Si (fun r : Int32 => r = 0)) (([.ref sm, .int (nI ru)] : List Value).toArray) s 0 0 (fun _ => False)) (F0 m 7 ls []) from
    K7 _ (60 * ru) (by omega) (by omega) (Nat.lt_succ_self _) _ (lv_sub hl [2, 3, 1, 0] rfl)
  intro n
  induction n with
  | zero =>
    intro i hi0 hi hn
    exact absurd hn (Nat.not_lt_zero _)
  | succ n ih7 =>
    intro i hi0 hi hn7 ls hl
    refine lv_iload_n hx hb dX2_thickness_7 rfl (lv_at hl 3 rfl) ?_
    refine lv_bipush (v := 60) hx hb dX2_thickness_8 (by decide) ?_
    refine lv_iload_n hx hb dX2_thickness_10 rfl (lv_at hl 1 rfl) ?_
    refine lv_imul hx hb dX2_thickness_11 ?_
    refine lv_topi (fun x2 ex2 => ?_)
    obtain rfl : x2 = nI (60 * ru) := ex2.trans (zN_mul 60 ru)
    refine lv_bipush (v := 60) hx hb dX2_thickness_12 (by decide) ?_
    refine lv_iadd hx hb dX2_thickness_14 ?_
    refine lv_topi (fun x3 ex3 => ?_)
    obtain rfl : x3 = nI ((60 * ru) + 60) := ex3.trans (nI_add (60 * ru) 60)
    refine lv_icmp_ge (tgt := 33) hx hb dX2_thickness_15 (by decide) (fun c4 => ?_) (fun c4 => ?_)
    · have nc4 : ((60 * ru) + 60) ≤ i := (nI_leI (a := ((60 * ru) + 60)) (b := i) (by omega) (by omega)).mp c4
      refine lv_iload_n hx hb dX2_thickness_33 rfl (lv_at hl 2 rfl) ?_
      exact W.iret (v := 0) hx hb hr (fun t ht hW => ⟨0, rfl, by (first | rfl | assumption | decide | (simp_all; done) | grind), ht⟩) (fun _ h => nomatch h) dX2_thickness_34
    · have nc4 : i < ((60 * ru) + 60) := Nat.lt_of_not_le (fun q => c4 ((nI_leI (a := ((60 * ru) + 60)) (b := i) (by omega) (by omega)).mpr q))
      refine lv_iload_n hx hb dX2_thickness_18 rfl (lv_at hl 2 rfl) ?_
      refine lv_aload_n hx hb dX2_thickness_19 rfl (lv_at hl 0 rfl) ?_
      refine va_get (D := (dC, dI)) (ci := 2) (v := .ref gi) (C := RX2) (T := TX2) (N := 10) hx hb hts (by decide +kernel) hown hK hP 0 rfl rfl 5 (by decide) (hts (.fieldLink RX2 28 "ThatchRoofModel$State" "thick" "[I") (by decide +kernel)) (fun _ h9 => h9) rfl dX2_thickness_20 ?_
      refine lv_iload_n hx hb dX2_thickness_23 rfl (lv_at hl 3 rfl) ?_
      refine va_iald hx hb hK hP 1 0 rfl rfl (vp_in_nI (by omega) (by omega)) dX2_thickness_24 ?_
      refine lv_topi (fun x5 ex5 => ?_)
      obtain rfl : x5 = 0 := ex5
      refine lv_iadd hx hb dX2_thickness_25 ?_
      refine W.eq (g2 := F0 m 26 ls [.int 0]) rfl ?_
      refine lv_istore_n (lv' := [(2, .int 0), (0, .ref sm), (1, .int (nI ru)), (3, .int (nI i))]) hx hb dX2_thickness_26 rfl hl (by decide) rfl (fun ls hl => ?_)
      refine lv_iinc (v := nI (i + 1)) (lv' := [(3, .int (nI (i + 1))), (2, .int 0), (0, .ref sm), (1, .int (nI ru))]) hx hb dX2_thickness_27 hl (k := 3) rfl (by exact nI_1 i) (by decide) rfl (fun ls hl => ?_)
      refine lv_goto (tgt := 7) hx hb dX2_thickness_30 (by decide) ?_
      exact ih7 (i + 1) (by omega) (by omega) (by omega) _ (lv_sub hl [2, 3, 1, 0] rfl)

set_option maxHeartbeats 4000000 in
set_option maxRecDepth 100000 in
theorem r2_leaks (l : Launch) (dC : Nat → ClassId) (dI : Nat → Nat → Nat) (hm : Nat) (wi : Nat) (co : Nat) (sl : Nat) (rn : Nat) (so : Nat) (bn : Nat) (sm : Nat) (ah : Nat) (th : Int32) (gr : Nat) (gt : Nat) (gw : Nat) (gk : Nat) (gi : Nat) (gp : Nat) (go : Nat) (gg : Nat) (d1 : ClassId) (d2 : ClassId) (d10 : ClassId) (d11 : ClassId) (fw : Nat → Int32) (fc : Nat → Int32) (fk : Nat → Int32) (ru : Nat) (hk : ∀ j : Nat, j < 360 → fk j = -1) (hw : ∀ j : Nat, j < 6 → fw j = 10) (hc : ∀ j : Nat, j < 6 → fc j = 6) (hru : ru < 6) : Met l yX2_leaks wsX2_leaks ({ frames := 1, cells := 0, slots := 0, locals := 22 }) (va_Pc [.ref sm, .int (nI ru)] (fun U => va_P (dC, dI) vwCl [(sm, .inr (2, [.int 0, .ref gr, .ref gt, .ref gw, .ref gk, .ref gi, .ref gp, .ref go, .ref gg, .ref hm])), (hm, .inr (3, [.int th, .int 6, .ref wi, .ref co, .ref sl, .ref rn, .ref so, .ref bn, .ref sm, .ref ah])), (wi, .inl (d1, 6, .inl fw)), (co, .inl (d2, 6, .inl fc)), (gk, .inl (d10, 360, .inl fk)), (gi, .inl (d11, 360, .inl (fun _ => 0)))] U.heap ∧ va_K (dC, dI) vwCl [(d1, .int), (d2, .int), (d10, .int), (d11, .int)] U ∧ zNs U)) (vp_Si (fun r : Int32 => r = 10)) 0 0 (fun _ => False) := by
  refine Met.ofW (cc := cX2_leaks) (maxL := 6) (ret := (some .int)) (by decide) rfl ?_
  intro p e s m args below meth c s₁ B hml hv
  obtain ⟨rfl, hP, hK, hZN⟩ := hv
  have hx := B.exec
  have hb := B.bytes
  have hr := B.returns
  have hts := atoms_spec (ws := wsX2_leaks) B.pre
  have hown : s.vm.findClass RX2 = some m.cls := findClass_of_methodNamed B.named
  have hlocks := B.notSynchronized
  have hP : va_P (dC, dI) vwCl [(sm, .inr (2, [.int 0, .ref gr, .ref gt, .ref gw, .ref gk, .ref gi, .ref gp, .ref go, .ref gg, .ref hm])), (hm, .inr (3, [.int th, .int 6, .ref wi, .ref co, .ref sl, .ref rn, .ref so, .ref bn, .ref sm, .ref ah])), (wi, .inl (d1, 6, .inl fw)), (co, .inl (d2, 6, .inl fc)), (gk, .inl (d10, 360, .inl fk)), (gi, .inl (d11, 360, .inl (fun _ => 0)))] s.heap := hP
  have hl := lv_entry ([.ref sm, .int (nI ru)]) (n := 6) (Nat.le_of_ble_eq_true rfl)
  rw [lg_entry_eq]
  generalize (lg_sl ([.ref sm, .int (nI ru)]) ++ List.replicate (6 - (lg_sl ([.ref sm, .int (nI ru)])).length) Slot.unset).toArray = ls at hl ⊢
  have hl : lv_has ls 6 [(0, .ref sm), (1, .int (nI ru))] := hl
  refine lv_iconst (v := 0) hx hb dX2_leaks_0 (by decide) ?_
  refine lv_istore_n (lv' := [(2, .int 0), (0, .ref sm), (1, .int (nI ru))]) hx hb dX2_leaks_1 rfl hl (by decide) rfl (fun ls hl => ?_)
  refine lv_iconst (v := 0) hx hb dX2_leaks_2 (by decide) ?_
  refine lv_istore_n (lv' := [(3, .int 0), (2, .int 0), (0, .ref sm), (1, .int (nI ru))]) hx hb dX2_leaks_3 rfl hl (by decide) rfl (fun ls hl => ?_)
  suffices K4 : ∀ (n : Nat) (j : Nat), (j ≤ 10) → 10 - j < n → ∀ ls : Array Slot, lv_has ls 6 [(0, .ref sm), (1, .int (nI ru)), (2, .int (nI j)), (3, .int (nI j))] → W p l e ({ frames := 1, cells := 0, slots := 0, locals := 22 } : Room) s m (([.ref sm, .int (nI ru)] : List Value).toArray) below meth c s.heap [] 0 0 (MQ below (vp_Si (fun r : Int32 => r = 10)) (([.ref sm, .int (nI ru)] : List Value).toArray) s 0 0 (fun _ => False)) (F0 m 4 ls []) from
    K4 _ 0 (by decide) (Nat.lt_succ_self _) _ (lv_sub hl [2, 3, 1, 0] rfl)
  intro n
  induction n with
  | zero =>
    intro j hj hn
    exact absurd hn (Nat.not_lt_zero _)
  | succ n ih4 =>
    intro j hj hn4 ls hl
    refine lv_iload_n hx hb dX2_leaks_4 rfl (lv_at hl 3 rfl) ?_
    refine lv_aload_n hx hb dX2_leaks_5 rfl (lv_at hl 0 rfl) ?_
    refine va_get (D := (dC, dI)) (ci := 2) (v := .ref hm) (C := RX2) (T := TX2) (N := 10) hx hb hts (by decide +kernel) hown hK hP 0 rfl rfl 9 (by decide) (hts (.fieldLink RX2 3 "ThatchRoofModel$State" "this$0" "LThatchRoofModel;") (by decide +kernel)) (fun _ h9 => h9) rfl dX2_leaks_6 ?_
    refine va_getN (D := (dC, dI)) (ci := 3) (v := .ref wi) (C := RX3) (T := TX3) (N := 10) hx hb hts (by decide +kernel) hown hK hP 1 rfl rfl 2 (by decide) (va_Nw.use rfl (zN_RX2_78 hZN)) (fun _ h9 => h9) rfl dX2_leaks_9 ?_
    refine lv_iload_n hx hb dX2_leaks_12 rfl (lv_at hl 1 rfl) ?_
    refine va_iald hx hb hK hP 2 0 rfl rfl (vp_in_nI (by omega) (by omega)) dX2_leaks_13 ?_
    refine lv_topi (fun x1 ex1 => ?_)
    rw [nI_clamp (show ru < 2 ^ 31 by omega)] at ex1
    obtain rfl : x1 = 10 := ex1.trans (hw _ (by omega))
    refine lv_icmp_ge (tgt := 111) hx hb dX2_leaks_14 (by decide) (fun c2 => ?_) (fun c2 => ?_)
    · have nc2 : 10 ≤ j := (nI_leI (a := 10) (b := j) (by omega) (by omega)).mp c2
      refine lv_iload_n hx hb dX2_leaks_111 rfl (lv_at hl 2 rfl) ?_
      exact W.iret (v := nI j) hx hb hr (fun t ht hW => ⟨nI j, rfl, by have h9 : j = 10 := (by omega); subst h9; rfl, ht⟩) (fun _ h => nomatch h) dX2_leaks_112
    · have nc2 : j < 10 := Nat.lt_of_not_le (fun q => c2 ((nI_leI (a := 10) (b := j) (by omega) (by omega)).mpr q))
      refine lv_iconst (v := 0) hx hb dX2_leaks_17 (by decide) ?_
      refine lv_istore (lv' := [(4, .int 0), (0, .ref sm), (1, .int (nI ru)), (2, .int (nI j)), (3, .int (nI j))]) hx hb dX2_leaks_18 hl (by decide) rfl (fun ls hl => ?_)
      refine lv_iconst (v := 0) hx hb dX2_leaks_20 (by decide) ?_
      refine lv_istore (lv' := [(5, .int 0), (4, .int 0), (0, .ref sm), (1, .int (nI ru)), (2, .int (nI j)), (3, .int (nI j))]) hx hb dX2_leaks_21 hl (by decide) rfl (fun ls hl => ?_)
      suffices K23 : ∀ (n : Nat) (i : Nat), (i ≤ 6) → 6 - i < n → ∀ ls : Array Slot, lv_has ls 6 [(0, .ref sm), (1, .int (nI ru)), (2, .int (nI j)), (3, .int (nI j)), (4, .int 0), (5, .int (nI i))] → W p l e ({ frames := 1, cells := 0, slots := 0, locals := 22 } : Room) s m (([.ref sm, .int (nI ru)] : List Value).toArray) below meth c s.heap [] 0 0 (MQ below (vp_Si (fun r : Int32 => r = 10)) (([.ref sm, .int (nI ru)] : List Value).toArray) s 0 0 (fun _ => False)) (F0 m 23 ls []) from
        K23 _ 0 (by decide) (Nat.lt_succ_self _) _ (lv_sub hl [2, 3, 4, 5, 1, 0] rfl)
      intro n
      induction n with
      | zero =>
        intro i hi hn
        exact absurd hn (Nat.not_lt_zero _)
      | succ n ih23 =>
        intro i hi hn23 ls hl
        refine lv_iload hx hb dX2_leaks_23 (lv_at hl 5 rfl) ?_
        refine lv_aload_n hx hb dX2_leaks_25 rfl (lv_at hl 0 rfl) ?_
        refine va_get (D := (dC, dI)) (ci := 2) (v := .ref hm) (C := RX2) (T := TX2) (N := 10) hx hb hts (by decide +kernel) hown hK hP 0 rfl rfl 9 (by decide) (hts (.fieldLink RX2 3 "ThatchRoofModel$State" "this$0" "LThatchRoofModel;") (by decide +kernel)) (fun _ h9 => h9) rfl dX2_leaks_26 ?_
        refine va_getN (D := (dC, dI)) (ci := 3) (v := .ref co) (C := RX3) (T := TX3) (N := 10) hx hb hts (by decide +kernel) hown hK hP 1 rfl rfl 3 (by decide) (va_Nw.use rfl (zN_RX2_63 hZN)) (fun _ h9 => h9) rfl dX2_leaks_29 ?_
        refine lv_iload_n hx hb dX2_leaks_32 rfl (lv_at hl 1 rfl) ?_
        refine va_iald hx hb hK hP 3 1 rfl rfl (vp_in_nI (by omega) (by omega)) dX2_leaks_33 ?_
        refine lv_topi (fun x3 ex3 => ?_)
        rw [nI_clamp (show ru < 2 ^ 31 by omega)] at ex3
        obtain rfl : x3 = 6 := ex3.trans (hc _ (by omega))
        refine lv_icmp_ge (tgt := 60) hx hb dX2_leaks_34 (by decide) (fun c4 => ?_) (fun c4 => ?_)
        · have nc4 : 6 ≤ i := (nI_leI (a := 6) (b := i) (by omega) (by omega)).mp c4
          refine lv_iload_n hx hb dX2_leaks_60 rfl (lv_at hl 2 rfl) ?_
          refine lv_iload hx hb dX2_leaks_61 (lv_at hl 4 rfl) ?_
          refine lv_bipush (v := 8) hx hb dX2_leaks_63 (by decide) ?_
          refine lv_aload_n hx hb dX2_leaks_65 rfl (lv_at hl 0 rfl) ?_
          refine va_get (D := (dC, dI)) (ci := 2) (v := .ref hm) (C := RX2) (T := TX2) (N := 10) hx hb hts (by decide +kernel) hown hK hP 0 rfl rfl 9 (by decide) (hts (.fieldLink RX2 3 "ThatchRoofModel$State" "this$0" "LThatchRoofModel;") (by decide +kernel)) (fun _ h9 => h9) rfl dX2_leaks_66 ?_
          refine va_getN (D := (dC, dI)) (ci := 3) (v := .ref co) (C := RX3) (T := TX3) (N := 10) hx hb hts (by decide +kernel) hown hK hP 1 rfl rfl 3 (by decide) (va_Nw.use rfl (zN_RX2_63 hZN)) (fun _ h9 => h9) rfl dX2_leaks_69 ?_
          refine lv_iload_n hx hb dX2_leaks_72 rfl (lv_at hl 1 rfl) ?_
          refine va_iald hx hb hK hP 3 1 rfl rfl (vp_in_nI (by omega) (by omega)) dX2_leaks_73 ?_
          refine lv_topi (fun x5 ex5 => ?_)
          rw [nI_clamp (show ru < 2 ^ 31 by omega)] at ex5
          obtain rfl : x5 = 6 := ex5.trans (hc _ (by omega))
          refine lv_imul hx hb dX2_leaks_74 ?_
          refine W.eq (g2 := F0 m 75 ls [.int 48, .int 0, .int (nI j)]) rfl ?_
          refine lv_icmp_lt (tgt := 98) hx hb dX2_leaks_75 (by decide) (fun c6 => ?_) (fun c6 => absurd c6 (by decide))
          refine lv_iconst (v := 1) hx hb dX2_leaks_98 (by decide) ?_
          refine lv_goto (tgt := 103) hx hb dX2_leaks_99 (by decide) ?_
          refine lv_iadd hx hb dX2_leaks_103 ?_
          refine lv_topi (fun x7 ex7 => ?_)
          obtain rfl : x7 = nI (j + 1) := ex7.trans (nI_add j 1)
          refine lv_istore_n (lv' := [(2, .int (nI (j + 1))), (0, .ref sm), (1, .int (nI ru)), (3, .int (nI j)), (4, .int 0), (5, .int (nI i))]) hx hb dX2_leaks_104 rfl hl (by decide) rfl (fun ls hl => ?_)
          refine lv_iinc (v := nI (j + 1)) (lv' := [(3, .int (nI (j + 1))), (2, .int (nI (j + 1))), (0, .ref sm), (1, .int (nI ru)), (4, .int 0), (5, .int (nI i))]) hx hb dX2_leaks_105 hl (k := 3) rfl (by exact nI_1 j) (by decide) rfl (fun ls hl => ?_)
          refine lv_goto (tgt := 4) hx hb dX2_leaks_108 (by decide) ?_
          exact ih4 (j + 1) (by omega) (by omega) _ (lv_sub hl [2, 3, 1, 0] rfl)
        · have nc4 : i < 6 := Nat.lt_of_not_le (fun q => c4 ((nI_leI (a := 6) (b := i) (by omega) (by omega)).mpr q))
          refine lv_iload hx hb dX2_leaks_37 (lv_at hl 4 rfl) ?_
          refine lv_aload_n hx hb dX2_leaks_39 rfl (lv_at hl 0 rfl) ?_
          refine va_get (D := (dC, dI)) (ci := 2) (v := .ref gi) (C := RX2) (T := TX2) (N := 10) hx hb hts (by decide +kernel) hown hK hP 0 rfl rfl 5 (by decide) (hts (.fieldLink RX2 28 "ThatchRoofModel$State" "thick" "[I") (by decide +kernel)) (fun _ h9 => h9) rfl dX2_leaks_40 ?_
          refine lv_iload_n hx hb dX2_leaks_43 rfl (lv_at hl 1 rfl) ?_
          refine lv_iload hx hb dX2_leaks_44 (lv_at hl 5 rfl) ?_
          refine lv_iload_n hx hb dX2_leaks_46 rfl (lv_at hl 3 rfl) ?_
          refine vp_callSi (va_runSN (As := [.int (nI ru), .int (nI i), .int (nI j)]) (rest := [.ref gi, .int 0]) ⟨hx, hb, hml, hown, hts⟩ (r3_cell l dC dI ru i j ) ⟨va_cnB 3 hts gX2_leaks_X3_cell_n55 rfl rfl rfl (zN_RX2_55 hZN) (hts (.initialized RX3) (by decide +kernel)) (by decide +kernel) ⟨Nat.le_of_ble_eq_true rfl, Nat.le_of_ble_eq_true rfl⟩, hts (.static yX3_cell) (by decide +kernel), trivial⟩ ⟨fun a U g mk q => q, fun U hU hW => ⟨rfl, trivial⟩⟩ rfl rfl hl.1 rfl (lv_room (Nat.le_of_ble_eq_true rfl)) dX2_leaks_47 ⟨Nat.le_of_ble_eq_true rfl, Nat.le_of_ble_eq_true rfl⟩).run (fun r8 hr8 => ?_)
          have evr8_0 := hr8
          rw [evr8_0]
          refine va_iald hx hb hK hP 5 3 rfl rfl (vp_in_nI (by omega) (by omega)) dX2_leaks_50 ?_
          refine lv_topi (fun x9 ex9 => ?_)
          obtain rfl : x9 = 0 := ex9
          refine lv_iadd hx hb dX2_leaks_51 ?_
          refine W.eq (g2 := F0 m 52 ls [.int 0]) rfl ?_
          refine lv_istore (lv' := [(4, .int 0), (0, .ref sm), (1, .int (nI ru)), (2, .int (nI j)), (3, .int (nI j)), (5, .int (nI i))]) hx hb dX2_leaks_52 hl (by decide) rfl (fun ls hl => ?_)
          refine lv_iinc (v := nI (i + 1)) (lv' := [(5, .int (nI (i + 1))), (4, .int 0), (0, .ref sm), (1, .int (nI ru)), (2, .int (nI j)), (3, .int (nI j))]) hx hb dX2_leaks_54 hl (k := 5) rfl (by exact nI_1 i) (by decide) rfl (fun ls hl => ?_)
          refine lv_goto (tgt := 23) hx hb dX2_leaks_57 (by decide) ?_
          exact ih23 (i + 1) (by omega) (by omega) _ (lv_sub hl [2, 3, 4, 5, 1, 0] rfl)

set_option maxHeartbeats 4000000 in
set_option maxRecDepth 100000 in
theorem r3_yealmTold0 (l : Launch) (dC : Nat → ClassId) (dI : Nat → Nat → Nat) (sz : Nat) (hm : Nat) (wi : Nat) (co : Nat) (sl : Nat) (rn : Nat) (so : Nat) (bn : Nat) (sm : Nat) (ah : Nat) (th : Int32) (gr : Nat) (gt : Nat) (gw : Nat) (gk : Nat) (gi : Nat) (gp : Nat) (go : Nat) (gg : Nat) (d10 : ClassId) (d11 : ClassId) (d12 : ClassId) (d13 : ClassId) (fk : Nat → Int32) (ru : Nat) (cu : Nat) (pl : Nat) (hk : ∀ j : Nat, j < 360 → fk j = -1) (hru : ru < 6) (hcu : cu < 6) (hpl : pl < 10) : Met l yX3_yealmTold wsX3_yealmTold ({ frames := 3, cells := 1, slots := 6, locals := 68 }) (va_Pc [.ref hm, .int (nI ru), .int (nI cu), .int (nI pl), .int 0] (fun U => U.heap.size = sz ∧ va_P (dC, dI) vwCl [(hm, .inr (3, [.int th, .int 6, .ref wi, .ref co, .ref sl, .ref rn, .ref so, .ref bn, .ref sm, .ref ah])), (sm, .inr (2, [.int 0, .ref gr, .ref gt, .ref gw, .ref gk, .ref gi, .ref gp, .ref go, .ref gg, .ref hm])), (gk, .inl (d10, 360, .inl fk)), (gi, .inl (d11, 360, .inl (fun _ => 0))), (gp, .inl (d12, 360, .inl (fun _ => 0))), (go, .inl (d13, 360, .inl (fun _ => 0)))] U.heap ∧ va_K (dC, dI) vwCl [(d10, .int), (d11, .int), (d12, .int), (d13, .int)] U ∧ va_D (fun _ => True) [(hm, .inr (3, [.int th, .int 6, .ref wi, .ref co, .ref sl, .ref rn, .ref so, .ref bn, .ref sm, .ref ah])), (sm, .inr (2, [.int 0, .ref gr, .ref gt, .ref gw, .ref gk, .ref gi, .ref gp, .ref go, .ref gg, .ref hm])), (gk, .inl (d10, 360, .inl fk)), (gi, .inl (d11, 360, .inl (fun _ => 0))), (gp, .inl (d12, 360, .inl (fun _ => 0))), (go, .inl (d13, 360, .inl (fun _ => 0)))] ∧ zNs U)) (va_Qi (fun (r : Int32) (u : Unit) => r = 0) (fun (u : Unit) (t : State) => va_P (dC, dI) vwCl [(hm, .inr (3, [.int th, .int 6, .ref wi, .ref co, .ref sl, .ref rn, .ref so, .ref bn, .ref sm, .ref ah])), (sm, .inr (2, [.int 0, .ref gr, .ref gt, .ref gw, .ref gk, .ref gi, .ref gp, .ref go, .ref gg, .ref hm])), (gk, .inl (d10, 360, .inl fk)), (gi, .inl (d11, 360, .inl (fun _ => 0))), (gp, .inl (d12, 360, .inl (fun _ => 0))), (go, .inl (d13, 360, .inl (fun _ => 0)))] t.heap ∧ va_K (dC, dI) vwCl [] t ∧ va_D (va_A [(hm, .inr (3, [.int th, .int 6, .ref wi, .ref co, .ref sl, .ref rn, .ref so, .ref bn, .ref sm, .ref ah])), (sm, .inr (2, [.int 0, .ref gr, .ref gt, .ref gw, .ref gk, .ref gi, .ref gp, .ref go, .ref gg, .ref hm])), (gk, .inl (d10, 360, .inl fk)), (gi, .inl (d11, 360, .inl (fun _ => 0))), (gp, .inl (d12, 360, .inl (fun _ => 0))), (go, .inl (d13, 360, .inl (fun _ => 0)))] sz) [(hm, .inr (3, [.int th, .int 6, .ref wi, .ref co, .ref sl, .ref rn, .ref so, .ref bn, .ref sm, .ref ah])), (sm, .inr (2, [.int 0, .ref gr, .ref gt, .ref gw, .ref gk, .ref gi, .ref gp, .ref go, .ref gg, .ref hm])), (gk, .inl (d10, 360, .inl fk)), (gi, .inl (d11, 360, .inl (fun _ => 0))), (gp, .inl (d12, 360, .inl (fun _ => 0))), (go, .inl (d13, 360, .inl (fun _ => 0)))] ∧ sz + 1 ≤ t.heap.size) (va_A [(hm, .inr (3, [.int th, .int 6, .ref wi, .ref co, .ref sl, .ref rn, .ref so, .ref bn, .ref sm, .ref ah])), (sm, .inr (2, [.int 0, .ref gr, .ref gt, .ref gw, .ref gk, .ref gi, .ref gp, .ref go, .ref gg, .ref hm])), (gk, .inl (d10, 360, .inl fk)), (gi, .inl (d11, 360, .inl (fun _ => 0))), (gp, .inl (d12, 360, .inl (fun _ => 0))), (go, .inl (d13, 360, .inl (fun _ => 0)))] sz)) 1 6 (va_A [(hm, .inr (3, [.int th, .int 6, .ref wi, .ref co, .ref sl, .ref rn, .ref so, .ref bn, .ref sm, .ref ah])), (sm, .inr (2, [.int 0, .ref gr, .ref gt, .ref gw, .ref gk, .ref gi, .ref gp, .ref go, .ref gg, .ref hm])), (gk, .inl (d10, 360, .inl fk)), (gi, .inl (d11, 360, .inl (fun _ => 0))), (gp, .inl (d12, 360, .inl (fun _ => 0))), (go, .inl (d13, 360, .inl (fun _ => 0)))] sz) := by
  refine Met.ofW (cc := cX3_yealmTold) (maxL := 7) (ret := (some .int)) (by decide) rfl ?_
  intro p e s m args below meth c s₁ B hml hv
  obtain ⟨rfl, hsz, hP, hK, hD0, hZN⟩ := hv
  have hx := B.exec
  have hb := B.bytes
  have hr := B.returns
  have hts := atoms_spec (ws := wsX3_yealmTold) B.pre
  have hown : s.vm.findClass RX3 = some m.cls := findClass_of_methodNamed B.named
  have hlocks := B.notSynchronized
  subst hsz
  have hD := hD0.self (sz := s.heap.size)
  generalize hAe : va_A [(hm, .inr (3, [.int th, .int 6, .ref wi, .ref co, .ref sl, .ref rn, .ref so, .ref bn, .ref sm, .ref ah])), (sm, .inr (2, [.int 0, .ref gr, .ref gt, .ref gw, .ref gk, .ref gi, .ref gp, .ref go, .ref gg, .ref hm])), (gk, .inl (d10, 360, .inl fk)), (gi, .inl (d11, 360, .inl (fun _ => 0))), (gp, .inl (d12, 360, .inl (fun _ => 0))), (go, .inl (d13, 360, .inl (fun _ => 0)))] s.heap.size = A at hD ⊢
  have hA : ∀ q : Nat, s.heap.size ≤ q → A q := fun q h => by rw [← hAe]; exact Or.inr h
  have hS : va_S A s.heap s.heap [] := va_S.rf
  have hP : va_P (dC, dI) vwCl [(hm, .inr (3, [.int th, .int 6, .ref wi, .ref co, .ref sl, .ref rn, .ref so, .ref bn, .ref sm, .ref ah])), (sm, .inr (2, [.int 0, .ref gr, .ref gt, .ref gw, .ref gk, .ref gi, .ref gp, .ref go, .ref gg, .ref hm])), (gk, .inl (d10, 360, .inl fk)), (gi, .inl (d11, 360, .inl (fun _ => 0))), (gp, .inl (d12, 360, .inl (fun _ => 0))), (go, .inl (d13, 360, .inl (fun _ => 0)))] s.heap := hP
  have hl := lv_entry ([.ref hm, .int (nI ru), .int (nI cu), .int (nI pl), .int 0]) (n := 7) (Nat.le_of_ble_eq_true rfl)
  rw [lg_entry_eq]
  generalize (lg_sl ([.ref hm, .int (nI ru), .int (nI cu), .int (nI pl), .int 0]) ++ List.replicate (7 - (lg_sl ([.ref hm, .int (nI ru), .int (nI cu), .int (nI pl), .int 0])).length) Slot.unset).toArray = ls at hl ⊢
  have hl : lv_has ls 7 [(0, .ref hm), (1, .int (nI ru)), (2, .int (nI cu)), (3, .int (nI pl)), (4, .int 0)] := hl
  refine lv_iload_n hx hb dX3_yealmTold_0 rfl (lv_at hl 1 rfl) ?_
  refine lv_iload_n hx hb dX3_yealmTold_1 rfl (lv_at hl 2 rfl) ?_
  refine lv_iload_n hx hb dX3_yealmTold_2 rfl (lv_at hl 3 rfl) ?_
  refine vp_callSi (va_runS (As := [.int (nI ru), .int (nI cu), .int (nI pl)]) (rest := []) ⟨hx, hb, hml, hown, hts⟩ (r3_cell l dC dI ru cu pl ) (va_cwS 3 hts gX3_yealmTold_X3_cell rfl rfl rfl (by decide +kernel) ⟨Nat.le_of_ble_eq_true rfl, Nat.le_of_ble_eq_true rfl⟩) ⟨fun a U g mk q => q, fun U hU hW => ⟨rfl, trivial⟩⟩ rfl rfl hl.1 rfl (lv_room (Nat.le_of_ble_eq_true rfl)) dX3_yealmTold_3 ⟨Nat.le_of_ble_eq_true rfl, Nat.le_of_ble_eq_true rfl⟩).run (fun r1 hr1 => ?_)
  have evr1_0 := hr1
  rw [evr1_0]
  refine lv_istore (lv' := [(5, .int (nI (60 * ru + 10 * cu + pl))), (0, .ref hm), (1, .int (nI ru)), (2, .int (nI cu)), (3, .int (nI pl)), (4, .int 0)]) hx hb dX3_yealmTold_6 hl (by decide) rfl (fun ls hl => ?_)
  refine lv_bipush (v := 6) hx hb dX3_yealmTold_8 (by decide) ?_
  refine va_newa (atype := .int) (ty := .int) (N' := 6) (a0 := (6, .inl (fun _ => 0))) hx hb (hts (.arrayClass .int) (by decide +kernel)) rfl hK hP hD hS hA (fun _ => rfl) (by decide) (by decide) (by decide) (Nat.le_of_ble_eq_true rfl) (Nat.le_of_ble_eq_true rfl) dX3_yealmTold_10 (fun q2 cA3 H hK hP hD hS => ?_)
  refine W.widen (k := 1) (n := 6) (Nat.le_of_ble_eq_true rfl) (Nat.le_of_ble_eq_true rfl) ?_
  have hK : va_K (dC, dI) vwCl [(d10, .int), (d11, .int), (d12, .int), (d13, .int), (cA3, .int)] s := hK
  have hP : va_P (dC, dI) vwCl [(hm, .inr (3, [.int th, .int 6, .ref wi, .ref co, .ref sl, .ref rn, .ref so, .ref bn, .ref sm, .ref ah])), (sm, .inr (2, [.int 0, .ref gr, .ref gt, .ref gw, .ref gk, .ref gi, .ref gp, .ref go, .ref gg, .ref hm])), (gk, .inl (d10, 360, .inl fk)), (gi, .inl (d11, 360, .inl (fun _ => 0))), (gp, .inl (d12, 360, .inl (fun _ => 0))), (go, .inl (d13, 360, .inl (fun _ => 0))), (q2, .inl (cA3, 6, .inl (fun _ => 0)))] H := hP
  have hD : va_D A [(hm, .inr (3, [.int th, .int 6, .ref wi, .ref co, .ref sl, .ref rn, .ref so, .ref bn, .ref sm, .ref ah])), (sm, .inr (2, [.int 0, .ref gr, .ref gt, .ref gw, .ref gk, .ref gi, .ref gp, .ref go, .ref gg, .ref hm])), (gk, .inl (d10, 360, .inl fk)), (gi, .inl (d11, 360, .inl (fun _ => 0))), (gp, .inl (d12, 360, .inl (fun _ => 0))), (go, .inl (d13, 360, .inl (fun _ => 0))), (q2, .inl (cA3, 6, .inl (fun _ => 0)))] := hD
  refine lv_dup hx hb dX3_yealmTold_12 rfl ?_
  refine lv_iconst (v := 0) hx hb dX3_yealmTold_13 (by decide) ?_
  refine lv_aload_n hx hb dX3_yealmTold_14 rfl (lv_at hl 1 rfl) ?_
  refine va_get (D := (dC, dI)) (ci := 3) (v := .ref sm) (C := RX3) (T := TX3) (N := 10) hx hb hts (by decide +kernel) hown hK hP 0 rfl rfl 8 (by decide) (hts (.fieldLink RX3 33 "ThatchRoofModel" "s" "LThatchRoofModel$State;") (by decide +kernel)) (fun _ h9 => h9) rfl dX3_yealmTold_15 ?_
  refine va_getN (D := (dC, dI)) (ci := 2) (v := .ref gk) (C := RX2) (T := TX2) (N := 10) hx hb hts (by decide +kernel) hown hK hP 1 rfl rfl 4 (by decide) (va_Nw.use rfl (zN_RX3_86 hZN)) (fun _ h9 => h9) rfl dX3_yealmTold_18 ?_
  refine lv_iload hx hb dX3_yealmTold_21 (lv_at hl 0 rfl) ?_
  refine va_iald hx hb hK hP 2 0 rfl rfl (vp_in_nI (by omega) (by omega)) dX3_yealmTold_23 ?_
  refine lv_topi (fun x4 ex4 => ?_)
  rw [nI_clamp (show (60 * ru + 10 * cu + pl) < 2 ^ 31 by omega)] at ex4
  obtain rfl : x4 = (-1) := ex4.trans (hk _ (by omega))
  refine lv_iconst (v := (-1)) hx hb dX3_yealmTold_24 (by decide) ?_
  refine lv_icmp_ne (tgt := 32) hx hb dX3_yealmTold_25 (by decide) (fun c5 => absurd c5 (by decide)) (fun c5 => ?_)
  refine lv_iconst (v := 0) hx hb dX3_yealmTold_28 (by decide) ?_
  refine lv_goto (tgt := 33) hx hb dX3_yealmTold_29 (by decide) ?_
  refine va_iast hx hb hK hP hD hS 6 4 rfl rfl (vp_in_nI (n := 0) (by decide) (by decide)) dX3_yealmTold_33 (fun H locs hP hD hS => ?_)
  have hP : va_P (dC, dI) vwCl [(hm, .inr (3, [.int th, .int 6, .ref wi, .ref co, .ref sl, .ref rn, .ref so, .ref bn, .ref sm, .ref ah])), (sm, .inr (2, [.int 0, .ref gr, .ref gt, .ref gw, .ref gk, .ref gi, .ref gp, .ref go, .ref gg, .ref hm])), (gk, .inl (d10, 360, .inl fk)), (gi, .inl (d11, 360, .inl (fun _ => 0))), (gp, .inl (d12, 360, .inl (fun _ => 0))), (go, .inl (d13, 360, .inl (fun _ => 0))), (q2, .inl (cA3, 6, .inl (upd (fun _ => 0) 0 0)))] H := hP
  have hD : va_D A [(hm, .inr (3, [.int th, .int 6, .ref wi, .ref co, .ref sl, .ref rn, .ref so, .ref bn, .ref sm, .ref ah])), (sm, .inr (2, [.int 0, .ref gr, .ref gt, .ref gw, .ref gk, .ref gi, .ref gp, .ref go, .ref gg, .ref hm])), (gk, .inl (d10, 360, .inl fk)), (gi, .inl (d11, 360, .inl (fun _ => 0))), (gp, .inl (d12, 360, .inl (fun _ => 0))), (go, .inl (d13, 360, .inl (fun _ => 0))), (q2, .inl (cA3, 6, .inl (upd (fun _ => 0) 0 0)))] := hD
  refine lv_dup hx hb dX3_yealmTold_34 rfl ?_
  refine lv_iconst (v := 1) hx hb dX3_yealmTold_35 (by decide) ?_
  refine lv_aload_n hx hb dX3_yealmTold_36 rfl (lv_at hl 1 rfl) ?_
  refine va_get (D := (dC, dI)) (ci := 3) (v := .ref sm) (C := RX3) (T := TX3) (N := 10) hx hb hts (by decide +kernel) hown hK hP 0 rfl rfl 8 (by decide) (hts (.fieldLink RX3 33 "ThatchRoofModel" "s" "LThatchRoofModel$State;") (by decide +kernel)) (fun _ h9 => h9) rfl dX3_yealmTold_37 ?_
  refine va_getN (D := (dC, dI)) (ci := 2) (v := .ref gk) (C := RX2) (T := TX2) (N := 10) hx hb hts (by decide +kernel) hown hK hP 1 rfl rfl 4 (by decide) (va_Nw.use rfl (zN_RX3_86 hZN)) (fun _ h9 => h9) rfl dX3_yealmTold_40 ?_
  refine lv_iload hx hb dX3_yealmTold_43 (lv_at hl 0 rfl) ?_
  refine va_iald hx hb hK hP 2 0 rfl rfl (vp_in_nI (by omega) (by omega)) dX3_yealmTold_45 ?_
  refine lv_topi (fun x6 ex6 => ?_)
  rw [nI_clamp (show (60 * ru + 10 * cu + pl) < 2 ^ 31 by omega)] at ex6
  obtain rfl : x6 = (-1) := ex6.trans (hk _ (by omega))
  refine va_iast hx hb hK hP hD hS 6 4 rfl rfl (vp_in_nI (n := 1) (by decide) (by decide)) dX3_yealmTold_46 (fun H locs hP hD hS => ?_)
  have hP : va_P (dC, dI) vwCl [(hm, .inr (3, [.int th, .int 6, .ref wi, .ref co, .ref sl, .ref rn, .ref so, .ref bn, .ref sm, .ref ah])), (sm, .inr (2, [.int 0, .ref gr, .ref gt, .ref gw, .ref gk, .ref gi, .ref gp, .ref go, .ref gg, .ref hm])), (gk, .inl (d10, 360, .inl fk)), (gi, .inl (d11, 360, .inl (fun _ => 0))), (gp, .inl (d12, 360, .inl (fun _ => 0))), (go, .inl (d13, 360, .inl (fun _ => 0))), (q2, .inl (cA3, 6, .inl (upd (upd (fun _ => 0) 0 0) 1 (-1))))] H := hP
  have hD : va_D A [(hm, .inr (3, [.int th, .int 6, .ref wi, .ref co, .ref sl, .ref rn, .ref so, .ref bn, .ref sm, .ref ah])), (sm, .inr (2, [.int 0, .ref gr, .ref gt, .ref gw, .ref gk, .ref gi, .ref gp, .ref go, .ref gg, .ref hm])), (gk, .inl (d10, 360, .inl fk)), (gi, .inl (d11, 360, .inl (fun _ => 0))), (gp, .inl (d12, 360, .inl (fun _ => 0))), (go, .inl (d13, 360, .inl (fun _ => 0))), (q2, .inl (cA3, 6, .inl (upd (upd (fun _ => 0) 0 0) 1 (-1))))] := hD
  refine lv_dup hx hb dX3_yealmTold_47 rfl ?_
  refine lv_iconst (v := 2) hx hb dX3_yealmTold_48 (by decide) ?_
  refine lv_aload_n hx hb dX3_yealmTold_49 rfl (lv_at hl 1 rfl) ?_
  refine va_get (D := (dC, dI)) (ci := 3) (v := .ref sm) (C := RX3) (T := TX3) (N := 10) hx hb hts (by decide +kernel) hown hK hP 0 rfl rfl 8 (by decide) (hts (.fieldLink RX3 33 "ThatchRoofModel" "s" "LThatchRoofModel$State;") (by decide +kernel)) (fun _ h9 => h9) rfl dX3_yealmTold_50 ?_
  refine va_getN (D := (dC, dI)) (ci := 2) (v := .ref gi) (C := RX2) (T := TX2) (N := 10) hx hb hts (by decide +kernel) hown hK hP 1 rfl rfl 5 (by decide) (va_Nw.use rfl (zN_RX3_93 hZN)) (fun _ h9 => h9) rfl dX3_yealmTold_53 ?_
  refine lv_iload hx hb dX3_yealmTold_56 (lv_at hl 0 rfl) ?_
  refine va_iald hx hb hK hP 3 1 rfl rfl (vp_in_nI (by omega) (by omega)) dX3_yealmTold_58 ?_
  refine lv_topi (fun x7 ex7 => ?_)
  obtain rfl : x7 = 0 := ex7
  refine va_iast hx hb hK hP hD hS 6 4 rfl rfl (vp_in_nI (n := 2) (by decide) (by decide)) dX3_yealmTold_59 (fun H locs hP hD hS => ?_)
  have hP : va_P (dC, dI) vwCl [(hm, .inr (3, [.int th, .int 6, .ref wi, .ref co, .ref sl, .ref rn, .ref so, .ref bn, .ref sm, .ref ah])), (sm, .inr (2, [.int 0, .ref gr, .ref gt, .ref gw, .ref gk, .ref gi, .ref gp, .ref go, .ref gg, .ref hm])), (gk, .inl (d10, 360, .inl fk)), (gi, .inl (d11, 360, .inl (fun _ => 0))), (gp, .inl (d12, 360, .inl (fun _ => 0))), (go, .inl (d13, 360, .inl (fun _ => 0))), (q2, .inl (cA3, 6, .inl (upd (upd (upd (fun _ => 0) 0 0) 1 (-1)) 2 0)))] H := hP
  have hD : va_D A [(hm, .inr (3, [.int th, .int 6, .ref wi, .ref co, .ref sl, .ref rn, .ref so, .ref bn, .ref sm, .ref ah])), (sm, .inr (2, [.int 0, .ref gr, .ref gt, .ref gw, .ref gk, .ref gi, .ref gp, .ref go, .ref gg, .ref hm])), (gk, .inl (d10, 360, .inl fk)), (gi, .inl (d11, 360, .inl (fun _ => 0))), (gp, .inl (d12, 360, .inl (fun _ => 0))), (go, .inl (d13, 360, .inl (fun _ => 0))), (q2, .inl (cA3, 6, .inl (upd (upd (upd (fun _ => 0) 0 0) 1 (-1)) 2 0)))] := hD
  refine lv_dup hx hb dX3_yealmTold_60 rfl ?_
  refine lv_iconst (v := 3) hx hb dX3_yealmTold_61 (by decide) ?_
  refine lv_aload_n hx hb dX3_yealmTold_62 rfl (lv_at hl 1 rfl) ?_
  refine va_get (D := (dC, dI)) (ci := 3) (v := .ref sm) (C := RX3) (T := TX3) (N := 10) hx hb hts (by decide +kernel) hown hK hP 0 rfl rfl 8 (by decide) (hts (.fieldLink RX3 33 "ThatchRoofModel" "s" "LThatchRoofModel$State;") (by decide +kernel)) (fun _ h9 => h9) rfl dX3_yealmTold_63 ?_
  refine va_getN (D := (dC, dI)) (ci := 2) (v := .ref gp) (C := RX2) (T := TX2) (N := 10) hx hb hts (by decide +kernel) hown hK hP 1 rfl rfl 6 (by decide) (va_Nw.use rfl (zN_RX3_96 hZN)) (fun _ h9 => h9) rfl dX3_yealmTold_66 ?_
  refine lv_iload hx hb dX3_yealmTold_69 (lv_at hl 0 rfl) ?_
  refine va_iald hx hb hK hP 4 2 rfl rfl (vp_in_nI (by omega) (by omega)) dX3_yealmTold_71 ?_
  refine lv_topi (fun x8 ex8 => ?_)
  obtain rfl : x8 = 0 := ex8
  refine va_iast hx hb hK hP hD hS 6 4 rfl rfl (vp_in_nI (n := 3) (by decide) (by decide)) dX3_yealmTold_72 (fun H locs hP hD hS => ?_)
  have hP : va_P (dC, dI) vwCl [(hm, .inr (3, [.int th, .int 6, .ref wi, .ref co, .ref sl, .ref rn, .ref so, .ref bn, .ref sm, .ref ah])), (sm, .inr (2, [.int 0, .ref gr, .ref gt, .ref gw, .ref gk, .ref gi, .ref gp, .ref go, .ref gg, .ref hm])), (gk, .inl (d10, 360, .inl fk)), (gi, .inl (d11, 360, .inl (fun _ => 0))), (gp, .inl (d12, 360, .inl (fun _ => 0))), (go, .inl (d13, 360, .inl (fun _ => 0))), (q2, .inl (cA3, 6, .inl (upd (upd (upd (upd (fun _ => 0) 0 0) 1 (-1)) 2 0) 3 0)))] H := hP
  have hD : va_D A [(hm, .inr (3, [.int th, .int 6, .ref wi, .ref co, .ref sl, .ref rn, .ref so, .ref bn, .ref sm, .ref ah])), (sm, .inr (2, [.int 0, .ref gr, .ref gt, .ref gw, .ref gk, .ref gi, .ref gp, .ref go, .ref gg, .ref hm])), (gk, .inl (d10, 360, .inl fk)), (gi, .inl (d11, 360, .inl (fun _ => 0))), (gp, .inl (d12, 360, .inl (fun _ => 0))), (go, .inl (d13, 360, .inl (fun _ => 0))), (q2, .inl (cA3, 6, .inl (upd (upd (upd (upd (fun _ => 0) 0 0) 1 (-1)) 2 0) 3 0)))] := hD
  refine lv_dup hx hb dX3_yealmTold_73 rfl ?_
  refine lv_iconst (v := 4) hx hb dX3_yealmTold_74 (by decide) ?_
  refine lv_aload_n hx hb dX3_yealmTold_75 rfl (lv_at hl 1 rfl) ?_
  refine va_get (D := (dC, dI)) (ci := 3) (v := .ref sm) (C := RX3) (T := TX3) (N := 10) hx hb hts (by decide +kernel) hown hK hP 0 rfl rfl 8 (by decide) (hts (.fieldLink RX3 33 "ThatchRoofModel" "s" "LThatchRoofModel$State;") (by decide +kernel)) (fun _ h9 => h9) rfl dX3_yealmTold_76 ?_
  refine va_getN (D := (dC, dI)) (ci := 2) (v := .ref go) (C := RX2) (T := TX2) (N := 10) hx hb hts (by decide +kernel) hown hK hP 1 rfl rfl 7 (by decide) (va_Nw.use rfl (zN_RX3_99 hZN)) (fun _ h9 => h9) rfl dX3_yealmTold_79 ?_
  refine lv_iload hx hb dX3_yealmTold_82 (lv_at hl 0 rfl) ?_
  refine va_iald hx hb hK hP 5 3 rfl rfl (vp_in_nI (by omega) (by omega)) dX3_yealmTold_84 ?_
  refine lv_topi (fun x9 ex9 => ?_)
  obtain rfl : x9 = 0 := ex9
  refine va_iast hx hb hK hP hD hS 6 4 rfl rfl (vp_in_nI (n := 4) (by decide) (by decide)) dX3_yealmTold_85 (fun H locs hP hD hS => ?_)
  have hP : va_P (dC, dI) vwCl [(hm, .inr (3, [.int th, .int 6, .ref wi, .ref co, .ref sl, .ref rn, .ref so, .ref bn, .ref sm, .ref ah])), (sm, .inr (2, [.int 0, .ref gr, .ref gt, .ref gw, .ref gk, .ref gi, .ref gp, .ref go, .ref gg, .ref hm])), (gk, .inl (d10, 360, .inl fk)), (gi, .inl (d11, 360, .inl (fun _ => 0))), (gp, .inl (d12, 360, .inl (fun _ => 0))), (go, .inl (d13, 360, .inl (fun _ => 0))), (q2, .inl (cA3, 6, .inl (upd (upd (upd (upd (upd (fun _ => 0) 0 0) 1 (-1)) 2 0) 3 0) 4 0)))] H := hP
  have hD : va_D A [(hm, .inr (3, [.int th, .int 6, .ref wi, .ref co, .ref sl, .ref rn, .ref so, .ref bn, .ref sm, .ref ah])), (sm, .inr (2, [.int 0, .ref gr, .ref gt, .ref gw, .ref gk, .ref gi, .ref gp, .ref go, .ref gg, .ref hm])), (gk, .inl (d10, 360, .inl fk)), (gi, .inl (d11, 360, .inl (fun _ => 0))), (gp, .inl (d12, 360, .inl (fun _ => 0))), (go, .inl (d13, 360, .inl (fun _ => 0))), (q2, .inl (cA3, 6, .inl (upd (upd (upd (upd (upd (fun _ => 0) 0 0) 1 (-1)) 2 0) 3 0) 4 0)))] := hD
  refine lv_dup hx hb dX3_yealmTold_86 rfl ?_
  refine lv_iconst (v := 5) hx hb dX3_yealmTold_87 (by decide) ?_
  refine lv_aload_n hx hb dX3_yealmTold_88 rfl (lv_at hl 1 rfl) ?_
  refine va_get (D := (dC, dI)) (ci := 3) (v := .ref sm) (C := RX3) (T := TX3) (N := 10) hx hb hts (by decide +kernel) hown hK hP 0 rfl rfl 8 (by decide) (hts (.fieldLink RX3 33 "ThatchRoofModel" "s" "LThatchRoofModel$State;") (by decide +kernel)) (fun _ h9 => h9) rfl dX3_yealmTold_89 ?_
  refine lv_iload_n hx hb dX3_yealmTold_92 rfl (lv_at hl 2 rfl) ?_
  refine lv_iload_n hx hb dX3_yealmTold_93 rfl (lv_at hl 3 rfl) ?_
  refine lv_iload_n hx hb dX3_yealmTold_94 rfl (lv_at hl 4 rfl) ?_
  have hPc := hP.sub (ws' := [(sm, .inr (2, [.int 0, .ref gr, .ref gt, .ref gw, .ref gk, .ref gi, .ref gp, .ref go, .ref gg, .ref hm])), (gk, .inl (d10, 360, .inl fk))]) [1, 2] rfl
  have hKc := hK.sub (tys' := [(d10, .int)]) [0] rfl
  refine vp_callSi (va_runV (As := [.int (nI ru), .int (nI cu), .int (nI pl)]) (rest := [.int 5, .ref q2, .ref q2]) ⟨hx, hb, hml, hown, hts⟩ (r2_isBare l dC dI sm hm gr gt gw gk gi gp go gg d10 fk ru cu pl (by first | assumption | decide | omega) (by first | assumption | decide | omega) (by first | assumption | decide | omega) (by first | assumption | decide | omega)) (cwV 3 hts gX3_yealmTold_X2_isBare rfl rfl rfl (by decide +kernel) ⟨Nat.le_of_ble_eq_true rfl, Nat.le_of_ble_eq_true rfl⟩) ⟨fun a U g mk q => by obtain ⟨q0, qP, qK, qN⟩ := q; exact ⟨q0, qP, va_K.moved (u := U) (U := U.calling g mk a) (Vm.Alike.refl U.vm) qK, zNs.calling qN⟩, va_recv hKc hPc (ci := 2) (q0 := 0) rfl rfl, fun U hU hW => ⟨rfl, by rw [hU]; exact hPc, va_K.moved hW.alike hKc, zNs.warm hW hZN⟩⟩ rfl rfl hl.1 rfl (lv_room (Nat.le_of_ble_eq_true rfl)) dX3_yealmTold_95 ⟨Nat.le_of_ble_eq_true rfl, Nat.le_of_ble_eq_true rfl⟩).run (fun r10 hr10 => ?_)
  obtain rfl := hr10
  refine lv_if_eq (tgt := 105) hx hb dX3_yealmTold_98 (by decide) (fun c11 => ?_) (fun c11 => absurd c11 (by decide))
  refine lv_iconst (v := 0) hx hb dX3_yealmTold_105 (by decide) ?_
  refine va_iast hx hb hK hP hD hS 6 4 rfl rfl (vp_in_nI (n := 5) (by decide) (by decide)) dX3_yealmTold_106 (fun H locs hP hD hS => ?_)
  have hP : va_P (dC, dI) vwCl [(hm, .inr (3, [.int th, .int 6, .ref wi, .ref co, .ref sl, .ref rn, .ref so, .ref bn, .ref sm, .ref ah])), (sm, .inr (2, [.int 0, .ref gr, .ref gt, .ref gw, .ref gk, .ref gi, .ref gp, .ref go, .ref gg, .ref hm])), (gk, .inl (d10, 360, .inl fk)), (gi, .inl (d11, 360, .inl (fun _ => 0))), (gp, .inl (d12, 360, .inl (fun _ => 0))), (go, .inl (d13, 360, .inl (fun _ => 0))), (q2, .inl (cA3, 6, .inl (upd (upd (upd (upd (upd (upd (fun _ => 0) 0 0) 1 (-1)) 2 0) 3 0) 4 0) 5 0)))] H := hP
  have hD : va_D A [(hm, .inr (3, [.int th, .int 6, .ref wi, .ref co, .ref sl, .ref rn, .ref so, .ref bn, .ref sm, .ref ah])), (sm, .inr (2, [.int 0, .ref gr, .ref gt, .ref gw, .ref gk, .ref gi, .ref gp, .ref go, .ref gg, .ref hm])), (gk, .inl (d10, 360, .inl fk)), (gi, .inl (d11, 360, .inl (fun _ => 0))), (gp, .inl (d12, 360, .inl (fun _ => 0))), (go, .inl (d13, 360, .inl (fun _ => 0))), (q2, .inl (cA3, 6, .inl (upd (upd (upd (upd (upd (upd (fun _ => 0) 0 0) 1 (-1)) 2 0) 3 0) 4 0) 5 0)))] := hD
  refine lv_astore (lv' := [(6, .ref q2), (5, .int (nI (60 * ru + 10 * cu + pl))), (0, .ref hm), (1, .int (nI ru)), (2, .int (nI cu)), (3, .int (nI pl)), (4, .int 0)]) hx hb dX3_yealmTold_107 hl (by decide) rfl (fun ls hl => ?_)
  refine lv_aload hx hb dX3_yealmTold_109 (lv_at hl 0 rfl) ?_
  refine lv_iload hx hb dX3_yealmTold_111 (lv_at hl 6 rfl) ?_
  refine va_iald hx hb hK hP 6 4 rfl rfl (vp_in_nI (n := 0) (by decide) (by decide)) dX3_yealmTold_113 ?_
  refine lv_topi (fun x12 ex12 => ?_)
  obtain rfl : x12 = 0 := ex12
  have hP9 := hP.sub (ws' := [(hm, .inr (3, [.int th, .int 6, .ref wi, .ref co, .ref sl, .ref rn, .ref so, .ref bn, .ref sm, .ref ah])), (sm, .inr (2, [.int 0, .ref gr, .ref gt, .ref gw, .ref gk, .ref gi, .ref gp, .ref go, .ref gg, .ref hm])), (gk, .inl (d10, 360, .inl fk)), (gi, .inl (d11, 360, .inl (fun _ => 0))), (gp, .inl (d12, 360, .inl (fun _ => 0))), (go, .inl (d13, 360, .inl (fun _ => 0)))]) [0, 1, 2, 3, 4, 5] rfl
  have hD9 := hD.sub (ws' := [(hm, .inr (3, [.int th, .int 6, .ref wi, .ref co, .ref sl, .ref rn, .ref so, .ref bn, .ref sm, .ref ah])), (sm, .inr (2, [.int 0, .ref gr, .ref gt, .ref gw, .ref gk, .ref gi, .ref gp, .ref go, .ref gg, .ref hm])), (gk, .inl (d10, 360, .inl fk)), (gi, .inl (d11, 360, .inl (fun _ => 0))), (gp, .inl (d12, 360, .inl (fun _ => 0))), (go, .inl (d13, 360, .inl (fun _ => 0)))]) [0, 1, 2, 3, 4, 5] (by decide) rfl
  have hK9 := hK.sub (tys' := []) [] rfl
  refine W.widen (k := 1) (n := 6) (Nat.le_of_ble_eq_true rfl) (Nat.le_of_ble_eq_true rfl) ?_
  have hZ := zz_one hAe hD hP 6 [0, 1, 2, 3, 4, 5] rfl rfl (by decide)
  exact W.iret (v := 0) hx hb hr (fun t ht hW => ⟨⟨0, (), rfl, by (first | rfl | assumption | decide | (simp_all; done) | grind), ⟨by rw [ht]; exact hP9, va_K.moved hW.alike hK9, hD9, by rw [ht]; omega⟩⟩, hS.F ht⟩) hS.2.2 dX3_yealmTold_114

set_option maxHeartbeats 4000000 in
set_option maxRecDepth 100000 in
theorem r3_yealmTold1 (l : Launch) (dC : Nat → ClassId) (dI : Nat → Nat → Nat) (sz : Nat) (hm : Nat) (wi : Nat) (co : Nat) (sl : Nat) (rn : Nat) (so : Nat) (bn : Nat) (sm : Nat) (ah : Nat) (th : Int32) (gr : Nat) (gt : Nat) (gw : Nat) (gk : Nat) (gi : Nat) (gp : Nat) (go : Nat) (gg : Nat) (d10 : ClassId) (d11 : ClassId) (d12 : ClassId) (d13 : ClassId) (fk : Nat → Int32) (ru : Nat) (cu : Nat) (pl : Nat) (hk : ∀ j : Nat, j < 360 → fk j = -1) (hru : ru < 6) (hcu : cu < 6) (hpl : pl < 10) : Met l yX3_yealmTold wsX3_yealmTold ({ frames := 3, cells := 1, slots := 6, locals := 68 }) (va_Pc [.ref hm, .int (nI ru), .int (nI cu), .int (nI pl), .int 1] (fun U => U.heap.size = sz ∧ va_P (dC, dI) vwCl [(hm, .inr (3, [.int th, .int 6, .ref wi, .ref co, .ref sl, .ref rn, .ref so, .ref bn, .ref sm, .ref ah])), (sm, .inr (2, [.int 0, .ref gr, .ref gt, .ref gw, .ref gk, .ref gi, .ref gp, .ref go, .ref gg, .ref hm])), (gk, .inl (d10, 360, .inl fk)), (gi, .inl (d11, 360, .inl (fun _ => 0))), (gp, .inl (d12, 360, .inl (fun _ => 0))), (go, .inl (d13, 360, .inl (fun _ => 0)))] U.heap ∧ va_K (dC, dI) vwCl [(d10, .int), (d11, .int), (d12, .int), (d13, .int)] U ∧ va_D (fun _ => True) [(hm, .inr (3, [.int th, .int 6, .ref wi, .ref co, .ref sl, .ref rn, .ref so, .ref bn, .ref sm, .ref ah])), (sm, .inr (2, [.int 0, .ref gr, .ref gt, .ref gw, .ref gk, .ref gi, .ref gp, .ref go, .ref gg, .ref hm])), (gk, .inl (d10, 360, .inl fk)), (gi, .inl (d11, 360, .inl (fun _ => 0))), (gp, .inl (d12, 360, .inl (fun _ => 0))), (go, .inl (d13, 360, .inl (fun _ => 0)))] ∧ zNs U)) (va_Qi (fun (r : Int32) (u : Unit) => r = (-1)) (fun (u : Unit) (t : State) => va_P (dC, dI) vwCl [(hm, .inr (3, [.int th, .int 6, .ref wi, .ref co, .ref sl, .ref rn, .ref so, .ref bn, .ref sm, .ref ah])), (sm, .inr (2, [.int 0, .ref gr, .ref gt, .ref gw, .ref gk, .ref gi, .ref gp, .ref go, .ref gg, .ref hm])), (gk, .inl (d10, 360, .inl fk)), (gi, .inl (d11, 360, .inl (fun _ => 0))), (gp, .inl (d12, 360, .inl (fun _ => 0))), (go, .inl (d13, 360, .inl (fun _ => 0)))] t.heap ∧ va_K (dC, dI) vwCl [] t ∧ va_D (va_A [(hm, .inr (3, [.int th, .int 6, .ref wi, .ref co, .ref sl, .ref rn, .ref so, .ref bn, .ref sm, .ref ah])), (sm, .inr (2, [.int 0, .ref gr, .ref gt, .ref gw, .ref gk, .ref gi, .ref gp, .ref go, .ref gg, .ref hm])), (gk, .inl (d10, 360, .inl fk)), (gi, .inl (d11, 360, .inl (fun _ => 0))), (gp, .inl (d12, 360, .inl (fun _ => 0))), (go, .inl (d13, 360, .inl (fun _ => 0)))] sz) [(hm, .inr (3, [.int th, .int 6, .ref wi, .ref co, .ref sl, .ref rn, .ref so, .ref bn, .ref sm, .ref ah])), (sm, .inr (2, [.int 0, .ref gr, .ref gt, .ref gw, .ref gk, .ref gi, .ref gp, .ref go, .ref gg, .ref hm])), (gk, .inl (d10, 360, .inl fk)), (gi, .inl (d11, 360, .inl (fun _ => 0))), (gp, .inl (d12, 360, .inl (fun _ => 0))), (go, .inl (d13, 360, .inl (fun _ => 0)))] ∧ sz + 1 ≤ t.heap.size) (va_A [(hm, .inr (3, [.int th, .int 6, .ref wi, .ref co, .ref sl, .ref rn, .ref so, .ref bn, .ref sm, .ref ah])), (sm, .inr (2, [.int 0, .ref gr, .ref gt, .ref gw, .ref gk, .ref gi, .ref gp, .ref go, .ref gg, .ref hm])), (gk, .inl (d10, 360, .inl fk)), (gi, .inl (d11, 360, .inl (fun _ => 0))), (gp, .inl (d12, 360, .inl (fun _ => 0))), (go, .inl (d13, 360, .inl (fun _ => 0)))] sz)) 1 6 (va_A [(hm, .inr (3, [.int th, .int 6, .ref wi, .ref co, .ref sl, .ref rn, .ref so, .ref bn, .ref sm, .ref ah])), (sm, .inr (2, [.int 0, .ref gr, .ref gt, .ref gw, .ref gk, .ref gi, .ref gp, .ref go, .ref gg, .ref hm])), (gk, .inl (d10, 360, .inl fk)), (gi, .inl (d11, 360, .inl (fun _ => 0))), (gp, .inl (d12, 360, .inl (fun _ => 0))), (go, .inl (d13, 360, .inl (fun _ => 0)))] sz) := by
  refine Met.ofW (cc := cX3_yealmTold) (maxL := 7) (ret := (some .int)) (by decide) rfl ?_
  intro p e s m args below meth c s₁ B hml hv
  obtain ⟨rfl, hsz, hP, hK, hD0, hZN⟩ := hv
  have hx := B.exec
  have hb := B.bytes
  have hr := B.returns
  have hts := atoms_spec (ws := wsX3_yealmTold) B.pre
  have hown : s.vm.findClass RX3 = some m.cls := findClass_of_methodNamed B.named
  have hlocks := B.notSynchronized
  subst hsz
  have hD := hD0.self (sz := s.heap.size)
  generalize hAe : va_A [(hm, .inr (3, [.int th, .int 6, .ref wi, .ref co, .ref sl, .ref rn, .ref so, .ref bn, .ref sm, .ref ah])), (sm, .inr (2, [.int 0, .ref gr, .ref gt, .ref gw, .ref gk, .ref gi, .ref gp, .ref go, .ref gg, .ref hm])), (gk, .inl (d10, 360, .inl fk)), (gi, .inl (d11, 360, .inl (fun _ => 0))), (gp, .inl (d12, 360, .inl (fun _ => 0))), (go, .inl (d13, 360, .inl (fun _ => 0)))] s.heap.size = A at hD ⊢
  have hA : ∀ q : Nat, s.heap.size ≤ q → A q := fun q h => by rw [← hAe]; exact Or.inr h
  have hS : va_S A s.heap s.heap [] := va_S.rf
  have hP : va_P (dC, dI) vwCl [(hm, .inr (3, [.int th, .int 6, .ref wi, .ref co, .ref sl, .ref rn, .ref so, .ref bn, .ref sm, .ref ah])), (sm, .inr (2, [.int 0, .ref gr, .ref gt, .ref gw, .ref gk, .ref gi, .ref gp, .ref go, .ref gg, .ref hm])), (gk, .inl (d10, 360, .inl fk)), (gi, .inl (d11, 360, .inl (fun _ => 0))), (gp, .inl (d12, 360, .inl (fun _ => 0))), (go, .inl (d13, 360, .inl (fun _ => 0)))] s.heap := hP
  have hl := lv_entry ([.ref hm, .int (nI ru), .int (nI cu), .int (nI pl), .int 1]) (n := 7) (Nat.le_of_ble_eq_true rfl)
  rw [lg_entry_eq]
  generalize (lg_sl ([.ref hm, .int (nI ru), .int (nI cu), .int (nI pl), .int 1]) ++ List.replicate (7 - (lg_sl ([.ref hm, .int (nI ru), .int (nI cu), .int (nI pl), .int 1])).length) Slot.unset).toArray = ls at hl ⊢
  have hl : lv_has ls 7 [(0, .ref hm), (1, .int (nI ru)), (2, .int (nI cu)), (3, .int (nI pl)), (4, .int 1)] := hl
  refine lv_iload_n hx hb dX3_yealmTold_0 rfl (lv_at hl 1 rfl) ?_
  refine lv_iload_n hx hb dX3_yealmTold_1 rfl (lv_at hl 2 rfl) ?_
  refine lv_iload_n hx hb dX3_yealmTold_2 rfl (lv_at hl 3 rfl) ?_
  refine vp_callSi (va_runS (As := [.int (nI ru), .int (nI cu), .int (nI pl)]) (rest := []) ⟨hx, hb, hml, hown, hts⟩ (r3_cell l dC dI ru cu pl ) (va_cwS 3 hts gX3_yealmTold_X3_cell rfl rfl rfl (by decide +kernel) ⟨Nat.le_of_ble_eq_true rfl, Nat.le_of_ble_eq_true rfl⟩) ⟨fun a U g mk q => q, fun U hU hW => ⟨rfl, trivial⟩⟩ rfl rfl hl.1 rfl (lv_room (Nat.le_of_ble_eq_true rfl)) dX3_yealmTold_3 ⟨Nat.le_of_ble_eq_true rfl, Nat.le_of_ble_eq_true rfl⟩).run (fun r1 hr1 => ?_)
  have evr1_0 := hr1
  rw [evr1_0]
  refine lv_istore (lv' := [(5, .int (nI (60 * ru + 10 * cu + pl))), (0, .ref hm), (1, .int (nI ru)), (2, .int (nI cu)), (3, .int (nI pl)), (4, .int 1)]) hx hb dX3_yealmTold_6 hl (by decide) rfl (fun ls hl => ?_)
  refine lv_bipush (v := 6) hx hb dX3_yealmTold_8 (by decide) ?_
  refine va_newa (atype := .int) (ty := .int) (N' := 6) (a0 := (6, .inl (fun _ => 0))) hx hb (hts (.arrayClass .int) (by decide +kernel)) rfl hK hP hD hS hA (fun _ => rfl) (by decide) (by decide) (by decide) (Nat.le_of_ble_eq_true rfl) (Nat.le_of_ble_eq_true rfl) dX3_yealmTold_10 (fun q2 cA3 H hK hP hD hS => ?_)
  refine W.widen (k := 1) (n := 6) (Nat.le_of_ble_eq_true rfl) (Nat.le_of_ble_eq_true rfl) ?_
  have hK : va_K (dC, dI) vwCl [(d10, .int), (d11, .int), (d12, .int), (d13, .int), (cA3, .int)] s := hK
  have hP : va_P (dC, dI) vwCl [(hm, .inr (3, [.int th, .int 6, .ref wi, .ref co, .ref sl, .ref rn, .ref so, .ref bn, .ref sm, .ref ah])), (sm, .inr (2, [.int 0, .ref gr, .ref gt, .ref gw, .ref gk, .ref gi, .ref gp, .ref go, .ref gg, .ref hm])), (gk, .inl (d10, 360, .inl fk)), (gi, .inl (d11, 360, .inl (fun _ => 0))), (gp, .inl (d12, 360, .inl (fun _ => 0))), (go, .inl (d13, 360, .inl (fun _ => 0))), (q2, .inl (cA3, 6, .inl (fun _ => 0)))] H := hP
  have hD : va_D A [(hm, .inr (3, [.int th, .int 6, .ref wi, .ref co, .ref sl, .ref rn, .ref so, .ref bn, .ref sm, .ref ah])), (sm, .inr (2, [.int 0, .ref gr, .ref gt, .ref gw, .ref gk, .ref gi, .ref gp, .ref go, .ref gg, .ref hm])), (gk, .inl (d10, 360, .inl fk)), (gi, .inl (d11, 360, .inl (fun _ => 0))), (gp, .inl (d12, 360, .inl (fun _ => 0))), (go, .inl (d13, 360, .inl (fun _ => 0))), (q2, .inl (cA3, 6, .inl (fun _ => 0)))] := hD
  refine lv_dup hx hb dX3_yealmTold_12 rfl ?_
  refine lv_iconst (v := 0) hx hb dX3_yealmTold_13 (by decide) ?_
  refine lv_aload_n hx hb dX3_yealmTold_14 rfl (lv_at hl 1 rfl) ?_
  refine va_get (D := (dC, dI)) (ci := 3) (v := .ref sm) (C := RX3) (T := TX3) (N := 10) hx hb hts (by decide +kernel) hown hK hP 0 rfl rfl 8 (by decide) (hts (.fieldLink RX3 33 "ThatchRoofModel" "s" "LThatchRoofModel$State;") (by decide +kernel)) (fun _ h9 => h9) rfl dX3_yealmTold_15 ?_
  refine va_getN (D := (dC, dI)) (ci := 2) (v := .ref gk) (C := RX2) (T := TX2) (N := 10) hx hb hts (by decide +kernel) hown hK hP 1 rfl rfl 4 (by decide) (va_Nw.use rfl (zN_RX3_86 hZN)) (fun _ h9 => h9) rfl dX3_yealmTold_18 ?_
  refine lv_iload hx hb dX3_yealmTold_21 (lv_at hl 0 rfl) ?_
  refine va_iald hx hb hK hP 2 0 rfl rfl (vp_in_nI (by omega) (by omega)) dX3_yealmTold_23 ?_
  refine lv_topi (fun x4 ex4 => ?_)
  rw [nI_clamp (show (60 * ru + 10 * cu + pl) < 2 ^ 31 by omega)] at ex4
  obtain rfl : x4 = (-1) := ex4.trans (hk _ (by omega))
  refine lv_iconst (v := (-1)) hx hb dX3_yealmTold_24 (by decide) ?_
  refine lv_icmp_ne (tgt := 32) hx hb dX3_yealmTold_25 (by decide) (fun c5 => absurd c5 (by decide)) (fun c5 => ?_)
  refine lv_iconst (v := 0) hx hb dX3_yealmTold_28 (by decide) ?_
  refine lv_goto (tgt := 33) hx hb dX3_yealmTold_29 (by decide) ?_
  refine va_iast hx hb hK hP hD hS 6 4 rfl rfl (vp_in_nI (n := 0) (by decide) (by decide)) dX3_yealmTold_33 (fun H locs hP hD hS => ?_)
  have hP : va_P (dC, dI) vwCl [(hm, .inr (3, [.int th, .int 6, .ref wi, .ref co, .ref sl, .ref rn, .ref so, .ref bn, .ref sm, .ref ah])), (sm, .inr (2, [.int 0, .ref gr, .ref gt, .ref gw, .ref gk, .ref gi, .ref gp, .ref go, .ref gg, .ref hm])), (gk, .inl (d10, 360, .inl fk)), (gi, .inl (d11, 360, .inl (fun _ => 0))), (gp, .inl (d12, 360, .inl (fun _ => 0))), (go, .inl (d13, 360, .inl (fun _ => 0))), (q2, .inl (cA3, 6, .inl (upd (fun _ => 0) 0 0)))] H := hP
  have hD : va_D A [(hm, .inr (3, [.int th, .int 6, .ref wi, .ref co, .ref sl, .ref rn, .ref so, .ref bn, .ref sm, .ref ah])), (sm, .inr (2, [.int 0, .ref gr, .ref gt, .ref gw, .ref gk, .ref gi, .ref gp, .ref go, .ref gg, .ref hm])), (gk, .inl (d10, 360, .inl fk)), (gi, .inl (d11, 360, .inl (fun _ => 0))), (gp, .inl (d12, 360, .inl (fun _ => 0))), (go, .inl (d13, 360, .inl (fun _ => 0))), (q2, .inl (cA3, 6, .inl (upd (fun _ => 0) 0 0)))] := hD
  refine lv_dup hx hb dX3_yealmTold_34 rfl ?_
  refine lv_iconst (v := 1) hx hb dX3_yealmTold_35 (by decide) ?_
  refine lv_aload_n hx hb dX3_yealmTold_36 rfl (lv_at hl 1 rfl) ?_
  refine va_get (D := (dC, dI)) (ci := 3) (v := .ref sm) (C := RX3) (T := TX3) (N := 10) hx hb hts (by decide +kernel) hown hK hP 0 rfl rfl 8 (by decide) (hts (.fieldLink RX3 33 "ThatchRoofModel" "s" "LThatchRoofModel$State;") (by decide +kernel)) (fun _ h9 => h9) rfl dX3_yealmTold_37 ?_
  refine va_getN (D := (dC, dI)) (ci := 2) (v := .ref gk) (C := RX2) (T := TX2) (N := 10) hx hb hts (by decide +kernel) hown hK hP 1 rfl rfl 4 (by decide) (va_Nw.use rfl (zN_RX3_86 hZN)) (fun _ h9 => h9) rfl dX3_yealmTold_40 ?_
  refine lv_iload hx hb dX3_yealmTold_43 (lv_at hl 0 rfl) ?_
  refine va_iald hx hb hK hP 2 0 rfl rfl (vp_in_nI (by omega) (by omega)) dX3_yealmTold_45 ?_
  refine lv_topi (fun x6 ex6 => ?_)
  rw [nI_clamp (show (60 * ru + 10 * cu + pl) < 2 ^ 31 by omega)] at ex6
  obtain rfl : x6 = (-1) := ex6.trans (hk _ (by omega))
  refine va_iast hx hb hK hP hD hS 6 4 rfl rfl (vp_in_nI (n := 1) (by decide) (by decide)) dX3_yealmTold_46 (fun H locs hP hD hS => ?_)
  have hP : va_P (dC, dI) vwCl [(hm, .inr (3, [.int th, .int 6, .ref wi, .ref co, .ref sl, .ref rn, .ref so, .ref bn, .ref sm, .ref ah])), (sm, .inr (2, [.int 0, .ref gr, .ref gt, .ref gw, .ref gk, .ref gi, .ref gp, .ref go, .ref gg, .ref hm])), (gk, .inl (d10, 360, .inl fk)), (gi, .inl (d11, 360, .inl (fun _ => 0))), (gp, .inl (d12, 360, .inl (fun _ => 0))), (go, .inl (d13, 360, .inl (fun _ => 0))), (q2, .inl (cA3, 6, .inl (upd (upd (fun _ => 0) 0 0) 1 (-1))))] H := hP
  have hD : va_D A [(hm, .inr (3, [.int th, .int 6, .ref wi, .ref co, .ref sl, .ref rn, .ref so, .ref bn, .ref sm, .ref ah])), (sm, .inr (2, [.int 0, .ref gr, .ref gt, .ref gw, .ref gk, .ref gi, .ref gp, .ref go, .ref gg, .ref hm])), (gk, .inl (d10, 360, .inl fk)), (gi, .inl (d11, 360, .inl (fun _ => 0))), (gp, .inl (d12, 360, .inl (fun _ => 0))), (go, .inl (d13, 360, .inl (fun _ => 0))), (q2, .inl (cA3, 6, .inl (upd (upd (fun _ => 0) 0 0) 1 (-1))))] := hD
  refine lv_dup hx hb dX3_yealmTold_47 rfl ?_
  refine lv_iconst (v := 2) hx hb dX3_yealmTold_48 (by decide) ?_
  refine lv_aload_n hx hb dX3_yealmTold_49 rfl (lv_at hl 1 rfl) ?_
  refine va_get (D := (dC, dI)) (ci := 3) (v := .ref sm) (C := RX3) (T := TX3) (N := 10) hx hb hts (by decide +kernel) hown hK hP 0 rfl rfl 8 (by decide) (hts (.fieldLink RX3 33 "ThatchRoofModel" "s" "LThatchRoofModel$State;") (by decide +kernel)) (fun _ h9 => h9) rfl dX3_yealmTold_50 ?_
  refine va_getN (D := (dC, dI)) (ci := 2) (v := .ref gi) (C := RX2) (T := TX2) (N := 10) hx hb hts (by decide +kernel) hown hK hP 1 rfl rfl 5 (by decide) (va_Nw.use rfl (zN_RX3_93 hZN)) (fun _ h9 => h9) rfl dX3_yealmTold_53 ?_
  refine lv_iload hx hb dX3_yealmTold_56 (lv_at hl 0 rfl) ?_
  refine va_iald hx hb hK hP 3 1 rfl rfl (vp_in_nI (by omega) (by omega)) dX3_yealmTold_58 ?_
  refine lv_topi (fun x7 ex7 => ?_)
  obtain rfl : x7 = 0 := ex7
  refine va_iast hx hb hK hP hD hS 6 4 rfl rfl (vp_in_nI (n := 2) (by decide) (by decide)) dX3_yealmTold_59 (fun H locs hP hD hS => ?_)
  have hP : va_P (dC, dI) vwCl [(hm, .inr (3, [.int th, .int 6, .ref wi, .ref co, .ref sl, .ref rn, .ref so, .ref bn, .ref sm, .ref ah])), (sm, .inr (2, [.int 0, .ref gr, .ref gt, .ref gw, .ref gk, .ref gi, .ref gp, .ref go, .ref gg, .ref hm])), (gk, .inl (d10, 360, .inl fk)), (gi, .inl (d11, 360, .inl (fun _ => 0))), (gp, .inl (d12, 360, .inl (fun _ => 0))), (go, .inl (d13, 360, .inl (fun _ => 0))), (q2, .inl (cA3, 6, .inl (upd (upd (upd (fun _ => 0) 0 0) 1 (-1)) 2 0)))] H := hP
  have hD : va_D A [(hm, .inr (3, [.int th, .int 6, .ref wi, .ref co, .ref sl, .ref rn, .ref so, .ref bn, .ref sm, .ref ah])), (sm, .inr (2, [.int 0, .ref gr, .ref gt, .ref gw, .ref gk, .ref gi, .ref gp, .ref go, .ref gg, .ref hm])), (gk, .inl (d10, 360, .inl fk)), (gi, .inl (d11, 360, .inl (fun _ => 0))), (gp, .inl (d12, 360, .inl (fun _ => 0))), (go, .inl (d13, 360, .inl (fun _ => 0))), (q2, .inl (cA3, 6, .inl (upd (upd (upd (fun _ => 0) 0 0) 1 (-1)) 2 0)))] := hD
  refine lv_dup hx hb dX3_yealmTold_60 rfl ?_
  refine lv_iconst (v := 3) hx hb dX3_yealmTold_61 (by decide) ?_
  refine lv_aload_n hx hb dX3_yealmTold_62 rfl (lv_at hl 1 rfl) ?_
  refine va_get (D := (dC, dI)) (ci := 3) (v := .ref sm) (C := RX3) (T := TX3) (N := 10) hx hb hts (by decide +kernel) hown hK hP 0 rfl rfl 8 (by decide) (hts (.fieldLink RX3 33 "ThatchRoofModel" "s" "LThatchRoofModel$State;") (by decide +kernel)) (fun _ h9 => h9) rfl dX3_yealmTold_63 ?_
  refine va_getN (D := (dC, dI)) (ci := 2) (v := .ref gp) (C := RX2) (T := TX2) (N := 10) hx hb hts (by decide +kernel) hown hK hP 1 rfl rfl 6 (by decide) (va_Nw.use rfl (zN_RX3_96 hZN)) (fun _ h9 => h9) rfl dX3_yealmTold_66 ?_
  refine lv_iload hx hb dX3_yealmTold_69 (lv_at hl 0 rfl) ?_
  refine va_iald hx hb hK hP 4 2 rfl rfl (vp_in_nI (by omega) (by omega)) dX3_yealmTold_71 ?_
  refine lv_topi (fun x8 ex8 => ?_)
  obtain rfl : x8 = 0 := ex8
  refine va_iast hx hb hK hP hD hS 6 4 rfl rfl (vp_in_nI (n := 3) (by decide) (by decide)) dX3_yealmTold_72 (fun H locs hP hD hS => ?_)
  have hP : va_P (dC, dI) vwCl [(hm, .inr (3, [.int th, .int 6, .ref wi, .ref co, .ref sl, .ref rn, .ref so, .ref bn, .ref sm, .ref ah])), (sm, .inr (2, [.int 0, .ref gr, .ref gt, .ref gw, .ref gk, .ref gi, .ref gp, .ref go, .ref gg, .ref hm])), (gk, .inl (d10, 360, .inl fk)), (gi, .inl (d11, 360, .inl (fun _ => 0))), (gp, .inl (d12, 360, .inl (fun _ => 0))), (go, .inl (d13, 360, .inl (fun _ => 0))), (q2, .inl (cA3, 6, .inl (upd (upd (upd (upd (fun _ => 0) 0 0) 1 (-1)) 2 0) 3 0)))] H := hP
  have hD : va_D A [(hm, .inr (3, [.int th, .int 6, .ref wi, .ref co, .ref sl, .ref rn, .ref so, .ref bn, .ref sm, .ref ah])), (sm, .inr (2, [.int 0, .ref gr, .ref gt, .ref gw, .ref gk, .ref gi, .ref gp, .ref go, .ref gg, .ref hm])), (gk, .inl (d10, 360, .inl fk)), (gi, .inl (d11, 360, .inl (fun _ => 0))), (gp, .inl (d12, 360, .inl (fun _ => 0))), (go, .inl (d13, 360, .inl (fun _ => 0))), (q2, .inl (cA3, 6, .inl (upd (upd (upd (upd (fun _ => 0) 0 0) 1 (-1)) 2 0) 3 0)))] := hD
  refine lv_dup hx hb dX3_yealmTold_73 rfl ?_
  refine lv_iconst (v := 4) hx hb dX3_yealmTold_74 (by decide) ?_
  refine lv_aload_n hx hb dX3_yealmTold_75 rfl (lv_at hl 1 rfl) ?_
  refine va_get (D := (dC, dI)) (ci := 3) (v := .ref sm) (C := RX3) (T := TX3) (N := 10) hx hb hts (by decide +kernel) hown hK hP 0 rfl rfl 8 (by decide) (hts (.fieldLink RX3 33 "ThatchRoofModel" "s" "LThatchRoofModel$State;") (by decide +kernel)) (fun _ h9 => h9) rfl dX3_yealmTold_76 ?_
  refine va_getN (D := (dC, dI)) (ci := 2) (v := .ref go) (C := RX2) (T := TX2) (N := 10) hx hb hts (by decide +kernel) hown hK hP 1 rfl rfl 7 (by decide) (va_Nw.use rfl (zN_RX3_99 hZN)) (fun _ h9 => h9) rfl dX3_yealmTold_79 ?_
  refine lv_iload hx hb dX3_yealmTold_82 (lv_at hl 0 rfl) ?_
  refine va_iald hx hb hK hP 5 3 rfl rfl (vp_in_nI (by omega) (by omega)) dX3_yealmTold_84 ?_
  refine lv_topi (fun x9 ex9 => ?_)
  obtain rfl : x9 = 0 := ex9
  refine va_iast hx hb hK hP hD hS 6 4 rfl rfl (vp_in_nI (n := 4) (by decide) (by decide)) dX3_yealmTold_85 (fun H locs hP hD hS => ?_)
  have hP : va_P (dC, dI) vwCl [(hm, .inr (3, [.int th, .int 6, .ref wi, .ref co, .ref sl, .ref rn, .ref so, .ref bn, .ref sm, .ref ah])), (sm, .inr (2, [.int 0, .ref gr, .ref gt, .ref gw, .ref gk, .ref gi, .ref gp, .ref go, .ref gg, .ref hm])), (gk, .inl (d10, 360, .inl fk)), (gi, .inl (d11, 360, .inl (fun _ => 0))), (gp, .inl (d12, 360, .inl (fun _ => 0))), (go, .inl (d13, 360, .inl (fun _ => 0))), (q2, .inl (cA3, 6, .inl (upd (upd (upd (upd (upd (fun _ => 0) 0 0) 1 (-1)) 2 0) 3 0) 4 0)))] H := hP
  have hD : va_D A [(hm, .inr (3, [.int th, .int 6, .ref wi, .ref co, .ref sl, .ref rn, .ref so, .ref bn, .ref sm, .ref ah])), (sm, .inr (2, [.int 0, .ref gr, .ref gt, .ref gw, .ref gk, .ref gi, .ref gp, .ref go, .ref gg, .ref hm])), (gk, .inl (d10, 360, .inl fk)), (gi, .inl (d11, 360, .inl (fun _ => 0))), (gp, .inl (d12, 360, .inl (fun _ => 0))), (go, .inl (d13, 360, .inl (fun _ => 0))), (q2, .inl (cA3, 6, .inl (upd (upd (upd (upd (upd (fun _ => 0) 0 0) 1 (-1)) 2 0) 3 0) 4 0)))] := hD
  refine lv_dup hx hb dX3_yealmTold_86 rfl ?_
  refine lv_iconst (v := 5) hx hb dX3_yealmTold_87 (by decide) ?_
  refine lv_aload_n hx hb dX3_yealmTold_88 rfl (lv_at hl 1 rfl) ?_
  refine va_get (D := (dC, dI)) (ci := 3) (v := .ref sm) (C := RX3) (T := TX3) (N := 10) hx hb hts (by decide +kernel) hown hK hP 0 rfl rfl 8 (by decide) (hts (.fieldLink RX3 33 "ThatchRoofModel" "s" "LThatchRoofModel$State;") (by decide +kernel)) (fun _ h9 => h9) rfl dX3_yealmTold_89 ?_
  refine lv_iload_n hx hb dX3_yealmTold_92 rfl (lv_at hl 2 rfl) ?_
  refine lv_iload_n hx hb dX3_yealmTold_93 rfl (lv_at hl 3 rfl) ?_
  refine lv_iload_n hx hb dX3_yealmTold_94 rfl (lv_at hl 4 rfl) ?_
  have hPc := hP.sub (ws' := [(sm, .inr (2, [.int 0, .ref gr, .ref gt, .ref gw, .ref gk, .ref gi, .ref gp, .ref go, .ref gg, .ref hm])), (gk, .inl (d10, 360, .inl fk))]) [1, 2] rfl
  have hKc := hK.sub (tys' := [(d10, .int)]) [0] rfl
  refine vp_callSi (va_runV (As := [.int (nI ru), .int (nI cu), .int (nI pl)]) (rest := [.int 5, .ref q2, .ref q2]) ⟨hx, hb, hml, hown, hts⟩ (r2_isBare l dC dI sm hm gr gt gw gk gi gp go gg d10 fk ru cu pl (by first | assumption | decide | omega) (by first | assumption | decide | omega) (by first | assumption | decide | omega) (by first | assumption | decide | omega)) (cwV 3 hts gX3_yealmTold_X2_isBare rfl rfl rfl (by decide +kernel) ⟨Nat.le_of_ble_eq_true rfl, Nat.le_of_ble_eq_true rfl⟩) ⟨fun a U g mk q => by obtain ⟨q0, qP, qK, qN⟩ := q; exact ⟨q0, qP, va_K.moved (u := U) (U := U.calling g mk a) (Vm.Alike.refl U.vm) qK, zNs.calling qN⟩, va_recv hKc hPc (ci := 2) (q0 := 0) rfl rfl, fun U hU hW => ⟨rfl, by rw [hU]; exact hPc, va_K.moved hW.alike hKc, zNs.warm hW hZN⟩⟩ rfl rfl hl.1 rfl (lv_room (Nat.le_of_ble_eq_true rfl)) dX3_yealmTold_95 ⟨Nat.le_of_ble_eq_true rfl, Nat.le_of_ble_eq_true rfl⟩).run (fun r10 hr10 => ?_)
  obtain rfl := hr10
  refine lv_if_eq (tgt := 105) hx hb dX3_yealmTold_98 (by decide) (fun c11 => ?_) (fun c11 => absurd c11 (by decide))
  refine lv_iconst (v := 0) hx hb dX3_yealmTold_105 (by decide) ?_
  refine va_iast hx hb hK hP hD hS 6 4 rfl rfl (vp_in_nI (n := 5) (by decide) (by decide)) dX3_yealmTold_106 (fun H locs hP hD hS => ?_)
  have hP : va_P (dC, dI) vwCl [(hm, .inr (3, [.int th, .int 6, .ref wi, .ref co, .ref sl, .ref rn, .ref so, .ref bn, .ref sm, .ref ah])), (sm, .inr (2, [.int 0, .ref gr, .ref gt, .ref gw, .ref gk, .ref gi, .ref gp, .ref go, .ref gg, .ref hm])), (gk, .inl (d10, 360, .inl fk)), (gi, .inl (d11, 360, .inl (fun _ => 0))), (gp, .inl (d12, 360, .inl (fun _ => 0))), (go, .inl (d13, 360, .inl (fun _ => 0))), (q2, .inl (cA3, 6, .inl (upd (upd (upd (upd (upd (upd (fun _ => 0) 0 0) 1 (-1)) 2 0) 3 0) 4 0) 5 0)))] H := hP
  have hD : va_D A [(hm, .inr (3, [.int th, .int 6, .ref wi, .ref co, .ref sl, .ref rn, .ref so, .ref bn, .ref sm, .ref ah])), (sm, .inr (2, [.int 0, .ref gr, .ref gt, .ref gw, .ref gk, .ref gi, .ref gp, .ref go, .ref gg, .ref hm])), (gk, .inl (d10, 360, .inl fk)), (gi, .inl (d11, 360, .inl (fun _ => 0))), (gp, .inl (d12, 360, .inl (fun _ => 0))), (go, .inl (d13, 360, .inl (fun _ => 0))), (q2, .inl (cA3, 6, .inl (upd (upd (upd (upd (upd (upd (fun _ => 0) 0 0) 1 (-1)) 2 0) 3 0) 4 0) 5 0)))] := hD
  refine lv_astore (lv' := [(6, .ref q2), (5, .int (nI (60 * ru + 10 * cu + pl))), (0, .ref hm), (1, .int (nI ru)), (2, .int (nI cu)), (3, .int (nI pl)), (4, .int 1)]) hx hb dX3_yealmTold_107 hl (by decide) rfl (fun ls hl => ?_)
  refine lv_aload hx hb dX3_yealmTold_109 (lv_at hl 0 rfl) ?_
  refine lv_iload hx hb dX3_yealmTold_111 (lv_at hl 6 rfl) ?_
  refine va_iald hx hb hK hP 6 4 rfl rfl (vp_in_nI (n := 1) (by decide) (by decide)) dX3_yealmTold_113 ?_
  refine lv_topi (fun x12 ex12 => ?_)
  obtain rfl : x12 = (-1) := ex12
  have hP9 := hP.sub (ws' := [(hm, .inr (3, [.int th, .int 6, .ref wi, .ref co, .ref sl, .ref rn, .ref so, .ref bn, .ref sm, .ref ah])), (sm, .inr (2, [.int 0, .ref gr, .ref gt, .ref gw, .ref gk, .ref gi, .ref gp, .ref go, .ref gg, .ref hm])), (gk, .inl (d10, 360, .inl fk)), (gi, .inl (d11, 360, .inl (fun _ => 0))), (gp, .inl (d12, 360, .inl (fun _ => 0))), (go, .inl (d13, 360, .inl (fun _ => 0)))]) [0, 1, 2, 3, 4, 5] rfl
  have hD9 := hD.sub (ws' := [(hm, .inr (3, [.int th, .int 6, .ref wi, .ref co, .ref sl, .ref rn, .ref so, .ref bn, .ref sm, .ref ah])), (sm, .inr (2, [.int 0, .ref gr, .ref gt, .ref gw, .ref gk, .ref gi, .ref gp, .ref go, .ref gg, .ref hm])), (gk, .inl (d10, 360, .inl fk)), (gi, .inl (d11, 360, .inl (fun _ => 0))), (gp, .inl (d12, 360, .inl (fun _ => 0))), (go, .inl (d13, 360, .inl (fun _ => 0)))]) [0, 1, 2, 3, 4, 5] (by decide) rfl
  have hK9 := hK.sub (tys' := []) [] rfl
  refine W.widen (k := 1) (n := 6) (Nat.le_of_ble_eq_true rfl) (Nat.le_of_ble_eq_true rfl) ?_
  have hZ := zz_one hAe hD hP 6 [0, 1, 2, 3, 4, 5] rfl rfl (by decide)
  exact W.iret (v := (-1)) hx hb hr (fun t ht hW => ⟨⟨(-1), (), rfl, by (first | rfl | assumption | decide | (simp_all; done) | grind), ⟨by rw [ht]; exact hP9, va_K.moved hW.alike hK9, hD9, by rw [ht]; omega⟩⟩, hS.F ht⟩) hS.2.2 dX3_yealmTold_114

set_option maxHeartbeats 4000000 in
set_option maxRecDepth 100000 in
theorem r3_yealmTold2 (l : Launch) (dC : Nat → ClassId) (dI : Nat → Nat → Nat) (sz : Nat) (hm : Nat) (wi : Nat) (co : Nat) (sl : Nat) (rn : Nat) (so : Nat) (bn : Nat) (sm : Nat) (ah : Nat) (th : Int32) (gr : Nat) (gt : Nat) (gw : Nat) (gk : Nat) (gi : Nat) (gp : Nat) (go : Nat) (gg : Nat) (d10 : ClassId) (d11 : ClassId) (d12 : ClassId) (d13 : ClassId) (fk : Nat → Int32) (ru : Nat) (cu : Nat) (pl : Nat) (hk : ∀ j : Nat, j < 360 → fk j = -1) (hru : ru < 6) (hcu : cu < 6) (hpl : pl < 10) : Met l yX3_yealmTold wsX3_yealmTold ({ frames := 3, cells := 1, slots := 6, locals := 68 }) (va_Pc [.ref hm, .int (nI ru), .int (nI cu), .int (nI pl), .int 2] (fun U => U.heap.size = sz ∧ va_P (dC, dI) vwCl [(hm, .inr (3, [.int th, .int 6, .ref wi, .ref co, .ref sl, .ref rn, .ref so, .ref bn, .ref sm, .ref ah])), (sm, .inr (2, [.int 0, .ref gr, .ref gt, .ref gw, .ref gk, .ref gi, .ref gp, .ref go, .ref gg, .ref hm])), (gk, .inl (d10, 360, .inl fk)), (gi, .inl (d11, 360, .inl (fun _ => 0))), (gp, .inl (d12, 360, .inl (fun _ => 0))), (go, .inl (d13, 360, .inl (fun _ => 0)))] U.heap ∧ va_K (dC, dI) vwCl [(d10, .int), (d11, .int), (d12, .int), (d13, .int)] U ∧ va_D (fun _ => True) [(hm, .inr (3, [.int th, .int 6, .ref wi, .ref co, .ref sl, .ref rn, .ref so, .ref bn, .ref sm, .ref ah])), (sm, .inr (2, [.int 0, .ref gr, .ref gt, .ref gw, .ref gk, .ref gi, .ref gp, .ref go, .ref gg, .ref hm])), (gk, .inl (d10, 360, .inl fk)), (gi, .inl (d11, 360, .inl (fun _ => 0))), (gp, .inl (d12, 360, .inl (fun _ => 0))), (go, .inl (d13, 360, .inl (fun _ => 0)))] ∧ zNs U)) (va_Qi (fun (r : Int32) (u : Unit) => r = 0) (fun (u : Unit) (t : State) => va_P (dC, dI) vwCl [(hm, .inr (3, [.int th, .int 6, .ref wi, .ref co, .ref sl, .ref rn, .ref so, .ref bn, .ref sm, .ref ah])), (sm, .inr (2, [.int 0, .ref gr, .ref gt, .ref gw, .ref gk, .ref gi, .ref gp, .ref go, .ref gg, .ref hm])), (gk, .inl (d10, 360, .inl fk)), (gi, .inl (d11, 360, .inl (fun _ => 0))), (gp, .inl (d12, 360, .inl (fun _ => 0))), (go, .inl (d13, 360, .inl (fun _ => 0)))] t.heap ∧ va_K (dC, dI) vwCl [] t ∧ va_D (va_A [(hm, .inr (3, [.int th, .int 6, .ref wi, .ref co, .ref sl, .ref rn, .ref so, .ref bn, .ref sm, .ref ah])), (sm, .inr (2, [.int 0, .ref gr, .ref gt, .ref gw, .ref gk, .ref gi, .ref gp, .ref go, .ref gg, .ref hm])), (gk, .inl (d10, 360, .inl fk)), (gi, .inl (d11, 360, .inl (fun _ => 0))), (gp, .inl (d12, 360, .inl (fun _ => 0))), (go, .inl (d13, 360, .inl (fun _ => 0)))] sz) [(hm, .inr (3, [.int th, .int 6, .ref wi, .ref co, .ref sl, .ref rn, .ref so, .ref bn, .ref sm, .ref ah])), (sm, .inr (2, [.int 0, .ref gr, .ref gt, .ref gw, .ref gk, .ref gi, .ref gp, .ref go, .ref gg, .ref hm])), (gk, .inl (d10, 360, .inl fk)), (gi, .inl (d11, 360, .inl (fun _ => 0))), (gp, .inl (d12, 360, .inl (fun _ => 0))), (go, .inl (d13, 360, .inl (fun _ => 0)))] ∧ sz + 1 ≤ t.heap.size) (va_A [(hm, .inr (3, [.int th, .int 6, .ref wi, .ref co, .ref sl, .ref rn, .ref so, .ref bn, .ref sm, .ref ah])), (sm, .inr (2, [.int 0, .ref gr, .ref gt, .ref gw, .ref gk, .ref gi, .ref gp, .ref go, .ref gg, .ref hm])), (gk, .inl (d10, 360, .inl fk)), (gi, .inl (d11, 360, .inl (fun _ => 0))), (gp, .inl (d12, 360, .inl (fun _ => 0))), (go, .inl (d13, 360, .inl (fun _ => 0)))] sz)) 1 6 (va_A [(hm, .inr (3, [.int th, .int 6, .ref wi, .ref co, .ref sl, .ref rn, .ref so, .ref bn, .ref sm, .ref ah])), (sm, .inr (2, [.int 0, .ref gr, .ref gt, .ref gw, .ref gk, .ref gi, .ref gp, .ref go, .ref gg, .ref hm])), (gk, .inl (d10, 360, .inl fk)), (gi, .inl (d11, 360, .inl (fun _ => 0))), (gp, .inl (d12, 360, .inl (fun _ => 0))), (go, .inl (d13, 360, .inl (fun _ => 0)))] sz) := by
  refine Met.ofW (cc := cX3_yealmTold) (maxL := 7) (ret := (some .int)) (by decide) rfl ?_
  intro p e s m args below meth c s₁ B hml hv
  obtain ⟨rfl, hsz, hP, hK, hD0, hZN⟩ := hv
  have hx := B.exec
  have hb := B.bytes
  have hr := B.returns
  have hts := atoms_spec (ws := wsX3_yealmTold) B.pre
  have hown : s.vm.findClass RX3 = some m.cls := findClass_of_methodNamed B.named
  have hlocks := B.notSynchronized
  subst hsz
  have hD := hD0.self (sz := s.heap.size)
  generalize hAe : va_A [(hm, .inr (3, [.int th, .int 6, .ref wi, .ref co, .ref sl, .ref rn, .ref so, .ref bn, .ref sm, .ref ah])), (sm, .inr (2, [.int 0, .ref gr, .ref gt, .ref gw, .ref gk, .ref gi, .ref gp, .ref go, .ref gg, .ref hm])), (gk, .inl (d10, 360, .inl fk)), (gi, .inl (d11, 360, .inl (fun _ => 0))), (gp, .inl (d12, 360, .inl (fun _ => 0))), (go, .inl (d13, 360, .inl (fun _ => 0)))] s.heap.size = A at hD ⊢
  have hA : ∀ q : Nat, s.heap.size ≤ q → A q := fun q h => by rw [← hAe]; exact Or.inr h
  have hS : va_S A s.heap s.heap [] := va_S.rf
  have hP : va_P (dC, dI) vwCl [(hm, .inr (3, [.int th, .int 6, .ref wi, .ref co, .ref sl, .ref rn, .ref so, .ref bn, .ref sm, .ref ah])), (sm, .inr (2, [.int 0, .ref gr, .ref gt, .ref gw, .ref gk, .ref gi, .ref gp, .ref go, .ref gg, .ref hm])), (gk, .inl (d10, 360, .inl fk)), (gi, .inl (d11, 360, .inl (fun _ => 0))), (gp, .inl (d12, 360, .inl (fun _ => 0))), (go, .inl (d13, 360, .inl (fun _ => 0)))] s.heap := hP
  have hl := lv_entry ([.ref hm, .int (nI ru), .int (nI cu), .int (nI pl), .int 2]) (n := 7) (Nat.le_of_ble_eq_true rfl)
  rw [lg_entry_eq]
  generalize (lg_sl ([.ref hm, .int (nI ru), .int (nI cu), .int (nI pl), .int 2]) ++ List.replicate (7 - (lg_sl ([.ref hm, .int (nI ru), .int (nI cu), .int (nI pl), .int 2])).length) Slot.unset).toArray = ls at hl ⊢
  have hl : lv_has ls 7 [(0, .ref hm), (1, .int (nI ru)), (2, .int (nI cu)), (3, .int (nI pl)), (4, .int 2)] := hl
  refine lv_iload_n hx hb dX3_yealmTold_0 rfl (lv_at hl 1 rfl) ?_
  refine lv_iload_n hx hb dX3_yealmTold_1 rfl (lv_at hl 2 rfl) ?_
  refine lv_iload_n hx hb dX3_yealmTold_2 rfl (lv_at hl 3 rfl) ?_
  refine vp_callSi (va_runS (As := [.int (nI ru), .int (nI cu), .int (nI pl)]) (rest := []) ⟨hx, hb, hml, hown, hts⟩ (r3_cell l dC dI ru cu pl ) (va_cwS 3 hts gX3_yealmTold_X3_cell rfl rfl rfl (by decide +kernel) ⟨Nat.le_of_ble_eq_true rfl, Nat.le_of_ble_eq_true rfl⟩) ⟨fun a U g mk q => q, fun U hU hW => ⟨rfl, trivial⟩⟩ rfl rfl hl.1 rfl (lv_room (Nat.le_of_ble_eq_true rfl)) dX3_yealmTold_3 ⟨Nat.le_of_ble_eq_true rfl, Nat.le_of_ble_eq_true rfl⟩).run (fun r1 hr1 => ?_)
  have evr1_0 := hr1
  rw [evr1_0]
  refine lv_istore (lv' := [(5, .int (nI (60 * ru + 10 * cu + pl))), (0, .ref hm), (1, .int (nI ru)), (2, .int (nI cu)), (3, .int (nI pl)), (4, .int 2)]) hx hb dX3_yealmTold_6 hl (by decide) rfl (fun ls hl => ?_)
  refine lv_bipush (v := 6) hx hb dX3_yealmTold_8 (by decide) ?_
  refine va_newa (atype := .int) (ty := .int) (N' := 6) (a0 := (6, .inl (fun _ => 0))) hx hb (hts (.arrayClass .int) (by decide +kernel)) rfl hK hP hD hS hA (fun _ => rfl) (by decide) (by decide) (by decide) (Nat.le_of_ble_eq_true rfl) (Nat.le_of_ble_eq_true rfl) dX3_yealmTold_10 (fun q2 cA3 H hK hP hD hS => ?_)
  refine W.widen (k := 1) (n := 6) (Nat.le_of_ble_eq_true rfl) (Nat.le_of_ble_eq_true rfl) ?_
  have hK : va_K (dC, dI) vwCl [(d10, .int), (d11, .int), (d12, .int), (d13, .int), (cA3, .int)] s := hK
  have hP : va_P (dC, dI) vwCl [(hm, .inr (3, [.int th, .int 6, .ref wi, .ref co, .ref sl, .ref rn, .ref so, .ref bn, .ref sm, .ref ah])), (sm, .inr (2, [.int 0, .ref gr, .ref gt, .ref gw, .ref gk, .ref gi, .ref gp, .ref go, .ref gg, .ref hm])), (gk, .inl (d10, 360, .inl fk)), (gi, .inl (d11, 360, .inl (fun _ => 0))), (gp, .inl (d12, 360, .inl (fun _ => 0))), (go, .inl (d13, 360, .inl (fun _ => 0))), (q2, .inl (cA3, 6, .inl (fun _ => 0)))] H := hP
  have hD : va_D A [(hm, .inr (3, [.int th, .int 6, .ref wi, .ref co, .ref sl, .ref rn, .ref so, .ref bn, .ref sm, .ref ah])), (sm, .inr (2, [.int 0, .ref gr, .ref gt, .ref gw, .ref gk, .ref gi, .ref gp, .ref go, .ref gg, .ref hm])), (gk, .inl (d10, 360, .inl fk)), (gi, .inl (d11, 360, .inl (fun _ => 0))), (gp, .inl (d12, 360, .inl (fun _ => 0))), (go, .inl (d13, 360, .inl (fun _ => 0))), (q2, .inl (cA3, 6, .inl (fun _ => 0)))] := hD
  refine lv_dup hx hb dX3_yealmTold_12 rfl ?_
  refine lv_iconst (v := 0) hx hb dX3_yealmTold_13 (by decide) ?_
  refine lv_aload_n hx hb dX3_yealmTold_14 rfl (lv_at hl 1 rfl) ?_
  refine va_get (D := (dC, dI)) (ci := 3) (v := .ref sm) (C := RX3) (T := TX3) (N := 10) hx hb hts (by decide +kernel) hown hK hP 0 rfl rfl 8 (by decide) (hts (.fieldLink RX3 33 "ThatchRoofModel" "s" "LThatchRoofModel$State;") (by decide +kernel)) (fun _ h9 => h9) rfl dX3_yealmTold_15 ?_
  refine va_getN (D := (dC, dI)) (ci := 2) (v := .ref gk) (C := RX2) (T := TX2) (N := 10) hx hb hts (by decide +kernel) hown hK hP 1 rfl rfl 4 (by decide) (va_Nw.use rfl (zN_RX3_86 hZN)) (fun _ h9 => h9) rfl dX3_yealmTold_18 ?_
  refine lv_iload hx hb dX3_yealmTold_21 (lv_at hl 0 rfl) ?_
  refine va_iald hx hb hK hP 2 0 rfl rfl (vp_in_nI (by omega) (by omega)) dX3_yealmTold_23 ?_
  refine lv_topi (fun x4 ex4 => ?_)
  rw [nI_clamp (show (60 * ru + 10 * cu + pl) < 2 ^ 31 by omega)] at ex4
  obtain rfl : x4 = (-1) := ex4.trans (hk _ (by omega))
  refine lv_iconst (v := (-1)) hx hb dX3_yealmTold_24 (by decide) ?_
  refine lv_icmp_ne (tgt := 32) hx hb dX3_yealmTold_25 (by decide) (fun c5 => absurd c5 (by decide)) (fun c5 => ?_)
  refine lv_iconst (v := 0) hx hb dX3_yealmTold_28 (by decide) ?_
  refine lv_goto (tgt := 33) hx hb dX3_yealmTold_29 (by decide) ?_
  refine va_iast hx hb hK hP hD hS 6 4 rfl rfl (vp_in_nI (n := 0) (by decide) (by decide)) dX3_yealmTold_33 (fun H locs hP hD hS => ?_)
  have hP : va_P (dC, dI) vwCl [(hm, .inr (3, [.int th, .int 6, .ref wi, .ref co, .ref sl, .ref rn, .ref so, .ref bn, .ref sm, .ref ah])), (sm, .inr (2, [.int 0, .ref gr, .ref gt, .ref gw, .ref gk, .ref gi, .ref gp, .ref go, .ref gg, .ref hm])), (gk, .inl (d10, 360, .inl fk)), (gi, .inl (d11, 360, .inl (fun _ => 0))), (gp, .inl (d12, 360, .inl (fun _ => 0))), (go, .inl (d13, 360, .inl (fun _ => 0))), (q2, .inl (cA3, 6, .inl (upd (fun _ => 0) 0 0)))] H := hP
  have hD : va_D A [(hm, .inr (3, [.int th, .int 6, .ref wi, .ref co, .ref sl, .ref rn, .ref so, .ref bn, .ref sm, .ref ah])), (sm, .inr (2, [.int 0, .ref gr, .ref gt, .ref gw, .ref gk, .ref gi, .ref gp, .ref go, .ref gg, .ref hm])), (gk, .inl (d10, 360, .inl fk)), (gi, .inl (d11, 360, .inl (fun _ => 0))), (gp, .inl (d12, 360, .inl (fun _ => 0))), (go, .inl (d13, 360, .inl (fun _ => 0))), (q2, .inl (cA3, 6, .inl (upd (fun _ => 0) 0 0)))] := hD
  refine lv_dup hx hb dX3_yealmTold_34 rfl ?_
  refine lv_iconst (v := 1) hx hb dX3_yealmTold_35 (by decide) ?_
  refine lv_aload_n hx hb dX3_yealmTold_36 rfl (lv_at hl 1 rfl) ?_
  refine va_get (D := (dC, dI)) (ci := 3) (v := .ref sm) (C := RX3) (T := TX3) (N := 10) hx hb hts (by decide +kernel) hown hK hP 0 rfl rfl 8 (by decide) (hts (.fieldLink RX3 33 "ThatchRoofModel" "s" "LThatchRoofModel$State;") (by decide +kernel)) (fun _ h9 => h9) rfl dX3_yealmTold_37 ?_
  refine va_getN (D := (dC, dI)) (ci := 2) (v := .ref gk) (C := RX2) (T := TX2) (N := 10) hx hb hts (by decide +kernel) hown hK hP 1 rfl rfl 4 (by decide) (va_Nw.use rfl (zN_RX3_86 hZN)) (fun _ h9 => h9) rfl dX3_yealmTold_40 ?_
  refine lv_iload hx hb dX3_yealmTold_43 (lv_at hl 0 rfl) ?_
  refine va_iald hx hb hK hP 2 0 rfl rfl (vp_in_nI (by omega) (by omega)) dX3_yealmTold_45 ?_
  refine lv_topi (fun x6 ex6 => ?_)
  rw [nI_clamp (show (60 * ru + 10 * cu + pl) < 2 ^ 31 by omega)] at ex6
  obtain rfl : x6 = (-1) := ex6.trans (hk _ (by omega))
  refine va_iast hx hb hK hP hD hS 6 4 rfl rfl (vp_in_nI (n := 1) (by decide) (by decide)) dX3_yealmTold_46 (fun H locs hP hD hS => ?_)
  have hP : va_P (dC, dI) vwCl [(hm, .inr (3, [.int th, .int 6, .ref wi, .ref co, .ref sl, .ref rn, .ref so, .ref bn, .ref sm, .ref ah])), (sm, .inr (2, [.int 0, .ref gr, .ref gt, .ref gw, .ref gk, .ref gi, .ref gp, .ref go, .ref gg, .ref hm])), (gk, .inl (d10, 360, .inl fk)), (gi, .inl (d11, 360, .inl (fun _ => 0))), (gp, .inl (d12, 360, .inl (fun _ => 0))), (go, .inl (d13, 360, .inl (fun _ => 0))), (q2, .inl (cA3, 6, .inl (upd (upd (fun _ => 0) 0 0) 1 (-1))))] H := hP
  have hD : va_D A [(hm, .inr (3, [.int th, .int 6, .ref wi, .ref co, .ref sl, .ref rn, .ref so, .ref bn, .ref sm, .ref ah])), (sm, .inr (2, [.int 0, .ref gr, .ref gt, .ref gw, .ref gk, .ref gi, .ref gp, .ref go, .ref gg, .ref hm])), (gk, .inl (d10, 360, .inl fk)), (gi, .inl (d11, 360, .inl (fun _ => 0))), (gp, .inl (d12, 360, .inl (fun _ => 0))), (go, .inl (d13, 360, .inl (fun _ => 0))), (q2, .inl (cA3, 6, .inl (upd (upd (fun _ => 0) 0 0) 1 (-1))))] := hD
  refine lv_dup hx hb dX3_yealmTold_47 rfl ?_
  refine lv_iconst (v := 2) hx hb dX3_yealmTold_48 (by decide) ?_
  refine lv_aload_n hx hb dX3_yealmTold_49 rfl (lv_at hl 1 rfl) ?_
  refine va_get (D := (dC, dI)) (ci := 3) (v := .ref sm) (C := RX3) (T := TX3) (N := 10) hx hb hts (by decide +kernel) hown hK hP 0 rfl rfl 8 (by decide) (hts (.fieldLink RX3 33 "ThatchRoofModel" "s" "LThatchRoofModel$State;") (by decide +kernel)) (fun _ h9 => h9) rfl dX3_yealmTold_50 ?_
  refine va_getN (D := (dC, dI)) (ci := 2) (v := .ref gi) (C := RX2) (T := TX2) (N := 10) hx hb hts (by decide +kernel) hown hK hP 1 rfl rfl 5 (by decide) (va_Nw.use rfl (zN_RX3_93 hZN)) (fun _ h9 => h9) rfl dX3_yealmTold_53 ?_
  refine lv_iload hx hb dX3_yealmTold_56 (lv_at hl 0 rfl) ?_
  refine va_iald hx hb hK hP 3 1 rfl rfl (vp_in_nI (by omega) (by omega)) dX3_yealmTold_58 ?_
  refine lv_topi (fun x7 ex7 => ?_)
  obtain rfl : x7 = 0 := ex7
  refine va_iast hx hb hK hP hD hS 6 4 rfl rfl (vp_in_nI (n := 2) (by decide) (by decide)) dX3_yealmTold_59 (fun H locs hP hD hS => ?_)
  have hP : va_P (dC, dI) vwCl [(hm, .inr (3, [.int th, .int 6, .ref wi, .ref co, .ref sl, .ref rn, .ref so, .ref bn, .ref sm, .ref ah])), (sm, .inr (2, [.int 0, .ref gr, .ref gt, .ref gw, .ref gk, .ref gi, .ref gp, .ref go, .ref gg, .ref hm])), (gk, .inl (d10, 360, .inl fk)), (gi, .inl (d11, 360, .inl (fun _ => 0))), (gp, .inl (d12, 360, .inl (fun _ => 0))), (go, .inl (d13, 360, .inl (fun _ => 0))), (q2, .inl (cA3, 6, .inl (upd (upd (upd (fun _ => 0) 0 0) 1 (-1)) 2 0)))] H := hP
  have hD : va_D A [(hm, .inr (3, [.int th, .int 6, .ref wi, .ref co, .ref sl, .ref rn, .ref so, .ref bn, .ref sm, .ref ah])), (sm, .inr (2, [.int 0, .ref gr, .ref gt, .ref gw, .ref gk, .ref gi, .ref gp, .ref go, .ref gg, .ref hm])), (gk, .inl (d10, 360, .inl fk)), (gi, .inl (d11, 360, .inl (fun _ => 0))), (gp, .inl (d12, 360, .inl (fun _ => 0))), (go, .inl (d13, 360, .inl (fun _ => 0))), (q2, .inl (cA3, 6, .inl (upd (upd (upd (fun _ => 0) 0 0) 1 (-1)) 2 0)))] := hD
  refine lv_dup hx hb dX3_yealmTold_60 rfl ?_
  refine lv_iconst (v := 3) hx hb dX3_yealmTold_61 (by decide) ?_
  refine lv_aload_n hx hb dX3_yealmTold_62 rfl (lv_at hl 1 rfl) ?_
  refine va_get (D := (dC, dI)) (ci := 3) (v := .ref sm) (C := RX3) (T := TX3) (N := 10) hx hb hts (by decide +kernel) hown hK hP 0 rfl rfl 8 (by decide) (hts (.fieldLink RX3 33 "ThatchRoofModel" "s" "LThatchRoofModel$State;") (by decide +kernel)) (fun _ h9 => h9) rfl dX3_yealmTold_63 ?_
  refine va_getN (D := (dC, dI)) (ci := 2) (v := .ref gp) (C := RX2) (T := TX2) (N := 10) hx hb hts (by decide +kernel) hown hK hP 1 rfl rfl 6 (by decide) (va_Nw.use rfl (zN_RX3_96 hZN)) (fun _ h9 => h9) rfl dX3_yealmTold_66 ?_
  refine lv_iload hx hb dX3_yealmTold_69 (lv_at hl 0 rfl) ?_
  refine va_iald hx hb hK hP 4 2 rfl rfl (vp_in_nI (by omega) (by omega)) dX3_yealmTold_71 ?_
  refine lv_topi (fun x8 ex8 => ?_)
  obtain rfl : x8 = 0 := ex8
  refine va_iast hx hb hK hP hD hS 6 4 rfl rfl (vp_in_nI (n := 3) (by decide) (by decide)) dX3_yealmTold_72 (fun H locs hP hD hS => ?_)
  have hP : va_P (dC, dI) vwCl [(hm, .inr (3, [.int th, .int 6, .ref wi, .ref co, .ref sl, .ref rn, .ref so, .ref bn, .ref sm, .ref ah])), (sm, .inr (2, [.int 0, .ref gr, .ref gt, .ref gw, .ref gk, .ref gi, .ref gp, .ref go, .ref gg, .ref hm])), (gk, .inl (d10, 360, .inl fk)), (gi, .inl (d11, 360, .inl (fun _ => 0))), (gp, .inl (d12, 360, .inl (fun _ => 0))), (go, .inl (d13, 360, .inl (fun _ => 0))), (q2, .inl (cA3, 6, .inl (upd (upd (upd (upd (fun _ => 0) 0 0) 1 (-1)) 2 0) 3 0)))] H := hP
  have hD : va_D A [(hm, .inr (3, [.int th, .int 6, .ref wi, .ref co, .ref sl, .ref rn, .ref so, .ref bn, .ref sm, .ref ah])), (sm, .inr (2, [.int 0, .ref gr, .ref gt, .ref gw, .ref gk, .ref gi, .ref gp, .ref go, .ref gg, .ref hm])), (gk, .inl (d10, 360, .inl fk)), (gi, .inl (d11, 360, .inl (fun _ => 0))), (gp, .inl (d12, 360, .inl (fun _ => 0))), (go, .inl (d13, 360, .inl (fun _ => 0))), (q2, .inl (cA3, 6, .inl (upd (upd (upd (upd (fun _ => 0) 0 0) 1 (-1)) 2 0) 3 0)))] := hD
  refine lv_dup hx hb dX3_yealmTold_73 rfl ?_
  refine lv_iconst (v := 4) hx hb dX3_yealmTold_74 (by decide) ?_
  refine lv_aload_n hx hb dX3_yealmTold_75 rfl (lv_at hl 1 rfl) ?_
  refine va_get (D := (dC, dI)) (ci := 3) (v := .ref sm) (C := RX3) (T := TX3) (N := 10) hx hb hts (by decide +kernel) hown hK hP 0 rfl rfl 8 (by decide) (hts (.fieldLink RX3 33 "ThatchRoofModel" "s" "LThatchRoofModel$State;") (by decide +kernel)) (fun _ h9 => h9) rfl dX3_yealmTold_76 ?_
  refine va_getN (D := (dC, dI)) (ci := 2) (v := .ref go) (C := RX2) (T := TX2) (N := 10) hx hb hts (by decide +kernel) hown hK hP 1 rfl rfl 7 (by decide) (va_Nw.use rfl (zN_RX3_99 hZN)) (fun _ h9 => h9) rfl dX3_yealmTold_79 ?_
  refine lv_iload hx hb dX3_yealmTold_82 (lv_at hl 0 rfl) ?_
  refine va_iald hx hb hK hP 5 3 rfl rfl (vp_in_nI (by omega) (by omega)) dX3_yealmTold_84 ?_
  refine lv_topi (fun x9 ex9 => ?_)
  obtain rfl : x9 = 0 := ex9
  refine va_iast hx hb hK hP hD hS 6 4 rfl rfl (vp_in_nI (n := 4) (by decide) (by decide)) dX3_yealmTold_85 (fun H locs hP hD hS => ?_)
  have hP : va_P (dC, dI) vwCl [(hm, .inr (3, [.int th, .int 6, .ref wi, .ref co, .ref sl, .ref rn, .ref so, .ref bn, .ref sm, .ref ah])), (sm, .inr (2, [.int 0, .ref gr, .ref gt, .ref gw, .ref gk, .ref gi, .ref gp, .ref go, .ref gg, .ref hm])), (gk, .inl (d10, 360, .inl fk)), (gi, .inl (d11, 360, .inl (fun _ => 0))), (gp, .inl (d12, 360, .inl (fun _ => 0))), (go, .inl (d13, 360, .inl (fun _ => 0))), (q2, .inl (cA3, 6, .inl (upd (upd (upd (upd (upd (fun _ => 0) 0 0) 1 (-1)) 2 0) 3 0) 4 0)))] H := hP
  have hD : va_D A [(hm, .inr (3, [.int th, .int 6, .ref wi, .ref co, .ref sl, .ref rn, .ref so, .ref bn, .ref sm, .ref ah])), (sm, .inr (2, [.int 0, .ref gr, .ref gt, .ref gw, .ref gk, .ref gi, .ref gp, .ref go, .ref gg, .ref hm])), (gk, .inl (d10, 360, .inl fk)), (gi, .inl (d11, 360, .inl (fun _ => 0))), (gp, .inl (d12, 360, .inl (fun _ => 0))), (go, .inl (d13, 360, .inl (fun _ => 0))), (q2, .inl (cA3, 6, .inl (upd (upd (upd (upd (upd (fun _ => 0) 0 0) 1 (-1)) 2 0) 3 0) 4 0)))] := hD
  refine lv_dup hx hb dX3_yealmTold_86 rfl ?_
  refine lv_iconst (v := 5) hx hb dX3_yealmTold_87 (by decide) ?_
  refine lv_aload_n hx hb dX3_yealmTold_88 rfl (lv_at hl 1 rfl) ?_
  refine va_get (D := (dC, dI)) (ci := 3) (v := .ref sm) (C := RX3) (T := TX3) (N := 10) hx hb hts (by decide +kernel) hown hK hP 0 rfl rfl 8 (by decide) (hts (.fieldLink RX3 33 "ThatchRoofModel" "s" "LThatchRoofModel$State;") (by decide +kernel)) (fun _ h9 => h9) rfl dX3_yealmTold_89 ?_
  refine lv_iload_n hx hb dX3_yealmTold_92 rfl (lv_at hl 2 rfl) ?_
  refine lv_iload_n hx hb dX3_yealmTold_93 rfl (lv_at hl 3 rfl) ?_
  refine lv_iload_n hx hb dX3_yealmTold_94 rfl (lv_at hl 4 rfl) ?_
  have hPc := hP.sub (ws' := [(sm, .inr (2, [.int 0, .ref gr, .ref gt, .ref gw, .ref gk, .ref gi, .ref gp, .ref go, .ref gg, .ref hm])), (gk, .inl (d10, 360, .inl fk))]) [1, 2] rfl
  have hKc := hK.sub (tys' := [(d10, .int)]) [0] rfl
  refine vp_callSi (va_runV (As := [.int (nI ru), .int (nI cu), .int (nI pl)]) (rest := [.int 5, .ref q2, .ref q2]) ⟨hx, hb, hml, hown, hts⟩ (r2_isBare l dC dI sm hm gr gt gw gk gi gp go gg d10 fk ru cu pl (by first | assumption | decide | omega) (by first | assumption | decide | omega) (by first | assumption | decide | omega) (by first | assumption | decide | omega)) (cwV 3 hts gX3_yealmTold_X2_isBare rfl rfl rfl (by decide +kernel) ⟨Nat.le_of_ble_eq_true rfl, Nat.le_of_ble_eq_true rfl⟩) ⟨fun a U g mk q => by obtain ⟨q0, qP, qK, qN⟩ := q; exact ⟨q0, qP, va_K.moved (u := U) (U := U.calling g mk a) (Vm.Alike.refl U.vm) qK, zNs.calling qN⟩, va_recv hKc hPc (ci := 2) (q0 := 0) rfl rfl, fun U hU hW => ⟨rfl, by rw [hU]; exact hPc, va_K.moved hW.alike hKc, zNs.warm hW hZN⟩⟩ rfl rfl hl.1 rfl (lv_room (Nat.le_of_ble_eq_true rfl)) dX3_yealmTold_95 ⟨Nat.le_of_ble_eq_true rfl, Nat.le_of_ble_eq_true rfl⟩).run (fun r10 hr10 => ?_)
  obtain rfl := hr10
  refine lv_if_eq (tgt := 105) hx hb dX3_yealmTold_98 (by decide) (fun c11 => ?_) (fun c11 => absurd c11 (by decide))
  refine lv_iconst (v := 0) hx hb dX3_yealmTold_105 (by decide) ?_
  refine va_iast hx hb hK hP hD hS 6 4 rfl rfl (vp_in_nI (n := 5) (by decide) (by decide)) dX3_yealmTold_106 (fun H locs hP hD hS => ?_)
  have hP : va_P (dC, dI) vwCl [(hm, .inr (3, [.int th, .int 6, .ref wi, .ref co, .ref sl, .ref rn, .ref so, .ref bn, .ref sm, .ref ah])), (sm, .inr (2, [.int 0, .ref gr, .ref gt, .ref gw, .ref gk, .ref gi, .ref gp, .ref go, .ref gg, .ref hm])), (gk, .inl (d10, 360, .inl fk)), (gi, .inl (d11, 360, .inl (fun _ => 0))), (gp, .inl (d12, 360, .inl (fun _ => 0))), (go, .inl (d13, 360, .inl (fun _ => 0))), (q2, .inl (cA3, 6, .inl (upd (upd (upd (upd (upd (upd (fun _ => 0) 0 0) 1 (-1)) 2 0) 3 0) 4 0) 5 0)))] H := hP
  have hD : va_D A [(hm, .inr (3, [.int th, .int 6, .ref wi, .ref co, .ref sl, .ref rn, .ref so, .ref bn, .ref sm, .ref ah])), (sm, .inr (2, [.int 0, .ref gr, .ref gt, .ref gw, .ref gk, .ref gi, .ref gp, .ref go, .ref gg, .ref hm])), (gk, .inl (d10, 360, .inl fk)), (gi, .inl (d11, 360, .inl (fun _ => 0))), (gp, .inl (d12, 360, .inl (fun _ => 0))), (go, .inl (d13, 360, .inl (fun _ => 0))), (q2, .inl (cA3, 6, .inl (upd (upd (upd (upd (upd (upd (fun _ => 0) 0 0) 1 (-1)) 2 0) 3 0) 4 0) 5 0)))] := hD
  refine lv_astore (lv' := [(6, .ref q2), (5, .int (nI (60 * ru + 10 * cu + pl))), (0, .ref hm), (1, .int (nI ru)), (2, .int (nI cu)), (3, .int (nI pl)), (4, .int 2)]) hx hb dX3_yealmTold_107 hl (by decide) rfl (fun ls hl => ?_)
  refine lv_aload hx hb dX3_yealmTold_109 (lv_at hl 0 rfl) ?_
  refine lv_iload hx hb dX3_yealmTold_111 (lv_at hl 6 rfl) ?_
  refine va_iald hx hb hK hP 6 4 rfl rfl (vp_in_nI (n := 2) (by decide) (by decide)) dX3_yealmTold_113 ?_
  refine lv_topi (fun x12 ex12 => ?_)
  obtain rfl : x12 = 0 := ex12
  have hP9 := hP.sub (ws' := [(hm, .inr (3, [.int th, .int 6, .ref wi, .ref co, .ref sl, .ref rn, .ref so, .ref bn, .ref sm, .ref ah])), (sm, .inr (2, [.int 0, .ref gr, .ref gt, .ref gw, .ref gk, .ref gi, .ref gp, .ref go, .ref gg, .ref hm])), (gk, .inl (d10, 360, .inl fk)), (gi, .inl (d11, 360, .inl (fun _ => 0))), (gp, .inl (d12, 360, .inl (fun _ => 0))), (go, .inl (d13, 360, .inl (fun _ => 0)))]) [0, 1, 2, 3, 4, 5] rfl
  have hD9 := hD.sub (ws' := [(hm, .inr (3, [.int th, .int 6, .ref wi, .ref co, .ref sl, .ref rn, .ref so, .ref bn, .ref sm, .ref ah])), (sm, .inr (2, [.int 0, .ref gr, .ref gt, .ref gw, .ref gk, .ref gi, .ref gp, .ref go, .ref gg, .ref hm])), (gk, .inl (d10, 360, .inl fk)), (gi, .inl (d11, 360, .inl (fun _ => 0))), (gp, .inl (d12, 360, .inl (fun _ => 0))), (go, .inl (d13, 360, .inl (fun _ => 0)))]) [0, 1, 2, 3, 4, 5] (by decide) rfl
  have hK9 := hK.sub (tys' := []) [] rfl
  refine W.widen (k := 1) (n := 6) (Nat.le_of_ble_eq_true rfl) (Nat.le_of_ble_eq_true rfl) ?_
  have hZ := zz_one hAe hD hP 6 [0, 1, 2, 3, 4, 5] rfl rfl (by decide)
  exact W.iret (v := 0) hx hb hr (fun t ht hW => ⟨⟨0, (), rfl, by (first | rfl | assumption | decide | (simp_all; done) | grind), ⟨by rw [ht]; exact hP9, va_K.moved hW.alike hK9, hD9, by rw [ht]; omega⟩⟩, hS.F ht⟩) hS.2.2 dX3_yealmTold_114

set_option maxHeartbeats 4000000 in
set_option maxRecDepth 100000 in
theorem r3_yealmTold3 (l : Launch) (dC : Nat → ClassId) (dI : Nat → Nat → Nat) (sz : Nat) (hm : Nat) (wi : Nat) (co : Nat) (sl : Nat) (rn : Nat) (so : Nat) (bn : Nat) (sm : Nat) (ah : Nat) (th : Int32) (gr : Nat) (gt : Nat) (gw : Nat) (gk : Nat) (gi : Nat) (gp : Nat) (go : Nat) (gg : Nat) (d10 : ClassId) (d11 : ClassId) (d12 : ClassId) (d13 : ClassId) (fk : Nat → Int32) (ru : Nat) (cu : Nat) (pl : Nat) (hk : ∀ j : Nat, j < 360 → fk j = -1) (hru : ru < 6) (hcu : cu < 6) (hpl : pl < 10) : Met l yX3_yealmTold wsX3_yealmTold ({ frames := 3, cells := 1, slots := 6, locals := 68 }) (va_Pc [.ref hm, .int (nI ru), .int (nI cu), .int (nI pl), .int 3] (fun U => U.heap.size = sz ∧ va_P (dC, dI) vwCl [(hm, .inr (3, [.int th, .int 6, .ref wi, .ref co, .ref sl, .ref rn, .ref so, .ref bn, .ref sm, .ref ah])), (sm, .inr (2, [.int 0, .ref gr, .ref gt, .ref gw, .ref gk, .ref gi, .ref gp, .ref go, .ref gg, .ref hm])), (gk, .inl (d10, 360, .inl fk)), (gi, .inl (d11, 360, .inl (fun _ => 0))), (gp, .inl (d12, 360, .inl (fun _ => 0))), (go, .inl (d13, 360, .inl (fun _ => 0)))] U.heap ∧ va_K (dC, dI) vwCl [(d10, .int), (d11, .int), (d12, .int), (d13, .int)] U ∧ va_D (fun _ => True) [(hm, .inr (3, [.int th, .int 6, .ref wi, .ref co, .ref sl, .ref rn, .ref so, .ref bn, .ref sm, .ref ah])), (sm, .inr (2, [.int 0, .ref gr, .ref gt, .ref gw, .ref gk, .ref gi, .ref gp, .ref go, .ref gg, .ref hm])), (gk, .inl (d10, 360, .inl fk)), (gi, .inl (d11, 360, .inl (fun _ => 0))), (gp, .inl (d12, 360, .inl (fun _ => 0))), (go, .inl (d13, 360, .inl (fun _ => 0)))] ∧ zNs U)) (va_Qi (fun (r : Int32) (u : Unit) => r = 0) (fun (u : Unit) (t : State) => va_P (dC, dI) vwCl [(hm, .inr (3, [.int th, .int 6, .ref wi, .ref co, .ref sl, .ref rn, .ref so, .ref bn, .ref sm, .ref ah])), (sm, .inr (2, [.int 0, .ref gr, .ref gt, .ref gw, .ref gk, .ref gi, .ref gp, .ref go, .ref gg, .ref hm])), (gk, .inl (d10, 360, .inl fk)), (gi, .inl (d11, 360, .inl (fun _ => 0))), (gp, .inl (d12, 360, .inl (fun _ => 0))), (go, .inl (d13, 360, .inl (fun _ => 0)))] t.heap ∧ va_K (dC, dI) vwCl [] t ∧ va_D (va_A [(hm, .inr (3, [.int th, .int 6, .ref wi, .ref co, .ref sl, .ref rn, .ref so, .ref bn, .ref sm, .ref ah])), (sm, .inr (2, [.int 0, .ref gr, .ref gt, .ref gw, .ref gk, .ref gi, .ref gp, .ref go, .ref gg, .ref hm])), (gk, .inl (d10, 360, .inl fk)), (gi, .inl (d11, 360, .inl (fun _ => 0))), (gp, .inl (d12, 360, .inl (fun _ => 0))), (go, .inl (d13, 360, .inl (fun _ => 0)))] sz) [(hm, .inr (3, [.int th, .int 6, .ref wi, .ref co, .ref sl, .ref rn, .ref so, .ref bn, .ref sm, .ref ah])), (sm, .inr (2, [.int 0, .ref gr, .ref gt, .ref gw, .ref gk, .ref gi, .ref gp, .ref go, .ref gg, .ref hm])), (gk, .inl (d10, 360, .inl fk)), (gi, .inl (d11, 360, .inl (fun _ => 0))), (gp, .inl (d12, 360, .inl (fun _ => 0))), (go, .inl (d13, 360, .inl (fun _ => 0)))] ∧ sz + 1 ≤ t.heap.size) (va_A [(hm, .inr (3, [.int th, .int 6, .ref wi, .ref co, .ref sl, .ref rn, .ref so, .ref bn, .ref sm, .ref ah])), (sm, .inr (2, [.int 0, .ref gr, .ref gt, .ref gw, .ref gk, .ref gi, .ref gp, .ref go, .ref gg, .ref hm])), (gk, .inl (d10, 360, .inl fk)), (gi, .inl (d11, 360, .inl (fun _ => 0))), (gp, .inl (d12, 360, .inl (fun _ => 0))), (go, .inl (d13, 360, .inl (fun _ => 0)))] sz)) 1 6 (va_A [(hm, .inr (3, [.int th, .int 6, .ref wi, .ref co, .ref sl, .ref rn, .ref so, .ref bn, .ref sm, .ref ah])), (sm, .inr (2, [.int 0, .ref gr, .ref gt, .ref gw, .ref gk, .ref gi, .ref gp, .ref go, .ref gg, .ref hm])), (gk, .inl (d10, 360, .inl fk)), (gi, .inl (d11, 360, .inl (fun _ => 0))), (gp, .inl (d12, 360, .inl (fun _ => 0))), (go, .inl (d13, 360, .inl (fun _ => 0)))] sz) := by
  refine Met.ofW (cc := cX3_yealmTold) (maxL := 7) (ret := (some .int)) (by decide) rfl ?_
  intro p e s m args below meth c s₁ B hml hv
  obtain ⟨rfl, hsz, hP, hK, hD0, hZN⟩ := hv
  have hx := B.exec
  have hb := B.bytes
  have hr := B.returns
  have hts := atoms_spec (ws := wsX3_yealmTold) B.pre
  have hown : s.vm.findClass RX3 = some m.cls := findClass_of_methodNamed B.named
  have hlocks := B.notSynchronized
  subst hsz
  have hD := hD0.self (sz := s.heap.size)
  generalize hAe : va_A [(hm, .inr (3, [.int th, .int 6, .ref wi, .ref co, .ref sl, .ref rn, .ref so, .ref bn, .ref sm, .ref ah])), (sm, .inr (2, [.int 0, .ref gr, .ref gt, .ref gw, .ref gk, .ref gi, .ref gp, .ref go, .ref gg, .ref hm])), (gk, .inl (d10, 360, .inl fk)), (gi, .inl (d11, 360, .inl (fun _ => 0))), (gp, .inl (d12, 360, .inl (fun _ => 0))), (go, .inl (d13, 360, .inl (fun _ => 0)))] s.heap.size = A at hD ⊢
  have hA : ∀ q : Nat, s.heap.size ≤ q → A q := fun q h => by rw [← hAe]; exact Or.inr h
  have hS : va_S A s.heap s.heap [] := va_S.rf
  have hP : va_P (dC, dI) vwCl [(hm, .inr (3, [.int th, .int 6, .ref wi, .ref co, .ref sl, .ref rn, .ref so, .ref bn, .ref sm, .ref ah])), (sm, .inr (2, [.int 0, .ref gr, .ref gt, .ref gw, .ref gk, .ref gi, .ref gp, .ref go, .ref gg, .ref hm])), (gk, .inl (d10, 360, .inl fk)), (gi, .inl (d11, 360, .inl (fun _ => 0))), (gp, .inl (d12, 360, .inl (fun _ => 0))), (go, .inl (d13, 360, .inl (fun _ => 0)))] s.heap := hP
  have hl := lv_entry ([.ref hm, .int (nI ru), .int (nI cu), .int (nI pl), .int 3]) (n := 7) (Nat.le_of_ble_eq_true rfl)
  rw [lg_entry_eq]
  generalize (lg_sl ([.ref hm, .int (nI ru), .int (nI cu), .int (nI pl), .int 3]) ++ List.replicate (7 - (lg_sl ([.ref hm, .int (nI ru), .int (nI cu), .int (nI pl), .int 3])).length) Slot.unset).toArray = ls at hl ⊢
  have hl : lv_has ls 7 [(0, .ref hm), (1, .int (nI ru)), (2, .int (nI cu)), (3, .int (nI pl)), (4, .int 3)] := hl
  refine lv_iload_n hx hb dX3_yealmTold_0 rfl (lv_at hl 1 rfl) ?_
  refine lv_iload_n hx hb dX3_yealmTold_1 rfl (lv_at hl 2 rfl) ?_
  refine lv_iload_n hx hb dX3_yealmTold_2 rfl (lv_at hl 3 rfl) ?_
  refine vp_callSi (va_runS (As := [.int (nI ru), .int (nI cu), .int (nI pl)]) (rest := []) ⟨hx, hb, hml, hown, hts⟩ (r3_cell l dC dI ru cu pl ) (va_cwS 3 hts gX3_yealmTold_X3_cell rfl rfl rfl (by decide +kernel) ⟨Nat.le_of_ble_eq_true rfl, Nat.le_of_ble_eq_true rfl⟩) ⟨fun a U g mk q => q, fun U hU hW => ⟨rfl, trivial⟩⟩ rfl rfl hl.1 rfl (lv_room (Nat.le_of_ble_eq_true rfl)) dX3_yealmTold_3 ⟨Nat.le_of_ble_eq_true rfl, Nat.le_of_ble_eq_true rfl⟩).run (fun r1 hr1 => ?_)
  have evr1_0 := hr1
  rw [evr1_0]
  refine lv_istore (lv' := [(5, .int (nI (60 * ru + 10 * cu + pl))), (0, .ref hm), (1, .int (nI ru)), (2, .int (nI cu)), (3, .int (nI pl)), (4, .int 3)]) hx hb dX3_yealmTold_6 hl (by decide) rfl (fun ls hl => ?_)
  refine lv_bipush (v := 6) hx hb dX3_yealmTold_8 (by decide) ?_
  refine va_newa (atype := .int) (ty := .int) (N' := 6) (a0 := (6, .inl (fun _ => 0))) hx hb (hts (.arrayClass .int) (by decide +kernel)) rfl hK hP hD hS hA (fun _ => rfl) (by decide) (by decide) (by decide) (Nat.le_of_ble_eq_true rfl) (Nat.le_of_ble_eq_true rfl) dX3_yealmTold_10 (fun q2 cA3 H hK hP hD hS => ?_)
  refine W.widen (k := 1) (n := 6) (Nat.le_of_ble_eq_true rfl) (Nat.le_of_ble_eq_true rfl) ?_
  have hK : va_K (dC, dI) vwCl [(d10, .int), (d11, .int), (d12, .int), (d13, .int), (cA3, .int)] s := hK
  have hP : va_P (dC, dI) vwCl [(hm, .inr (3, [.int th, .int 6, .ref wi, .ref co, .ref sl, .ref rn, .ref so, .ref bn, .ref sm, .ref ah])), (sm, .inr (2, [.int 0, .ref gr, .ref gt, .ref gw, .ref gk, .ref gi, .ref gp, .ref go, .ref gg, .ref hm])), (gk, .inl (d10, 360, .inl fk)), (gi, .inl (d11, 360, .inl (fun _ => 0))), (gp, .inl (d12, 360, .inl (fun _ => 0))), (go, .inl (d13, 360, .inl (fun _ => 0))), (q2, .inl (cA3, 6, .inl (fun _ => 0)))] H := hP
  have hD : va_D A [(hm, .inr (3, [.int th, .int 6, .ref wi, .ref co, .ref sl, .ref rn, .ref so, .ref bn, .ref sm, .ref ah])), (sm, .inr (2, [.int 0, .ref gr, .ref gt, .ref gw, .ref gk, .ref gi, .ref gp, .ref go, .ref gg, .ref hm])), (gk, .inl (d10, 360, .inl fk)), (gi, .inl (d11, 360, .inl (fun _ => 0))), (gp, .inl (d12, 360, .inl (fun _ => 0))), (go, .inl (d13, 360, .inl (fun _ => 0))), (q2, .inl (cA3, 6, .inl (fun _ => 0)))] := hD
  refine lv_dup hx hb dX3_yealmTold_12 rfl ?_
  refine lv_iconst (v := 0) hx hb dX3_yealmTold_13 (by decide) ?_
  refine lv_aload_n hx hb dX3_yealmTold_14 rfl (lv_at hl 1 rfl) ?_
  refine va_get (D := (dC, dI)) (ci := 3) (v := .ref sm) (C := RX3) (T := TX3) (N := 10) hx hb hts (by decide +kernel) hown hK hP 0 rfl rfl 8 (by decide) (hts (.fieldLink RX3 33 "ThatchRoofModel" "s" "LThatchRoofModel$State;") (by decide +kernel)) (fun _ h9 => h9) rfl dX3_yealmTold_15 ?_
  refine va_getN (D := (dC, dI)) (ci := 2) (v := .ref gk) (C := RX2) (T := TX2) (N := 10) hx hb hts (by decide +kernel) hown hK hP 1 rfl rfl 4 (by decide) (va_Nw.use rfl (zN_RX3_86 hZN)) (fun _ h9 => h9) rfl dX3_yealmTold_18 ?_
  refine lv_iload hx hb dX3_yealmTold_21 (lv_at hl 0 rfl) ?_
  refine va_iald hx hb hK hP 2 0 rfl rfl (vp_in_nI (by omega) (by omega)) dX3_yealmTold_23 ?_
  refine lv_topi (fun x4 ex4 => ?_)
  rw [nI_clamp (show (60 * ru + 10 * cu + pl) < 2 ^ 31 by omega)] at ex4
  obtain rfl : x4 = (-1) := ex4.trans (hk _ (by omega))
  refine lv_iconst (v := (-1)) hx hb dX3_yealmTold_24 (by decide) ?_
  refine lv_icmp_ne (tgt := 32) hx hb dX3_yealmTold_25 (by decide) (fun c5 => absurd c5 (by decide)) (fun c5 => ?_)
  refine lv_iconst (v := 0) hx hb dX3_yealmTold_28 (by decide) ?_
  refine lv_goto (tgt := 33) hx hb dX3_yealmTold_29 (by decide) ?_
  refine va_iast hx hb hK hP hD hS 6 4 rfl rfl (vp_in_nI (n := 0) (by decide) (by decide)) dX3_yealmTold_33 (fun H locs hP hD hS => ?_)
  have hP : va_P (dC, dI) vwCl [(hm, .inr (3, [.int th, .int 6, .ref wi, .ref co, .ref sl, .ref rn, .ref so, .ref bn, .ref sm, .ref ah])), (sm, .inr (2, [.int 0, .ref gr, .ref gt, .ref gw, .ref gk, .ref gi, .ref gp, .ref go, .ref gg, .ref hm])), (gk, .inl (d10, 360, .inl fk)), (gi, .inl (d11, 360, .inl (fun _ => 0))), (gp, .inl (d12, 360, .inl (fun _ => 0))), (go, .inl (d13, 360, .inl (fun _ => 0))), (q2, .inl (cA3, 6, .inl (upd (fun _ => 0) 0 0)))] H := hP
  have hD : va_D A [(hm, .inr (3, [.int th, .int 6, .ref wi, .ref co, .ref sl, .ref rn, .ref so, .ref bn, .ref sm, .ref ah])), (sm, .inr (2, [.int 0, .ref gr, .ref gt, .ref gw, .ref gk, .ref gi, .ref gp, .ref go, .ref gg, .ref hm])), (gk, .inl (d10, 360, .inl fk)), (gi, .inl (d11, 360, .inl (fun _ => 0))), (gp, .inl (d12, 360, .inl (fun _ => 0))), (go, .inl (d13, 360, .inl (fun _ => 0))), (q2, .inl (cA3, 6, .inl (upd (fun _ => 0) 0 0)))] := hD
  refine lv_dup hx hb dX3_yealmTold_34 rfl ?_
  refine lv_iconst (v := 1) hx hb dX3_yealmTold_35 (by decide) ?_
  refine lv_aload_n hx hb dX3_yealmTold_36 rfl (lv_at hl 1 rfl) ?_
  refine va_get (D := (dC, dI)) (ci := 3) (v := .ref sm) (C := RX3) (T := TX3) (N := 10) hx hb hts (by decide +kernel) hown hK hP 0 rfl rfl 8 (by decide) (hts (.fieldLink RX3 33 "ThatchRoofModel" "s" "LThatchRoofModel$State;") (by decide +kernel)) (fun _ h9 => h9) rfl dX3_yealmTold_37 ?_
  refine va_getN (D := (dC, dI)) (ci := 2) (v := .ref gk) (C := RX2) (T := TX2) (N := 10) hx hb hts (by decide +kernel) hown hK hP 1 rfl rfl 4 (by decide) (va_Nw.use rfl (zN_RX3_86 hZN)) (fun _ h9 => h9) rfl dX3_yealmTold_40 ?_
  refine lv_iload hx hb dX3_yealmTold_43 (lv_at hl 0 rfl) ?_
  refine va_iald hx hb hK hP 2 0 rfl rfl (vp_in_nI (by omega) (by omega)) dX3_yealmTold_45 ?_
  refine lv_topi (fun x6 ex6 => ?_)
  rw [nI_clamp (show (60 * ru + 10 * cu + pl) < 2 ^ 31 by omega)] at ex6
  obtain rfl : x6 = (-1) := ex6.trans (hk _ (by omega))
  refine va_iast hx hb hK hP hD hS 6 4 rfl rfl (vp_in_nI (n := 1) (by decide) (by decide)) dX3_yealmTold_46 (fun H locs hP hD hS => ?_)
  have hP : va_P (dC, dI) vwCl [(hm, .inr (3, [.int th, .int 6, .ref wi, .ref co, .ref sl, .ref rn, .ref so, .ref bn, .ref sm, .ref ah])), (sm, .inr (2, [.int 0, .ref gr, .ref gt, .ref gw, .ref gk, .ref gi, .ref gp, .ref go, .ref gg, .ref hm])), (gk, .inl (d10, 360, .inl fk)), (gi, .inl (d11, 360, .inl (fun _ => 0))), (gp, .inl (d12, 360, .inl (fun _ => 0))), (go, .inl (d13, 360, .inl (fun _ => 0))), (q2, .inl (cA3, 6, .inl (upd (upd (fun _ => 0) 0 0) 1 (-1))))] H := hP
  have hD : va_D A [(hm, .inr (3, [.int th, .int 6, .ref wi, .ref co, .ref sl, .ref rn, .ref so, .ref bn, .ref sm, .ref ah])), (sm, .inr (2, [.int 0, .ref gr, .ref gt, .ref gw, .ref gk, .ref gi, .ref gp, .ref go, .ref gg, .ref hm])), (gk, .inl (d10, 360, .inl fk)), (gi, .inl (d11, 360, .inl (fun _ => 0))), (gp, .inl (d12, 360, .inl (fun _ => 0))), (go, .inl (d13, 360, .inl (fun _ => 0))), (q2, .inl (cA3, 6, .inl (upd (upd (fun _ => 0) 0 0) 1 (-1))))] := hD
  refine lv_dup hx hb dX3_yealmTold_47 rfl ?_
  refine lv_iconst (v := 2) hx hb dX3_yealmTold_48 (by decide) ?_
  refine lv_aload_n hx hb dX3_yealmTold_49 rfl (lv_at hl 1 rfl) ?_
  refine va_get (D := (dC, dI)) (ci := 3) (v := .ref sm) (C := RX3) (T := TX3) (N := 10) hx hb hts (by decide +kernel) hown hK hP 0 rfl rfl 8 (by decide) (hts (.fieldLink RX3 33 "ThatchRoofModel" "s" "LThatchRoofModel$State;") (by decide +kernel)) (fun _ h9 => h9) rfl dX3_yealmTold_50 ?_
  refine va_getN (D := (dC, dI)) (ci := 2) (v := .ref gi) (C := RX2) (T := TX2) (N := 10) hx hb hts (by decide +kernel) hown hK hP 1 rfl rfl 5 (by decide) (va_Nw.use rfl (zN_RX3_93 hZN)) (fun _ h9 => h9) rfl dX3_yealmTold_53 ?_
  refine lv_iload hx hb dX3_yealmTold_56 (lv_at hl 0 rfl) ?_
  refine va_iald hx hb hK hP 3 1 rfl rfl (vp_in_nI (by omega) (by omega)) dX3_yealmTold_58 ?_
  refine lv_topi (fun x7 ex7 => ?_)
  obtain rfl : x7 = 0 := ex7
  refine va_iast hx hb hK hP hD hS 6 4 rfl rfl (vp_in_nI (n := 2) (by decide) (by decide)) dX3_yealmTold_59 (fun H locs hP hD hS => ?_)
  have hP : va_P (dC, dI) vwCl [(hm, .inr (3, [.int th, .int 6, .ref wi, .ref co, .ref sl, .ref rn, .ref so, .ref bn, .ref sm, .ref ah])), (sm, .inr (2, [.int 0, .ref gr, .ref gt, .ref gw, .ref gk, .ref gi, .ref gp, .ref go, .ref gg, .ref hm])), (gk, .inl (d10, 360, .inl fk)), (gi, .inl (d11, 360, .inl (fun _ => 0))), (gp, .inl (d12, 360, .inl (fun _ => 0))), (go, .inl (d13, 360, .inl (fun _ => 0))), (q2, .inl (cA3, 6, .inl (upd (upd (upd (fun _ => 0) 0 0) 1 (-1)) 2 0)))] H := hP
  have hD : va_D A [(hm, .inr (3, [.int th, .int 6, .ref wi, .ref co, .ref sl, .ref rn, .ref so, .ref bn, .ref sm, .ref ah])), (sm, .inr (2, [.int 0, .ref gr, .ref gt, .ref gw, .ref gk, .ref gi, .ref gp, .ref go, .ref gg, .ref hm])), (gk, .inl (d10, 360, .inl fk)), (gi, .inl (d11, 360, .inl (fun _ => 0))), (gp, .inl (d12, 360, .inl (fun _ => 0))), (go, .inl (d13, 360, .inl (fun _ => 0))), (q2, .inl (cA3, 6, .inl (upd (upd (upd (fun _ => 0) 0 0) 1 (-1)) 2 0)))] := hD
  refine lv_dup hx hb dX3_yealmTold_60 rfl ?_
  refine lv_iconst (v := 3) hx hb dX3_yealmTold_61 (by decide) ?_
  refine lv_aload_n hx hb dX3_yealmTold_62 rfl (lv_at hl 1 rfl) ?_
  refine va_get (D := (dC, dI)) (ci := 3) (v := .ref sm) (C := RX3) (T := TX3) (N := 10) hx hb hts (by decide +kernel) hown hK hP 0 rfl rfl 8 (by decide) (hts (.fieldLink RX3 33 "ThatchRoofModel" "s" "LThatchRoofModel$State;") (by decide +kernel)) (fun _ h9 => h9) rfl dX3_yealmTold_63 ?_
  refine va_getN (D := (dC, dI)) (ci := 2) (v := .ref gp) (C := RX2) (T := TX2) (N := 10) hx hb hts (by decide +kernel) hown hK hP 1 rfl rfl 6 (by decide) (va_Nw.use rfl (zN_RX3_96 hZN)) (fun _ h9 => h9) rfl dX3_yealmTold_66 ?_
  refine lv_iload hx hb dX3_yealmTold_69 (lv_at hl 0 rfl) ?_
  refine va_iald hx hb hK hP 4 2 rfl rfl (vp_in_nI (by omega) (by omega)) dX3_yealmTold_71 ?_
  refine lv_topi (fun x8 ex8 => ?_)
  obtain rfl : x8 = 0 := ex8
  refine va_iast hx hb hK hP hD hS 6 4 rfl rfl (vp_in_nI (n := 3) (by decide) (by decide)) dX3_yealmTold_72 (fun H locs hP hD hS => ?_)
  have hP : va_P (dC, dI) vwCl [(hm, .inr (3, [.int th, .int 6, .ref wi, .ref co, .ref sl, .ref rn, .ref so, .ref bn, .ref sm, .ref ah])), (sm, .inr (2, [.int 0, .ref gr, .ref gt, .ref gw, .ref gk, .ref gi, .ref gp, .ref go, .ref gg, .ref hm])), (gk, .inl (d10, 360, .inl fk)), (gi, .inl (d11, 360, .inl (fun _ => 0))), (gp, .inl (d12, 360, .inl (fun _ => 0))), (go, .inl (d13, 360, .inl (fun _ => 0))), (q2, .inl (cA3, 6, .inl (upd (upd (upd (upd (fun _ => 0) 0 0) 1 (-1)) 2 0) 3 0)))] H := hP
  have hD : va_D A [(hm, .inr (3, [.int th, .int 6, .ref wi, .ref co, .ref sl, .ref rn, .ref so, .ref bn, .ref sm, .ref ah])), (sm, .inr (2, [.int 0, .ref gr, .ref gt, .ref gw, .ref gk, .ref gi, .ref gp, .ref go, .ref gg, .ref hm])), (gk, .inl (d10, 360, .inl fk)), (gi, .inl (d11, 360, .inl (fun _ => 0))), (gp, .inl (d12, 360, .inl (fun _ => 0))), (go, .inl (d13, 360, .inl (fun _ => 0))), (q2, .inl (cA3, 6, .inl (upd (upd (upd (upd (fun _ => 0) 0 0) 1 (-1)) 2 0) 3 0)))] := hD
  refine lv_dup hx hb dX3_yealmTold_73 rfl ?_
  refine lv_iconst (v := 4) hx hb dX3_yealmTold_74 (by decide) ?_
  refine lv_aload_n hx hb dX3_yealmTold_75 rfl (lv_at hl 1 rfl) ?_
  refine va_get (D := (dC, dI)) (ci := 3) (v := .ref sm) (C := RX3) (T := TX3) (N := 10) hx hb hts (by decide +kernel) hown hK hP 0 rfl rfl 8 (by decide) (hts (.fieldLink RX3 33 "ThatchRoofModel" "s" "LThatchRoofModel$State;") (by decide +kernel)) (fun _ h9 => h9) rfl dX3_yealmTold_76 ?_
  refine va_getN (D := (dC, dI)) (ci := 2) (v := .ref go) (C := RX2) (T := TX2) (N := 10) hx hb hts (by decide +kernel) hown hK hP 1 rfl rfl 7 (by decide) (va_Nw.use rfl (zN_RX3_99 hZN)) (fun _ h9 => h9) rfl dX3_yealmTold_79 ?_
  refine lv_iload hx hb dX3_yealmTold_82 (lv_at hl 0 rfl) ?_
  refine va_iald hx hb hK hP 5 3 rfl rfl (vp_in_nI (by omega) (by omega)) dX3_yealmTold_84 ?_
  refine lv_topi (fun x9 ex9 => ?_)
  obtain rfl : x9 = 0 := ex9
  refine va_iast hx hb hK hP hD hS 6 4 rfl rfl (vp_in_nI (n := 4) (by decide) (by decide)) dX3_yealmTold_85 (fun H locs hP hD hS => ?_)
  have hP : va_P (dC, dI) vwCl [(hm, .inr (3, [.int th, .int 6, .ref wi, .ref co, .ref sl, .ref rn, .ref so, .ref bn, .ref sm, .ref ah])), (sm, .inr (2, [.int 0, .ref gr, .ref gt, .ref gw, .ref gk, .ref gi, .ref gp, .ref go, .ref gg, .ref hm])), (gk, .inl (d10, 360, .inl fk)), (gi, .inl (d11, 360, .inl (fun _ => 0))), (gp, .inl (d12, 360, .inl (fun _ => 0))), (go, .inl (d13, 360, .inl (fun _ => 0))), (q2, .inl (cA3, 6, .inl (upd (upd (upd (upd (upd (fun _ => 0) 0 0) 1 (-1)) 2 0) 3 0) 4 0)))] H := hP
  have hD : va_D A [(hm, .inr (3, [.int th, .int 6, .ref wi, .ref co, .ref sl, .ref rn, .ref so, .ref bn, .ref sm, .ref ah])), (sm, .inr (2, [.int 0, .ref gr, .ref gt, .ref gw, .ref gk, .ref gi, .ref gp, .ref go, .ref gg, .ref hm])), (gk, .inl (d10, 360, .inl fk)), (gi, .inl (d11, 360, .inl (fun _ => 0))), (gp, .inl (d12, 360, .inl (fun _ => 0))), (go, .inl (d13, 360, .inl (fun _ => 0))), (q2, .inl (cA3, 6, .inl (upd (upd (upd (upd (upd (fun _ => 0) 0 0) 1 (-1)) 2 0) 3 0) 4 0)))] := hD
  refine lv_dup hx hb dX3_yealmTold_86 rfl ?_
  refine lv_iconst (v := 5) hx hb dX3_yealmTold_87 (by decide) ?_
  refine lv_aload_n hx hb dX3_yealmTold_88 rfl (lv_at hl 1 rfl) ?_
  refine va_get (D := (dC, dI)) (ci := 3) (v := .ref sm) (C := RX3) (T := TX3) (N := 10) hx hb hts (by decide +kernel) hown hK hP 0 rfl rfl 8 (by decide) (hts (.fieldLink RX3 33 "ThatchRoofModel" "s" "LThatchRoofModel$State;") (by decide +kernel)) (fun _ h9 => h9) rfl dX3_yealmTold_89 ?_
  refine lv_iload_n hx hb dX3_yealmTold_92 rfl (lv_at hl 2 rfl) ?_
  refine lv_iload_n hx hb dX3_yealmTold_93 rfl (lv_at hl 3 rfl) ?_
  refine lv_iload_n hx hb dX3_yealmTold_94 rfl (lv_at hl 4 rfl) ?_
  have hPc := hP.sub (ws' := [(sm, .inr (2, [.int 0, .ref gr, .ref gt, .ref gw, .ref gk, .ref gi, .ref gp, .ref go, .ref gg, .ref hm])), (gk, .inl (d10, 360, .inl fk))]) [1, 2] rfl
  have hKc := hK.sub (tys' := [(d10, .int)]) [0] rfl
  refine vp_callSi (va_runV (As := [.int (nI ru), .int (nI cu), .int (nI pl)]) (rest := [.int 5, .ref q2, .ref q2]) ⟨hx, hb, hml, hown, hts⟩ (r2_isBare l dC dI sm hm gr gt gw gk gi gp go gg d10 fk ru cu pl (by first | assumption | decide | omega) (by first | assumption | decide | omega) (by first | assumption | decide | omega) (by first | assumption | decide | omega)) (cwV 3 hts gX3_yealmTold_X2_isBare rfl rfl rfl (by decide +kernel) ⟨Nat.le_of_ble_eq_true rfl, Nat.le_of_ble_eq_true rfl⟩) ⟨fun a U g mk q => by obtain ⟨q0, qP, qK, qN⟩ := q; exact ⟨q0, qP, va_K.moved (u := U) (U := U.calling g mk a) (Vm.Alike.refl U.vm) qK, zNs.calling qN⟩, va_recv hKc hPc (ci := 2) (q0 := 0) rfl rfl, fun U hU hW => ⟨rfl, by rw [hU]; exact hPc, va_K.moved hW.alike hKc, zNs.warm hW hZN⟩⟩ rfl rfl hl.1 rfl (lv_room (Nat.le_of_ble_eq_true rfl)) dX3_yealmTold_95 ⟨Nat.le_of_ble_eq_true rfl, Nat.le_of_ble_eq_true rfl⟩).run (fun r10 hr10 => ?_)
  obtain rfl := hr10
  refine lv_if_eq (tgt := 105) hx hb dX3_yealmTold_98 (by decide) (fun c11 => ?_) (fun c11 => absurd c11 (by decide))
  refine lv_iconst (v := 0) hx hb dX3_yealmTold_105 (by decide) ?_
  refine va_iast hx hb hK hP hD hS 6 4 rfl rfl (vp_in_nI (n := 5) (by decide) (by decide)) dX3_yealmTold_106 (fun H locs hP hD hS => ?_)
  have hP : va_P (dC, dI) vwCl [(hm, .inr (3, [.int th, .int 6, .ref wi, .ref co, .ref sl, .ref rn, .ref so, .ref bn, .ref sm, .ref ah])), (sm, .inr (2, [.int 0, .ref gr, .ref gt, .ref gw, .ref gk, .ref gi, .ref gp, .ref go, .ref gg, .ref hm])), (gk, .inl (d10, 360, .inl fk)), (gi, .inl (d11, 360, .inl (fun _ => 0))), (gp, .inl (d12, 360, .inl (fun _ => 0))), (go, .inl (d13, 360, .inl (fun _ => 0))), (q2, .inl (cA3, 6, .inl (upd (upd (upd (upd (upd (upd (fun _ => 0) 0 0) 1 (-1)) 2 0) 3 0) 4 0) 5 0)))] H := hP
  have hD : va_D A [(hm, .inr (3, [.int th, .int 6, .ref wi, .ref co, .ref sl, .ref rn, .ref so, .ref bn, .ref sm, .ref ah])), (sm, .inr (2, [.int 0, .ref gr, .ref gt, .ref gw, .ref gk, .ref gi, .ref gp, .ref go, .ref gg, .ref hm])), (gk, .inl (d10, 360, .inl fk)), (gi, .inl (d11, 360, .inl (fun _ => 0))), (gp, .inl (d12, 360, .inl (fun _ => 0))), (go, .inl (d13, 360, .inl (fun _ => 0))), (q2, .inl (cA3, 6, .inl (upd (upd (upd (upd (upd (upd (fun _ => 0) 0 0) 1 (-1)) 2 0) 3 0) 4 0) 5 0)))] := hD
  refine lv_astore (lv' := [(6, .ref q2), (5, .int (nI (60 * ru + 10 * cu + pl))), (0, .ref hm), (1, .int (nI ru)), (2, .int (nI cu)), (3, .int (nI pl)), (4, .int 3)]) hx hb dX3_yealmTold_107 hl (by decide) rfl (fun ls hl => ?_)
  refine lv_aload hx hb dX3_yealmTold_109 (lv_at hl 0 rfl) ?_
  refine lv_iload hx hb dX3_yealmTold_111 (lv_at hl 6 rfl) ?_
  refine va_iald hx hb hK hP 6 4 rfl rfl (vp_in_nI (n := 3) (by decide) (by decide)) dX3_yealmTold_113 ?_
  refine lv_topi (fun x12 ex12 => ?_)
  obtain rfl : x12 = 0 := ex12
  have hP9 := hP.sub (ws' := [(hm, .inr (3, [.int th, .int 6, .ref wi, .ref co, .ref sl, .ref rn, .ref so, .ref bn, .ref sm, .ref ah])), (sm, .inr (2, [.int 0, .ref gr, .ref gt, .ref gw, .ref gk, .ref gi, .ref gp, .ref go, .ref gg, .ref hm])), (gk, .inl (d10, 360, .inl fk)), (gi, .inl (d11, 360, .inl (fun _ => 0))), (gp, .inl (d12, 360, .inl (fun _ => 0))), (go, .inl (d13, 360, .inl (fun _ => 0)))]) [0, 1, 2, 3, 4, 5] rfl
  have hD9 := hD.sub (ws' := [(hm, .inr (3, [.int th, .int 6, .ref wi, .ref co, .ref sl, .ref rn, .ref so, .ref bn, .ref sm, .ref ah])), (sm, .inr (2, [.int 0, .ref gr, .ref gt, .ref gw, .ref gk, .ref gi, .ref gp, .ref go, .ref gg, .ref hm])), (gk, .inl (d10, 360, .inl fk)), (gi, .inl (d11, 360, .inl (fun _ => 0))), (gp, .inl (d12, 360, .inl (fun _ => 0))), (go, .inl (d13, 360, .inl (fun _ => 0)))]) [0, 1, 2, 3, 4, 5] (by decide) rfl
  have hK9 := hK.sub (tys' := []) [] rfl
  refine W.widen (k := 1) (n := 6) (Nat.le_of_ble_eq_true rfl) (Nat.le_of_ble_eq_true rfl) ?_
  have hZ := zz_one hAe hD hP 6 [0, 1, 2, 3, 4, 5] rfl rfl (by decide)
  exact W.iret (v := 0) hx hb hr (fun t ht hW => ⟨⟨0, (), rfl, by (first | rfl | assumption | decide | (simp_all; done) | grind), ⟨by rw [ht]; exact hP9, va_K.moved hW.alike hK9, hD9, by rw [ht]; omega⟩⟩, hS.F ht⟩) hS.2.2 dX3_yealmTold_114

set_option maxHeartbeats 4000000 in
set_option maxRecDepth 100000 in
theorem r3_yealmTold4 (l : Launch) (dC : Nat → ClassId) (dI : Nat → Nat → Nat) (sz : Nat) (hm : Nat) (wi : Nat) (co : Nat) (sl : Nat) (rn : Nat) (so : Nat) (bn : Nat) (sm : Nat) (ah : Nat) (th : Int32) (gr : Nat) (gt : Nat) (gw : Nat) (gk : Nat) (gi : Nat) (gp : Nat) (go : Nat) (gg : Nat) (d10 : ClassId) (d11 : ClassId) (d12 : ClassId) (d13 : ClassId) (fk : Nat → Int32) (ru : Nat) (cu : Nat) (pl : Nat) (hk : ∀ j : Nat, j < 360 → fk j = -1) (hru : ru < 6) (hcu : cu < 6) (hpl : pl < 10) : Met l yX3_yealmTold wsX3_yealmTold ({ frames := 3, cells := 1, slots := 6, locals := 68 }) (va_Pc [.ref hm, .int (nI ru), .int (nI cu), .int (nI pl), .int 4] (fun U => U.heap.size = sz ∧ va_P (dC, dI) vwCl [(hm, .inr (3, [.int th, .int 6, .ref wi, .ref co, .ref sl, .ref rn, .ref so, .ref bn, .ref sm, .ref ah])), (sm, .inr (2, [.int 0, .ref gr, .ref gt, .ref gw, .ref gk, .ref gi, .ref gp, .ref go, .ref gg, .ref hm])), (gk, .inl (d10, 360, .inl fk)), (gi, .inl (d11, 360, .inl (fun _ => 0))), (gp, .inl (d12, 360, .inl (fun _ => 0))), (go, .inl (d13, 360, .inl (fun _ => 0)))] U.heap ∧ va_K (dC, dI) vwCl [(d10, .int), (d11, .int), (d12, .int), (d13, .int)] U ∧ va_D (fun _ => True) [(hm, .inr (3, [.int th, .int 6, .ref wi, .ref co, .ref sl, .ref rn, .ref so, .ref bn, .ref sm, .ref ah])), (sm, .inr (2, [.int 0, .ref gr, .ref gt, .ref gw, .ref gk, .ref gi, .ref gp, .ref go, .ref gg, .ref hm])), (gk, .inl (d10, 360, .inl fk)), (gi, .inl (d11, 360, .inl (fun _ => 0))), (gp, .inl (d12, 360, .inl (fun _ => 0))), (go, .inl (d13, 360, .inl (fun _ => 0)))] ∧ zNs U)) (va_Qi (fun (r : Int32) (u : Unit) => r = 0) (fun (u : Unit) (t : State) => va_P (dC, dI) vwCl [(hm, .inr (3, [.int th, .int 6, .ref wi, .ref co, .ref sl, .ref rn, .ref so, .ref bn, .ref sm, .ref ah])), (sm, .inr (2, [.int 0, .ref gr, .ref gt, .ref gw, .ref gk, .ref gi, .ref gp, .ref go, .ref gg, .ref hm])), (gk, .inl (d10, 360, .inl fk)), (gi, .inl (d11, 360, .inl (fun _ => 0))), (gp, .inl (d12, 360, .inl (fun _ => 0))), (go, .inl (d13, 360, .inl (fun _ => 0)))] t.heap ∧ va_K (dC, dI) vwCl [] t ∧ va_D (va_A [(hm, .inr (3, [.int th, .int 6, .ref wi, .ref co, .ref sl, .ref rn, .ref so, .ref bn, .ref sm, .ref ah])), (sm, .inr (2, [.int 0, .ref gr, .ref gt, .ref gw, .ref gk, .ref gi, .ref gp, .ref go, .ref gg, .ref hm])), (gk, .inl (d10, 360, .inl fk)), (gi, .inl (d11, 360, .inl (fun _ => 0))), (gp, .inl (d12, 360, .inl (fun _ => 0))), (go, .inl (d13, 360, .inl (fun _ => 0)))] sz) [(hm, .inr (3, [.int th, .int 6, .ref wi, .ref co, .ref sl, .ref rn, .ref so, .ref bn, .ref sm, .ref ah])), (sm, .inr (2, [.int 0, .ref gr, .ref gt, .ref gw, .ref gk, .ref gi, .ref gp, .ref go, .ref gg, .ref hm])), (gk, .inl (d10, 360, .inl fk)), (gi, .inl (d11, 360, .inl (fun _ => 0))), (gp, .inl (d12, 360, .inl (fun _ => 0))), (go, .inl (d13, 360, .inl (fun _ => 0)))] ∧ sz + 1 ≤ t.heap.size) (va_A [(hm, .inr (3, [.int th, .int 6, .ref wi, .ref co, .ref sl, .ref rn, .ref so, .ref bn, .ref sm, .ref ah])), (sm, .inr (2, [.int 0, .ref gr, .ref gt, .ref gw, .ref gk, .ref gi, .ref gp, .ref go, .ref gg, .ref hm])), (gk, .inl (d10, 360, .inl fk)), (gi, .inl (d11, 360, .inl (fun _ => 0))), (gp, .inl (d12, 360, .inl (fun _ => 0))), (go, .inl (d13, 360, .inl (fun _ => 0)))] sz)) 1 6 (va_A [(hm, .inr (3, [.int th, .int 6, .ref wi, .ref co, .ref sl, .ref rn, .ref so, .ref bn, .ref sm, .ref ah])), (sm, .inr (2, [.int 0, .ref gr, .ref gt, .ref gw, .ref gk, .ref gi, .ref gp, .ref go, .ref gg, .ref hm])), (gk, .inl (d10, 360, .inl fk)), (gi, .inl (d11, 360, .inl (fun _ => 0))), (gp, .inl (d12, 360, .inl (fun _ => 0))), (go, .inl (d13, 360, .inl (fun _ => 0)))] sz) := by
  refine Met.ofW (cc := cX3_yealmTold) (maxL := 7) (ret := (some .int)) (by decide) rfl ?_
  intro p e s m args below meth c s₁ B hml hv
  obtain ⟨rfl, hsz, hP, hK, hD0, hZN⟩ := hv
  have hx := B.exec
  have hb := B.bytes
  have hr := B.returns
  have hts := atoms_spec (ws := wsX3_yealmTold) B.pre
  have hown : s.vm.findClass RX3 = some m.cls := findClass_of_methodNamed B.named
  have hlocks := B.notSynchronized
  subst hsz
  have hD := hD0.self (sz := s.heap.size)
  generalize hAe : va_A [(hm, .inr (3, [.int th, .int 6, .ref wi, .ref co, .ref sl, .ref rn, .ref so, .ref bn, .ref sm, .ref ah])), (sm, .inr (2, [.int 0, .ref gr, .ref gt, .ref gw, .ref gk, .ref gi, .ref gp, .ref go, .ref gg, .ref hm])), (gk, .inl (d10, 360, .inl fk)), (gi, .inl (d11, 360, .inl (fun _ => 0))), (gp, .inl (d12, 360, .inl (fun _ => 0))), (go, .inl (d13, 360, .inl (fun _ => 0)))] s.heap.size = A at hD ⊢
  have hA : ∀ q : Nat, s.heap.size ≤ q → A q := fun q h => by rw [← hAe]; exact Or.inr h
  have hS : va_S A s.heap s.heap [] := va_S.rf
  have hP : va_P (dC, dI) vwCl [(hm, .inr (3, [.int th, .int 6, .ref wi, .ref co, .ref sl, .ref rn, .ref so, .ref bn, .ref sm, .ref ah])), (sm, .inr (2, [.int 0, .ref gr, .ref gt, .ref gw, .ref gk, .ref gi, .ref gp, .ref go, .ref gg, .ref hm])), (gk, .inl (d10, 360, .inl fk)), (gi, .inl (d11, 360, .inl (fun _ => 0))), (gp, .inl (d12, 360, .inl (fun _ => 0))), (go, .inl (d13, 360, .inl (fun _ => 0)))] s.heap := hP
  have hl := lv_entry ([.ref hm, .int (nI ru), .int (nI cu), .int (nI pl), .int 4]) (n := 7) (Nat.le_of_ble_eq_true rfl)
  rw [lg_entry_eq]
  generalize (lg_sl ([.ref hm, .int (nI ru), .int (nI cu), .int (nI pl), .int 4]) ++ List.replicate (7 - (lg_sl ([.ref hm, .int (nI ru), .int (nI cu), .int (nI pl), .int 4])).length) Slot.unset).toArray = ls at hl ⊢
  have hl : lv_has ls 7 [(0, .ref hm), (1, .int (nI ru)), (2, .int (nI cu)), (3, .int (nI pl)), (4, .int 4)] := hl
  refine lv_iload_n hx hb dX3_yealmTold_0 rfl (lv_at hl 1 rfl) ?_
  refine lv_iload_n hx hb dX3_yealmTold_1 rfl (lv_at hl 2 rfl) ?_
  refine lv_iload_n hx hb dX3_yealmTold_2 rfl (lv_at hl 3 rfl) ?_
  refine vp_callSi (va_runS (As := [.int (nI ru), .int (nI cu), .int (nI pl)]) (rest := []) ⟨hx, hb, hml, hown, hts⟩ (r3_cell l dC dI ru cu pl ) (va_cwS 3 hts gX3_yealmTold_X3_cell rfl rfl rfl (by decide +kernel) ⟨Nat.le_of_ble_eq_true rfl, Nat.le_of_ble_eq_true rfl⟩) ⟨fun a U g mk q => q, fun U hU hW => ⟨rfl, trivial⟩⟩ rfl rfl hl.1 rfl (lv_room (Nat.le_of_ble_eq_true rfl)) dX3_yealmTold_3 ⟨Nat.le_of_ble_eq_true rfl, Nat.le_of_ble_eq_true rfl⟩).run (fun r1 hr1 => ?_)
  have evr1_0 := hr1
  rw [evr1_0]
  refine lv_istore (lv' := [(5, .int (nI (60 * ru + 10 * cu + pl))), (0, .ref hm), (1, .int (nI ru)), (2, .int (nI cu)), (3, .int (nI pl)), (4, .int 4)]) hx hb dX3_yealmTold_6 hl (by decide) rfl (fun ls hl => ?_)
  refine lv_bipush (v := 6) hx hb dX3_yealmTold_8 (by decide) ?_
  refine va_newa (atype := .int) (ty := .int) (N' := 6) (a0 := (6, .inl (fun _ => 0))) hx hb (hts (.arrayClass .int) (by decide +kernel)) rfl hK hP hD hS hA (fun _ => rfl) (by decide) (by decide) (by decide) (Nat.le_of_ble_eq_true rfl) (Nat.le_of_ble_eq_true rfl) dX3_yealmTold_10 (fun q2 cA3 H hK hP hD hS => ?_)
  refine W.widen (k := 1) (n := 6) (Nat.le_of_ble_eq_true rfl) (Nat.le_of_ble_eq_true rfl) ?_
  have hK : va_K (dC, dI) vwCl [(d10, .int), (d11, .int), (d12, .int), (d13, .int), (cA3, .int)] s := hK
  have hP : va_P (dC, dI) vwCl [(hm, .inr (3, [.int th, .int 6, .ref wi, .ref co, .ref sl, .ref rn, .ref so, .ref bn, .ref sm, .ref ah])), (sm, .inr (2, [.int 0, .ref gr, .ref gt, .ref gw, .ref gk, .ref gi, .ref gp, .ref go, .ref gg, .ref hm])), (gk, .inl (d10, 360, .inl fk)), (gi, .inl (d11, 360, .inl (fun _ => 0))), (gp, .inl (d12, 360, .inl (fun _ => 0))), (go, .inl (d13, 360, .inl (fun _ => 0))), (q2, .inl (cA3, 6, .inl (fun _ => 0)))] H := hP
  have hD : va_D A [(hm, .inr (3, [.int th, .int 6, .ref wi, .ref co, .ref sl, .ref rn, .ref so, .ref bn, .ref sm, .ref ah])), (sm, .inr (2, [.int 0, .ref gr, .ref gt, .ref gw, .ref gk, .ref gi, .ref gp, .ref go, .ref gg, .ref hm])), (gk, .inl (d10, 360, .inl fk)), (gi, .inl (d11, 360, .inl (fun _ => 0))), (gp, .inl (d12, 360, .inl (fun _ => 0))), (go, .inl (d13, 360, .inl (fun _ => 0))), (q2, .inl (cA3, 6, .inl (fun _ => 0)))] := hD
  refine lv_dup hx hb dX3_yealmTold_12 rfl ?_
  refine lv_iconst (v := 0) hx hb dX3_yealmTold_13 (by decide) ?_
  refine lv_aload_n hx hb dX3_yealmTold_14 rfl (lv_at hl 1 rfl) ?_
  refine va_get (D := (dC, dI)) (ci := 3) (v := .ref sm) (C := RX3) (T := TX3) (N := 10) hx hb hts (by decide +kernel) hown hK hP 0 rfl rfl 8 (by decide) (hts (.fieldLink RX3 33 "ThatchRoofModel" "s" "LThatchRoofModel$State;") (by decide +kernel)) (fun _ h9 => h9) rfl dX3_yealmTold_15 ?_
  refine va_getN (D := (dC, dI)) (ci := 2) (v := .ref gk) (C := RX2) (T := TX2) (N := 10) hx hb hts (by decide +kernel) hown hK hP 1 rfl rfl 4 (by decide) (va_Nw.use rfl (zN_RX3_86 hZN)) (fun _ h9 => h9) rfl dX3_yealmTold_18 ?_
  refine lv_iload hx hb dX3_yealmTold_21 (lv_at hl 0 rfl) ?_
  refine va_iald hx hb hK hP 2 0 rfl rfl (vp_in_nI (by omega) (by omega)) dX3_yealmTold_23 ?_
  refine lv_topi (fun x4 ex4 => ?_)
  rw [nI_clamp (show (60 * ru + 10 * cu + pl) < 2 ^ 31 by omega)] at ex4
  obtain rfl : x4 = (-1) := ex4.trans (hk _ (by omega))
  refine lv_iconst (v := (-1)) hx hb dX3_yealmTold_24 (by decide) ?_
  refine lv_icmp_ne (tgt := 32) hx hb dX3_yealmTold_25 (by decide) (fun c5 => absurd c5 (by decide)) (fun c5 => ?_)
  refine lv_iconst (v := 0) hx hb dX3_yealmTold_28 (by decide) ?_
  refine lv_goto (tgt := 33) hx hb dX3_yealmTold_29 (by decide) ?_
  refine va_iast hx hb hK hP hD hS 6 4 rfl rfl (vp_in_nI (n := 0) (by decide) (by decide)) dX3_yealmTold_33 (fun H locs hP hD hS => ?_)
  have hP : va_P (dC, dI) vwCl [(hm, .inr (3, [.int th, .int 6, .ref wi, .ref co, .ref sl, .ref rn, .ref so, .ref bn, .ref sm, .ref ah])), (sm, .inr (2, [.int 0, .ref gr, .ref gt, .ref gw, .ref gk, .ref gi, .ref gp, .ref go, .ref gg, .ref hm])), (gk, .inl (d10, 360, .inl fk)), (gi, .inl (d11, 360, .inl (fun _ => 0))), (gp, .inl (d12, 360, .inl (fun _ => 0))), (go, .inl (d13, 360, .inl (fun _ => 0))), (q2, .inl (cA3, 6, .inl (upd (fun _ => 0) 0 0)))] H := hP
  have hD : va_D A [(hm, .inr (3, [.int th, .int 6, .ref wi, .ref co, .ref sl, .ref rn, .ref so, .ref bn, .ref sm, .ref ah])), (sm, .inr (2, [.int 0, .ref gr, .ref gt, .ref gw, .ref gk, .ref gi, .ref gp, .ref go, .ref gg, .ref hm])), (gk, .inl (d10, 360, .inl fk)), (gi, .inl (d11, 360, .inl (fun _ => 0))), (gp, .inl (d12, 360, .inl (fun _ => 0))), (go, .inl (d13, 360, .inl (fun _ => 0))), (q2, .inl (cA3, 6, .inl (upd (fun _ => 0) 0 0)))] := hD
  refine lv_dup hx hb dX3_yealmTold_34 rfl ?_
  refine lv_iconst (v := 1) hx hb dX3_yealmTold_35 (by decide) ?_
  refine lv_aload_n hx hb dX3_yealmTold_36 rfl (lv_at hl 1 rfl) ?_
  refine va_get (D := (dC, dI)) (ci := 3) (v := .ref sm) (C := RX3) (T := TX3) (N := 10) hx hb hts (by decide +kernel) hown hK hP 0 rfl rfl 8 (by decide) (hts (.fieldLink RX3 33 "ThatchRoofModel" "s" "LThatchRoofModel$State;") (by decide +kernel)) (fun _ h9 => h9) rfl dX3_yealmTold_37 ?_
  refine va_getN (D := (dC, dI)) (ci := 2) (v := .ref gk) (C := RX2) (T := TX2) (N := 10) hx hb hts (by decide +kernel) hown hK hP 1 rfl rfl 4 (by decide) (va_Nw.use rfl (zN_RX3_86 hZN)) (fun _ h9 => h9) rfl dX3_yealmTold_40 ?_
  refine lv_iload hx hb dX3_yealmTold_43 (lv_at hl 0 rfl) ?_
  refine va_iald hx hb hK hP 2 0 rfl rfl (vp_in_nI (by omega) (by omega)) dX3_yealmTold_45 ?_
  refine lv_topi (fun x6 ex6 => ?_)
  rw [nI_clamp (show (60 * ru + 10 * cu + pl) < 2 ^ 31 by omega)] at ex6
  obtain rfl : x6 = (-1) := ex6.trans (hk _ (by omega))
  refine va_iast hx hb hK hP hD hS 6 4 rfl rfl (vp_in_nI (n := 1) (by decide) (by decide)) dX3_yealmTold_46 (fun H locs hP hD hS => ?_)
  have hP : va_P (dC, dI) vwCl [(hm, .inr (3, [.int th, .int 6, .ref wi, .ref co, .ref sl, .ref rn, .ref so, .ref bn, .ref sm, .ref ah])), (sm, .inr (2, [.int 0, .ref gr, .ref gt, .ref gw, .ref gk, .ref gi, .ref gp, .ref go, .ref gg, .ref hm])), (gk, .inl (d10, 360, .inl fk)), (gi, .inl (d11, 360, .inl (fun _ => 0))), (gp, .inl (d12, 360, .inl (fun _ => 0))), (go, .inl (d13, 360, .inl (fun _ => 0))), (q2, .inl (cA3, 6, .inl (upd (upd (fun _ => 0) 0 0) 1 (-1))))] H := hP
  have hD : va_D A [(hm, .inr (3, [.int th, .int 6, .ref wi, .ref co, .ref sl, .ref rn, .ref so, .ref bn, .ref sm, .ref ah])), (sm, .inr (2, [.int 0, .ref gr, .ref gt, .ref gw, .ref gk, .ref gi, .ref gp, .ref go, .ref gg, .ref hm])), (gk, .inl (d10, 360, .inl fk)), (gi, .inl (d11, 360, .inl (fun _ => 0))), (gp, .inl (d12, 360, .inl (fun _ => 0))), (go, .inl (d13, 360, .inl (fun _ => 0))), (q2, .inl (cA3, 6, .inl (upd (upd (fun _ => 0) 0 0) 1 (-1))))] := hD
  refine lv_dup hx hb dX3_yealmTold_47 rfl ?_
  refine lv_iconst (v := 2) hx hb dX3_yealmTold_48 (by decide) ?_
  refine lv_aload_n hx hb dX3_yealmTold_49 rfl (lv_at hl 1 rfl) ?_
  refine va_get (D := (dC, dI)) (ci := 3) (v := .ref sm) (C := RX3) (T := TX3) (N := 10) hx hb hts (by decide +kernel) hown hK hP 0 rfl rfl 8 (by decide) (hts (.fieldLink RX3 33 "ThatchRoofModel" "s" "LThatchRoofModel$State;") (by decide +kernel)) (fun _ h9 => h9) rfl dX3_yealmTold_50 ?_
  refine va_getN (D := (dC, dI)) (ci := 2) (v := .ref gi) (C := RX2) (T := TX2) (N := 10) hx hb hts (by decide +kernel) hown hK hP 1 rfl rfl 5 (by decide) (va_Nw.use rfl (zN_RX3_93 hZN)) (fun _ h9 => h9) rfl dX3_yealmTold_53 ?_
  refine lv_iload hx hb dX3_yealmTold_56 (lv_at hl 0 rfl) ?_
  refine va_iald hx hb hK hP 3 1 rfl rfl (vp_in_nI (by omega) (by omega)) dX3_yealmTold_58 ?_
  refine lv_topi (fun x7 ex7 => ?_)
  obtain rfl : x7 = 0 := ex7
  refine va_iast hx hb hK hP hD hS 6 4 rfl rfl (vp_in_nI (n := 2) (by decide) (by decide)) dX3_yealmTold_59 (fun H locs hP hD hS => ?_)
  have hP : va_P (dC, dI) vwCl [(hm, .inr (3, [.int th, .int 6, .ref wi, .ref co, .ref sl, .ref rn, .ref so, .ref bn, .ref sm, .ref ah])), (sm, .inr (2, [.int 0, .ref gr, .ref gt, .ref gw, .ref gk, .ref gi, .ref gp, .ref go, .ref gg, .ref hm])), (gk, .inl (d10, 360, .inl fk)), (gi, .inl (d11, 360, .inl (fun _ => 0))), (gp, .inl (d12, 360, .inl (fun _ => 0))), (go, .inl (d13, 360, .inl (fun _ => 0))), (q2, .inl (cA3, 6, .inl (upd (upd (upd (fun _ => 0) 0 0) 1 (-1)) 2 0)))] H := hP
  have hD : va_D A [(hm, .inr (3, [.int th, .int 6, .ref wi, .ref co, .ref sl, .ref rn, .ref so, .ref bn, .ref sm, .ref ah])), (sm, .inr (2, [.int 0, .ref gr, .ref gt, .ref gw, .ref gk, .ref gi, .ref gp, .ref go, .ref gg, .ref hm])), (gk, .inl (d10, 360, .inl fk)), (gi, .inl (d11, 360, .inl (fun _ => 0))), (gp, .inl (d12, 360, .inl (fun _ => 0))), (go, .inl (d13, 360, .inl (fun _ => 0))), (q2, .inl (cA3, 6, .inl (upd (upd (upd (fun _ => 0) 0 0) 1 (-1)) 2 0)))] := hD
  refine lv_dup hx hb dX3_yealmTold_60 rfl ?_
  refine lv_iconst (v := 3) hx hb dX3_yealmTold_61 (by decide) ?_
  refine lv_aload_n hx hb dX3_yealmTold_62 rfl (lv_at hl 1 rfl) ?_
  refine va_get (D := (dC, dI)) (ci := 3) (v := .ref sm) (C := RX3) (T := TX3) (N := 10) hx hb hts (by decide +kernel) hown hK hP 0 rfl rfl 8 (by decide) (hts (.fieldLink RX3 33 "ThatchRoofModel" "s" "LThatchRoofModel$State;") (by decide +kernel)) (fun _ h9 => h9) rfl dX3_yealmTold_63 ?_
  refine va_getN (D := (dC, dI)) (ci := 2) (v := .ref gp) (C := RX2) (T := TX2) (N := 10) hx hb hts (by decide +kernel) hown hK hP 1 rfl rfl 6 (by decide) (va_Nw.use rfl (zN_RX3_96 hZN)) (fun _ h9 => h9) rfl dX3_yealmTold_66 ?_
  refine lv_iload hx hb dX3_yealmTold_69 (lv_at hl 0 rfl) ?_
  refine va_iald hx hb hK hP 4 2 rfl rfl (vp_in_nI (by omega) (by omega)) dX3_yealmTold_71 ?_
  refine lv_topi (fun x8 ex8 => ?_)
  obtain rfl : x8 = 0 := ex8
  refine va_iast hx hb hK hP hD hS 6 4 rfl rfl (vp_in_nI (n := 3) (by decide) (by decide)) dX3_yealmTold_72 (fun H locs hP hD hS => ?_)
  have hP : va_P (dC, dI) vwCl [(hm, .inr (3, [.int th, .int 6, .ref wi, .ref co, .ref sl, .ref rn, .ref so, .ref bn, .ref sm, .ref ah])), (sm, .inr (2, [.int 0, .ref gr, .ref gt, .ref gw, .ref gk, .ref gi, .ref gp, .ref go, .ref gg, .ref hm])), (gk, .inl (d10, 360, .inl fk)), (gi, .inl (d11, 360, .inl (fun _ => 0))), (gp, .inl (d12, 360, .inl (fun _ => 0))), (go, .inl (d13, 360, .inl (fun _ => 0))), (q2, .inl (cA3, 6, .inl (upd (upd (upd (upd (fun _ => 0) 0 0) 1 (-1)) 2 0) 3 0)))] H := hP
  have hD : va_D A [(hm, .inr (3, [.int th, .int 6, .ref wi, .ref co, .ref sl, .ref rn, .ref so, .ref bn, .ref sm, .ref ah])), (sm, .inr (2, [.int 0, .ref gr, .ref gt, .ref gw, .ref gk, .ref gi, .ref gp, .ref go, .ref gg, .ref hm])), (gk, .inl (d10, 360, .inl fk)), (gi, .inl (d11, 360, .inl (fun _ => 0))), (gp, .inl (d12, 360, .inl (fun _ => 0))), (go, .inl (d13, 360, .inl (fun _ => 0))), (q2, .inl (cA3, 6, .inl (upd (upd (upd (upd (fun _ => 0) 0 0) 1 (-1)) 2 0) 3 0)))] := hD
  refine lv_dup hx hb dX3_yealmTold_73 rfl ?_
  refine lv_iconst (v := 4) hx hb dX3_yealmTold_74 (by decide) ?_
  refine lv_aload_n hx hb dX3_yealmTold_75 rfl (lv_at hl 1 rfl) ?_
  refine va_get (D := (dC, dI)) (ci := 3) (v := .ref sm) (C := RX3) (T := TX3) (N := 10) hx hb hts (by decide +kernel) hown hK hP 0 rfl rfl 8 (by decide) (hts (.fieldLink RX3 33 "ThatchRoofModel" "s" "LThatchRoofModel$State;") (by decide +kernel)) (fun _ h9 => h9) rfl dX3_yealmTold_76 ?_
  refine va_getN (D := (dC, dI)) (ci := 2) (v := .ref go) (C := RX2) (T := TX2) (N := 10) hx hb hts (by decide +kernel) hown hK hP 1 rfl rfl 7 (by decide) (va_Nw.use rfl (zN_RX3_99 hZN)) (fun _ h9 => h9) rfl dX3_yealmTold_79 ?_
  refine lv_iload hx hb dX3_yealmTold_82 (lv_at hl 0 rfl) ?_
  refine va_iald hx hb hK hP 5 3 rfl rfl (vp_in_nI (by omega) (by omega)) dX3_yealmTold_84 ?_
  refine lv_topi (fun x9 ex9 => ?_)
  obtain rfl : x9 = 0 := ex9
  refine va_iast hx hb hK hP hD hS 6 4 rfl rfl (vp_in_nI (n := 4) (by decide) (by decide)) dX3_yealmTold_85 (fun H locs hP hD hS => ?_)
  have hP : va_P (dC, dI) vwCl [(hm, .inr (3, [.int th, .int 6, .ref wi, .ref co, .ref sl, .ref rn, .ref so, .ref bn, .ref sm, .ref ah])), (sm, .inr (2, [.int 0, .ref gr, .ref gt, .ref gw, .ref gk, .ref gi, .ref gp, .ref go, .ref gg, .ref hm])), (gk, .inl (d10, 360, .inl fk)), (gi, .inl (d11, 360, .inl (fun _ => 0))), (gp, .inl (d12, 360, .inl (fun _ => 0))), (go, .inl (d13, 360, .inl (fun _ => 0))), (q2, .inl (cA3, 6, .inl (upd (upd (upd (upd (upd (fun _ => 0) 0 0) 1 (-1)) 2 0) 3 0) 4 0)))] H := hP
  have hD : va_D A [(hm, .inr (3, [.int th, .int 6, .ref wi, .ref co, .ref sl, .ref rn, .ref so, .ref bn, .ref sm, .ref ah])), (sm, .inr (2, [.int 0, .ref gr, .ref gt, .ref gw, .ref gk, .ref gi, .ref gp, .ref go, .ref gg, .ref hm])), (gk, .inl (d10, 360, .inl fk)), (gi, .inl (d11, 360, .inl (fun _ => 0))), (gp, .inl (d12, 360, .inl (fun _ => 0))), (go, .inl (d13, 360, .inl (fun _ => 0))), (q2, .inl (cA3, 6, .inl (upd (upd (upd (upd (upd (fun _ => 0) 0 0) 1 (-1)) 2 0) 3 0) 4 0)))] := hD
  refine lv_dup hx hb dX3_yealmTold_86 rfl ?_
  refine lv_iconst (v := 5) hx hb dX3_yealmTold_87 (by decide) ?_
  refine lv_aload_n hx hb dX3_yealmTold_88 rfl (lv_at hl 1 rfl) ?_
  refine va_get (D := (dC, dI)) (ci := 3) (v := .ref sm) (C := RX3) (T := TX3) (N := 10) hx hb hts (by decide +kernel) hown hK hP 0 rfl rfl 8 (by decide) (hts (.fieldLink RX3 33 "ThatchRoofModel" "s" "LThatchRoofModel$State;") (by decide +kernel)) (fun _ h9 => h9) rfl dX3_yealmTold_89 ?_
  refine lv_iload_n hx hb dX3_yealmTold_92 rfl (lv_at hl 2 rfl) ?_
  refine lv_iload_n hx hb dX3_yealmTold_93 rfl (lv_at hl 3 rfl) ?_
  refine lv_iload_n hx hb dX3_yealmTold_94 rfl (lv_at hl 4 rfl) ?_
  have hPc := hP.sub (ws' := [(sm, .inr (2, [.int 0, .ref gr, .ref gt, .ref gw, .ref gk, .ref gi, .ref gp, .ref go, .ref gg, .ref hm])), (gk, .inl (d10, 360, .inl fk))]) [1, 2] rfl
  have hKc := hK.sub (tys' := [(d10, .int)]) [0] rfl
  refine vp_callSi (va_runV (As := [.int (nI ru), .int (nI cu), .int (nI pl)]) (rest := [.int 5, .ref q2, .ref q2]) ⟨hx, hb, hml, hown, hts⟩ (r2_isBare l dC dI sm hm gr gt gw gk gi gp go gg d10 fk ru cu pl (by first | assumption | decide | omega) (by first | assumption | decide | omega) (by first | assumption | decide | omega) (by first | assumption | decide | omega)) (cwV 3 hts gX3_yealmTold_X2_isBare rfl rfl rfl (by decide +kernel) ⟨Nat.le_of_ble_eq_true rfl, Nat.le_of_ble_eq_true rfl⟩) ⟨fun a U g mk q => by obtain ⟨q0, qP, qK, qN⟩ := q; exact ⟨q0, qP, va_K.moved (u := U) (U := U.calling g mk a) (Vm.Alike.refl U.vm) qK, zNs.calling qN⟩, va_recv hKc hPc (ci := 2) (q0 := 0) rfl rfl, fun U hU hW => ⟨rfl, by rw [hU]; exact hPc, va_K.moved hW.alike hKc, zNs.warm hW hZN⟩⟩ rfl rfl hl.1 rfl (lv_room (Nat.le_of_ble_eq_true rfl)) dX3_yealmTold_95 ⟨Nat.le_of_ble_eq_true rfl, Nat.le_of_ble_eq_true rfl⟩).run (fun r10 hr10 => ?_)
  obtain rfl := hr10
  refine lv_if_eq (tgt := 105) hx hb dX3_yealmTold_98 (by decide) (fun c11 => ?_) (fun c11 => absurd c11 (by decide))
  refine lv_iconst (v := 0) hx hb dX3_yealmTold_105 (by decide) ?_
  refine va_iast hx hb hK hP hD hS 6 4 rfl rfl (vp_in_nI (n := 5) (by decide) (by decide)) dX3_yealmTold_106 (fun H locs hP hD hS => ?_)
  have hP : va_P (dC, dI) vwCl [(hm, .inr (3, [.int th, .int 6, .ref wi, .ref co, .ref sl, .ref rn, .ref so, .ref bn, .ref sm, .ref ah])), (sm, .inr (2, [.int 0, .ref gr, .ref gt, .ref gw, .ref gk, .ref gi, .ref gp, .ref go, .ref gg, .ref hm])), (gk, .inl (d10, 360, .inl fk)), (gi, .inl (d11, 360, .inl (fun _ => 0))), (gp, .inl (d12, 360, .inl (fun _ => 0))), (go, .inl (d13, 360, .inl (fun _ => 0))), (q2, .inl (cA3, 6, .inl (upd (upd (upd (upd (upd (upd (fun _ => 0) 0 0) 1 (-1)) 2 0) 3 0) 4 0) 5 0)))] H := hP
  have hD : va_D A [(hm, .inr (3, [.int th, .int 6, .ref wi, .ref co, .ref sl, .ref rn, .ref so, .ref bn, .ref sm, .ref ah])), (sm, .inr (2, [.int 0, .ref gr, .ref gt, .ref gw, .ref gk, .ref gi, .ref gp, .ref go, .ref gg, .ref hm])), (gk, .inl (d10, 360, .inl fk)), (gi, .inl (d11, 360, .inl (fun _ => 0))), (gp, .inl (d12, 360, .inl (fun _ => 0))), (go, .inl (d13, 360, .inl (fun _ => 0))), (q2, .inl (cA3, 6, .inl (upd (upd (upd (upd (upd (upd (fun _ => 0) 0 0) 1 (-1)) 2 0) 3 0) 4 0) 5 0)))] := hD
  refine lv_astore (lv' := [(6, .ref q2), (5, .int (nI (60 * ru + 10 * cu + pl))), (0, .ref hm), (1, .int (nI ru)), (2, .int (nI cu)), (3, .int (nI pl)), (4, .int 4)]) hx hb dX3_yealmTold_107 hl (by decide) rfl (fun ls hl => ?_)
  refine lv_aload hx hb dX3_yealmTold_109 (lv_at hl 0 rfl) ?_
  refine lv_iload hx hb dX3_yealmTold_111 (lv_at hl 6 rfl) ?_
  refine va_iald hx hb hK hP 6 4 rfl rfl (vp_in_nI (n := 4) (by decide) (by decide)) dX3_yealmTold_113 ?_
  refine lv_topi (fun x12 ex12 => ?_)
  obtain rfl : x12 = 0 := ex12
  have hP9 := hP.sub (ws' := [(hm, .inr (3, [.int th, .int 6, .ref wi, .ref co, .ref sl, .ref rn, .ref so, .ref bn, .ref sm, .ref ah])), (sm, .inr (2, [.int 0, .ref gr, .ref gt, .ref gw, .ref gk, .ref gi, .ref gp, .ref go, .ref gg, .ref hm])), (gk, .inl (d10, 360, .inl fk)), (gi, .inl (d11, 360, .inl (fun _ => 0))), (gp, .inl (d12, 360, .inl (fun _ => 0))), (go, .inl (d13, 360, .inl (fun _ => 0)))]) [0, 1, 2, 3, 4, 5] rfl
  have hD9 := hD.sub (ws' := [(hm, .inr (3, [.int th, .int 6, .ref wi, .ref co, .ref sl, .ref rn, .ref so, .ref bn, .ref sm, .ref ah])), (sm, .inr (2, [.int 0, .ref gr, .ref gt, .ref gw, .ref gk, .ref gi, .ref gp, .ref go, .ref gg, .ref hm])), (gk, .inl (d10, 360, .inl fk)), (gi, .inl (d11, 360, .inl (fun _ => 0))), (gp, .inl (d12, 360, .inl (fun _ => 0))), (go, .inl (d13, 360, .inl (fun _ => 0)))]) [0, 1, 2, 3, 4, 5] (by decide) rfl
  have hK9 := hK.sub (tys' := []) [] rfl
  refine W.widen (k := 1) (n := 6) (Nat.le_of_ble_eq_true rfl) (Nat.le_of_ble_eq_true rfl) ?_
  have hZ := zz_one hAe hD hP 6 [0, 1, 2, 3, 4, 5] rfl rfl (by decide)
  exact W.iret (v := 0) hx hb hr (fun t ht hW => ⟨⟨0, (), rfl, by (first | rfl | assumption | decide | (simp_all; done) | grind), ⟨by rw [ht]; exact hP9, va_K.moved hW.alike hK9, hD9, by rw [ht]; omega⟩⟩, hS.F ht⟩) hS.2.2 dX3_yealmTold_114

set_option maxHeartbeats 4000000 in
set_option maxRecDepth 100000 in
theorem r3_yealmTold5 (l : Launch) (dC : Nat → ClassId) (dI : Nat → Nat → Nat) (sz : Nat) (hm : Nat) (wi : Nat) (co : Nat) (sl : Nat) (rn : Nat) (so : Nat) (bn : Nat) (sm : Nat) (ah : Nat) (th : Int32) (gr : Nat) (gt : Nat) (gw : Nat) (gk : Nat) (gi : Nat) (gp : Nat) (go : Nat) (gg : Nat) (d10 : ClassId) (d11 : ClassId) (d12 : ClassId) (d13 : ClassId) (fk : Nat → Int32) (ru : Nat) (cu : Nat) (pl : Nat) (hk : ∀ j : Nat, j < 360 → fk j = -1) (hru : ru < 6) (hcu : cu < 6) (hpl : pl < 10) : Met l yX3_yealmTold wsX3_yealmTold ({ frames := 3, cells := 1, slots := 6, locals := 68 }) (va_Pc [.ref hm, .int (nI ru), .int (nI cu), .int (nI pl), .int 5] (fun U => U.heap.size = sz ∧ va_P (dC, dI) vwCl [(hm, .inr (3, [.int th, .int 6, .ref wi, .ref co, .ref sl, .ref rn, .ref so, .ref bn, .ref sm, .ref ah])), (sm, .inr (2, [.int 0, .ref gr, .ref gt, .ref gw, .ref gk, .ref gi, .ref gp, .ref go, .ref gg, .ref hm])), (gk, .inl (d10, 360, .inl fk)), (gi, .inl (d11, 360, .inl (fun _ => 0))), (gp, .inl (d12, 360, .inl (fun _ => 0))), (go, .inl (d13, 360, .inl (fun _ => 0)))] U.heap ∧ va_K (dC, dI) vwCl [(d10, .int), (d11, .int), (d12, .int), (d13, .int)] U ∧ va_D (fun _ => True) [(hm, .inr (3, [.int th, .int 6, .ref wi, .ref co, .ref sl, .ref rn, .ref so, .ref bn, .ref sm, .ref ah])), (sm, .inr (2, [.int 0, .ref gr, .ref gt, .ref gw, .ref gk, .ref gi, .ref gp, .ref go, .ref gg, .ref hm])), (gk, .inl (d10, 360, .inl fk)), (gi, .inl (d11, 360, .inl (fun _ => 0))), (gp, .inl (d12, 360, .inl (fun _ => 0))), (go, .inl (d13, 360, .inl (fun _ => 0)))] ∧ zNs U)) (va_Qi (fun (r : Int32) (u : Unit) => r = 0) (fun (u : Unit) (t : State) => va_P (dC, dI) vwCl [(hm, .inr (3, [.int th, .int 6, .ref wi, .ref co, .ref sl, .ref rn, .ref so, .ref bn, .ref sm, .ref ah])), (sm, .inr (2, [.int 0, .ref gr, .ref gt, .ref gw, .ref gk, .ref gi, .ref gp, .ref go, .ref gg, .ref hm])), (gk, .inl (d10, 360, .inl fk)), (gi, .inl (d11, 360, .inl (fun _ => 0))), (gp, .inl (d12, 360, .inl (fun _ => 0))), (go, .inl (d13, 360, .inl (fun _ => 0)))] t.heap ∧ va_K (dC, dI) vwCl [] t ∧ va_D (va_A [(hm, .inr (3, [.int th, .int 6, .ref wi, .ref co, .ref sl, .ref rn, .ref so, .ref bn, .ref sm, .ref ah])), (sm, .inr (2, [.int 0, .ref gr, .ref gt, .ref gw, .ref gk, .ref gi, .ref gp, .ref go, .ref gg, .ref hm])), (gk, .inl (d10, 360, .inl fk)), (gi, .inl (d11, 360, .inl (fun _ => 0))), (gp, .inl (d12, 360, .inl (fun _ => 0))), (go, .inl (d13, 360, .inl (fun _ => 0)))] sz) [(hm, .inr (3, [.int th, .int 6, .ref wi, .ref co, .ref sl, .ref rn, .ref so, .ref bn, .ref sm, .ref ah])), (sm, .inr (2, [.int 0, .ref gr, .ref gt, .ref gw, .ref gk, .ref gi, .ref gp, .ref go, .ref gg, .ref hm])), (gk, .inl (d10, 360, .inl fk)), (gi, .inl (d11, 360, .inl (fun _ => 0))), (gp, .inl (d12, 360, .inl (fun _ => 0))), (go, .inl (d13, 360, .inl (fun _ => 0)))] ∧ sz + 1 ≤ t.heap.size) (va_A [(hm, .inr (3, [.int th, .int 6, .ref wi, .ref co, .ref sl, .ref rn, .ref so, .ref bn, .ref sm, .ref ah])), (sm, .inr (2, [.int 0, .ref gr, .ref gt, .ref gw, .ref gk, .ref gi, .ref gp, .ref go, .ref gg, .ref hm])), (gk, .inl (d10, 360, .inl fk)), (gi, .inl (d11, 360, .inl (fun _ => 0))), (gp, .inl (d12, 360, .inl (fun _ => 0))), (go, .inl (d13, 360, .inl (fun _ => 0)))] sz)) 1 6 (va_A [(hm, .inr (3, [.int th, .int 6, .ref wi, .ref co, .ref sl, .ref rn, .ref so, .ref bn, .ref sm, .ref ah])), (sm, .inr (2, [.int 0, .ref gr, .ref gt, .ref gw, .ref gk, .ref gi, .ref gp, .ref go, .ref gg, .ref hm])), (gk, .inl (d10, 360, .inl fk)), (gi, .inl (d11, 360, .inl (fun _ => 0))), (gp, .inl (d12, 360, .inl (fun _ => 0))), (go, .inl (d13, 360, .inl (fun _ => 0)))] sz) := by
  refine Met.ofW (cc := cX3_yealmTold) (maxL := 7) (ret := (some .int)) (by decide) rfl ?_
  intro p e s m args below meth c s₁ B hml hv
  obtain ⟨rfl, hsz, hP, hK, hD0, hZN⟩ := hv
  have hx := B.exec
  have hb := B.bytes
  have hr := B.returns
  have hts := atoms_spec (ws := wsX3_yealmTold) B.pre
  have hown : s.vm.findClass RX3 = some m.cls := findClass_of_methodNamed B.named
  have hlocks := B.notSynchronized
  subst hsz
  have hD := hD0.self (sz := s.heap.size)
  generalize hAe : va_A [(hm, .inr (3, [.int th, .int 6, .ref wi, .ref co, .ref sl, .ref rn, .ref so, .ref bn, .ref sm, .ref ah])), (sm, .inr (2, [.int 0, .ref gr, .ref gt, .ref gw, .ref gk, .ref gi, .ref gp, .ref go, .ref gg, .ref hm])), (gk, .inl (d10, 360, .inl fk)), (gi, .inl (d11, 360, .inl (fun _ => 0))), (gp, .inl (d12, 360, .inl (fun _ => 0))), (go, .inl (d13, 360, .inl (fun _ => 0)))] s.heap.size = A at hD ⊢
  have hA : ∀ q : Nat, s.heap.size ≤ q → A q := fun q h => by rw [← hAe]; exact Or.inr h
  have hS : va_S A s.heap s.heap [] := va_S.rf
  have hP : va_P (dC, dI) vwCl [(hm, .inr (3, [.int th, .int 6, .ref wi, .ref co, .ref sl, .ref rn, .ref so, .ref bn, .ref sm, .ref ah])), (sm, .inr (2, [.int 0, .ref gr, .ref gt, .ref gw, .ref gk, .ref gi, .ref gp, .ref go, .ref gg, .ref hm])), (gk, .inl (d10, 360, .inl fk)), (gi, .inl (d11, 360, .inl (fun _ => 0))), (gp, .inl (d12, 360, .inl (fun _ => 0))), (go, .inl (d13, 360, .inl (fun _ => 0)))] s.heap := hP
  have hl := lv_entry ([.ref hm, .int (nI ru), .int (nI cu), .int (nI pl), .int 5]) (n := 7) (Nat.le_of_ble_eq_true rfl)
  rw [lg_entry_eq]
  generalize (lg_sl ([.ref hm, .int (nI ru), .int (nI cu), .int (nI pl), .int 5]) ++ List.replicate (7 - (lg_sl ([.ref hm, .int (nI ru), .int (nI cu), .int (nI pl), .int 5])).length) Slot.unset).toArray = ls at hl ⊢
  have hl : lv_has ls 7 [(0, .ref hm), (1, .int (nI ru)), (2, .int (nI cu)), (3, .int (nI pl)), (4, .int 5)] := hl
  refine lv_iload_n hx hb dX3_yealmTold_0 rfl (lv_at hl 1 rfl) ?_
  refine lv_iload_n hx hb dX3_yealmTold_1 rfl (lv_at hl 2 rfl) ?_
  refine lv_iload_n hx hb dX3_yealmTold_2 rfl (lv_at hl 3 rfl) ?_
  refine vp_callSi (va_runS (As := [.int (nI ru), .int (nI cu), .int (nI pl)]) (rest := []) ⟨hx, hb, hml, hown, hts⟩ (r3_cell l dC dI ru cu pl ) (va_cwS 3 hts gX3_yealmTold_X3_cell rfl rfl rfl (by decide +kernel) ⟨Nat.le_of_ble_eq_true rfl, Nat.le_of_ble_eq_true rfl⟩) ⟨fun a U g mk q => q, fun U hU hW => ⟨rfl, trivial⟩⟩ rfl rfl hl.1 rfl (lv_room (Nat.le_of_ble_eq_true rfl)) dX3_yealmTold_3 ⟨Nat.le_of_ble_eq_true rfl, Nat.le_of_ble_eq_true rfl⟩).run (fun r1 hr1 => ?_)
  have evr1_0 := hr1
  rw [evr1_0]
  refine lv_istore (lv' := [(5, .int (nI (60 * ru + 10 * cu + pl))), (0, .ref hm), (1, .int (nI ru)), (2, .int (nI cu)), (3, .int (nI pl)), (4, .int 5)]) hx hb dX3_yealmTold_6 hl (by decide) rfl (fun ls hl => ?_)
  refine lv_bipush (v := 6) hx hb dX3_yealmTold_8 (by decide) ?_
  refine va_newa (atype := .int) (ty := .int) (N' := 6) (a0 := (6, .inl (fun _ => 0))) hx hb (hts (.arrayClass .int) (by decide +kernel)) rfl hK hP hD hS hA (fun _ => rfl) (by decide) (by decide) (by decide) (Nat.le_of_ble_eq_true rfl) (Nat.le_of_ble_eq_true rfl) dX3_yealmTold_10 (fun q2 cA3 H hK hP hD hS => ?_)
  refine W.widen (k := 1) (n := 6) (Nat.le_of_ble_eq_true rfl) (Nat.le_of_ble_eq_true rfl) ?_
  have hK : va_K (dC, dI) vwCl [(d10, .int), (d11, .int), (d12, .int), (d13, .int), (cA3, .int)] s := hK
  have hP : va_P (dC, dI) vwCl [(hm, .inr (3, [.int th, .int 6, .ref wi, .ref co, .ref sl, .ref rn, .ref so, .ref bn, .ref sm, .ref ah])), (sm, .inr (2, [.int 0, .ref gr, .ref gt, .ref gw, .ref gk, .ref gi, .ref gp, .ref go, .ref gg, .ref hm])), (gk, .inl (d10, 360, .inl fk)), (gi, .inl (d11, 360, .inl (fun _ => 0))), (gp, .inl (d12, 360, .inl (fun _ => 0))), (go, .inl (d13, 360, .inl (fun _ => 0))), (q2, .inl (cA3, 6, .inl (fun _ => 0)))] H := hP
  have hD : va_D A [(hm, .inr (3, [.int th, .int 6, .ref wi, .ref co, .ref sl, .ref rn, .ref so, .ref bn, .ref sm, .ref ah])), (sm, .inr (2, [.int 0, .ref gr, .ref gt, .ref gw, .ref gk, .ref gi, .ref gp, .ref go, .ref gg, .ref hm])), (gk, .inl (d10, 360, .inl fk)), (gi, .inl (d11, 360, .inl (fun _ => 0))), (gp, .inl (d12, 360, .inl (fun _ => 0))), (go, .inl (d13, 360, .inl (fun _ => 0))), (q2, .inl (cA3, 6, .inl (fun _ => 0)))] := hD
  refine lv_dup hx hb dX3_yealmTold_12 rfl ?_
  refine lv_iconst (v := 0) hx hb dX3_yealmTold_13 (by decide) ?_
  refine lv_aload_n hx hb dX3_yealmTold_14 rfl (lv_at hl 1 rfl) ?_
  refine va_get (D := (dC, dI)) (ci := 3) (v := .ref sm) (C := RX3) (T := TX3) (N := 10) hx hb hts (by decide +kernel) hown hK hP 0 rfl rfl 8 (by decide) (hts (.fieldLink RX3 33 "ThatchRoofModel" "s" "LThatchRoofModel$State;") (by decide +kernel)) (fun _ h9 => h9) rfl dX3_yealmTold_15 ?_
  refine va_getN (D := (dC, dI)) (ci := 2) (v := .ref gk) (C := RX2) (T := TX2) (N := 10) hx hb hts (by decide +kernel) hown hK hP 1 rfl rfl 4 (by decide) (va_Nw.use rfl (zN_RX3_86 hZN)) (fun _ h9 => h9) rfl dX3_yealmTold_18 ?_
  refine lv_iload hx hb dX3_yealmTold_21 (lv_at hl 0 rfl) ?_
  refine va_iald hx hb hK hP 2 0 rfl rfl (vp_in_nI (by omega) (by omega)) dX3_yealmTold_23 ?_
  refine lv_topi (fun x4 ex4 => ?_)
  rw [nI_clamp (show (60 * ru + 10 * cu + pl) < 2 ^ 31 by omega)] at ex4
  obtain rfl : x4 = (-1) := ex4.trans (hk _ (by omega))
  refine lv_iconst (v := (-1)) hx hb dX3_yealmTold_24 (by decide) ?_
  refine lv_icmp_ne (tgt := 32) hx hb dX3_yealmTold_25 (by decide) (fun c5 => absurd c5 (by decide)) (fun c5 => ?_)
  refine lv_iconst (v := 0) hx hb dX3_yealmTold_28 (by decide) ?_
  refine lv_goto (tgt := 33) hx hb dX3_yealmTold_29 (by decide) ?_
  refine va_iast hx hb hK hP hD hS 6 4 rfl rfl (vp_in_nI (n := 0) (by decide) (by decide)) dX3_yealmTold_33 (fun H locs hP hD hS => ?_)
  have hP : va_P (dC, dI) vwCl [(hm, .inr (3, [.int th, .int 6, .ref wi, .ref co, .ref sl, .ref rn, .ref so, .ref bn, .ref sm, .ref ah])), (sm, .inr (2, [.int 0, .ref gr, .ref gt, .ref gw, .ref gk, .ref gi, .ref gp, .ref go, .ref gg, .ref hm])), (gk, .inl (d10, 360, .inl fk)), (gi, .inl (d11, 360, .inl (fun _ => 0))), (gp, .inl (d12, 360, .inl (fun _ => 0))), (go, .inl (d13, 360, .inl (fun _ => 0))), (q2, .inl (cA3, 6, .inl (upd (fun _ => 0) 0 0)))] H := hP
  have hD : va_D A [(hm, .inr (3, [.int th, .int 6, .ref wi, .ref co, .ref sl, .ref rn, .ref so, .ref bn, .ref sm, .ref ah])), (sm, .inr (2, [.int 0, .ref gr, .ref gt, .ref gw, .ref gk, .ref gi, .ref gp, .ref go, .ref gg, .ref hm])), (gk, .inl (d10, 360, .inl fk)), (gi, .inl (d11, 360, .inl (fun _ => 0))), (gp, .inl (d12, 360, .inl (fun _ => 0))), (go, .inl (d13, 360, .inl (fun _ => 0))), (q2, .inl (cA3, 6, .inl (upd (fun _ => 0) 0 0)))] := hD
  refine lv_dup hx hb dX3_yealmTold_34 rfl ?_
  refine lv_iconst (v := 1) hx hb dX3_yealmTold_35 (by decide) ?_
  refine lv_aload_n hx hb dX3_yealmTold_36 rfl (lv_at hl 1 rfl) ?_
  refine va_get (D := (dC, dI)) (ci := 3) (v := .ref sm) (C := RX3) (T := TX3) (N := 10) hx hb hts (by decide +kernel) hown hK hP 0 rfl rfl 8 (by decide) (hts (.fieldLink RX3 33 "ThatchRoofModel" "s" "LThatchRoofModel$State;") (by decide +kernel)) (fun _ h9 => h9) rfl dX3_yealmTold_37 ?_
  refine va_getN (D := (dC, dI)) (ci := 2) (v := .ref gk) (C := RX2) (T := TX2) (N := 10) hx hb hts (by decide +kernel) hown hK hP 1 rfl rfl 4 (by decide) (va_Nw.use rfl (zN_RX3_86 hZN)) (fun _ h9 => h9) rfl dX3_yealmTold_40 ?_
  refine lv_iload hx hb dX3_yealmTold_43 (lv_at hl 0 rfl) ?_
  refine va_iald hx hb hK hP 2 0 rfl rfl (vp_in_nI (by omega) (by omega)) dX3_yealmTold_45 ?_
  refine lv_topi (fun x6 ex6 => ?_)
  rw [nI_clamp (show (60 * ru + 10 * cu + pl) < 2 ^ 31 by omega)] at ex6
  obtain rfl : x6 = (-1) := ex6.trans (hk _ (by omega))
  refine va_iast hx hb hK hP hD hS 6 4 rfl rfl (vp_in_nI (n := 1) (by decide) (by decide)) dX3_yealmTold_46 (fun H locs hP hD hS => ?_)
  have hP : va_P (dC, dI) vwCl [(hm, .inr (3, [.int th, .int 6, .ref wi, .ref co, .ref sl, .ref rn, .ref so, .ref bn, .ref sm, .ref ah])), (sm, .inr (2, [.int 0, .ref gr, .ref gt, .ref gw, .ref gk, .ref gi, .ref gp, .ref go, .ref gg, .ref hm])), (gk, .inl (d10, 360, .inl fk)), (gi, .inl (d11, 360, .inl (fun _ => 0))), (gp, .inl (d12, 360, .inl (fun _ => 0))), (go, .inl (d13, 360, .inl (fun _ => 0))), (q2, .inl (cA3, 6, .inl (upd (upd (fun _ => 0) 0 0) 1 (-1))))] H := hP
  have hD : va_D A [(hm, .inr (3, [.int th, .int 6, .ref wi, .ref co, .ref sl, .ref rn, .ref so, .ref bn, .ref sm, .ref ah])), (sm, .inr (2, [.int 0, .ref gr, .ref gt, .ref gw, .ref gk, .ref gi, .ref gp, .ref go, .ref gg, .ref hm])), (gk, .inl (d10, 360, .inl fk)), (gi, .inl (d11, 360, .inl (fun _ => 0))), (gp, .inl (d12, 360, .inl (fun _ => 0))), (go, .inl (d13, 360, .inl (fun _ => 0))), (q2, .inl (cA3, 6, .inl (upd (upd (fun _ => 0) 0 0) 1 (-1))))] := hD
  refine lv_dup hx hb dX3_yealmTold_47 rfl ?_
  refine lv_iconst (v := 2) hx hb dX3_yealmTold_48 (by decide) ?_
  refine lv_aload_n hx hb dX3_yealmTold_49 rfl (lv_at hl 1 rfl) ?_
  refine va_get (D := (dC, dI)) (ci := 3) (v := .ref sm) (C := RX3) (T := TX3) (N := 10) hx hb hts (by decide +kernel) hown hK hP 0 rfl rfl 8 (by decide) (hts (.fieldLink RX3 33 "ThatchRoofModel" "s" "LThatchRoofModel$State;") (by decide +kernel)) (fun _ h9 => h9) rfl dX3_yealmTold_50 ?_
  refine va_getN (D := (dC, dI)) (ci := 2) (v := .ref gi) (C := RX2) (T := TX2) (N := 10) hx hb hts (by decide +kernel) hown hK hP 1 rfl rfl 5 (by decide) (va_Nw.use rfl (zN_RX3_93 hZN)) (fun _ h9 => h9) rfl dX3_yealmTold_53 ?_
  refine lv_iload hx hb dX3_yealmTold_56 (lv_at hl 0 rfl) ?_
  refine va_iald hx hb hK hP 3 1 rfl rfl (vp_in_nI (by omega) (by omega)) dX3_yealmTold_58 ?_
  refine lv_topi (fun x7 ex7 => ?_)
  obtain rfl : x7 = 0 := ex7
  refine va_iast hx hb hK hP hD hS 6 4 rfl rfl (vp_in_nI (n := 2) (by decide) (by decide)) dX3_yealmTold_59 (fun H locs hP hD hS => ?_)
  have hP : va_P (dC, dI) vwCl [(hm, .inr (3, [.int th, .int 6, .ref wi, .ref co, .ref sl, .ref rn, .ref so, .ref bn, .ref sm, .ref ah])), (sm, .inr (2, [.int 0, .ref gr, .ref gt, .ref gw, .ref gk, .ref gi, .ref gp, .ref go, .ref gg, .ref hm])), (gk, .inl (d10, 360, .inl fk)), (gi, .inl (d11, 360, .inl (fun _ => 0))), (gp, .inl (d12, 360, .inl (fun _ => 0))), (go, .inl (d13, 360, .inl (fun _ => 0))), (q2, .inl (cA3, 6, .inl (upd (upd (upd (fun _ => 0) 0 0) 1 (-1)) 2 0)))] H := hP
  have hD : va_D A [(hm, .inr (3, [.int th, .int 6, .ref wi, .ref co, .ref sl, .ref rn, .ref so, .ref bn, .ref sm, .ref ah])), (sm, .inr (2, [.int 0, .ref gr, .ref gt, .ref gw, .ref gk, .ref gi, .ref gp, .ref go, .ref gg, .ref hm])), (gk, .inl (d10, 360, .inl fk)), (gi, .inl (d11, 360, .inl (fun _ => 0))), (gp, .inl (d12, 360, .inl (fun _ => 0))), (go, .inl (d13, 360, .inl (fun _ => 0))), (q2, .inl (cA3, 6, .inl (upd (upd (upd (fun _ => 0) 0 0) 1 (-1)) 2 0)))] := hD
  refine lv_dup hx hb dX3_yealmTold_60 rfl ?_
  refine lv_iconst (v := 3) hx hb dX3_yealmTold_61 (by decide) ?_
  refine lv_aload_n hx hb dX3_yealmTold_62 rfl (lv_at hl 1 rfl) ?_
  refine va_get (D := (dC, dI)) (ci := 3) (v := .ref sm) (C := RX3) (T := TX3) (N := 10) hx hb hts (by decide +kernel) hown hK hP 0 rfl rfl 8 (by decide) (hts (.fieldLink RX3 33 "ThatchRoofModel" "s" "LThatchRoofModel$State;") (by decide +kernel)) (fun _ h9 => h9) rfl dX3_yealmTold_63 ?_
  refine va_getN (D := (dC, dI)) (ci := 2) (v := .ref gp) (C := RX2) (T := TX2) (N := 10) hx hb hts (by decide +kernel) hown hK hP 1 rfl rfl 6 (by decide) (va_Nw.use rfl (zN_RX3_96 hZN)) (fun _ h9 => h9) rfl dX3_yealmTold_66 ?_
  refine lv_iload hx hb dX3_yealmTold_69 (lv_at hl 0 rfl) ?_
  refine va_iald hx hb hK hP 4 2 rfl rfl (vp_in_nI (by omega) (by omega)) dX3_yealmTold_71 ?_
  refine lv_topi (fun x8 ex8 => ?_)
  obtain rfl : x8 = 0 := ex8
  refine va_iast hx hb hK hP hD hS 6 4 rfl rfl (vp_in_nI (n := 3) (by decide) (by decide)) dX3_yealmTold_72 (fun H locs hP hD hS => ?_)
  have hP : va_P (dC, dI) vwCl [(hm, .inr (3, [.int th, .int 6, .ref wi, .ref co, .ref sl, .ref rn, .ref so, .ref bn, .ref sm, .ref ah])), (sm, .inr (2, [.int 0, .ref gr, .ref gt, .ref gw, .ref gk, .ref gi, .ref gp, .ref go, .ref gg, .ref hm])), (gk, .inl (d10, 360, .inl fk)), (gi, .inl (d11, 360, .inl (fun _ => 0))), (gp, .inl (d12, 360, .inl (fun _ => 0))), (go, .inl (d13, 360, .inl (fun _ => 0))), (q2, .inl (cA3, 6, .inl (upd (upd (upd (upd (fun _ => 0) 0 0) 1 (-1)) 2 0) 3 0)))] H := hP
  have hD : va_D A [(hm, .inr (3, [.int th, .int 6, .ref wi, .ref co, .ref sl, .ref rn, .ref so, .ref bn, .ref sm, .ref ah])), (sm, .inr (2, [.int 0, .ref gr, .ref gt, .ref gw, .ref gk, .ref gi, .ref gp, .ref go, .ref gg, .ref hm])), (gk, .inl (d10, 360, .inl fk)), (gi, .inl (d11, 360, .inl (fun _ => 0))), (gp, .inl (d12, 360, .inl (fun _ => 0))), (go, .inl (d13, 360, .inl (fun _ => 0))), (q2, .inl (cA3, 6, .inl (upd (upd (upd (upd (fun _ => 0) 0 0) 1 (-1)) 2 0) 3 0)))] := hD
  refine lv_dup hx hb dX3_yealmTold_73 rfl ?_
  refine lv_iconst (v := 4) hx hb dX3_yealmTold_74 (by decide) ?_
  refine lv_aload_n hx hb dX3_yealmTold_75 rfl (lv_at hl 1 rfl) ?_
  refine va_get (D := (dC, dI)) (ci := 3) (v := .ref sm) (C := RX3) (T := TX3) (N := 10) hx hb hts (by decide +kernel) hown hK hP 0 rfl rfl 8 (by decide) (hts (.fieldLink RX3 33 "ThatchRoofModel" "s" "LThatchRoofModel$State;") (by decide +kernel)) (fun _ h9 => h9) rfl dX3_yealmTold_76 ?_
  refine va_getN (D := (dC, dI)) (ci := 2) (v := .ref go) (C := RX2) (T := TX2) (N := 10) hx hb hts (by decide +kernel) hown hK hP 1 rfl rfl 7 (by decide) (va_Nw.use rfl (zN_RX3_99 hZN)) (fun _ h9 => h9) rfl dX3_yealmTold_79 ?_
  refine lv_iload hx hb dX3_yealmTold_82 (lv_at hl 0 rfl) ?_
  refine va_iald hx hb hK hP 5 3 rfl rfl (vp_in_nI (by omega) (by omega)) dX3_yealmTold_84 ?_
  refine lv_topi (fun x9 ex9 => ?_)
  obtain rfl : x9 = 0 := ex9
  refine va_iast hx hb hK hP hD hS 6 4 rfl rfl (vp_in_nI (n := 4) (by decide) (by decide)) dX3_yealmTold_85 (fun H locs hP hD hS => ?_)
  have hP : va_P (dC, dI) vwCl [(hm, .inr (3, [.int th, .int 6, .ref wi, .ref co, .ref sl, .ref rn, .ref so, .ref bn, .ref sm, .ref ah])), (sm, .inr (2, [.int 0, .ref gr, .ref gt, .ref gw, .ref gk, .ref gi, .ref gp, .ref go, .ref gg, .ref hm])), (gk, .inl (d10, 360, .inl fk)), (gi, .inl (d11, 360, .inl (fun _ => 0))), (gp, .inl (d12, 360, .inl (fun _ => 0))), (go, .inl (d13, 360, .inl (fun _ => 0))), (q2, .inl (cA3, 6, .inl (upd (upd (upd (upd (upd (fun _ => 0) 0 0) 1 (-1)) 2 0) 3 0) 4 0)))] H := hP
  have hD : va_D A [(hm, .inr (3, [.int th, .int 6, .ref wi, .ref co, .ref sl, .ref rn, .ref so, .ref bn, .ref sm, .ref ah])), (sm, .inr (2, [.int 0, .ref gr, .ref gt, .ref gw, .ref gk, .ref gi, .ref gp, .ref go, .ref gg, .ref hm])), (gk, .inl (d10, 360, .inl fk)), (gi, .inl (d11, 360, .inl (fun _ => 0))), (gp, .inl (d12, 360, .inl (fun _ => 0))), (go, .inl (d13, 360, .inl (fun _ => 0))), (q2, .inl (cA3, 6, .inl (upd (upd (upd (upd (upd (fun _ => 0) 0 0) 1 (-1)) 2 0) 3 0) 4 0)))] := hD
  refine lv_dup hx hb dX3_yealmTold_86 rfl ?_
  refine lv_iconst (v := 5) hx hb dX3_yealmTold_87 (by decide) ?_
  refine lv_aload_n hx hb dX3_yealmTold_88 rfl (lv_at hl 1 rfl) ?_
  refine va_get (D := (dC, dI)) (ci := 3) (v := .ref sm) (C := RX3) (T := TX3) (N := 10) hx hb hts (by decide +kernel) hown hK hP 0 rfl rfl 8 (by decide) (hts (.fieldLink RX3 33 "ThatchRoofModel" "s" "LThatchRoofModel$State;") (by decide +kernel)) (fun _ h9 => h9) rfl dX3_yealmTold_89 ?_
  refine lv_iload_n hx hb dX3_yealmTold_92 rfl (lv_at hl 2 rfl) ?_
  refine lv_iload_n hx hb dX3_yealmTold_93 rfl (lv_at hl 3 rfl) ?_
  refine lv_iload_n hx hb dX3_yealmTold_94 rfl (lv_at hl 4 rfl) ?_
  have hPc := hP.sub (ws' := [(sm, .inr (2, [.int 0, .ref gr, .ref gt, .ref gw, .ref gk, .ref gi, .ref gp, .ref go, .ref gg, .ref hm])), (gk, .inl (d10, 360, .inl fk))]) [1, 2] rfl
  have hKc := hK.sub (tys' := [(d10, .int)]) [0] rfl
  refine vp_callSi (va_runV (As := [.int (nI ru), .int (nI cu), .int (nI pl)]) (rest := [.int 5, .ref q2, .ref q2]) ⟨hx, hb, hml, hown, hts⟩ (r2_isBare l dC dI sm hm gr gt gw gk gi gp go gg d10 fk ru cu pl (by first | assumption | decide | omega) (by first | assumption | decide | omega) (by first | assumption | decide | omega) (by first | assumption | decide | omega)) (cwV 3 hts gX3_yealmTold_X2_isBare rfl rfl rfl (by decide +kernel) ⟨Nat.le_of_ble_eq_true rfl, Nat.le_of_ble_eq_true rfl⟩) ⟨fun a U g mk q => by obtain ⟨q0, qP, qK, qN⟩ := q; exact ⟨q0, qP, va_K.moved (u := U) (U := U.calling g mk a) (Vm.Alike.refl U.vm) qK, zNs.calling qN⟩, va_recv hKc hPc (ci := 2) (q0 := 0) rfl rfl, fun U hU hW => ⟨rfl, by rw [hU]; exact hPc, va_K.moved hW.alike hKc, zNs.warm hW hZN⟩⟩ rfl rfl hl.1 rfl (lv_room (Nat.le_of_ble_eq_true rfl)) dX3_yealmTold_95 ⟨Nat.le_of_ble_eq_true rfl, Nat.le_of_ble_eq_true rfl⟩).run (fun r10 hr10 => ?_)
  obtain rfl := hr10
  refine lv_if_eq (tgt := 105) hx hb dX3_yealmTold_98 (by decide) (fun c11 => ?_) (fun c11 => absurd c11 (by decide))
  refine lv_iconst (v := 0) hx hb dX3_yealmTold_105 (by decide) ?_
  refine va_iast hx hb hK hP hD hS 6 4 rfl rfl (vp_in_nI (n := 5) (by decide) (by decide)) dX3_yealmTold_106 (fun H locs hP hD hS => ?_)
  have hP : va_P (dC, dI) vwCl [(hm, .inr (3, [.int th, .int 6, .ref wi, .ref co, .ref sl, .ref rn, .ref so, .ref bn, .ref sm, .ref ah])), (sm, .inr (2, [.int 0, .ref gr, .ref gt, .ref gw, .ref gk, .ref gi, .ref gp, .ref go, .ref gg, .ref hm])), (gk, .inl (d10, 360, .inl fk)), (gi, .inl (d11, 360, .inl (fun _ => 0))), (gp, .inl (d12, 360, .inl (fun _ => 0))), (go, .inl (d13, 360, .inl (fun _ => 0))), (q2, .inl (cA3, 6, .inl (upd (upd (upd (upd (upd (upd (fun _ => 0) 0 0) 1 (-1)) 2 0) 3 0) 4 0) 5 0)))] H := hP
  have hD : va_D A [(hm, .inr (3, [.int th, .int 6, .ref wi, .ref co, .ref sl, .ref rn, .ref so, .ref bn, .ref sm, .ref ah])), (sm, .inr (2, [.int 0, .ref gr, .ref gt, .ref gw, .ref gk, .ref gi, .ref gp, .ref go, .ref gg, .ref hm])), (gk, .inl (d10, 360, .inl fk)), (gi, .inl (d11, 360, .inl (fun _ => 0))), (gp, .inl (d12, 360, .inl (fun _ => 0))), (go, .inl (d13, 360, .inl (fun _ => 0))), (q2, .inl (cA3, 6, .inl (upd (upd (upd (upd (upd (upd (fun _ => 0) 0 0) 1 (-1)) 2 0) 3 0) 4 0) 5 0)))] := hD
  refine lv_astore (lv' := [(6, .ref q2), (5, .int (nI (60 * ru + 10 * cu + pl))), (0, .ref hm), (1, .int (nI ru)), (2, .int (nI cu)), (3, .int (nI pl)), (4, .int 5)]) hx hb dX3_yealmTold_107 hl (by decide) rfl (fun ls hl => ?_)
  refine lv_aload hx hb dX3_yealmTold_109 (lv_at hl 0 rfl) ?_
  refine lv_iload hx hb dX3_yealmTold_111 (lv_at hl 6 rfl) ?_
  refine va_iald hx hb hK hP 6 4 rfl rfl (vp_in_nI (n := 5) (by decide) (by decide)) dX3_yealmTold_113 ?_
  refine lv_topi (fun x12 ex12 => ?_)
  obtain rfl : x12 = 0 := ex12
  have hP9 := hP.sub (ws' := [(hm, .inr (3, [.int th, .int 6, .ref wi, .ref co, .ref sl, .ref rn, .ref so, .ref bn, .ref sm, .ref ah])), (sm, .inr (2, [.int 0, .ref gr, .ref gt, .ref gw, .ref gk, .ref gi, .ref gp, .ref go, .ref gg, .ref hm])), (gk, .inl (d10, 360, .inl fk)), (gi, .inl (d11, 360, .inl (fun _ => 0))), (gp, .inl (d12, 360, .inl (fun _ => 0))), (go, .inl (d13, 360, .inl (fun _ => 0)))]) [0, 1, 2, 3, 4, 5] rfl
  have hD9 := hD.sub (ws' := [(hm, .inr (3, [.int th, .int 6, .ref wi, .ref co, .ref sl, .ref rn, .ref so, .ref bn, .ref sm, .ref ah])), (sm, .inr (2, [.int 0, .ref gr, .ref gt, .ref gw, .ref gk, .ref gi, .ref gp, .ref go, .ref gg, .ref hm])), (gk, .inl (d10, 360, .inl fk)), (gi, .inl (d11, 360, .inl (fun _ => 0))), (gp, .inl (d12, 360, .inl (fun _ => 0))), (go, .inl (d13, 360, .inl (fun _ => 0)))]) [0, 1, 2, 3, 4, 5] (by decide) rfl
  have hK9 := hK.sub (tys' := []) [] rfl
  refine W.widen (k := 1) (n := 6) (Nat.le_of_ble_eq_true rfl) (Nat.le_of_ble_eq_true rfl) ?_
  have hZ := zz_one hAe hD hP 6 [0, 1, 2, 3, 4, 5] rfl rfl (by decide)
  exact W.iret (v := 0) hx hb hr (fun t ht hW => ⟨⟨0, (), rfl, by (first | rfl | assumption | decide | (simp_all; done) | grind), ⟨by rw [ht]; exact hP9, va_K.moved hW.alike hK9, hD9, by rw [ht]; omega⟩⟩, hS.F ht⟩) hS.2.2 dX3_yealmTold_114

set_option maxHeartbeats 4000000 in
set_option maxRecDepth 100000 in
theorem r3_roofTold0 (l : Launch) (dC : Nat → ClassId) (dI : Nat → Nat → Nat) (sz : Nat) (hm : Nat) (wi : Nat) (co : Nat) (sl : Nat) (rn : Nat) (so : Nat) (bn : Nat) (sm : Nat) (ah : Nat) (th : Int32) (gr : Nat) (gt : Nat) (gw : Nat) (gk : Nat) (gi : Nat) (gp : Nat) (go : Nat) (gg : Nat) (d1 : ClassId) (d2 : ClassId) (d3 : ClassId) (d4 : ClassId) (d8 : ClassId) (d9 : ClassId) (d10 : ClassId) (d11 : ClassId) (fw : Nat → Int32) (fc : Nat → Int32) (fs : Nat → Int32) (fg : Nat → Int32) (fk : Nat → Int32) (ru : Nat) (hk : ∀ j : Nat, j < 360 → fk j = -1) (hw : ∀ j : Nat, j < 6 → fw j = 10) (hc : ∀ j : Nat, j < 6 → fc j = 6) (hs : ∀ j : Nat, j < 6 → fs j = 30) (hg : ∀ j : Nat, j < 6 → fg j = 100) (hru : ru < 6) : Met l yX3_roofTold wsX3_roofTold ({ frames := 2, cells := 1, slots := 9, locals := 47 }) (va_Pc [.ref hm, .int (nI ru), .int 0] (fun U => U.heap.size = sz ∧ va_P (dC, dI) vwCl [(hm, .inr (3, [.int th, .int 6, .ref wi, .ref co, .ref sl, .ref rn, .ref so, .ref bn, .ref sm, .ref ah])), (sm, .inr (2, [.int 0, .ref gr, .ref gt, .ref gw, .ref gk, .ref gi, .ref gp, .ref go, .ref gg, .ref hm])), (wi, .inl (d1, 6, .inl fw)), (co, .inl (d2, 6, .inl fc)), (sl, .inl (d3, 6, .inl fs)), (gr, .inl (d4, 6, .inl fg)), (gt, .inl (d8, 6, .inl (fun _ => 0))), (gw, .inl (d9, 6, .inl (fun _ => 0))), (gk, .inl (d10, 360, .inl fk)), (gi, .inl (d11, 360, .inl (fun _ => 0)))] U.heap ∧ va_K (dC, dI) vwCl [(d1, .int), (d2, .int), (d3, .int), (d4, .int), (d8, .int), (d9, .int), (d10, .int), (d11, .int)] U ∧ va_D (fun _ => True) [(hm, .inr (3, [.int th, .int 6, .ref wi, .ref co, .ref sl, .ref rn, .ref so, .ref bn, .ref sm, .ref ah])), (sm, .inr (2, [.int 0, .ref gr, .ref gt, .ref gw, .ref gk, .ref gi, .ref gp, .ref go, .ref gg, .ref hm])), (wi, .inl (d1, 6, .inl fw)), (co, .inl (d2, 6, .inl fc)), (sl, .inl (d3, 6, .inl fs)), (gr, .inl (d4, 6, .inl fg)), (gt, .inl (d8, 6, .inl (fun _ => 0))), (gw, .inl (d9, 6, .inl (fun _ => 0))), (gk, .inl (d10, 360, .inl fk)), (gi, .inl (d11, 360, .inl (fun _ => 0)))] ∧ zNs U)) (va_Qi (fun (r : Int32) (u : Unit) => r = 10) (fun (u : Unit) (t : State) => va_P (dC, dI) vwCl [(hm, .inr (3, [.int th, .int 6, .ref wi, .ref co, .ref sl, .ref rn, .ref so, .ref bn, .ref sm, .ref ah])), (sm, .inr (2, [.int 0, .ref gr, .ref gt, .ref gw, .ref gk, .ref gi, .ref gp, .ref go, .ref gg, .ref hm])), (wi, .inl (d1, 6, .inl fw)), (co, .inl (d2, 6, .inl fc)), (sl, .inl (d3, 6, .inl fs)), (gr, .inl (d4, 6, .inl fg)), (gt, .inl (d8, 6, .inl (fun _ => 0))), (gw, .inl (d9, 6, .inl (fun _ => 0))), (gk, .inl (d10, 360, .inl fk)), (gi, .inl (d11, 360, .inl (fun _ => 0)))] t.heap ∧ va_K (dC, dI) vwCl [] t ∧ va_D (va_A [(hm, .inr (3, [.int th, .int 6, .ref wi, .ref co, .ref sl, .ref rn, .ref so, .ref bn, .ref sm, .ref ah])), (sm, .inr (2, [.int 0, .ref gr, .ref gt, .ref gw, .ref gk, .ref gi, .ref gp, .ref go, .ref gg, .ref hm])), (wi, .inl (d1, 6, .inl fw)), (co, .inl (d2, 6, .inl fc)), (sl, .inl (d3, 6, .inl fs)), (gr, .inl (d4, 6, .inl fg)), (gt, .inl (d8, 6, .inl (fun _ => 0))), (gw, .inl (d9, 6, .inl (fun _ => 0))), (gk, .inl (d10, 360, .inl fk)), (gi, .inl (d11, 360, .inl (fun _ => 0)))] sz) [(hm, .inr (3, [.int th, .int 6, .ref wi, .ref co, .ref sl, .ref rn, .ref so, .ref bn, .ref sm, .ref ah])), (sm, .inr (2, [.int 0, .ref gr, .ref gt, .ref gw, .ref gk, .ref gi, .ref gp, .ref go, .ref gg, .ref hm])), (wi, .inl (d1, 6, .inl fw)), (co, .inl (d2, 6, .inl fc)), (sl, .inl (d3, 6, .inl fs)), (gr, .inl (d4, 6, .inl fg)), (gt, .inl (d8, 6, .inl (fun _ => 0))), (gw, .inl (d9, 6, .inl (fun _ => 0))), (gk, .inl (d10, 360, .inl fk)), (gi, .inl (d11, 360, .inl (fun _ => 0)))] ∧ sz + 1 ≤ t.heap.size) (va_A [(hm, .inr (3, [.int th, .int 6, .ref wi, .ref co, .ref sl, .ref rn, .ref so, .ref bn, .ref sm, .ref ah])), (sm, .inr (2, [.int 0, .ref gr, .ref gt, .ref gw, .ref gk, .ref gi, .ref gp, .ref go, .ref gg, .ref hm])), (wi, .inl (d1, 6, .inl fw)), (co, .inl (d2, 6, .inl fc)), (sl, .inl (d3, 6, .inl fs)), (gr, .inl (d4, 6, .inl fg)), (gt, .inl (d8, 6, .inl (fun _ => 0))), (gw, .inl (d9, 6, .inl (fun _ => 0))), (gk, .inl (d10, 360, .inl fk)), (gi, .inl (d11, 360, .inl (fun _ => 0)))] sz)) 1 9 (va_A [(hm, .inr (3, [.int th, .int 6, .ref wi, .ref co, .ref sl, .ref rn, .ref so, .ref bn, .ref sm, .ref ah])), (sm, .inr (2, [.int 0, .ref gr, .ref gt, .ref gw, .ref gk, .ref gi, .ref gp, .ref go, .ref gg, .ref hm])), (wi, .inl (d1, 6, .inl fw)), (co, .inl (d2, 6, .inl fc)), (sl, .inl (d3, 6, .inl fs)), (gr, .inl (d4, 6, .inl fg)), (gt, .inl (d8, 6, .inl (fun _ => 0))), (gw, .inl (d9, 6, .inl (fun _ => 0))), (gk, .inl (d10, 360, .inl fk)), (gi, .inl (d11, 360, .inl (fun _ => 0)))] sz) := by
  refine Met.ofW (cc := cX3_roofTold) (maxL := 4) (ret := (some .int)) (by decide) rfl ?_
  intro p e s m args below meth c s₁ B hml hv
  obtain ⟨rfl, hsz, hP, hK, hD0, hZN⟩ := hv
  have hx := B.exec
  have hb := B.bytes
  have hr := B.returns
  have hts := atoms_spec (ws := wsX3_roofTold) B.pre
  have hown : s.vm.findClass RX3 = some m.cls := findClass_of_methodNamed B.named
  have hlocks := B.notSynchronized
  subst hsz
  have hD := hD0.self (sz := s.heap.size)
  generalize hAe : va_A [(hm, .inr (3, [.int th, .int 6, .ref wi, .ref co, .ref sl, .ref rn, .ref so, .ref bn, .ref sm, .ref ah])), (sm, .inr (2, [.int 0, .ref gr, .ref gt, .ref gw, .ref gk, .ref gi, .ref gp, .ref go, .ref gg, .ref hm])), (wi, .inl (d1, 6, .inl fw)), (co, .inl (d2, 6, .inl fc)), (sl, .inl (d3, 6, .inl fs)), (gr, .inl (d4, 6, .inl fg)), (gt, .inl (d8, 6, .inl (fun _ => 0))), (gw, .inl (d9, 6, .inl (fun _ => 0))), (gk, .inl (d10, 360, .inl fk)), (gi, .inl (d11, 360, .inl (fun _ => 0)))] s.heap.size = A at hD ⊢
  have hA : ∀ q : Nat, s.heap.size ≤ q → A q := fun q h => by rw [← hAe]; exact Or.inr h
  have hS : va_S A s.heap s.heap [] := va_S.rf
  have hP : va_P (dC, dI) vwCl [(hm, .inr (3, [.int th, .int 6, .ref wi, .ref co, .ref sl, .ref rn, .ref so, .ref bn, .ref sm, .ref ah])), (sm, .inr (2, [.int 0, .ref gr, .ref gt, .ref gw, .ref gk, .ref gi, .ref gp, .ref go, .ref gg, .ref hm])), (wi, .inl (d1, 6, .inl fw)), (co, .inl (d2, 6, .inl fc)), (sl, .inl (d3, 6, .inl fs)), (gr, .inl (d4, 6, .inl fg)), (gt, .inl (d8, 6, .inl (fun _ => 0))), (gw, .inl (d9, 6, .inl (fun _ => 0))), (gk, .inl (d10, 360, .inl fk)), (gi, .inl (d11, 360, .inl (fun _ => 0)))] s.heap := hP
  have hl := lv_entry ([.ref hm, .int (nI ru), .int 0]) (n := 4) (Nat.le_of_ble_eq_true rfl)
  rw [lg_entry_eq]
  generalize (lg_sl ([.ref hm, .int (nI ru), .int 0]) ++ List.replicate (4 - (lg_sl ([.ref hm, .int (nI ru), .int 0])).length) Slot.unset).toArray = ls at hl ⊢
  have hl : lv_has ls 4 [(0, .ref hm), (1, .int (nI ru)), (2, .int 0)] := hl
  refine lv_bipush (v := 9) hx hb dX3_roofTold_0 (by decide) ?_
  refine va_newa (atype := .int) (ty := .int) (N' := 9) (a0 := (9, .inl (fun _ => 0))) hx hb (hts (.arrayClass .int) (by decide +kernel)) rfl hK hP hD hS hA (fun _ => rfl) (by decide) (by decide) (by decide) (Nat.le_of_ble_eq_true rfl) (Nat.le_of_ble_eq_true rfl) dX3_roofTold_2 (fun q1 cA2 H hK hP hD hS => ?_)
  refine W.widen (k := 1) (n := 9) (Nat.le_of_ble_eq_true rfl) (Nat.le_of_ble_eq_true rfl) ?_
  have hK : va_K (dC, dI) vwCl [(d1, .int), (d2, .int), (d3, .int), (d4, .int), (d8, .int), (d9, .int), (d10, .int), (d11, .int), (cA2, .int)] s := hK
  have hP : va_P (dC, dI) vwCl [(hm, .inr (3, [.int th, .int 6, .ref wi, .ref co, .ref sl, .ref rn, .ref so, .ref bn, .ref sm, .ref ah])), (sm, .inr (2, [.int 0, .ref gr, .ref gt, .ref gw, .ref gk, .ref gi, .ref gp, .ref go, .ref gg, .ref hm])), (wi, .inl (d1, 6, .inl fw)), (co, .inl (d2, 6, .inl fc)), (sl, .inl (d3, 6, .inl fs)), (gr, .inl (d4, 6, .inl fg)), (gt, .inl (d8, 6, .inl (fun _ => 0))), (gw, .inl (d9, 6, .inl (fun _ => 0))), (gk, .inl (d10, 360, .inl fk)), (gi, .inl (d11, 360, .inl (fun _ => 0))), (q1, .inl (cA2, 9, .inl (fun _ => 0)))] H := hP
  have hD : va_D A [(hm, .inr (3, [.int th, .int 6, .ref wi, .ref co, .ref sl, .ref rn, .ref so, .ref bn, .ref sm, .ref ah])), (sm, .inr (2, [.int 0, .ref gr, .ref gt, .ref gw, .ref gk, .ref gi, .ref gp, .ref go, .ref gg, .ref hm])), (wi, .inl (d1, 6, .inl fw)), (co, .inl (d2, 6, .inl fc)), (sl, .inl (d3, 6, .inl fs)), (gr, .inl (d4, 6, .inl fg)), (gt, .inl (d8, 6, .inl (fun _ => 0))), (gw, .inl (d9, 6, .inl (fun _ => 0))), (gk, .inl (d10, 360, .inl fk)), (gi, .inl (d11, 360, .inl (fun _ => 0))), (q1, .inl (cA2, 9, .inl (fun _ => 0)))] := hD
  refine lv_dup hx hb dX3_roofTold_4 rfl ?_
  refine lv_iconst (v := 0) hx hb dX3_roofTold_5 (by decide) ?_
  refine lv_aload_n hx hb dX3_roofTold_6 rfl (lv_at hl 0 rfl) ?_
  refine va_get (D := (dC, dI)) (ci := 3) (v := .ref wi) (C := RX3) (T := TX3) (N := 10) hx hb hts (by decide +kernel) hown hK hP 0 rfl rfl 2 (by decide) (hts (.fieldLink RX3 9 "ThatchRoofModel" "width" "[I") (by decide +kernel)) (fun _ h9 => h9) rfl dX3_roofTold_7 ?_
  refine lv_iload_n hx hb dX3_roofTold_10 rfl (lv_at hl 1 rfl) ?_
  refine va_iald hx hb hK hP 2 0 rfl rfl (vp_in_nI (by omega) (by omega)) dX3_roofTold_11 ?_
  refine lv_topi (fun x3 ex3 => ?_)
  rw [nI_clamp (show ru < 2 ^ 31 by omega)] at ex3
  obtain rfl : x3 = 10 := ex3.trans (hw _ (by omega))
  refine va_iast hx hb hK hP hD hS 10 8 rfl rfl (vp_in_nI (n := 0) (by decide) (by decide)) dX3_roofTold_12 (fun H locs hP hD hS => ?_)
  have hP : va_P (dC, dI) vwCl [(hm, .inr (3, [.int th, .int 6, .ref wi, .ref co, .ref sl, .ref rn, .ref so, .ref bn, .ref sm, .ref ah])), (sm, .inr (2, [.int 0, .ref gr, .ref gt, .ref gw, .ref gk, .ref gi, .ref gp, .ref go, .ref gg, .ref hm])), (wi, .inl (d1, 6, .inl fw)), (co, .inl (d2, 6, .inl fc)), (sl, .inl (d3, 6, .inl fs)), (gr, .inl (d4, 6, .inl fg)), (gt, .inl (d8, 6, .inl (fun _ => 0))), (gw, .inl (d9, 6, .inl (fun _ => 0))), (gk, .inl (d10, 360, .inl fk)), (gi, .inl (d11, 360, .inl (fun _ => 0))), (q1, .inl (cA2, 9, .inl (upd (fun _ => 0) 0 10)))] H := hP
  have hD : va_D A [(hm, .inr (3, [.int th, .int 6, .ref wi, .ref co, .ref sl, .ref rn, .ref so, .ref bn, .ref sm, .ref ah])), (sm, .inr (2, [.int 0, .ref gr, .ref gt, .ref gw, .ref gk, .ref gi, .ref gp, .ref go, .ref gg, .ref hm])), (wi, .inl (d1, 6, .inl fw)), (co, .inl (d2, 6, .inl fc)), (sl, .inl (d3, 6, .inl fs)), (gr, .inl (d4, 6, .inl fg)), (gt, .inl (d8, 6, .inl (fun _ => 0))), (gw, .inl (d9, 6, .inl (fun _ => 0))), (gk, .inl (d10, 360, .inl fk)), (gi, .inl (d11, 360, .inl (fun _ => 0))), (q1, .inl (cA2, 9, .inl (upd (fun _ => 0) 0 10)))] := hD
  refine lv_dup hx hb dX3_roofTold_13 rfl ?_
  refine lv_iconst (v := 1) hx hb dX3_roofTold_14 (by decide) ?_
  refine lv_aload_n hx hb dX3_roofTold_15 rfl (lv_at hl 0 rfl) ?_
  refine va_get (D := (dC, dI)) (ci := 3) (v := .ref co) (C := RX3) (T := TX3) (N := 10) hx hb hts (by decide +kernel) hown hK hP 0 rfl rfl 3 (by decide) (hts (.fieldLink RX3 13 "ThatchRoofModel" "courses" "[I") (by decide +kernel)) (fun _ h9 => h9) rfl dX3_roofTold_16 ?_
  refine lv_iload_n hx hb dX3_roofTold_19 rfl (lv_at hl 1 rfl) ?_
  refine va_iald hx hb hK hP 3 1 rfl rfl (vp_in_nI (by omega) (by omega)) dX3_roofTold_20 ?_
  refine lv_topi (fun x4 ex4 => ?_)
  rw [nI_clamp (show ru < 2 ^ 31 by omega)] at ex4
  obtain rfl : x4 = 6 := ex4.trans (hc _ (by omega))
  refine va_iast hx hb hK hP hD hS 10 8 rfl rfl (vp_in_nI (n := 1) (by decide) (by decide)) dX3_roofTold_21 (fun H locs hP hD hS => ?_)
  have hP : va_P (dC, dI) vwCl [(hm, .inr (3, [.int th, .int 6, .ref wi, .ref co, .ref sl, .ref rn, .ref so, .ref bn, .ref sm, .ref ah])), (sm, .inr (2, [.int 0, .ref gr, .ref gt, .ref gw, .ref gk, .ref gi, .ref gp, .ref go, .ref gg, .ref hm])), (wi, .inl (d1, 6, .inl fw)), (co, .inl (d2, 6, .inl fc)), (sl, .inl (d3, 6, .inl fs)), (gr, .inl (d4, 6, .inl fg)), (gt, .inl (d8, 6, .inl (fun _ => 0))), (gw, .inl (d9, 6, .inl (fun _ => 0))), (gk, .inl (d10, 360, .inl fk)), (gi, .inl (d11, 360, .inl (fun _ => 0))), (q1, .inl (cA2, 9, .inl (upd (upd (fun _ => 0) 0 10) 1 6)))] H := hP
  have hD : va_D A [(hm, .inr (3, [.int th, .int 6, .ref wi, .ref co, .ref sl, .ref rn, .ref so, .ref bn, .ref sm, .ref ah])), (sm, .inr (2, [.int 0, .ref gr, .ref gt, .ref gw, .ref gk, .ref gi, .ref gp, .ref go, .ref gg, .ref hm])), (wi, .inl (d1, 6, .inl fw)), (co, .inl (d2, 6, .inl fc)), (sl, .inl (d3, 6, .inl fs)), (gr, .inl (d4, 6, .inl fg)), (gt, .inl (d8, 6, .inl (fun _ => 0))), (gw, .inl (d9, 6, .inl (fun _ => 0))), (gk, .inl (d10, 360, .inl fk)), (gi, .inl (d11, 360, .inl (fun _ => 0))), (q1, .inl (cA2, 9, .inl (upd (upd (fun _ => 0) 0 10) 1 6)))] := hD
  refine lv_dup hx hb dX3_roofTold_22 rfl ?_
  refine lv_iconst (v := 2) hx hb dX3_roofTold_23 (by decide) ?_
  refine lv_aload_n hx hb dX3_roofTold_24 rfl (lv_at hl 0 rfl) ?_
  refine va_get (D := (dC, dI)) (ci := 3) (v := .ref sl) (C := RX3) (T := TX3) (N := 10) hx hb hts (by decide +kernel) hown hK hP 0 rfl rfl 4 (by decide) (hts (.fieldLink RX3 16 "ThatchRoofModel" "slope" "[I") (by decide +kernel)) (fun _ h9 => h9) rfl dX3_roofTold_25 ?_
  refine lv_iload_n hx hb dX3_roofTold_28 rfl (lv_at hl 1 rfl) ?_
  refine va_iald hx hb hK hP 4 2 rfl rfl (vp_in_nI (by omega) (by omega)) dX3_roofTold_29 ?_
  refine lv_topi (fun x5 ex5 => ?_)
  rw [nI_clamp (show ru < 2 ^ 31 by omega)] at ex5
  obtain rfl : x5 = 30 := ex5.trans (hs _ (by omega))
  refine va_iast hx hb hK hP hD hS 10 8 rfl rfl (vp_in_nI (n := 2) (by decide) (by decide)) dX3_roofTold_30 (fun H locs hP hD hS => ?_)
  have hP : va_P (dC, dI) vwCl [(hm, .inr (3, [.int th, .int 6, .ref wi, .ref co, .ref sl, .ref rn, .ref so, .ref bn, .ref sm, .ref ah])), (sm, .inr (2, [.int 0, .ref gr, .ref gt, .ref gw, .ref gk, .ref gi, .ref gp, .ref go, .ref gg, .ref hm])), (wi, .inl (d1, 6, .inl fw)), (co, .inl (d2, 6, .inl fc)), (sl, .inl (d3, 6, .inl fs)), (gr, .inl (d4, 6, .inl fg)), (gt, .inl (d8, 6, .inl (fun _ => 0))), (gw, .inl (d9, 6, .inl (fun _ => 0))), (gk, .inl (d10, 360, .inl fk)), (gi, .inl (d11, 360, .inl (fun _ => 0))), (q1, .inl (cA2, 9, .inl (upd (upd (upd (fun _ => 0) 0 10) 1 6) 2 30)))] H := hP
  have hD : va_D A [(hm, .inr (3, [.int th, .int 6, .ref wi, .ref co, .ref sl, .ref rn, .ref so, .ref bn, .ref sm, .ref ah])), (sm, .inr (2, [.int 0, .ref gr, .ref gt, .ref gw, .ref gk, .ref gi, .ref gp, .ref go, .ref gg, .ref hm])), (wi, .inl (d1, 6, .inl fw)), (co, .inl (d2, 6, .inl fc)), (sl, .inl (d3, 6, .inl fs)), (gr, .inl (d4, 6, .inl fg)), (gt, .inl (d8, 6, .inl (fun _ => 0))), (gw, .inl (d9, 6, .inl (fun _ => 0))), (gk, .inl (d10, 360, .inl fk)), (gi, .inl (d11, 360, .inl (fun _ => 0))), (q1, .inl (cA2, 9, .inl (upd (upd (upd (fun _ => 0) 0 10) 1 6) 2 30)))] := hD
  refine lv_dup hx hb dX3_roofTold_31 rfl ?_
  refine lv_iconst (v := 3) hx hb dX3_roofTold_32 (by decide) ?_
  refine lv_aload_n hx hb dX3_roofTold_33 rfl (lv_at hl 0 rfl) ?_
  refine va_get (D := (dC, dI)) (ci := 3) (v := .ref sm) (C := RX3) (T := TX3) (N := 10) hx hb hts (by decide +kernel) hown hK hP 0 rfl rfl 8 (by decide) (hts (.fieldLink RX3 33 "ThatchRoofModel" "s" "LThatchRoofModel$State;") (by decide +kernel)) (fun _ h9 => h9) rfl dX3_roofTold_34 ?_
  refine va_getN (D := (dC, dI)) (ci := 2) (v := .ref gr) (C := RX2) (T := TX2) (N := 10) hx hb hts (by decide +kernel) hown hK hP 1 rfl rfl 1 (by decide) (va_Nw.use rfl (zN_RX3_63 hZN)) (fun _ h9 => h9) rfl dX3_roofTold_37 ?_
  refine lv_iload_n hx hb dX3_roofTold_40 rfl (lv_at hl 1 rfl) ?_
  refine va_iald hx hb hK hP 5 3 rfl rfl (vp_in_nI (by omega) (by omega)) dX3_roofTold_41 ?_
  refine lv_topi (fun x6 ex6 => ?_)
  rw [nI_clamp (show ru < 2 ^ 31 by omega)] at ex6
  obtain rfl : x6 = 100 := ex6.trans (hg _ (by omega))
  refine va_iast hx hb hK hP hD hS 10 8 rfl rfl (vp_in_nI (n := 3) (by decide) (by decide)) dX3_roofTold_42 (fun H locs hP hD hS => ?_)
  have hP : va_P (dC, dI) vwCl [(hm, .inr (3, [.int th, .int 6, .ref wi, .ref co, .ref sl, .ref rn, .ref so, .ref bn, .ref sm, .ref ah])), (sm, .inr (2, [.int 0, .ref gr, .ref gt, .ref gw, .ref gk, .ref gi, .ref gp, .ref go, .ref gg, .ref hm])), (wi, .inl (d1, 6, .inl fw)), (co, .inl (d2, 6, .inl fc)), (sl, .inl (d3, 6, .inl fs)), (gr, .inl (d4, 6, .inl fg)), (gt, .inl (d8, 6, .inl (fun _ => 0))), (gw, .inl (d9, 6, .inl (fun _ => 0))), (gk, .inl (d10, 360, .inl fk)), (gi, .inl (d11, 360, .inl (fun _ => 0))), (q1, .inl (cA2, 9, .inl (upd (upd (upd (upd (fun _ => 0) 0 10) 1 6) 2 30) 3 100)))] H := hP
  have hD : va_D A [(hm, .inr (3, [.int th, .int 6, .ref wi, .ref co, .ref sl, .ref rn, .ref so, .ref bn, .ref sm, .ref ah])), (sm, .inr (2, [.int 0, .ref gr, .ref gt, .ref gw, .ref gk, .ref gi, .ref gp, .ref go, .ref gg, .ref hm])), (wi, .inl (d1, 6, .inl fw)), (co, .inl (d2, 6, .inl fc)), (sl, .inl (d3, 6, .inl fs)), (gr, .inl (d4, 6, .inl fg)), (gt, .inl (d8, 6, .inl (fun _ => 0))), (gw, .inl (d9, 6, .inl (fun _ => 0))), (gk, .inl (d10, 360, .inl fk)), (gi, .inl (d11, 360, .inl (fun _ => 0))), (q1, .inl (cA2, 9, .inl (upd (upd (upd (upd (fun _ => 0) 0 10) 1 6) 2 30) 3 100)))] := hD
  refine lv_dup hx hb dX3_roofTold_43 rfl ?_
  refine lv_iconst (v := 4) hx hb dX3_roofTold_44 (by decide) ?_
  refine lv_aload_n hx hb dX3_roofTold_45 rfl (lv_at hl 0 rfl) ?_
  refine va_get (D := (dC, dI)) (ci := 3) (v := .ref sm) (C := RX3) (T := TX3) (N := 10) hx hb hts (by decide +kernel) hown hK hP 0 rfl rfl 8 (by decide) (hts (.fieldLink RX3 33 "ThatchRoofModel" "s" "LThatchRoofModel$State;") (by decide +kernel)) (fun _ h9 => h9) rfl dX3_roofTold_46 ?_
  refine lv_iload_n hx hb dX3_roofTold_49 rfl (lv_at hl 1 rfl) ?_
  have hPc := hP.sub (ws' := [(sm, .inr (2, [.int 0, .ref gr, .ref gt, .ref gw, .ref gk, .ref gi, .ref gp, .ref go, .ref gg, .ref hm])), (gk, .inl (d10, 360, .inl fk))]) [1, 8] rfl
  have hKc := hK.sub (tys' := [(d10, .int)]) [6] rfl
  refine vp_callSi (va_runV (As := [.int (nI ru)]) (rest := [.int 4, .ref q1, .ref q1]) ⟨hx, hb, hml, hown, hts⟩ (r2_yealms l dC dI sm hm gr gt gw gk gi gp go gg d10 fk ru (by first | assumption | decide | omega) (by first | assumption | decide | omega)) (cwV 1 hts gX3_roofTold_X2_yealms rfl rfl rfl (by decide +kernel) ⟨Nat.le_of_ble_eq_true rfl, Nat.le_of_ble_eq_true rfl⟩) ⟨fun a U g mk q => by obtain ⟨q0, qP, qK⟩ := q; exact ⟨q0, qP, va_K.moved (u := U) (U := U.calling g mk a) (Vm.Alike.refl U.vm) qK⟩, va_recv hKc hPc (ci := 2) (q0 := 0) rfl rfl, fun U hU hW => ⟨rfl, by rw [hU]; exact hPc, va_K.moved hW.alike hKc⟩⟩ rfl rfl hl.1 rfl (lv_room (Nat.le_of_ble_eq_true rfl)) dX3_roofTold_50 ⟨Nat.le_of_ble_eq_true rfl, Nat.le_of_ble_eq_true rfl⟩).run (fun r7 hr7 => ?_)
  obtain rfl := hr7
  refine va_iast hx hb hK hP hD hS 10 8 rfl rfl (vp_in_nI (n := 4) (by decide) (by decide)) dX3_roofTold_53 (fun H locs hP hD hS => ?_)
  have hP : va_P (dC, dI) vwCl [(hm, .inr (3, [.int th, .int 6, .ref wi, .ref co, .ref sl, .ref rn, .ref so, .ref bn, .ref sm, .ref ah])), (sm, .inr (2, [.int 0, .ref gr, .ref gt, .ref gw, .ref gk, .ref gi, .ref gp, .ref go, .ref gg, .ref hm])), (wi, .inl (d1, 6, .inl fw)), (co, .inl (d2, 6, .inl fc)), (sl, .inl (d3, 6, .inl fs)), (gr, .inl (d4, 6, .inl fg)), (gt, .inl (d8, 6, .inl (fun _ => 0))), (gw, .inl (d9, 6, .inl (fun _ => 0))), (gk, .inl (d10, 360, .inl fk)), (gi, .inl (d11, 360, .inl (fun _ => 0))), (q1, .inl (cA2, 9, .inl (upd (upd (upd (upd (upd (fun _ => 0) 0 10) 1 6) 2 30) 3 100) 4 0)))] H := hP
  have hD : va_D A [(hm, .inr (3, [.int th, .int 6, .ref wi, .ref co, .ref sl, .ref rn, .ref so, .ref bn, .ref sm, .ref ah])), (sm, .inr (2, [.int 0, .ref gr, .ref gt, .ref gw, .ref gk, .ref gi, .ref gp, .ref go, .ref gg, .ref hm])), (wi, .inl (d1, 6, .inl fw)), (co, .inl (d2, 6, .inl fc)), (sl, .inl (d3, 6, .inl fs)), (gr, .inl (d4, 6, .inl fg)), (gt, .inl (d8, 6, .inl (fun _ => 0))), (gw, .inl (d9, 6, .inl (fun _ => 0))), (gk, .inl (d10, 360, .inl fk)), (gi, .inl (d11, 360, .inl (fun _ => 0))), (q1, .inl (cA2, 9, .inl (upd (upd (upd (upd (upd (fun _ => 0) 0 10) 1 6) 2 30) 3 100) 4 0)))] := hD
  refine lv_dup hx hb dX3_roofTold_54 rfl ?_
  refine lv_iconst (v := 5) hx hb dX3_roofTold_55 (by decide) ?_
  refine lv_aload_n hx hb dX3_roofTold_56 rfl (lv_at hl 0 rfl) ?_
  refine va_get (D := (dC, dI)) (ci := 3) (v := .ref sm) (C := RX3) (T := TX3) (N := 10) hx hb hts (by decide +kernel) hown hK hP 0 rfl rfl 8 (by decide) (hts (.fieldLink RX3 33 "ThatchRoofModel" "s" "LThatchRoofModel$State;") (by decide +kernel)) (fun _ h9 => h9) rfl dX3_roofTold_57 ?_
  refine lv_iload_n hx hb dX3_roofTold_60 rfl (lv_at hl 1 rfl) ?_
  have hPc := hP.sub (ws' := [(sm, .inr (2, [.int 0, .ref gr, .ref gt, .ref gw, .ref gk, .ref gi, .ref gp, .ref go, .ref gg, .ref hm])), (gi, .inl (d11, 360, .inl (fun _ => 0)))]) [1, 9] rfl
  have hKc := hK.sub (tys' := [(d11, .int)]) [7] rfl
  refine vp_callSi (va_runV (As := [.int (nI ru)]) (rest := [.int 5, .ref q1, .ref q1]) ⟨hx, hb, hml, hown, hts⟩ (r2_thickness l dC dI sm hm gr gt gw gk gi gp go gg d11 ru (by first | assumption | decide | omega)) (cwV 1 hts gX3_roofTold_X2_thickness rfl rfl rfl (by decide +kernel) ⟨Nat.le_of_ble_eq_true rfl, Nat.le_of_ble_eq_true rfl⟩) ⟨fun a U g mk q => by obtain ⟨q0, qP, qK⟩ := q; exact ⟨q0, qP, va_K.moved (u := U) (U := U.calling g mk a) (Vm.Alike.refl U.vm) qK⟩, va_recv hKc hPc (ci := 2) (q0 := 0) rfl rfl, fun U hU hW => ⟨rfl, by rw [hU]; exact hPc, va_K.moved hW.alike hKc⟩⟩ rfl rfl hl.1 rfl (lv_room (Nat.le_of_ble_eq_true rfl)) dX3_roofTold_61 ⟨Nat.le_of_ble_eq_true rfl, Nat.le_of_ble_eq_true rfl⟩).run (fun r8 hr8 => ?_)
  obtain rfl := hr8
  refine va_iast hx hb hK hP hD hS 10 8 rfl rfl (vp_in_nI (n := 5) (by decide) (by decide)) dX3_roofTold_64 (fun H locs hP hD hS => ?_)
  have hP : va_P (dC, dI) vwCl [(hm, .inr (3, [.int th, .int 6, .ref wi, .ref co, .ref sl, .ref rn, .ref so, .ref bn, .ref sm, .ref ah])), (sm, .inr (2, [.int 0, .ref gr, .ref gt, .ref gw, .ref gk, .ref gi, .ref gp, .ref go, .ref gg, .ref hm])), (wi, .inl (d1, 6, .inl fw)), (co, .inl (d2, 6, .inl fc)), (sl, .inl (d3, 6, .inl fs)), (gr, .inl (d4, 6, .inl fg)), (gt, .inl (d8, 6, .inl (fun _ => 0))), (gw, .inl (d9, 6, .inl (fun _ => 0))), (gk, .inl (d10, 360, .inl fk)), (gi, .inl (d11, 360, .inl (fun _ => 0))), (q1, .inl (cA2, 9, .inl (upd (upd (upd (upd (upd (upd (fun _ => 0) 0 10) 1 6) 2 30) 3 100) 4 0) 5 0)))] H := hP
  have hD : va_D A [(hm, .inr (3, [.int th, .int 6, .ref wi, .ref co, .ref sl, .ref rn, .ref so, .ref bn, .ref sm, .ref ah])), (sm, .inr (2, [.int 0, .ref gr, .ref gt, .ref gw, .ref gk, .ref gi, .ref gp, .ref go, .ref gg, .ref hm])), (wi, .inl (d1, 6, .inl fw)), (co, .inl (d2, 6, .inl fc)), (sl, .inl (d3, 6, .inl fs)), (gr, .inl (d4, 6, .inl fg)), (gt, .inl (d8, 6, .inl (fun _ => 0))), (gw, .inl (d9, 6, .inl (fun _ => 0))), (gk, .inl (d10, 360, .inl fk)), (gi, .inl (d11, 360, .inl (fun _ => 0))), (q1, .inl (cA2, 9, .inl (upd (upd (upd (upd (upd (upd (fun _ => 0) 0 10) 1 6) 2 30) 3 100) 4 0) 5 0)))] := hD
  refine lv_dup hx hb dX3_roofTold_65 rfl ?_
  refine lv_bipush (v := 6) hx hb dX3_roofTold_66 (by decide) ?_
  refine lv_aload_n hx hb dX3_roofTold_68 rfl (lv_at hl 0 rfl) ?_
  refine va_get (D := (dC, dI)) (ci := 3) (v := .ref sm) (C := RX3) (T := TX3) (N := 10) hx hb hts (by decide +kernel) hown hK hP 0 rfl rfl 8 (by decide) (hts (.fieldLink RX3 33 "ThatchRoofModel" "s" "LThatchRoofModel$State;") (by decide +kernel)) (fun _ h9 => h9) rfl dX3_roofTold_69 ?_
  refine lv_iload_n hx hb dX3_roofTold_72 rfl (lv_at hl 1 rfl) ?_
  have hPc := hP.sub (ws' := [(sm, .inr (2, [.int 0, .ref gr, .ref gt, .ref gw, .ref gk, .ref gi, .ref gp, .ref go, .ref gg, .ref hm])), (hm, .inr (3, [.int th, .int 6, .ref wi, .ref co, .ref sl, .ref rn, .ref so, .ref bn, .ref sm, .ref ah])), (wi, .inl (d1, 6, .inl fw)), (co, .inl (d2, 6, .inl fc)), (gk, .inl (d10, 360, .inl fk)), (gi, .inl (d11, 360, .inl (fun _ => 0)))]) [1, 0, 2, 3, 8, 9] rfl
  have hKc := hK.sub (tys' := [(d1, .int), (d2, .int), (d10, .int), (d11, .int)]) [0, 1, 6, 7] rfl
  refine vp_callSi (va_runV (As := [.int (nI ru)]) (rest := [.int 6, .ref q1, .ref q1]) ⟨hx, hb, hml, hown, hts⟩ (r2_leaks l dC dI hm wi co sl rn so bn sm ah th gr gt gw gk gi gp go gg d1 d2 d10 d11 fw fc fk ru (by first | assumption | decide | omega) (by first | assumption | decide | omega) (by first | assumption | decide | omega) (by first | assumption | decide | omega)) (cwV 1 hts gX3_roofTold_X2_leaks rfl rfl rfl (by decide +kernel) ⟨Nat.le_of_ble_eq_true rfl, Nat.le_of_ble_eq_true rfl⟩) ⟨fun a U g mk q => by obtain ⟨q0, qP, qK, qN⟩ := q; exact ⟨q0, qP, va_K.moved (u := U) (U := U.calling g mk a) (Vm.Alike.refl U.vm) qK, zNs.calling qN⟩, va_recv hKc hPc (ci := 2) (q0 := 0) rfl rfl, fun U hU hW => ⟨rfl, by rw [hU]; exact hPc, va_K.moved hW.alike hKc, zNs.warm hW hZN⟩⟩ rfl rfl hl.1 rfl (lv_room (Nat.le_of_ble_eq_true rfl)) dX3_roofTold_73 ⟨Nat.le_of_ble_eq_true rfl, Nat.le_of_ble_eq_true rfl⟩).run (fun r9 hr9 => ?_)
  obtain rfl := hr9
  refine va_iast hx hb hK hP hD hS 10 8 rfl rfl (vp_in_nI (n := 6) (by decide) (by decide)) dX3_roofTold_76 (fun H locs hP hD hS => ?_)
  have hP : va_P (dC, dI) vwCl [(hm, .inr (3, [.int th, .int 6, .ref wi, .ref co, .ref sl, .ref rn, .ref so, .ref bn, .ref sm, .ref ah])), (sm, .inr (2, [.int 0, .ref gr, .ref gt, .ref gw, .ref gk, .ref gi, .ref gp, .ref go, .ref gg, .ref hm])), (wi, .inl (d1, 6, .inl fw)), (co, .inl (d2, 6, .inl fc)), (sl, .inl (d3, 6, .inl fs)), (gr, .inl (d4, 6, .inl fg)), (gt, .inl (d8, 6, .inl (fun _ => 0))), (gw, .inl (d9, 6, .inl (fun _ => 0))), (gk, .inl (d10, 360, .inl fk)), (gi, .inl (d11, 360, .inl (fun _ => 0))), (q1, .inl (cA2, 9, .inl (upd (upd (upd (upd (upd (upd (upd (fun _ => 0) 0 10) 1 6) 2 30) 3 100) 4 0) 5 0) 6 10)))] H := hP
  have hD : va_D A [(hm, .inr (3, [.int th, .int 6, .ref wi, .ref co, .ref sl, .ref rn, .ref so, .ref bn, .ref sm, .ref ah])), (sm, .inr (2, [.int 0, .ref gr, .ref gt, .ref gw, .ref gk, .ref gi, .ref gp, .ref go, .ref gg, .ref hm])), (wi, .inl (d1, 6, .inl fw)), (co, .inl (d2, 6, .inl fc)), (sl, .inl (d3, 6, .inl fs)), (gr, .inl (d4, 6, .inl fg)), (gt, .inl (d8, 6, .inl (fun _ => 0))), (gw, .inl (d9, 6, .inl (fun _ => 0))), (gk, .inl (d10, 360, .inl fk)), (gi, .inl (d11, 360, .inl (fun _ => 0))), (q1, .inl (cA2, 9, .inl (upd (upd (upd (upd (upd (upd (upd (fun _ => 0) 0 10) 1 6) 2 30) 3 100) 4 0) 5 0) 6 10)))] := hD
  refine lv_dup hx hb dX3_roofTold_77 rfl ?_
  refine lv_bipush (v := 7) hx hb dX3_roofTold_78 (by decide) ?_
  refine lv_aload_n hx hb dX3_roofTold_80 rfl (lv_at hl 0 rfl) ?_
  refine va_get (D := (dC, dI)) (ci := 3) (v := .ref sm) (C := RX3) (T := TX3) (N := 10) hx hb hts (by decide +kernel) hown hK hP 0 rfl rfl 8 (by decide) (hts (.fieldLink RX3 33 "ThatchRoofModel" "s" "LThatchRoofModel$State;") (by decide +kernel)) (fun _ h9 => h9) rfl dX3_roofTold_81 ?_
  refine va_getN (D := (dC, dI)) (ci := 2) (v := .ref gt) (C := RX2) (T := TX2) (N := 10) hx hb hts (by decide +kernel) hown hK hP 1 rfl rfl 2 (by decide) (va_Nw.use rfl (zN_RX3_118 hZN)) (fun _ h9 => h9) rfl dX3_roofTold_84 ?_
  refine lv_iload_n hx hb dX3_roofTold_87 rfl (lv_at hl 1 rfl) ?_
  refine va_iald hx hb hK hP 6 4 rfl rfl (vp_in_nI (by omega) (by omega)) dX3_roofTold_88 ?_
  refine lv_topi (fun x10 ex10 => ?_)
  obtain rfl : x10 = 0 := ex10
  refine va_iast hx hb hK hP hD hS 10 8 rfl rfl (vp_in_nI (n := 7) (by decide) (by decide)) dX3_roofTold_89 (fun H locs hP hD hS => ?_)
  have hP : va_P (dC, dI) vwCl [(hm, .inr (3, [.int th, .int 6, .ref wi, .ref co, .ref sl, .ref rn, .ref so, .ref bn, .ref sm, .ref ah])), (sm, .inr (2, [.int 0, .ref gr, .ref gt, .ref gw, .ref gk, .ref gi, .ref gp, .ref go, .ref gg, .ref hm])), (wi, .inl (d1, 6, .inl fw)), (co, .inl (d2, 6, .inl fc)), (sl, .inl (d3, 6, .inl fs)), (gr, .inl (d4, 6, .inl fg)), (gt, .inl (d8, 6, .inl (fun _ => 0))), (gw, .inl (d9, 6, .inl (fun _ => 0))), (gk, .inl (d10, 360, .inl fk)), (gi, .inl (d11, 360, .inl (fun _ => 0))), (q1, .inl (cA2, 9, .inl (upd (upd (upd (upd (upd (upd (upd (upd (fun _ => 0) 0 10) 1 6) 2 30) 3 100) 4 0) 5 0) 6 10) 7 0)))] H := hP
  have hD : va_D A [(hm, .inr (3, [.int th, .int 6, .ref wi, .ref co, .ref sl, .ref rn, .ref so, .ref bn, .ref sm, .ref ah])), (sm, .inr (2, [.int 0, .ref gr, .ref gt, .ref gw, .ref gk, .ref gi, .ref gp, .ref go, .ref gg, .ref hm])), (wi, .inl (d1, 6, .inl fw)), (co, .inl (d2, 6, .inl fc)), (sl, .inl (d3, 6, .inl fs)), (gr, .inl (d4, 6, .inl fg)), (gt, .inl (d8, 6, .inl (fun _ => 0))), (gw, .inl (d9, 6, .inl (fun _ => 0))), (gk, .inl (d10, 360, .inl fk)), (gi, .inl (d11, 360, .inl (fun _ => 0))), (q1, .inl (cA2, 9, .inl (upd (upd (upd (upd (upd (upd (upd (upd (fun _ => 0) 0 10) 1 6) 2 30) 3 100) 4 0) 5 0) 6 10) 7 0)))] := hD
  refine lv_dup hx hb dX3_roofTold_90 rfl ?_
  refine lv_bipush (v := 8) hx hb dX3_roofTold_91 (by decide) ?_
  refine lv_aload_n hx hb dX3_roofTold_93 rfl (lv_at hl 0 rfl) ?_
  refine va_get (D := (dC, dI)) (ci := 3) (v := .ref sm) (C := RX3) (T := TX3) (N := 10) hx hb hts (by decide +kernel) hown hK hP 0 rfl rfl 8 (by decide) (hts (.fieldLink RX3 33 "ThatchRoofModel" "s" "LThatchRoofModel$State;") (by decide +kernel)) (fun _ h9 => h9) rfl dX3_roofTold_94 ?_
  refine va_getN (D := (dC, dI)) (ci := 2) (v := .ref gw) (C := RX2) (T := TX2) (N := 10) hx hb hts (by decide +kernel) hown hK hP 1 rfl rfl 3 (by decide) (va_Nw.use rfl (zN_RX3_121 hZN)) (fun _ h9 => h9) rfl dX3_roofTold_97 ?_
  refine lv_iload_n hx hb dX3_roofTold_100 rfl (lv_at hl 1 rfl) ?_
  refine va_iald hx hb hK hP 7 5 rfl rfl (vp_in_nI (by omega) (by omega)) dX3_roofTold_101 ?_
  refine lv_topi (fun x11 ex11 => ?_)
  obtain rfl : x11 = 0 := ex11
  refine va_iast hx hb hK hP hD hS 10 8 rfl rfl (vp_in_nI (n := 8) (by decide) (by decide)) dX3_roofTold_102 (fun H locs hP hD hS => ?_)
  have hP : va_P (dC, dI) vwCl [(hm, .inr (3, [.int th, .int 6, .ref wi, .ref co, .ref sl, .ref rn, .ref so, .ref bn, .ref sm, .ref ah])), (sm, .inr (2, [.int 0, .ref gr, .ref gt, .ref gw, .ref gk, .ref gi, .ref gp, .ref go, .ref gg, .ref hm])), (wi, .inl (d1, 6, .inl fw)), (co, .inl (d2, 6, .inl fc)), (sl, .inl (d3, 6, .inl fs)), (gr, .inl (d4, 6, .inl fg)), (gt, .inl (d8, 6, .inl (fun _ => 0))), (gw, .inl (d9, 6, .inl (fun _ => 0))), (gk, .inl (d10, 360, .inl fk)), (gi, .inl (d11, 360, .inl (fun _ => 0))), (q1, .inl (cA2, 9, .inl (upd (upd (upd (upd (upd (upd (upd (upd (upd (fun _ => 0) 0 10) 1 6) 2 30) 3 100) 4 0) 5 0) 6 10) 7 0) 8 0)))] H := hP
  have hD : va_D A [(hm, .inr (3, [.int th, .int 6, .ref wi, .ref co, .ref sl, .ref rn, .ref so, .ref bn, .ref sm, .ref ah])), (sm, .inr (2, [.int 0, .ref gr, .ref gt, .ref gw, .ref gk, .ref gi, .ref gp, .ref go, .ref gg, .ref hm])), (wi, .inl (d1, 6, .inl fw)), (co, .inl (d2, 6, .inl fc)), (sl, .inl (d3, 6, .inl fs)), (gr, .inl (d4, 6, .inl fg)), (gt, .inl (d8, 6, .inl (fun _ => 0))), (gw, .inl (d9, 6, .inl (fun _ => 0))), (gk, .inl (d10, 360, .inl fk)), (gi, .inl (d11, 360, .inl (fun _ => 0))), (q1, .inl (cA2, 9, .inl (upd (upd (upd (upd (upd (upd (upd (upd (upd (fun _ => 0) 0 10) 1 6) 2 30) 3 100) 4 0) 5 0) 6 10) 7 0) 8 0)))] := hD
  refine lv_astore_n (lv' := [(3, .ref q1), (0, .ref hm), (1, .int (nI ru)), (2, .int 0)]) hx hb dX3_roofTold_103 rfl hl (by decide) rfl (fun ls hl => ?_)
  refine lv_aload_n hx hb dX3_roofTold_104 rfl (lv_at hl 0 rfl) ?_
  refine lv_iload_n hx hb dX3_roofTold_105 rfl (lv_at hl 3 rfl) ?_
  refine va_iald hx hb hK hP 10 8 rfl rfl (vp_in_nI (n := 0) (by decide) (by decide)) dX3_roofTold_106 ?_
  refine lv_topi (fun x12 ex12 => ?_)
  obtain rfl : x12 = 10 := ex12
  have hP9 := hP.sub (ws' := [(hm, .inr (3, [.int th, .int 6, .ref wi, .ref co, .ref sl, .ref rn, .ref so, .ref bn, .ref sm, .ref ah])), (sm, .inr (2, [.int 0, .ref gr, .ref gt, .ref gw, .ref gk, .ref gi, .ref gp, .ref go, .ref gg, .ref hm])), (wi, .inl (d1, 6, .inl fw)), (co, .inl (d2, 6, .inl fc)), (sl, .inl (d3, 6, .inl fs)), (gr, .inl (d4, 6, .inl fg)), (gt, .inl (d8, 6, .inl (fun _ => 0))), (gw, .inl (d9, 6, .inl (fun _ => 0))), (gk, .inl (d10, 360, .inl fk)), (gi, .inl (d11, 360, .inl (fun _ => 0)))]) [0, 1, 2, 3, 4, 5, 6, 7, 8, 9] rfl
  have hD9 := hD.sub (ws' := [(hm, .inr (3, [.int th, .int 6, .ref wi, .ref co, .ref sl, .ref rn, .ref so, .ref bn, .ref sm, .ref ah])), (sm, .inr (2, [.int 0, .ref gr, .ref gt, .ref gw, .ref gk, .ref gi, .ref gp, .ref go, .ref gg, .ref hm])), (wi, .inl (d1, 6, .inl fw)), (co, .inl (d2, 6, .inl fc)), (sl, .inl (d3, 6, .inl fs)), (gr, .inl (d4, 6, .inl fg)), (gt, .inl (d8, 6, .inl (fun _ => 0))), (gw, .inl (d9, 6, .inl (fun _ => 0))), (gk, .inl (d10, 360, .inl fk)), (gi, .inl (d11, 360, .inl (fun _ => 0)))]) [0, 1, 2, 3, 4, 5, 6, 7, 8, 9] (by decide) rfl
  have hK9 := hK.sub (tys' := []) [] rfl
  refine W.widen (k := 1) (n := 9) (Nat.le_of_ble_eq_true rfl) (Nat.le_of_ble_eq_true rfl) ?_
  have hZ := zz_one hAe hD hP 10 [0, 1, 2, 3, 4, 5, 6, 7, 8, 9] rfl rfl (by decide)
  exact W.iret (v := 10) hx hb hr (fun t ht hW => ⟨⟨10, (), rfl, by (first | rfl | assumption | decide | (simp_all; done) | grind), ⟨by rw [ht]; exact hP9, va_K.moved hW.alike hK9, hD9, by rw [ht]; omega⟩⟩, hS.F ht⟩) hS.2.2 dX3_roofTold_107

set_option maxHeartbeats 4000000 in
set_option maxRecDepth 100000 in
theorem r3_roofTold1 (l : Launch) (dC : Nat → ClassId) (dI : Nat → Nat → Nat) (sz : Nat) (hm : Nat) (wi : Nat) (co : Nat) (sl : Nat) (rn : Nat) (so : Nat) (bn : Nat) (sm : Nat) (ah : Nat) (th : Int32) (gr : Nat) (gt : Nat) (gw : Nat) (gk : Nat) (gi : Nat) (gp : Nat) (go : Nat) (gg : Nat) (d1 : ClassId) (d2 : ClassId) (d3 : ClassId) (d4 : ClassId) (d8 : ClassId) (d9 : ClassId) (d10 : ClassId) (d11 : ClassId) (fw : Nat → Int32) (fc : Nat → Int32) (fs : Nat → Int32) (fg : Nat → Int32) (fk : Nat → Int32) (ru : Nat) (hk : ∀ j : Nat, j < 360 → fk j = -1) (hw : ∀ j : Nat, j < 6 → fw j = 10) (hc : ∀ j : Nat, j < 6 → fc j = 6) (hs : ∀ j : Nat, j < 6 → fs j = 30) (hg : ∀ j : Nat, j < 6 → fg j = 100) (hru : ru < 6) : Met l yX3_roofTold wsX3_roofTold ({ frames := 2, cells := 1, slots := 9, locals := 47 }) (va_Pc [.ref hm, .int (nI ru), .int 1] (fun U => U.heap.size = sz ∧ va_P (dC, dI) vwCl [(hm, .inr (3, [.int th, .int 6, .ref wi, .ref co, .ref sl, .ref rn, .ref so, .ref bn, .ref sm, .ref ah])), (sm, .inr (2, [.int 0, .ref gr, .ref gt, .ref gw, .ref gk, .ref gi, .ref gp, .ref go, .ref gg, .ref hm])), (wi, .inl (d1, 6, .inl fw)), (co, .inl (d2, 6, .inl fc)), (sl, .inl (d3, 6, .inl fs)), (gr, .inl (d4, 6, .inl fg)), (gt, .inl (d8, 6, .inl (fun _ => 0))), (gw, .inl (d9, 6, .inl (fun _ => 0))), (gk, .inl (d10, 360, .inl fk)), (gi, .inl (d11, 360, .inl (fun _ => 0)))] U.heap ∧ va_K (dC, dI) vwCl [(d1, .int), (d2, .int), (d3, .int), (d4, .int), (d8, .int), (d9, .int), (d10, .int), (d11, .int)] U ∧ va_D (fun _ => True) [(hm, .inr (3, [.int th, .int 6, .ref wi, .ref co, .ref sl, .ref rn, .ref so, .ref bn, .ref sm, .ref ah])), (sm, .inr (2, [.int 0, .ref gr, .ref gt, .ref gw, .ref gk, .ref gi, .ref gp, .ref go, .ref gg, .ref hm])), (wi, .inl (d1, 6, .inl fw)), (co, .inl (d2, 6, .inl fc)), (sl, .inl (d3, 6, .inl fs)), (gr, .inl (d4, 6, .inl fg)), (gt, .inl (d8, 6, .inl (fun _ => 0))), (gw, .inl (d9, 6, .inl (fun _ => 0))), (gk, .inl (d10, 360, .inl fk)), (gi, .inl (d11, 360, .inl (fun _ => 0)))] ∧ zNs U)) (va_Qi (fun (r : Int32) (u : Unit) => r = 6) (fun (u : Unit) (t : State) => va_P (dC, dI) vwCl [(hm, .inr (3, [.int th, .int 6, .ref wi, .ref co, .ref sl, .ref rn, .ref so, .ref bn, .ref sm, .ref ah])), (sm, .inr (2, [.int 0, .ref gr, .ref gt, .ref gw, .ref gk, .ref gi, .ref gp, .ref go, .ref gg, .ref hm])), (wi, .inl (d1, 6, .inl fw)), (co, .inl (d2, 6, .inl fc)), (sl, .inl (d3, 6, .inl fs)), (gr, .inl (d4, 6, .inl fg)), (gt, .inl (d8, 6, .inl (fun _ => 0))), (gw, .inl (d9, 6, .inl (fun _ => 0))), (gk, .inl (d10, 360, .inl fk)), (gi, .inl (d11, 360, .inl (fun _ => 0)))] t.heap ∧ va_K (dC, dI) vwCl [] t ∧ va_D (va_A [(hm, .inr (3, [.int th, .int 6, .ref wi, .ref co, .ref sl, .ref rn, .ref so, .ref bn, .ref sm, .ref ah])), (sm, .inr (2, [.int 0, .ref gr, .ref gt, .ref gw, .ref gk, .ref gi, .ref gp, .ref go, .ref gg, .ref hm])), (wi, .inl (d1, 6, .inl fw)), (co, .inl (d2, 6, .inl fc)), (sl, .inl (d3, 6, .inl fs)), (gr, .inl (d4, 6, .inl fg)), (gt, .inl (d8, 6, .inl (fun _ => 0))), (gw, .inl (d9, 6, .inl (fun _ => 0))), (gk, .inl (d10, 360, .inl fk)), (gi, .inl (d11, 360, .inl (fun _ => 0)))] sz) [(hm, .inr (3, [.int th, .int 6, .ref wi, .ref co, .ref sl, .ref rn, .ref so, .ref bn, .ref sm, .ref ah])), (sm, .inr (2, [.int 0, .ref gr, .ref gt, .ref gw, .ref gk, .ref gi, .ref gp, .ref go, .ref gg, .ref hm])), (wi, .inl (d1, 6, .inl fw)), (co, .inl (d2, 6, .inl fc)), (sl, .inl (d3, 6, .inl fs)), (gr, .inl (d4, 6, .inl fg)), (gt, .inl (d8, 6, .inl (fun _ => 0))), (gw, .inl (d9, 6, .inl (fun _ => 0))), (gk, .inl (d10, 360, .inl fk)), (gi, .inl (d11, 360, .inl (fun _ => 0)))] ∧ sz + 1 ≤ t.heap.size) (va_A [(hm, .inr (3, [.int th, .int 6, .ref wi, .ref co, .ref sl, .ref rn, .ref so, .ref bn, .ref sm, .ref ah])), (sm, .inr (2, [.int 0, .ref gr, .ref gt, .ref gw, .ref gk, .ref gi, .ref gp, .ref go, .ref gg, .ref hm])), (wi, .inl (d1, 6, .inl fw)), (co, .inl (d2, 6, .inl fc)), (sl, .inl (d3, 6, .inl fs)), (gr, .inl (d4, 6, .inl fg)), (gt, .inl (d8, 6, .inl (fun _ => 0))), (gw, .inl (d9, 6, .inl (fun _ => 0))), (gk, .inl (d10, 360, .inl fk)), (gi, .inl (d11, 360, .inl (fun _ => 0)))] sz)) 1 9 (va_A [(hm, .inr (3, [.int th, .int 6, .ref wi, .ref co, .ref sl, .ref rn, .ref so, .ref bn, .ref sm, .ref ah])), (sm, .inr (2, [.int 0, .ref gr, .ref gt, .ref gw, .ref gk, .ref gi, .ref gp, .ref go, .ref gg, .ref hm])), (wi, .inl (d1, 6, .inl fw)), (co, .inl (d2, 6, .inl fc)), (sl, .inl (d3, 6, .inl fs)), (gr, .inl (d4, 6, .inl fg)), (gt, .inl (d8, 6, .inl (fun _ => 0))), (gw, .inl (d9, 6, .inl (fun _ => 0))), (gk, .inl (d10, 360, .inl fk)), (gi, .inl (d11, 360, .inl (fun _ => 0)))] sz) := by
  refine Met.ofW (cc := cX3_roofTold) (maxL := 4) (ret := (some .int)) (by decide) rfl ?_
  intro p e s m args below meth c s₁ B hml hv
  obtain ⟨rfl, hsz, hP, hK, hD0, hZN⟩ := hv
  have hx := B.exec
  have hb := B.bytes
  have hr := B.returns
  have hts := atoms_spec (ws := wsX3_roofTold) B.pre
  have hown : s.vm.findClass RX3 = some m.cls := findClass_of_methodNamed B.named
  have hlocks := B.notSynchronized
  subst hsz
  have hD := hD0.self (sz := s.heap.size)
  generalize hAe : va_A [(hm, .inr (3, [.int th, .int 6, .ref wi, .ref co, .ref sl, .ref rn, .ref so, .ref bn, .ref sm, .ref ah])), (sm, .inr (2, [.int 0, .ref gr, .ref gt, .ref gw, .ref gk, .ref gi, .ref gp, .ref go, .ref gg, .ref hm])), (wi, .inl (d1, 6, .inl fw)), (co, .inl (d2, 6, .inl fc)), (sl, .inl (d3, 6, .inl fs)), (gr, .inl (d4, 6, .inl fg)), (gt, .inl (d8, 6, .inl (fun _ => 0))), (gw, .inl (d9, 6, .inl (fun _ => 0))), (gk, .inl (d10, 360, .inl fk)), (gi, .inl (d11, 360, .inl (fun _ => 0)))] s.heap.size = A at hD ⊢
  have hA : ∀ q : Nat, s.heap.size ≤ q → A q := fun q h => by rw [← hAe]; exact Or.inr h
  have hS : va_S A s.heap s.heap [] := va_S.rf
  have hP : va_P (dC, dI) vwCl [(hm, .inr (3, [.int th, .int 6, .ref wi, .ref co, .ref sl, .ref rn, .ref so, .ref bn, .ref sm, .ref ah])), (sm, .inr (2, [.int 0, .ref gr, .ref gt, .ref gw, .ref gk, .ref gi, .ref gp, .ref go, .ref gg, .ref hm])), (wi, .inl (d1, 6, .inl fw)), (co, .inl (d2, 6, .inl fc)), (sl, .inl (d3, 6, .inl fs)), (gr, .inl (d4, 6, .inl fg)), (gt, .inl (d8, 6, .inl (fun _ => 0))), (gw, .inl (d9, 6, .inl (fun _ => 0))), (gk, .inl (d10, 360, .inl fk)), (gi, .inl (d11, 360, .inl (fun _ => 0)))] s.heap := hP
  have hl := lv_entry ([.ref hm, .int (nI ru), .int 1]) (n := 4) (Nat.le_of_ble_eq_true rfl)
  rw [lg_entry_eq]
  generalize (lg_sl ([.ref hm, .int (nI ru), .int 1]) ++ List.replicate (4 - (lg_sl ([.ref hm, .int (nI ru), .int 1])).length) Slot.unset).toArray = ls at hl ⊢
  have hl : lv_has ls 4 [(0, .ref hm), (1, .int (nI ru)), (2, .int 1)] := hl
  refine lv_bipush (v := 9) hx hb dX3_roofTold_0 (by decide) ?_
  refine va_newa (atype := .int) (ty := .int) (N' := 9) (a0 := (9, .inl (fun _ => 0))) hx hb (hts (.arrayClass .int) (by decide +kernel)) rfl hK hP hD hS hA (fun _ => rfl) (by decide) (by decide) (by decide) (Nat.le_of_ble_eq_true rfl) (Nat.le_of_ble_eq_true rfl) dX3_roofTold_2 (fun q1 cA2 H hK hP hD hS => ?_)
  refine W.widen (k := 1) (n := 9) (Nat.le_of_ble_eq_true rfl) (Nat.le_of_ble_eq_true rfl) ?_
  have hK : va_K (dC, dI) vwCl [(d1, .int), (d2, .int), (d3, .int), (d4, .int), (d8, .int), (d9, .int), (d10, .int), (d11, .int), (cA2, .int)] s := hK
  have hP : va_P (dC, dI) vwCl [(hm, .inr (3, [.int th, .int 6, .ref wi, .ref co, .ref sl, .ref rn, .ref so, .ref bn, .ref sm, .ref ah])), (sm, .inr (2, [.int 0, .ref gr, .ref gt, .ref gw, .ref gk, .ref gi, .ref gp, .ref go, .ref gg, .ref hm])), (wi, .inl (d1, 6, .inl fw)), (co, .inl (d2, 6, .inl fc)), (sl, .inl (d3, 6, .inl fs)), (gr, .inl (d4, 6, .inl fg)), (gt, .inl (d8, 6, .inl (fun _ => 0))), (gw, .inl (d9, 6, .inl (fun _ => 0))), (gk, .inl (d10, 360, .inl fk)), (gi, .inl (d11, 360, .inl (fun _ => 0))), (q1, .inl (cA2, 9, .inl (fun _ => 0)))] H := hP
  have hD : va_D A [(hm, .inr (3, [.int th, .int 6, .ref wi, .ref co, .ref sl, .ref rn, .ref so, .ref bn, .ref sm, .ref ah])), (sm, .inr (2, [.int 0, .ref gr, .ref gt, .ref gw, .ref gk, .ref gi, .ref gp, .ref go, .ref gg, .ref hm])), (wi, .inl (d1, 6, .inl fw)), (co, .inl (d2, 6, .inl fc)), (sl, .inl (d3, 6, .inl fs)), (gr, .inl (d4, 6, .inl fg)), (gt, .inl (d8, 6, .inl (fun _ => 0))), (gw, .inl (d9, 6, .inl (fun _ => 0))), (gk, .inl (d10, 360, .inl fk)), (gi, .inl (d11, 360, .inl (fun _ => 0))), (q1, .inl (cA2, 9, .inl (fun _ => 0)))] := hD
  refine lv_dup hx hb dX3_roofTold_4 rfl ?_
  refine lv_iconst (v := 0) hx hb dX3_roofTold_5 (by decide) ?_
  refine lv_aload_n hx hb dX3_roofTold_6 rfl (lv_at hl 0 rfl) ?_
  refine va_get (D := (dC, dI)) (ci := 3) (v := .ref wi) (C := RX3) (T := TX3) (N := 10) hx hb hts (by decide +kernel) hown hK hP 0 rfl rfl 2 (by decide) (hts (.fieldLink RX3 9 "ThatchRoofModel" "width" "[I") (by decide +kernel)) (fun _ h9 => h9) rfl dX3_roofTold_7 ?_
  refine lv_iload_n hx hb dX3_roofTold_10 rfl (lv_at hl 1 rfl) ?_
  refine va_iald hx hb hK hP 2 0 rfl rfl (vp_in_nI (by omega) (by omega)) dX3_roofTold_11 ?_
  refine lv_topi (fun x3 ex3 => ?_)
  rw [nI_clamp (show ru < 2 ^ 31 by omega)] at ex3
  obtain rfl : x3 = 10 := ex3.trans (hw _ (by omega))
  refine va_iast hx hb hK hP hD hS 10 8 rfl rfl (vp_in_nI (n := 0) (by decide) (by decide)) dX3_roofTold_12 (fun H locs hP hD hS => ?_)
  have hP : va_P (dC, dI) vwCl [(hm, .inr (3, [.int th, .int 6, .ref wi, .ref co, .ref sl, .ref rn, .ref so, .ref bn, .ref sm, .ref ah])), (sm, .inr (2, [.int 0, .ref gr, .ref gt, .ref gw, .ref gk, .ref gi, .ref gp, .ref go, .ref gg, .ref hm])), (wi, .inl (d1, 6, .inl fw)), (co, .inl (d2, 6, .inl fc)), (sl, .inl (d3, 6, .inl fs)), (gr, .inl (d4, 6, .inl fg)), (gt, .inl (d8, 6, .inl (fun _ => 0))), (gw, .inl (d9, 6, .inl (fun _ => 0))), (gk, .inl (d10, 360, .inl fk)), (gi, .inl (d11, 360, .inl (fun _ => 0))), (q1, .inl (cA2, 9, .inl (upd (fun _ => 0) 0 10)))] H := hP
  have hD : va_D A [(hm, .inr (3, [.int th, .int 6, .ref wi, .ref co, .ref sl, .ref rn, .ref so, .ref bn, .ref sm, .ref ah])), (sm, .inr (2, [.int 0, .ref gr, .ref gt, .ref gw, .ref gk, .ref gi, .ref gp, .ref go, .ref gg, .ref hm])), (wi, .inl (d1, 6, .inl fw)), (co, .inl (d2, 6, .inl fc)), (sl, .inl (d3, 6, .inl fs)), (gr, .inl (d4, 6, .inl fg)), (gt, .inl (d8, 6, .inl (fun _ => 0))), (gw, .inl (d9, 6, .inl (fun _ => 0))), (gk, .inl (d10, 360, .inl fk)), (gi, .inl (d11, 360, .inl (fun _ => 0))), (q1, .inl (cA2, 9, .inl (upd (fun _ => 0) 0 10)))] := hD
  refine lv_dup hx hb dX3_roofTold_13 rfl ?_
  refine lv_iconst (v := 1) hx hb dX3_roofTold_14 (by decide) ?_
  refine lv_aload_n hx hb dX3_roofTold_15 rfl (lv_at hl 0 rfl) ?_
  refine va_get (D := (dC, dI)) (ci := 3) (v := .ref co) (C := RX3) (T := TX3) (N := 10) hx hb hts (by decide +kernel) hown hK hP 0 rfl rfl 3 (by decide) (hts (.fieldLink RX3 13 "ThatchRoofModel" "courses" "[I") (by decide +kernel)) (fun _ h9 => h9) rfl dX3_roofTold_16 ?_
  refine lv_iload_n hx hb dX3_roofTold_19 rfl (lv_at hl 1 rfl) ?_
  refine va_iald hx hb hK hP 3 1 rfl rfl (vp_in_nI (by omega) (by omega)) dX3_roofTold_20 ?_
  refine lv_topi (fun x4 ex4 => ?_)
  rw [nI_clamp (show ru < 2 ^ 31 by omega)] at ex4
  obtain rfl : x4 = 6 := ex4.trans (hc _ (by omega))
  refine va_iast hx hb hK hP hD hS 10 8 rfl rfl (vp_in_nI (n := 1) (by decide) (by decide)) dX3_roofTold_21 (fun H locs hP hD hS => ?_)
  have hP : va_P (dC, dI) vwCl [(hm, .inr (3, [.int th, .int 6, .ref wi, .ref co, .ref sl, .ref rn, .ref so, .ref bn, .ref sm, .ref ah])), (sm, .inr (2, [.int 0, .ref gr, .ref gt, .ref gw, .ref gk, .ref gi, .ref gp, .ref go, .ref gg, .ref hm])), (wi, .inl (d1, 6, .inl fw)), (co, .inl (d2, 6, .inl fc)), (sl, .inl (d3, 6, .inl fs)), (gr, .inl (d4, 6, .inl fg)), (gt, .inl (d8, 6, .inl (fun _ => 0))), (gw, .inl (d9, 6, .inl (fun _ => 0))), (gk, .inl (d10, 360, .inl fk)), (gi, .inl (d11, 360, .inl (fun _ => 0))), (q1, .inl (cA2, 9, .inl (upd (upd (fun _ => 0) 0 10) 1 6)))] H := hP
  have hD : va_D A [(hm, .inr (3, [.int th, .int 6, .ref wi, .ref co, .ref sl, .ref rn, .ref so, .ref bn, .ref sm, .ref ah])), (sm, .inr (2, [.int 0, .ref gr, .ref gt, .ref gw, .ref gk, .ref gi, .ref gp, .ref go, .ref gg, .ref hm])), (wi, .inl (d1, 6, .inl fw)), (co, .inl (d2, 6, .inl fc)), (sl, .inl (d3, 6, .inl fs)), (gr, .inl (d4, 6, .inl fg)), (gt, .inl (d8, 6, .inl (fun _ => 0))), (gw, .inl (d9, 6, .inl (fun _ => 0))), (gk, .inl (d10, 360, .inl fk)), (gi, .inl (d11, 360, .inl (fun _ => 0))), (q1, .inl (cA2, 9, .inl (upd (upd (fun _ => 0) 0 10) 1 6)))] := hD
  refine lv_dup hx hb dX3_roofTold_22 rfl ?_
  refine lv_iconst (v := 2) hx hb dX3_roofTold_23 (by decide) ?_
  refine lv_aload_n hx hb dX3_roofTold_24 rfl (lv_at hl 0 rfl) ?_
  refine va_get (D := (dC, dI)) (ci := 3) (v := .ref sl) (C := RX3) (T := TX3) (N := 10) hx hb hts (by decide +kernel) hown hK hP 0 rfl rfl 4 (by decide) (hts (.fieldLink RX3 16 "ThatchRoofModel" "slope" "[I") (by decide +kernel)) (fun _ h9 => h9) rfl dX3_roofTold_25 ?_
  refine lv_iload_n hx hb dX3_roofTold_28 rfl (lv_at hl 1 rfl) ?_
  refine va_iald hx hb hK hP 4 2 rfl rfl (vp_in_nI (by omega) (by omega)) dX3_roofTold_29 ?_
  refine lv_topi (fun x5 ex5 => ?_)
  rw [nI_clamp (show ru < 2 ^ 31 by omega)] at ex5
  obtain rfl : x5 = 30 := ex5.trans (hs _ (by omega))
  refine va_iast hx hb hK hP hD hS 10 8 rfl rfl (vp_in_nI (n := 2) (by decide) (by decide)) dX3_roofTold_30 (fun H locs hP hD hS => ?_)
  have hP : va_P (dC, dI) vwCl [(hm, .inr (3, [.int th, .int 6, .ref wi, .ref co, .ref sl, .ref rn, .ref so, .ref bn, .ref sm, .ref ah])), (sm, .inr (2, [.int 0, .ref gr, .ref gt, .ref gw, .ref gk, .ref gi, .ref gp, .ref go, .ref gg, .ref hm])), (wi, .inl (d1, 6, .inl fw)), (co, .inl (d2, 6, .inl fc)), (sl, .inl (d3, 6, .inl fs)), (gr, .inl (d4, 6, .inl fg)), (gt, .inl (d8, 6, .inl (fun _ => 0))), (gw, .inl (d9, 6, .inl (fun _ => 0))), (gk, .inl (d10, 360, .inl fk)), (gi, .inl (d11, 360, .inl (fun _ => 0))), (q1, .inl (cA2, 9, .inl (upd (upd (upd (fun _ => 0) 0 10) 1 6) 2 30)))] H := hP
  have hD : va_D A [(hm, .inr (3, [.int th, .int 6, .ref wi, .ref co, .ref sl, .ref rn, .ref so, .ref bn, .ref sm, .ref ah])), (sm, .inr (2, [.int 0, .ref gr, .ref gt, .ref gw, .ref gk, .ref gi, .ref gp, .ref go, .ref gg, .ref hm])), (wi, .inl (d1, 6, .inl fw)), (co, .inl (d2, 6, .inl fc)), (sl, .inl (d3, 6, .inl fs)), (gr, .inl (d4, 6, .inl fg)), (gt, .inl (d8, 6, .inl (fun _ => 0))), (gw, .inl (d9, 6, .inl (fun _ => 0))), (gk, .inl (d10, 360, .inl fk)), (gi, .inl (d11, 360, .inl (fun _ => 0))), (q1, .inl (cA2, 9, .inl (upd (upd (upd (fun _ => 0) 0 10) 1 6) 2 30)))] := hD
  refine lv_dup hx hb dX3_roofTold_31 rfl ?_
  refine lv_iconst (v := 3) hx hb dX3_roofTold_32 (by decide) ?_
  refine lv_aload_n hx hb dX3_roofTold_33 rfl (lv_at hl 0 rfl) ?_
  refine va_get (D := (dC, dI)) (ci := 3) (v := .ref sm) (C := RX3) (T := TX3) (N := 10) hx hb hts (by decide +kernel) hown hK hP 0 rfl rfl 8 (by decide) (hts (.fieldLink RX3 33 "ThatchRoofModel" "s" "LThatchRoofModel$State;") (by decide +kernel)) (fun _ h9 => h9) rfl dX3_roofTold_34 ?_
  refine va_getN (D := (dC, dI)) (ci := 2) (v := .ref gr) (C := RX2) (T := TX2) (N := 10) hx hb hts (by decide +kernel) hown hK hP 1 rfl rfl 1 (by decide) (va_Nw.use rfl (zN_RX3_63 hZN)) (fun _ h9 => h9) rfl dX3_roofTold_37 ?_
  refine lv_iload_n hx hb dX3_roofTold_40 rfl (lv_at hl 1 rfl) ?_
  refine va_iald hx hb hK hP 5 3 rfl rfl (vp_in_nI (by omega) (by omega)) dX3_roofTold_41 ?_
  refine lv_topi (fun x6 ex6 => ?_)
  rw [nI_clamp (show ru < 2 ^ 31 by omega)] at ex6
  obtain rfl : x6 = 100 := ex6.trans (hg _ (by omega))
  refine va_iast hx hb hK hP hD hS 10 8 rfl rfl (vp_in_nI (n := 3) (by decide) (by decide)) dX3_roofTold_42 (fun H locs hP hD hS => ?_)
  have hP : va_P (dC, dI) vwCl [(hm, .inr (3, [.int th, .int 6, .ref wi, .ref co, .ref sl, .ref rn, .ref so, .ref bn, .ref sm, .ref ah])), (sm, .inr (2, [.int 0, .ref gr, .ref gt, .ref gw, .ref gk, .ref gi, .ref gp, .ref go, .ref gg, .ref hm])), (wi, .inl (d1, 6, .inl fw)), (co, .inl (d2, 6, .inl fc)), (sl, .inl (d3, 6, .inl fs)), (gr, .inl (d4, 6, .inl fg)), (gt, .inl (d8, 6, .inl (fun _ => 0))), (gw, .inl (d9, 6, .inl (fun _ => 0))), (gk, .inl (d10, 360, .inl fk)), (gi, .inl (d11, 360, .inl (fun _ => 0))), (q1, .inl (cA2, 9, .inl (upd (upd (upd (upd (fun _ => 0) 0 10) 1 6) 2 30) 3 100)))] H := hP
  have hD : va_D A [(hm, .inr (3, [.int th, .int 6, .ref wi, .ref co, .ref sl, .ref rn, .ref so, .ref bn, .ref sm, .ref ah])), (sm, .inr (2, [.int 0, .ref gr, .ref gt, .ref gw, .ref gk, .ref gi, .ref gp, .ref go, .ref gg, .ref hm])), (wi, .inl (d1, 6, .inl fw)), (co, .inl (d2, 6, .inl fc)), (sl, .inl (d3, 6, .inl fs)), (gr, .inl (d4, 6, .inl fg)), (gt, .inl (d8, 6, .inl (fun _ => 0))), (gw, .inl (d9, 6, .inl (fun _ => 0))), (gk, .inl (d10, 360, .inl fk)), (gi, .inl (d11, 360, .inl (fun _ => 0))), (q1, .inl (cA2, 9, .inl (upd (upd (upd (upd (fun _ => 0) 0 10) 1 6) 2 30) 3 100)))] := hD
  refine lv_dup hx hb dX3_roofTold_43 rfl ?_
  refine lv_iconst (v := 4) hx hb dX3_roofTold_44 (by decide) ?_
  refine lv_aload_n hx hb dX3_roofTold_45 rfl (lv_at hl 0 rfl) ?_
  refine va_get (D := (dC, dI)) (ci := 3) (v := .ref sm) (C := RX3) (T := TX3) (N := 10) hx hb hts (by decide +kernel) hown hK hP 0 rfl rfl 8 (by decide) (hts (.fieldLink RX3 33 "ThatchRoofModel" "s" "LThatchRoofModel$State;") (by decide +kernel)) (fun _ h9 => h9) rfl dX3_roofTold_46 ?_
  refine lv_iload_n hx hb dX3_roofTold_49 rfl (lv_at hl 1 rfl) ?_
  have hPc := hP.sub (ws' := [(sm, .inr (2, [.int 0, .ref gr, .ref gt, .ref gw, .ref gk, .ref gi, .ref gp, .ref go, .ref gg, .ref hm])), (gk, .inl (d10, 360, .inl fk))]) [1, 8] rfl
  have hKc := hK.sub (tys' := [(d10, .int)]) [6] rfl
  refine vp_callSi (va_runV (As := [.int (nI ru)]) (rest := [.int 4, .ref q1, .ref q1]) ⟨hx, hb, hml, hown, hts⟩ (r2_yealms l dC dI sm hm gr gt gw gk gi gp go gg d10 fk ru (by first | assumption | decide | omega) (by first | assumption | decide | omega)) (cwV 1 hts gX3_roofTold_X2_yealms rfl rfl rfl (by decide +kernel) ⟨Nat.le_of_ble_eq_true rfl, Nat.le_of_ble_eq_true rfl⟩) ⟨fun a U g mk q => by obtain ⟨q0, qP, qK⟩ := q; exact ⟨q0, qP, va_K.moved (u := U) (U := U.calling g mk a) (Vm.Alike.refl U.vm) qK⟩, va_recv hKc hPc (ci := 2) (q0 := 0) rfl rfl, fun U hU hW => ⟨rfl, by rw [hU]; exact hPc, va_K.moved hW.alike hKc⟩⟩ rfl rfl hl.1 rfl (lv_room (Nat.le_of_ble_eq_true rfl)) dX3_roofTold_50 ⟨Nat.le_of_ble_eq_true rfl, Nat.le_of_ble_eq_true rfl⟩).run (fun r7 hr7 => ?_)
  obtain rfl := hr7
  refine va_iast hx hb hK hP hD hS 10 8 rfl rfl (vp_in_nI (n := 4) (by decide) (by decide)) dX3_roofTold_53 (fun H locs hP hD hS => ?_)
  have hP : va_P (dC, dI) vwCl [(hm, .inr (3, [.int th, .int 6, .ref wi, .ref co, .ref sl, .ref rn, .ref so, .ref bn, .ref sm, .ref ah])), (sm, .inr (2, [.int 0, .ref gr, .ref gt, .ref gw, .ref gk, .ref gi, .ref gp, .ref go, .ref gg, .ref hm])), (wi, .inl (d1, 6, .inl fw)), (co, .inl (d2, 6, .inl fc)), (sl, .inl (d3, 6, .inl fs)), (gr, .inl (d4, 6, .inl fg)), (gt, .inl (d8, 6, .inl (fun _ => 0))), (gw, .inl (d9, 6, .inl (fun _ => 0))), (gk, .inl (d10, 360, .inl fk)), (gi, .inl (d11, 360, .inl (fun _ => 0))), (q1, .inl (cA2, 9, .inl (upd (upd (upd (upd (upd (fun _ => 0) 0 10) 1 6) 2 30) 3 100) 4 0)))] H := hP
  have hD : va_D A [(hm, .inr (3, [.int th, .int 6, .ref wi, .ref co, .ref sl, .ref rn, .ref so, .ref bn, .ref sm, .ref ah])), (sm, .inr (2, [.int 0, .ref gr, .ref gt, .ref gw, .ref gk, .ref gi, .ref gp, .ref go, .ref gg, .ref hm])), (wi, .inl (d1, 6, .inl fw)), (co, .inl (d2, 6, .inl fc)), (sl, .inl (d3, 6, .inl fs)), (gr, .inl (d4, 6, .inl fg)), (gt, .inl (d8, 6, .inl (fun _ => 0))), (gw, .inl (d9, 6, .inl (fun _ => 0))), (gk, .inl (d10, 360, .inl fk)), (gi, .inl (d11, 360, .inl (fun _ => 0))), (q1, .inl (cA2, 9, .inl (upd (upd (upd (upd (upd (fun _ => 0) 0 10) 1 6) 2 30) 3 100) 4 0)))] := hD
  refine lv_dup hx hb dX3_roofTold_54 rfl ?_
  refine lv_iconst (v := 5) hx hb dX3_roofTold_55 (by decide) ?_
  refine lv_aload_n hx hb dX3_roofTold_56 rfl (lv_at hl 0 rfl) ?_
  refine va_get (D := (dC, dI)) (ci := 3) (v := .ref sm) (C := RX3) (T := TX3) (N := 10) hx hb hts (by decide +kernel) hown hK hP 0 rfl rfl 8 (by decide) (hts (.fieldLink RX3 33 "ThatchRoofModel" "s" "LThatchRoofModel$State;") (by decide +kernel)) (fun _ h9 => h9) rfl dX3_roofTold_57 ?_
  refine lv_iload_n hx hb dX3_roofTold_60 rfl (lv_at hl 1 rfl) ?_
  have hPc := hP.sub (ws' := [(sm, .inr (2, [.int 0, .ref gr, .ref gt, .ref gw, .ref gk, .ref gi, .ref gp, .ref go, .ref gg, .ref hm])), (gi, .inl (d11, 360, .inl (fun _ => 0)))]) [1, 9] rfl
  have hKc := hK.sub (tys' := [(d11, .int)]) [7] rfl
  refine vp_callSi (va_runV (As := [.int (nI ru)]) (rest := [.int 5, .ref q1, .ref q1]) ⟨hx, hb, hml, hown, hts⟩ (r2_thickness l dC dI sm hm gr gt gw gk gi gp go gg d11 ru (by first | assumption | decide | omega)) (cwV 1 hts gX3_roofTold_X2_thickness rfl rfl rfl (by decide +kernel) ⟨Nat.le_of_ble_eq_true rfl, Nat.le_of_ble_eq_true rfl⟩) ⟨fun a U g mk q => by obtain ⟨q0, qP, qK⟩ := q; exact ⟨q0, qP, va_K.moved (u := U) (U := U.calling g mk a) (Vm.Alike.refl U.vm) qK⟩, va_recv hKc hPc (ci := 2) (q0 := 0) rfl rfl, fun U hU hW => ⟨rfl, by rw [hU]; exact hPc, va_K.moved hW.alike hKc⟩⟩ rfl rfl hl.1 rfl (lv_room (Nat.le_of_ble_eq_true rfl)) dX3_roofTold_61 ⟨Nat.le_of_ble_eq_true rfl, Nat.le_of_ble_eq_true rfl⟩).run (fun r8 hr8 => ?_)
  obtain rfl := hr8
  refine va_iast hx hb hK hP hD hS 10 8 rfl rfl (vp_in_nI (n := 5) (by decide) (by decide)) dX3_roofTold_64 (fun H locs hP hD hS => ?_)
  have hP : va_P (dC, dI) vwCl [(hm, .inr (3, [.int th, .int 6, .ref wi, .ref co, .ref sl, .ref rn, .ref so, .ref bn, .ref sm, .ref ah])), (sm, .inr (2, [.int 0, .ref gr, .ref gt, .ref gw, .ref gk, .ref gi, .ref gp, .ref go, .ref gg, .ref hm])), (wi, .inl (d1, 6, .inl fw)), (co, .inl (d2, 6, .inl fc)), (sl, .inl (d3, 6, .inl fs)), (gr, .inl (d4, 6, .inl fg)), (gt, .inl (d8, 6, .inl (fun _ => 0))), (gw, .inl (d9, 6, .inl (fun _ => 0))), (gk, .inl (d10, 360, .inl fk)), (gi, .inl (d11, 360, .inl (fun _ => 0))), (q1, .inl (cA2, 9, .inl (upd (upd (upd (upd (upd (upd (fun _ => 0) 0 10) 1 6) 2 30) 3 100) 4 0) 5 0)))] H := hP
  have hD : va_D A [(hm, .inr (3, [.int th, .int 6, .ref wi, .ref co, .ref sl, .ref rn, .ref so, .ref bn, .ref sm, .ref ah])), (sm, .inr (2, [.int 0, .ref gr, .ref gt, .ref gw, .ref gk, .ref gi, .ref gp, .ref go, .ref gg, .ref hm])), (wi, .inl (d1, 6, .inl fw)), (co, .inl (d2, 6, .inl fc)), (sl, .inl (d3, 6, .inl fs)), (gr, .inl (d4, 6, .inl fg)), (gt, .inl (d8, 6, .inl (fun _ => 0))), (gw, .inl (d9, 6, .inl (fun _ => 0))), (gk, .inl (d10, 360, .inl fk)), (gi, .inl (d11, 360, .inl (fun _ => 0))), (q1, .inl (cA2, 9, .inl (upd (upd (upd (upd (upd (upd (fun _ => 0) 0 10) 1 6) 2 30) 3 100) 4 0) 5 0)))] := hD
  refine lv_dup hx hb dX3_roofTold_65 rfl ?_
  refine lv_bipush (v := 6) hx hb dX3_roofTold_66 (by decide) ?_
  refine lv_aload_n hx hb dX3_roofTold_68 rfl (lv_at hl 0 rfl) ?_
  refine va_get (D := (dC, dI)) (ci := 3) (v := .ref sm) (C := RX3) (T := TX3) (N := 10) hx hb hts (by decide +kernel) hown hK hP 0 rfl rfl 8 (by decide) (hts (.fieldLink RX3 33 "ThatchRoofModel" "s" "LThatchRoofModel$State;") (by decide +kernel)) (fun _ h9 => h9) rfl dX3_roofTold_69 ?_
  refine lv_iload_n hx hb dX3_roofTold_72 rfl (lv_at hl 1 rfl) ?_
  have hPc := hP.sub (ws' := [(sm, .inr (2, [.int 0, .ref gr, .ref gt, .ref gw, .ref gk, .ref gi, .ref gp, .ref go, .ref gg, .ref hm])), (hm, .inr (3, [.int th, .int 6, .ref wi, .ref co, .ref sl, .ref rn, .ref so, .ref bn, .ref sm, .ref ah])), (wi, .inl (d1, 6, .inl fw)), (co, .inl (d2, 6, .inl fc)), (gk, .inl (d10, 360, .inl fk)), (gi, .inl (d11, 360, .inl (fun _ => 0)))]) [1, 0, 2, 3, 8, 9] rfl
  have hKc := hK.sub (tys' := [(d1, .int), (d2, .int), (d10, .int), (d11, .int)]) [0, 1, 6, 7] rfl
  refine vp_callSi (va_runV (As := [.int (nI ru)]) (rest := [.int 6, .ref q1, .ref q1]) ⟨hx, hb, hml, hown, hts⟩ (r2_leaks l dC dI hm wi co sl rn so bn sm ah th gr gt gw gk gi gp go gg d1 d2 d10 d11 fw fc fk ru (by first | assumption | decide | omega) (by first | assumption | decide | omega) (by first | assumption | decide | omega) (by first | assumption | decide | omega)) (cwV 1 hts gX3_roofTold_X2_leaks rfl rfl rfl (by decide +kernel) ⟨Nat.le_of_ble_eq_true rfl, Nat.le_of_ble_eq_true rfl⟩) ⟨fun a U g mk q => by obtain ⟨q0, qP, qK, qN⟩ := q; exact ⟨q0, qP, va_K.moved (u := U) (U := U.calling g mk a) (Vm.Alike.refl U.vm) qK, zNs.calling qN⟩, va_recv hKc hPc (ci := 2) (q0 := 0) rfl rfl, fun U hU hW => ⟨rfl, by rw [hU]; exact hPc, va_K.moved hW.alike hKc, zNs.warm hW hZN⟩⟩ rfl rfl hl.1 rfl (lv_room (Nat.le_of_ble_eq_true rfl)) dX3_roofTold_73 ⟨Nat.le_of_ble_eq_true rfl, Nat.le_of_ble_eq_true rfl⟩).run (fun r9 hr9 => ?_)
  obtain rfl := hr9
  refine va_iast hx hb hK hP hD hS 10 8 rfl rfl (vp_in_nI (n := 6) (by decide) (by decide)) dX3_roofTold_76 (fun H locs hP hD hS => ?_)
  have hP : va_P (dC, dI) vwCl [(hm, .inr (3, [.int th, .int 6, .ref wi, .ref co, .ref sl, .ref rn, .ref so, .ref bn, .ref sm, .ref ah])), (sm, .inr (2, [.int 0, .ref gr, .ref gt, .ref gw, .ref gk, .ref gi, .ref gp, .ref go, .ref gg, .ref hm])), (wi, .inl (d1, 6, .inl fw)), (co, .inl (d2, 6, .inl fc)), (sl, .inl (d3, 6, .inl fs)), (gr, .inl (d4, 6, .inl fg)), (gt, .inl (d8, 6, .inl (fun _ => 0))), (gw, .inl (d9, 6, .inl (fun _ => 0))), (gk, .inl (d10, 360, .inl fk)), (gi, .inl (d11, 360, .inl (fun _ => 0))), (q1, .inl (cA2, 9, .inl (upd (upd (upd (upd (upd (upd (upd (fun _ => 0) 0 10) 1 6) 2 30) 3 100) 4 0) 5 0) 6 10)))] H := hP
  have hD : va_D A [(hm, .inr (3, [.int th, .int 6, .ref wi, .ref co, .ref sl, .ref rn, .ref so, .ref bn, .ref sm, .ref ah])), (sm, .inr (2, [.int 0, .ref gr, .ref gt, .ref gw, .ref gk, .ref gi, .ref gp, .ref go, .ref gg, .ref hm])), (wi, .inl (d1, 6, .inl fw)), (co, .inl (d2, 6, .inl fc)), (sl, .inl (d3, 6, .inl fs)), (gr, .inl (d4, 6, .inl fg)), (gt, .inl (d8, 6, .inl (fun _ => 0))), (gw, .inl (d9, 6, .inl (fun _ => 0))), (gk, .inl (d10, 360, .inl fk)), (gi, .inl (d11, 360, .inl (fun _ => 0))), (q1, .inl (cA2, 9, .inl (upd (upd (upd (upd (upd (upd (upd (fun _ => 0) 0 10) 1 6) 2 30) 3 100) 4 0) 5 0) 6 10)))] := hD
  refine lv_dup hx hb dX3_roofTold_77 rfl ?_
  refine lv_bipush (v := 7) hx hb dX3_roofTold_78 (by decide) ?_
  refine lv_aload_n hx hb dX3_roofTold_80 rfl (lv_at hl 0 rfl) ?_
  refine va_get (D := (dC, dI)) (ci := 3) (v := .ref sm) (C := RX3) (T := TX3) (N := 10) hx hb hts (by decide +kernel) hown hK hP 0 rfl rfl 8 (by decide) (hts (.fieldLink RX3 33 "ThatchRoofModel" "s" "LThatchRoofModel$State;") (by decide +kernel)) (fun _ h9 => h9) rfl dX3_roofTold_81 ?_
  refine va_getN (D := (dC, dI)) (ci := 2) (v := .ref gt) (C := RX2) (T := TX2) (N := 10) hx hb hts (by decide +kernel) hown hK hP 1 rfl rfl 2 (by decide) (va_Nw.use rfl (zN_RX3_118 hZN)) (fun _ h9 => h9) rfl dX3_roofTold_84 ?_
  refine lv_iload_n hx hb dX3_roofTold_87 rfl (lv_at hl 1 rfl) ?_
  refine va_iald hx hb hK hP 6 4 rfl rfl (vp_in_nI (by omega) (by omega)) dX3_roofTold_88 ?_
  refine lv_topi (fun x10 ex10 => ?_)
  obtain rfl : x10 = 0 := ex10
  refine va_iast hx hb hK hP hD hS 10 8 rfl rfl (vp_in_nI (n := 7) (by decide) (by decide)) dX3_roofTold_89 (fun H locs hP hD hS => ?_)
  have hP : va_P (dC, dI) vwCl [(hm, .inr (3, [.int th, .int 6, .ref wi, .ref co, .ref sl, .ref rn, .ref so, .ref bn, .ref sm, .ref ah])), (sm, .inr (2, [.int 0, .ref gr, .ref gt, .ref gw, .ref gk, .ref gi, .ref gp, .ref go, .ref gg, .ref hm])), (wi, .inl (d1, 6, .inl fw)), (co, .inl (d2, 6, .inl fc)), (sl, .inl (d3, 6, .inl fs)), (gr, .inl (d4, 6, .inl fg)), (gt, .inl (d8, 6, .inl (fun _ => 0))), (gw, .inl (d9, 6, .inl (fun _ => 0))), (gk, .inl (d10, 360, .inl fk)), (gi, .inl (d11, 360, .inl (fun _ => 0))), (q1, .inl (cA2, 9, .inl (upd (upd (upd (upd (upd (upd (upd (upd (fun _ => 0) 0 10) 1 6) 2 30) 3 100) 4 0) 5 0) 6 10) 7 0)))] H := hP
  have hD : va_D A [(hm, .inr (3, [.int th, .int 6, .ref wi, .ref co, .ref sl, .ref rn, .ref so, .ref bn, .ref sm, .ref ah])), (sm, .inr (2, [.int 0, .ref gr, .ref gt, .ref gw, .ref gk, .ref gi, .ref gp, .ref go, .ref gg, .ref hm])), (wi, .inl (d1, 6, .inl fw)), (co, .inl (d2, 6, .inl fc)), (sl, .inl (d3, 6, .inl fs)), (gr, .inl (d4, 6, .inl fg)), (gt, .inl (d8, 6, .inl (fun _ => 0))), (gw, .inl (d9, 6, .inl (fun _ => 0))), (gk, .inl (d10, 360, .inl fk)), (gi, .inl (d11, 360, .inl (fun _ => 0))), (q1, .inl (cA2, 9, .inl (upd (upd (upd (upd (upd (upd (upd (upd (fun _ => 0) 0 10) 1 6) 2 30) 3 100) 4 0) 5 0) 6 10) 7 0)))] := hD
  refine lv_dup hx hb dX3_roofTold_90 rfl ?_
  refine lv_bipush (v := 8) hx hb dX3_roofTold_91 (by decide) ?_
  refine lv_aload_n hx hb dX3_roofTold_93 rfl (lv_at hl 0 rfl) ?_
  refine va_get (D := (dC, dI)) (ci := 3) (v := .ref sm) (C := RX3) (T := TX3) (N := 10) hx hb hts (by decide +kernel) hown hK hP 0 rfl rfl 8 (by decide) (hts (.fieldLink RX3 33 "ThatchRoofModel" "s" "LThatchRoofModel$State;") (by decide +kernel)) (fun _ h9 => h9) rfl dX3_roofTold_94 ?_
  refine va_getN (D := (dC, dI)) (ci := 2) (v := .ref gw) (C := RX2) (T := TX2) (N := 10) hx hb hts (by decide +kernel) hown hK hP 1 rfl rfl 3 (by decide) (va_Nw.use rfl (zN_RX3_121 hZN)) (fun _ h9 => h9) rfl dX3_roofTold_97 ?_
  refine lv_iload_n hx hb dX3_roofTold_100 rfl (lv_at hl 1 rfl) ?_
  refine va_iald hx hb hK hP 7 5 rfl rfl (vp_in_nI (by omega) (by omega)) dX3_roofTold_101 ?_
  refine lv_topi (fun x11 ex11 => ?_)
  obtain rfl : x11 = 0 := ex11
  refine va_iast hx hb hK hP hD hS 10 8 rfl rfl (vp_in_nI (n := 8) (by decide) (by decide)) dX3_roofTold_102 (fun H locs hP hD hS => ?_)
  have hP : va_P (dC, dI) vwCl [(hm, .inr (3, [.int th, .int 6, .ref wi, .ref co, .ref sl, .ref rn, .ref so, .ref bn, .ref sm, .ref ah])), (sm, .inr (2, [.int 0, .ref gr, .ref gt, .ref gw, .ref gk, .ref gi, .ref gp, .ref go, .ref gg, .ref hm])), (wi, .inl (d1, 6, .inl fw)), (co, .inl (d2, 6, .inl fc)), (sl, .inl (d3, 6, .inl fs)), (gr, .inl (d4, 6, .inl fg)), (gt, .inl (d8, 6, .inl (fun _ => 0))), (gw, .inl (d9, 6, .inl (fun _ => 0))), (gk, .inl (d10, 360, .inl fk)), (gi, .inl (d11, 360, .inl (fun _ => 0))), (q1, .inl (cA2, 9, .inl (upd (upd (upd (upd (upd (upd (upd (upd (upd (fun _ => 0) 0 10) 1 6) 2 30) 3 100) 4 0) 5 0) 6 10) 7 0) 8 0)))] H := hP
  have hD : va_D A [(hm, .inr (3, [.int th, .int 6, .ref wi, .ref co, .ref sl, .ref rn, .ref so, .ref bn, .ref sm, .ref ah])), (sm, .inr (2, [.int 0, .ref gr, .ref gt, .ref gw, .ref gk, .ref gi, .ref gp, .ref go, .ref gg, .ref hm])), (wi, .inl (d1, 6, .inl fw)), (co, .inl (d2, 6, .inl fc)), (sl, .inl (d3, 6, .inl fs)), (gr, .inl (d4, 6, .inl fg)), (gt, .inl (d8, 6, .inl (fun _ => 0))), (gw, .inl (d9, 6, .inl (fun _ => 0))), (gk, .inl (d10, 360, .inl fk)), (gi, .inl (d11, 360, .inl (fun _ => 0))), (q1, .inl (cA2, 9, .inl (upd (upd (upd (upd (upd (upd (upd (upd (upd (fun _ => 0) 0 10) 1 6) 2 30) 3 100) 4 0) 5 0) 6 10) 7 0) 8 0)))] := hD
  refine lv_astore_n (lv' := [(3, .ref q1), (0, .ref hm), (1, .int (nI ru)), (2, .int 1)]) hx hb dX3_roofTold_103 rfl hl (by decide) rfl (fun ls hl => ?_)
  refine lv_aload_n hx hb dX3_roofTold_104 rfl (lv_at hl 0 rfl) ?_
  refine lv_iload_n hx hb dX3_roofTold_105 rfl (lv_at hl 3 rfl) ?_
  refine va_iald hx hb hK hP 10 8 rfl rfl (vp_in_nI (n := 1) (by decide) (by decide)) dX3_roofTold_106 ?_
  refine lv_topi (fun x12 ex12 => ?_)
  obtain rfl : x12 = 6 := ex12
  have hP9 := hP.sub (ws' := [(hm, .inr (3, [.int th, .int 6, .ref wi, .ref co, .ref sl, .ref rn, .ref so, .ref bn, .ref sm, .ref ah])), (sm, .inr (2, [.int 0, .ref gr, .ref gt, .ref gw, .ref gk, .ref gi, .ref gp, .ref go, .ref gg, .ref hm])), (wi, .inl (d1, 6, .inl fw)), (co, .inl (d2, 6, .inl fc)), (sl, .inl (d3, 6, .inl fs)), (gr, .inl (d4, 6, .inl fg)), (gt, .inl (d8, 6, .inl (fun _ => 0))), (gw, .inl (d9, 6, .inl (fun _ => 0))), (gk, .inl (d10, 360, .inl fk)), (gi, .inl (d11, 360, .inl (fun _ => 0)))]) [0, 1, 2, 3, 4, 5, 6, 7, 8, 9] rfl
  have hD9 := hD.sub (ws' := [(hm, .inr (3, [.int th, .int 6, .ref wi, .ref co, .ref sl, .ref rn, .ref so, .ref bn, .ref sm, .ref ah])), (sm, .inr (2, [.int 0, .ref gr, .ref gt, .ref gw, .ref gk, .ref gi, .ref gp, .ref go, .ref gg, .ref hm])), (wi, .inl (d1, 6, .inl fw)), (co, .inl (d2, 6, .inl fc)), (sl, .inl (d3, 6, .inl fs)), (gr, .inl (d4, 6, .inl fg)), (gt, .inl (d8, 6, .inl (fun _ => 0))), (gw, .inl (d9, 6, .inl (fun _ => 0))), (gk, .inl (d10, 360, .inl fk)), (gi, .inl (d11, 360, .inl (fun _ => 0)))]) [0, 1, 2, 3, 4, 5, 6, 7, 8, 9] (by decide) rfl
  have hK9 := hK.sub (tys' := []) [] rfl
  refine W.widen (k := 1) (n := 9) (Nat.le_of_ble_eq_true rfl) (Nat.le_of_ble_eq_true rfl) ?_
  have hZ := zz_one hAe hD hP 10 [0, 1, 2, 3, 4, 5, 6, 7, 8, 9] rfl rfl (by decide)
  exact W.iret (v := 6) hx hb hr (fun t ht hW => ⟨⟨6, (), rfl, by (first | rfl | assumption | decide | (simp_all; done) | grind), ⟨by rw [ht]; exact hP9, va_K.moved hW.alike hK9, hD9, by rw [ht]; omega⟩⟩, hS.F ht⟩) hS.2.2 dX3_roofTold_107

set_option maxHeartbeats 4000000 in
set_option maxRecDepth 100000 in
theorem r3_roofTold2 (l : Launch) (dC : Nat → ClassId) (dI : Nat → Nat → Nat) (sz : Nat) (hm : Nat) (wi : Nat) (co : Nat) (sl : Nat) (rn : Nat) (so : Nat) (bn : Nat) (sm : Nat) (ah : Nat) (th : Int32) (gr : Nat) (gt : Nat) (gw : Nat) (gk : Nat) (gi : Nat) (gp : Nat) (go : Nat) (gg : Nat) (d1 : ClassId) (d2 : ClassId) (d3 : ClassId) (d4 : ClassId) (d8 : ClassId) (d9 : ClassId) (d10 : ClassId) (d11 : ClassId) (fw : Nat → Int32) (fc : Nat → Int32) (fs : Nat → Int32) (fg : Nat → Int32) (fk : Nat → Int32) (ru : Nat) (hk : ∀ j : Nat, j < 360 → fk j = -1) (hw : ∀ j : Nat, j < 6 → fw j = 10) (hc : ∀ j : Nat, j < 6 → fc j = 6) (hs : ∀ j : Nat, j < 6 → fs j = 30) (hg : ∀ j : Nat, j < 6 → fg j = 100) (hru : ru < 6) : Met l yX3_roofTold wsX3_roofTold ({ frames := 2, cells := 1, slots := 9, locals := 47 }) (va_Pc [.ref hm, .int (nI ru), .int 2] (fun U => U.heap.size = sz ∧ va_P (dC, dI) vwCl [(hm, .inr (3, [.int th, .int 6, .ref wi, .ref co, .ref sl, .ref rn, .ref so, .ref bn, .ref sm, .ref ah])), (sm, .inr (2, [.int 0, .ref gr, .ref gt, .ref gw, .ref gk, .ref gi, .ref gp, .ref go, .ref gg, .ref hm])), (wi, .inl (d1, 6, .inl fw)), (co, .inl (d2, 6, .inl fc)), (sl, .inl (d3, 6, .inl fs)), (gr, .inl (d4, 6, .inl fg)), (gt, .inl (d8, 6, .inl (fun _ => 0))), (gw, .inl (d9, 6, .inl (fun _ => 0))), (gk, .inl (d10, 360, .inl fk)), (gi, .inl (d11, 360, .inl (fun _ => 0)))] U.heap ∧ va_K (dC, dI) vwCl [(d1, .int), (d2, .int), (d3, .int), (d4, .int), (d8, .int), (d9, .int), (d10, .int), (d11, .int)] U ∧ va_D (fun _ => True) [(hm, .inr (3, [.int th, .int 6, .ref wi, .ref co, .ref sl, .ref rn, .ref so, .ref bn, .ref sm, .ref ah])), (sm, .inr (2, [.int 0, .ref gr, .ref gt, .ref gw, .ref gk, .ref gi, .ref gp, .ref go, .ref gg, .ref hm])), (wi, .inl (d1, 6, .inl fw)), (co, .inl (d2, 6, .inl fc)), (sl, .inl (d3, 6, .inl fs)), (gr, .inl (d4, 6, .inl fg)), (gt, .inl (d8, 6, .inl (fun _ => 0))), (gw, .inl (d9, 6, .inl (fun _ => 0))), (gk, .inl (d10, 360, .inl fk)), (gi, .inl (d11, 360, .inl (fun _ => 0)))] ∧ zNs U)) (va_Qi (fun (r : Int32) (u : Unit) => r = 30) (fun (u : Unit) (t : State) => va_P (dC, dI) vwCl [(hm, .inr (3, [.int th, .int 6, .ref wi, .ref co, .ref sl, .ref rn, .ref so, .ref bn, .ref sm, .ref ah])), (sm, .inr (2, [.int 0, .ref gr, .ref gt, .ref gw, .ref gk, .ref gi, .ref gp, .ref go, .ref gg, .ref hm])), (wi, .inl (d1, 6, .inl fw)), (co, .inl (d2, 6, .inl fc)), (sl, .inl (d3, 6, .inl fs)), (gr, .inl (d4, 6, .inl fg)), (gt, .inl (d8, 6, .inl (fun _ => 0))), (gw, .inl (d9, 6, .inl (fun _ => 0))), (gk, .inl (d10, 360, .inl fk)), (gi, .inl (d11, 360, .inl (fun _ => 0)))] t.heap ∧ va_K (dC, dI) vwCl [] t ∧ va_D (va_A [(hm, .inr (3, [.int th, .int 6, .ref wi, .ref co, .ref sl, .ref rn, .ref so, .ref bn, .ref sm, .ref ah])), (sm, .inr (2, [.int 0, .ref gr, .ref gt, .ref gw, .ref gk, .ref gi, .ref gp, .ref go, .ref gg, .ref hm])), (wi, .inl (d1, 6, .inl fw)), (co, .inl (d2, 6, .inl fc)), (sl, .inl (d3, 6, .inl fs)), (gr, .inl (d4, 6, .inl fg)), (gt, .inl (d8, 6, .inl (fun _ => 0))), (gw, .inl (d9, 6, .inl (fun _ => 0))), (gk, .inl (d10, 360, .inl fk)), (gi, .inl (d11, 360, .inl (fun _ => 0)))] sz) [(hm, .inr (3, [.int th, .int 6, .ref wi, .ref co, .ref sl, .ref rn, .ref so, .ref bn, .ref sm, .ref ah])), (sm, .inr (2, [.int 0, .ref gr, .ref gt, .ref gw, .ref gk, .ref gi, .ref gp, .ref go, .ref gg, .ref hm])), (wi, .inl (d1, 6, .inl fw)), (co, .inl (d2, 6, .inl fc)), (sl, .inl (d3, 6, .inl fs)), (gr, .inl (d4, 6, .inl fg)), (gt, .inl (d8, 6, .inl (fun _ => 0))), (gw, .inl (d9, 6, .inl (fun _ => 0))), (gk, .inl (d10, 360, .inl fk)), (gi, .inl (d11, 360, .inl (fun _ => 0)))] ∧ sz + 1 ≤ t.heap.size) (va_A [(hm, .inr (3, [.int th, .int 6, .ref wi, .ref co, .ref sl, .ref rn, .ref so, .ref bn, .ref sm, .ref ah])), (sm, .inr (2, [.int 0, .ref gr, .ref gt, .ref gw, .ref gk, .ref gi, .ref gp, .ref go, .ref gg, .ref hm])), (wi, .inl (d1, 6, .inl fw)), (co, .inl (d2, 6, .inl fc)), (sl, .inl (d3, 6, .inl fs)), (gr, .inl (d4, 6, .inl fg)), (gt, .inl (d8, 6, .inl (fun _ => 0))), (gw, .inl (d9, 6, .inl (fun _ => 0))), (gk, .inl (d10, 360, .inl fk)), (gi, .inl (d11, 360, .inl (fun _ => 0)))] sz)) 1 9 (va_A [(hm, .inr (3, [.int th, .int 6, .ref wi, .ref co, .ref sl, .ref rn, .ref so, .ref bn, .ref sm, .ref ah])), (sm, .inr (2, [.int 0, .ref gr, .ref gt, .ref gw, .ref gk, .ref gi, .ref gp, .ref go, .ref gg, .ref hm])), (wi, .inl (d1, 6, .inl fw)), (co, .inl (d2, 6, .inl fc)), (sl, .inl (d3, 6, .inl fs)), (gr, .inl (d4, 6, .inl fg)), (gt, .inl (d8, 6, .inl (fun _ => 0))), (gw, .inl (d9, 6, .inl (fun _ => 0))), (gk, .inl (d10, 360, .inl fk)), (gi, .inl (d11, 360, .inl (fun _ => 0)))] sz) := by
  refine Met.ofW (cc := cX3_roofTold) (maxL := 4) (ret := (some .int)) (by decide) rfl ?_
  intro p e s m args below meth c s₁ B hml hv
  obtain ⟨rfl, hsz, hP, hK, hD0, hZN⟩ := hv
  have hx := B.exec
  have hb := B.bytes
  have hr := B.returns
  have hts := atoms_spec (ws := wsX3_roofTold) B.pre
  have hown : s.vm.findClass RX3 = some m.cls := findClass_of_methodNamed B.named
  have hlocks := B.notSynchronized
  subst hsz
  have hD := hD0.self (sz := s.heap.size)
  generalize hAe : va_A [(hm, .inr (3, [.int th, .int 6, .ref wi, .ref co, .ref sl, .ref rn, .ref so, .ref bn, .ref sm, .ref ah])), (sm, .inr (2, [.int 0, .ref gr, .ref gt, .ref gw, .ref gk, .ref gi, .ref gp, .ref go, .ref gg, .ref hm])), (wi, .inl (d1, 6, .inl fw)), (co, .inl (d2, 6, .inl fc)), (sl, .inl (d3, 6, .inl fs)), (gr, .inl (d4, 6, .inl fg)), (gt, .inl (d8, 6, .inl (fun _ => 0))), (gw, .inl (d9, 6, .inl (fun _ => 0))), (gk, .inl (d10, 360, .inl fk)), (gi, .inl (d11, 360, .inl (fun _ => 0)))] s.heap.size = A at hD ⊢
  have hA : ∀ q : Nat, s.heap.size ≤ q → A q := fun q h => by rw [← hAe]; exact Or.inr h
  have hS : va_S A s.heap s.heap [] := va_S.rf
  have hP : va_P (dC, dI) vwCl [(hm, .inr (3, [.int th, .int 6, .ref wi, .ref co, .ref sl, .ref rn, .ref so, .ref bn, .ref sm, .ref ah])), (sm, .inr (2, [.int 0, .ref gr, .ref gt, .ref gw, .ref gk, .ref gi, .ref gp, .ref go, .ref gg, .ref hm])), (wi, .inl (d1, 6, .inl fw)), (co, .inl (d2, 6, .inl fc)), (sl, .inl (d3, 6, .inl fs)), (gr, .inl (d4, 6, .inl fg)), (gt, .inl (d8, 6, .inl (fun _ => 0))), (gw, .inl (d9, 6, .inl (fun _ => 0))), (gk, .inl (d10, 360, .inl fk)), (gi, .inl (d11, 360, .inl (fun _ => 0)))] s.heap := hP
  have hl := lv_entry ([.ref hm, .int (nI ru), .int 2]) (n := 4) (Nat.le_of_ble_eq_true rfl)
  rw [lg_entry_eq]
  generalize (lg_sl ([.ref hm, .int (nI ru), .int 2]) ++ List.replicate (4 - (lg_sl ([.ref hm, .int (nI ru), .int 2])).length) Slot.unset).toArray = ls at hl ⊢
  have hl : lv_has ls 4 [(0, .ref hm), (1, .int (nI ru)), (2, .int 2)] := hl
  refine lv_bipush (v := 9) hx hb dX3_roofTold_0 (by decide) ?_
  refine va_newa (atype := .int) (ty := .int) (N' := 9) (a0 := (9, .inl (fun _ => 0))) hx hb (hts (.arrayClass .int) (by decide +kernel)) rfl hK hP hD hS hA (fun _ => rfl) (by decide) (by decide) (by decide) (Nat.le_of_ble_eq_true rfl) (Nat.le_of_ble_eq_true rfl) dX3_roofTold_2 (fun q1 cA2 H hK hP hD hS => ?_)
  refine W.widen (k := 1) (n := 9) (Nat.le_of_ble_eq_true rfl) (Nat.le_of_ble_eq_true rfl) ?_
  have hK : va_K (dC, dI) vwCl [(d1, .int), (d2, .int), (d3, .int), (d4, .int), (d8, .int), (d9, .int), (d10, .int), (d11, .int), (cA2, .int)] s := hK
  have hP : va_P (dC, dI) vwCl [(hm, .inr (3, [.int th, .int 6, .ref wi, .ref co, .ref sl, .ref rn, .ref so, .ref bn, .ref sm, .ref ah])), (sm, .inr (2, [.int 0, .ref gr, .ref gt, .ref gw, .ref gk, .ref gi, .ref gp, .ref go, .ref gg, .ref hm])), (wi, .inl (d1, 6, .inl fw)), (co, .inl (d2, 6, .inl fc)), (sl, .inl (d3, 6, .inl fs)), (gr, .inl (d4, 6, .inl fg)), (gt, .inl (d8, 6, .inl (fun _ => 0))), (gw, .inl (d9, 6, .inl (fun _ => 0))), (gk, .inl (d10, 360, .inl fk)), (gi, .inl (d11, 360, .inl (fun _ => 0))), (q1, .inl (cA2, 9, .inl (fun _ => 0)))] H := hP
  have hD : va_D A [(hm, .inr (3, [.int th, .int 6, .ref wi, .ref co, .ref sl, .ref rn, .ref so, .ref bn, .ref sm, .ref ah])), (sm, .inr (2, [.int 0, .ref gr, .ref gt, .ref gw, .ref gk, .ref gi, .ref gp, .ref go, .ref gg, .ref hm])), (wi, .inl (d1, 6, .inl fw)), (co, .inl (d2, 6, .inl fc)), (sl, .inl (d3, 6, .inl fs)), (gr, .inl (d4, 6, .inl fg)), (gt, .inl (d8, 6, .inl (fun _ => 0))), (gw, .inl (d9, 6, .inl (fun _ => 0))), (gk, .inl (d10, 360, .inl fk)), (gi, .inl (d11, 360, .inl (fun _ => 0))), (q1, .inl (cA2, 9, .inl (fun _ => 0)))] := hD
  refine lv_dup hx hb dX3_roofTold_4 rfl ?_
  refine lv_iconst (v := 0) hx hb dX3_roofTold_5 (by decide) ?_
  refine lv_aload_n hx hb dX3_roofTold_6 rfl (lv_at hl 0 rfl) ?_
  refine va_get (D := (dC, dI)) (ci := 3) (v := .ref wi) (C := RX3) (T := TX3) (N := 10) hx hb hts (by decide +kernel) hown hK hP 0 rfl rfl 2 (by decide) (hts (.fieldLink RX3 9 "ThatchRoofModel" "width" "[I") (by decide +kernel)) (fun _ h9 => h9) rfl dX3_roofTold_7 ?_
  refine lv_iload_n hx hb dX3_roofTold_10 rfl (lv_at hl 1 rfl) ?_
  refine va_iald hx hb hK hP 2 0 rfl rfl (vp_in_nI (by omega) (by omega)) dX3_roofTold_11 ?_
  refine lv_topi (fun x3 ex3 => ?_)
  rw [nI_clamp (show ru < 2 ^ 31 by omega)] at ex3
  obtain rfl : x3 = 10 := ex3.trans (hw _ (by omega))
  refine va_iast hx hb hK hP hD hS 10 8 rfl rfl (vp_in_nI (n := 0) (by decide) (by decide)) dX3_roofTold_12 (fun H locs hP hD hS => ?_)
  have hP : va_P (dC, dI) vwCl [(hm, .inr (3, [.int th, .int 6, .ref wi, .ref co, .ref sl, .ref rn, .ref so, .ref bn, .ref sm, .ref ah])), (sm, .inr (2, [.int 0, .ref gr, .ref gt, .ref gw, .ref gk, .ref gi, .ref gp, .ref go, .ref gg, .ref hm])), (wi, .inl (d1, 6, .inl fw)), (co, .inl (d2, 6, .inl fc)), (sl, .inl (d3, 6, .inl fs)), (gr, .inl (d4, 6, .inl fg)), (gt, .inl (d8, 6, .inl (fun _ => 0))), (gw, .inl (d9, 6, .inl (fun _ => 0))), (gk, .inl (d10, 360, .inl fk)), (gi, .inl (d11, 360, .inl (fun _ => 0))), (q1, .inl (cA2, 9, .inl (upd (fun _ => 0) 0 10)))] H := hP
  have hD : va_D A [(hm, .inr (3, [.int th, .int 6, .ref wi, .ref co, .ref sl, .ref rn, .ref so, .ref bn, .ref sm, .ref ah])), (sm, .inr (2, [.int 0, .ref gr, .ref gt, .ref gw, .ref gk, .ref gi, .ref gp, .ref go, .ref gg, .ref hm])), (wi, .inl (d1, 6, .inl fw)), (co, .inl (d2, 6, .inl fc)), (sl, .inl (d3, 6, .inl fs)), (gr, .inl (d4, 6, .inl fg)), (gt, .inl (d8, 6, .inl (fun _ => 0))), (gw, .inl (d9, 6, .inl (fun _ => 0))), (gk, .inl (d10, 360, .inl fk)), (gi, .inl (d11, 360, .inl (fun _ => 0))), (q1, .inl (cA2, 9, .inl (upd (fun _ => 0) 0 10)))] := hD
  refine lv_dup hx hb dX3_roofTold_13 rfl ?_
  refine lv_iconst (v := 1) hx hb dX3_roofTold_14 (by decide) ?_
  refine lv_aload_n hx hb dX3_roofTold_15 rfl (lv_at hl 0 rfl) ?_
  refine va_get (D := (dC, dI)) (ci := 3) (v := .ref co) (C := RX3) (T := TX3) (N := 10) hx hb hts (by decide +kernel) hown hK hP 0 rfl rfl 3 (by decide) (hts (.fieldLink RX3 13 "ThatchRoofModel" "courses" "[I") (by decide +kernel)) (fun _ h9 => h9) rfl dX3_roofTold_16 ?_
  refine lv_iload_n hx hb dX3_roofTold_19 rfl (lv_at hl 1 rfl) ?_
  refine va_iald hx hb hK hP 3 1 rfl rfl (vp_in_nI (by omega) (by omega)) dX3_roofTold_20 ?_
  refine lv_topi (fun x4 ex4 => ?_)
  rw [nI_clamp (show ru < 2 ^ 31 by omega)] at ex4
  obtain rfl : x4 = 6 := ex4.trans (hc _ (by omega))
  refine va_iast hx hb hK hP hD hS 10 8 rfl rfl (vp_in_nI (n := 1) (by decide) (by decide)) dX3_roofTold_21 (fun H locs hP hD hS => ?_)
  have hP : va_P (dC, dI) vwCl [(hm, .inr (3, [.int th, .int 6, .ref wi, .ref co, .ref sl, .ref rn, .ref so, .ref bn, .ref sm, .ref ah])), (sm, .inr (2, [.int 0, .ref gr, .ref gt, .ref gw, .ref gk, .ref gi, .ref gp, .ref go, .ref gg, .ref hm])), (wi, .inl (d1, 6, .inl fw)), (co, .inl (d2, 6, .inl fc)), (sl, .inl (d3, 6, .inl fs)), (gr, .inl (d4, 6, .inl fg)), (gt, .inl (d8, 6, .inl (fun _ => 0))), (gw, .inl (d9, 6, .inl (fun _ => 0))), (gk, .inl (d10, 360, .inl fk)), (gi, .inl (d11, 360, .inl (fun _ => 0))), (q1, .inl (cA2, 9, .inl (upd (upd (fun _ => 0) 0 10) 1 6)))] H := hP
  have hD : va_D A [(hm, .inr (3, [.int th, .int 6, .ref wi, .ref co, .ref sl, .ref rn, .ref so, .ref bn, .ref sm, .ref ah])), (sm, .inr (2, [.int 0, .ref gr, .ref gt, .ref gw, .ref gk, .ref gi, .ref gp, .ref go, .ref gg, .ref hm])), (wi, .inl (d1, 6, .inl fw)), (co, .inl (d2, 6, .inl fc)), (sl, .inl (d3, 6, .inl fs)), (gr, .inl (d4, 6, .inl fg)), (gt, .inl (d8, 6, .inl (fun _ => 0))), (gw, .inl (d9, 6, .inl (fun _ => 0))), (gk, .inl (d10, 360, .inl fk)), (gi, .inl (d11, 360, .inl (fun _ => 0))), (q1, .inl (cA2, 9, .inl (upd (upd (fun _ => 0) 0 10) 1 6)))] := hD
  refine lv_dup hx hb dX3_roofTold_22 rfl ?_
  refine lv_iconst (v := 2) hx hb dX3_roofTold_23 (by decide) ?_
  refine lv_aload_n hx hb dX3_roofTold_24 rfl (lv_at hl 0 rfl) ?_
  refine va_get (D := (dC, dI)) (ci := 3) (v := .ref sl) (C := RX3) (T := TX3) (N := 10) hx hb hts (by decide +kernel) hown hK hP 0 rfl rfl 4 (by decide) (hts (.fieldLink RX3 16 "ThatchRoofModel" "slope" "[I") (by decide +kernel)) (fun _ h9 => h9) rfl dX3_roofTold_25 ?_
  refine lv_iload_n hx hb dX3_roofTold_28 rfl (lv_at hl 1 rfl) ?_
  refine va_iald hx hb hK hP 4 2 rfl rfl (vp_in_nI (by omega) (by omega)) dX3_roofTold_29 ?_
  refine lv_topi (fun x5 ex5 => ?_)
  rw [nI_clamp (show ru < 2 ^ 31 by omega)] at ex5
  obtain rfl : x5 = 30 := ex5.trans (hs _ (by omega))
  refine va_iast hx hb hK hP hD hS 10 8 rfl rfl (vp_in_nI (n := 2) (by decide) (by decide)) dX3_roofTold_30 (fun H locs hP hD hS => ?_)
  have hP : va_P (dC, dI) vwCl [(hm, .inr (3, [.int th, .int 6, .ref wi, .ref co, .ref sl, .ref rn, .ref so, .ref bn, .ref sm, .ref ah])), (sm, .inr (2, [.int 0, .ref gr, .ref gt, .ref gw, .ref gk, .ref gi, .ref gp, .ref go, .ref gg, .ref hm])), (wi, .inl (d1, 6, .inl fw)), (co, .inl (d2, 6, .inl fc)), (sl, .inl (d3, 6, .inl fs)), (gr, .inl (d4, 6, .inl fg)), (gt, .inl (d8, 6, .inl (fun _ => 0))), (gw, .inl (d9, 6, .inl (fun _ => 0))), (gk, .inl (d10, 360, .inl fk)), (gi, .inl (d11, 360, .inl (fun _ => 0))), (q1, .inl (cA2, 9, .inl (upd (upd (upd (fun _ => 0) 0 10) 1 6) 2 30)))] H := hP
  have hD : va_D A [(hm, .inr (3, [.int th, .int 6, .ref wi, .ref co, .ref sl, .ref rn, .ref so, .ref bn, .ref sm, .ref ah])), (sm, .inr (2, [.int 0, .ref gr, .ref gt, .ref gw, .ref gk, .ref gi, .ref gp, .ref go, .ref gg, .ref hm])), (wi, .inl (d1, 6, .inl fw)), (co, .inl (d2, 6, .inl fc)), (sl, .inl (d3, 6, .inl fs)), (gr, .inl (d4, 6, .inl fg)), (gt, .inl (d8, 6, .inl (fun _ => 0))), (gw, .inl (d9, 6, .inl (fun _ => 0))), (gk, .inl (d10, 360, .inl fk)), (gi, .inl (d11, 360, .inl (fun _ => 0))), (q1, .inl (cA2, 9, .inl (upd (upd (upd (fun _ => 0) 0 10) 1 6) 2 30)))] := hD
  refine lv_dup hx hb dX3_roofTold_31 rfl ?_
  refine lv_iconst (v := 3) hx hb dX3_roofTold_32 (by decide) ?_
  refine lv_aload_n hx hb dX3_roofTold_33 rfl (lv_at hl 0 rfl) ?_
  refine va_get (D := (dC, dI)) (ci := 3) (v := .ref sm) (C := RX3) (T := TX3) (N := 10) hx hb hts (by decide +kernel) hown hK hP 0 rfl rfl 8 (by decide) (hts (.fieldLink RX3 33 "ThatchRoofModel" "s" "LThatchRoofModel$State;") (by decide +kernel)) (fun _ h9 => h9) rfl dX3_roofTold_34 ?_
  refine va_getN (D := (dC, dI)) (ci := 2) (v := .ref gr) (C := RX2) (T := TX2) (N := 10) hx hb hts (by decide +kernel) hown hK hP 1 rfl rfl 1 (by decide) (va_Nw.use rfl (zN_RX3_63 hZN)) (fun _ h9 => h9) rfl dX3_roofTold_37 ?_
  refine lv_iload_n hx hb dX3_roofTold_40 rfl (lv_at hl 1 rfl) ?_
  refine va_iald hx hb hK hP 5 3 rfl rfl (vp_in_nI (by omega) (by omega)) dX3_roofTold_41 ?_
  refine lv_topi (fun x6 ex6 => ?_)
  rw [nI_clamp (show ru < 2 ^ 31 by omega)] at ex6
  obtain rfl : x6 = 100 := ex6.trans (hg _ (by omega))
  refine va_iast hx hb hK hP hD hS 10 8 rfl rfl (vp_in_nI (n := 3) (by decide) (by decide)) dX3_roofTold_42 (fun H locs hP hD hS => ?_)
  have hP : va_P (dC, dI) vwCl [(hm, .inr (3, [.int th, .int 6, .ref wi, .ref co, .ref sl, .ref rn, .ref so, .ref bn, .ref sm, .ref ah])), (sm, .inr (2, [.int 0, .ref gr, .ref gt, .ref gw, .ref gk, .ref gi, .ref gp, .ref go, .ref gg, .ref hm])), (wi, .inl (d1, 6, .inl fw)), (co, .inl (d2, 6, .inl fc)), (sl, .inl (d3, 6, .inl fs)), (gr, .inl (d4, 6, .inl fg)), (gt, .inl (d8, 6, .inl (fun _ => 0))), (gw, .inl (d9, 6, .inl (fun _ => 0))), (gk, .inl (d10, 360, .inl fk)), (gi, .inl (d11, 360, .inl (fun _ => 0))), (q1, .inl (cA2, 9, .inl (upd (upd (upd (upd (fun _ => 0) 0 10) 1 6) 2 30) 3 100)))] H := hP
  have hD : va_D A [(hm, .inr (3, [.int th, .int 6, .ref wi, .ref co, .ref sl, .ref rn, .ref so, .ref bn, .ref sm, .ref ah])), (sm, .inr (2, [.int 0, .ref gr, .ref gt, .ref gw, .ref gk, .ref gi, .ref gp, .ref go, .ref gg, .ref hm])), (wi, .inl (d1, 6, .inl fw)), (co, .inl (d2, 6, .inl fc)), (sl, .inl (d3, 6, .inl fs)), (gr, .inl (d4, 6, .inl fg)), (gt, .inl (d8, 6, .inl (fun _ => 0))), (gw, .inl (d9, 6, .inl (fun _ => 0))), (gk, .inl (d10, 360, .inl fk)), (gi, .inl (d11, 360, .inl (fun _ => 0))), (q1, .inl (cA2, 9, .inl (upd (upd (upd (upd (fun _ => 0) 0 10) 1 6) 2 30) 3 100)))] := hD
  refine lv_dup hx hb dX3_roofTold_43 rfl ?_
  refine lv_iconst (v := 4) hx hb dX3_roofTold_44 (by decide) ?_
  refine lv_aload_n hx hb dX3_roofTold_45 rfl (lv_at hl 0 rfl) ?_
  refine va_get (D := (dC, dI)) (ci := 3) (v := .ref sm) (C := RX3) (T := TX3) (N := 10) hx hb hts (by decide +kernel) hown hK hP 0 rfl rfl 8 (by decide) (hts (.fieldLink RX3 33 "ThatchRoofModel" "s" "LThatchRoofModel$State;") (by decide +kernel)) (fun _ h9 => h9) rfl dX3_roofTold_46 ?_
  refine lv_iload_n hx hb dX3_roofTold_49 rfl (lv_at hl 1 rfl) ?_
  have hPc := hP.sub (ws' := [(sm, .inr (2, [.int 0, .ref gr, .ref gt, .ref gw, .ref gk, .ref gi, .ref gp, .ref go, .ref gg, .ref hm])), (gk, .inl (d10, 360, .inl fk))]) [1, 8] rfl
  have hKc := hK.sub (tys' := [(d10, .int)]) [6] rfl
  refine vp_callSi (va_runV (As := [.int (nI ru)]) (rest := [.int 4, .ref q1, .ref q1]) ⟨hx, hb, hml, hown, hts⟩ (r2_yealms l dC dI sm hm gr gt gw gk gi gp go gg d10 fk ru (by first | assumption | decide | omega) (by first | assumption | decide | omega)) (cwV 1 hts gX3_roofTold_X2_yealms rfl rfl rfl (by decide +kernel) ⟨Nat.le_of_ble_eq_true rfl, Nat.le_of_ble_eq_true rfl⟩) ⟨fun a U g mk q => by obtain ⟨q0, qP, qK⟩ := q; exact ⟨q0, qP, va_K.moved (u := U) (U := U.calling g mk a) (Vm.Alike.refl U.vm) qK⟩, va_recv hKc hPc (ci := 2) (q0 := 0) rfl rfl, fun U hU hW => ⟨rfl, by rw [hU]; exact hPc, va_K.moved hW.alike hKc⟩⟩ rfl rfl hl.1 rfl (lv_room (Nat.le_of_ble_eq_true rfl)) dX3_roofTold_50 ⟨Nat.le_of_ble_eq_true rfl, Nat.le_of_ble_eq_true rfl⟩).run (fun r7 hr7 => ?_)
  obtain rfl := hr7
  refine va_iast hx hb hK hP hD hS 10 8 rfl rfl (vp_in_nI (n := 4) (by decide) (by decide)) dX3_roofTold_53 (fun H locs hP hD hS => ?_)
  have hP : va_P (dC, dI) vwCl [(hm, .inr (3, [.int th, .int 6, .ref wi, .ref co, .ref sl, .ref rn, .ref so, .ref bn, .ref sm, .ref ah])), (sm, .inr (2, [.int 0, .ref gr, .ref gt, .ref gw, .ref gk, .ref gi, .ref gp, .ref go, .ref gg, .ref hm])), (wi, .inl (d1, 6, .inl fw)), (co, .inl (d2, 6, .inl fc)), (sl, .inl (d3, 6, .inl fs)), (gr, .inl (d4, 6, .inl fg)), (gt, .inl (d8, 6, .inl (fun _ => 0))), (gw, .inl (d9, 6, .inl (fun _ => 0))), (gk, .inl (d10, 360, .inl fk)), (gi, .inl (d11, 360, .inl (fun _ => 0))), (q1, .inl (cA2, 9, .inl (upd (upd (upd (upd (upd (fun _ => 0) 0 10) 1 6) 2 30) 3 100) 4 0)))] H := hP
  have hD : va_D A [(hm, .inr (3, [.int th, .int 6, .ref wi, .ref co, .ref sl, .ref rn, .ref so, .ref bn, .ref sm, .ref ah])), (sm, .inr (2, [.int 0, .ref gr, .ref gt, .ref gw, .ref gk, .ref gi, .ref gp, .ref go, .ref gg, .ref hm])), (wi, .inl (d1, 6, .inl fw)), (co, .inl (d2, 6, .inl fc)), (sl, .inl (d3, 6, .inl fs)), (gr, .inl (d4, 6, .inl fg)), (gt, .inl (d8, 6, .inl (fun _ => 0))), (gw, .inl (d9, 6, .inl (fun _ => 0))), (gk, .inl (d10, 360, .inl fk)), (gi, .inl (d11, 360, .inl (fun _ => 0))), (q1, .inl (cA2, 9, .inl (upd (upd (upd (upd (upd (fun _ => 0) 0 10) 1 6) 2 30) 3 100) 4 0)))] := hD
  refine lv_dup hx hb dX3_roofTold_54 rfl ?_
  refine lv_iconst (v := 5) hx hb dX3_roofTold_55 (by decide) ?_
  refine lv_aload_n hx hb dX3_roofTold_56 rfl (lv_at hl 0 rfl) ?_
  refine va_get (D := (dC, dI)) (ci := 3) (v := .ref sm) (C := RX3) (T := TX3) (N := 10) hx hb hts (by decide +kernel) hown hK hP 0 rfl rfl 8 (by decide) (hts (.fieldLink RX3 33 "ThatchRoofModel" "s" "LThatchRoofModel$State;") (by decide +kernel)) (fun _ h9 => h9) rfl dX3_roofTold_57 ?_
  refine lv_iload_n hx hb dX3_roofTold_60 rfl (lv_at hl 1 rfl) ?_
  have hPc := hP.sub (ws' := [(sm, .inr (2, [.int 0, .ref gr, .ref gt, .ref gw, .ref gk, .ref gi, .ref gp, .ref go, .ref gg, .ref hm])), (gi, .inl (d11, 360, .inl (fun _ => 0)))]) [1, 9] rfl
  have hKc := hK.sub (tys' := [(d11, .int)]) [7] rfl
  refine vp_callSi (va_runV (As := [.int (nI ru)]) (rest := [.int 5, .ref q1, .ref q1]) ⟨hx, hb, hml, hown, hts⟩ (r2_thickness l dC dI sm hm gr gt gw gk gi gp go gg d11 ru (by first | assumption | decide | omega)) (cwV 1 hts gX3_roofTold_X2_thickness rfl rfl rfl (by decide +kernel) ⟨Nat.le_of_ble_eq_true rfl, Nat.le_of_ble_eq_true rfl⟩) ⟨fun a U g mk q => by obtain ⟨q0, qP, qK⟩ := q; exact ⟨q0, qP, va_K.moved (u := U) (U := U.calling g mk a) (Vm.Alike.refl U.vm) qK⟩, va_recv hKc hPc (ci := 2) (q0 := 0) rfl rfl, fun U hU hW => ⟨rfl, by rw [hU]; exact hPc, va_K.moved hW.alike hKc⟩⟩ rfl rfl hl.1 rfl (lv_room (Nat.le_of_ble_eq_true rfl)) dX3_roofTold_61 ⟨Nat.le_of_ble_eq_true rfl, Nat.le_of_ble_eq_true rfl⟩).run (fun r8 hr8 => ?_)
  obtain rfl := hr8
  refine va_iast hx hb hK hP hD hS 10 8 rfl rfl (vp_in_nI (n := 5) (by decide) (by decide)) dX3_roofTold_64 (fun H locs hP hD hS => ?_)
  have hP : va_P (dC, dI) vwCl [(hm, .inr (3, [.int th, .int 6, .ref wi, .ref co, .ref sl, .ref rn, .ref so, .ref bn, .ref sm, .ref ah])), (sm, .inr (2, [.int 0, .ref gr, .ref gt, .ref gw, .ref gk, .ref gi, .ref gp, .ref go, .ref gg, .ref hm])), (wi, .inl (d1, 6, .inl fw)), (co, .inl (d2, 6, .inl fc)), (sl, .inl (d3, 6, .inl fs)), (gr, .inl (d4, 6, .inl fg)), (gt, .inl (d8, 6, .inl (fun _ => 0))), (gw, .inl (d9, 6, .inl (fun _ => 0))), (gk, .inl (d10, 360, .inl fk)), (gi, .inl (d11, 360, .inl (fun _ => 0))), (q1, .inl (cA2, 9, .inl (upd (upd (upd (upd (upd (upd (fun _ => 0) 0 10) 1 6) 2 30) 3 100) 4 0) 5 0)))] H := hP
  have hD : va_D A [(hm, .inr (3, [.int th, .int 6, .ref wi, .ref co, .ref sl, .ref rn, .ref so, .ref bn, .ref sm, .ref ah])), (sm, .inr (2, [.int 0, .ref gr, .ref gt, .ref gw, .ref gk, .ref gi, .ref gp, .ref go, .ref gg, .ref hm])), (wi, .inl (d1, 6, .inl fw)), (co, .inl (d2, 6, .inl fc)), (sl, .inl (d3, 6, .inl fs)), (gr, .inl (d4, 6, .inl fg)), (gt, .inl (d8, 6, .inl (fun _ => 0))), (gw, .inl (d9, 6, .inl (fun _ => 0))), (gk, .inl (d10, 360, .inl fk)), (gi, .inl (d11, 360, .inl (fun _ => 0))), (q1, .inl (cA2, 9, .inl (upd (upd (upd (upd (upd (upd (fun _ => 0) 0 10) 1 6) 2 30) 3 100) 4 0) 5 0)))] := hD
  refine lv_dup hx hb dX3_roofTold_65 rfl ?_
  refine lv_bipush (v := 6) hx hb dX3_roofTold_66 (by decide) ?_
  refine lv_aload_n hx hb dX3_roofTold_68 rfl (lv_at hl 0 rfl) ?_
  refine va_get (D := (dC, dI)) (ci := 3) (v := .ref sm) (C := RX3) (T := TX3) (N := 10) hx hb hts (by decide +kernel) hown hK hP 0 rfl rfl 8 (by decide) (hts (.fieldLink RX3 33 "ThatchRoofModel" "s" "LThatchRoofModel$State;") (by decide +kernel)) (fun _ h9 => h9) rfl dX3_roofTold_69 ?_
  refine lv_iload_n hx hb dX3_roofTold_72 rfl (lv_at hl 1 rfl) ?_
  have hPc := hP.sub (ws' := [(sm, .inr (2, [.int 0, .ref gr, .ref gt, .ref gw, .ref gk, .ref gi, .ref gp, .ref go, .ref gg, .ref hm])), (hm, .inr (3, [.int th, .int 6, .ref wi, .ref co, .ref sl, .ref rn, .ref so, .ref bn, .ref sm, .ref ah])), (wi, .inl (d1, 6, .inl fw)), (co, .inl (d2, 6, .inl fc)), (gk, .inl (d10, 360, .inl fk)), (gi, .inl (d11, 360, .inl (fun _ => 0)))]) [1, 0, 2, 3, 8, 9] rfl
  have hKc := hK.sub (tys' := [(d1, .int), (d2, .int), (d10, .int), (d11, .int)]) [0, 1, 6, 7] rfl
  refine vp_callSi (va_runV (As := [.int (nI ru)]) (rest := [.int 6, .ref q1, .ref q1]) ⟨hx, hb, hml, hown, hts⟩ (r2_leaks l dC dI hm wi co sl rn so bn sm ah th gr gt gw gk gi gp go gg d1 d2 d10 d11 fw fc fk ru (by first | assumption | decide | omega) (by first | assumption | decide | omega) (by first | assumption | decide | omega) (by first | assumption | decide | omega)) (cwV 1 hts gX3_roofTold_X2_leaks rfl rfl rfl (by decide +kernel) ⟨Nat.le_of_ble_eq_true rfl, Nat.le_of_ble_eq_true rfl⟩) ⟨fun a U g mk q => by obtain ⟨q0, qP, qK, qN⟩ := q; exact ⟨q0, qP, va_K.moved (u := U) (U := U.calling g mk a) (Vm.Alike.refl U.vm) qK, zNs.calling qN⟩, va_recv hKc hPc (ci := 2) (q0 := 0) rfl rfl, fun U hU hW => ⟨rfl, by rw [hU]; exact hPc, va_K.moved hW.alike hKc, zNs.warm hW hZN⟩⟩ rfl rfl hl.1 rfl (lv_room (Nat.le_of_ble_eq_true rfl)) dX3_roofTold_73 ⟨Nat.le_of_ble_eq_true rfl, Nat.le_of_ble_eq_true rfl⟩).run (fun r9 hr9 => ?_)
  obtain rfl := hr9
  refine va_iast hx hb hK hP hD hS 10 8 rfl rfl (vp_in_nI (n := 6) (by decide) (by decide)) dX3_roofTold_76 (fun H locs hP hD hS => ?_)
  have hP : va_P (dC, dI) vwCl [(hm, .inr (3, [.int th, .int 6, .ref wi, .ref co, .ref sl, .ref rn, .ref so, .ref bn, .ref sm, .ref ah])), (sm, .inr (2, [.int 0, .ref gr, .ref gt, .ref gw, .ref gk, .ref gi, .ref gp, .ref go, .ref gg, .ref hm])), (wi, .inl (d1, 6, .inl fw)), (co, .inl (d2, 6, .inl fc)), (sl, .inl (d3, 6, .inl fs)), (gr, .inl (d4, 6, .inl fg)), (gt, .inl (d8, 6, .inl (fun _ => 0))), (gw, .inl (d9, 6, .inl (fun _ => 0))), (gk, .inl (d10, 360, .inl fk)), (gi, .inl (d11, 360, .inl (fun _ => 0))), (q1, .inl (cA2, 9, .inl (upd (upd (upd (upd (upd (upd (upd (fun _ => 0) 0 10) 1 6) 2 30) 3 100) 4 0) 5 0) 6 10)))] H := hP
  have hD : va_D A [(hm, .inr (3, [.int th, .int 6, .ref wi, .ref co, .ref sl, .ref rn, .ref so, .ref bn, .ref sm, .ref ah])), (sm, .inr (2, [.int 0, .ref gr, .ref gt, .ref gw, .ref gk, .ref gi, .ref gp, .ref go, .ref gg, .ref hm])), (wi, .inl (d1, 6, .inl fw)), (co, .inl (d2, 6, .inl fc)), (sl, .inl (d3, 6, .inl fs)), (gr, .inl (d4, 6, .inl fg)), (gt, .inl (d8, 6, .inl (fun _ => 0))), (gw, .inl (d9, 6, .inl (fun _ => 0))), (gk, .inl (d10, 360, .inl fk)), (gi, .inl (d11, 360, .inl (fun _ => 0))), (q1, .inl (cA2, 9, .inl (upd (upd (upd (upd (upd (upd (upd (fun _ => 0) 0 10) 1 6) 2 30) 3 100) 4 0) 5 0) 6 10)))] := hD
  refine lv_dup hx hb dX3_roofTold_77 rfl ?_
  refine lv_bipush (v := 7) hx hb dX3_roofTold_78 (by decide) ?_
  refine lv_aload_n hx hb dX3_roofTold_80 rfl (lv_at hl 0 rfl) ?_
  refine va_get (D := (dC, dI)) (ci := 3) (v := .ref sm) (C := RX3) (T := TX3) (N := 10) hx hb hts (by decide +kernel) hown hK hP 0 rfl rfl 8 (by decide) (hts (.fieldLink RX3 33 "ThatchRoofModel" "s" "LThatchRoofModel$State;") (by decide +kernel)) (fun _ h9 => h9) rfl dX3_roofTold_81 ?_
  refine va_getN (D := (dC, dI)) (ci := 2) (v := .ref gt) (C := RX2) (T := TX2) (N := 10) hx hb hts (by decide +kernel) hown hK hP 1 rfl rfl 2 (by decide) (va_Nw.use rfl (zN_RX3_118 hZN)) (fun _ h9 => h9) rfl dX3_roofTold_84 ?_
  refine lv_iload_n hx hb dX3_roofTold_87 rfl (lv_at hl 1 rfl) ?_
  refine va_iald hx hb hK hP 6 4 rfl rfl (vp_in_nI (by omega) (by omega)) dX3_roofTold_88 ?_
  refine lv_topi (fun x10 ex10 => ?_)
  obtain rfl : x10 = 0 := ex10
  refine va_iast hx hb hK hP hD hS 10 8 rfl rfl (vp_in_nI (n := 7) (by decide) (by decide)) dX3_roofTold_89 (fun H locs hP hD hS => ?_)
  have hP : va_P (dC, dI) vwCl [(hm, .inr (3, [.int th, .int 6, .ref wi, .ref co, .ref sl, .ref rn, .ref so, .ref bn, .ref sm, .ref ah])), (sm, .inr (2, [.int 0, .ref gr, .ref gt, .ref gw, .ref gk, .ref gi, .ref gp, .ref go, .ref gg, .ref hm])), (wi, .inl (d1, 6, .inl fw)), (co, .inl (d2, 6, .inl fc)), (sl, .inl (d3, 6, .inl fs)), (gr, .inl (d4, 6, .inl fg)), (gt, .inl (d8, 6, .inl (fun _ => 0))), (gw, .inl (d9, 6, .inl (fun _ => 0))), (gk, .inl (d10, 360, .inl fk)), (gi, .inl (d11, 360, .inl (fun _ => 0))), (q1, .inl (cA2, 9, .inl (upd (upd (upd (upd (upd (upd (upd (upd (fun _ => 0) 0 10) 1 6) 2 30) 3 100) 4 0) 5 0) 6 10) 7 0)))] H := hP
  have hD : va_D A [(hm, .inr (3, [.int th, .int 6, .ref wi, .ref co, .ref sl, .ref rn, .ref so, .ref bn, .ref sm, .ref ah])), (sm, .inr (2, [.int 0, .ref gr, .ref gt, .ref gw, .ref gk, .ref gi, .ref gp, .ref go, .ref gg, .ref hm])), (wi, .inl (d1, 6, .inl fw)), (co, .inl (d2, 6, .inl fc)), (sl, .inl (d3, 6, .inl fs)), (gr, .inl (d4, 6, .inl fg)), (gt, .inl (d8, 6, .inl (fun _ => 0))), (gw, .inl (d9, 6, .inl (fun _ => 0))), (gk, .inl (d10, 360, .inl fk)), (gi, .inl (d11, 360, .inl (fun _ => 0))), (q1, .inl (cA2, 9, .inl (upd (upd (upd (upd (upd (upd (upd (upd (fun _ => 0) 0 10) 1 6) 2 30) 3 100) 4 0) 5 0) 6 10) 7 0)))] := hD
  refine lv_dup hx hb dX3_roofTold_90 rfl ?_
  refine lv_bipush (v := 8) hx hb dX3_roofTold_91 (by decide) ?_
  refine lv_aload_n hx hb dX3_roofTold_93 rfl (lv_at hl 0 rfl) ?_
  refine va_get (D := (dC, dI)) (ci := 3) (v := .ref sm) (C := RX3) (T := TX3) (N := 10) hx hb hts (by decide +kernel) hown hK hP 0 rfl rfl 8 (by decide) (hts (.fieldLink RX3 33 "ThatchRoofModel" "s" "LThatchRoofModel$State;") (by decide +kernel)) (fun _ h9 => h9) rfl dX3_roofTold_94 ?_
  refine va_getN (D := (dC, dI)) (ci := 2) (v := .ref gw) (C := RX2) (T := TX2) (N := 10) hx hb hts (by decide +kernel) hown hK hP 1 rfl rfl 3 (by decide) (va_Nw.use rfl (zN_RX3_121 hZN)) (fun _ h9 => h9) rfl dX3_roofTold_97 ?_
  refine lv_iload_n hx hb dX3_roofTold_100 rfl (lv_at hl 1 rfl) ?_
  refine va_iald hx hb hK hP 7 5 rfl rfl (vp_in_nI (by omega) (by omega)) dX3_roofTold_101 ?_
  refine lv_topi (fun x11 ex11 => ?_)
  obtain rfl : x11 = 0 := ex11
  refine va_iast hx hb hK hP hD hS 10 8 rfl rfl (vp_in_nI (n := 8) (by decide) (by decide)) dX3_roofTold_102 (fun H locs hP hD hS => ?_)
  have hP : va_P (dC, dI) vwCl [(hm, .inr (3, [.int th, .int 6, .ref wi, .ref co, .ref sl, .ref rn, .ref so, .ref bn, .ref sm, .ref ah])), (sm, .inr (2, [.int 0, .ref gr, .ref gt, .ref gw, .ref gk, .ref gi, .ref gp, .ref go, .ref gg, .ref hm])), (wi, .inl (d1, 6, .inl fw)), (co, .inl (d2, 6, .inl fc)), (sl, .inl (d3, 6, .inl fs)), (gr, .inl (d4, 6, .inl fg)), (gt, .inl (d8, 6, .inl (fun _ => 0))), (gw, .inl (d9, 6, .inl (fun _ => 0))), (gk, .inl (d10, 360, .inl fk)), (gi, .inl (d11, 360, .inl (fun _ => 0))), (q1, .inl (cA2, 9, .inl (upd (upd (upd (upd (upd (upd (upd (upd (upd (fun _ => 0) 0 10) 1 6) 2 30) 3 100) 4 0) 5 0) 6 10) 7 0) 8 0)))] H := hP
  have hD : va_D A [(hm, .inr (3, [.int th, .int 6, .ref wi, .ref co, .ref sl, .ref rn, .ref so, .ref bn, .ref sm, .ref ah])), (sm, .inr (2, [.int 0, .ref gr, .ref gt, .ref gw, .ref gk, .ref gi, .ref gp, .ref go, .ref gg, .ref hm])), (wi, .inl (d1, 6, .inl fw)), (co, .inl (d2, 6, .inl fc)), (sl, .inl (d3, 6, .inl fs)), (gr, .inl (d4, 6, .inl fg)), (gt, .inl (d8, 6, .inl (fun _ => 0))), (gw, .inl (d9, 6, .inl (fun _ => 0))), (gk, .inl (d10, 360, .inl fk)), (gi, .inl (d11, 360, .inl (fun _ => 0))), (q1, .inl (cA2, 9, .inl (upd (upd (upd (upd (upd (upd (upd (upd (upd (fun _ => 0) 0 10) 1 6) 2 30) 3 100) 4 0) 5 0) 6 10) 7 0) 8 0)))] := hD
  refine lv_astore_n (lv' := [(3, .ref q1), (0, .ref hm), (1, .int (nI ru)), (2, .int 2)]) hx hb dX3_roofTold_103 rfl hl (by decide) rfl (fun ls hl => ?_)
  refine lv_aload_n hx hb dX3_roofTold_104 rfl (lv_at hl 0 rfl) ?_
  refine lv_iload_n hx hb dX3_roofTold_105 rfl (lv_at hl 3 rfl) ?_
  refine va_iald hx hb hK hP 10 8 rfl rfl (vp_in_nI (n := 2) (by decide) (by decide)) dX3_roofTold_106 ?_
  refine lv_topi (fun x12 ex12 => ?_)
  obtain rfl : x12 = 30 := ex12
  have hP9 := hP.sub (ws' := [(hm, .inr (3, [.int th, .int 6, .ref wi, .ref co, .ref sl, .ref rn, .ref so, .ref bn, .ref sm, .ref ah])), (sm, .inr (2, [.int 0, .ref gr, .ref gt, .ref gw, .ref gk, .ref gi, .ref gp, .ref go, .ref gg, .ref hm])), (wi, .inl (d1, 6, .inl fw)), (co, .inl (d2, 6, .inl fc)), (sl, .inl (d3, 6, .inl fs)), (gr, .inl (d4, 6, .inl fg)), (gt, .inl (d8, 6, .inl (fun _ => 0))), (gw, .inl (d9, 6, .inl (fun _ => 0))), (gk, .inl (d10, 360, .inl fk)), (gi, .inl (d11, 360, .inl (fun _ => 0)))]) [0, 1, 2, 3, 4, 5, 6, 7, 8, 9] rfl
  have hD9 := hD.sub (ws' := [(hm, .inr (3, [.int th, .int 6, .ref wi, .ref co, .ref sl, .ref rn, .ref so, .ref bn, .ref sm, .ref ah])), (sm, .inr (2, [.int 0, .ref gr, .ref gt, .ref gw, .ref gk, .ref gi, .ref gp, .ref go, .ref gg, .ref hm])), (wi, .inl (d1, 6, .inl fw)), (co, .inl (d2, 6, .inl fc)), (sl, .inl (d3, 6, .inl fs)), (gr, .inl (d4, 6, .inl fg)), (gt, .inl (d8, 6, .inl (fun _ => 0))), (gw, .inl (d9, 6, .inl (fun _ => 0))), (gk, .inl (d10, 360, .inl fk)), (gi, .inl (d11, 360, .inl (fun _ => 0)))]) [0, 1, 2, 3, 4, 5, 6, 7, 8, 9] (by decide) rfl
  have hK9 := hK.sub (tys' := []) [] rfl
  refine W.widen (k := 1) (n := 9) (Nat.le_of_ble_eq_true rfl) (Nat.le_of_ble_eq_true rfl) ?_
  have hZ := zz_one hAe hD hP 10 [0, 1, 2, 3, 4, 5, 6, 7, 8, 9] rfl rfl (by decide)
  exact W.iret (v := 30) hx hb hr (fun t ht hW => ⟨⟨30, (), rfl, by (first | rfl | assumption | decide | (simp_all; done) | grind), ⟨by rw [ht]; exact hP9, va_K.moved hW.alike hK9, hD9, by rw [ht]; omega⟩⟩, hS.F ht⟩) hS.2.2 dX3_roofTold_107

set_option maxHeartbeats 4000000 in
set_option maxRecDepth 100000 in
theorem r3_roofTold3 (l : Launch) (dC : Nat → ClassId) (dI : Nat → Nat → Nat) (sz : Nat) (hm : Nat) (wi : Nat) (co : Nat) (sl : Nat) (rn : Nat) (so : Nat) (bn : Nat) (sm : Nat) (ah : Nat) (th : Int32) (gr : Nat) (gt : Nat) (gw : Nat) (gk : Nat) (gi : Nat) (gp : Nat) (go : Nat) (gg : Nat) (d1 : ClassId) (d2 : ClassId) (d3 : ClassId) (d4 : ClassId) (d8 : ClassId) (d9 : ClassId) (d10 : ClassId) (d11 : ClassId) (fw : Nat → Int32) (fc : Nat → Int32) (fs : Nat → Int32) (fg : Nat → Int32) (fk : Nat → Int32) (ru : Nat) (hk : ∀ j : Nat, j < 360 → fk j = -1) (hw : ∀ j : Nat, j < 6 → fw j = 10) (hc : ∀ j : Nat, j < 6 → fc j = 6) (hs : ∀ j : Nat, j < 6 → fs j = 30) (hg : ∀ j : Nat, j < 6 → fg j = 100) (hru : ru < 6) : Met l yX3_roofTold wsX3_roofTold ({ frames := 2, cells := 1, slots := 9, locals := 47 }) (va_Pc [.ref hm, .int (nI ru), .int 3] (fun U => U.heap.size = sz ∧ va_P (dC, dI) vwCl [(hm, .inr (3, [.int th, .int 6, .ref wi, .ref co, .ref sl, .ref rn, .ref so, .ref bn, .ref sm, .ref ah])), (sm, .inr (2, [.int 0, .ref gr, .ref gt, .ref gw, .ref gk, .ref gi, .ref gp, .ref go, .ref gg, .ref hm])), (wi, .inl (d1, 6, .inl fw)), (co, .inl (d2, 6, .inl fc)), (sl, .inl (d3, 6, .inl fs)), (gr, .inl (d4, 6, .inl fg)), (gt, .inl (d8, 6, .inl (fun _ => 0))), (gw, .inl (d9, 6, .inl (fun _ => 0))), (gk, .inl (d10, 360, .inl fk)), (gi, .inl (d11, 360, .inl (fun _ => 0)))] U.heap ∧ va_K (dC, dI) vwCl [(d1, .int), (d2, .int), (d3, .int), (d4, .int), (d8, .int), (d9, .int), (d10, .int), (d11, .int)] U ∧ va_D (fun _ => True) [(hm, .inr (3, [.int th, .int 6, .ref wi, .ref co, .ref sl, .ref rn, .ref so, .ref bn, .ref sm, .ref ah])), (sm, .inr (2, [.int 0, .ref gr, .ref gt, .ref gw, .ref gk, .ref gi, .ref gp, .ref go, .ref gg, .ref hm])), (wi, .inl (d1, 6, .inl fw)), (co, .inl (d2, 6, .inl fc)), (sl, .inl (d3, 6, .inl fs)), (gr, .inl (d4, 6, .inl fg)), (gt, .inl (d8, 6, .inl (fun _ => 0))), (gw, .inl (d9, 6, .inl (fun _ => 0))), (gk, .inl (d10, 360, .inl fk)), (gi, .inl (d11, 360, .inl (fun _ => 0)))] ∧ zNs U)) (va_Qi (fun (r : Int32) (u : Unit) => r = 100) (fun (u : Unit) (t : State) => va_P (dC, dI) vwCl [(hm, .inr (3, [.int th, .int 6, .ref wi, .ref co, .ref sl, .ref rn, .ref so, .ref bn, .ref sm, .ref ah])), (sm, .inr (2, [.int 0, .ref gr, .ref gt, .ref gw, .ref gk, .ref gi, .ref gp, .ref go, .ref gg, .ref hm])), (wi, .inl (d1, 6, .inl fw)), (co, .inl (d2, 6, .inl fc)), (sl, .inl (d3, 6, .inl fs)), (gr, .inl (d4, 6, .inl fg)), (gt, .inl (d8, 6, .inl (fun _ => 0))), (gw, .inl (d9, 6, .inl (fun _ => 0))), (gk, .inl (d10, 360, .inl fk)), (gi, .inl (d11, 360, .inl (fun _ => 0)))] t.heap ∧ va_K (dC, dI) vwCl [] t ∧ va_D (va_A [(hm, .inr (3, [.int th, .int 6, .ref wi, .ref co, .ref sl, .ref rn, .ref so, .ref bn, .ref sm, .ref ah])), (sm, .inr (2, [.int 0, .ref gr, .ref gt, .ref gw, .ref gk, .ref gi, .ref gp, .ref go, .ref gg, .ref hm])), (wi, .inl (d1, 6, .inl fw)), (co, .inl (d2, 6, .inl fc)), (sl, .inl (d3, 6, .inl fs)), (gr, .inl (d4, 6, .inl fg)), (gt, .inl (d8, 6, .inl (fun _ => 0))), (gw, .inl (d9, 6, .inl (fun _ => 0))), (gk, .inl (d10, 360, .inl fk)), (gi, .inl (d11, 360, .inl (fun _ => 0)))] sz) [(hm, .inr (3, [.int th, .int 6, .ref wi, .ref co, .ref sl, .ref rn, .ref so, .ref bn, .ref sm, .ref ah])), (sm, .inr (2, [.int 0, .ref gr, .ref gt, .ref gw, .ref gk, .ref gi, .ref gp, .ref go, .ref gg, .ref hm])), (wi, .inl (d1, 6, .inl fw)), (co, .inl (d2, 6, .inl fc)), (sl, .inl (d3, 6, .inl fs)), (gr, .inl (d4, 6, .inl fg)), (gt, .inl (d8, 6, .inl (fun _ => 0))), (gw, .inl (d9, 6, .inl (fun _ => 0))), (gk, .inl (d10, 360, .inl fk)), (gi, .inl (d11, 360, .inl (fun _ => 0)))] ∧ sz + 1 ≤ t.heap.size) (va_A [(hm, .inr (3, [.int th, .int 6, .ref wi, .ref co, .ref sl, .ref rn, .ref so, .ref bn, .ref sm, .ref ah])), (sm, .inr (2, [.int 0, .ref gr, .ref gt, .ref gw, .ref gk, .ref gi, .ref gp, .ref go, .ref gg, .ref hm])), (wi, .inl (d1, 6, .inl fw)), (co, .inl (d2, 6, .inl fc)), (sl, .inl (d3, 6, .inl fs)), (gr, .inl (d4, 6, .inl fg)), (gt, .inl (d8, 6, .inl (fun _ => 0))), (gw, .inl (d9, 6, .inl (fun _ => 0))), (gk, .inl (d10, 360, .inl fk)), (gi, .inl (d11, 360, .inl (fun _ => 0)))] sz)) 1 9 (va_A [(hm, .inr (3, [.int th, .int 6, .ref wi, .ref co, .ref sl, .ref rn, .ref so, .ref bn, .ref sm, .ref ah])), (sm, .inr (2, [.int 0, .ref gr, .ref gt, .ref gw, .ref gk, .ref gi, .ref gp, .ref go, .ref gg, .ref hm])), (wi, .inl (d1, 6, .inl fw)), (co, .inl (d2, 6, .inl fc)), (sl, .inl (d3, 6, .inl fs)), (gr, .inl (d4, 6, .inl fg)), (gt, .inl (d8, 6, .inl (fun _ => 0))), (gw, .inl (d9, 6, .inl (fun _ => 0))), (gk, .inl (d10, 360, .inl fk)), (gi, .inl (d11, 360, .inl (fun _ => 0)))] sz) := by
  refine Met.ofW (cc := cX3_roofTold) (maxL := 4) (ret := (some .int)) (by decide) rfl ?_
  intro p e s m args below meth c s₁ B hml hv
  obtain ⟨rfl, hsz, hP, hK, hD0, hZN⟩ := hv
  have hx := B.exec
  have hb := B.bytes
  have hr := B.returns
  have hts := atoms_spec (ws := wsX3_roofTold) B.pre
  have hown : s.vm.findClass RX3 = some m.cls := findClass_of_methodNamed B.named
  have hlocks := B.notSynchronized
  subst hsz
  have hD := hD0.self (sz := s.heap.size)
  generalize hAe : va_A [(hm, .inr (3, [.int th, .int 6, .ref wi, .ref co, .ref sl, .ref rn, .ref so, .ref bn, .ref sm, .ref ah])), (sm, .inr (2, [.int 0, .ref gr, .ref gt, .ref gw, .ref gk, .ref gi, .ref gp, .ref go, .ref gg, .ref hm])), (wi, .inl (d1, 6, .inl fw)), (co, .inl (d2, 6, .inl fc)), (sl, .inl (d3, 6, .inl fs)), (gr, .inl (d4, 6, .inl fg)), (gt, .inl (d8, 6, .inl (fun _ => 0))), (gw, .inl (d9, 6, .inl (fun _ => 0))), (gk, .inl (d10, 360, .inl fk)), (gi, .inl (d11, 360, .inl (fun _ => 0)))] s.heap.size = A at hD ⊢
  have hA : ∀ q : Nat, s.heap.size ≤ q → A q := fun q h => by rw [← hAe]; exact Or.inr h
  have hS : va_S A s.heap s.heap [] := va_S.rf
  have hP : va_P (dC, dI) vwCl [(hm, .inr (3, [.int th, .int 6, .ref wi, .ref co, .ref sl, .ref rn, .ref so, .ref bn, .ref sm, .ref ah])), (sm, .inr (2, [.int 0, .ref gr, .ref gt, .ref gw, .ref gk, .ref gi, .ref gp, .ref go, .ref gg, .ref hm])), (wi, .inl (d1, 6, .inl fw)), (co, .inl (d2, 6, .inl fc)), (sl, .inl (d3, 6, .inl fs)), (gr, .inl (d4, 6, .inl fg)), (gt, .inl (d8, 6, .inl (fun _ => 0))), (gw, .inl (d9, 6, .inl (fun _ => 0))), (gk, .inl (d10, 360, .inl fk)), (gi, .inl (d11, 360, .inl (fun _ => 0)))] s.heap := hP
  have hl := lv_entry ([.ref hm, .int (nI ru), .int 3]) (n := 4) (Nat.le_of_ble_eq_true rfl)
  rw [lg_entry_eq]
  generalize (lg_sl ([.ref hm, .int (nI ru), .int 3]) ++ List.replicate (4 - (lg_sl ([.ref hm, .int (nI ru), .int 3])).length) Slot.unset).toArray = ls at hl ⊢
  have hl : lv_has ls 4 [(0, .ref hm), (1, .int (nI ru)), (2, .int 3)] := hl
  refine lv_bipush (v := 9) hx hb dX3_roofTold_0 (by decide) ?_
  refine va_newa (atype := .int) (ty := .int) (N' := 9) (a0 := (9, .inl (fun _ => 0))) hx hb (hts (.arrayClass .int) (by decide +kernel)) rfl hK hP hD hS hA (fun _ => rfl) (by decide) (by decide) (by decide) (Nat.le_of_ble_eq_true rfl) (Nat.le_of_ble_eq_true rfl) dX3_roofTold_2 (fun q1 cA2 H hK hP hD hS => ?_)
  refine W.widen (k := 1) (n := 9) (Nat.le_of_ble_eq_true rfl) (Nat.le_of_ble_eq_true rfl) ?_
  have hK : va_K (dC, dI) vwCl [(d1, .int), (d2, .int), (d3, .int), (d4, .int), (d8, .int), (d9, .int), (d10, .int), (d11, .int), (cA2, .int)] s := hK
  have hP : va_P (dC, dI) vwCl [(hm, .inr (3, [.int th, .int 6, .ref wi, .ref co, .ref sl, .ref rn, .ref so, .ref bn, .ref sm, .ref ah])), (sm, .inr (2, [.int 0, .ref gr, .ref gt, .ref gw, .ref gk, .ref gi, .ref gp, .ref go, .ref gg, .ref hm])), (wi, .inl (d1, 6, .inl fw)), (co, .inl (d2, 6, .inl fc)), (sl, .inl (d3, 6, .inl fs)), (gr, .inl (d4, 6, .inl fg)), (gt, .inl (d8, 6, .inl (fun _ => 0))), (gw, .inl (d9, 6, .inl (fun _ => 0))), (gk, .inl (d10, 360, .inl fk)), (gi, .inl (d11, 360, .inl (fun _ => 0))), (q1, .inl (cA2, 9, .inl (fun _ => 0)))] H := hP
  have hD : va_D A [(hm, .inr (3, [.int th, .int 6, .ref wi, .ref co, .ref sl, .ref rn, .ref so, .ref bn, .ref sm, .ref ah])), (sm, .inr (2, [.int 0, .ref gr, .ref gt, .ref gw, .ref gk, .ref gi, .ref gp, .ref go, .ref gg, .ref hm])), (wi, .inl (d1, 6, .inl fw)), (co, .inl (d2, 6, .inl fc)), (sl, .inl (d3, 6, .inl fs)), (gr, .inl (d4, 6, .inl fg)), (gt, .inl (d8, 6, .inl (fun _ => 0))), (gw, .inl (d9, 6, .inl (fun _ => 0))), (gk, .inl (d10, 360, .inl fk)), (gi, .inl (d11, 360, .inl (fun _ => 0))), (q1, .inl (cA2, 9, .inl (fun _ => 0)))] := hD
  refine lv_dup hx hb dX3_roofTold_4 rfl ?_
  refine lv_iconst (v := 0) hx hb dX3_roofTold_5 (by decide) ?_
  refine lv_aload_n hx hb dX3_roofTold_6 rfl (lv_at hl 0 rfl) ?_
  refine va_get (D := (dC, dI)) (ci := 3) (v := .ref wi) (C := RX3) (T := TX3) (N := 10) hx hb hts (by decide +kernel) hown hK hP 0 rfl rfl 2 (by decide) (hts (.fieldLink RX3 9 "ThatchRoofModel" "width" "[I") (by decide +kernel)) (fun _ h9 => h9) rfl dX3_roofTold_7 ?_
  refine lv_iload_n hx hb dX3_roofTold_10 rfl (lv_at hl 1 rfl) ?_
  refine va_iald hx hb hK hP 2 0 rfl rfl (vp_in_nI (by omega) (by omega)) dX3_roofTold_11 ?_
  refine lv_topi (fun x3 ex3 => ?_)
  rw [nI_clamp (show ru < 2 ^ 31 by omega)] at ex3
  obtain rfl : x3 = 10 := ex3.trans (hw _ (by omega))
  refine va_iast hx hb hK hP hD hS 10 8 rfl rfl (vp_in_nI (n := 0) (by decide) (by decide)) dX3_roofTold_12 (fun H locs hP hD hS => ?_)
  have hP : va_P (dC, dI) vwCl [(hm, .inr (3, [.int th, .int 6, .ref wi, .ref co, .ref sl, .ref rn, .ref so, .ref bn, .ref sm, .ref ah])), (sm, .inr (2, [.int 0, .ref gr, .ref gt, .ref gw, .ref gk, .ref gi, .ref gp, .ref go, .ref gg, .ref hm])), (wi, .inl (d1, 6, .inl fw)), (co, .inl (d2, 6, .inl fc)), (sl, .inl (d3, 6, .inl fs)), (gr, .inl (d4, 6, .inl fg)), (gt, .inl (d8, 6, .inl (fun _ => 0))), (gw, .inl (d9, 6, .inl (fun _ => 0))), (gk, .inl (d10, 360, .inl fk)), (gi, .inl (d11, 360, .inl (fun _ => 0))), (q1, .inl (cA2, 9, .inl (upd (fun _ => 0) 0 10)))] H := hP
  have hD : va_D A [(hm, .inr (3, [.int th, .int 6, .ref wi, .ref co, .ref sl, .ref rn, .ref so, .ref bn, .ref sm, .ref ah])), (sm, .inr (2, [.int 0, .ref gr, .ref gt, .ref gw, .ref gk, .ref gi, .ref gp, .ref go, .ref gg, .ref hm])), (wi, .inl (d1, 6, .inl fw)), (co, .inl (d2, 6, .inl fc)), (sl, .inl (d3, 6, .inl fs)), (gr, .inl (d4, 6, .inl fg)), (gt, .inl (d8, 6, .inl (fun _ => 0))), (gw, .inl (d9, 6, .inl (fun _ => 0))), (gk, .inl (d10, 360, .inl fk)), (gi, .inl (d11, 360, .inl (fun _ => 0))), (q1, .inl (cA2, 9, .inl (upd (fun _ => 0) 0 10)))] := hD
  refine lv_dup hx hb dX3_roofTold_13 rfl ?_
  refine lv_iconst (v := 1) hx hb dX3_roofTold_14 (by decide) ?_
  refine lv_aload_n hx hb dX3_roofTold_15 rfl (lv_at hl 0 rfl) ?_
  refine va_get (D := (dC, dI)) (ci := 3) (v := .ref co) (C := RX3) (T := TX3) (N := 10) hx hb hts (by decide +kernel) hown hK hP 0 rfl rfl 3 (by decide) (hts (.fieldLink RX3 13 "ThatchRoofModel" "courses" "[I") (by decide +kernel)) (fun _ h9 => h9) rfl dX3_roofTold_16 ?_
  refine lv_iload_n hx hb dX3_roofTold_19 rfl (lv_at hl 1 rfl) ?_
  refine va_iald hx hb hK hP 3 1 rfl rfl (vp_in_nI (by omega) (by omega)) dX3_roofTold_20 ?_
  refine lv_topi (fun x4 ex4 => ?_)
  rw [nI_clamp (show ru < 2 ^ 31 by omega)] at ex4
  obtain rfl : x4 = 6 := ex4.trans (hc _ (by omega))
  refine va_iast hx hb hK hP hD hS 10 8 rfl rfl (vp_in_nI (n := 1) (by decide) (by decide)) dX3_roofTold_21 (fun H locs hP hD hS => ?_)
  have hP : va_P (dC, dI) vwCl [(hm, .inr (3, [.int th, .int 6, .ref wi, .ref co, .ref sl, .ref rn, .ref so, .ref bn, .ref sm, .ref ah])), (sm, .inr (2, [.int 0, .ref gr, .ref gt, .ref gw, .ref gk, .ref gi, .ref gp, .ref go, .ref gg, .ref hm])), (wi, .inl (d1, 6, .inl fw)), (co, .inl (d2, 6, .inl fc)), (sl, .inl (d3, 6, .inl fs)), (gr, .inl (d4, 6, .inl fg)), (gt, .inl (d8, 6, .inl (fun _ => 0))), (gw, .inl (d9, 6, .inl (fun _ => 0))), (gk, .inl (d10, 360, .inl fk)), (gi, .inl (d11, 360, .inl (fun _ => 0))), (q1, .inl (cA2, 9, .inl (upd (upd (fun _ => 0) 0 10) 1 6)))] H := hP
  have hD : va_D A [(hm, .inr (3, [.int th, .int 6, .ref wi, .ref co, .ref sl, .ref rn, .ref so, .ref bn, .ref sm, .ref ah])), (sm, .inr (2, [.int 0, .ref gr, .ref gt, .ref gw, .ref gk, .ref gi, .ref gp, .ref go, .ref gg, .ref hm])), (wi, .inl (d1, 6, .inl fw)), (co, .inl (d2, 6, .inl fc)), (sl, .inl (d3, 6, .inl fs)), (gr, .inl (d4, 6, .inl fg)), (gt, .inl (d8, 6, .inl (fun _ => 0))), (gw, .inl (d9, 6, .inl (fun _ => 0))), (gk, .inl (d10, 360, .inl fk)), (gi, .inl (d11, 360, .inl (fun _ => 0))), (q1, .inl (cA2, 9, .inl (upd (upd (fun _ => 0) 0 10) 1 6)))] := hD
  refine lv_dup hx hb dX3_roofTold_22 rfl ?_
  refine lv_iconst (v := 2) hx hb dX3_roofTold_23 (by decide) ?_
  refine lv_aload_n hx hb dX3_roofTold_24 rfl (lv_at hl 0 rfl) ?_
  refine va_get (D := (dC, dI)) (ci := 3) (v := .ref sl) (C := RX3) (T := TX3) (N := 10) hx hb hts (by decide +kernel) hown hK hP 0 rfl rfl 4 (by decide) (hts (.fieldLink RX3 16 "ThatchRoofModel" "slope" "[I") (by decide +kernel)) (fun _ h9 => h9) rfl dX3_roofTold_25 ?_
  refine lv_iload_n hx hb dX3_roofTold_28 rfl (lv_at hl 1 rfl) ?_
  refine va_iald hx hb hK hP 4 2 rfl rfl (vp_in_nI (by omega) (by omega)) dX3_roofTold_29 ?_
  refine lv_topi (fun x5 ex5 => ?_)
  rw [nI_clamp (show ru < 2 ^ 31 by omega)] at ex5
  obtain rfl : x5 = 30 := ex5.trans (hs _ (by omega))
  refine va_iast hx hb hK hP hD hS 10 8 rfl rfl (vp_in_nI (n := 2) (by decide) (by decide)) dX3_roofTold_30 (fun H locs hP hD hS => ?_)
  have hP : va_P (dC, dI) vwCl [(hm, .inr (3, [.int th, .int 6, .ref wi, .ref co, .ref sl, .ref rn, .ref so, .ref bn, .ref sm, .ref ah])), (sm, .inr (2, [.int 0, .ref gr, .ref gt, .ref gw, .ref gk, .ref gi, .ref gp, .ref go, .ref gg, .ref hm])), (wi, .inl (d1, 6, .inl fw)), (co, .inl (d2, 6, .inl fc)), (sl, .inl (d3, 6, .inl fs)), (gr, .inl (d4, 6, .inl fg)), (gt, .inl (d8, 6, .inl (fun _ => 0))), (gw, .inl (d9, 6, .inl (fun _ => 0))), (gk, .inl (d10, 360, .inl fk)), (gi, .inl (d11, 360, .inl (fun _ => 0))), (q1, .inl (cA2, 9, .inl (upd (upd (upd (fun _ => 0) 0 10) 1 6) 2 30)))] H := hP
  have hD : va_D A [(hm, .inr (3, [.int th, .int 6, .ref wi, .ref co, .ref sl, .ref rn, .ref so, .ref bn, .ref sm, .ref ah])), (sm, .inr (2, [.int 0, .ref gr, .ref gt, .ref gw, .ref gk, .ref gi, .ref gp, .ref go, .ref gg, .ref hm])), (wi, .inl (d1, 6, .inl fw)), (co, .inl (d2, 6, .inl fc)), (sl, .inl (d3, 6, .inl fs)), (gr, .inl (d4, 6, .inl fg)), (gt, .inl (d8, 6, .inl (fun _ => 0))), (gw, .inl (d9, 6, .inl (fun _ => 0))), (gk, .inl (d10, 360, .inl fk)), (gi, .inl (d11, 360, .inl (fun _ => 0))), (q1, .inl (cA2, 9, .inl (upd (upd (upd (fun _ => 0) 0 10) 1 6) 2 30)))] := hD
  refine lv_dup hx hb dX3_roofTold_31 rfl ?_
  refine lv_iconst (v := 3) hx hb dX3_roofTold_32 (by decide) ?_
  refine lv_aload_n hx hb dX3_roofTold_33 rfl (lv_at hl 0 rfl) ?_
  refine va_get (D := (dC, dI)) (ci := 3) (v := .ref sm) (C := RX3) (T := TX3) (N := 10) hx hb hts (by decide +kernel) hown hK hP 0 rfl rfl 8 (by decide) (hts (.fieldLink RX3 33 "ThatchRoofModel" "s" "LThatchRoofModel$State;") (by decide +kernel)) (fun _ h9 => h9) rfl dX3_roofTold_34 ?_
  refine va_getN (D := (dC, dI)) (ci := 2) (v := .ref gr) (C := RX2) (T := TX2) (N := 10) hx hb hts (by decide +kernel) hown hK hP 1 rfl rfl 1 (by decide) (va_Nw.use rfl (zN_RX3_63 hZN)) (fun _ h9 => h9) rfl dX3_roofTold_37 ?_
  refine lv_iload_n hx hb dX3_roofTold_40 rfl (lv_at hl 1 rfl) ?_
  refine va_iald hx hb hK hP 5 3 rfl rfl (vp_in_nI (by omega) (by omega)) dX3_roofTold_41 ?_
  refine lv_topi (fun x6 ex6 => ?_)
  rw [nI_clamp (show ru < 2 ^ 31 by omega)] at ex6
  obtain rfl : x6 = 100 := ex6.trans (hg _ (by omega))
  refine va_iast hx hb hK hP hD hS 10 8 rfl rfl (vp_in_nI (n := 3) (by decide) (by decide)) dX3_roofTold_42 (fun H locs hP hD hS => ?_)
  have hP : va_P (dC, dI) vwCl [(hm, .inr (3, [.int th, .int 6, .ref wi, .ref co, .ref sl, .ref rn, .ref so, .ref bn, .ref sm, .ref ah])), (sm, .inr (2, [.int 0, .ref gr, .ref gt, .ref gw, .ref gk, .ref gi, .ref gp, .ref go, .ref gg, .ref hm])), (wi, .inl (d1, 6, .inl fw)), (co, .inl (d2, 6, .inl fc)), (sl, .inl (d3, 6, .inl fs)), (gr, .inl (d4, 6, .inl fg)), (gt, .inl (d8, 6, .inl (fun _ => 0))), (gw, .inl (d9, 6, .inl (fun _ => 0))), (gk, .inl (d10, 360, .inl fk)), (gi, .inl (d11, 360, .inl (fun _ => 0))), (q1, .inl (cA2, 9, .inl (upd (upd (upd (upd (fun _ => 0) 0 10) 1 6) 2 30) 3 100)))] H := hP
  have hD : va_D A [(hm, .inr (3, [.int th, .int 6, .ref wi, .ref co, .ref sl, .ref rn, .ref so, .ref bn, .ref sm, .ref ah])), (sm, .inr (2, [.int 0, .ref gr, .ref gt, .ref gw, .ref gk, .ref gi, .ref gp, .ref go, .ref gg, .ref hm])), (wi, .inl (d1, 6, .inl fw)), (co, .inl (d2, 6, .inl fc)), (sl, .inl (d3, 6, .inl fs)), (gr, .inl (d4, 6, .inl fg)), (gt, .inl (d8, 6, .inl (fun _ => 0))), (gw, .inl (d9, 6, .inl (fun _ => 0))), (gk, .inl (d10, 360, .inl fk)), (gi, .inl (d11, 360, .inl (fun _ => 0))), (q1, .inl (cA2, 9, .inl (upd (upd (upd (upd (fun _ => 0) 0 10) 1 6) 2 30) 3 100)))] := hD
  refine lv_dup hx hb dX3_roofTold_43 rfl ?_
  refine lv_iconst (v := 4) hx hb dX3_roofTold_44 (by decide) ?_
  refine lv_aload_n hx hb dX3_roofTold_45 rfl (lv_at hl 0 rfl) ?_
  refine va_get (D := (dC, dI)) (ci := 3) (v := .ref sm) (C := RX3) (T := TX3) (N := 10) hx hb hts (by decide +kernel) hown hK hP 0 rfl rfl 8 (by decide) (hts (.fieldLink RX3 33 "ThatchRoofModel" "s" "LThatchRoofModel$State;") (by decide +kernel)) (fun _ h9 => h9) rfl dX3_roofTold_46 ?_
  refine lv_iload_n hx hb dX3_roofTold_49 rfl (lv_at hl 1 rfl) ?_
  have hPc := hP.sub (ws' := [(sm, .inr (2, [.int 0, .ref gr, .ref gt, .ref gw, .ref gk, .ref gi, .ref gp, .ref go, .ref gg, .ref hm])), (gk, .inl (d10, 360, .inl fk))]) [1, 8] rfl
  have hKc := hK.sub (tys' := [(d10, .int)]) [6] rfl
  refine vp_callSi (va_runV (As := [.int (nI ru)]) (rest := [.int 4, .ref q1, .ref q1]) ⟨hx, hb, hml, hown, hts⟩ (r2_yealms l dC dI sm hm gr gt gw gk gi gp go gg d10 fk ru (by first | assumption | decide | omega) (by first | assumption | decide | omega)) (cwV 1 hts gX3_roofTold_X2_yealms rfl rfl rfl (by decide +kernel) ⟨Nat.le_of_ble_eq_true rfl, Nat.le_of_ble_eq_true rfl⟩) ⟨fun a U g mk q => by obtain ⟨q0, qP, qK⟩ := q; exact ⟨q0, qP, va_K.moved (u := U) (U := U.calling g mk a) (Vm.Alike.refl U.vm) qK⟩, va_recv hKc hPc (ci := 2) (q0 := 0) rfl rfl, fun U hU hW => ⟨rfl, by rw [hU]; exact hPc, va_K.moved hW.alike hKc⟩⟩ rfl rfl hl.1 rfl (lv_room (Nat.le_of_ble_eq_true rfl)) dX3_roofTold_50 ⟨Nat.le_of_ble_eq_true rfl, Nat.le_of_ble_eq_true rfl⟩).run (fun r7 hr7 => ?_)
  obtain rfl := hr7
  refine va_iast hx hb hK hP hD hS 10 8 rfl rfl (vp_in_nI (n := 4) (by decide) (by decide)) dX3_roofTold_53 (fun H locs hP hD hS => ?_)
  have hP : va_P (dC, dI) vwCl [(hm, .inr (3, [.int th, .int 6, .ref wi, .ref co, .ref sl, .ref rn, .ref so, .ref bn, .ref sm, .ref ah])), (sm, .inr (2, [.int 0, .ref gr, .ref gt, .ref gw, .ref gk, .ref gi, .ref gp, .ref go, .ref gg, .ref hm])), (wi, .inl (d1, 6, .inl fw)), (co, .inl (d2, 6, .inl fc)), (sl, .inl (d3, 6, .inl fs)), (gr, .inl (d4, 6, .inl fg)), (gt, .inl (d8, 6, .inl (fun _ => 0))), (gw, .inl (d9, 6, .inl (fun _ => 0))), (gk, .inl (d10, 360, .inl fk)), (gi, .inl (d11, 360, .inl (fun _ => 0))), (q1, .inl (cA2, 9, .inl (upd (upd (upd (upd (upd (fun _ => 0) 0 10) 1 6) 2 30) 3 100) 4 0)))] H := hP
  have hD : va_D A [(hm, .inr (3, [.int th, .int 6, .ref wi, .ref co, .ref sl, .ref rn, .ref so, .ref bn, .ref sm, .ref ah])), (sm, .inr (2, [.int 0, .ref gr, .ref gt, .ref gw, .ref gk, .ref gi, .ref gp, .ref go, .ref gg, .ref hm])), (wi, .inl (d1, 6, .inl fw)), (co, .inl (d2, 6, .inl fc)), (sl, .inl (d3, 6, .inl fs)), (gr, .inl (d4, 6, .inl fg)), (gt, .inl (d8, 6, .inl (fun _ => 0))), (gw, .inl (d9, 6, .inl (fun _ => 0))), (gk, .inl (d10, 360, .inl fk)), (gi, .inl (d11, 360, .inl (fun _ => 0))), (q1, .inl (cA2, 9, .inl (upd (upd (upd (upd (upd (fun _ => 0) 0 10) 1 6) 2 30) 3 100) 4 0)))] := hD
  refine lv_dup hx hb dX3_roofTold_54 rfl ?_
  refine lv_iconst (v := 5) hx hb dX3_roofTold_55 (by decide) ?_
  refine lv_aload_n hx hb dX3_roofTold_56 rfl (lv_at hl 0 rfl) ?_
  refine va_get (D := (dC, dI)) (ci := 3) (v := .ref sm) (C := RX3) (T := TX3) (N := 10) hx hb hts (by decide +kernel) hown hK hP 0 rfl rfl 8 (by decide) (hts (.fieldLink RX3 33 "ThatchRoofModel" "s" "LThatchRoofModel$State;") (by decide +kernel)) (fun _ h9 => h9) rfl dX3_roofTold_57 ?_
  refine lv_iload_n hx hb dX3_roofTold_60 rfl (lv_at hl 1 rfl) ?_
  have hPc := hP.sub (ws' := [(sm, .inr (2, [.int 0, .ref gr, .ref gt, .ref gw, .ref gk, .ref gi, .ref gp, .ref go, .ref gg, .ref hm])), (gi, .inl (d11, 360, .inl (fun _ => 0)))]) [1, 9] rfl
  have hKc := hK.sub (tys' := [(d11, .int)]) [7] rfl
  refine vp_callSi (va_runV (As := [.int (nI ru)]) (rest := [.int 5, .ref q1, .ref q1]) ⟨hx, hb, hml, hown, hts⟩ (r2_thickness l dC dI sm hm gr gt gw gk gi gp go gg d11 ru (by first | assumption | decide | omega)) (cwV 1 hts gX3_roofTold_X2_thickness rfl rfl rfl (by decide +kernel) ⟨Nat.le_of_ble_eq_true rfl, Nat.le_of_ble_eq_true rfl⟩) ⟨fun a U g mk q => by obtain ⟨q0, qP, qK⟩ := q; exact ⟨q0, qP, va_K.moved (u := U) (U := U.calling g mk a) (Vm.Alike.refl U.vm) qK⟩, va_recv hKc hPc (ci := 2) (q0 := 0) rfl rfl, fun U hU hW => ⟨rfl, by rw [hU]; exact hPc, va_K.moved hW.alike hKc⟩⟩ rfl rfl hl.1 rfl (lv_room (Nat.le_of_ble_eq_true rfl)) dX3_roofTold_61 ⟨Nat.le_of_ble_eq_true rfl, Nat.le_of_ble_eq_true rfl⟩).run (fun r8 hr8 => ?_)
  obtain rfl := hr8
  refine va_iast hx hb hK hP hD hS 10 8 rfl rfl (vp_in_nI (n := 5) (by decide) (by decide)) dX3_roofTold_64 (fun H locs hP hD hS => ?_)
  have hP : va_P (dC, dI) vwCl [(hm, .inr (3, [.int th, .int 6, .ref wi, .ref co, .ref sl, .ref rn, .ref so, .ref bn, .ref sm, .ref ah])), (sm, .inr (2, [.int 0, .ref gr, .ref gt, .ref gw, .ref gk, .ref gi, .ref gp, .ref go, .ref gg, .ref hm])), (wi, .inl (d1, 6, .inl fw)), (co, .inl (d2, 6, .inl fc)), (sl, .inl (d3, 6, .inl fs)), (gr, .inl (d4, 6, .inl fg)), (gt, .inl (d8, 6, .inl (fun _ => 0))), (gw, .inl (d9, 6, .inl (fun _ => 0))), (gk, .inl (d10, 360, .inl fk)), (gi, .inl (d11, 360, .inl (fun _ => 0))), (q1, .inl (cA2, 9, .inl (upd (upd (upd (upd (upd (upd (fun _ => 0) 0 10) 1 6) 2 30) 3 100) 4 0) 5 0)))] H := hP
  have hD : va_D A [(hm, .inr (3, [.int th, .int 6, .ref wi, .ref co, .ref sl, .ref rn, .ref so, .ref bn, .ref sm, .ref ah])), (sm, .inr (2, [.int 0, .ref gr, .ref gt, .ref gw, .ref gk, .ref gi, .ref gp, .ref go, .ref gg, .ref hm])), (wi, .inl (d1, 6, .inl fw)), (co, .inl (d2, 6, .inl fc)), (sl, .inl (d3, 6, .inl fs)), (gr, .inl (d4, 6, .inl fg)), (gt, .inl (d8, 6, .inl (fun _ => 0))), (gw, .inl (d9, 6, .inl (fun _ => 0))), (gk, .inl (d10, 360, .inl fk)), (gi, .inl (d11, 360, .inl (fun _ => 0))), (q1, .inl (cA2, 9, .inl (upd (upd (upd (upd (upd (upd (fun _ => 0) 0 10) 1 6) 2 30) 3 100) 4 0) 5 0)))] := hD
  refine lv_dup hx hb dX3_roofTold_65 rfl ?_
  refine lv_bipush (v := 6) hx hb dX3_roofTold_66 (by decide) ?_
  refine lv_aload_n hx hb dX3_roofTold_68 rfl (lv_at hl 0 rfl) ?_
  refine va_get (D := (dC, dI)) (ci := 3) (v := .ref sm) (C := RX3) (T := TX3) (N := 10) hx hb hts (by decide +kernel) hown hK hP 0 rfl rfl 8 (by decide) (hts (.fieldLink RX3 33 "ThatchRoofModel" "s" "LThatchRoofModel$State;") (by decide +kernel)) (fun _ h9 => h9) rfl dX3_roofTold_69 ?_
  refine lv_iload_n hx hb dX3_roofTold_72 rfl (lv_at hl 1 rfl) ?_
  have hPc := hP.sub (ws' := [(sm, .inr (2, [.int 0, .ref gr, .ref gt, .ref gw, .ref gk, .ref gi, .ref gp, .ref go, .ref gg, .ref hm])), (hm, .inr (3, [.int th, .int 6, .ref wi, .ref co, .ref sl, .ref rn, .ref so, .ref bn, .ref sm, .ref ah])), (wi, .inl (d1, 6, .inl fw)), (co, .inl (d2, 6, .inl fc)), (gk, .inl (d10, 360, .inl fk)), (gi, .inl (d11, 360, .inl (fun _ => 0)))]) [1, 0, 2, 3, 8, 9] rfl
  have hKc := hK.sub (tys' := [(d1, .int), (d2, .int), (d10, .int), (d11, .int)]) [0, 1, 6, 7] rfl
  refine vp_callSi (va_runV (As := [.int (nI ru)]) (rest := [.int 6, .ref q1, .ref q1]) ⟨hx, hb, hml, hown, hts⟩ (r2_leaks l dC dI hm wi co sl rn so bn sm ah th gr gt gw gk gi gp go gg d1 d2 d10 d11 fw fc fk ru (by first | assumption | decide | omega) (by first | assumption | decide | omega) (by first | assumption | decide | omega) (by first | assumption | decide | omega)) (cwV 1 hts gX3_roofTold_X2_leaks rfl rfl rfl (by decide +kernel) ⟨Nat.le_of_ble_eq_true rfl, Nat.le_of_ble_eq_true rfl⟩) ⟨fun a U g mk q => by obtain ⟨q0, qP, qK, qN⟩ := q; exact ⟨q0, qP, va_K.moved (u := U) (U := U.calling g mk a) (Vm.Alike.refl U.vm) qK, zNs.calling qN⟩, va_recv hKc hPc (ci := 2) (q0 := 0) rfl rfl, fun U hU hW => ⟨rfl, by rw [hU]; exact hPc, va_K.moved hW.alike hKc, zNs.warm hW hZN⟩⟩ rfl rfl hl.1 rfl (lv_room (Nat.le_of_ble_eq_true rfl)) dX3_roofTold_73 ⟨Nat.le_of_ble_eq_true rfl, Nat.le_of_ble_eq_true rfl⟩).run (fun r9 hr9 => ?_)
  obtain rfl := hr9
  refine va_iast hx hb hK hP hD hS 10 8 rfl rfl (vp_in_nI (n := 6) (by decide) (by decide)) dX3_roofTold_76 (fun H locs hP hD hS => ?_)
  have hP : va_P (dC, dI) vwCl [(hm, .inr (3, [.int th, .int 6, .ref wi, .ref co, .ref sl, .ref rn, .ref so, .ref bn, .ref sm, .ref ah])), (sm, .inr (2, [.int 0, .ref gr, .ref gt, .ref gw, .ref gk, .ref gi, .ref gp, .ref go, .ref gg, .ref hm])), (wi, .inl (d1, 6, .inl fw)), (co, .inl (d2, 6, .inl fc)), (sl, .inl (d3, 6, .inl fs)), (gr, .inl (d4, 6, .inl fg)), (gt, .inl (d8, 6, .inl (fun _ => 0))), (gw, .inl (d9, 6, .inl (fun _ => 0))), (gk, .inl (d10, 360, .inl fk)), (gi, .inl (d11, 360, .inl (fun _ => 0))), (q1, .inl (cA2, 9, .inl (upd (upd (upd (upd (upd (upd (upd (fun _ => 0) 0 10) 1 6) 2 30) 3 100) 4 0) 5 0) 6 10)))] H := hP
  have hD : va_D A [(hm, .inr (3, [.int th, .int 6, .ref wi, .ref co, .ref sl, .ref rn, .ref so, .ref bn, .ref sm, .ref ah])), (sm, .inr (2, [.int 0, .ref gr, .ref gt, .ref gw, .ref gk, .ref gi, .ref gp, .ref go, .ref gg, .ref hm])), (wi, .inl (d1, 6, .inl fw)), (co, .inl (d2, 6, .inl fc)), (sl, .inl (d3, 6, .inl fs)), (gr, .inl (d4, 6, .inl fg)), (gt, .inl (d8, 6, .inl (fun _ => 0))), (gw, .inl (d9, 6, .inl (fun _ => 0))), (gk, .inl (d10, 360, .inl fk)), (gi, .inl (d11, 360, .inl (fun _ => 0))), (q1, .inl (cA2, 9, .inl (upd (upd (upd (upd (upd (upd (upd (fun _ => 0) 0 10) 1 6) 2 30) 3 100) 4 0) 5 0) 6 10)))] := hD
  refine lv_dup hx hb dX3_roofTold_77 rfl ?_
  refine lv_bipush (v := 7) hx hb dX3_roofTold_78 (by decide) ?_
  refine lv_aload_n hx hb dX3_roofTold_80 rfl (lv_at hl 0 rfl) ?_
  refine va_get (D := (dC, dI)) (ci := 3) (v := .ref sm) (C := RX3) (T := TX3) (N := 10) hx hb hts (by decide +kernel) hown hK hP 0 rfl rfl 8 (by decide) (hts (.fieldLink RX3 33 "ThatchRoofModel" "s" "LThatchRoofModel$State;") (by decide +kernel)) (fun _ h9 => h9) rfl dX3_roofTold_81 ?_
  refine va_getN (D := (dC, dI)) (ci := 2) (v := .ref gt) (C := RX2) (T := TX2) (N := 10) hx hb hts (by decide +kernel) hown hK hP 1 rfl rfl 2 (by decide) (va_Nw.use rfl (zN_RX3_118 hZN)) (fun _ h9 => h9) rfl dX3_roofTold_84 ?_
  refine lv_iload_n hx hb dX3_roofTold_87 rfl (lv_at hl 1 rfl) ?_
  refine va_iald hx hb hK hP 6 4 rfl rfl (vp_in_nI (by omega) (by omega)) dX3_roofTold_88 ?_
  refine lv_topi (fun x10 ex10 => ?_)
  obtain rfl : x10 = 0 := ex10
  refine va_iast hx hb hK hP hD hS 10 8 rfl rfl (vp_in_nI (n := 7) (by decide) (by decide)) dX3_roofTold_89 (fun H locs hP hD hS => ?_)
  have hP : va_P (dC, dI) vwCl [(hm, .inr (3, [.int th, .int 6, .ref wi, .ref co, .ref sl, .ref rn, .ref so, .ref bn, .ref sm, .ref ah])), (sm, .inr (2, [.int 0, .ref gr, .ref gt, .ref gw, .ref gk, .ref gi, .ref gp, .ref go, .ref gg, .ref hm])), (wi, .inl (d1, 6, .inl fw)), (co, .inl (d2, 6, .inl fc)), (sl, .inl (d3, 6, .inl fs)), (gr, .inl (d4, 6, .inl fg)), (gt, .inl (d8, 6, .inl (fun _ => 0))), (gw, .inl (d9, 6, .inl (fun _ => 0))), (gk, .inl (d10, 360, .inl fk)), (gi, .inl (d11, 360, .inl (fun _ => 0))), (q1, .inl (cA2, 9, .inl (upd (upd (upd (upd (upd (upd (upd (upd (fun _ => 0) 0 10) 1 6) 2 30) 3 100) 4 0) 5 0) 6 10) 7 0)))] H := hP
  have hD : va_D A [(hm, .inr (3, [.int th, .int 6, .ref wi, .ref co, .ref sl, .ref rn, .ref so, .ref bn, .ref sm, .ref ah])), (sm, .inr (2, [.int 0, .ref gr, .ref gt, .ref gw, .ref gk, .ref gi, .ref gp, .ref go, .ref gg, .ref hm])), (wi, .inl (d1, 6, .inl fw)), (co, .inl (d2, 6, .inl fc)), (sl, .inl (d3, 6, .inl fs)), (gr, .inl (d4, 6, .inl fg)), (gt, .inl (d8, 6, .inl (fun _ => 0))), (gw, .inl (d9, 6, .inl (fun _ => 0))), (gk, .inl (d10, 360, .inl fk)), (gi, .inl (d11, 360, .inl (fun _ => 0))), (q1, .inl (cA2, 9, .inl (upd (upd (upd (upd (upd (upd (upd (upd (fun _ => 0) 0 10) 1 6) 2 30) 3 100) 4 0) 5 0) 6 10) 7 0)))] := hD
  refine lv_dup hx hb dX3_roofTold_90 rfl ?_
  refine lv_bipush (v := 8) hx hb dX3_roofTold_91 (by decide) ?_
  refine lv_aload_n hx hb dX3_roofTold_93 rfl (lv_at hl 0 rfl) ?_
  refine va_get (D := (dC, dI)) (ci := 3) (v := .ref sm) (C := RX3) (T := TX3) (N := 10) hx hb hts (by decide +kernel) hown hK hP 0 rfl rfl 8 (by decide) (hts (.fieldLink RX3 33 "ThatchRoofModel" "s" "LThatchRoofModel$State;") (by decide +kernel)) (fun _ h9 => h9) rfl dX3_roofTold_94 ?_
  refine va_getN (D := (dC, dI)) (ci := 2) (v := .ref gw) (C := RX2) (T := TX2) (N := 10) hx hb hts (by decide +kernel) hown hK hP 1 rfl rfl 3 (by decide) (va_Nw.use rfl (zN_RX3_121 hZN)) (fun _ h9 => h9) rfl dX3_roofTold_97 ?_
  refine lv_iload_n hx hb dX3_roofTold_100 rfl (lv_at hl 1 rfl) ?_
  refine va_iald hx hb hK hP 7 5 rfl rfl (vp_in_nI (by omega) (by omega)) dX3_roofTold_101 ?_
  refine lv_topi (fun x11 ex11 => ?_)
  obtain rfl : x11 = 0 := ex11
  refine va_iast hx hb hK hP hD hS 10 8 rfl rfl (vp_in_nI (n := 8) (by decide) (by decide)) dX3_roofTold_102 (fun H locs hP hD hS => ?_)
  have hP : va_P (dC, dI) vwCl [(hm, .inr (3, [.int th, .int 6, .ref wi, .ref co, .ref sl, .ref rn, .ref so, .ref bn, .ref sm, .ref ah])), (sm, .inr (2, [.int 0, .ref gr, .ref gt, .ref gw, .ref gk, .ref gi, .ref gp, .ref go, .ref gg, .ref hm])), (wi, .inl (d1, 6, .inl fw)), (co, .inl (d2, 6, .inl fc)), (sl, .inl (d3, 6, .inl fs)), (gr, .inl (d4, 6, .inl fg)), (gt, .inl (d8, 6, .inl (fun _ => 0))), (gw, .inl (d9, 6, .inl (fun _ => 0))), (gk, .inl (d10, 360, .inl fk)), (gi, .inl (d11, 360, .inl (fun _ => 0))), (q1, .inl (cA2, 9, .inl (upd (upd (upd (upd (upd (upd (upd (upd (upd (fun _ => 0) 0 10) 1 6) 2 30) 3 100) 4 0) 5 0) 6 10) 7 0) 8 0)))] H := hP
  have hD : va_D A [(hm, .inr (3, [.int th, .int 6, .ref wi, .ref co, .ref sl, .ref rn, .ref so, .ref bn, .ref sm, .ref ah])), (sm, .inr (2, [.int 0, .ref gr, .ref gt, .ref gw, .ref gk, .ref gi, .ref gp, .ref go, .ref gg, .ref hm])), (wi, .inl (d1, 6, .inl fw)), (co, .inl (d2, 6, .inl fc)), (sl, .inl (d3, 6, .inl fs)), (gr, .inl (d4, 6, .inl fg)), (gt, .inl (d8, 6, .inl (fun _ => 0))), (gw, .inl (d9, 6, .inl (fun _ => 0))), (gk, .inl (d10, 360, .inl fk)), (gi, .inl (d11, 360, .inl (fun _ => 0))), (q1, .inl (cA2, 9, .inl (upd (upd (upd (upd (upd (upd (upd (upd (upd (fun _ => 0) 0 10) 1 6) 2 30) 3 100) 4 0) 5 0) 6 10) 7 0) 8 0)))] := hD
  refine lv_astore_n (lv' := [(3, .ref q1), (0, .ref hm), (1, .int (nI ru)), (2, .int 3)]) hx hb dX3_roofTold_103 rfl hl (by decide) rfl (fun ls hl => ?_)
  refine lv_aload_n hx hb dX3_roofTold_104 rfl (lv_at hl 0 rfl) ?_
  refine lv_iload_n hx hb dX3_roofTold_105 rfl (lv_at hl 3 rfl) ?_
  refine va_iald hx hb hK hP 10 8 rfl rfl (vp_in_nI (n := 3) (by decide) (by decide)) dX3_roofTold_106 ?_
  refine lv_topi (fun x12 ex12 => ?_)
  obtain rfl : x12 = 100 := ex12
  have hP9 := hP.sub (ws' := [(hm, .inr (3, [.int th, .int 6, .ref wi, .ref co, .ref sl, .ref rn, .ref so, .ref bn, .ref sm, .ref ah])), (sm, .inr (2, [.int 0, .ref gr, .ref gt, .ref gw, .ref gk, .ref gi, .ref gp, .ref go, .ref gg, .ref hm])), (wi, .inl (d1, 6, .inl fw)), (co, .inl (d2, 6, .inl fc)), (sl, .inl (d3, 6, .inl fs)), (gr, .inl (d4, 6, .inl fg)), (gt, .inl (d8, 6, .inl (fun _ => 0))), (gw, .inl (d9, 6, .inl (fun _ => 0))), (gk, .inl (d10, 360, .inl fk)), (gi, .inl (d11, 360, .inl (fun _ => 0)))]) [0, 1, 2, 3, 4, 5, 6, 7, 8, 9] rfl
  have hD9 := hD.sub (ws' := [(hm, .inr (3, [.int th, .int 6, .ref wi, .ref co, .ref sl, .ref rn, .ref so, .ref bn, .ref sm, .ref ah])), (sm, .inr (2, [.int 0, .ref gr, .ref gt, .ref gw, .ref gk, .ref gi, .ref gp, .ref go, .ref gg, .ref hm])), (wi, .inl (d1, 6, .inl fw)), (co, .inl (d2, 6, .inl fc)), (sl, .inl (d3, 6, .inl fs)), (gr, .inl (d4, 6, .inl fg)), (gt, .inl (d8, 6, .inl (fun _ => 0))), (gw, .inl (d9, 6, .inl (fun _ => 0))), (gk, .inl (d10, 360, .inl fk)), (gi, .inl (d11, 360, .inl (fun _ => 0)))]) [0, 1, 2, 3, 4, 5, 6, 7, 8, 9] (by decide) rfl
  have hK9 := hK.sub (tys' := []) [] rfl
  refine W.widen (k := 1) (n := 9) (Nat.le_of_ble_eq_true rfl) (Nat.le_of_ble_eq_true rfl) ?_
  have hZ := zz_one hAe hD hP 10 [0, 1, 2, 3, 4, 5, 6, 7, 8, 9] rfl rfl (by decide)
  exact W.iret (v := 100) hx hb hr (fun t ht hW => ⟨⟨100, (), rfl, by (first | rfl | assumption | decide | (simp_all; done) | grind), ⟨by rw [ht]; exact hP9, va_K.moved hW.alike hK9, hD9, by rw [ht]; omega⟩⟩, hS.F ht⟩) hS.2.2 dX3_roofTold_107

set_option maxHeartbeats 4000000 in
set_option maxRecDepth 100000 in
theorem r3_roofTold4 (l : Launch) (dC : Nat → ClassId) (dI : Nat → Nat → Nat) (sz : Nat) (hm : Nat) (wi : Nat) (co : Nat) (sl : Nat) (rn : Nat) (so : Nat) (bn : Nat) (sm : Nat) (ah : Nat) (th : Int32) (gr : Nat) (gt : Nat) (gw : Nat) (gk : Nat) (gi : Nat) (gp : Nat) (go : Nat) (gg : Nat) (d1 : ClassId) (d2 : ClassId) (d3 : ClassId) (d4 : ClassId) (d8 : ClassId) (d9 : ClassId) (d10 : ClassId) (d11 : ClassId) (fw : Nat → Int32) (fc : Nat → Int32) (fs : Nat → Int32) (fg : Nat → Int32) (fk : Nat → Int32) (ru : Nat) (hk : ∀ j : Nat, j < 360 → fk j = -1) (hw : ∀ j : Nat, j < 6 → fw j = 10) (hc : ∀ j : Nat, j < 6 → fc j = 6) (hs : ∀ j : Nat, j < 6 → fs j = 30) (hg : ∀ j : Nat, j < 6 → fg j = 100) (hru : ru < 6) : Met l yX3_roofTold wsX3_roofTold ({ frames := 2, cells := 1, slots := 9, locals := 47 }) (va_Pc [.ref hm, .int (nI ru), .int 4] (fun U => U.heap.size = sz ∧ va_P (dC, dI) vwCl [(hm, .inr (3, [.int th, .int 6, .ref wi, .ref co, .ref sl, .ref rn, .ref so, .ref bn, .ref sm, .ref ah])), (sm, .inr (2, [.int 0, .ref gr, .ref gt, .ref gw, .ref gk, .ref gi, .ref gp, .ref go, .ref gg, .ref hm])), (wi, .inl (d1, 6, .inl fw)), (co, .inl (d2, 6, .inl fc)), (sl, .inl (d3, 6, .inl fs)), (gr, .inl (d4, 6, .inl fg)), (gt, .inl (d8, 6, .inl (fun _ => 0))), (gw, .inl (d9, 6, .inl (fun _ => 0))), (gk, .inl (d10, 360, .inl fk)), (gi, .inl (d11, 360, .inl (fun _ => 0)))] U.heap ∧ va_K (dC, dI) vwCl [(d1, .int), (d2, .int), (d3, .int), (d4, .int), (d8, .int), (d9, .int), (d10, .int), (d11, .int)] U ∧ va_D (fun _ => True) [(hm, .inr (3, [.int th, .int 6, .ref wi, .ref co, .ref sl, .ref rn, .ref so, .ref bn, .ref sm, .ref ah])), (sm, .inr (2, [.int 0, .ref gr, .ref gt, .ref gw, .ref gk, .ref gi, .ref gp, .ref go, .ref gg, .ref hm])), (wi, .inl (d1, 6, .inl fw)), (co, .inl (d2, 6, .inl fc)), (sl, .inl (d3, 6, .inl fs)), (gr, .inl (d4, 6, .inl fg)), (gt, .inl (d8, 6, .inl (fun _ => 0))), (gw, .inl (d9, 6, .inl (fun _ => 0))), (gk, .inl (d10, 360, .inl fk)), (gi, .inl (d11, 360, .inl (fun _ => 0)))] ∧ zNs U)) (va_Qi (fun (r : Int32) (u : Unit) => r = 0) (fun (u : Unit) (t : State) => va_P (dC, dI) vwCl [(hm, .inr (3, [.int th, .int 6, .ref wi, .ref co, .ref sl, .ref rn, .ref so, .ref bn, .ref sm, .ref ah])), (sm, .inr (2, [.int 0, .ref gr, .ref gt, .ref gw, .ref gk, .ref gi, .ref gp, .ref go, .ref gg, .ref hm])), (wi, .inl (d1, 6, .inl fw)), (co, .inl (d2, 6, .inl fc)), (sl, .inl (d3, 6, .inl fs)), (gr, .inl (d4, 6, .inl fg)), (gt, .inl (d8, 6, .inl (fun _ => 0))), (gw, .inl (d9, 6, .inl (fun _ => 0))), (gk, .inl (d10, 360, .inl fk)), (gi, .inl (d11, 360, .inl (fun _ => 0)))] t.heap ∧ va_K (dC, dI) vwCl [] t ∧ va_D (va_A [(hm, .inr (3, [.int th, .int 6, .ref wi, .ref co, .ref sl, .ref rn, .ref so, .ref bn, .ref sm, .ref ah])), (sm, .inr (2, [.int 0, .ref gr, .ref gt, .ref gw, .ref gk, .ref gi, .ref gp, .ref go, .ref gg, .ref hm])), (wi, .inl (d1, 6, .inl fw)), (co, .inl (d2, 6, .inl fc)), (sl, .inl (d3, 6, .inl fs)), (gr, .inl (d4, 6, .inl fg)), (gt, .inl (d8, 6, .inl (fun _ => 0))), (gw, .inl (d9, 6, .inl (fun _ => 0))), (gk, .inl (d10, 360, .inl fk)), (gi, .inl (d11, 360, .inl (fun _ => 0)))] sz) [(hm, .inr (3, [.int th, .int 6, .ref wi, .ref co, .ref sl, .ref rn, .ref so, .ref bn, .ref sm, .ref ah])), (sm, .inr (2, [.int 0, .ref gr, .ref gt, .ref gw, .ref gk, .ref gi, .ref gp, .ref go, .ref gg, .ref hm])), (wi, .inl (d1, 6, .inl fw)), (co, .inl (d2, 6, .inl fc)), (sl, .inl (d3, 6, .inl fs)), (gr, .inl (d4, 6, .inl fg)), (gt, .inl (d8, 6, .inl (fun _ => 0))), (gw, .inl (d9, 6, .inl (fun _ => 0))), (gk, .inl (d10, 360, .inl fk)), (gi, .inl (d11, 360, .inl (fun _ => 0)))] ∧ sz + 1 ≤ t.heap.size) (va_A [(hm, .inr (3, [.int th, .int 6, .ref wi, .ref co, .ref sl, .ref rn, .ref so, .ref bn, .ref sm, .ref ah])), (sm, .inr (2, [.int 0, .ref gr, .ref gt, .ref gw, .ref gk, .ref gi, .ref gp, .ref go, .ref gg, .ref hm])), (wi, .inl (d1, 6, .inl fw)), (co, .inl (d2, 6, .inl fc)), (sl, .inl (d3, 6, .inl fs)), (gr, .inl (d4, 6, .inl fg)), (gt, .inl (d8, 6, .inl (fun _ => 0))), (gw, .inl (d9, 6, .inl (fun _ => 0))), (gk, .inl (d10, 360, .inl fk)), (gi, .inl (d11, 360, .inl (fun _ => 0)))] sz)) 1 9 (va_A [(hm, .inr (3, [.int th, .int 6, .ref wi, .ref co, .ref sl, .ref rn, .ref so, .ref bn, .ref sm, .ref ah])), (sm, .inr (2, [.int 0, .ref gr, .ref gt, .ref gw, .ref gk, .ref gi, .ref gp, .ref go, .ref gg, .ref hm])), (wi, .inl (d1, 6, .inl fw)), (co, .inl (d2, 6, .inl fc)), (sl, .inl (d3, 6, .inl fs)), (gr, .inl (d4, 6, .inl fg)), (gt, .inl (d8, 6, .inl (fun _ => 0))), (gw, .inl (d9, 6, .inl (fun _ => 0))), (gk, .inl (d10, 360, .inl fk)), (gi, .inl (d11, 360, .inl (fun _ => 0)))] sz) := by
  refine Met.ofW (cc := cX3_roofTold) (maxL := 4) (ret := (some .int)) (by decide) rfl ?_
  intro p e s m args below meth c s₁ B hml hv
  obtain ⟨rfl, hsz, hP, hK, hD0, hZN⟩ := hv
  have hx := B.exec
  have hb := B.bytes
  have hr := B.returns
  have hts := atoms_spec (ws := wsX3_roofTold) B.pre
  have hown : s.vm.findClass RX3 = some m.cls := findClass_of_methodNamed B.named
  have hlocks := B.notSynchronized
  subst hsz
  have hD := hD0.self (sz := s.heap.size)
  generalize hAe : va_A [(hm, .inr (3, [.int th, .int 6, .ref wi, .ref co, .ref sl, .ref rn, .ref so, .ref bn, .ref sm, .ref ah])), (sm, .inr (2, [.int 0, .ref gr, .ref gt, .ref gw, .ref gk, .ref gi, .ref gp, .ref go, .ref gg, .ref hm])), (wi, .inl (d1, 6, .inl fw)), (co, .inl (d2, 6, .inl fc)), (sl, .inl (d3, 6, .inl fs)), (gr, .inl (d4, 6, .inl fg)), (gt, .inl (d8, 6, .inl (fun _ => 0))), (gw, .inl (d9, 6, .inl (fun _ => 0))), (gk, .inl (d10, 360, .inl fk)), (gi, .inl (d11, 360, .inl (fun _ => 0)))] s.heap.size = A at hD ⊢
  have hA : ∀ q : Nat, s.heap.size ≤ q → A q := fun q h => by rw [← hAe]; exact Or.inr h
  have hS : va_S A s.heap s.heap [] := va_S.rf
  have hP : va_P (dC, dI) vwCl [(hm, .inr (3, [.int th, .int 6, .ref wi, .ref co, .ref sl, .ref rn, .ref so, .ref bn, .ref sm, .ref ah])), (sm, .inr (2, [.int 0, .ref gr, .ref gt, .ref gw, .ref gk, .ref gi, .ref gp, .ref go, .ref gg, .ref hm])), (wi, .inl (d1, 6, .inl fw)), (co, .inl (d2, 6, .inl fc)), (sl, .inl (d3, 6, .inl fs)), (gr, .inl (d4, 6, .inl fg)), (gt, .inl (d8, 6, .inl (fun _ => 0))), (gw, .inl (d9, 6, .inl (fun _ => 0))), (gk, .inl (d10, 360, .inl fk)), (gi, .inl (d11, 360, .inl (fun _ => 0)))] s.heap := hP
  have hl := lv_entry ([.ref hm, .int (nI ru), .int 4]) (n := 4) (Nat.le_of_ble_eq_true rfl)
  rw [lg_entry_eq]
  generalize (lg_sl ([.ref hm, .int (nI ru), .int 4]) ++ List.replicate (4 - (lg_sl ([.ref hm, .int (nI ru), .int 4])).length) Slot.unset).toArray = ls at hl ⊢
  have hl : lv_has ls 4 [(0, .ref hm), (1, .int (nI ru)), (2, .int 4)] := hl
  refine lv_bipush (v := 9) hx hb dX3_roofTold_0 (by decide) ?_
  refine va_newa (atype := .int) (ty := .int) (N' := 9) (a0 := (9, .inl (fun _ => 0))) hx hb (hts (.arrayClass .int) (by decide +kernel)) rfl hK hP hD hS hA (fun _ => rfl) (by decide) (by decide) (by decide) (Nat.le_of_ble_eq_true rfl) (Nat.le_of_ble_eq_true rfl) dX3_roofTold_2 (fun q1 cA2 H hK hP hD hS => ?_)
  refine W.widen (k := 1) (n := 9) (Nat.le_of_ble_eq_true rfl) (Nat.le_of_ble_eq_true rfl) ?_
  have hK : va_K (dC, dI) vwCl [(d1, .int), (d2, .int), (d3, .int), (d4, .int), (d8, .int), (d9, .int), (d10, .int), (d11, .int), (cA2, .int)] s := hK
  have hP : va_P (dC, dI) vwCl [(hm, .inr (3, [.int th, .int 6, .ref wi, .ref co, .ref sl, .ref rn, .ref so, .ref bn, .ref sm, .ref ah])), (sm, .inr (2, [.int 0, .ref gr, .ref gt, .ref gw, .ref gk, .ref gi, .ref gp, .ref go, .ref gg, .ref hm])), (wi, .inl (d1, 6, .inl fw)), (co, .inl (d2, 6, .inl fc)), (sl, .inl (d3, 6, .inl fs)), (gr, .inl (d4, 6, .inl fg)), (gt, .inl (d8, 6, .inl (fun _ => 0))), (gw, .inl (d9, 6, .inl (fun _ => 0))), (gk, .inl (d10, 360, .inl fk)), (gi, .inl (d11, 360, .inl (fun _ => 0))), (q1, .inl (cA2, 9, .inl (fun _ => 0)))] H := hP
  have hD : va_D A [(hm, .inr (3, [.int th, .int 6, .ref wi, .ref co, .ref sl, .ref rn, .ref so, .ref bn, .ref sm, .ref ah])), (sm, .inr (2, [.int 0, .ref gr, .ref gt, .ref gw, .ref gk, .ref gi, .ref gp, .ref go, .ref gg, .ref hm])), (wi, .inl (d1, 6, .inl fw)), (co, .inl (d2, 6, .inl fc)), (sl, .inl (d3, 6, .inl fs)), (gr, .inl (d4, 6, .inl fg)), (gt, .inl (d8, 6, .inl (fun _ => 0))), (gw, .inl (d9, 6, .inl (fun _ => 0))), (gk, .inl (d10, 360, .inl fk)), (gi, .inl (d11, 360, .inl (fun _ => 0))), (q1, .inl (cA2, 9, .inl (fun _ => 0)))] := hD
  refine lv_dup hx hb dX3_roofTold_4 rfl ?_
  refine lv_iconst (v := 0) hx hb dX3_roofTold_5 (by decide) ?_
  refine lv_aload_n hx hb dX3_roofTold_6 rfl (lv_at hl 0 rfl) ?_
  refine va_get (D := (dC, dI)) (ci := 3) (v := .ref wi) (C := RX3) (T := TX3) (N := 10) hx hb hts (by decide +kernel) hown hK hP 0 rfl rfl 2 (by decide) (hts (.fieldLink RX3 9 "ThatchRoofModel" "width" "[I") (by decide +kernel)) (fun _ h9 => h9) rfl dX3_roofTold_7 ?_
  refine lv_iload_n hx hb dX3_roofTold_10 rfl (lv_at hl 1 rfl) ?_
  refine va_iald hx hb hK hP 2 0 rfl rfl (vp_in_nI (by omega) (by omega)) dX3_roofTold_11 ?_
  refine lv_topi (fun x3 ex3 => ?_)
  rw [nI_clamp (show ru < 2 ^ 31 by omega)] at ex3
  obtain rfl : x3 = 10 := ex3.trans (hw _ (by omega))
  refine va_iast hx hb hK hP hD hS 10 8 rfl rfl (vp_in_nI (n := 0) (by decide) (by decide)) dX3_roofTold_12 (fun H locs hP hD hS => ?_)
  have hP : va_P (dC, dI) vwCl [(hm, .inr (3, [.int th, .int 6, .ref wi, .ref co, .ref sl, .ref rn, .ref so, .ref bn, .ref sm, .ref ah])), (sm, .inr (2, [.int 0, .ref gr, .ref gt, .ref gw, .ref gk, .ref gi, .ref gp, .ref go, .ref gg, .ref hm])), (wi, .inl (d1, 6, .inl fw)), (co, .inl (d2, 6, .inl fc)), (sl, .inl (d3, 6, .inl fs)), (gr, .inl (d4, 6, .inl fg)), (gt, .inl (d8, 6, .inl (fun _ => 0))), (gw, .inl (d9, 6, .inl (fun _ => 0))), (gk, .inl (d10, 360, .inl fk)), (gi, .inl (d11, 360, .inl (fun _ => 0))), (q1, .inl (cA2, 9, .inl (upd (fun _ => 0) 0 10)))] H := hP
  have hD : va_D A [(hm, .inr (3, [.int th, .int 6, .ref wi, .ref co, .ref sl, .ref rn, .ref so, .ref bn, .ref sm, .ref ah])), (sm, .inr (2, [.int 0, .ref gr, .ref gt, .ref gw, .ref gk, .ref gi, .ref gp, .ref go, .ref gg, .ref hm])), (wi, .inl (d1, 6, .inl fw)), (co, .inl (d2, 6, .inl fc)), (sl, .inl (d3, 6, .inl fs)), (gr, .inl (d4, 6, .inl fg)), (gt, .inl (d8, 6, .inl (fun _ => 0))), (gw, .inl (d9, 6, .inl (fun _ => 0))), (gk, .inl (d10, 360, .inl fk)), (gi, .inl (d11, 360, .inl (fun _ => 0))), (q1, .inl (cA2, 9, .inl (upd (fun _ => 0) 0 10)))] := hD
  refine lv_dup hx hb dX3_roofTold_13 rfl ?_
  refine lv_iconst (v := 1) hx hb dX3_roofTold_14 (by decide) ?_
  refine lv_aload_n hx hb dX3_roofTold_15 rfl (lv_at hl 0 rfl) ?_
  refine va_get (D := (dC, dI)) (ci := 3) (v := .ref co) (C := RX3) (T := TX3) (N := 10) hx hb hts (by decide +kernel) hown hK hP 0 rfl rfl 3 (by decide) (hts (.fieldLink RX3 13 "ThatchRoofModel" "courses" "[I") (by decide +kernel)) (fun _ h9 => h9) rfl dX3_roofTold_16 ?_
  refine lv_iload_n hx hb dX3_roofTold_19 rfl (lv_at hl 1 rfl) ?_
  refine va_iald hx hb hK hP 3 1 rfl rfl (vp_in_nI (by omega) (by omega)) dX3_roofTold_20 ?_
  refine lv_topi (fun x4 ex4 => ?_)
  rw [nI_clamp (show ru < 2 ^ 31 by omega)] at ex4
  obtain rfl : x4 = 6 := ex4.trans (hc _ (by omega))
  refine va_iast hx hb hK hP hD hS 10 8 rfl rfl (vp_in_nI (n := 1) (by decide) (by decide)) dX3_roofTold_21 (fun H locs hP hD hS => ?_)
  have hP : va_P (dC, dI) vwCl [(hm, .inr (3, [.int th, .int 6, .ref wi, .ref co, .ref sl, .ref rn, .ref so, .ref bn, .ref sm, .ref ah])), (sm, .inr (2, [.int 0, .ref gr, .ref gt, .ref gw, .ref gk, .ref gi, .ref gp, .ref go, .ref gg, .ref hm])), (wi, .inl (d1, 6, .inl fw)), (co, .inl (d2, 6, .inl fc)), (sl, .inl (d3, 6, .inl fs)), (gr, .inl (d4, 6, .inl fg)), (gt, .inl (d8, 6, .inl (fun _ => 0))), (gw, .inl (d9, 6, .inl (fun _ => 0))), (gk, .inl (d10, 360, .inl fk)), (gi, .inl (d11, 360, .inl (fun _ => 0))), (q1, .inl (cA2, 9, .inl (upd (upd (fun _ => 0) 0 10) 1 6)))] H := hP
  have hD : va_D A [(hm, .inr (3, [.int th, .int 6, .ref wi, .ref co, .ref sl, .ref rn, .ref so, .ref bn, .ref sm, .ref ah])), (sm, .inr (2, [.int 0, .ref gr, .ref gt, .ref gw, .ref gk, .ref gi, .ref gp, .ref go, .ref gg, .ref hm])), (wi, .inl (d1, 6, .inl fw)), (co, .inl (d2, 6, .inl fc)), (sl, .inl (d3, 6, .inl fs)), (gr, .inl (d4, 6, .inl fg)), (gt, .inl (d8, 6, .inl (fun _ => 0))), (gw, .inl (d9, 6, .inl (fun _ => 0))), (gk, .inl (d10, 360, .inl fk)), (gi, .inl (d11, 360, .inl (fun _ => 0))), (q1, .inl (cA2, 9, .inl (upd (upd (fun _ => 0) 0 10) 1 6)))] := hD
  refine lv_dup hx hb dX3_roofTold_22 rfl ?_
  refine lv_iconst (v := 2) hx hb dX3_roofTold_23 (by decide) ?_
  refine lv_aload_n hx hb dX3_roofTold_24 rfl (lv_at hl 0 rfl) ?_
  refine va_get (D := (dC, dI)) (ci := 3) (v := .ref sl) (C := RX3) (T := TX3) (N := 10) hx hb hts (by decide +kernel) hown hK hP 0 rfl rfl 4 (by decide) (hts (.fieldLink RX3 16 "ThatchRoofModel" "slope" "[I") (by decide +kernel)) (fun _ h9 => h9) rfl dX3_roofTold_25 ?_
  refine lv_iload_n hx hb dX3_roofTold_28 rfl (lv_at hl 1 rfl) ?_
  refine va_iald hx hb hK hP 4 2 rfl rfl (vp_in_nI (by omega) (by omega)) dX3_roofTold_29 ?_
  refine lv_topi (fun x5 ex5 => ?_)
  rw [nI_clamp (show ru < 2 ^ 31 by omega)] at ex5
  obtain rfl : x5 = 30 := ex5.trans (hs _ (by omega))
  refine va_iast hx hb hK hP hD hS 10 8 rfl rfl (vp_in_nI (n := 2) (by decide) (by decide)) dX3_roofTold_30 (fun H locs hP hD hS => ?_)
  have hP : va_P (dC, dI) vwCl [(hm, .inr (3, [.int th, .int 6, .ref wi, .ref co, .ref sl, .ref rn, .ref so, .ref bn, .ref sm, .ref ah])), (sm, .inr (2, [.int 0, .ref gr, .ref gt, .ref gw, .ref gk, .ref gi, .ref gp, .ref go, .ref gg, .ref hm])), (wi, .inl (d1, 6, .inl fw)), (co, .inl (d2, 6, .inl fc)), (sl, .inl (d3, 6, .inl fs)), (gr, .inl (d4, 6, .inl fg)), (gt, .inl (d8, 6, .inl (fun _ => 0))), (gw, .inl (d9, 6, .inl (fun _ => 0))), (gk, .inl (d10, 360, .inl fk)), (gi, .inl (d11, 360, .inl (fun _ => 0))), (q1, .inl (cA2, 9, .inl (upd (upd (upd (fun _ => 0) 0 10) 1 6) 2 30)))] H := hP
  have hD : va_D A [(hm, .inr (3, [.int th, .int 6, .ref wi, .ref co, .ref sl, .ref rn, .ref so, .ref bn, .ref sm, .ref ah])), (sm, .inr (2, [.int 0, .ref gr, .ref gt, .ref gw, .ref gk, .ref gi, .ref gp, .ref go, .ref gg, .ref hm])), (wi, .inl (d1, 6, .inl fw)), (co, .inl (d2, 6, .inl fc)), (sl, .inl (d3, 6, .inl fs)), (gr, .inl (d4, 6, .inl fg)), (gt, .inl (d8, 6, .inl (fun _ => 0))), (gw, .inl (d9, 6, .inl (fun _ => 0))), (gk, .inl (d10, 360, .inl fk)), (gi, .inl (d11, 360, .inl (fun _ => 0))), (q1, .inl (cA2, 9, .inl (upd (upd (upd (fun _ => 0) 0 10) 1 6) 2 30)))] := hD
  refine lv_dup hx hb dX3_roofTold_31 rfl ?_
  refine lv_iconst (v := 3) hx hb dX3_roofTold_32 (by decide) ?_
  refine lv_aload_n hx hb dX3_roofTold_33 rfl (lv_at hl 0 rfl) ?_
  refine va_get (D := (dC, dI)) (ci := 3) (v := .ref sm) (C := RX3) (T := TX3) (N := 10) hx hb hts (by decide +kernel) hown hK hP 0 rfl rfl 8 (by decide) (hts (.fieldLink RX3 33 "ThatchRoofModel" "s" "LThatchRoofModel$State;") (by decide +kernel)) (fun _ h9 => h9) rfl dX3_roofTold_34 ?_
  refine va_getN (D := (dC, dI)) (ci := 2) (v := .ref gr) (C := RX2) (T := TX2) (N := 10) hx hb hts (by decide +kernel) hown hK hP 1 rfl rfl 1 (by decide) (va_Nw.use rfl (zN_RX3_63 hZN)) (fun _ h9 => h9) rfl dX3_roofTold_37 ?_
  refine lv_iload_n hx hb dX3_roofTold_40 rfl (lv_at hl 1 rfl) ?_
  refine va_iald hx hb hK hP 5 3 rfl rfl (vp_in_nI (by omega) (by omega)) dX3_roofTold_41 ?_
  refine lv_topi (fun x6 ex6 => ?_)
  rw [nI_clamp (show ru < 2 ^ 31 by omega)] at ex6
  obtain rfl : x6 = 100 := ex6.trans (hg _ (by omega))
  refine va_iast hx hb hK hP hD hS 10 8 rfl rfl (vp_in_nI (n := 3) (by decide) (by decide)) dX3_roofTold_42 (fun H locs hP hD hS => ?_)
  have hP : va_P (dC, dI) vwCl [(hm, .inr (3, [.int th, .int 6, .ref wi, .ref co, .ref sl, .ref rn, .ref so, .ref bn, .ref sm, .ref ah])), (sm, .inr (2, [.int 0, .ref gr, .ref gt, .ref gw, .ref gk, .ref gi, .ref gp, .ref go, .ref gg, .ref hm])), (wi, .inl (d1, 6, .inl fw)), (co, .inl (d2, 6, .inl fc)), (sl, .inl (d3, 6, .inl fs)), (gr, .inl (d4, 6, .inl fg)), (gt, .inl (d8, 6, .inl (fun _ => 0))), (gw, .inl (d9, 6, .inl (fun _ => 0))), (gk, .inl (d10, 360, .inl fk)), (gi, .inl (d11, 360, .inl (fun _ => 0))), (q1, .inl (cA2, 9, .inl (upd (upd (upd (upd (fun _ => 0) 0 10) 1 6) 2 30) 3 100)))] H := hP
  have hD : va_D A [(hm, .inr (3, [.int th, .int 6, .ref wi, .ref co, .ref sl, .ref rn, .ref so, .ref bn, .ref sm, .ref ah])), (sm, .inr (2, [.int 0, .ref gr, .ref gt, .ref gw, .ref gk, .ref gi, .ref gp, .ref go, .ref gg, .ref hm])), (wi, .inl (d1, 6, .inl fw)), (co, .inl (d2, 6, .inl fc)), (sl, .inl (d3, 6, .inl fs)), (gr, .inl (d4, 6, .inl fg)), (gt, .inl (d8, 6, .inl (fun _ => 0))), (gw, .inl (d9, 6, .inl (fun _ => 0))), (gk, .inl (d10, 360, .inl fk)), (gi, .inl (d11, 360, .inl (fun _ => 0))), (q1, .inl (cA2, 9, .inl (upd (upd (upd (upd (fun _ => 0) 0 10) 1 6) 2 30) 3 100)))] := hD
  refine lv_dup hx hb dX3_roofTold_43 rfl ?_
  refine lv_iconst (v := 4) hx hb dX3_roofTold_44 (by decide) ?_
  refine lv_aload_n hx hb dX3_roofTold_45 rfl (lv_at hl 0 rfl) ?_
  refine va_get (D := (dC, dI)) (ci := 3) (v := .ref sm) (C := RX3) (T := TX3) (N := 10) hx hb hts (by decide +kernel) hown hK hP 0 rfl rfl 8 (by decide) (hts (.fieldLink RX3 33 "ThatchRoofModel" "s" "LThatchRoofModel$State;") (by decide +kernel)) (fun _ h9 => h9) rfl dX3_roofTold_46 ?_
  refine lv_iload_n hx hb dX3_roofTold_49 rfl (lv_at hl 1 rfl) ?_
  have hPc := hP.sub (ws' := [(sm, .inr (2, [.int 0, .ref gr, .ref gt, .ref gw, .ref gk, .ref gi, .ref gp, .ref go, .ref gg, .ref hm])), (gk, .inl (d10, 360, .inl fk))]) [1, 8] rfl
  have hKc := hK.sub (tys' := [(d10, .int)]) [6] rfl
  refine vp_callSi (va_runV (As := [.int (nI ru)]) (rest := [.int 4, .ref q1, .ref q1]) ⟨hx, hb, hml, hown, hts⟩ (r2_yealms l dC dI sm hm gr gt gw gk gi gp go gg d10 fk ru (by first | assumption | decide | omega) (by first | assumption | decide | omega)) (cwV 1 hts gX3_roofTold_X2_yealms rfl rfl rfl (by decide +kernel) ⟨Nat.le_of_ble_eq_true rfl, Nat.le_of_ble_eq_true rfl⟩) ⟨fun a U g mk q => by obtain ⟨q0, qP, qK⟩ := q; exact ⟨q0, qP, va_K.moved (u := U) (U := U.calling g mk a) (Vm.Alike.refl U.vm) qK⟩, va_recv hKc hPc (ci := 2) (q0 := 0) rfl rfl, fun U hU hW => ⟨rfl, by rw [hU]; exact hPc, va_K.moved hW.alike hKc⟩⟩ rfl rfl hl.1 rfl (lv_room (Nat.le_of_ble_eq_true rfl)) dX3_roofTold_50 ⟨Nat.le_of_ble_eq_true rfl, Nat.le_of_ble_eq_true rfl⟩).run (fun r7 hr7 => ?_)
  obtain rfl := hr7
  refine va_iast hx hb hK hP hD hS 10 8 rfl rfl (vp_in_nI (n := 4) (by decide) (by decide)) dX3_roofTold_53 (fun H locs hP hD hS => ?_)
  have hP : va_P (dC, dI) vwCl [(hm, .inr (3, [.int th, .int 6, .ref wi, .ref co, .ref sl, .ref rn, .ref so, .ref bn, .ref sm, .ref ah])), (sm, .inr (2, [.int 0, .ref gr, .ref gt, .ref gw, .ref gk, .ref gi, .ref gp, .ref go, .ref gg, .ref hm])), (wi, .inl (d1, 6, .inl fw)), (co, .inl (d2, 6, .inl fc)), (sl, .inl (d3, 6, .inl fs)), (gr, .inl (d4, 6, .inl fg)), (gt, .inl (d8, 6, .inl (fun _ => 0))), (gw, .inl (d9, 6, .inl (fun _ => 0))), (gk, .inl (d10, 360, .inl fk)), (gi, .inl (d11, 360, .inl (fun _ => 0))), (q1, .inl (cA2, 9, .inl (upd (upd (upd (upd (upd (fun _ => 0) 0 10) 1 6) 2 30) 3 100) 4 0)))] H := hP
  have hD : va_D A [(hm, .inr (3, [.int th, .int 6, .ref wi, .ref co, .ref sl, .ref rn, .ref so, .ref bn, .ref sm, .ref ah])), (sm, .inr (2, [.int 0, .ref gr, .ref gt, .ref gw, .ref gk, .ref gi, .ref gp, .ref go, .ref gg, .ref hm])), (wi, .inl (d1, 6, .inl fw)), (co, .inl (d2, 6, .inl fc)), (sl, .inl (d3, 6, .inl fs)), (gr, .inl (d4, 6, .inl fg)), (gt, .inl (d8, 6, .inl (fun _ => 0))), (gw, .inl (d9, 6, .inl (fun _ => 0))), (gk, .inl (d10, 360, .inl fk)), (gi, .inl (d11, 360, .inl (fun _ => 0))), (q1, .inl (cA2, 9, .inl (upd (upd (upd (upd (upd (fun _ => 0) 0 10) 1 6) 2 30) 3 100) 4 0)))] := hD
  refine lv_dup hx hb dX3_roofTold_54 rfl ?_
  refine lv_iconst (v := 5) hx hb dX3_roofTold_55 (by decide) ?_
  refine lv_aload_n hx hb dX3_roofTold_56 rfl (lv_at hl 0 rfl) ?_
  refine va_get (D := (dC, dI)) (ci := 3) (v := .ref sm) (C := RX3) (T := TX3) (N := 10) hx hb hts (by decide +kernel) hown hK hP 0 rfl rfl 8 (by decide) (hts (.fieldLink RX3 33 "ThatchRoofModel" "s" "LThatchRoofModel$State;") (by decide +kernel)) (fun _ h9 => h9) rfl dX3_roofTold_57 ?_
  refine lv_iload_n hx hb dX3_roofTold_60 rfl (lv_at hl 1 rfl) ?_
  have hPc := hP.sub (ws' := [(sm, .inr (2, [.int 0, .ref gr, .ref gt, .ref gw, .ref gk, .ref gi, .ref gp, .ref go, .ref gg, .ref hm])), (gi, .inl (d11, 360, .inl (fun _ => 0)))]) [1, 9] rfl
  have hKc := hK.sub (tys' := [(d11, .int)]) [7] rfl
  refine vp_callSi (va_runV (As := [.int (nI ru)]) (rest := [.int 5, .ref q1, .ref q1]) ⟨hx, hb, hml, hown, hts⟩ (r2_thickness l dC dI sm hm gr gt gw gk gi gp go gg d11 ru (by first | assumption | decide | omega)) (cwV 1 hts gX3_roofTold_X2_thickness rfl rfl rfl (by decide +kernel) ⟨Nat.le_of_ble_eq_true rfl, Nat.le_of_ble_eq_true rfl⟩) ⟨fun a U g mk q => by obtain ⟨q0, qP, qK⟩ := q; exact ⟨q0, qP, va_K.moved (u := U) (U := U.calling g mk a) (Vm.Alike.refl U.vm) qK⟩, va_recv hKc hPc (ci := 2) (q0 := 0) rfl rfl, fun U hU hW => ⟨rfl, by rw [hU]; exact hPc, va_K.moved hW.alike hKc⟩⟩ rfl rfl hl.1 rfl (lv_room (Nat.le_of_ble_eq_true rfl)) dX3_roofTold_61 ⟨Nat.le_of_ble_eq_true rfl, Nat.le_of_ble_eq_true rfl⟩).run (fun r8 hr8 => ?_)
  obtain rfl := hr8
  refine va_iast hx hb hK hP hD hS 10 8 rfl rfl (vp_in_nI (n := 5) (by decide) (by decide)) dX3_roofTold_64 (fun H locs hP hD hS => ?_)
  have hP : va_P (dC, dI) vwCl [(hm, .inr (3, [.int th, .int 6, .ref wi, .ref co, .ref sl, .ref rn, .ref so, .ref bn, .ref sm, .ref ah])), (sm, .inr (2, [.int 0, .ref gr, .ref gt, .ref gw, .ref gk, .ref gi, .ref gp, .ref go, .ref gg, .ref hm])), (wi, .inl (d1, 6, .inl fw)), (co, .inl (d2, 6, .inl fc)), (sl, .inl (d3, 6, .inl fs)), (gr, .inl (d4, 6, .inl fg)), (gt, .inl (d8, 6, .inl (fun _ => 0))), (gw, .inl (d9, 6, .inl (fun _ => 0))), (gk, .inl (d10, 360, .inl fk)), (gi, .inl (d11, 360, .inl (fun _ => 0))), (q1, .inl (cA2, 9, .inl (upd (upd (upd (upd (upd (upd (fun _ => 0) 0 10) 1 6) 2 30) 3 100) 4 0) 5 0)))] H := hP
  have hD : va_D A [(hm, .inr (3, [.int th, .int 6, .ref wi, .ref co, .ref sl, .ref rn, .ref so, .ref bn, .ref sm, .ref ah])), (sm, .inr (2, [.int 0, .ref gr, .ref gt, .ref gw, .ref gk, .ref gi, .ref gp, .ref go, .ref gg, .ref hm])), (wi, .inl (d1, 6, .inl fw)), (co, .inl (d2, 6, .inl fc)), (sl, .inl (d3, 6, .inl fs)), (gr, .inl (d4, 6, .inl fg)), (gt, .inl (d8, 6, .inl (fun _ => 0))), (gw, .inl (d9, 6, .inl (fun _ => 0))), (gk, .inl (d10, 360, .inl fk)), (gi, .inl (d11, 360, .inl (fun _ => 0))), (q1, .inl (cA2, 9, .inl (upd (upd (upd (upd (upd (upd (fun _ => 0) 0 10) 1 6) 2 30) 3 100) 4 0) 5 0)))] := hD
  refine lv_dup hx hb dX3_roofTold_65 rfl ?_
  refine lv_bipush (v := 6) hx hb dX3_roofTold_66 (by decide) ?_
  refine lv_aload_n hx hb dX3_roofTold_68 rfl (lv_at hl 0 rfl) ?_
  refine va_get (D := (dC, dI)) (ci := 3) (v := .ref sm) (C := RX3) (T := TX3) (N := 10) hx hb hts (by decide +kernel) hown hK hP 0 rfl rfl 8 (by decide) (hts (.fieldLink RX3 33 "ThatchRoofModel" "s" "LThatchRoofModel$State;") (by decide +kernel)) (fun _ h9 => h9) rfl dX3_roofTold_69 ?_
  refine lv_iload_n hx hb dX3_roofTold_72 rfl (lv_at hl 1 rfl) ?_
  have hPc := hP.sub (ws' := [(sm, .inr (2, [.int 0, .ref gr, .ref gt, .ref gw, .ref gk, .ref gi, .ref gp, .ref go, .ref gg, .ref hm])), (hm, .inr (3, [.int th, .int 6, .ref wi, .ref co, .ref sl, .ref rn, .ref so, .ref bn, .ref sm, .ref ah])), (wi, .inl (d1, 6, .inl fw)), (co, .inl (d2, 6, .inl fc)), (gk, .inl (d10, 360, .inl fk)), (gi, .inl (d11, 360, .inl (fun _ => 0)))]) [1, 0, 2, 3, 8, 9] rfl
  have hKc := hK.sub (tys' := [(d1, .int), (d2, .int), (d10, .int), (d11, .int)]) [0, 1, 6, 7] rfl
  refine vp_callSi (va_runV (As := [.int (nI ru)]) (rest := [.int 6, .ref q1, .ref q1]) ⟨hx, hb, hml, hown, hts⟩ (r2_leaks l dC dI hm wi co sl rn so bn sm ah th gr gt gw gk gi gp go gg d1 d2 d10 d11 fw fc fk ru (by first | assumption | decide | omega) (by first | assumption | decide | omega) (by first | assumption | decide | omega) (by first | assumption | decide | omega)) (cwV 1 hts gX3_roofTold_X2_leaks rfl rfl rfl (by decide +kernel) ⟨Nat.le_of_ble_eq_true rfl, Nat.le_of_ble_eq_true rfl⟩) ⟨fun a U g mk q => by obtain ⟨q0, qP, qK, qN⟩ := q; exact ⟨q0, qP, va_K.moved (u := U) (U := U.calling g mk a) (Vm.Alike.refl U.vm) qK, zNs.calling qN⟩, va_recv hKc hPc (ci := 2) (q0 := 0) rfl rfl, fun U hU hW => ⟨rfl, by rw [hU]; exact hPc, va_K.moved hW.alike hKc, zNs.warm hW hZN⟩⟩ rfl rfl hl.1 rfl (lv_room (Nat.le_of_ble_eq_true rfl)) dX3_roofTold_73 ⟨Nat.le_of_ble_eq_true rfl, Nat.le_of_ble_eq_true rfl⟩).run (fun r9 hr9 => ?_)
  obtain rfl := hr9
  refine va_iast hx hb hK hP hD hS 10 8 rfl rfl (vp_in_nI (n := 6) (by decide) (by decide)) dX3_roofTold_76 (fun H locs hP hD hS => ?_)
  have hP : va_P (dC, dI) vwCl [(hm, .inr (3, [.int th, .int 6, .ref wi, .ref co, .ref sl, .ref rn, .ref so, .ref bn, .ref sm, .ref ah])), (sm, .inr (2, [.int 0, .ref gr, .ref gt, .ref gw, .ref gk, .ref gi, .ref gp, .ref go, .ref gg, .ref hm])), (wi, .inl (d1, 6, .inl fw)), (co, .inl (d2, 6, .inl fc)), (sl, .inl (d3, 6, .inl fs)), (gr, .inl (d4, 6, .inl fg)), (gt, .inl (d8, 6, .inl (fun _ => 0))), (gw, .inl (d9, 6, .inl (fun _ => 0))), (gk, .inl (d10, 360, .inl fk)), (gi, .inl (d11, 360, .inl (fun _ => 0))), (q1, .inl (cA2, 9, .inl (upd (upd (upd (upd (upd (upd (upd (fun _ => 0) 0 10) 1 6) 2 30) 3 100) 4 0) 5 0) 6 10)))] H := hP
  have hD : va_D A [(hm, .inr (3, [.int th, .int 6, .ref wi, .ref co, .ref sl, .ref rn, .ref so, .ref bn, .ref sm, .ref ah])), (sm, .inr (2, [.int 0, .ref gr, .ref gt, .ref gw, .ref gk, .ref gi, .ref gp, .ref go, .ref gg, .ref hm])), (wi, .inl (d1, 6, .inl fw)), (co, .inl (d2, 6, .inl fc)), (sl, .inl (d3, 6, .inl fs)), (gr, .inl (d4, 6, .inl fg)), (gt, .inl (d8, 6, .inl (fun _ => 0))), (gw, .inl (d9, 6, .inl (fun _ => 0))), (gk, .inl (d10, 360, .inl fk)), (gi, .inl (d11, 360, .inl (fun _ => 0))), (q1, .inl (cA2, 9, .inl (upd (upd (upd (upd (upd (upd (upd (fun _ => 0) 0 10) 1 6) 2 30) 3 100) 4 0) 5 0) 6 10)))] := hD
  refine lv_dup hx hb dX3_roofTold_77 rfl ?_
  refine lv_bipush (v := 7) hx hb dX3_roofTold_78 (by decide) ?_
  refine lv_aload_n hx hb dX3_roofTold_80 rfl (lv_at hl 0 rfl) ?_
  refine va_get (D := (dC, dI)) (ci := 3) (v := .ref sm) (C := RX3) (T := TX3) (N := 10) hx hb hts (by decide +kernel) hown hK hP 0 rfl rfl 8 (by decide) (hts (.fieldLink RX3 33 "ThatchRoofModel" "s" "LThatchRoofModel$State;") (by decide +kernel)) (fun _ h9 => h9) rfl dX3_roofTold_81 ?_
  refine va_getN (D := (dC, dI)) (ci := 2) (v := .ref gt) (C := RX2) (T := TX2) (N := 10) hx hb hts (by decide +kernel) hown hK hP 1 rfl rfl 2 (by decide) (va_Nw.use rfl (zN_RX3_118 hZN)) (fun _ h9 => h9) rfl dX3_roofTold_84 ?_
  refine lv_iload_n hx hb dX3_roofTold_87 rfl (lv_at hl 1 rfl) ?_
  refine va_iald hx hb hK hP 6 4 rfl rfl (vp_in_nI (by omega) (by omega)) dX3_roofTold_88 ?_
  refine lv_topi (fun x10 ex10 => ?_)
  obtain rfl : x10 = 0 := ex10
  refine va_iast hx hb hK hP hD hS 10 8 rfl rfl (vp_in_nI (n := 7) (by decide) (by decide)) dX3_roofTold_89 (fun H locs hP hD hS => ?_)
  have hP : va_P (dC, dI) vwCl [(hm, .inr (3, [.int th, .int 6, .ref wi, .ref co, .ref sl, .ref rn, .ref so, .ref bn, .ref sm, .ref ah])), (sm, .inr (2, [.int 0, .ref gr, .ref gt, .ref gw, .ref gk, .ref gi, .ref gp, .ref go, .ref gg, .ref hm])), (wi, .inl (d1, 6, .inl fw)), (co, .inl (d2, 6, .inl fc)), (sl, .inl (d3, 6, .inl fs)), (gr, .inl (d4, 6, .inl fg)), (gt, .inl (d8, 6, .inl (fun _ => 0))), (gw, .inl (d9, 6, .inl (fun _ => 0))), (gk, .inl (d10, 360, .inl fk)), (gi, .inl (d11, 360, .inl (fun _ => 0))), (q1, .inl (cA2, 9, .inl (upd (upd (upd (upd (upd (upd (upd (upd (fun _ => 0) 0 10) 1 6) 2 30) 3 100) 4 0) 5 0) 6 10) 7 0)))] H := hP
  have hD : va_D A [(hm, .inr (3, [.int th, .int 6, .ref wi, .ref co, .ref sl, .ref rn, .ref so, .ref bn, .ref sm, .ref ah])), (sm, .inr (2, [.int 0, .ref gr, .ref gt, .ref gw, .ref gk, .ref gi, .ref gp, .ref go, .ref gg, .ref hm])), (wi, .inl (d1, 6, .inl fw)), (co, .inl (d2, 6, .inl fc)), (sl, .inl (d3, 6, .inl fs)), (gr, .inl (d4, 6, .inl fg)), (gt, .inl (d8, 6, .inl (fun _ => 0))), (gw, .inl (d9, 6, .inl (fun _ => 0))), (gk, .inl (d10, 360, .inl fk)), (gi, .inl (d11, 360, .inl (fun _ => 0))), (q1, .inl (cA2, 9, .inl (upd (upd (upd (upd (upd (upd (upd (upd (fun _ => 0) 0 10) 1 6) 2 30) 3 100) 4 0) 5 0) 6 10) 7 0)))] := hD
  refine lv_dup hx hb dX3_roofTold_90 rfl ?_
  refine lv_bipush (v := 8) hx hb dX3_roofTold_91 (by decide) ?_
  refine lv_aload_n hx hb dX3_roofTold_93 rfl (lv_at hl 0 rfl) ?_
  refine va_get (D := (dC, dI)) (ci := 3) (v := .ref sm) (C := RX3) (T := TX3) (N := 10) hx hb hts (by decide +kernel) hown hK hP 0 rfl rfl 8 (by decide) (hts (.fieldLink RX3 33 "ThatchRoofModel" "s" "LThatchRoofModel$State;") (by decide +kernel)) (fun _ h9 => h9) rfl dX3_roofTold_94 ?_
  refine va_getN (D := (dC, dI)) (ci := 2) (v := .ref gw) (C := RX2) (T := TX2) (N := 10) hx hb hts (by decide +kernel) hown hK hP 1 rfl rfl 3 (by decide) (va_Nw.use rfl (zN_RX3_121 hZN)) (fun _ h9 => h9) rfl dX3_roofTold_97 ?_
  refine lv_iload_n hx hb dX3_roofTold_100 rfl (lv_at hl 1 rfl) ?_
  refine va_iald hx hb hK hP 7 5 rfl rfl (vp_in_nI (by omega) (by omega)) dX3_roofTold_101 ?_
  refine lv_topi (fun x11 ex11 => ?_)
  obtain rfl : x11 = 0 := ex11
  refine va_iast hx hb hK hP hD hS 10 8 rfl rfl (vp_in_nI (n := 8) (by decide) (by decide)) dX3_roofTold_102 (fun H locs hP hD hS => ?_)
  have hP : va_P (dC, dI) vwCl [(hm, .inr (3, [.int th, .int 6, .ref wi, .ref co, .ref sl, .ref rn, .ref so, .ref bn, .ref sm, .ref ah])), (sm, .inr (2, [.int 0, .ref gr, .ref gt, .ref gw, .ref gk, .ref gi, .ref gp, .ref go, .ref gg, .ref hm])), (wi, .inl (d1, 6, .inl fw)), (co, .inl (d2, 6, .inl fc)), (sl, .inl (d3, 6, .inl fs)), (gr, .inl (d4, 6, .inl fg)), (gt, .inl (d8, 6, .inl (fun _ => 0))), (gw, .inl (d9, 6, .inl (fun _ => 0))), (gk, .inl (d10, 360, .inl fk)), (gi, .inl (d11, 360, .inl (fun _ => 0))), (q1, .inl (cA2, 9, .inl (upd (upd (upd (upd (upd (upd (upd (upd (upd (fun _ => 0) 0 10) 1 6) 2 30) 3 100) 4 0) 5 0) 6 10) 7 0) 8 0)))] H := hP
  have hD : va_D A [(hm, .inr (3, [.int th, .int 6, .ref wi, .ref co, .ref sl, .ref rn, .ref so, .ref bn, .ref sm, .ref ah])), (sm, .inr (2, [.int 0, .ref gr, .ref gt, .ref gw, .ref gk, .ref gi, .ref gp, .ref go, .ref gg, .ref hm])), (wi, .inl (d1, 6, .inl fw)), (co, .inl (d2, 6, .inl fc)), (sl, .inl (d3, 6, .inl fs)), (gr, .inl (d4, 6, .inl fg)), (gt, .inl (d8, 6, .inl (fun _ => 0))), (gw, .inl (d9, 6, .inl (fun _ => 0))), (gk, .inl (d10, 360, .inl fk)), (gi, .inl (d11, 360, .inl (fun _ => 0))), (q1, .inl (cA2, 9, .inl (upd (upd (upd (upd (upd (upd (upd (upd (upd (fun _ => 0) 0 10) 1 6) 2 30) 3 100) 4 0) 5 0) 6 10) 7 0) 8 0)))] := hD
  refine lv_astore_n (lv' := [(3, .ref q1), (0, .ref hm), (1, .int (nI ru)), (2, .int 4)]) hx hb dX3_roofTold_103 rfl hl (by decide) rfl (fun ls hl => ?_)
  refine lv_aload_n hx hb dX3_roofTold_104 rfl (lv_at hl 0 rfl) ?_
  refine lv_iload_n hx hb dX3_roofTold_105 rfl (lv_at hl 3 rfl) ?_
  refine va_iald hx hb hK hP 10 8 rfl rfl (vp_in_nI (n := 4) (by decide) (by decide)) dX3_roofTold_106 ?_
  refine lv_topi (fun x12 ex12 => ?_)
  obtain rfl : x12 = 0 := ex12
  have hP9 := hP.sub (ws' := [(hm, .inr (3, [.int th, .int 6, .ref wi, .ref co, .ref sl, .ref rn, .ref so, .ref bn, .ref sm, .ref ah])), (sm, .inr (2, [.int 0, .ref gr, .ref gt, .ref gw, .ref gk, .ref gi, .ref gp, .ref go, .ref gg, .ref hm])), (wi, .inl (d1, 6, .inl fw)), (co, .inl (d2, 6, .inl fc)), (sl, .inl (d3, 6, .inl fs)), (gr, .inl (d4, 6, .inl fg)), (gt, .inl (d8, 6, .inl (fun _ => 0))), (gw, .inl (d9, 6, .inl (fun _ => 0))), (gk, .inl (d10, 360, .inl fk)), (gi, .inl (d11, 360, .inl (fun _ => 0)))]) [0, 1, 2, 3, 4, 5, 6, 7, 8, 9] rfl
  have hD9 := hD.sub (ws' := [(hm, .inr (3, [.int th, .int 6, .ref wi, .ref co, .ref sl, .ref rn, .ref so, .ref bn, .ref sm, .ref ah])), (sm, .inr (2, [.int 0, .ref gr, .ref gt, .ref gw, .ref gk, .ref gi, .ref gp, .ref go, .ref gg, .ref hm])), (wi, .inl (d1, 6, .inl fw)), (co, .inl (d2, 6, .inl fc)), (sl, .inl (d3, 6, .inl fs)), (gr, .inl (d4, 6, .inl fg)), (gt, .inl (d8, 6, .inl (fun _ => 0))), (gw, .inl (d9, 6, .inl (fun _ => 0))), (gk, .inl (d10, 360, .inl fk)), (gi, .inl (d11, 360, .inl (fun _ => 0)))]) [0, 1, 2, 3, 4, 5, 6, 7, 8, 9] (by decide) rfl
  have hK9 := hK.sub (tys' := []) [] rfl
  refine W.widen (k := 1) (n := 9) (Nat.le_of_ble_eq_true rfl) (Nat.le_of_ble_eq_true rfl) ?_
  have hZ := zz_one hAe hD hP 10 [0, 1, 2, 3, 4, 5, 6, 7, 8, 9] rfl rfl (by decide)
  exact W.iret (v := 0) hx hb hr (fun t ht hW => ⟨⟨0, (), rfl, by (first | rfl | assumption | decide | (simp_all; done) | grind), ⟨by rw [ht]; exact hP9, va_K.moved hW.alike hK9, hD9, by rw [ht]; omega⟩⟩, hS.F ht⟩) hS.2.2 dX3_roofTold_107

set_option maxHeartbeats 4000000 in
set_option maxRecDepth 100000 in
theorem r3_roofTold5 (l : Launch) (dC : Nat → ClassId) (dI : Nat → Nat → Nat) (sz : Nat) (hm : Nat) (wi : Nat) (co : Nat) (sl : Nat) (rn : Nat) (so : Nat) (bn : Nat) (sm : Nat) (ah : Nat) (th : Int32) (gr : Nat) (gt : Nat) (gw : Nat) (gk : Nat) (gi : Nat) (gp : Nat) (go : Nat) (gg : Nat) (d1 : ClassId) (d2 : ClassId) (d3 : ClassId) (d4 : ClassId) (d8 : ClassId) (d9 : ClassId) (d10 : ClassId) (d11 : ClassId) (fw : Nat → Int32) (fc : Nat → Int32) (fs : Nat → Int32) (fg : Nat → Int32) (fk : Nat → Int32) (ru : Nat) (hk : ∀ j : Nat, j < 360 → fk j = -1) (hw : ∀ j : Nat, j < 6 → fw j = 10) (hc : ∀ j : Nat, j < 6 → fc j = 6) (hs : ∀ j : Nat, j < 6 → fs j = 30) (hg : ∀ j : Nat, j < 6 → fg j = 100) (hru : ru < 6) : Met l yX3_roofTold wsX3_roofTold ({ frames := 2, cells := 1, slots := 9, locals := 47 }) (va_Pc [.ref hm, .int (nI ru), .int 5] (fun U => U.heap.size = sz ∧ va_P (dC, dI) vwCl [(hm, .inr (3, [.int th, .int 6, .ref wi, .ref co, .ref sl, .ref rn, .ref so, .ref bn, .ref sm, .ref ah])), (sm, .inr (2, [.int 0, .ref gr, .ref gt, .ref gw, .ref gk, .ref gi, .ref gp, .ref go, .ref gg, .ref hm])), (wi, .inl (d1, 6, .inl fw)), (co, .inl (d2, 6, .inl fc)), (sl, .inl (d3, 6, .inl fs)), (gr, .inl (d4, 6, .inl fg)), (gt, .inl (d8, 6, .inl (fun _ => 0))), (gw, .inl (d9, 6, .inl (fun _ => 0))), (gk, .inl (d10, 360, .inl fk)), (gi, .inl (d11, 360, .inl (fun _ => 0)))] U.heap ∧ va_K (dC, dI) vwCl [(d1, .int), (d2, .int), (d3, .int), (d4, .int), (d8, .int), (d9, .int), (d10, .int), (d11, .int)] U ∧ va_D (fun _ => True) [(hm, .inr (3, [.int th, .int 6, .ref wi, .ref co, .ref sl, .ref rn, .ref so, .ref bn, .ref sm, .ref ah])), (sm, .inr (2, [.int 0, .ref gr, .ref gt, .ref gw, .ref gk, .ref gi, .ref gp, .ref go, .ref gg, .ref hm])), (wi, .inl (d1, 6, .inl fw)), (co, .inl (d2, 6, .inl fc)), (sl, .inl (d3, 6, .inl fs)), (gr, .inl (d4, 6, .inl fg)), (gt, .inl (d8, 6, .inl (fun _ => 0))), (gw, .inl (d9, 6, .inl (fun _ => 0))), (gk, .inl (d10, 360, .inl fk)), (gi, .inl (d11, 360, .inl (fun _ => 0)))] ∧ zNs U)) (va_Qi (fun (r : Int32) (u : Unit) => r = 0) (fun (u : Unit) (t : State) => va_P (dC, dI) vwCl [(hm, .inr (3, [.int th, .int 6, .ref wi, .ref co, .ref sl, .ref rn, .ref so, .ref bn, .ref sm, .ref ah])), (sm, .inr (2, [.int 0, .ref gr, .ref gt, .ref gw, .ref gk, .ref gi, .ref gp, .ref go, .ref gg, .ref hm])), (wi, .inl (d1, 6, .inl fw)), (co, .inl (d2, 6, .inl fc)), (sl, .inl (d3, 6, .inl fs)), (gr, .inl (d4, 6, .inl fg)), (gt, .inl (d8, 6, .inl (fun _ => 0))), (gw, .inl (d9, 6, .inl (fun _ => 0))), (gk, .inl (d10, 360, .inl fk)), (gi, .inl (d11, 360, .inl (fun _ => 0)))] t.heap ∧ va_K (dC, dI) vwCl [] t ∧ va_D (va_A [(hm, .inr (3, [.int th, .int 6, .ref wi, .ref co, .ref sl, .ref rn, .ref so, .ref bn, .ref sm, .ref ah])), (sm, .inr (2, [.int 0, .ref gr, .ref gt, .ref gw, .ref gk, .ref gi, .ref gp, .ref go, .ref gg, .ref hm])), (wi, .inl (d1, 6, .inl fw)), (co, .inl (d2, 6, .inl fc)), (sl, .inl (d3, 6, .inl fs)), (gr, .inl (d4, 6, .inl fg)), (gt, .inl (d8, 6, .inl (fun _ => 0))), (gw, .inl (d9, 6, .inl (fun _ => 0))), (gk, .inl (d10, 360, .inl fk)), (gi, .inl (d11, 360, .inl (fun _ => 0)))] sz) [(hm, .inr (3, [.int th, .int 6, .ref wi, .ref co, .ref sl, .ref rn, .ref so, .ref bn, .ref sm, .ref ah])), (sm, .inr (2, [.int 0, .ref gr, .ref gt, .ref gw, .ref gk, .ref gi, .ref gp, .ref go, .ref gg, .ref hm])), (wi, .inl (d1, 6, .inl fw)), (co, .inl (d2, 6, .inl fc)), (sl, .inl (d3, 6, .inl fs)), (gr, .inl (d4, 6, .inl fg)), (gt, .inl (d8, 6, .inl (fun _ => 0))), (gw, .inl (d9, 6, .inl (fun _ => 0))), (gk, .inl (d10, 360, .inl fk)), (gi, .inl (d11, 360, .inl (fun _ => 0)))] ∧ sz + 1 ≤ t.heap.size) (va_A [(hm, .inr (3, [.int th, .int 6, .ref wi, .ref co, .ref sl, .ref rn, .ref so, .ref bn, .ref sm, .ref ah])), (sm, .inr (2, [.int 0, .ref gr, .ref gt, .ref gw, .ref gk, .ref gi, .ref gp, .ref go, .ref gg, .ref hm])), (wi, .inl (d1, 6, .inl fw)), (co, .inl (d2, 6, .inl fc)), (sl, .inl (d3, 6, .inl fs)), (gr, .inl (d4, 6, .inl fg)), (gt, .inl (d8, 6, .inl (fun _ => 0))), (gw, .inl (d9, 6, .inl (fun _ => 0))), (gk, .inl (d10, 360, .inl fk)), (gi, .inl (d11, 360, .inl (fun _ => 0)))] sz)) 1 9 (va_A [(hm, .inr (3, [.int th, .int 6, .ref wi, .ref co, .ref sl, .ref rn, .ref so, .ref bn, .ref sm, .ref ah])), (sm, .inr (2, [.int 0, .ref gr, .ref gt, .ref gw, .ref gk, .ref gi, .ref gp, .ref go, .ref gg, .ref hm])), (wi, .inl (d1, 6, .inl fw)), (co, .inl (d2, 6, .inl fc)), (sl, .inl (d3, 6, .inl fs)), (gr, .inl (d4, 6, .inl fg)), (gt, .inl (d8, 6, .inl (fun _ => 0))), (gw, .inl (d9, 6, .inl (fun _ => 0))), (gk, .inl (d10, 360, .inl fk)), (gi, .inl (d11, 360, .inl (fun _ => 0)))] sz) := by
  refine Met.ofW (cc := cX3_roofTold) (maxL := 4) (ret := (some .int)) (by decide) rfl ?_
  intro p e s m args below meth c s₁ B hml hv
  obtain ⟨rfl, hsz, hP, hK, hD0, hZN⟩ := hv
  have hx := B.exec
  have hb := B.bytes
  have hr := B.returns
  have hts := atoms_spec (ws := wsX3_roofTold) B.pre
  have hown : s.vm.findClass RX3 = some m.cls := findClass_of_methodNamed B.named
  have hlocks := B.notSynchronized
  subst hsz
  have hD := hD0.self (sz := s.heap.size)
  generalize hAe : va_A [(hm, .inr (3, [.int th, .int 6, .ref wi, .ref co, .ref sl, .ref rn, .ref so, .ref bn, .ref sm, .ref ah])), (sm, .inr (2, [.int 0, .ref gr, .ref gt, .ref gw, .ref gk, .ref gi, .ref gp, .ref go, .ref gg, .ref hm])), (wi, .inl (d1, 6, .inl fw)), (co, .inl (d2, 6, .inl fc)), (sl, .inl (d3, 6, .inl fs)), (gr, .inl (d4, 6, .inl fg)), (gt, .inl (d8, 6, .inl (fun _ => 0))), (gw, .inl (d9, 6, .inl (fun _ => 0))), (gk, .inl (d10, 360, .inl fk)), (gi, .inl (d11, 360, .inl (fun _ => 0)))] s.heap.size = A at hD ⊢
  have hA : ∀ q : Nat, s.heap.size ≤ q → A q := fun q h => by rw [← hAe]; exact Or.inr h
  have hS : va_S A s.heap s.heap [] := va_S.rf
  have hP : va_P (dC, dI) vwCl [(hm, .inr (3, [.int th, .int 6, .ref wi, .ref co, .ref sl, .ref rn, .ref so, .ref bn, .ref sm, .ref ah])), (sm, .inr (2, [.int 0, .ref gr, .ref gt, .ref gw, .ref gk, .ref gi, .ref gp, .ref go, .ref gg, .ref hm])), (wi, .inl (d1, 6, .inl fw)), (co, .inl (d2, 6, .inl fc)), (sl, .inl (d3, 6, .inl fs)), (gr, .inl (d4, 6, .inl fg)), (gt, .inl (d8, 6, .inl (fun _ => 0))), (gw, .inl (d9, 6, .inl (fun _ => 0))), (gk, .inl (d10, 360, .inl fk)), (gi, .inl (d11, 360, .inl (fun _ => 0)))] s.heap := hP
  have hl := lv_entry ([.ref hm, .int (nI ru), .int 5]) (n := 4) (Nat.le_of_ble_eq_true rfl)
  rw [lg_entry_eq]
  generalize (lg_sl ([.ref hm, .int (nI ru), .int 5]) ++ List.replicate (4 - (lg_sl ([.ref hm, .int (nI ru), .int 5])).length) Slot.unset).toArray = ls at hl ⊢
  have hl : lv_has ls 4 [(0, .ref hm), (1, .int (nI ru)), (2, .int 5)] := hl
  refine lv_bipush (v := 9) hx hb dX3_roofTold_0 (by decide) ?_
  refine va_newa (atype := .int) (ty := .int) (N' := 9) (a0 := (9, .inl (fun _ => 0))) hx hb (hts (.arrayClass .int) (by decide +kernel)) rfl hK hP hD hS hA (fun _ => rfl) (by decide) (by decide) (by decide) (Nat.le_of_ble_eq_true rfl) (Nat.le_of_ble_eq_true rfl) dX3_roofTold_2 (fun q1 cA2 H hK hP hD hS => ?_)
  refine W.widen (k := 1) (n := 9) (Nat.le_of_ble_eq_true rfl) (Nat.le_of_ble_eq_true rfl) ?_
  have hK : va_K (dC, dI) vwCl [(d1, .int), (d2, .int), (d3, .int), (d4, .int), (d8, .int), (d9, .int), (d10, .int), (d11, .int), (cA2, .int)] s := hK
  have hP : va_P (dC, dI) vwCl [(hm, .inr (3, [.int th, .int 6, .ref wi, .ref co, .ref sl, .ref rn, .ref so, .ref bn, .ref sm, .ref ah])), (sm, .inr (2, [.int 0, .ref gr, .ref gt, .ref gw, .ref gk, .ref gi, .ref gp, .ref go, .ref gg, .ref hm])), (wi, .inl (d1, 6, .inl fw)), (co, .inl (d2, 6, .inl fc)), (sl, .inl (d3, 6, .inl fs)), (gr, .inl (d4, 6, .inl fg)), (gt, .inl (d8, 6, .inl (fun _ => 0))), (gw, .inl (d9, 6, .inl (fun _ => 0))), (gk, .inl (d10, 360, .inl fk)), (gi, .inl (d11, 360, .inl (fun _ => 0))), (q1, .inl (cA2, 9, .inl (fun _ => 0)))] H := hP
  have hD : va_D A [(hm, .inr (3, [.int th, .int 6, .ref wi, .ref co, .ref sl, .ref rn, .ref so, .ref bn, .ref sm, .ref ah])), (sm, .inr (2, [.int 0, .ref gr, .ref gt, .ref gw, .ref gk, .ref gi, .ref gp, .ref go, .ref gg, .ref hm])), (wi, .inl (d1, 6, .inl fw)), (co, .inl (d2, 6, .inl fc)), (sl, .inl (d3, 6, .inl fs)), (gr, .inl (d4, 6, .inl fg)), (gt, .inl (d8, 6, .inl (fun _ => 0))), (gw, .inl (d9, 6, .inl (fun _ => 0))), (gk, .inl (d10, 360, .inl fk)), (gi, .inl (d11, 360, .inl (fun _ => 0))), (q1, .inl (cA2, 9, .inl (fun _ => 0)))] := hD
  refine lv_dup hx hb dX3_roofTold_4 rfl ?_
  refine lv_iconst (v := 0) hx hb dX3_roofTold_5 (by decide) ?_
  refine lv_aload_n hx hb dX3_roofTold_6 rfl (lv_at hl 0 rfl) ?_
  refine va_get (D := (dC, dI)) (ci := 3) (v := .ref wi) (C := RX3) (T := TX3) (N := 10) hx hb hts (by decide +kernel) hown hK hP 0 rfl rfl 2 (by decide) (hts (.fieldLink RX3 9 "ThatchRoofModel" "width" "[I") (by decide +kernel)) (fun _ h9 => h9) rfl dX3_roofTold_7 ?_
  refine lv_iload_n hx hb dX3_roofTold_10 rfl (lv_at hl 1 rfl) ?_
  refine va_iald hx hb hK hP 2 0 rfl rfl (vp_in_nI (by omega) (by omega)) dX3_roofTold_11 ?_
  refine lv_topi (fun x3 ex3 => ?_)
  rw [nI_clamp (show ru < 2 ^ 31 by omega)] at ex3
  obtain rfl : x3 = 10 := ex3.trans (hw _ (by omega))
  refine va_iast hx hb hK hP hD hS 10 8 rfl rfl (vp_in_nI (n := 0) (by decide) (by decide)) dX3_roofTold_12 (fun H locs hP hD hS => ?_)
  have hP : va_P (dC, dI) vwCl [(hm, .inr (3, [.int th, .int 6, .ref wi, .ref co, .ref sl, .ref rn, .ref so, .ref bn, .ref sm, .ref ah])), (sm, .inr (2, [.int 0, .ref gr, .ref gt, .ref gw, .ref gk, .ref gi, .ref gp, .ref go, .ref gg, .ref hm])), (wi, .inl (d1, 6, .inl fw)), (co, .inl (d2, 6, .inl fc)), (sl, .inl (d3, 6, .inl fs)), (gr, .inl (d4, 6, .inl fg)), (gt, .inl (d8, 6, .inl (fun _ => 0))), (gw, .inl (d9, 6, .inl (fun _ => 0))), (gk, .inl (d10, 360, .inl fk)), (gi, .inl (d11, 360, .inl (fun _ => 0))), (q1, .inl (cA2, 9, .inl (upd (fun _ => 0) 0 10)))] H := hP
  have hD : va_D A [(hm, .inr (3, [.int th, .int 6, .ref wi, .ref co, .ref sl, .ref rn, .ref so, .ref bn, .ref sm, .ref ah])), (sm, .inr (2, [.int 0, .ref gr, .ref gt, .ref gw, .ref gk, .ref gi, .ref gp, .ref go, .ref gg, .ref hm])), (wi, .inl (d1, 6, .inl fw)), (co, .inl (d2, 6, .inl fc)), (sl, .inl (d3, 6, .inl fs)), (gr, .inl (d4, 6, .inl fg)), (gt, .inl (d8, 6, .inl (fun _ => 0))), (gw, .inl (d9, 6, .inl (fun _ => 0))), (gk, .inl (d10, 360, .inl fk)), (gi, .inl (d11, 360, .inl (fun _ => 0))), (q1, .inl (cA2, 9, .inl (upd (fun _ => 0) 0 10)))] := hD
  refine lv_dup hx hb dX3_roofTold_13 rfl ?_
  refine lv_iconst (v := 1) hx hb dX3_roofTold_14 (by decide) ?_
  refine lv_aload_n hx hb dX3_roofTold_15 rfl (lv_at hl 0 rfl) ?_
  refine va_get (D := (dC, dI)) (ci := 3) (v := .ref co) (C := RX3) (T := TX3) (N := 10) hx hb hts (by decide +kernel) hown hK hP 0 rfl rfl 3 (by decide) (hts (.fieldLink RX3 13 "ThatchRoofModel" "courses" "[I") (by decide +kernel)) (fun _ h9 => h9) rfl dX3_roofTold_16 ?_
  refine lv_iload_n hx hb dX3_roofTold_19 rfl (lv_at hl 1 rfl) ?_
  refine va_iald hx hb hK hP 3 1 rfl rfl (vp_in_nI (by omega) (by omega)) dX3_roofTold_20 ?_
  refine lv_topi (fun x4 ex4 => ?_)
  rw [nI_clamp (show ru < 2 ^ 31 by omega)] at ex4
  obtain rfl : x4 = 6 := ex4.trans (hc _ (by omega))
  refine va_iast hx hb hK hP hD hS 10 8 rfl rfl (vp_in_nI (n := 1) (by decide) (by decide)) dX3_roofTold_21 (fun H locs hP hD hS => ?_)
  have hP : va_P (dC, dI) vwCl [(hm, .inr (3, [.int th, .int 6, .ref wi, .ref co, .ref sl, .ref rn, .ref so, .ref bn, .ref sm, .ref ah])), (sm, .inr (2, [.int 0, .ref gr, .ref gt, .ref gw, .ref gk, .ref gi, .ref gp, .ref go, .ref gg, .ref hm])), (wi, .inl (d1, 6, .inl fw)), (co, .inl (d2, 6, .inl fc)), (sl, .inl (d3, 6, .inl fs)), (gr, .inl (d4, 6, .inl fg)), (gt, .inl (d8, 6, .inl (fun _ => 0))), (gw, .inl (d9, 6, .inl (fun _ => 0))), (gk, .inl (d10, 360, .inl fk)), (gi, .inl (d11, 360, .inl (fun _ => 0))), (q1, .inl (cA2, 9, .inl (upd (upd (fun _ => 0) 0 10) 1 6)))] H := hP
  have hD : va_D A [(hm, .inr (3, [.int th, .int 6, .ref wi, .ref co, .ref sl, .ref rn, .ref so, .ref bn, .ref sm, .ref ah])), (sm, .inr (2, [.int 0, .ref gr, .ref gt, .ref gw, .ref gk, .ref gi, .ref gp, .ref go, .ref gg, .ref hm])), (wi, .inl (d1, 6, .inl fw)), (co, .inl (d2, 6, .inl fc)), (sl, .inl (d3, 6, .inl fs)), (gr, .inl (d4, 6, .inl fg)), (gt, .inl (d8, 6, .inl (fun _ => 0))), (gw, .inl (d9, 6, .inl (fun _ => 0))), (gk, .inl (d10, 360, .inl fk)), (gi, .inl (d11, 360, .inl (fun _ => 0))), (q1, .inl (cA2, 9, .inl (upd (upd (fun _ => 0) 0 10) 1 6)))] := hD
  refine lv_dup hx hb dX3_roofTold_22 rfl ?_
  refine lv_iconst (v := 2) hx hb dX3_roofTold_23 (by decide) ?_
  refine lv_aload_n hx hb dX3_roofTold_24 rfl (lv_at hl 0 rfl) ?_
  refine va_get (D := (dC, dI)) (ci := 3) (v := .ref sl) (C := RX3) (T := TX3) (N := 10) hx hb hts (by decide +kernel) hown hK hP 0 rfl rfl 4 (by decide) (hts (.fieldLink RX3 16 "ThatchRoofModel" "slope" "[I") (by decide +kernel)) (fun _ h9 => h9) rfl dX3_roofTold_25 ?_
  refine lv_iload_n hx hb dX3_roofTold_28 rfl (lv_at hl 1 rfl) ?_
  refine va_iald hx hb hK hP 4 2 rfl rfl (vp_in_nI (by omega) (by omega)) dX3_roofTold_29 ?_
  refine lv_topi (fun x5 ex5 => ?_)
  rw [nI_clamp (show ru < 2 ^ 31 by omega)] at ex5
  obtain rfl : x5 = 30 := ex5.trans (hs _ (by omega))
  refine va_iast hx hb hK hP hD hS 10 8 rfl rfl (vp_in_nI (n := 2) (by decide) (by decide)) dX3_roofTold_30 (fun H locs hP hD hS => ?_)
  have hP : va_P (dC, dI) vwCl [(hm, .inr (3, [.int th, .int 6, .ref wi, .ref co, .ref sl, .ref rn, .ref so, .ref bn, .ref sm, .ref ah])), (sm, .inr (2, [.int 0, .ref gr, .ref gt, .ref gw, .ref gk, .ref gi, .ref gp, .ref go, .ref gg, .ref hm])), (wi, .inl (d1, 6, .inl fw)), (co, .inl (d2, 6, .inl fc)), (sl, .inl (d3, 6, .inl fs)), (gr, .inl (d4, 6, .inl fg)), (gt, .inl (d8, 6, .inl (fun _ => 0))), (gw, .inl (d9, 6, .inl (fun _ => 0))), (gk, .inl (d10, 360, .inl fk)), (gi, .inl (d11, 360, .inl (fun _ => 0))), (q1, .inl (cA2, 9, .inl (upd (upd (upd (fun _ => 0) 0 10) 1 6) 2 30)))] H := hP
  have hD : va_D A [(hm, .inr (3, [.int th, .int 6, .ref wi, .ref co, .ref sl, .ref rn, .ref so, .ref bn, .ref sm, .ref ah])), (sm, .inr (2, [.int 0, .ref gr, .ref gt, .ref gw, .ref gk, .ref gi, .ref gp, .ref go, .ref gg, .ref hm])), (wi, .inl (d1, 6, .inl fw)), (co, .inl (d2, 6, .inl fc)), (sl, .inl (d3, 6, .inl fs)), (gr, .inl (d4, 6, .inl fg)), (gt, .inl (d8, 6, .inl (fun _ => 0))), (gw, .inl (d9, 6, .inl (fun _ => 0))), (gk, .inl (d10, 360, .inl fk)), (gi, .inl (d11, 360, .inl (fun _ => 0))), (q1, .inl (cA2, 9, .inl (upd (upd (upd (fun _ => 0) 0 10) 1 6) 2 30)))] := hD
  refine lv_dup hx hb dX3_roofTold_31 rfl ?_
  refine lv_iconst (v := 3) hx hb dX3_roofTold_32 (by decide) ?_
  refine lv_aload_n hx hb dX3_roofTold_33 rfl (lv_at hl 0 rfl) ?_
  refine va_get (D := (dC, dI)) (ci := 3) (v := .ref sm) (C := RX3) (T := TX3) (N := 10) hx hb hts (by decide +kernel) hown hK hP 0 rfl rfl 8 (by decide) (hts (.fieldLink RX3 33 "ThatchRoofModel" "s" "LThatchRoofModel$State;") (by decide +kernel)) (fun _ h9 => h9) rfl dX3_roofTold_34 ?_
  refine va_getN (D := (dC, dI)) (ci := 2) (v := .ref gr) (C := RX2) (T := TX2) (N := 10) hx hb hts (by decide +kernel) hown hK hP 1 rfl rfl 1 (by decide) (va_Nw.use rfl (zN_RX3_63 hZN)) (fun _ h9 => h9) rfl dX3_roofTold_37 ?_
  refine lv_iload_n hx hb dX3_roofTold_40 rfl (lv_at hl 1 rfl) ?_
  refine va_iald hx hb hK hP 5 3 rfl rfl (vp_in_nI (by omega) (by omega)) dX3_roofTold_41 ?_
  refine lv_topi (fun x6 ex6 => ?_)
  rw [nI_clamp (show ru < 2 ^ 31 by omega)] at ex6
  obtain rfl : x6 = 100 := ex6.trans (hg _ (by omega))
  refine va_iast hx hb hK hP hD hS 10 8 rfl rfl (vp_in_nI (n := 3) (by decide) (by decide)) dX3_roofTold_42 (fun H locs hP hD hS => ?_)
  have hP : va_P (dC, dI) vwCl [(hm, .inr (3, [.int th, .int 6, .ref wi, .ref co, .ref sl, .ref rn, .ref so, .ref bn, .ref sm, .ref ah])), (sm, .inr (2, [.int 0, .ref gr, .ref gt, .ref gw, .ref gk, .ref gi, .ref gp, .ref go, .ref gg, .ref hm])), (wi, .inl (d1, 6, .inl fw)), (co, .inl (d2, 6, .inl fc)), (sl, .inl (d3, 6, .inl fs)), (gr, .inl (d4, 6, .inl fg)), (gt, .inl (d8, 6, .inl (fun _ => 0))), (gw, .inl (d9, 6, .inl (fun _ => 0))), (gk, .inl (d10, 360, .inl fk)), (gi, .inl (d11, 360, .inl (fun _ => 0))), (q1, .inl (cA2, 9, .inl (upd (upd (upd (upd (fun _ => 0) 0 10) 1 6) 2 30) 3 100)))] H := hP
  have hD : va_D A [(hm, .inr (3, [.int th, .int 6, .ref wi, .ref co, .ref sl, .ref rn, .ref so, .ref bn, .ref sm, .ref ah])), (sm, .inr (2, [.int 0, .ref gr, .ref gt, .ref gw, .ref gk, .ref gi, .ref gp, .ref go, .ref gg, .ref hm])), (wi, .inl (d1, 6, .inl fw)), (co, .inl (d2, 6, .inl fc)), (sl, .inl (d3, 6, .inl fs)), (gr, .inl (d4, 6, .inl fg)), (gt, .inl (d8, 6, .inl (fun _ => 0))), (gw, .inl (d9, 6, .inl (fun _ => 0))), (gk, .inl (d10, 360, .inl fk)), (gi, .inl (d11, 360, .inl (fun _ => 0))), (q1, .inl (cA2, 9, .inl (upd (upd (upd (upd (fun _ => 0) 0 10) 1 6) 2 30) 3 100)))] := hD
  refine lv_dup hx hb dX3_roofTold_43 rfl ?_
  refine lv_iconst (v := 4) hx hb dX3_roofTold_44 (by decide) ?_
  refine lv_aload_n hx hb dX3_roofTold_45 rfl (lv_at hl 0 rfl) ?_
  refine va_get (D := (dC, dI)) (ci := 3) (v := .ref sm) (C := RX3) (T := TX3) (N := 10) hx hb hts (by decide +kernel) hown hK hP 0 rfl rfl 8 (by decide) (hts (.fieldLink RX3 33 "ThatchRoofModel" "s" "LThatchRoofModel$State;") (by decide +kernel)) (fun _ h9 => h9) rfl dX3_roofTold_46 ?_
  refine lv_iload_n hx hb dX3_roofTold_49 rfl (lv_at hl 1 rfl) ?_
  have hPc := hP.sub (ws' := [(sm, .inr (2, [.int 0, .ref gr, .ref gt, .ref gw, .ref gk, .ref gi, .ref gp, .ref go, .ref gg, .ref hm])), (gk, .inl (d10, 360, .inl fk))]) [1, 8] rfl
  have hKc := hK.sub (tys' := [(d10, .int)]) [6] rfl
  refine vp_callSi (va_runV (As := [.int (nI ru)]) (rest := [.int 4, .ref q1, .ref q1]) ⟨hx, hb, hml, hown, hts⟩ (r2_yealms l dC dI sm hm gr gt gw gk gi gp go gg d10 fk ru (by first | assumption | decide | omega) (by first | assumption | decide | omega)) (cwV 1 hts gX3_roofTold_X2_yealms rfl rfl rfl (by decide +kernel) ⟨Nat.le_of_ble_eq_true rfl, Nat.le_of_ble_eq_true rfl⟩) ⟨fun a U g mk q => by obtain ⟨q0, qP, qK⟩ := q; exact ⟨q0, qP, va_K.moved (u := U) (U := U.calling g mk a) (Vm.Alike.refl U.vm) qK⟩, va_recv hKc hPc (ci := 2) (q0 := 0) rfl rfl, fun U hU hW => ⟨rfl, by rw [hU]; exact hPc, va_K.moved hW.alike hKc⟩⟩ rfl rfl hl.1 rfl (lv_room (Nat.le_of_ble_eq_true rfl)) dX3_roofTold_50 ⟨Nat.le_of_ble_eq_true rfl, Nat.le_of_ble_eq_true rfl⟩).run (fun r7 hr7 => ?_)
  obtain rfl := hr7
  refine va_iast hx hb hK hP hD hS 10 8 rfl rfl (vp_in_nI (n := 4) (by decide) (by decide)) dX3_roofTold_53 (fun H locs hP hD hS => ?_)
  have hP : va_P (dC, dI) vwCl [(hm, .inr (3, [.int th, .int 6, .ref wi, .ref co, .ref sl, .ref rn, .ref so, .ref bn, .ref sm, .ref ah])), (sm, .inr (2, [.int 0, .ref gr, .ref gt, .ref gw, .ref gk, .ref gi, .ref gp, .ref go, .ref gg, .ref hm])), (wi, .inl (d1, 6, .inl fw)), (co, .inl (d2, 6, .inl fc)), (sl, .inl (d3, 6, .inl fs)), (gr, .inl (d4, 6, .inl fg)), (gt, .inl (d8, 6, .inl (fun _ => 0))), (gw, .inl (d9, 6, .inl (fun _ => 0))), (gk, .inl (d10, 360, .inl fk)), (gi, .inl (d11, 360, .inl (fun _ => 0))), (q1, .inl (cA2, 9, .inl (upd (upd (upd (upd (upd (fun _ => 0) 0 10) 1 6) 2 30) 3 100) 4 0)))] H := hP
  have hD : va_D A [(hm, .inr (3, [.int th, .int 6, .ref wi, .ref co, .ref sl, .ref rn, .ref so, .ref bn, .ref sm, .ref ah])), (sm, .inr (2, [.int 0, .ref gr, .ref gt, .ref gw, .ref gk, .ref gi, .ref gp, .ref go, .ref gg, .ref hm])), (wi, .inl (d1, 6, .inl fw)), (co, .inl (d2, 6, .inl fc)), (sl, .inl (d3, 6, .inl fs)), (gr, .inl (d4, 6, .inl fg)), (gt, .inl (d8, 6, .inl (fun _ => 0))), (gw, .inl (d9, 6, .inl (fun _ => 0))), (gk, .inl (d10, 360, .inl fk)), (gi, .inl (d11, 360, .inl (fun _ => 0))), (q1, .inl (cA2, 9, .inl (upd (upd (upd (upd (upd (fun _ => 0) 0 10) 1 6) 2 30) 3 100) 4 0)))] := hD
  refine lv_dup hx hb dX3_roofTold_54 rfl ?_
  refine lv_iconst (v := 5) hx hb dX3_roofTold_55 (by decide) ?_
  refine lv_aload_n hx hb dX3_roofTold_56 rfl (lv_at hl 0 rfl) ?_
  refine va_get (D := (dC, dI)) (ci := 3) (v := .ref sm) (C := RX3) (T := TX3) (N := 10) hx hb hts (by decide +kernel) hown hK hP 0 rfl rfl 8 (by decide) (hts (.fieldLink RX3 33 "ThatchRoofModel" "s" "LThatchRoofModel$State;") (by decide +kernel)) (fun _ h9 => h9) rfl dX3_roofTold_57 ?_
  refine lv_iload_n hx hb dX3_roofTold_60 rfl (lv_at hl 1 rfl) ?_
  have hPc := hP.sub (ws' := [(sm, .inr (2, [.int 0, .ref gr, .ref gt, .ref gw, .ref gk, .ref gi, .ref gp, .ref go, .ref gg, .ref hm])), (gi, .inl (d11, 360, .inl (fun _ => 0)))]) [1, 9] rfl
  have hKc := hK.sub (tys' := [(d11, .int)]) [7] rfl
  refine vp_callSi (va_runV (As := [.int (nI ru)]) (rest := [.int 5, .ref q1, .ref q1]) ⟨hx, hb, hml, hown, hts⟩ (r2_thickness l dC dI sm hm gr gt gw gk gi gp go gg d11 ru (by first | assumption | decide | omega)) (cwV 1 hts gX3_roofTold_X2_thickness rfl rfl rfl (by decide +kernel) ⟨Nat.le_of_ble_eq_true rfl, Nat.le_of_ble_eq_true rfl⟩) ⟨fun a U g mk q => by obtain ⟨q0, qP, qK⟩ := q; exact ⟨q0, qP, va_K.moved (u := U) (U := U.calling g mk a) (Vm.Alike.refl U.vm) qK⟩, va_recv hKc hPc (ci := 2) (q0 := 0) rfl rfl, fun U hU hW => ⟨rfl, by rw [hU]; exact hPc, va_K.moved hW.alike hKc⟩⟩ rfl rfl hl.1 rfl (lv_room (Nat.le_of_ble_eq_true rfl)) dX3_roofTold_61 ⟨Nat.le_of_ble_eq_true rfl, Nat.le_of_ble_eq_true rfl⟩).run (fun r8 hr8 => ?_)
  obtain rfl := hr8
  refine va_iast hx hb hK hP hD hS 10 8 rfl rfl (vp_in_nI (n := 5) (by decide) (by decide)) dX3_roofTold_64 (fun H locs hP hD hS => ?_)
  have hP : va_P (dC, dI) vwCl [(hm, .inr (3, [.int th, .int 6, .ref wi, .ref co, .ref sl, .ref rn, .ref so, .ref bn, .ref sm, .ref ah])), (sm, .inr (2, [.int 0, .ref gr, .ref gt, .ref gw, .ref gk, .ref gi, .ref gp, .ref go, .ref gg, .ref hm])), (wi, .inl (d1, 6, .inl fw)), (co, .inl (d2, 6, .inl fc)), (sl, .inl (d3, 6, .inl fs)), (gr, .inl (d4, 6, .inl fg)), (gt, .inl (d8, 6, .inl (fun _ => 0))), (gw, .inl (d9, 6, .inl (fun _ => 0))), (gk, .inl (d10, 360, .inl fk)), (gi, .inl (d11, 360, .inl (fun _ => 0))), (q1, .inl (cA2, 9, .inl (upd (upd (upd (upd (upd (upd (fun _ => 0) 0 10) 1 6) 2 30) 3 100) 4 0) 5 0)))] H := hP
  have hD : va_D A [(hm, .inr (3, [.int th, .int 6, .ref wi, .ref co, .ref sl, .ref rn, .ref so, .ref bn, .ref sm, .ref ah])), (sm, .inr (2, [.int 0, .ref gr, .ref gt, .ref gw, .ref gk, .ref gi, .ref gp, .ref go, .ref gg, .ref hm])), (wi, .inl (d1, 6, .inl fw)), (co, .inl (d2, 6, .inl fc)), (sl, .inl (d3, 6, .inl fs)), (gr, .inl (d4, 6, .inl fg)), (gt, .inl (d8, 6, .inl (fun _ => 0))), (gw, .inl (d9, 6, .inl (fun _ => 0))), (gk, .inl (d10, 360, .inl fk)), (gi, .inl (d11, 360, .inl (fun _ => 0))), (q1, .inl (cA2, 9, .inl (upd (upd (upd (upd (upd (upd (fun _ => 0) 0 10) 1 6) 2 30) 3 100) 4 0) 5 0)))] := hD
  refine lv_dup hx hb dX3_roofTold_65 rfl ?_
  refine lv_bipush (v := 6) hx hb dX3_roofTold_66 (by decide) ?_
  refine lv_aload_n hx hb dX3_roofTold_68 rfl (lv_at hl 0 rfl) ?_
  refine va_get (D := (dC, dI)) (ci := 3) (v := .ref sm) (C := RX3) (T := TX3) (N := 10) hx hb hts (by decide +kernel) hown hK hP 0 rfl rfl 8 (by decide) (hts (.fieldLink RX3 33 "ThatchRoofModel" "s" "LThatchRoofModel$State;") (by decide +kernel)) (fun _ h9 => h9) rfl dX3_roofTold_69 ?_
  refine lv_iload_n hx hb dX3_roofTold_72 rfl (lv_at hl 1 rfl) ?_
  have hPc := hP.sub (ws' := [(sm, .inr (2, [.int 0, .ref gr, .ref gt, .ref gw, .ref gk, .ref gi, .ref gp, .ref go, .ref gg, .ref hm])), (hm, .inr (3, [.int th, .int 6, .ref wi, .ref co, .ref sl, .ref rn, .ref so, .ref bn, .ref sm, .ref ah])), (wi, .inl (d1, 6, .inl fw)), (co, .inl (d2, 6, .inl fc)), (gk, .inl (d10, 360, .inl fk)), (gi, .inl (d11, 360, .inl (fun _ => 0)))]) [1, 0, 2, 3, 8, 9] rfl
  have hKc := hK.sub (tys' := [(d1, .int), (d2, .int), (d10, .int), (d11, .int)]) [0, 1, 6, 7] rfl
  refine vp_callSi (va_runV (As := [.int (nI ru)]) (rest := [.int 6, .ref q1, .ref q1]) ⟨hx, hb, hml, hown, hts⟩ (r2_leaks l dC dI hm wi co sl rn so bn sm ah th gr gt gw gk gi gp go gg d1 d2 d10 d11 fw fc fk ru (by first | assumption | decide | omega) (by first | assumption | decide | omega) (by first | assumption | decide | omega) (by first | assumption | decide | omega)) (cwV 1 hts gX3_roofTold_X2_leaks rfl rfl rfl (by decide +kernel) ⟨Nat.le_of_ble_eq_true rfl, Nat.le_of_ble_eq_true rfl⟩) ⟨fun a U g mk q => by obtain ⟨q0, qP, qK, qN⟩ := q; exact ⟨q0, qP, va_K.moved (u := U) (U := U.calling g mk a) (Vm.Alike.refl U.vm) qK, zNs.calling qN⟩, va_recv hKc hPc (ci := 2) (q0 := 0) rfl rfl, fun U hU hW => ⟨rfl, by rw [hU]; exact hPc, va_K.moved hW.alike hKc, zNs.warm hW hZN⟩⟩ rfl rfl hl.1 rfl (lv_room (Nat.le_of_ble_eq_true rfl)) dX3_roofTold_73 ⟨Nat.le_of_ble_eq_true rfl, Nat.le_of_ble_eq_true rfl⟩).run (fun r9 hr9 => ?_)
  obtain rfl := hr9
  refine va_iast hx hb hK hP hD hS 10 8 rfl rfl (vp_in_nI (n := 6) (by decide) (by decide)) dX3_roofTold_76 (fun H locs hP hD hS => ?_)
  have hP : va_P (dC, dI) vwCl [(hm, .inr (3, [.int th, .int 6, .ref wi, .ref co, .ref sl, .ref rn, .ref so, .ref bn, .ref sm, .ref ah])), (sm, .inr (2, [.int 0, .ref gr, .ref gt, .ref gw, .ref gk, .ref gi, .ref gp, .ref go, .ref gg, .ref hm])), (wi, .inl (d1, 6, .inl fw)), (co, .inl (d2, 6, .inl fc)), (sl, .inl (d3, 6, .inl fs)), (gr, .inl (d4, 6, .inl fg)), (gt, .inl (d8, 6, .inl (fun _ => 0))), (gw, .inl (d9, 6, .inl (fun _ => 0))), (gk, .inl (d10, 360, .inl fk)), (gi, .inl (d11, 360, .inl (fun _ => 0))), (q1, .inl (cA2, 9, .inl (upd (upd (upd (upd (upd (upd (upd (fun _ => 0) 0 10) 1 6) 2 30) 3 100) 4 0) 5 0) 6 10)))] H := hP
  have hD : va_D A [(hm, .inr (3, [.int th, .int 6, .ref wi, .ref co, .ref sl, .ref rn, .ref so, .ref bn, .ref sm, .ref ah])), (sm, .inr (2, [.int 0, .ref gr, .ref gt, .ref gw, .ref gk, .ref gi, .ref gp, .ref go, .ref gg, .ref hm])), (wi, .inl (d1, 6, .inl fw)), (co, .inl (d2, 6, .inl fc)), (sl, .inl (d3, 6, .inl fs)), (gr, .inl (d4, 6, .inl fg)), (gt, .inl (d8, 6, .inl (fun _ => 0))), (gw, .inl (d9, 6, .inl (fun _ => 0))), (gk, .inl (d10, 360, .inl fk)), (gi, .inl (d11, 360, .inl (fun _ => 0))), (q1, .inl (cA2, 9, .inl (upd (upd (upd (upd (upd (upd (upd (fun _ => 0) 0 10) 1 6) 2 30) 3 100) 4 0) 5 0) 6 10)))] := hD
  refine lv_dup hx hb dX3_roofTold_77 rfl ?_
  refine lv_bipush (v := 7) hx hb dX3_roofTold_78 (by decide) ?_
  refine lv_aload_n hx hb dX3_roofTold_80 rfl (lv_at hl 0 rfl) ?_
  refine va_get (D := (dC, dI)) (ci := 3) (v := .ref sm) (C := RX3) (T := TX3) (N := 10) hx hb hts (by decide +kernel) hown hK hP 0 rfl rfl 8 (by decide) (hts (.fieldLink RX3 33 "ThatchRoofModel" "s" "LThatchRoofModel$State;") (by decide +kernel)) (fun _ h9 => h9) rfl dX3_roofTold_81 ?_
  refine va_getN (D := (dC, dI)) (ci := 2) (v := .ref gt) (C := RX2) (T := TX2) (N := 10) hx hb hts (by decide +kernel) hown hK hP 1 rfl rfl 2 (by decide) (va_Nw.use rfl (zN_RX3_118 hZN)) (fun _ h9 => h9) rfl dX3_roofTold_84 ?_
  refine lv_iload_n hx hb dX3_roofTold_87 rfl (lv_at hl 1 rfl) ?_
  refine va_iald hx hb hK hP 6 4 rfl rfl (vp_in_nI (by omega) (by omega)) dX3_roofTold_88 ?_
  refine lv_topi (fun x10 ex10 => ?_)
  obtain rfl : x10 = 0 := ex10
  refine va_iast hx hb hK hP hD hS 10 8 rfl rfl (vp_in_nI (n := 7) (by decide) (by decide)) dX3_roofTold_89 (fun H locs hP hD hS => ?_)
  have hP : va_P (dC, dI) vwCl [(hm, .inr (3, [.int th, .int 6, .ref wi, .ref co, .ref sl, .ref rn, .ref so, .ref bn, .ref sm, .ref ah])), (sm, .inr (2, [.int 0, .ref gr, .ref gt, .ref gw, .ref gk, .ref gi, .ref gp, .ref go, .ref gg, .ref hm])), (wi, .inl (d1, 6, .inl fw)), (co, .inl (d2, 6, .inl fc)), (sl, .inl (d3, 6, .inl fs)), (gr, .inl (d4, 6, .inl fg)), (gt, .inl (d8, 6, .inl (fun _ => 0))), (gw, .inl (d9, 6, .inl (fun _ => 0))), (gk, .inl (d10, 360, .inl fk)), (gi, .inl (d11, 360, .inl (fun _ => 0))), (q1, .inl (cA2, 9, .inl (upd (upd (upd (upd (upd (upd (upd (upd (fun _ => 0) 0 10) 1 6) 2 30) 3 100) 4 0) 5 0) 6 10) 7 0)))] H := hP
  have hD : va_D A [(hm, .inr (3, [.int th, .int 6, .ref wi, .ref co, .ref sl, .ref rn, .ref so, .ref bn, .ref sm, .ref ah])), (sm, .inr (2, [.int 0, .ref gr, .ref gt, .ref gw, .ref gk, .ref gi, .ref gp, .ref go, .ref gg, .ref hm])), (wi, .inl (d1, 6, .inl fw)), (co, .inl (d2, 6, .inl fc)), (sl, .inl (d3, 6, .inl fs)), (gr, .inl (d4, 6, .inl fg)), (gt, .inl (d8, 6, .inl (fun _ => 0))), (gw, .inl (d9, 6, .inl (fun _ => 0))), (gk, .inl (d10, 360, .inl fk)), (gi, .inl (d11, 360, .inl (fun _ => 0))), (q1, .inl (cA2, 9, .inl (upd (upd (upd (upd (upd (upd (upd (upd (fun _ => 0) 0 10) 1 6) 2 30) 3 100) 4 0) 5 0) 6 10) 7 0)))] := hD
  refine lv_dup hx hb dX3_roofTold_90 rfl ?_
  refine lv_bipush (v := 8) hx hb dX3_roofTold_91 (by decide) ?_
  refine lv_aload_n hx hb dX3_roofTold_93 rfl (lv_at hl 0 rfl) ?_
  refine va_get (D := (dC, dI)) (ci := 3) (v := .ref sm) (C := RX3) (T := TX3) (N := 10) hx hb hts (by decide +kernel) hown hK hP 0 rfl rfl 8 (by decide) (hts (.fieldLink RX3 33 "ThatchRoofModel" "s" "LThatchRoofModel$State;") (by decide +kernel)) (fun _ h9 => h9) rfl dX3_roofTold_94 ?_
  refine va_getN (D := (dC, dI)) (ci := 2) (v := .ref gw) (C := RX2) (T := TX2) (N := 10) hx hb hts (by decide +kernel) hown hK hP 1 rfl rfl 3 (by decide) (va_Nw.use rfl (zN_RX3_121 hZN)) (fun _ h9 => h9) rfl dX3_roofTold_97 ?_
  refine lv_iload_n hx hb dX3_roofTold_100 rfl (lv_at hl 1 rfl) ?_
  refine va_iald hx hb hK hP 7 5 rfl rfl (vp_in_nI (by omega) (by omega)) dX3_roofTold_101 ?_
  refine lv_topi (fun x11 ex11 => ?_)
  obtain rfl : x11 = 0 := ex11
  refine va_iast hx hb hK hP hD hS 10 8 rfl rfl (vp_in_nI (n := 8) (by decide) (by decide)) dX3_roofTold_102 (fun H locs hP hD hS => ?_)
  have hP : va_P (dC, dI) vwCl [(hm, .inr (3, [.int th, .int 6, .ref wi, .ref co, .ref sl, .ref rn, .ref so, .ref bn, .ref sm, .ref ah])), (sm, .inr (2, [.int 0, .ref gr, .ref gt, .ref gw, .ref gk, .ref gi, .ref gp, .ref go, .ref gg, .ref hm])), (wi, .inl (d1, 6, .inl fw)), (co, .inl (d2, 6, .inl fc)), (sl, .inl (d3, 6, .inl fs)), (gr, .inl (d4, 6, .inl fg)), (gt, .inl (d8, 6, .inl (fun _ => 0))), (gw, .inl (d9, 6, .inl (fun _ => 0))), (gk, .inl (d10, 360, .inl fk)), (gi, .inl (d11, 360, .inl (fun _ => 0))), (q1, .inl (cA2, 9, .inl (upd (upd (upd (upd (upd (upd (upd (upd (upd (fun _ => 0) 0 10) 1 6) 2 30) 3 100) 4 0) 5 0) 6 10) 7 0) 8 0)))] H := hP
  have hD : va_D A [(hm, .inr (3, [.int th, .int 6, .ref wi, .ref co, .ref sl, .ref rn, .ref so, .ref bn, .ref sm, .ref ah])), (sm, .inr (2, [.int 0, .ref gr, .ref gt, .ref gw, .ref gk, .ref gi, .ref gp, .ref go, .ref gg, .ref hm])), (wi, .inl (d1, 6, .inl fw)), (co, .inl (d2, 6, .inl fc)), (sl, .inl (d3, 6, .inl fs)), (gr, .inl (d4, 6, .inl fg)), (gt, .inl (d8, 6, .inl (fun _ => 0))), (gw, .inl (d9, 6, .inl (fun _ => 0))), (gk, .inl (d10, 360, .inl fk)), (gi, .inl (d11, 360, .inl (fun _ => 0))), (q1, .inl (cA2, 9, .inl (upd (upd (upd (upd (upd (upd (upd (upd (upd (fun _ => 0) 0 10) 1 6) 2 30) 3 100) 4 0) 5 0) 6 10) 7 0) 8 0)))] := hD
  refine lv_astore_n (lv' := [(3, .ref q1), (0, .ref hm), (1, .int (nI ru)), (2, .int 5)]) hx hb dX3_roofTold_103 rfl hl (by decide) rfl (fun ls hl => ?_)
  refine lv_aload_n hx hb dX3_roofTold_104 rfl (lv_at hl 0 rfl) ?_
  refine lv_iload_n hx hb dX3_roofTold_105 rfl (lv_at hl 3 rfl) ?_
  refine va_iald hx hb hK hP 10 8 rfl rfl (vp_in_nI (n := 5) (by decide) (by decide)) dX3_roofTold_106 ?_
  refine lv_topi (fun x12 ex12 => ?_)
  obtain rfl : x12 = 0 := ex12
  have hP9 := hP.sub (ws' := [(hm, .inr (3, [.int th, .int 6, .ref wi, .ref co, .ref sl, .ref rn, .ref so, .ref bn, .ref sm, .ref ah])), (sm, .inr (2, [.int 0, .ref gr, .ref gt, .ref gw, .ref gk, .ref gi, .ref gp, .ref go, .ref gg, .ref hm])), (wi, .inl (d1, 6, .inl fw)), (co, .inl (d2, 6, .inl fc)), (sl, .inl (d3, 6, .inl fs)), (gr, .inl (d4, 6, .inl fg)), (gt, .inl (d8, 6, .inl (fun _ => 0))), (gw, .inl (d9, 6, .inl (fun _ => 0))), (gk, .inl (d10, 360, .inl fk)), (gi, .inl (d11, 360, .inl (fun _ => 0)))]) [0, 1, 2, 3, 4, 5, 6, 7, 8, 9] rfl
  have hD9 := hD.sub (ws' := [(hm, .inr (3, [.int th, .int 6, .ref wi, .ref co, .ref sl, .ref rn, .ref so, .ref bn, .ref sm, .ref ah])), (sm, .inr (2, [.int 0, .ref gr, .ref gt, .ref gw, .ref gk, .ref gi, .ref gp, .ref go, .ref gg, .ref hm])), (wi, .inl (d1, 6, .inl fw)), (co, .inl (d2, 6, .inl fc)), (sl, .inl (d3, 6, .inl fs)), (gr, .inl (d4, 6, .inl fg)), (gt, .inl (d8, 6, .inl (fun _ => 0))), (gw, .inl (d9, 6, .inl (fun _ => 0))), (gk, .inl (d10, 360, .inl fk)), (gi, .inl (d11, 360, .inl (fun _ => 0)))]) [0, 1, 2, 3, 4, 5, 6, 7, 8, 9] (by decide) rfl
  have hK9 := hK.sub (tys' := []) [] rfl
  refine W.widen (k := 1) (n := 9) (Nat.le_of_ble_eq_true rfl) (Nat.le_of_ble_eq_true rfl) ?_
  have hZ := zz_one hAe hD hP 10 [0, 1, 2, 3, 4, 5, 6, 7, 8, 9] rfl rfl (by decide)
  exact W.iret (v := 0) hx hb hr (fun t ht hW => ⟨⟨0, (), rfl, by (first | rfl | assumption | decide | (simp_all; done) | grind), ⟨by rw [ht]; exact hP9, va_K.moved hW.alike hK9, hD9, by rw [ht]; omega⟩⟩, hS.F ht⟩) hS.2.2 dX3_roofTold_107

set_option maxHeartbeats 4000000 in
set_option maxRecDepth 100000 in
theorem r3_roofTold6 (l : Launch) (dC : Nat → ClassId) (dI : Nat → Nat → Nat) (sz : Nat) (hm : Nat) (wi : Nat) (co : Nat) (sl : Nat) (rn : Nat) (so : Nat) (bn : Nat) (sm : Nat) (ah : Nat) (th : Int32) (gr : Nat) (gt : Nat) (gw : Nat) (gk : Nat) (gi : Nat) (gp : Nat) (go : Nat) (gg : Nat) (d1 : ClassId) (d2 : ClassId) (d3 : ClassId) (d4 : ClassId) (d8 : ClassId) (d9 : ClassId) (d10 : ClassId) (d11 : ClassId) (fw : Nat → Int32) (fc : Nat → Int32) (fs : Nat → Int32) (fg : Nat → Int32) (fk : Nat → Int32) (ru : Nat) (hk : ∀ j : Nat, j < 360 → fk j = -1) (hw : ∀ j : Nat, j < 6 → fw j = 10) (hc : ∀ j : Nat, j < 6 → fc j = 6) (hs : ∀ j : Nat, j < 6 → fs j = 30) (hg : ∀ j : Nat, j < 6 → fg j = 100) (hru : ru < 6) : Met l yX3_roofTold wsX3_roofTold ({ frames := 2, cells := 1, slots := 9, locals := 47 }) (va_Pc [.ref hm, .int (nI ru), .int 6] (fun U => U.heap.size = sz ∧ va_P (dC, dI) vwCl [(hm, .inr (3, [.int th, .int 6, .ref wi, .ref co, .ref sl, .ref rn, .ref so, .ref bn, .ref sm, .ref ah])), (sm, .inr (2, [.int 0, .ref gr, .ref gt, .ref gw, .ref gk, .ref gi, .ref gp, .ref go, .ref gg, .ref hm])), (wi, .inl (d1, 6, .inl fw)), (co, .inl (d2, 6, .inl fc)), (sl, .inl (d3, 6, .inl fs)), (gr, .inl (d4, 6, .inl fg)), (gt, .inl (d8, 6, .inl (fun _ => 0))), (gw, .inl (d9, 6, .inl (fun _ => 0))), (gk, .inl (d10, 360, .inl fk)), (gi, .inl (d11, 360, .inl (fun _ => 0)))] U.heap ∧ va_K (dC, dI) vwCl [(d1, .int), (d2, .int), (d3, .int), (d4, .int), (d8, .int), (d9, .int), (d10, .int), (d11, .int)] U ∧ va_D (fun _ => True) [(hm, .inr (3, [.int th, .int 6, .ref wi, .ref co, .ref sl, .ref rn, .ref so, .ref bn, .ref sm, .ref ah])), (sm, .inr (2, [.int 0, .ref gr, .ref gt, .ref gw, .ref gk, .ref gi, .ref gp, .ref go, .ref gg, .ref hm])), (wi, .inl (d1, 6, .inl fw)), (co, .inl (d2, 6, .inl fc)), (sl, .inl (d3, 6, .inl fs)), (gr, .inl (d4, 6, .inl fg)), (gt, .inl (d8, 6, .inl (fun _ => 0))), (gw, .inl (d9, 6, .inl (fun _ => 0))), (gk, .inl (d10, 360, .inl fk)), (gi, .inl (d11, 360, .inl (fun _ => 0)))] ∧ zNs U)) (va_Qi (fun (r : Int32) (u : Unit) => r = 10) (fun (u : Unit) (t : State) => va_P (dC, dI) vwCl [(hm, .inr (3, [.int th, .int 6, .ref wi, .ref co, .ref sl, .ref rn, .ref so, .ref bn, .ref sm, .ref ah])), (sm, .inr (2, [.int 0, .ref gr, .ref gt, .ref gw, .ref gk, .ref gi, .ref gp, .ref go, .ref gg, .ref hm])), (wi, .inl (d1, 6, .inl fw)), (co, .inl (d2, 6, .inl fc)), (sl, .inl (d3, 6, .inl fs)), (gr, .inl (d4, 6, .inl fg)), (gt, .inl (d8, 6, .inl (fun _ => 0))), (gw, .inl (d9, 6, .inl (fun _ => 0))), (gk, .inl (d10, 360, .inl fk)), (gi, .inl (d11, 360, .inl (fun _ => 0)))] t.heap ∧ va_K (dC, dI) vwCl [] t ∧ va_D (va_A [(hm, .inr (3, [.int th, .int 6, .ref wi, .ref co, .ref sl, .ref rn, .ref so, .ref bn, .ref sm, .ref ah])), (sm, .inr (2, [.int 0, .ref gr, .ref gt, .ref gw, .ref gk, .ref gi, .ref gp, .ref go, .ref gg, .ref hm])), (wi, .inl (d1, 6, .inl fw)), (co, .inl (d2, 6, .inl fc)), (sl, .inl (d3, 6, .inl fs)), (gr, .inl (d4, 6, .inl fg)), (gt, .inl (d8, 6, .inl (fun _ => 0))), (gw, .inl (d9, 6, .inl (fun _ => 0))), (gk, .inl (d10, 360, .inl fk)), (gi, .inl (d11, 360, .inl (fun _ => 0)))] sz) [(hm, .inr (3, [.int th, .int 6, .ref wi, .ref co, .ref sl, .ref rn, .ref so, .ref bn, .ref sm, .ref ah])), (sm, .inr (2, [.int 0, .ref gr, .ref gt, .ref gw, .ref gk, .ref gi, .ref gp, .ref go, .ref gg, .ref hm])), (wi, .inl (d1, 6, .inl fw)), (co, .inl (d2, 6, .inl fc)), (sl, .inl (d3, 6, .inl fs)), (gr, .inl (d4, 6, .inl fg)), (gt, .inl (d8, 6, .inl (fun _ => 0))), (gw, .inl (d9, 6, .inl (fun _ => 0))), (gk, .inl (d10, 360, .inl fk)), (gi, .inl (d11, 360, .inl (fun _ => 0)))] ∧ sz + 1 ≤ t.heap.size) (va_A [(hm, .inr (3, [.int th, .int 6, .ref wi, .ref co, .ref sl, .ref rn, .ref so, .ref bn, .ref sm, .ref ah])), (sm, .inr (2, [.int 0, .ref gr, .ref gt, .ref gw, .ref gk, .ref gi, .ref gp, .ref go, .ref gg, .ref hm])), (wi, .inl (d1, 6, .inl fw)), (co, .inl (d2, 6, .inl fc)), (sl, .inl (d3, 6, .inl fs)), (gr, .inl (d4, 6, .inl fg)), (gt, .inl (d8, 6, .inl (fun _ => 0))), (gw, .inl (d9, 6, .inl (fun _ => 0))), (gk, .inl (d10, 360, .inl fk)), (gi, .inl (d11, 360, .inl (fun _ => 0)))] sz)) 1 9 (va_A [(hm, .inr (3, [.int th, .int 6, .ref wi, .ref co, .ref sl, .ref rn, .ref so, .ref bn, .ref sm, .ref ah])), (sm, .inr (2, [.int 0, .ref gr, .ref gt, .ref gw, .ref gk, .ref gi, .ref gp, .ref go, .ref gg, .ref hm])), (wi, .inl (d1, 6, .inl fw)), (co, .inl (d2, 6, .inl fc)), (sl, .inl (d3, 6, .inl fs)), (gr, .inl (d4, 6, .inl fg)), (gt, .inl (d8, 6, .inl (fun _ => 0))), (gw, .inl (d9, 6, .inl (fun _ => 0))), (gk, .inl (d10, 360, .inl fk)), (gi, .inl (d11, 360, .inl (fun _ => 0)))] sz) := by
  refine Met.ofW (cc := cX3_roofTold) (maxL := 4) (ret := (some .int)) (by decide) rfl ?_
  intro p e s m args below meth c s₁ B hml hv
  obtain ⟨rfl, hsz, hP, hK, hD0, hZN⟩ := hv
  have hx := B.exec
  have hb := B.bytes
  have hr := B.returns
  have hts := atoms_spec (ws := wsX3_roofTold) B.pre
  have hown : s.vm.findClass RX3 = some m.cls := findClass_of_methodNamed B.named
  have hlocks := B.notSynchronized
  subst hsz
  have hD := hD0.self (sz := s.heap.size)
  generalize hAe : va_A [(hm, .inr (3, [.int th, .int 6, .ref wi, .ref co, .ref sl, .ref rn, .ref so, .ref bn, .ref sm, .ref ah])), (sm, .inr (2, [.int 0, .ref gr, .ref gt, .ref gw, .ref gk, .ref gi, .ref gp, .ref go, .ref gg, .ref hm])), (wi, .inl (d1, 6, .inl fw)), (co, .inl (d2, 6, .inl fc)), (sl, .inl (d3, 6, .inl fs)), (gr, .inl (d4, 6, .inl fg)), (gt, .inl (d8, 6, .inl (fun _ => 0))), (gw, .inl (d9, 6, .inl (fun _ => 0))), (gk, .inl (d10, 360, .inl fk)), (gi, .inl (d11, 360, .inl (fun _ => 0)))] s.heap.size = A at hD ⊢
  have hA : ∀ q : Nat, s.heap.size ≤ q → A q := fun q h => by rw [← hAe]; exact Or.inr h
  have hS : va_S A s.heap s.heap [] := va_S.rf
  have hP : va_P (dC, dI) vwCl [(hm, .inr (3, [.int th, .int 6, .ref wi, .ref co, .ref sl, .ref rn, .ref so, .ref bn, .ref sm, .ref ah])), (sm, .inr (2, [.int 0, .ref gr, .ref gt, .ref gw, .ref gk, .ref gi, .ref gp, .ref go, .ref gg, .ref hm])), (wi, .inl (d1, 6, .inl fw)), (co, .inl (d2, 6, .inl fc)), (sl, .inl (d3, 6, .inl fs)), (gr, .inl (d4, 6, .inl fg)), (gt, .inl (d8, 6, .inl (fun _ => 0))), (gw, .inl (d9, 6, .inl (fun _ => 0))), (gk, .inl (d10, 360, .inl fk)), (gi, .inl (d11, 360, .inl (fun _ => 0)))] s.heap := hP
  have hl := lv_entry ([.ref hm, .int (nI ru), .int 6]) (n := 4) (Nat.le_of_ble_eq_true rfl)
  rw [lg_entry_eq]
  generalize (lg_sl ([.ref hm, .int (nI ru), .int 6]) ++ List.replicate (4 - (lg_sl ([.ref hm, .int (nI ru), .int 6])).length) Slot.unset).toArray = ls at hl ⊢
  have hl : lv_has ls 4 [(0, .ref hm), (1, .int (nI ru)), (2, .int 6)] := hl
  refine lv_bipush (v := 9) hx hb dX3_roofTold_0 (by decide) ?_
  refine va_newa (atype := .int) (ty := .int) (N' := 9) (a0 := (9, .inl (fun _ => 0))) hx hb (hts (.arrayClass .int) (by decide +kernel)) rfl hK hP hD hS hA (fun _ => rfl) (by decide) (by decide) (by decide) (Nat.le_of_ble_eq_true rfl) (Nat.le_of_ble_eq_true rfl) dX3_roofTold_2 (fun q1 cA2 H hK hP hD hS => ?_)
  refine W.widen (k := 1) (n := 9) (Nat.le_of_ble_eq_true rfl) (Nat.le_of_ble_eq_true rfl) ?_
  have hK : va_K (dC, dI) vwCl [(d1, .int), (d2, .int), (d3, .int), (d4, .int), (d8, .int), (d9, .int), (d10, .int), (d11, .int), (cA2, .int)] s := hK
  have hP : va_P (dC, dI) vwCl [(hm, .inr (3, [.int th, .int 6, .ref wi, .ref co, .ref sl, .ref rn, .ref so, .ref bn, .ref sm, .ref ah])), (sm, .inr (2, [.int 0, .ref gr, .ref gt, .ref gw, .ref gk, .ref gi, .ref gp, .ref go, .ref gg, .ref hm])), (wi, .inl (d1, 6, .inl fw)), (co, .inl (d2, 6, .inl fc)), (sl, .inl (d3, 6, .inl fs)), (gr, .inl (d4, 6, .inl fg)), (gt, .inl (d8, 6, .inl (fun _ => 0))), (gw, .inl (d9, 6, .inl (fun _ => 0))), (gk, .inl (d10, 360, .inl fk)), (gi, .inl (d11, 360, .inl (fun _ => 0))), (q1, .inl (cA2, 9, .inl (fun _ => 0)))] H := hP
  have hD : va_D A [(hm, .inr (3, [.int th, .int 6, .ref wi, .ref co, .ref sl, .ref rn, .ref so, .ref bn, .ref sm, .ref ah])), (sm, .inr (2, [.int 0, .ref gr, .ref gt, .ref gw, .ref gk, .ref gi, .ref gp, .ref go, .ref gg, .ref hm])), (wi, .inl (d1, 6, .inl fw)), (co, .inl (d2, 6, .inl fc)), (sl, .inl (d3, 6, .inl fs)), (gr, .inl (d4, 6, .inl fg)), (gt, .inl (d8, 6, .inl (fun _ => 0))), (gw, .inl (d9, 6, .inl (fun _ => 0))), (gk, .inl (d10, 360, .inl fk)), (gi, .inl (d11, 360, .inl (fun _ => 0))), (q1, .inl (cA2, 9, .inl (fun _ => 0)))] := hD
  refine lv_dup hx hb dX3_roofTold_4 rfl ?_
  refine lv_iconst (v := 0) hx hb dX3_roofTold_5 (by decide) ?_
  refine lv_aload_n hx hb dX3_roofTold_6 rfl (lv_at hl 0 rfl) ?_
  refine va_get (D := (dC, dI)) (ci := 3) (v := .ref wi) (C := RX3) (T := TX3) (N := 10) hx hb hts (by decide +kernel) hown hK hP 0 rfl rfl 2 (by decide) (hts (.fieldLink RX3 9 "ThatchRoofModel" "width" "[I") (by decide +kernel)) (fun _ h9 => h9) rfl dX3_roofTold_7 ?_
  refine lv_iload_n hx hb dX3_roofTold_10 rfl (lv_at hl 1 rfl) ?_
  refine va_iald hx hb hK hP 2 0 rfl rfl (vp_in_nI (by omega) (by omega)) dX3_roofTold_11 ?_
  refine lv_topi (fun x3 ex3 => ?_)
  rw [nI_clamp (show ru < 2 ^ 31 by omega)] at ex3
  obtain rfl : x3 = 10 := ex3.trans (hw _ (by omega))
  refine va_iast hx hb hK hP hD hS 10 8 rfl rfl (vp_in_nI (n := 0) (by decide) (by decide)) dX3_roofTold_12 (fun H locs hP hD hS => ?_)
  have hP : va_P (dC, dI) vwCl [(hm, .inr (3, [.int th, .int 6, .ref wi, .ref co, .ref sl, .ref rn, .ref so, .ref bn, .ref sm, .ref ah])), (sm, .inr (2, [.int 0, .ref gr, .ref gt, .ref gw, .ref gk, .ref gi, .ref gp, .ref go, .ref gg, .ref hm])), (wi, .inl (d1, 6, .inl fw)), (co, .inl (d2, 6, .inl fc)), (sl, .inl (d3, 6, .inl fs)), (gr, .inl (d4, 6, .inl fg)), (gt, .inl (d8, 6, .inl (fun _ => 0))), (gw, .inl (d9, 6, .inl (fun _ => 0))), (gk, .inl (d10, 360, .inl fk)), (gi, .inl (d11, 360, .inl (fun _ => 0))), (q1, .inl (cA2, 9, .inl (upd (fun _ => 0) 0 10)))] H := hP
  have hD : va_D A [(hm, .inr (3, [.int th, .int 6, .ref wi, .ref co, .ref sl, .ref rn, .ref so, .ref bn, .ref sm, .ref ah])), (sm, .inr (2, [.int 0, .ref gr, .ref gt, .ref gw, .ref gk, .ref gi, .ref gp, .ref go, .ref gg, .ref hm])), (wi, .inl (d1, 6, .inl fw)), (co, .inl (d2, 6, .inl fc)), (sl, .inl (d3, 6, .inl fs)), (gr, .inl (d4, 6, .inl fg)), (gt, .inl (d8, 6, .inl (fun _ => 0))), (gw, .inl (d9, 6, .inl (fun _ => 0))), (gk, .inl (d10, 360, .inl fk)), (gi, .inl (d11, 360, .inl (fun _ => 0))), (q1, .inl (cA2, 9, .inl (upd (fun _ => 0) 0 10)))] := hD
  refine lv_dup hx hb dX3_roofTold_13 rfl ?_
  refine lv_iconst (v := 1) hx hb dX3_roofTold_14 (by decide) ?_
  refine lv_aload_n hx hb dX3_roofTold_15 rfl (lv_at hl 0 rfl) ?_
  refine va_get (D := (dC, dI)) (ci := 3) (v := .ref co) (C := RX3) (T := TX3) (N := 10) hx hb hts (by decide +kernel) hown hK hP 0 rfl rfl 3 (by decide) (hts (.fieldLink RX3 13 "ThatchRoofModel" "courses" "[I") (by decide +kernel)) (fun _ h9 => h9) rfl dX3_roofTold_16 ?_
  refine lv_iload_n hx hb dX3_roofTold_19 rfl (lv_at hl 1 rfl) ?_
  refine va_iald hx hb hK hP 3 1 rfl rfl (vp_in_nI (by omega) (by omega)) dX3_roofTold_20 ?_
  refine lv_topi (fun x4 ex4 => ?_)
  rw [nI_clamp (show ru < 2 ^ 31 by omega)] at ex4
  obtain rfl : x4 = 6 := ex4.trans (hc _ (by omega))
  refine va_iast hx hb hK hP hD hS 10 8 rfl rfl (vp_in_nI (n := 1) (by decide) (by decide)) dX3_roofTold_21 (fun H locs hP hD hS => ?_)
  have hP : va_P (dC, dI) vwCl [(hm, .inr (3, [.int th, .int 6, .ref wi, .ref co, .ref sl, .ref rn, .ref so, .ref bn, .ref sm, .ref ah])), (sm, .inr (2, [.int 0, .ref gr, .ref gt, .ref gw, .ref gk, .ref gi, .ref gp, .ref go, .ref gg, .ref hm])), (wi, .inl (d1, 6, .inl fw)), (co, .inl (d2, 6, .inl fc)), (sl, .inl (d3, 6, .inl fs)), (gr, .inl (d4, 6, .inl fg)), (gt, .inl (d8, 6, .inl (fun _ => 0))), (gw, .inl (d9, 6, .inl (fun _ => 0))), (gk, .inl (d10, 360, .inl fk)), (gi, .inl (d11, 360, .inl (fun _ => 0))), (q1, .inl (cA2, 9, .inl (upd (upd (fun _ => 0) 0 10) 1 6)))] H := hP
  have hD : va_D A [(hm, .inr (3, [.int th, .int 6, .ref wi, .ref co, .ref sl, .ref rn, .ref so, .ref bn, .ref sm, .ref ah])), (sm, .inr (2, [.int 0, .ref gr, .ref gt, .ref gw, .ref gk, .ref gi, .ref gp, .ref go, .ref gg, .ref hm])), (wi, .inl (d1, 6, .inl fw)), (co, .inl (d2, 6, .inl fc)), (sl, .inl (d3, 6, .inl fs)), (gr, .inl (d4, 6, .inl fg)), (gt, .inl (d8, 6, .inl (fun _ => 0))), (gw, .inl (d9, 6, .inl (fun _ => 0))), (gk, .inl (d10, 360, .inl fk)), (gi, .inl (d11, 360, .inl (fun _ => 0))), (q1, .inl (cA2, 9, .inl (upd (upd (fun _ => 0) 0 10) 1 6)))] := hD
  refine lv_dup hx hb dX3_roofTold_22 rfl ?_
  refine lv_iconst (v := 2) hx hb dX3_roofTold_23 (by decide) ?_
  refine lv_aload_n hx hb dX3_roofTold_24 rfl (lv_at hl 0 rfl) ?_
  refine va_get (D := (dC, dI)) (ci := 3) (v := .ref sl) (C := RX3) (T := TX3) (N := 10) hx hb hts (by decide +kernel) hown hK hP 0 rfl rfl 4 (by decide) (hts (.fieldLink RX3 16 "ThatchRoofModel" "slope" "[I") (by decide +kernel)) (fun _ h9 => h9) rfl dX3_roofTold_25 ?_
  refine lv_iload_n hx hb dX3_roofTold_28 rfl (lv_at hl 1 rfl) ?_
  refine va_iald hx hb hK hP 4 2 rfl rfl (vp_in_nI (by omega) (by omega)) dX3_roofTold_29 ?_
  refine lv_topi (fun x5 ex5 => ?_)
  rw [nI_clamp (show ru < 2 ^ 31 by omega)] at ex5
  obtain rfl : x5 = 30 := ex5.trans (hs _ (by omega))
  refine va_iast hx hb hK hP hD hS 10 8 rfl rfl (vp_in_nI (n := 2) (by decide) (by decide)) dX3_roofTold_30 (fun H locs hP hD hS => ?_)
  have hP : va_P (dC, dI) vwCl [(hm, .inr (3, [.int th, .int 6, .ref wi, .ref co, .ref sl, .ref rn, .ref so, .ref bn, .ref sm, .ref ah])), (sm, .inr (2, [.int 0, .ref gr, .ref gt, .ref gw, .ref gk, .ref gi, .ref gp, .ref go, .ref gg, .ref hm])), (wi, .inl (d1, 6, .inl fw)), (co, .inl (d2, 6, .inl fc)), (sl, .inl (d3, 6, .inl fs)), (gr, .inl (d4, 6, .inl fg)), (gt, .inl (d8, 6, .inl (fun _ => 0))), (gw, .inl (d9, 6, .inl (fun _ => 0))), (gk, .inl (d10, 360, .inl fk)), (gi, .inl (d11, 360, .inl (fun _ => 0))), (q1, .inl (cA2, 9, .inl (upd (upd (upd (fun _ => 0) 0 10) 1 6) 2 30)))] H := hP
  have hD : va_D A [(hm, .inr (3, [.int th, .int 6, .ref wi, .ref co, .ref sl, .ref rn, .ref so, .ref bn, .ref sm, .ref ah])), (sm, .inr (2, [.int 0, .ref gr, .ref gt, .ref gw, .ref gk, .ref gi, .ref gp, .ref go, .ref gg, .ref hm])), (wi, .inl (d1, 6, .inl fw)), (co, .inl (d2, 6, .inl fc)), (sl, .inl (d3, 6, .inl fs)), (gr, .inl (d4, 6, .inl fg)), (gt, .inl (d8, 6, .inl (fun _ => 0))), (gw, .inl (d9, 6, .inl (fun _ => 0))), (gk, .inl (d10, 360, .inl fk)), (gi, .inl (d11, 360, .inl (fun _ => 0))), (q1, .inl (cA2, 9, .inl (upd (upd (upd (fun _ => 0) 0 10) 1 6) 2 30)))] := hD
  refine lv_dup hx hb dX3_roofTold_31 rfl ?_
  refine lv_iconst (v := 3) hx hb dX3_roofTold_32 (by decide) ?_
  refine lv_aload_n hx hb dX3_roofTold_33 rfl (lv_at hl 0 rfl) ?_
  refine va_get (D := (dC, dI)) (ci := 3) (v := .ref sm) (C := RX3) (T := TX3) (N := 10) hx hb hts (by decide +kernel) hown hK hP 0 rfl rfl 8 (by decide) (hts (.fieldLink RX3 33 "ThatchRoofModel" "s" "LThatchRoofModel$State;") (by decide +kernel)) (fun _ h9 => h9) rfl dX3_roofTold_34 ?_
  refine va_getN (D := (dC, dI)) (ci := 2) (v := .ref gr) (C := RX2) (T := TX2) (N := 10) hx hb hts (by decide +kernel) hown hK hP 1 rfl rfl 1 (by decide) (va_Nw.use rfl (zN_RX3_63 hZN)) (fun _ h9 => h9) rfl dX3_roofTold_37 ?_
  refine lv_iload_n hx hb dX3_roofTold_40 rfl (lv_at hl 1 rfl) ?_
  refine va_iald hx hb hK hP 5 3 rfl rfl (vp_in_nI (by omega) (by omega)) dX3_roofTold_41 ?_
  refine lv_topi (fun x6 ex6 => ?_)
  rw [nI_clamp (show ru < 2 ^ 31 by omega)] at ex6
  obtain rfl : x6 = 100 := ex6.trans (hg _ (by omega))
  refine va_iast hx hb hK hP hD hS 10 8 rfl rfl (vp_in_nI (n := 3) (by decide) (by decide)) dX3_roofTold_42 (fun H locs hP hD hS => ?_)
  have hP : va_P (dC, dI) vwCl [(hm, .inr (3, [.int th, .int 6, .ref wi, .ref co, .ref sl, .ref rn, .ref so, .ref bn, .ref sm, .ref ah])), (sm, .inr (2, [.int 0, .ref gr, .ref gt, .ref gw, .ref gk, .ref gi, .ref gp, .ref go, .ref gg, .ref hm])), (wi, .inl (d1, 6, .inl fw)), (co, .inl (d2, 6, .inl fc)), (sl, .inl (d3, 6, .inl fs)), (gr, .inl (d4, 6, .inl fg)), (gt, .inl (d8, 6, .inl (fun _ => 0))), (gw, .inl (d9, 6, .inl (fun _ => 0))), (gk, .inl (d10, 360, .inl fk)), (gi, .inl (d11, 360, .inl (fun _ => 0))), (q1, .inl (cA2, 9, .inl (upd (upd (upd (upd (fun _ => 0) 0 10) 1 6) 2 30) 3 100)))] H := hP
  have hD : va_D A [(hm, .inr (3, [.int th, .int 6, .ref wi, .ref co, .ref sl, .ref rn, .ref so, .ref bn, .ref sm, .ref ah])), (sm, .inr (2, [.int 0, .ref gr, .ref gt, .ref gw, .ref gk, .ref gi, .ref gp, .ref go, .ref gg, .ref hm])), (wi, .inl (d1, 6, .inl fw)), (co, .inl (d2, 6, .inl fc)), (sl, .inl (d3, 6, .inl fs)), (gr, .inl (d4, 6, .inl fg)), (gt, .inl (d8, 6, .inl (fun _ => 0))), (gw, .inl (d9, 6, .inl (fun _ => 0))), (gk, .inl (d10, 360, .inl fk)), (gi, .inl (d11, 360, .inl (fun _ => 0))), (q1, .inl (cA2, 9, .inl (upd (upd (upd (upd (fun _ => 0) 0 10) 1 6) 2 30) 3 100)))] := hD
  refine lv_dup hx hb dX3_roofTold_43 rfl ?_
  refine lv_iconst (v := 4) hx hb dX3_roofTold_44 (by decide) ?_
  refine lv_aload_n hx hb dX3_roofTold_45 rfl (lv_at hl 0 rfl) ?_
  refine va_get (D := (dC, dI)) (ci := 3) (v := .ref sm) (C := RX3) (T := TX3) (N := 10) hx hb hts (by decide +kernel) hown hK hP 0 rfl rfl 8 (by decide) (hts (.fieldLink RX3 33 "ThatchRoofModel" "s" "LThatchRoofModel$State;") (by decide +kernel)) (fun _ h9 => h9) rfl dX3_roofTold_46 ?_
  refine lv_iload_n hx hb dX3_roofTold_49 rfl (lv_at hl 1 rfl) ?_
  have hPc := hP.sub (ws' := [(sm, .inr (2, [.int 0, .ref gr, .ref gt, .ref gw, .ref gk, .ref gi, .ref gp, .ref go, .ref gg, .ref hm])), (gk, .inl (d10, 360, .inl fk))]) [1, 8] rfl
  have hKc := hK.sub (tys' := [(d10, .int)]) [6] rfl
  refine vp_callSi (va_runV (As := [.int (nI ru)]) (rest := [.int 4, .ref q1, .ref q1]) ⟨hx, hb, hml, hown, hts⟩ (r2_yealms l dC dI sm hm gr gt gw gk gi gp go gg d10 fk ru (by first | assumption | decide | omega) (by first | assumption | decide | omega)) (cwV 1 hts gX3_roofTold_X2_yealms rfl rfl rfl (by decide +kernel) ⟨Nat.le_of_ble_eq_true rfl, Nat.le_of_ble_eq_true rfl⟩) ⟨fun a U g mk q => by obtain ⟨q0, qP, qK⟩ := q; exact ⟨q0, qP, va_K.moved (u := U) (U := U.calling g mk a) (Vm.Alike.refl U.vm) qK⟩, va_recv hKc hPc (ci := 2) (q0 := 0) rfl rfl, fun U hU hW => ⟨rfl, by rw [hU]; exact hPc, va_K.moved hW.alike hKc⟩⟩ rfl rfl hl.1 rfl (lv_room (Nat.le_of_ble_eq_true rfl)) dX3_roofTold_50 ⟨Nat.le_of_ble_eq_true rfl, Nat.le_of_ble_eq_true rfl⟩).run (fun r7 hr7 => ?_)
  obtain rfl := hr7
  refine va_iast hx hb hK hP hD hS 10 8 rfl rfl (vp_in_nI (n := 4) (by decide) (by decide)) dX3_roofTold_53 (fun H locs hP hD hS => ?_)
  have hP : va_P (dC, dI) vwCl [(hm, .inr (3, [.int th, .int 6, .ref wi, .ref co, .ref sl, .ref rn, .ref so, .ref bn, .ref sm, .ref ah])), (sm, .inr (2, [.int 0, .ref gr, .ref gt, .ref gw, .ref gk, .ref gi, .ref gp, .ref go, .ref gg, .ref hm])), (wi, .inl (d1, 6, .inl fw)), (co, .inl (d2, 6, .inl fc)), (sl, .inl (d3, 6, .inl fs)), (gr, .inl (d4, 6, .inl fg)), (gt, .inl (d8, 6, .inl (fun _ => 0))), (gw, .inl (d9, 6, .inl (fun _ => 0))), (gk, .inl (d10, 360, .inl fk)), (gi, .inl (d11, 360, .inl (fun _ => 0))), (q1, .inl (cA2, 9, .inl (upd (upd (upd (upd (upd (fun _ => 0) 0 10) 1 6) 2 30) 3 100) 4 0)))] H := hP
  have hD : va_D A [(hm, .inr (3, [.int th, .int 6, .ref wi, .ref co, .ref sl, .ref rn, .ref so, .ref bn, .ref sm, .ref ah])), (sm, .inr (2, [.int 0, .ref gr, .ref gt, .ref gw, .ref gk, .ref gi, .ref gp, .ref go, .ref gg, .ref hm])), (wi, .inl (d1, 6, .inl fw)), (co, .inl (d2, 6, .inl fc)), (sl, .inl (d3, 6, .inl fs)), (gr, .inl (d4, 6, .inl fg)), (gt, .inl (d8, 6, .inl (fun _ => 0))), (gw, .inl (d9, 6, .inl (fun _ => 0))), (gk, .inl (d10, 360, .inl fk)), (gi, .inl (d11, 360, .inl (fun _ => 0))), (q1, .inl (cA2, 9, .inl (upd (upd (upd (upd (upd (fun _ => 0) 0 10) 1 6) 2 30) 3 100) 4 0)))] := hD
  refine lv_dup hx hb dX3_roofTold_54 rfl ?_
  refine lv_iconst (v := 5) hx hb dX3_roofTold_55 (by decide) ?_
  refine lv_aload_n hx hb dX3_roofTold_56 rfl (lv_at hl 0 rfl) ?_
  refine va_get (D := (dC, dI)) (ci := 3) (v := .ref sm) (C := RX3) (T := TX3) (N := 10) hx hb hts (by decide +kernel) hown hK hP 0 rfl rfl 8 (by decide) (hts (.fieldLink RX3 33 "ThatchRoofModel" "s" "LThatchRoofModel$State;") (by decide +kernel)) (fun _ h9 => h9) rfl dX3_roofTold_57 ?_
  refine lv_iload_n hx hb dX3_roofTold_60 rfl (lv_at hl 1 rfl) ?_
  have hPc := hP.sub (ws' := [(sm, .inr (2, [.int 0, .ref gr, .ref gt, .ref gw, .ref gk, .ref gi, .ref gp, .ref go, .ref gg, .ref hm])), (gi, .inl (d11, 360, .inl (fun _ => 0)))]) [1, 9] rfl
  have hKc := hK.sub (tys' := [(d11, .int)]) [7] rfl
  refine vp_callSi (va_runV (As := [.int (nI ru)]) (rest := [.int 5, .ref q1, .ref q1]) ⟨hx, hb, hml, hown, hts⟩ (r2_thickness l dC dI sm hm gr gt gw gk gi gp go gg d11 ru (by first | assumption | decide | omega)) (cwV 1 hts gX3_roofTold_X2_thickness rfl rfl rfl (by decide +kernel) ⟨Nat.le_of_ble_eq_true rfl, Nat.le_of_ble_eq_true rfl⟩) ⟨fun a U g mk q => by obtain ⟨q0, qP, qK⟩ := q; exact ⟨q0, qP, va_K.moved (u := U) (U := U.calling g mk a) (Vm.Alike.refl U.vm) qK⟩, va_recv hKc hPc (ci := 2) (q0 := 0) rfl rfl, fun U hU hW => ⟨rfl, by rw [hU]; exact hPc, va_K.moved hW.alike hKc⟩⟩ rfl rfl hl.1 rfl (lv_room (Nat.le_of_ble_eq_true rfl)) dX3_roofTold_61 ⟨Nat.le_of_ble_eq_true rfl, Nat.le_of_ble_eq_true rfl⟩).run (fun r8 hr8 => ?_)
  obtain rfl := hr8
  refine va_iast hx hb hK hP hD hS 10 8 rfl rfl (vp_in_nI (n := 5) (by decide) (by decide)) dX3_roofTold_64 (fun H locs hP hD hS => ?_)
  have hP : va_P (dC, dI) vwCl [(hm, .inr (3, [.int th, .int 6, .ref wi, .ref co, .ref sl, .ref rn, .ref so, .ref bn, .ref sm, .ref ah])), (sm, .inr (2, [.int 0, .ref gr, .ref gt, .ref gw, .ref gk, .ref gi, .ref gp, .ref go, .ref gg, .ref hm])), (wi, .inl (d1, 6, .inl fw)), (co, .inl (d2, 6, .inl fc)), (sl, .inl (d3, 6, .inl fs)), (gr, .inl (d4, 6, .inl fg)), (gt, .inl (d8, 6, .inl (fun _ => 0))), (gw, .inl (d9, 6, .inl (fun _ => 0))), (gk, .inl (d10, 360, .inl fk)), (gi, .inl (d11, 360, .inl (fun _ => 0))), (q1, .inl (cA2, 9, .inl (upd (upd (upd (upd (upd (upd (fun _ => 0) 0 10) 1 6) 2 30) 3 100) 4 0) 5 0)))] H := hP
  have hD : va_D A [(hm, .inr (3, [.int th, .int 6, .ref wi, .ref co, .ref sl, .ref rn, .ref so, .ref bn, .ref sm, .ref ah])), (sm, .inr (2, [.int 0, .ref gr, .ref gt, .ref gw, .ref gk, .ref gi, .ref gp, .ref go, .ref gg, .ref hm])), (wi, .inl (d1, 6, .inl fw)), (co, .inl (d2, 6, .inl fc)), (sl, .inl (d3, 6, .inl fs)), (gr, .inl (d4, 6, .inl fg)), (gt, .inl (d8, 6, .inl (fun _ => 0))), (gw, .inl (d9, 6, .inl (fun _ => 0))), (gk, .inl (d10, 360, .inl fk)), (gi, .inl (d11, 360, .inl (fun _ => 0))), (q1, .inl (cA2, 9, .inl (upd (upd (upd (upd (upd (upd (fun _ => 0) 0 10) 1 6) 2 30) 3 100) 4 0) 5 0)))] := hD
  refine lv_dup hx hb dX3_roofTold_65 rfl ?_
  refine lv_bipush (v := 6) hx hb dX3_roofTold_66 (by decide) ?_
  refine lv_aload_n hx hb dX3_roofTold_68 rfl (lv_at hl 0 rfl) ?_
  refine va_get (D := (dC, dI)) (ci := 3) (v := .ref sm) (C := RX3) (T := TX3) (N := 10) hx hb hts (by decide +kernel) hown hK hP 0 rfl rfl 8 (by decide) (hts (.fieldLink RX3 33 "ThatchRoofModel" "s" "LThatchRoofModel$State;") (by decide +kernel)) (fun _ h9 => h9) rfl dX3_roofTold_69 ?_
  refine lv_iload_n hx hb dX3_roofTold_72 rfl (lv_at hl 1 rfl) ?_
  have hPc := hP.sub (ws' := [(sm, .inr (2, [.int 0, .ref gr, .ref gt, .ref gw, .ref gk, .ref gi, .ref gp, .ref go, .ref gg, .ref hm])), (hm, .inr (3, [.int th, .int 6, .ref wi, .ref co, .ref sl, .ref rn, .ref so, .ref bn, .ref sm, .ref ah])), (wi, .inl (d1, 6, .inl fw)), (co, .inl (d2, 6, .inl fc)), (gk, .inl (d10, 360, .inl fk)), (gi, .inl (d11, 360, .inl (fun _ => 0)))]) [1, 0, 2, 3, 8, 9] rfl
  have hKc := hK.sub (tys' := [(d1, .int), (d2, .int), (d10, .int), (d11, .int)]) [0, 1, 6, 7] rfl
  refine vp_callSi (va_runV (As := [.int (nI ru)]) (rest := [.int 6, .ref q1, .ref q1]) ⟨hx, hb, hml, hown, hts⟩ (r2_leaks l dC dI hm wi co sl rn so bn sm ah th gr gt gw gk gi gp go gg d1 d2 d10 d11 fw fc fk ru (by first | assumption | decide | omega) (by first | assumption | decide | omega) (by first | assumption | decide | omega) (by first | assumption | decide | omega)) (cwV 1 hts gX3_roofTold_X2_leaks rfl rfl rfl (by decide +kernel) ⟨Nat.le_of_ble_eq_true rfl, Nat.le_of_ble_eq_true rfl⟩) ⟨fun a U g mk q => by obtain ⟨q0, qP, qK, qN⟩ := q; exact ⟨q0, qP, va_K.moved (u := U) (U := U.calling g mk a) (Vm.Alike.refl U.vm) qK, zNs.calling qN⟩, va_recv hKc hPc (ci := 2) (q0 := 0) rfl rfl, fun U hU hW => ⟨rfl, by rw [hU]; exact hPc, va_K.moved hW.alike hKc, zNs.warm hW hZN⟩⟩ rfl rfl hl.1 rfl (lv_room (Nat.le_of_ble_eq_true rfl)) dX3_roofTold_73 ⟨Nat.le_of_ble_eq_true rfl, Nat.le_of_ble_eq_true rfl⟩).run (fun r9 hr9 => ?_)
  obtain rfl := hr9
  refine va_iast hx hb hK hP hD hS 10 8 rfl rfl (vp_in_nI (n := 6) (by decide) (by decide)) dX3_roofTold_76 (fun H locs hP hD hS => ?_)
  have hP : va_P (dC, dI) vwCl [(hm, .inr (3, [.int th, .int 6, .ref wi, .ref co, .ref sl, .ref rn, .ref so, .ref bn, .ref sm, .ref ah])), (sm, .inr (2, [.int 0, .ref gr, .ref gt, .ref gw, .ref gk, .ref gi, .ref gp, .ref go, .ref gg, .ref hm])), (wi, .inl (d1, 6, .inl fw)), (co, .inl (d2, 6, .inl fc)), (sl, .inl (d3, 6, .inl fs)), (gr, .inl (d4, 6, .inl fg)), (gt, .inl (d8, 6, .inl (fun _ => 0))), (gw, .inl (d9, 6, .inl (fun _ => 0))), (gk, .inl (d10, 360, .inl fk)), (gi, .inl (d11, 360, .inl (fun _ => 0))), (q1, .inl (cA2, 9, .inl (upd (upd (upd (upd (upd (upd (upd (fun _ => 0) 0 10) 1 6) 2 30) 3 100) 4 0) 5 0) 6 10)))] H := hP
  have hD : va_D A [(hm, .inr (3, [.int th, .int 6, .ref wi, .ref co, .ref sl, .ref rn, .ref so, .ref bn, .ref sm, .ref ah])), (sm, .inr (2, [.int 0, .ref gr, .ref gt, .ref gw, .ref gk, .ref gi, .ref gp, .ref go, .ref gg, .ref hm])), (wi, .inl (d1, 6, .inl fw)), (co, .inl (d2, 6, .inl fc)), (sl, .inl (d3, 6, .inl fs)), (gr, .inl (d4, 6, .inl fg)), (gt, .inl (d8, 6, .inl (fun _ => 0))), (gw, .inl (d9, 6, .inl (fun _ => 0))), (gk, .inl (d10, 360, .inl fk)), (gi, .inl (d11, 360, .inl (fun _ => 0))), (q1, .inl (cA2, 9, .inl (upd (upd (upd (upd (upd (upd (upd (fun _ => 0) 0 10) 1 6) 2 30) 3 100) 4 0) 5 0) 6 10)))] := hD
  refine lv_dup hx hb dX3_roofTold_77 rfl ?_
  refine lv_bipush (v := 7) hx hb dX3_roofTold_78 (by decide) ?_
  refine lv_aload_n hx hb dX3_roofTold_80 rfl (lv_at hl 0 rfl) ?_
  refine va_get (D := (dC, dI)) (ci := 3) (v := .ref sm) (C := RX3) (T := TX3) (N := 10) hx hb hts (by decide +kernel) hown hK hP 0 rfl rfl 8 (by decide) (hts (.fieldLink RX3 33 "ThatchRoofModel" "s" "LThatchRoofModel$State;") (by decide +kernel)) (fun _ h9 => h9) rfl dX3_roofTold_81 ?_
  refine va_getN (D := (dC, dI)) (ci := 2) (v := .ref gt) (C := RX2) (T := TX2) (N := 10) hx hb hts (by decide +kernel) hown hK hP 1 rfl rfl 2 (by decide) (va_Nw.use rfl (zN_RX3_118 hZN)) (fun _ h9 => h9) rfl dX3_roofTold_84 ?_
  refine lv_iload_n hx hb dX3_roofTold_87 rfl (lv_at hl 1 rfl) ?_
  refine va_iald hx hb hK hP 6 4 rfl rfl (vp_in_nI (by omega) (by omega)) dX3_roofTold_88 ?_
  refine lv_topi (fun x10 ex10 => ?_)
  obtain rfl : x10 = 0 := ex10
  refine va_iast hx hb hK hP hD hS 10 8 rfl rfl (vp_in_nI (n := 7) (by decide) (by decide)) dX3_roofTold_89 (fun H locs hP hD hS => ?_)
  have hP : va_P (dC, dI) vwCl [(hm, .inr (3, [.int th, .int 6, .ref wi, .ref co, .ref sl, .ref rn, .ref so, .ref bn, .ref sm, .ref ah])), (sm, .inr (2, [.int 0, .ref gr, .ref gt, .ref gw, .ref gk, .ref gi, .ref gp, .ref go, .ref gg, .ref hm])), (wi, .inl (d1, 6, .inl fw)), (co, .inl (d2, 6, .inl fc)), (sl, .inl (d3, 6, .inl fs)), (gr, .inl (d4, 6, .inl fg)), (gt, .inl (d8, 6, .inl (fun _ => 0))), (gw, .inl (d9, 6, .inl (fun _ => 0))), (gk, .inl (d10, 360, .inl fk)), (gi, .inl (d11, 360, .inl (fun _ => 0))), (q1, .inl (cA2, 9, .inl (upd (upd (upd (upd (upd (upd (upd (upd (fun _ => 0) 0 10) 1 6) 2 30) 3 100) 4 0) 5 0) 6 10) 7 0)))] H := hP
  have hD : va_D A [(hm, .inr (3, [.int th, .int 6, .ref wi, .ref co, .ref sl, .ref rn, .ref so, .ref bn, .ref sm, .ref ah])), (sm, .inr (2, [.int 0, .ref gr, .ref gt, .ref gw, .ref gk, .ref gi, .ref gp, .ref go, .ref gg, .ref hm])), (wi, .inl (d1, 6, .inl fw)), (co, .inl (d2, 6, .inl fc)), (sl, .inl (d3, 6, .inl fs)), (gr, .inl (d4, 6, .inl fg)), (gt, .inl (d8, 6, .inl (fun _ => 0))), (gw, .inl (d9, 6, .inl (fun _ => 0))), (gk, .inl (d10, 360, .inl fk)), (gi, .inl (d11, 360, .inl (fun _ => 0))), (q1, .inl (cA2, 9, .inl (upd (upd (upd (upd (upd (upd (upd (upd (fun _ => 0) 0 10) 1 6) 2 30) 3 100) 4 0) 5 0) 6 10) 7 0)))] := hD
  refine lv_dup hx hb dX3_roofTold_90 rfl ?_
  refine lv_bipush (v := 8) hx hb dX3_roofTold_91 (by decide) ?_
  refine lv_aload_n hx hb dX3_roofTold_93 rfl (lv_at hl 0 rfl) ?_
  refine va_get (D := (dC, dI)) (ci := 3) (v := .ref sm) (C := RX3) (T := TX3) (N := 10) hx hb hts (by decide +kernel) hown hK hP 0 rfl rfl 8 (by decide) (hts (.fieldLink RX3 33 "ThatchRoofModel" "s" "LThatchRoofModel$State;") (by decide +kernel)) (fun _ h9 => h9) rfl dX3_roofTold_94 ?_
  refine va_getN (D := (dC, dI)) (ci := 2) (v := .ref gw) (C := RX2) (T := TX2) (N := 10) hx hb hts (by decide +kernel) hown hK hP 1 rfl rfl 3 (by decide) (va_Nw.use rfl (zN_RX3_121 hZN)) (fun _ h9 => h9) rfl dX3_roofTold_97 ?_
  refine lv_iload_n hx hb dX3_roofTold_100 rfl (lv_at hl 1 rfl) ?_
  refine va_iald hx hb hK hP 7 5 rfl rfl (vp_in_nI (by omega) (by omega)) dX3_roofTold_101 ?_
  refine lv_topi (fun x11 ex11 => ?_)
  obtain rfl : x11 = 0 := ex11
  refine va_iast hx hb hK hP hD hS 10 8 rfl rfl (vp_in_nI (n := 8) (by decide) (by decide)) dX3_roofTold_102 (fun H locs hP hD hS => ?_)
  have hP : va_P (dC, dI) vwCl [(hm, .inr (3, [.int th, .int 6, .ref wi, .ref co, .ref sl, .ref rn, .ref so, .ref bn, .ref sm, .ref ah])), (sm, .inr (2, [.int 0, .ref gr, .ref gt, .ref gw, .ref gk, .ref gi, .ref gp, .ref go, .ref gg, .ref hm])), (wi, .inl (d1, 6, .inl fw)), (co, .inl (d2, 6, .inl fc)), (sl, .inl (d3, 6, .inl fs)), (gr, .inl (d4, 6, .inl fg)), (gt, .inl (d8, 6, .inl (fun _ => 0))), (gw, .inl (d9, 6, .inl (fun _ => 0))), (gk, .inl (d10, 360, .inl fk)), (gi, .inl (d11, 360, .inl (fun _ => 0))), (q1, .inl (cA2, 9, .inl (upd (upd (upd (upd (upd (upd (upd (upd (upd (fun _ => 0) 0 10) 1 6) 2 30) 3 100) 4 0) 5 0) 6 10) 7 0) 8 0)))] H := hP
  have hD : va_D A [(hm, .inr (3, [.int th, .int 6, .ref wi, .ref co, .ref sl, .ref rn, .ref so, .ref bn, .ref sm, .ref ah])), (sm, .inr (2, [.int 0, .ref gr, .ref gt, .ref gw, .ref gk, .ref gi, .ref gp, .ref go, .ref gg, .ref hm])), (wi, .inl (d1, 6, .inl fw)), (co, .inl (d2, 6, .inl fc)), (sl, .inl (d3, 6, .inl fs)), (gr, .inl (d4, 6, .inl fg)), (gt, .inl (d8, 6, .inl (fun _ => 0))), (gw, .inl (d9, 6, .inl (fun _ => 0))), (gk, .inl (d10, 360, .inl fk)), (gi, .inl (d11, 360, .inl (fun _ => 0))), (q1, .inl (cA2, 9, .inl (upd (upd (upd (upd (upd (upd (upd (upd (upd (fun _ => 0) 0 10) 1 6) 2 30) 3 100) 4 0) 5 0) 6 10) 7 0) 8 0)))] := hD
  refine lv_astore_n (lv' := [(3, .ref q1), (0, .ref hm), (1, .int (nI ru)), (2, .int 6)]) hx hb dX3_roofTold_103 rfl hl (by decide) rfl (fun ls hl => ?_)
  refine lv_aload_n hx hb dX3_roofTold_104 rfl (lv_at hl 0 rfl) ?_
  refine lv_iload_n hx hb dX3_roofTold_105 rfl (lv_at hl 3 rfl) ?_
  refine va_iald hx hb hK hP 10 8 rfl rfl (vp_in_nI (n := 6) (by decide) (by decide)) dX3_roofTold_106 ?_
  refine lv_topi (fun x12 ex12 => ?_)
  obtain rfl : x12 = 10 := ex12
  have hP9 := hP.sub (ws' := [(hm, .inr (3, [.int th, .int 6, .ref wi, .ref co, .ref sl, .ref rn, .ref so, .ref bn, .ref sm, .ref ah])), (sm, .inr (2, [.int 0, .ref gr, .ref gt, .ref gw, .ref gk, .ref gi, .ref gp, .ref go, .ref gg, .ref hm])), (wi, .inl (d1, 6, .inl fw)), (co, .inl (d2, 6, .inl fc)), (sl, .inl (d3, 6, .inl fs)), (gr, .inl (d4, 6, .inl fg)), (gt, .inl (d8, 6, .inl (fun _ => 0))), (gw, .inl (d9, 6, .inl (fun _ => 0))), (gk, .inl (d10, 360, .inl fk)), (gi, .inl (d11, 360, .inl (fun _ => 0)))]) [0, 1, 2, 3, 4, 5, 6, 7, 8, 9] rfl
  have hD9 := hD.sub (ws' := [(hm, .inr (3, [.int th, .int 6, .ref wi, .ref co, .ref sl, .ref rn, .ref so, .ref bn, .ref sm, .ref ah])), (sm, .inr (2, [.int 0, .ref gr, .ref gt, .ref gw, .ref gk, .ref gi, .ref gp, .ref go, .ref gg, .ref hm])), (wi, .inl (d1, 6, .inl fw)), (co, .inl (d2, 6, .inl fc)), (sl, .inl (d3, 6, .inl fs)), (gr, .inl (d4, 6, .inl fg)), (gt, .inl (d8, 6, .inl (fun _ => 0))), (gw, .inl (d9, 6, .inl (fun _ => 0))), (gk, .inl (d10, 360, .inl fk)), (gi, .inl (d11, 360, .inl (fun _ => 0)))]) [0, 1, 2, 3, 4, 5, 6, 7, 8, 9] (by decide) rfl
  have hK9 := hK.sub (tys' := []) [] rfl
  refine W.widen (k := 1) (n := 9) (Nat.le_of_ble_eq_true rfl) (Nat.le_of_ble_eq_true rfl) ?_
  have hZ := zz_one hAe hD hP 10 [0, 1, 2, 3, 4, 5, 6, 7, 8, 9] rfl rfl (by decide)
  exact W.iret (v := 10) hx hb hr (fun t ht hW => ⟨⟨10, (), rfl, by (first | rfl | assumption | decide | (simp_all; done) | grind), ⟨by rw [ht]; exact hP9, va_K.moved hW.alike hK9, hD9, by rw [ht]; omega⟩⟩, hS.F ht⟩) hS.2.2 dX3_roofTold_107

set_option maxHeartbeats 4000000 in
set_option maxRecDepth 100000 in
theorem r3_roofTold7 (l : Launch) (dC : Nat → ClassId) (dI : Nat → Nat → Nat) (sz : Nat) (hm : Nat) (wi : Nat) (co : Nat) (sl : Nat) (rn : Nat) (so : Nat) (bn : Nat) (sm : Nat) (ah : Nat) (th : Int32) (gr : Nat) (gt : Nat) (gw : Nat) (gk : Nat) (gi : Nat) (gp : Nat) (go : Nat) (gg : Nat) (d1 : ClassId) (d2 : ClassId) (d3 : ClassId) (d4 : ClassId) (d8 : ClassId) (d9 : ClassId) (d10 : ClassId) (d11 : ClassId) (fw : Nat → Int32) (fc : Nat → Int32) (fs : Nat → Int32) (fg : Nat → Int32) (fk : Nat → Int32) (ru : Nat) (hk : ∀ j : Nat, j < 360 → fk j = -1) (hw : ∀ j : Nat, j < 6 → fw j = 10) (hc : ∀ j : Nat, j < 6 → fc j = 6) (hs : ∀ j : Nat, j < 6 → fs j = 30) (hg : ∀ j : Nat, j < 6 → fg j = 100) (hru : ru < 6) : Met l yX3_roofTold wsX3_roofTold ({ frames := 2, cells := 1, slots := 9, locals := 47 }) (va_Pc [.ref hm, .int (nI ru), .int 7] (fun U => U.heap.size = sz ∧ va_P (dC, dI) vwCl [(hm, .inr (3, [.int th, .int 6, .ref wi, .ref co, .ref sl, .ref rn, .ref so, .ref bn, .ref sm, .ref ah])), (sm, .inr (2, [.int 0, .ref gr, .ref gt, .ref gw, .ref gk, .ref gi, .ref gp, .ref go, .ref gg, .ref hm])), (wi, .inl (d1, 6, .inl fw)), (co, .inl (d2, 6, .inl fc)), (sl, .inl (d3, 6, .inl fs)), (gr, .inl (d4, 6, .inl fg)), (gt, .inl (d8, 6, .inl (fun _ => 0))), (gw, .inl (d9, 6, .inl (fun _ => 0))), (gk, .inl (d10, 360, .inl fk)), (gi, .inl (d11, 360, .inl (fun _ => 0)))] U.heap ∧ va_K (dC, dI) vwCl [(d1, .int), (d2, .int), (d3, .int), (d4, .int), (d8, .int), (d9, .int), (d10, .int), (d11, .int)] U ∧ va_D (fun _ => True) [(hm, .inr (3, [.int th, .int 6, .ref wi, .ref co, .ref sl, .ref rn, .ref so, .ref bn, .ref sm, .ref ah])), (sm, .inr (2, [.int 0, .ref gr, .ref gt, .ref gw, .ref gk, .ref gi, .ref gp, .ref go, .ref gg, .ref hm])), (wi, .inl (d1, 6, .inl fw)), (co, .inl (d2, 6, .inl fc)), (sl, .inl (d3, 6, .inl fs)), (gr, .inl (d4, 6, .inl fg)), (gt, .inl (d8, 6, .inl (fun _ => 0))), (gw, .inl (d9, 6, .inl (fun _ => 0))), (gk, .inl (d10, 360, .inl fk)), (gi, .inl (d11, 360, .inl (fun _ => 0)))] ∧ zNs U)) (va_Qi (fun (r : Int32) (u : Unit) => r = 0) (fun (u : Unit) (t : State) => va_P (dC, dI) vwCl [(hm, .inr (3, [.int th, .int 6, .ref wi, .ref co, .ref sl, .ref rn, .ref so, .ref bn, .ref sm, .ref ah])), (sm, .inr (2, [.int 0, .ref gr, .ref gt, .ref gw, .ref gk, .ref gi, .ref gp, .ref go, .ref gg, .ref hm])), (wi, .inl (d1, 6, .inl fw)), (co, .inl (d2, 6, .inl fc)), (sl, .inl (d3, 6, .inl fs)), (gr, .inl (d4, 6, .inl fg)), (gt, .inl (d8, 6, .inl (fun _ => 0))), (gw, .inl (d9, 6, .inl (fun _ => 0))), (gk, .inl (d10, 360, .inl fk)), (gi, .inl (d11, 360, .inl (fun _ => 0)))] t.heap ∧ va_K (dC, dI) vwCl [] t ∧ va_D (va_A [(hm, .inr (3, [.int th, .int 6, .ref wi, .ref co, .ref sl, .ref rn, .ref so, .ref bn, .ref sm, .ref ah])), (sm, .inr (2, [.int 0, .ref gr, .ref gt, .ref gw, .ref gk, .ref gi, .ref gp, .ref go, .ref gg, .ref hm])), (wi, .inl (d1, 6, .inl fw)), (co, .inl (d2, 6, .inl fc)), (sl, .inl (d3, 6, .inl fs)), (gr, .inl (d4, 6, .inl fg)), (gt, .inl (d8, 6, .inl (fun _ => 0))), (gw, .inl (d9, 6, .inl (fun _ => 0))), (gk, .inl (d10, 360, .inl fk)), (gi, .inl (d11, 360, .inl (fun _ => 0)))] sz) [(hm, .inr (3, [.int th, .int 6, .ref wi, .ref co, .ref sl, .ref rn, .ref so, .ref bn, .ref sm, .ref ah])), (sm, .inr (2, [.int 0, .ref gr, .ref gt, .ref gw, .ref gk, .ref gi, .ref gp, .ref go, .ref gg, .ref hm])), (wi, .inl (d1, 6, .inl fw)), (co, .inl (d2, 6, .inl fc)), (sl, .inl (d3, 6, .inl fs)), (gr, .inl (d4, 6, .inl fg)), (gt, .inl (d8, 6, .inl (fun _ => 0))), (gw, .inl (d9, 6, .inl (fun _ => 0))), (gk, .inl (d10, 360, .inl fk)), (gi, .inl (d11, 360, .inl (fun _ => 0)))] ∧ sz + 1 ≤ t.heap.size) (va_A [(hm, .inr (3, [.int th, .int 6, .ref wi, .ref co, .ref sl, .ref rn, .ref so, .ref bn, .ref sm, .ref ah])), (sm, .inr (2, [.int 0, .ref gr, .ref gt, .ref gw, .ref gk, .ref gi, .ref gp, .ref go, .ref gg, .ref hm])), (wi, .inl (d1, 6, .inl fw)), (co, .inl (d2, 6, .inl fc)), (sl, .inl (d3, 6, .inl fs)), (gr, .inl (d4, 6, .inl fg)), (gt, .inl (d8, 6, .inl (fun _ => 0))), (gw, .inl (d9, 6, .inl (fun _ => 0))), (gk, .inl (d10, 360, .inl fk)), (gi, .inl (d11, 360, .inl (fun _ => 0)))] sz)) 1 9 (va_A [(hm, .inr (3, [.int th, .int 6, .ref wi, .ref co, .ref sl, .ref rn, .ref so, .ref bn, .ref sm, .ref ah])), (sm, .inr (2, [.int 0, .ref gr, .ref gt, .ref gw, .ref gk, .ref gi, .ref gp, .ref go, .ref gg, .ref hm])), (wi, .inl (d1, 6, .inl fw)), (co, .inl (d2, 6, .inl fc)), (sl, .inl (d3, 6, .inl fs)), (gr, .inl (d4, 6, .inl fg)), (gt, .inl (d8, 6, .inl (fun _ => 0))), (gw, .inl (d9, 6, .inl (fun _ => 0))), (gk, .inl (d10, 360, .inl fk)), (gi, .inl (d11, 360, .inl (fun _ => 0)))] sz) := by
  refine Met.ofW (cc := cX3_roofTold) (maxL := 4) (ret := (some .int)) (by decide) rfl ?_
  intro p e s m args below meth c s₁ B hml hv
  obtain ⟨rfl, hsz, hP, hK, hD0, hZN⟩ := hv
  have hx := B.exec
  have hb := B.bytes
  have hr := B.returns
  have hts := atoms_spec (ws := wsX3_roofTold) B.pre
  have hown : s.vm.findClass RX3 = some m.cls := findClass_of_methodNamed B.named
  have hlocks := B.notSynchronized
  subst hsz
  have hD := hD0.self (sz := s.heap.size)
  generalize hAe : va_A [(hm, .inr (3, [.int th, .int 6, .ref wi, .ref co, .ref sl, .ref rn, .ref so, .ref bn, .ref sm, .ref ah])), (sm, .inr (2, [.int 0, .ref gr, .ref gt, .ref gw, .ref gk, .ref gi, .ref gp, .ref go, .ref gg, .ref hm])), (wi, .inl (d1, 6, .inl fw)), (co, .inl (d2, 6, .inl fc)), (sl, .inl (d3, 6, .inl fs)), (gr, .inl (d4, 6, .inl fg)), (gt, .inl (d8, 6, .inl (fun _ => 0))), (gw, .inl (d9, 6, .inl (fun _ => 0))), (gk, .inl (d10, 360, .inl fk)), (gi, .inl (d11, 360, .inl (fun _ => 0)))] s.heap.size = A at hD ⊢
  have hA : ∀ q : Nat, s.heap.size ≤ q → A q := fun q h => by rw [← hAe]; exact Or.inr h
  have hS : va_S A s.heap s.heap [] := va_S.rf
  have hP : va_P (dC, dI) vwCl [(hm, .inr (3, [.int th, .int 6, .ref wi, .ref co, .ref sl, .ref rn, .ref so, .ref bn, .ref sm, .ref ah])), (sm, .inr (2, [.int 0, .ref gr, .ref gt, .ref gw, .ref gk, .ref gi, .ref gp, .ref go, .ref gg, .ref hm])), (wi, .inl (d1, 6, .inl fw)), (co, .inl (d2, 6, .inl fc)), (sl, .inl (d3, 6, .inl fs)), (gr, .inl (d4, 6, .inl fg)), (gt, .inl (d8, 6, .inl (fun _ => 0))), (gw, .inl (d9, 6, .inl (fun _ => 0))), (gk, .inl (d10, 360, .inl fk)), (gi, .inl (d11, 360, .inl (fun _ => 0)))] s.heap := hP
  have hl := lv_entry ([.ref hm, .int (nI ru), .int 7]) (n := 4) (Nat.le_of_ble_eq_true rfl)
  rw [lg_entry_eq]
  generalize (lg_sl ([.ref hm, .int (nI ru), .int 7]) ++ List.replicate (4 - (lg_sl ([.ref hm, .int (nI ru), .int 7])).length) Slot.unset).toArray = ls at hl ⊢
  have hl : lv_has ls 4 [(0, .ref hm), (1, .int (nI ru)), (2, .int 7)] := hl
  refine lv_bipush (v := 9) hx hb dX3_roofTold_0 (by decide) ?_
  refine va_newa (atype := .int) (ty := .int) (N' := 9) (a0 := (9, .inl (fun _ => 0))) hx hb (hts (.arrayClass .int) (by decide +kernel)) rfl hK hP hD hS hA (fun _ => rfl) (by decide) (by decide) (by decide) (Nat.le_of_ble_eq_true rfl) (Nat.le_of_ble_eq_true rfl) dX3_roofTold_2 (fun q1 cA2 H hK hP hD hS => ?_)
  refine W.widen (k := 1) (n := 9) (Nat.le_of_ble_eq_true rfl) (Nat.le_of_ble_eq_true rfl) ?_
  have hK : va_K (dC, dI) vwCl [(d1, .int), (d2, .int), (d3, .int), (d4, .int), (d8, .int), (d9, .int), (d10, .int), (d11, .int), (cA2, .int)] s := hK
  have hP : va_P (dC, dI) vwCl [(hm, .inr (3, [.int th, .int 6, .ref wi, .ref co, .ref sl, .ref rn, .ref so, .ref bn, .ref sm, .ref ah])), (sm, .inr (2, [.int 0, .ref gr, .ref gt, .ref gw, .ref gk, .ref gi, .ref gp, .ref go, .ref gg, .ref hm])), (wi, .inl (d1, 6, .inl fw)), (co, .inl (d2, 6, .inl fc)), (sl, .inl (d3, 6, .inl fs)), (gr, .inl (d4, 6, .inl fg)), (gt, .inl (d8, 6, .inl (fun _ => 0))), (gw, .inl (d9, 6, .inl (fun _ => 0))), (gk, .inl (d10, 360, .inl fk)), (gi, .inl (d11, 360, .inl (fun _ => 0))), (q1, .inl (cA2, 9, .inl (fun _ => 0)))] H := hP
  have hD : va_D A [(hm, .inr (3, [.int th, .int 6, .ref wi, .ref co, .ref sl, .ref rn, .ref so, .ref bn, .ref sm, .ref ah])), (sm, .inr (2, [.int 0, .ref gr, .ref gt, .ref gw, .ref gk, .ref gi, .ref gp, .ref go, .ref gg, .ref hm])), (wi, .inl (d1, 6, .inl fw)), (co, .inl (d2, 6, .inl fc)), (sl, .inl (d3, 6, .inl fs)), (gr, .inl (d4, 6, .inl fg)), (gt, .inl (d8, 6, .inl (fun _ => 0))), (gw, .inl (d9, 6, .inl (fun _ => 0))), (gk, .inl (d10, 360, .inl fk)), (gi, .inl (d11, 360, .inl (fun _ => 0))), (q1, .inl (cA2, 9, .inl (fun _ => 0)))] := hD
  refine lv_dup hx hb dX3_roofTold_4 rfl ?_
  refine lv_iconst (v := 0) hx hb dX3_roofTold_5 (by decide) ?_
  refine lv_aload_n hx hb dX3_roofTold_6 rfl (lv_at hl 0 rfl) ?_
  refine va_get (D := (dC, dI)) (ci := 3) (v := .ref wi) (C := RX3) (T := TX3) (N := 10) hx hb hts (by decide +kernel) hown hK hP 0 rfl rfl 2 (by decide) (hts (.fieldLink RX3 9 "ThatchRoofModel" "width" "[I") (by decide +kernel)) (fun _ h9 => h9) rfl dX3_roofTold_7 ?_
  refine lv_iload_n hx hb dX3_roofTold_10 rfl (lv_at hl 1 rfl) ?_
  refine va_iald hx hb hK hP 2 0 rfl rfl (vp_in_nI (by omega) (by omega)) dX3_roofTold_11 ?_
  refine lv_topi (fun x3 ex3 => ?_)
  rw [nI_clamp (show ru < 2 ^ 31 by omega)] at ex3
  obtain rfl : x3 = 10 := ex3.trans (hw _ (by omega))
  refine va_iast hx hb hK hP hD hS 10 8 rfl rfl (vp_in_nI (n := 0) (by decide) (by decide)) dX3_roofTold_12 (fun H locs hP hD hS => ?_)
  have hP : va_P (dC, dI) vwCl [(hm, .inr (3, [.int th, .int 6, .ref wi, .ref co, .ref sl, .ref rn, .ref so, .ref bn, .ref sm, .ref ah])), (sm, .inr (2, [.int 0, .ref gr, .ref gt, .ref gw, .ref gk, .ref gi, .ref gp, .ref go, .ref gg, .ref hm])), (wi, .inl (d1, 6, .inl fw)), (co, .inl (d2, 6, .inl fc)), (sl, .inl (d3, 6, .inl fs)), (gr, .inl (d4, 6, .inl fg)), (gt, .inl (d8, 6, .inl (fun _ => 0))), (gw, .inl (d9, 6, .inl (fun _ => 0))), (gk, .inl (d10, 360, .inl fk)), (gi, .inl (d11, 360, .inl (fun _ => 0))), (q1, .inl (cA2, 9, .inl (upd (fun _ => 0) 0 10)))] H := hP
  have hD : va_D A [(hm, .inr (3, [.int th, .int 6, .ref wi, .ref co, .ref sl, .ref rn, .ref so, .ref bn, .ref sm, .ref ah])), (sm, .inr (2, [.int 0, .ref gr, .ref gt, .ref gw, .ref gk, .ref gi, .ref gp, .ref go, .ref gg, .ref hm])), (wi, .inl (d1, 6, .inl fw)), (co, .inl (d2, 6, .inl fc)), (sl, .inl (d3, 6, .inl fs)), (gr, .inl (d4, 6, .inl fg)), (gt, .inl (d8, 6, .inl (fun _ => 0))), (gw, .inl (d9, 6, .inl (fun _ => 0))), (gk, .inl (d10, 360, .inl fk)), (gi, .inl (d11, 360, .inl (fun _ => 0))), (q1, .inl (cA2, 9, .inl (upd (fun _ => 0) 0 10)))] := hD
  refine lv_dup hx hb dX3_roofTold_13 rfl ?_
  refine lv_iconst (v := 1) hx hb dX3_roofTold_14 (by decide) ?_
  refine lv_aload_n hx hb dX3_roofTold_15 rfl (lv_at hl 0 rfl) ?_
  refine va_get (D := (dC, dI)) (ci := 3) (v := .ref co) (C := RX3) (T := TX3) (N := 10) hx hb hts (by decide +kernel) hown hK hP 0 rfl rfl 3 (by decide) (hts (.fieldLink RX3 13 "ThatchRoofModel" "courses" "[I") (by decide +kernel)) (fun _ h9 => h9) rfl dX3_roofTold_16 ?_
  refine lv_iload_n hx hb dX3_roofTold_19 rfl (lv_at hl 1 rfl) ?_
  refine va_iald hx hb hK hP 3 1 rfl rfl (vp_in_nI (by omega) (by omega)) dX3_roofTold_20 ?_
  refine lv_topi (fun x4 ex4 => ?_)
  rw [nI_clamp (show ru < 2 ^ 31 by omega)] at ex4
  obtain rfl : x4 = 6 := ex4.trans (hc _ (by omega))
  refine va_iast hx hb hK hP hD hS 10 8 rfl rfl (vp_in_nI (n := 1) (by decide) (by decide)) dX3_roofTold_21 (fun H locs hP hD hS => ?_)
  have hP : va_P (dC, dI) vwCl [(hm, .inr (3, [.int th, .int 6, .ref wi, .ref co, .ref sl, .ref rn, .ref so, .ref bn, .ref sm, .ref ah])), (sm, .inr (2, [.int 0, .ref gr, .ref gt, .ref gw, .ref gk, .ref gi, .ref gp, .ref go, .ref gg, .ref hm])), (wi, .inl (d1, 6, .inl fw)), (co, .inl (d2, 6, .inl fc)), (sl, .inl (d3, 6, .inl fs)), (gr, .inl (d4, 6, .inl fg)), (gt, .inl (d8, 6, .inl (fun _ => 0))), (gw, .inl (d9, 6, .inl (fun _ => 0))), (gk, .inl (d10, 360, .inl fk)), (gi, .inl (d11, 360, .inl (fun _ => 0))), (q1, .inl (cA2, 9, .inl (upd (upd (fun _ => 0) 0 10) 1 6)))] H := hP
  have hD : va_D A [(hm, .inr (3, [.int th, .int 6, .ref wi, .ref co, .ref sl, .ref rn, .ref so, .ref bn, .ref sm, .ref ah])), (sm, .inr (2, [.int 0, .ref gr, .ref gt, .ref gw, .ref gk, .ref gi, .ref gp, .ref go, .ref gg, .ref hm])), (wi, .inl (d1, 6, .inl fw)), (co, .inl (d2, 6, .inl fc)), (sl, .inl (d3, 6, .inl fs)), (gr, .inl (d4, 6, .inl fg)), (gt, .inl (d8, 6, .inl (fun _ => 0))), (gw, .inl (d9, 6, .inl (fun _ => 0))), (gk, .inl (d10, 360, .inl fk)), (gi, .inl (d11, 360, .inl (fun _ => 0))), (q1, .inl (cA2, 9, .inl (upd (upd (fun _ => 0) 0 10) 1 6)))] := hD
  refine lv_dup hx hb dX3_roofTold_22 rfl ?_
  refine lv_iconst (v := 2) hx hb dX3_roofTold_23 (by decide) ?_
  refine lv_aload_n hx hb dX3_roofTold_24 rfl (lv_at hl 0 rfl) ?_
  refine va_get (D := (dC, dI)) (ci := 3) (v := .ref sl) (C := RX3) (T := TX3) (N := 10) hx hb hts (by decide +kernel) hown hK hP 0 rfl rfl 4 (by decide) (hts (.fieldLink RX3 16 "ThatchRoofModel" "slope" "[I") (by decide +kernel)) (fun _ h9 => h9) rfl dX3_roofTold_25 ?_
  refine lv_iload_n hx hb dX3_roofTold_28 rfl (lv_at hl 1 rfl) ?_
  refine va_iald hx hb hK hP 4 2 rfl rfl (vp_in_nI (by omega) (by omega)) dX3_roofTold_29 ?_
  refine lv_topi (fun x5 ex5 => ?_)
  rw [nI_clamp (show ru < 2 ^ 31 by omega)] at ex5
  obtain rfl : x5 = 30 := ex5.trans (hs _ (by omega))
  refine va_iast hx hb hK hP hD hS 10 8 rfl rfl (vp_in_nI (n := 2) (by decide) (by decide)) dX3_roofTold_30 (fun H locs hP hD hS => ?_)
  have hP : va_P (dC, dI) vwCl [(hm, .inr (3, [.int th, .int 6, .ref wi, .ref co, .ref sl, .ref rn, .ref so, .ref bn, .ref sm, .ref ah])), (sm, .inr (2, [.int 0, .ref gr, .ref gt, .ref gw, .ref gk, .ref gi, .ref gp, .ref go, .ref gg, .ref hm])), (wi, .inl (d1, 6, .inl fw)), (co, .inl (d2, 6, .inl fc)), (sl, .inl (d3, 6, .inl fs)), (gr, .inl (d4, 6, .inl fg)), (gt, .inl (d8, 6, .inl (fun _ => 0))), (gw, .inl (d9, 6, .inl (fun _ => 0))), (gk, .inl (d10, 360, .inl fk)), (gi, .inl (d11, 360, .inl (fun _ => 0))), (q1, .inl (cA2, 9, .inl (upd (upd (upd (fun _ => 0) 0 10) 1 6) 2 30)))] H := hP
  have hD : va_D A [(hm, .inr (3, [.int th, .int 6, .ref wi, .ref co, .ref sl, .ref rn, .ref so, .ref bn, .ref sm, .ref ah])), (sm, .inr (2, [.int 0, .ref gr, .ref gt, .ref gw, .ref gk, .ref gi, .ref gp, .ref go, .ref gg, .ref hm])), (wi, .inl (d1, 6, .inl fw)), (co, .inl (d2, 6, .inl fc)), (sl, .inl (d3, 6, .inl fs)), (gr, .inl (d4, 6, .inl fg)), (gt, .inl (d8, 6, .inl (fun _ => 0))), (gw, .inl (d9, 6, .inl (fun _ => 0))), (gk, .inl (d10, 360, .inl fk)), (gi, .inl (d11, 360, .inl (fun _ => 0))), (q1, .inl (cA2, 9, .inl (upd (upd (upd (fun _ => 0) 0 10) 1 6) 2 30)))] := hD
  refine lv_dup hx hb dX3_roofTold_31 rfl ?_
  refine lv_iconst (v := 3) hx hb dX3_roofTold_32 (by decide) ?_
  refine lv_aload_n hx hb dX3_roofTold_33 rfl (lv_at hl 0 rfl) ?_
  refine va_get (D := (dC, dI)) (ci := 3) (v := .ref sm) (C := RX3) (T := TX3) (N := 10) hx hb hts (by decide +kernel) hown hK hP 0 rfl rfl 8 (by decide) (hts (.fieldLink RX3 33 "ThatchRoofModel" "s" "LThatchRoofModel$State;") (by decide +kernel)) (fun _ h9 => h9) rfl dX3_roofTold_34 ?_
  refine va_getN (D := (dC, dI)) (ci := 2) (v := .ref gr) (C := RX2) (T := TX2) (N := 10) hx hb hts (by decide +kernel) hown hK hP 1 rfl rfl 1 (by decide) (va_Nw.use rfl (zN_RX3_63 hZN)) (fun _ h9 => h9) rfl dX3_roofTold_37 ?_
  refine lv_iload_n hx hb dX3_roofTold_40 rfl (lv_at hl 1 rfl) ?_
  refine va_iald hx hb hK hP 5 3 rfl rfl (vp_in_nI (by omega) (by omega)) dX3_roofTold_41 ?_
  refine lv_topi (fun x6 ex6 => ?_)
  rw [nI_clamp (show ru < 2 ^ 31 by omega)] at ex6
  obtain rfl : x6 = 100 := ex6.trans (hg _ (by omega))
  refine va_iast hx hb hK hP hD hS 10 8 rfl rfl (vp_in_nI (n := 3) (by decide) (by decide)) dX3_roofTold_42 (fun H locs hP hD hS => ?_)
  have hP : va_P (dC, dI) vwCl [(hm, .inr (3, [.int th, .int 6, .ref wi, .ref co, .ref sl, .ref rn, .ref so, .ref bn, .ref sm, .ref ah])), (sm, .inr (2, [.int 0, .ref gr, .ref gt, .ref gw, .ref gk, .ref gi, .ref gp, .ref go, .ref gg, .ref hm])), (wi, .inl (d1, 6, .inl fw)), (co, .inl (d2, 6, .inl fc)), (sl, .inl (d3, 6, .inl fs)), (gr, .inl (d4, 6, .inl fg)), (gt, .inl (d8, 6, .inl (fun _ => 0))), (gw, .inl (d9, 6, .inl (fun _ => 0))), (gk, .inl (d10, 360, .inl fk)), (gi, .inl (d11, 360, .inl (fun _ => 0))), (q1, .inl (cA2, 9, .inl (upd (upd (upd (upd (fun _ => 0) 0 10) 1 6) 2 30) 3 100)))] H := hP
  have hD : va_D A [(hm, .inr (3, [.int th, .int 6, .ref wi, .ref co, .ref sl, .ref rn, .ref so, .ref bn, .ref sm, .ref ah])), (sm, .inr (2, [.int 0, .ref gr, .ref gt, .ref gw, .ref gk, .ref gi, .ref gp, .ref go, .ref gg, .ref hm])), (wi, .inl (d1, 6, .inl fw)), (co, .inl (d2, 6, .inl fc)), (sl, .inl (d3, 6, .inl fs)), (gr, .inl (d4, 6, .inl fg)), (gt, .inl (d8, 6, .inl (fun _ => 0))), (gw, .inl (d9, 6, .inl (fun _ => 0))), (gk, .inl (d10, 360, .inl fk)), (gi, .inl (d11, 360, .inl (fun _ => 0))), (q1, .inl (cA2, 9, .inl (upd (upd (upd (upd (fun _ => 0) 0 10) 1 6) 2 30) 3 100)))] := hD
  refine lv_dup hx hb dX3_roofTold_43 rfl ?_
  refine lv_iconst (v := 4) hx hb dX3_roofTold_44 (by decide) ?_
  refine lv_aload_n hx hb dX3_roofTold_45 rfl (lv_at hl 0 rfl) ?_
  refine va_get (D := (dC, dI)) (ci := 3) (v := .ref sm) (C := RX3) (T := TX3) (N := 10) hx hb hts (by decide +kernel) hown hK hP 0 rfl rfl 8 (by decide) (hts (.fieldLink RX3 33 "ThatchRoofModel" "s" "LThatchRoofModel$State;") (by decide +kernel)) (fun _ h9 => h9) rfl dX3_roofTold_46 ?_
  refine lv_iload_n hx hb dX3_roofTold_49 rfl (lv_at hl 1 rfl) ?_
  have hPc := hP.sub (ws' := [(sm, .inr (2, [.int 0, .ref gr, .ref gt, .ref gw, .ref gk, .ref gi, .ref gp, .ref go, .ref gg, .ref hm])), (gk, .inl (d10, 360, .inl fk))]) [1, 8] rfl
  have hKc := hK.sub (tys' := [(d10, .int)]) [6] rfl
  refine vp_callSi (va_runV (As := [.int (nI ru)]) (rest := [.int 4, .ref q1, .ref q1]) ⟨hx, hb, hml, hown, hts⟩ (r2_yealms l dC dI sm hm gr gt gw gk gi gp go gg d10 fk ru (by first | assumption | decide | omega) (by first | assumption | decide | omega)) (cwV 1 hts gX3_roofTold_X2_yealms rfl rfl rfl (by decide +kernel) ⟨Nat.le_of_ble_eq_true rfl, Nat.le_of_ble_eq_true rfl⟩) ⟨fun a U g mk q => by obtain ⟨q0, qP, qK⟩ := q; exact ⟨q0, qP, va_K.moved (u := U) (U := U.calling g mk a) (Vm.Alike.refl U.vm) qK⟩, va_recv hKc hPc (ci := 2) (q0 := 0) rfl rfl, fun U hU hW => ⟨rfl, by rw [hU]; exact hPc, va_K.moved hW.alike hKc⟩⟩ rfl rfl hl.1 rfl (lv_room (Nat.le_of_ble_eq_true rfl)) dX3_roofTold_50 ⟨Nat.le_of_ble_eq_true rfl, Nat.le_of_ble_eq_true rfl⟩).run (fun r7 hr7 => ?_)
  obtain rfl := hr7
  refine va_iast hx hb hK hP hD hS 10 8 rfl rfl (vp_in_nI (n := 4) (by decide) (by decide)) dX3_roofTold_53 (fun H locs hP hD hS => ?_)
  have hP : va_P (dC, dI) vwCl [(hm, .inr (3, [.int th, .int 6, .ref wi, .ref co, .ref sl, .ref rn, .ref so, .ref bn, .ref sm, .ref ah])), (sm, .inr (2, [.int 0, .ref gr, .ref gt, .ref gw, .ref gk, .ref gi, .ref gp, .ref go, .ref gg, .ref hm])), (wi, .inl (d1, 6, .inl fw)), (co, .inl (d2, 6, .inl fc)), (sl, .inl (d3, 6, .inl fs)), (gr, .inl (d4, 6, .inl fg)), (gt, .inl (d8, 6, .inl (fun _ => 0))), (gw, .inl (d9, 6, .inl (fun _ => 0))), (gk, .inl (d10, 360, .inl fk)), (gi, .inl (d11, 360, .inl (fun _ => 0))), (q1, .inl (cA2, 9, .inl (upd (upd (upd (upd (upd (fun _ => 0) 0 10) 1 6) 2 30) 3 100) 4 0)))] H := hP
  have hD : va_D A [(hm, .inr (3, [.int th, .int 6, .ref wi, .ref co, .ref sl, .ref rn, .ref so, .ref bn, .ref sm, .ref ah])), (sm, .inr (2, [.int 0, .ref gr, .ref gt, .ref gw, .ref gk, .ref gi, .ref gp, .ref go, .ref gg, .ref hm])), (wi, .inl (d1, 6, .inl fw)), (co, .inl (d2, 6, .inl fc)), (sl, .inl (d3, 6, .inl fs)), (gr, .inl (d4, 6, .inl fg)), (gt, .inl (d8, 6, .inl (fun _ => 0))), (gw, .inl (d9, 6, .inl (fun _ => 0))), (gk, .inl (d10, 360, .inl fk)), (gi, .inl (d11, 360, .inl (fun _ => 0))), (q1, .inl (cA2, 9, .inl (upd (upd (upd (upd (upd (fun _ => 0) 0 10) 1 6) 2 30) 3 100) 4 0)))] := hD
  refine lv_dup hx hb dX3_roofTold_54 rfl ?_
  refine lv_iconst (v := 5) hx hb dX3_roofTold_55 (by decide) ?_
  refine lv_aload_n hx hb dX3_roofTold_56 rfl (lv_at hl 0 rfl) ?_
  refine va_get (D := (dC, dI)) (ci := 3) (v := .ref sm) (C := RX3) (T := TX3) (N := 10) hx hb hts (by decide +kernel) hown hK hP 0 rfl rfl 8 (by decide) (hts (.fieldLink RX3 33 "ThatchRoofModel" "s" "LThatchRoofModel$State;") (by decide +kernel)) (fun _ h9 => h9) rfl dX3_roofTold_57 ?_
  refine lv_iload_n hx hb dX3_roofTold_60 rfl (lv_at hl 1 rfl) ?_
  have hPc := hP.sub (ws' := [(sm, .inr (2, [.int 0, .ref gr, .ref gt, .ref gw, .ref gk, .ref gi, .ref gp, .ref go, .ref gg, .ref hm])), (gi, .inl (d11, 360, .inl (fun _ => 0)))]) [1, 9] rfl
  have hKc := hK.sub (tys' := [(d11, .int)]) [7] rfl
  refine vp_callSi (va_runV (As := [.int (nI ru)]) (rest := [.int 5, .ref q1, .ref q1]) ⟨hx, hb, hml, hown, hts⟩ (r2_thickness l dC dI sm hm gr gt gw gk gi gp go gg d11 ru (by first | assumption | decide | omega)) (cwV 1 hts gX3_roofTold_X2_thickness rfl rfl rfl (by decide +kernel) ⟨Nat.le_of_ble_eq_true rfl, Nat.le_of_ble_eq_true rfl⟩) ⟨fun a U g mk q => by obtain ⟨q0, qP, qK⟩ := q; exact ⟨q0, qP, va_K.moved (u := U) (U := U.calling g mk a) (Vm.Alike.refl U.vm) qK⟩, va_recv hKc hPc (ci := 2) (q0 := 0) rfl rfl, fun U hU hW => ⟨rfl, by rw [hU]; exact hPc, va_K.moved hW.alike hKc⟩⟩ rfl rfl hl.1 rfl (lv_room (Nat.le_of_ble_eq_true rfl)) dX3_roofTold_61 ⟨Nat.le_of_ble_eq_true rfl, Nat.le_of_ble_eq_true rfl⟩).run (fun r8 hr8 => ?_)
  obtain rfl := hr8
  refine va_iast hx hb hK hP hD hS 10 8 rfl rfl (vp_in_nI (n := 5) (by decide) (by decide)) dX3_roofTold_64 (fun H locs hP hD hS => ?_)
  have hP : va_P (dC, dI) vwCl [(hm, .inr (3, [.int th, .int 6, .ref wi, .ref co, .ref sl, .ref rn, .ref so, .ref bn, .ref sm, .ref ah])), (sm, .inr (2, [.int 0, .ref gr, .ref gt, .ref gw, .ref gk, .ref gi, .ref gp, .ref go, .ref gg, .ref hm])), (wi, .inl (d1, 6, .inl fw)), (co, .inl (d2, 6, .inl fc)), (sl, .inl (d3, 6, .inl fs)), (gr, .inl (d4, 6, .inl fg)), (gt, .inl (d8, 6, .inl (fun _ => 0))), (gw, .inl (d9, 6, .inl (fun _ => 0))), (gk, .inl (d10, 360, .inl fk)), (gi, .inl (d11, 360, .inl (fun _ => 0))), (q1, .inl (cA2, 9, .inl (upd (upd (upd (upd (upd (upd (fun _ => 0) 0 10) 1 6) 2 30) 3 100) 4 0) 5 0)))] H := hP
  have hD : va_D A [(hm, .inr (3, [.int th, .int 6, .ref wi, .ref co, .ref sl, .ref rn, .ref so, .ref bn, .ref sm, .ref ah])), (sm, .inr (2, [.int 0, .ref gr, .ref gt, .ref gw, .ref gk, .ref gi, .ref gp, .ref go, .ref gg, .ref hm])), (wi, .inl (d1, 6, .inl fw)), (co, .inl (d2, 6, .inl fc)), (sl, .inl (d3, 6, .inl fs)), (gr, .inl (d4, 6, .inl fg)), (gt, .inl (d8, 6, .inl (fun _ => 0))), (gw, .inl (d9, 6, .inl (fun _ => 0))), (gk, .inl (d10, 360, .inl fk)), (gi, .inl (d11, 360, .inl (fun _ => 0))), (q1, .inl (cA2, 9, .inl (upd (upd (upd (upd (upd (upd (fun _ => 0) 0 10) 1 6) 2 30) 3 100) 4 0) 5 0)))] := hD
  refine lv_dup hx hb dX3_roofTold_65 rfl ?_
  refine lv_bipush (v := 6) hx hb dX3_roofTold_66 (by decide) ?_
  refine lv_aload_n hx hb dX3_roofTold_68 rfl (lv_at hl 0 rfl) ?_
  refine va_get (D := (dC, dI)) (ci := 3) (v := .ref sm) (C := RX3) (T := TX3) (N := 10) hx hb hts (by decide +kernel) hown hK hP 0 rfl rfl 8 (by decide) (hts (.fieldLink RX3 33 "ThatchRoofModel" "s" "LThatchRoofModel$State;") (by decide +kernel)) (fun _ h9 => h9) rfl dX3_roofTold_69 ?_
  refine lv_iload_n hx hb dX3_roofTold_72 rfl (lv_at hl 1 rfl) ?_
  have hPc := hP.sub (ws' := [(sm, .inr (2, [.int 0, .ref gr, .ref gt, .ref gw, .ref gk, .ref gi, .ref gp, .ref go, .ref gg, .ref hm])), (hm, .inr (3, [.int th, .int 6, .ref wi, .ref co, .ref sl, .ref rn, .ref so, .ref bn, .ref sm, .ref ah])), (wi, .inl (d1, 6, .inl fw)), (co, .inl (d2, 6, .inl fc)), (gk, .inl (d10, 360, .inl fk)), (gi, .inl (d11, 360, .inl (fun _ => 0)))]) [1, 0, 2, 3, 8, 9] rfl
  have hKc := hK.sub (tys' := [(d1, .int), (d2, .int), (d10, .int), (d11, .int)]) [0, 1, 6, 7] rfl
  refine vp_callSi (va_runV (As := [.int (nI ru)]) (rest := [.int 6, .ref q1, .ref q1]) ⟨hx, hb, hml, hown, hts⟩ (r2_leaks l dC dI hm wi co sl rn so bn sm ah th gr gt gw gk gi gp go gg d1 d2 d10 d11 fw fc fk ru (by first | assumption | decide | omega) (by first | assumption | decide | omega) (by first | assumption | decide | omega) (by first | assumption | decide | omega)) (cwV 1 hts gX3_roofTold_X2_leaks rfl rfl rfl (by decide +kernel) ⟨Nat.le_of_ble_eq_true rfl, Nat.le_of_ble_eq_true rfl⟩) ⟨fun a U g mk q => by obtain ⟨q0, qP, qK, qN⟩ := q; exact ⟨q0, qP, va_K.moved (u := U) (U := U.calling g mk a) (Vm.Alike.refl U.vm) qK, zNs.calling qN⟩, va_recv hKc hPc (ci := 2) (q0 := 0) rfl rfl, fun U hU hW => ⟨rfl, by rw [hU]; exact hPc, va_K.moved hW.alike hKc, zNs.warm hW hZN⟩⟩ rfl rfl hl.1 rfl (lv_room (Nat.le_of_ble_eq_true rfl)) dX3_roofTold_73 ⟨Nat.le_of_ble_eq_true rfl, Nat.le_of_ble_eq_true rfl⟩).run (fun r9 hr9 => ?_)
  obtain rfl := hr9
  refine va_iast hx hb hK hP hD hS 10 8 rfl rfl (vp_in_nI (n := 6) (by decide) (by decide)) dX3_roofTold_76 (fun H locs hP hD hS => ?_)
  have hP : va_P (dC, dI) vwCl [(hm, .inr (3, [.int th, .int 6, .ref wi, .ref co, .ref sl, .ref rn, .ref so, .ref bn, .ref sm, .ref ah])), (sm, .inr (2, [.int 0, .ref gr, .ref gt, .ref gw, .ref gk, .ref gi, .ref gp, .ref go, .ref gg, .ref hm])), (wi, .inl (d1, 6, .inl fw)), (co, .inl (d2, 6, .inl fc)), (sl, .inl (d3, 6, .inl fs)), (gr, .inl (d4, 6, .inl fg)), (gt, .inl (d8, 6, .inl (fun _ => 0))), (gw, .inl (d9, 6, .inl (fun _ => 0))), (gk, .inl (d10, 360, .inl fk)), (gi, .inl (d11, 360, .inl (fun _ => 0))), (q1, .inl (cA2, 9, .inl (upd (upd (upd (upd (upd (upd (upd (fun _ => 0) 0 10) 1 6) 2 30) 3 100) 4 0) 5 0) 6 10)))] H := hP
  have hD : va_D A [(hm, .inr (3, [.int th, .int 6, .ref wi, .ref co, .ref sl, .ref rn, .ref so, .ref bn, .ref sm, .ref ah])), (sm, .inr (2, [.int 0, .ref gr, .ref gt, .ref gw, .ref gk, .ref gi, .ref gp, .ref go, .ref gg, .ref hm])), (wi, .inl (d1, 6, .inl fw)), (co, .inl (d2, 6, .inl fc)), (sl, .inl (d3, 6, .inl fs)), (gr, .inl (d4, 6, .inl fg)), (gt, .inl (d8, 6, .inl (fun _ => 0))), (gw, .inl (d9, 6, .inl (fun _ => 0))), (gk, .inl (d10, 360, .inl fk)), (gi, .inl (d11, 360, .inl (fun _ => 0))), (q1, .inl (cA2, 9, .inl (upd (upd (upd (upd (upd (upd (upd (fun _ => 0) 0 10) 1 6) 2 30) 3 100) 4 0) 5 0) 6 10)))] := hD
  refine lv_dup hx hb dX3_roofTold_77 rfl ?_
  refine lv_bipush (v := 7) hx hb dX3_roofTold_78 (by decide) ?_
  refine lv_aload_n hx hb dX3_roofTold_80 rfl (lv_at hl 0 rfl) ?_
  refine va_get (D := (dC, dI)) (ci := 3) (v := .ref sm) (C := RX3) (T := TX3) (N := 10) hx hb hts (by decide +kernel) hown hK hP 0 rfl rfl 8 (by decide) (hts (.fieldLink RX3 33 "ThatchRoofModel" "s" "LThatchRoofModel$State;") (by decide +kernel)) (fun _ h9 => h9) rfl dX3_roofTold_81 ?_
  refine va_getN (D := (dC, dI)) (ci := 2) (v := .ref gt) (C := RX2) (T := TX2) (N := 10) hx hb hts (by decide +kernel) hown hK hP 1 rfl rfl 2 (by decide) (va_Nw.use rfl (zN_RX3_118 hZN)) (fun _ h9 => h9) rfl dX3_roofTold_84 ?_
  refine lv_iload_n hx hb dX3_roofTold_87 rfl (lv_at hl 1 rfl) ?_
  refine va_iald hx hb hK hP 6 4 rfl rfl (vp_in_nI (by omega) (by omega)) dX3_roofTold_88 ?_
  refine lv_topi (fun x10 ex10 => ?_)
  obtain rfl : x10 = 0 := ex10
  refine va_iast hx hb hK hP hD hS 10 8 rfl rfl (vp_in_nI (n := 7) (by decide) (by decide)) dX3_roofTold_89 (fun H locs hP hD hS => ?_)
  have hP : va_P (dC, dI) vwCl [(hm, .inr (3, [.int th, .int 6, .ref wi, .ref co, .ref sl, .ref rn, .ref so, .ref bn, .ref sm, .ref ah])), (sm, .inr (2, [.int 0, .ref gr, .ref gt, .ref gw, .ref gk, .ref gi, .ref gp, .ref go, .ref gg, .ref hm])), (wi, .inl (d1, 6, .inl fw)), (co, .inl (d2, 6, .inl fc)), (sl, .inl (d3, 6, .inl fs)), (gr, .inl (d4, 6, .inl fg)), (gt, .inl (d8, 6, .inl (fun _ => 0))), (gw, .inl (d9, 6, .inl (fun _ => 0))), (gk, .inl (d10, 360, .inl fk)), (gi, .inl (d11, 360, .inl (fun _ => 0))), (q1, .inl (cA2, 9, .inl (upd (upd (upd (upd (upd (upd (upd (upd (fun _ => 0) 0 10) 1 6) 2 30) 3 100) 4 0) 5 0) 6 10) 7 0)))] H := hP
  have hD : va_D A [(hm, .inr (3, [.int th, .int 6, .ref wi, .ref co, .ref sl, .ref rn, .ref so, .ref bn, .ref sm, .ref ah])), (sm, .inr (2, [.int 0, .ref gr, .ref gt, .ref gw, .ref gk, .ref gi, .ref gp, .ref go, .ref gg, .ref hm])), (wi, .inl (d1, 6, .inl fw)), (co, .inl (d2, 6, .inl fc)), (sl, .inl (d3, 6, .inl fs)), (gr, .inl (d4, 6, .inl fg)), (gt, .inl (d8, 6, .inl (fun _ => 0))), (gw, .inl (d9, 6, .inl (fun _ => 0))), (gk, .inl (d10, 360, .inl fk)), (gi, .inl (d11, 360, .inl (fun _ => 0))), (q1, .inl (cA2, 9, .inl (upd (upd (upd (upd (upd (upd (upd (upd (fun _ => 0) 0 10) 1 6) 2 30) 3 100) 4 0) 5 0) 6 10) 7 0)))] := hD
  refine lv_dup hx hb dX3_roofTold_90 rfl ?_
  refine lv_bipush (v := 8) hx hb dX3_roofTold_91 (by decide) ?_
  refine lv_aload_n hx hb dX3_roofTold_93 rfl (lv_at hl 0 rfl) ?_
  refine va_get (D := (dC, dI)) (ci := 3) (v := .ref sm) (C := RX3) (T := TX3) (N := 10) hx hb hts (by decide +kernel) hown hK hP 0 rfl rfl 8 (by decide) (hts (.fieldLink RX3 33 "ThatchRoofModel" "s" "LThatchRoofModel$State;") (by decide +kernel)) (fun _ h9 => h9) rfl dX3_roofTold_94 ?_
  refine va_getN (D := (dC, dI)) (ci := 2) (v := .ref gw) (C := RX2) (T := TX2) (N := 10) hx hb hts (by decide +kernel) hown hK hP 1 rfl rfl 3 (by decide) (va_Nw.use rfl (zN_RX3_121 hZN)) (fun _ h9 => h9) rfl dX3_roofTold_97 ?_
  refine lv_iload_n hx hb dX3_roofTold_100 rfl (lv_at hl 1 rfl) ?_
  refine va_iald hx hb hK hP 7 5 rfl rfl (vp_in_nI (by omega) (by omega)) dX3_roofTold_101 ?_
  refine lv_topi (fun x11 ex11 => ?_)
  obtain rfl : x11 = 0 := ex11
  refine va_iast hx hb hK hP hD hS 10 8 rfl rfl (vp_in_nI (n := 8) (by decide) (by decide)) dX3_roofTold_102 (fun H locs hP hD hS => ?_)
  have hP : va_P (dC, dI) vwCl [(hm, .inr (3, [.int th, .int 6, .ref wi, .ref co, .ref sl, .ref rn, .ref so, .ref bn, .ref sm, .ref ah])), (sm, .inr (2, [.int 0, .ref gr, .ref gt, .ref gw, .ref gk, .ref gi, .ref gp, .ref go, .ref gg, .ref hm])), (wi, .inl (d1, 6, .inl fw)), (co, .inl (d2, 6, .inl fc)), (sl, .inl (d3, 6, .inl fs)), (gr, .inl (d4, 6, .inl fg)), (gt, .inl (d8, 6, .inl (fun _ => 0))), (gw, .inl (d9, 6, .inl (fun _ => 0))), (gk, .inl (d10, 360, .inl fk)), (gi, .inl (d11, 360, .inl (fun _ => 0))), (q1, .inl (cA2, 9, .inl (upd (upd (upd (upd (upd (upd (upd (upd (upd (fun _ => 0) 0 10) 1 6) 2 30) 3 100) 4 0) 5 0) 6 10) 7 0) 8 0)))] H := hP
  have hD : va_D A [(hm, .inr (3, [.int th, .int 6, .ref wi, .ref co, .ref sl, .ref rn, .ref so, .ref bn, .ref sm, .ref ah])), (sm, .inr (2, [.int 0, .ref gr, .ref gt, .ref gw, .ref gk, .ref gi, .ref gp, .ref go, .ref gg, .ref hm])), (wi, .inl (d1, 6, .inl fw)), (co, .inl (d2, 6, .inl fc)), (sl, .inl (d3, 6, .inl fs)), (gr, .inl (d4, 6, .inl fg)), (gt, .inl (d8, 6, .inl (fun _ => 0))), (gw, .inl (d9, 6, .inl (fun _ => 0))), (gk, .inl (d10, 360, .inl fk)), (gi, .inl (d11, 360, .inl (fun _ => 0))), (q1, .inl (cA2, 9, .inl (upd (upd (upd (upd (upd (upd (upd (upd (upd (fun _ => 0) 0 10) 1 6) 2 30) 3 100) 4 0) 5 0) 6 10) 7 0) 8 0)))] := hD
  refine lv_astore_n (lv' := [(3, .ref q1), (0, .ref hm), (1, .int (nI ru)), (2, .int 7)]) hx hb dX3_roofTold_103 rfl hl (by decide) rfl (fun ls hl => ?_)
  refine lv_aload_n hx hb dX3_roofTold_104 rfl (lv_at hl 0 rfl) ?_
  refine lv_iload_n hx hb dX3_roofTold_105 rfl (lv_at hl 3 rfl) ?_
  refine va_iald hx hb hK hP 10 8 rfl rfl (vp_in_nI (n := 7) (by decide) (by decide)) dX3_roofTold_106 ?_
  refine lv_topi (fun x12 ex12 => ?_)
  obtain rfl : x12 = 0 := ex12
  have hP9 := hP.sub (ws' := [(hm, .inr (3, [.int th, .int 6, .ref wi, .ref co, .ref sl, .ref rn, .ref so, .ref bn, .ref sm, .ref ah])), (sm, .inr (2, [.int 0, .ref gr, .ref gt, .ref gw, .ref gk, .ref gi, .ref gp, .ref go, .ref gg, .ref hm])), (wi, .inl (d1, 6, .inl fw)), (co, .inl (d2, 6, .inl fc)), (sl, .inl (d3, 6, .inl fs)), (gr, .inl (d4, 6, .inl fg)), (gt, .inl (d8, 6, .inl (fun _ => 0))), (gw, .inl (d9, 6, .inl (fun _ => 0))), (gk, .inl (d10, 360, .inl fk)), (gi, .inl (d11, 360, .inl (fun _ => 0)))]) [0, 1, 2, 3, 4, 5, 6, 7, 8, 9] rfl
  have hD9 := hD.sub (ws' := [(hm, .inr (3, [.int th, .int 6, .ref wi, .ref co, .ref sl, .ref rn, .ref so, .ref bn, .ref sm, .ref ah])), (sm, .inr (2, [.int 0, .ref gr, .ref gt, .ref gw, .ref gk, .ref gi, .ref gp, .ref go, .ref gg, .ref hm])), (wi, .inl (d1, 6, .inl fw)), (co, .inl (d2, 6, .inl fc)), (sl, .inl (d3, 6, .inl fs)), (gr, .inl (d4, 6, .inl fg)), (gt, .inl (d8, 6, .inl (fun _ => 0))), (gw, .inl (d9, 6, .inl (fun _ => 0))), (gk, .inl (d10, 360, .inl fk)), (gi, .inl (d11, 360, .inl (fun _ => 0)))]) [0, 1, 2, 3, 4, 5, 6, 7, 8, 9] (by decide) rfl
  have hK9 := hK.sub (tys' := []) [] rfl
  refine W.widen (k := 1) (n := 9) (Nat.le_of_ble_eq_true rfl) (Nat.le_of_ble_eq_true rfl) ?_
  have hZ := zz_one hAe hD hP 10 [0, 1, 2, 3, 4, 5, 6, 7, 8, 9] rfl rfl (by decide)
  exact W.iret (v := 0) hx hb hr (fun t ht hW => ⟨⟨0, (), rfl, by (first | rfl | assumption | decide | (simp_all; done) | grind), ⟨by rw [ht]; exact hP9, va_K.moved hW.alike hK9, hD9, by rw [ht]; omega⟩⟩, hS.F ht⟩) hS.2.2 dX3_roofTold_107

set_option maxHeartbeats 4000000 in
set_option maxRecDepth 100000 in
theorem r3_roofTold8 (l : Launch) (dC : Nat → ClassId) (dI : Nat → Nat → Nat) (sz : Nat) (hm : Nat) (wi : Nat) (co : Nat) (sl : Nat) (rn : Nat) (so : Nat) (bn : Nat) (sm : Nat) (ah : Nat) (th : Int32) (gr : Nat) (gt : Nat) (gw : Nat) (gk : Nat) (gi : Nat) (gp : Nat) (go : Nat) (gg : Nat) (d1 : ClassId) (d2 : ClassId) (d3 : ClassId) (d4 : ClassId) (d8 : ClassId) (d9 : ClassId) (d10 : ClassId) (d11 : ClassId) (fw : Nat → Int32) (fc : Nat → Int32) (fs : Nat → Int32) (fg : Nat → Int32) (fk : Nat → Int32) (ru : Nat) (hk : ∀ j : Nat, j < 360 → fk j = -1) (hw : ∀ j : Nat, j < 6 → fw j = 10) (hc : ∀ j : Nat, j < 6 → fc j = 6) (hs : ∀ j : Nat, j < 6 → fs j = 30) (hg : ∀ j : Nat, j < 6 → fg j = 100) (hru : ru < 6) : Met l yX3_roofTold wsX3_roofTold ({ frames := 2, cells := 1, slots := 9, locals := 47 }) (va_Pc [.ref hm, .int (nI ru), .int 8] (fun U => U.heap.size = sz ∧ va_P (dC, dI) vwCl [(hm, .inr (3, [.int th, .int 6, .ref wi, .ref co, .ref sl, .ref rn, .ref so, .ref bn, .ref sm, .ref ah])), (sm, .inr (2, [.int 0, .ref gr, .ref gt, .ref gw, .ref gk, .ref gi, .ref gp, .ref go, .ref gg, .ref hm])), (wi, .inl (d1, 6, .inl fw)), (co, .inl (d2, 6, .inl fc)), (sl, .inl (d3, 6, .inl fs)), (gr, .inl (d4, 6, .inl fg)), (gt, .inl (d8, 6, .inl (fun _ => 0))), (gw, .inl (d9, 6, .inl (fun _ => 0))), (gk, .inl (d10, 360, .inl fk)), (gi, .inl (d11, 360, .inl (fun _ => 0)))] U.heap ∧ va_K (dC, dI) vwCl [(d1, .int), (d2, .int), (d3, .int), (d4, .int), (d8, .int), (d9, .int), (d10, .int), (d11, .int)] U ∧ va_D (fun _ => True) [(hm, .inr (3, [.int th, .int 6, .ref wi, .ref co, .ref sl, .ref rn, .ref so, .ref bn, .ref sm, .ref ah])), (sm, .inr (2, [.int 0, .ref gr, .ref gt, .ref gw, .ref gk, .ref gi, .ref gp, .ref go, .ref gg, .ref hm])), (wi, .inl (d1, 6, .inl fw)), (co, .inl (d2, 6, .inl fc)), (sl, .inl (d3, 6, .inl fs)), (gr, .inl (d4, 6, .inl fg)), (gt, .inl (d8, 6, .inl (fun _ => 0))), (gw, .inl (d9, 6, .inl (fun _ => 0))), (gk, .inl (d10, 360, .inl fk)), (gi, .inl (d11, 360, .inl (fun _ => 0)))] ∧ zNs U)) (va_Qi (fun (r : Int32) (u : Unit) => r = 0) (fun (u : Unit) (t : State) => va_P (dC, dI) vwCl [(hm, .inr (3, [.int th, .int 6, .ref wi, .ref co, .ref sl, .ref rn, .ref so, .ref bn, .ref sm, .ref ah])), (sm, .inr (2, [.int 0, .ref gr, .ref gt, .ref gw, .ref gk, .ref gi, .ref gp, .ref go, .ref gg, .ref hm])), (wi, .inl (d1, 6, .inl fw)), (co, .inl (d2, 6, .inl fc)), (sl, .inl (d3, 6, .inl fs)), (gr, .inl (d4, 6, .inl fg)), (gt, .inl (d8, 6, .inl (fun _ => 0))), (gw, .inl (d9, 6, .inl (fun _ => 0))), (gk, .inl (d10, 360, .inl fk)), (gi, .inl (d11, 360, .inl (fun _ => 0)))] t.heap ∧ va_K (dC, dI) vwCl [] t ∧ va_D (va_A [(hm, .inr (3, [.int th, .int 6, .ref wi, .ref co, .ref sl, .ref rn, .ref so, .ref bn, .ref sm, .ref ah])), (sm, .inr (2, [.int 0, .ref gr, .ref gt, .ref gw, .ref gk, .ref gi, .ref gp, .ref go, .ref gg, .ref hm])), (wi, .inl (d1, 6, .inl fw)), (co, .inl (d2, 6, .inl fc)), (sl, .inl (d3, 6, .inl fs)), (gr, .inl (d4, 6, .inl fg)), (gt, .inl (d8, 6, .inl (fun _ => 0))), (gw, .inl (d9, 6, .inl (fun _ => 0))), (gk, .inl (d10, 360, .inl fk)), (gi, .inl (d11, 360, .inl (fun _ => 0)))] sz) [(hm, .inr (3, [.int th, .int 6, .ref wi, .ref co, .ref sl, .ref rn, .ref so, .ref bn, .ref sm, .ref ah])), (sm, .inr (2, [.int 0, .ref gr, .ref gt, .ref gw, .ref gk, .ref gi, .ref gp, .ref go, .ref gg, .ref hm])), (wi, .inl (d1, 6, .inl fw)), (co, .inl (d2, 6, .inl fc)), (sl, .inl (d3, 6, .inl fs)), (gr, .inl (d4, 6, .inl fg)), (gt, .inl (d8, 6, .inl (fun _ => 0))), (gw, .inl (d9, 6, .inl (fun _ => 0))), (gk, .inl (d10, 360, .inl fk)), (gi, .inl (d11, 360, .inl (fun _ => 0)))] ∧ sz + 1 ≤ t.heap.size) (va_A [(hm, .inr (3, [.int th, .int 6, .ref wi, .ref co, .ref sl, .ref rn, .ref so, .ref bn, .ref sm, .ref ah])), (sm, .inr (2, [.int 0, .ref gr, .ref gt, .ref gw, .ref gk, .ref gi, .ref gp, .ref go, .ref gg, .ref hm])), (wi, .inl (d1, 6, .inl fw)), (co, .inl (d2, 6, .inl fc)), (sl, .inl (d3, 6, .inl fs)), (gr, .inl (d4, 6, .inl fg)), (gt, .inl (d8, 6, .inl (fun _ => 0))), (gw, .inl (d9, 6, .inl (fun _ => 0))), (gk, .inl (d10, 360, .inl fk)), (gi, .inl (d11, 360, .inl (fun _ => 0)))] sz)) 1 9 (va_A [(hm, .inr (3, [.int th, .int 6, .ref wi, .ref co, .ref sl, .ref rn, .ref so, .ref bn, .ref sm, .ref ah])), (sm, .inr (2, [.int 0, .ref gr, .ref gt, .ref gw, .ref gk, .ref gi, .ref gp, .ref go, .ref gg, .ref hm])), (wi, .inl (d1, 6, .inl fw)), (co, .inl (d2, 6, .inl fc)), (sl, .inl (d3, 6, .inl fs)), (gr, .inl (d4, 6, .inl fg)), (gt, .inl (d8, 6, .inl (fun _ => 0))), (gw, .inl (d9, 6, .inl (fun _ => 0))), (gk, .inl (d10, 360, .inl fk)), (gi, .inl (d11, 360, .inl (fun _ => 0)))] sz) := by
  refine Met.ofW (cc := cX3_roofTold) (maxL := 4) (ret := (some .int)) (by decide) rfl ?_
  intro p e s m args below meth c s₁ B hml hv
  obtain ⟨rfl, hsz, hP, hK, hD0, hZN⟩ := hv
  have hx := B.exec
  have hb := B.bytes
  have hr := B.returns
  have hts := atoms_spec (ws := wsX3_roofTold) B.pre
  have hown : s.vm.findClass RX3 = some m.cls := findClass_of_methodNamed B.named
  have hlocks := B.notSynchronized
  subst hsz
  have hD := hD0.self (sz := s.heap.size)
  generalize hAe : va_A [(hm, .inr (3, [.int th, .int 6, .ref wi, .ref co, .ref sl, .ref rn, .ref so, .ref bn, .ref sm, .ref ah])), (sm, .inr (2, [.int 0, .ref gr, .ref gt, .ref gw, .ref gk, .ref gi, .ref gp, .ref go, .ref gg, .ref hm])), (wi, .inl (d1, 6, .inl fw)), (co, .inl (d2, 6, .inl fc)), (sl, .inl (d3, 6, .inl fs)), (gr, .inl (d4, 6, .inl fg)), (gt, .inl (d8, 6, .inl (fun _ => 0))), (gw, .inl (d9, 6, .inl (fun _ => 0))), (gk, .inl (d10, 360, .inl fk)), (gi, .inl (d11, 360, .inl (fun _ => 0)))] s.heap.size = A at hD ⊢
  have hA : ∀ q : Nat, s.heap.size ≤ q → A q := fun q h => by rw [← hAe]; exact Or.inr h
  have hS : va_S A s.heap s.heap [] := va_S.rf
  have hP : va_P (dC, dI) vwCl [(hm, .inr (3, [.int th, .int 6, .ref wi, .ref co, .ref sl, .ref rn, .ref so, .ref bn, .ref sm, .ref ah])), (sm, .inr (2, [.int 0, .ref gr, .ref gt, .ref gw, .ref gk, .ref gi, .ref gp, .ref go, .ref gg, .ref hm])), (wi, .inl (d1, 6, .inl fw)), (co, .inl (d2, 6, .inl fc)), (sl, .inl (d3, 6, .inl fs)), (gr, .inl (d4, 6, .inl fg)), (gt, .inl (d8, 6, .inl (fun _ => 0))), (gw, .inl (d9, 6, .inl (fun _ => 0))), (gk, .inl (d10, 360, .inl fk)), (gi, .inl (d11, 360, .inl (fun _ => 0)))] s.heap := hP
  have hl := lv_entry ([.ref hm, .int (nI ru), .int 8]) (n := 4) (Nat.le_of_ble_eq_true rfl)
  rw [lg_entry_eq]
  generalize (lg_sl ([.ref hm, .int (nI ru), .int 8]) ++ List.replicate (4 - (lg_sl ([.ref hm, .int (nI ru), .int 8])).length) Slot.unset).toArray = ls at hl ⊢
  have hl : lv_has ls 4 [(0, .ref hm), (1, .int (nI ru)), (2, .int 8)] := hl
  refine lv_bipush (v := 9) hx hb dX3_roofTold_0 (by decide) ?_
  refine va_newa (atype := .int) (ty := .int) (N' := 9) (a0 := (9, .inl (fun _ => 0))) hx hb (hts (.arrayClass .int) (by decide +kernel)) rfl hK hP hD hS hA (fun _ => rfl) (by decide) (by decide) (by decide) (Nat.le_of_ble_eq_true rfl) (Nat.le_of_ble_eq_true rfl) dX3_roofTold_2 (fun q1 cA2 H hK hP hD hS => ?_)
  refine W.widen (k := 1) (n := 9) (Nat.le_of_ble_eq_true rfl) (Nat.le_of_ble_eq_true rfl) ?_
  have hK : va_K (dC, dI) vwCl [(d1, .int), (d2, .int), (d3, .int), (d4, .int), (d8, .int), (d9, .int), (d10, .int), (d11, .int), (cA2, .int)] s := hK
  have hP : va_P (dC, dI) vwCl [(hm, .inr (3, [.int th, .int 6, .ref wi, .ref co, .ref sl, .ref rn, .ref so, .ref bn, .ref sm, .ref ah])), (sm, .inr (2, [.int 0, .ref gr, .ref gt, .ref gw, .ref gk, .ref gi, .ref gp, .ref go, .ref gg, .ref hm])), (wi, .inl (d1, 6, .inl fw)), (co, .inl (d2, 6, .inl fc)), (sl, .inl (d3, 6, .inl fs)), (gr, .inl (d4, 6, .inl fg)), (gt, .inl (d8, 6, .inl (fun _ => 0))), (gw, .inl (d9, 6, .inl (fun _ => 0))), (gk, .inl (d10, 360, .inl fk)), (gi, .inl (d11, 360, .inl (fun _ => 0))), (q1, .inl (cA2, 9, .inl (fun _ => 0)))] H := hP
  have hD : va_D A [(hm, .inr (3, [.int th, .int 6, .ref wi, .ref co, .ref sl, .ref rn, .ref so, .ref bn, .ref sm, .ref ah])), (sm, .inr (2, [.int 0, .ref gr, .ref gt, .ref gw, .ref gk, .ref gi, .ref gp, .ref go, .ref gg, .ref hm])), (wi, .inl (d1, 6, .inl fw)), (co, .inl (d2, 6, .inl fc)), (sl, .inl (d3, 6, .inl fs)), (gr, .inl (d4, 6, .inl fg)), (gt, .inl (d8, 6, .inl (fun _ => 0))), (gw, .inl (d9, 6, .inl (fun _ => 0))), (gk, .inl (d10, 360, .inl fk)), (gi, .inl (d11, 360, .inl (fun _ => 0))), (q1, .inl (cA2, 9, .inl (fun _ => 0)))] := hD
  refine lv_dup hx hb dX3_roofTold_4 rfl ?_
  refine lv_iconst (v := 0) hx hb dX3_roofTold_5 (by decide) ?_
  refine lv_aload_n hx hb dX3_roofTold_6 rfl (lv_at hl 0 rfl) ?_
  refine va_get (D := (dC, dI)) (ci := 3) (v := .ref wi) (C := RX3) (T := TX3) (N := 10) hx hb hts (by decide +kernel) hown hK hP 0 rfl rfl 2 (by decide) (hts (.fieldLink RX3 9 "ThatchRoofModel" "width" "[I") (by decide +kernel)) (fun _ h9 => h9) rfl dX3_roofTold_7 ?_
  refine lv_iload_n hx hb dX3_roofTold_10 rfl (lv_at hl 1 rfl) ?_
  refine va_iald hx hb hK hP 2 0 rfl rfl (vp_in_nI (by omega) (by omega)) dX3_roofTold_11 ?_
  refine lv_topi (fun x3 ex3 => ?_)
  rw [nI_clamp (show ru < 2 ^ 31 by omega)] at ex3
  obtain rfl : x3 = 10 := ex3.trans (hw _ (by omega))
  refine va_iast hx hb hK hP hD hS 10 8 rfl rfl (vp_in_nI (n := 0) (by decide) (by decide)) dX3_roofTold_12 (fun H locs hP hD hS => ?_)
  have hP : va_P (dC, dI) vwCl [(hm, .inr (3, [.int th, .int 6, .ref wi, .ref co, .ref sl, .ref rn, .ref so, .ref bn, .ref sm, .ref ah])), (sm, .inr (2, [.int 0, .ref gr, .ref gt, .ref gw, .ref gk, .ref gi, .ref gp, .ref go, .ref gg, .ref hm])), (wi, .inl (d1, 6, .inl fw)), (co, .inl (d2, 6, .inl fc)), (sl, .inl (d3, 6, .inl fs)), (gr, .inl (d4, 6, .inl fg)), (gt, .inl (d8, 6, .inl (fun _ => 0))), (gw, .inl (d9, 6, .inl (fun _ => 0))), (gk, .inl (d10, 360, .inl fk)), (gi, .inl (d11, 360, .inl (fun _ => 0))), (q1, .inl (cA2, 9, .inl (upd (fun _ => 0) 0 10)))] H := hP
  have hD : va_D A [(hm, .inr (3, [.int th, .int 6, .ref wi, .ref co, .ref sl, .ref rn, .ref so, .ref bn, .ref sm, .ref ah])), (sm, .inr (2, [.int 0, .ref gr, .ref gt, .ref gw, .ref gk, .ref gi, .ref gp, .ref go, .ref gg, .ref hm])), (wi, .inl (d1, 6, .inl fw)), (co, .inl (d2, 6, .inl fc)), (sl, .inl (d3, 6, .inl fs)), (gr, .inl (d4, 6, .inl fg)), (gt, .inl (d8, 6, .inl (fun _ => 0))), (gw, .inl (d9, 6, .inl (fun _ => 0))), (gk, .inl (d10, 360, .inl fk)), (gi, .inl (d11, 360, .inl (fun _ => 0))), (q1, .inl (cA2, 9, .inl (upd (fun _ => 0) 0 10)))] := hD
  refine lv_dup hx hb dX3_roofTold_13 rfl ?_
  refine lv_iconst (v := 1) hx hb dX3_roofTold_14 (by decide) ?_
  refine lv_aload_n hx hb dX3_roofTold_15 rfl (lv_at hl 0 rfl) ?_
  refine va_get (D := (dC, dI)) (ci := 3) (v := .ref co) (C := RX3) (T := TX3) (N := 10) hx hb hts (by decide +kernel) hown hK hP 0 rfl rfl 3 (by decide) (hts (.fieldLink RX3 13 "ThatchRoofModel" "courses" "[I") (by decide +kernel)) (fun _ h9 => h9) rfl dX3_roofTold_16 ?_
  refine lv_iload_n hx hb dX3_roofTold_19 rfl (lv_at hl 1 rfl) ?_
  refine va_iald hx hb hK hP 3 1 rfl rfl (vp_in_nI (by omega) (by omega)) dX3_roofTold_20 ?_
  refine lv_topi (fun x4 ex4 => ?_)
  rw [nI_clamp (show ru < 2 ^ 31 by omega)] at ex4
  obtain rfl : x4 = 6 := ex4.trans (hc _ (by omega))
  refine va_iast hx hb hK hP hD hS 10 8 rfl rfl (vp_in_nI (n := 1) (by decide) (by decide)) dX3_roofTold_21 (fun H locs hP hD hS => ?_)
  have hP : va_P (dC, dI) vwCl [(hm, .inr (3, [.int th, .int 6, .ref wi, .ref co, .ref sl, .ref rn, .ref so, .ref bn, .ref sm, .ref ah])), (sm, .inr (2, [.int 0, .ref gr, .ref gt, .ref gw, .ref gk, .ref gi, .ref gp, .ref go, .ref gg, .ref hm])), (wi, .inl (d1, 6, .inl fw)), (co, .inl (d2, 6, .inl fc)), (sl, .inl (d3, 6, .inl fs)), (gr, .inl (d4, 6, .inl fg)), (gt, .inl (d8, 6, .inl (fun _ => 0))), (gw, .inl (d9, 6, .inl (fun _ => 0))), (gk, .inl (d10, 360, .inl fk)), (gi, .inl (d11, 360, .inl (fun _ => 0))), (q1, .inl (cA2, 9, .inl (upd (upd (fun _ => 0) 0 10) 1 6)))] H := hP
  have hD : va_D A [(hm, .inr (3, [.int th, .int 6, .ref wi, .ref co, .ref sl, .ref rn, .ref so, .ref bn, .ref sm, .ref ah])), (sm, .inr (2, [.int 0, .ref gr, .ref gt, .ref gw, .ref gk, .ref gi, .ref gp, .ref go, .ref gg, .ref hm])), (wi, .inl (d1, 6, .inl fw)), (co, .inl (d2, 6, .inl fc)), (sl, .inl (d3, 6, .inl fs)), (gr, .inl (d4, 6, .inl fg)), (gt, .inl (d8, 6, .inl (fun _ => 0))), (gw, .inl (d9, 6, .inl (fun _ => 0))), (gk, .inl (d10, 360, .inl fk)), (gi, .inl (d11, 360, .inl (fun _ => 0))), (q1, .inl (cA2, 9, .inl (upd (upd (fun _ => 0) 0 10) 1 6)))] := hD
  refine lv_dup hx hb dX3_roofTold_22 rfl ?_
  refine lv_iconst (v := 2) hx hb dX3_roofTold_23 (by decide) ?_
  refine lv_aload_n hx hb dX3_roofTold_24 rfl (lv_at hl 0 rfl) ?_
  refine va_get (D := (dC, dI)) (ci := 3) (v := .ref sl) (C := RX3) (T := TX3) (N := 10) hx hb hts (by decide +kernel) hown hK hP 0 rfl rfl 4 (by decide) (hts (.fieldLink RX3 16 "ThatchRoofModel" "slope" "[I") (by decide +kernel)) (fun _ h9 => h9) rfl dX3_roofTold_25 ?_
  refine lv_iload_n hx hb dX3_roofTold_28 rfl (lv_at hl 1 rfl) ?_
  refine va_iald hx hb hK hP 4 2 rfl rfl (vp_in_nI (by omega) (by omega)) dX3_roofTold_29 ?_
  refine lv_topi (fun x5 ex5 => ?_)
  rw [nI_clamp (show ru < 2 ^ 31 by omega)] at ex5
  obtain rfl : x5 = 30 := ex5.trans (hs _ (by omega))
  refine va_iast hx hb hK hP hD hS 10 8 rfl rfl (vp_in_nI (n := 2) (by decide) (by decide)) dX3_roofTold_30 (fun H locs hP hD hS => ?_)
  have hP : va_P (dC, dI) vwCl [(hm, .inr (3, [.int th, .int 6, .ref wi, .ref co, .ref sl, .ref rn, .ref so, .ref bn, .ref sm, .ref ah])), (sm, .inr (2, [.int 0, .ref gr, .ref gt, .ref gw, .ref gk, .ref gi, .ref gp, .ref go, .ref gg, .ref hm])), (wi, .inl (d1, 6, .inl fw)), (co, .inl (d2, 6, .inl fc)), (sl, .inl (d3, 6, .inl fs)), (gr, .inl (d4, 6, .inl fg)), (gt, .inl (d8, 6, .inl (fun _ => 0))), (gw, .inl (d9, 6, .inl (fun _ => 0))), (gk, .inl (d10, 360, .inl fk)), (gi, .inl (d11, 360, .inl (fun _ => 0))), (q1, .inl (cA2, 9, .inl (upd (upd (upd (fun _ => 0) 0 10) 1 6) 2 30)))] H := hP
  have hD : va_D A [(hm, .inr (3, [.int th, .int 6, .ref wi, .ref co, .ref sl, .ref rn, .ref so, .ref bn, .ref sm, .ref ah])), (sm, .inr (2, [.int 0, .ref gr, .ref gt, .ref gw, .ref gk, .ref gi, .ref gp, .ref go, .ref gg, .ref hm])), (wi, .inl (d1, 6, .inl fw)), (co, .inl (d2, 6, .inl fc)), (sl, .inl (d3, 6, .inl fs)), (gr, .inl (d4, 6, .inl fg)), (gt, .inl (d8, 6, .inl (fun _ => 0))), (gw, .inl (d9, 6, .inl (fun _ => 0))), (gk, .inl (d10, 360, .inl fk)), (gi, .inl (d11, 360, .inl (fun _ => 0))), (q1, .inl (cA2, 9, .inl (upd (upd (upd (fun _ => 0) 0 10) 1 6) 2 30)))] := hD
  refine lv_dup hx hb dX3_roofTold_31 rfl ?_
  refine lv_iconst (v := 3) hx hb dX3_roofTold_32 (by decide) ?_
  refine lv_aload_n hx hb dX3_roofTold_33 rfl (lv_at hl 0 rfl) ?_
  refine va_get (D := (dC, dI)) (ci := 3) (v := .ref sm) (C := RX3) (T := TX3) (N := 10) hx hb hts (by decide +kernel) hown hK hP 0 rfl rfl 8 (by decide) (hts (.fieldLink RX3 33 "ThatchRoofModel" "s" "LThatchRoofModel$State;") (by decide +kernel)) (fun _ h9 => h9) rfl dX3_roofTold_34 ?_
  refine va_getN (D := (dC, dI)) (ci := 2) (v := .ref gr) (C := RX2) (T := TX2) (N := 10) hx hb hts (by decide +kernel) hown hK hP 1 rfl rfl 1 (by decide) (va_Nw.use rfl (zN_RX3_63 hZN)) (fun _ h9 => h9) rfl dX3_roofTold_37 ?_
  refine lv_iload_n hx hb dX3_roofTold_40 rfl (lv_at hl 1 rfl) ?_
  refine va_iald hx hb hK hP 5 3 rfl rfl (vp_in_nI (by omega) (by omega)) dX3_roofTold_41 ?_
  refine lv_topi (fun x6 ex6 => ?_)
  rw [nI_clamp (show ru < 2 ^ 31 by omega)] at ex6
  obtain rfl : x6 = 100 := ex6.trans (hg _ (by omega))
  refine va_iast hx hb hK hP hD hS 10 8 rfl rfl (vp_in_nI (n := 3) (by decide) (by decide)) dX3_roofTold_42 (fun H locs hP hD hS => ?_)
  have hP : va_P (dC, dI) vwCl [(hm, .inr (3, [.int th, .int 6, .ref wi, .ref co, .ref sl, .ref rn, .ref so, .ref bn, .ref sm, .ref ah])), (sm, .inr (2, [.int 0, .ref gr, .ref gt, .ref gw, .ref gk, .ref gi, .ref gp, .ref go, .ref gg, .ref hm])), (wi, .inl (d1, 6, .inl fw)), (co, .inl (d2, 6, .inl fc)), (sl, .inl (d3, 6, .inl fs)), (gr, .inl (d4, 6, .inl fg)), (gt, .inl (d8, 6, .inl (fun _ => 0))), (gw, .inl (d9, 6, .inl (fun _ => 0))), (gk, .inl (d10, 360, .inl fk)), (gi, .inl (d11, 360, .inl (fun _ => 0))), (q1, .inl (cA2, 9, .inl (upd (upd (upd (upd (fun _ => 0) 0 10) 1 6) 2 30) 3 100)))] H := hP
  have hD : va_D A [(hm, .inr (3, [.int th, .int 6, .ref wi, .ref co, .ref sl, .ref rn, .ref so, .ref bn, .ref sm, .ref ah])), (sm, .inr (2, [.int 0, .ref gr, .ref gt, .ref gw, .ref gk, .ref gi, .ref gp, .ref go, .ref gg, .ref hm])), (wi, .inl (d1, 6, .inl fw)), (co, .inl (d2, 6, .inl fc)), (sl, .inl (d3, 6, .inl fs)), (gr, .inl (d4, 6, .inl fg)), (gt, .inl (d8, 6, .inl (fun _ => 0))), (gw, .inl (d9, 6, .inl (fun _ => 0))), (gk, .inl (d10, 360, .inl fk)), (gi, .inl (d11, 360, .inl (fun _ => 0))), (q1, .inl (cA2, 9, .inl (upd (upd (upd (upd (fun _ => 0) 0 10) 1 6) 2 30) 3 100)))] := hD
  refine lv_dup hx hb dX3_roofTold_43 rfl ?_
  refine lv_iconst (v := 4) hx hb dX3_roofTold_44 (by decide) ?_
  refine lv_aload_n hx hb dX3_roofTold_45 rfl (lv_at hl 0 rfl) ?_
  refine va_get (D := (dC, dI)) (ci := 3) (v := .ref sm) (C := RX3) (T := TX3) (N := 10) hx hb hts (by decide +kernel) hown hK hP 0 rfl rfl 8 (by decide) (hts (.fieldLink RX3 33 "ThatchRoofModel" "s" "LThatchRoofModel$State;") (by decide +kernel)) (fun _ h9 => h9) rfl dX3_roofTold_46 ?_
  refine lv_iload_n hx hb dX3_roofTold_49 rfl (lv_at hl 1 rfl) ?_
  have hPc := hP.sub (ws' := [(sm, .inr (2, [.int 0, .ref gr, .ref gt, .ref gw, .ref gk, .ref gi, .ref gp, .ref go, .ref gg, .ref hm])), (gk, .inl (d10, 360, .inl fk))]) [1, 8] rfl
  have hKc := hK.sub (tys' := [(d10, .int)]) [6] rfl
  refine vp_callSi (va_runV (As := [.int (nI ru)]) (rest := [.int 4, .ref q1, .ref q1]) ⟨hx, hb, hml, hown, hts⟩ (r2_yealms l dC dI sm hm gr gt gw gk gi gp go gg d10 fk ru (by first | assumption | decide | omega) (by first | assumption | decide | omega)) (cwV 1 hts gX3_roofTold_X2_yealms rfl rfl rfl (by decide +kernel) ⟨Nat.le_of_ble_eq_true rfl, Nat.le_of_ble_eq_true rfl⟩) ⟨fun a U g mk q => by obtain ⟨q0, qP, qK⟩ := q; exact ⟨q0, qP, va_K.moved (u := U) (U := U.calling g mk a) (Vm.Alike.refl U.vm) qK⟩, va_recv hKc hPc (ci := 2) (q0 := 0) rfl rfl, fun U hU hW => ⟨rfl, by rw [hU]; exact hPc, va_K.moved hW.alike hKc⟩⟩ rfl rfl hl.1 rfl (lv_room (Nat.le_of_ble_eq_true rfl)) dX3_roofTold_50 ⟨Nat.le_of_ble_eq_true rfl, Nat.le_of_ble_eq_true rfl⟩).run (fun r7 hr7 => ?_)
  obtain rfl := hr7
  refine va_iast hx hb hK hP hD hS 10 8 rfl rfl (vp_in_nI (n := 4) (by decide) (by decide)) dX3_roofTold_53 (fun H locs hP hD hS => ?_)
  have hP : va_P (dC, dI) vwCl [(hm, .inr (3, [.int th, .int 6, .ref wi, .ref co, .ref sl, .ref rn, .ref so, .ref bn, .ref sm, .ref ah])), (sm, .inr (2, [.int 0, .ref gr, .ref gt, .ref gw, .ref gk, .ref gi, .ref gp, .ref go, .ref gg, .ref hm])), (wi, .inl (d1, 6, .inl fw)), (co, .inl (d2, 6, .inl fc)), (sl, .inl (d3, 6, .inl fs)), (gr, .inl (d4, 6, .inl fg)), (gt, .inl (d8, 6, .inl (fun _ => 0))), (gw, .inl (d9, 6, .inl (fun _ => 0))), (gk, .inl (d10, 360, .inl fk)), (gi, .inl (d11, 360, .inl (fun _ => 0))), (q1, .inl (cA2, 9, .inl (upd (upd (upd (upd (upd (fun _ => 0) 0 10) 1 6) 2 30) 3 100) 4 0)))] H := hP
  have hD : va_D A [(hm, .inr (3, [.int th, .int 6, .ref wi, .ref co, .ref sl, .ref rn, .ref so, .ref bn, .ref sm, .ref ah])), (sm, .inr (2, [.int 0, .ref gr, .ref gt, .ref gw, .ref gk, .ref gi, .ref gp, .ref go, .ref gg, .ref hm])), (wi, .inl (d1, 6, .inl fw)), (co, .inl (d2, 6, .inl fc)), (sl, .inl (d3, 6, .inl fs)), (gr, .inl (d4, 6, .inl fg)), (gt, .inl (d8, 6, .inl (fun _ => 0))), (gw, .inl (d9, 6, .inl (fun _ => 0))), (gk, .inl (d10, 360, .inl fk)), (gi, .inl (d11, 360, .inl (fun _ => 0))), (q1, .inl (cA2, 9, .inl (upd (upd (upd (upd (upd (fun _ => 0) 0 10) 1 6) 2 30) 3 100) 4 0)))] := hD
  refine lv_dup hx hb dX3_roofTold_54 rfl ?_
  refine lv_iconst (v := 5) hx hb dX3_roofTold_55 (by decide) ?_
  refine lv_aload_n hx hb dX3_roofTold_56 rfl (lv_at hl 0 rfl) ?_
  refine va_get (D := (dC, dI)) (ci := 3) (v := .ref sm) (C := RX3) (T := TX3) (N := 10) hx hb hts (by decide +kernel) hown hK hP 0 rfl rfl 8 (by decide) (hts (.fieldLink RX3 33 "ThatchRoofModel" "s" "LThatchRoofModel$State;") (by decide +kernel)) (fun _ h9 => h9) rfl dX3_roofTold_57 ?_
  refine lv_iload_n hx hb dX3_roofTold_60 rfl (lv_at hl 1 rfl) ?_
  have hPc := hP.sub (ws' := [(sm, .inr (2, [.int 0, .ref gr, .ref gt, .ref gw, .ref gk, .ref gi, .ref gp, .ref go, .ref gg, .ref hm])), (gi, .inl (d11, 360, .inl (fun _ => 0)))]) [1, 9] rfl
  have hKc := hK.sub (tys' := [(d11, .int)]) [7] rfl
  refine vp_callSi (va_runV (As := [.int (nI ru)]) (rest := [.int 5, .ref q1, .ref q1]) ⟨hx, hb, hml, hown, hts⟩ (r2_thickness l dC dI sm hm gr gt gw gk gi gp go gg d11 ru (by first | assumption | decide | omega)) (cwV 1 hts gX3_roofTold_X2_thickness rfl rfl rfl (by decide +kernel) ⟨Nat.le_of_ble_eq_true rfl, Nat.le_of_ble_eq_true rfl⟩) ⟨fun a U g mk q => by obtain ⟨q0, qP, qK⟩ := q; exact ⟨q0, qP, va_K.moved (u := U) (U := U.calling g mk a) (Vm.Alike.refl U.vm) qK⟩, va_recv hKc hPc (ci := 2) (q0 := 0) rfl rfl, fun U hU hW => ⟨rfl, by rw [hU]; exact hPc, va_K.moved hW.alike hKc⟩⟩ rfl rfl hl.1 rfl (lv_room (Nat.le_of_ble_eq_true rfl)) dX3_roofTold_61 ⟨Nat.le_of_ble_eq_true rfl, Nat.le_of_ble_eq_true rfl⟩).run (fun r8 hr8 => ?_)
  obtain rfl := hr8
  refine va_iast hx hb hK hP hD hS 10 8 rfl rfl (vp_in_nI (n := 5) (by decide) (by decide)) dX3_roofTold_64 (fun H locs hP hD hS => ?_)
  have hP : va_P (dC, dI) vwCl [(hm, .inr (3, [.int th, .int 6, .ref wi, .ref co, .ref sl, .ref rn, .ref so, .ref bn, .ref sm, .ref ah])), (sm, .inr (2, [.int 0, .ref gr, .ref gt, .ref gw, .ref gk, .ref gi, .ref gp, .ref go, .ref gg, .ref hm])), (wi, .inl (d1, 6, .inl fw)), (co, .inl (d2, 6, .inl fc)), (sl, .inl (d3, 6, .inl fs)), (gr, .inl (d4, 6, .inl fg)), (gt, .inl (d8, 6, .inl (fun _ => 0))), (gw, .inl (d9, 6, .inl (fun _ => 0))), (gk, .inl (d10, 360, .inl fk)), (gi, .inl (d11, 360, .inl (fun _ => 0))), (q1, .inl (cA2, 9, .inl (upd (upd (upd (upd (upd (upd (fun _ => 0) 0 10) 1 6) 2 30) 3 100) 4 0) 5 0)))] H := hP
  have hD : va_D A [(hm, .inr (3, [.int th, .int 6, .ref wi, .ref co, .ref sl, .ref rn, .ref so, .ref bn, .ref sm, .ref ah])), (sm, .inr (2, [.int 0, .ref gr, .ref gt, .ref gw, .ref gk, .ref gi, .ref gp, .ref go, .ref gg, .ref hm])), (wi, .inl (d1, 6, .inl fw)), (co, .inl (d2, 6, .inl fc)), (sl, .inl (d3, 6, .inl fs)), (gr, .inl (d4, 6, .inl fg)), (gt, .inl (d8, 6, .inl (fun _ => 0))), (gw, .inl (d9, 6, .inl (fun _ => 0))), (gk, .inl (d10, 360, .inl fk)), (gi, .inl (d11, 360, .inl (fun _ => 0))), (q1, .inl (cA2, 9, .inl (upd (upd (upd (upd (upd (upd (fun _ => 0) 0 10) 1 6) 2 30) 3 100) 4 0) 5 0)))] := hD
  refine lv_dup hx hb dX3_roofTold_65 rfl ?_
  refine lv_bipush (v := 6) hx hb dX3_roofTold_66 (by decide) ?_
  refine lv_aload_n hx hb dX3_roofTold_68 rfl (lv_at hl 0 rfl) ?_
  refine va_get (D := (dC, dI)) (ci := 3) (v := .ref sm) (C := RX3) (T := TX3) (N := 10) hx hb hts (by decide +kernel) hown hK hP 0 rfl rfl 8 (by decide) (hts (.fieldLink RX3 33 "ThatchRoofModel" "s" "LThatchRoofModel$State;") (by decide +kernel)) (fun _ h9 => h9) rfl dX3_roofTold_69 ?_
  refine lv_iload_n hx hb dX3_roofTold_72 rfl (lv_at hl 1 rfl) ?_
  have hPc := hP.sub (ws' := [(sm, .inr (2, [.int 0, .ref gr, .ref gt, .ref gw, .ref gk, .ref gi, .ref gp, .ref go, .ref gg, .ref hm])), (hm, .inr (3, [.int th, .int 6, .ref wi, .ref co, .ref sl, .ref rn, .ref so, .ref bn, .ref sm, .ref ah])), (wi, .inl (d1, 6, .inl fw)), (co, .inl (d2, 6, .inl fc)), (gk, .inl (d10, 360, .inl fk)), (gi, .inl (d11, 360, .inl (fun _ => 0)))]) [1, 0, 2, 3, 8, 9] rfl
  have hKc := hK.sub (tys' := [(d1, .int), (d2, .int), (d10, .int), (d11, .int)]) [0, 1, 6, 7] rfl
  refine vp_callSi (va_runV (As := [.int (nI ru)]) (rest := [.int 6, .ref q1, .ref q1]) ⟨hx, hb, hml, hown, hts⟩ (r2_leaks l dC dI hm wi co sl rn so bn sm ah th gr gt gw gk gi gp go gg d1 d2 d10 d11 fw fc fk ru (by first | assumption | decide | omega) (by first | assumption | decide | omega) (by first | assumption | decide | omega) (by first | assumption | decide | omega)) (cwV 1 hts gX3_roofTold_X2_leaks rfl rfl rfl (by decide +kernel) ⟨Nat.le_of_ble_eq_true rfl, Nat.le_of_ble_eq_true rfl⟩) ⟨fun a U g mk q => by obtain ⟨q0, qP, qK, qN⟩ := q; exact ⟨q0, qP, va_K.moved (u := U) (U := U.calling g mk a) (Vm.Alike.refl U.vm) qK, zNs.calling qN⟩, va_recv hKc hPc (ci := 2) (q0 := 0) rfl rfl, fun U hU hW => ⟨rfl, by rw [hU]; exact hPc, va_K.moved hW.alike hKc, zNs.warm hW hZN⟩⟩ rfl rfl hl.1 rfl (lv_room (Nat.le_of_ble_eq_true rfl)) dX3_roofTold_73 ⟨Nat.le_of_ble_eq_true rfl, Nat.le_of_ble_eq_true rfl⟩).run (fun r9 hr9 => ?_)
  obtain rfl := hr9
  refine va_iast hx hb hK hP hD hS 10 8 rfl rfl (vp_in_nI (n := 6) (by decide) (by decide)) dX3_roofTold_76 (fun H locs hP hD hS => ?_)
  have hP : va_P (dC, dI) vwCl [(hm, .inr (3, [.int th, .int 6, .ref wi, .ref co, .ref sl, .ref rn, .ref so, .ref bn, .ref sm, .ref ah])), (sm, .inr (2, [.int 0, .ref gr, .ref gt, .ref gw, .ref gk, .ref gi, .ref gp, .ref go, .ref gg, .ref hm])), (wi, .inl (d1, 6, .inl fw)), (co, .inl (d2, 6, .inl fc)), (sl, .inl (d3, 6, .inl fs)), (gr, .inl (d4, 6, .inl fg)), (gt, .inl (d8, 6, .inl (fun _ => 0))), (gw, .inl (d9, 6, .inl (fun _ => 0))), (gk, .inl (d10, 360, .inl fk)), (gi, .inl (d11, 360, .inl (fun _ => 0))), (q1, .inl (cA2, 9, .inl (upd (upd (upd (upd (upd (upd (upd (fun _ => 0) 0 10) 1 6) 2 30) 3 100) 4 0) 5 0) 6 10)))] H := hP
  have hD : va_D A [(hm, .inr (3, [.int th, .int 6, .ref wi, .ref co, .ref sl, .ref rn, .ref so, .ref bn, .ref sm, .ref ah])), (sm, .inr (2, [.int 0, .ref gr, .ref gt, .ref gw, .ref gk, .ref gi, .ref gp, .ref go, .ref gg, .ref hm])), (wi, .inl (d1, 6, .inl fw)), (co, .inl (d2, 6, .inl fc)), (sl, .inl (d3, 6, .inl fs)), (gr, .inl (d4, 6, .inl fg)), (gt, .inl (d8, 6, .inl (fun _ => 0))), (gw, .inl (d9, 6, .inl (fun _ => 0))), (gk, .inl (d10, 360, .inl fk)), (gi, .inl (d11, 360, .inl (fun _ => 0))), (q1, .inl (cA2, 9, .inl (upd (upd (upd (upd (upd (upd (upd (fun _ => 0) 0 10) 1 6) 2 30) 3 100) 4 0) 5 0) 6 10)))] := hD
  refine lv_dup hx hb dX3_roofTold_77 rfl ?_
  refine lv_bipush (v := 7) hx hb dX3_roofTold_78 (by decide) ?_
  refine lv_aload_n hx hb dX3_roofTold_80 rfl (lv_at hl 0 rfl) ?_
  refine va_get (D := (dC, dI)) (ci := 3) (v := .ref sm) (C := RX3) (T := TX3) (N := 10) hx hb hts (by decide +kernel) hown hK hP 0 rfl rfl 8 (by decide) (hts (.fieldLink RX3 33 "ThatchRoofModel" "s" "LThatchRoofModel$State;") (by decide +kernel)) (fun _ h9 => h9) rfl dX3_roofTold_81 ?_
  refine va_getN (D := (dC, dI)) (ci := 2) (v := .ref gt) (C := RX2) (T := TX2) (N := 10) hx hb hts (by decide +kernel) hown hK hP 1 rfl rfl 2 (by decide) (va_Nw.use rfl (zN_RX3_118 hZN)) (fun _ h9 => h9) rfl dX3_roofTold_84 ?_
  refine lv_iload_n hx hb dX3_roofTold_87 rfl (lv_at hl 1 rfl) ?_
  refine va_iald hx hb hK hP 6 4 rfl rfl (vp_in_nI (by omega) (by omega)) dX3_roofTold_88 ?_
  refine lv_topi (fun x10 ex10 => ?_)
  obtain rfl : x10 = 0 := ex10
  refine va_iast hx hb hK hP hD hS 10 8 rfl rfl (vp_in_nI (n := 7) (by decide) (by decide)) dX3_roofTold_89 (fun H locs hP hD hS => ?_)
  have hP : va_P (dC, dI) vwCl [(hm, .inr (3, [.int th, .int 6, .ref wi, .ref co, .ref sl, .ref rn, .ref so, .ref bn, .ref sm, .ref ah])), (sm, .inr (2, [.int 0, .ref gr, .ref gt, .ref gw, .ref gk, .ref gi, .ref gp, .ref go, .ref gg, .ref hm])), (wi, .inl (d1, 6, .inl fw)), (co, .inl (d2, 6, .inl fc)), (sl, .inl (d3, 6, .inl fs)), (gr, .inl (d4, 6, .inl fg)), (gt, .inl (d8, 6, .inl (fun _ => 0))), (gw, .inl (d9, 6, .inl (fun _ => 0))), (gk, .inl (d10, 360, .inl fk)), (gi, .inl (d11, 360, .inl (fun _ => 0))), (q1, .inl (cA2, 9, .inl (upd (upd (upd (upd (upd (upd (upd (upd (fun _ => 0) 0 10) 1 6) 2 30) 3 100) 4 0) 5 0) 6 10) 7 0)))] H := hP
  have hD : va_D A [(hm, .inr (3, [.int th, .int 6, .ref wi, .ref co, .ref sl, .ref rn, .ref so, .ref bn, .ref sm, .ref ah])), (sm, .inr (2, [.int 0, .ref gr, .ref gt, .ref gw, .ref gk, .ref gi, .ref gp, .ref go, .ref gg, .ref hm])), (wi, .inl (d1, 6, .inl fw)), (co, .inl (d2, 6, .inl fc)), (sl, .inl (d3, 6, .inl fs)), (gr, .inl (d4, 6, .inl fg)), (gt, .inl (d8, 6, .inl (fun _ => 0))), (gw, .inl (d9, 6, .inl (fun _ => 0))), (gk, .inl (d10, 360, .inl fk)), (gi, .inl (d11, 360, .inl (fun _ => 0))), (q1, .inl (cA2, 9, .inl (upd (upd (upd (upd (upd (upd (upd (upd (fun _ => 0) 0 10) 1 6) 2 30) 3 100) 4 0) 5 0) 6 10) 7 0)))] := hD
  refine lv_dup hx hb dX3_roofTold_90 rfl ?_
  refine lv_bipush (v := 8) hx hb dX3_roofTold_91 (by decide) ?_
  refine lv_aload_n hx hb dX3_roofTold_93 rfl (lv_at hl 0 rfl) ?_
  refine va_get (D := (dC, dI)) (ci := 3) (v := .ref sm) (C := RX3) (T := TX3) (N := 10) hx hb hts (by decide +kernel) hown hK hP 0 rfl rfl 8 (by decide) (hts (.fieldLink RX3 33 "ThatchRoofModel" "s" "LThatchRoofModel$State;") (by decide +kernel)) (fun _ h9 => h9) rfl dX3_roofTold_94 ?_
  refine va_getN (D := (dC, dI)) (ci := 2) (v := .ref gw) (C := RX2) (T := TX2) (N := 10) hx hb hts (by decide +kernel) hown hK hP 1 rfl rfl 3 (by decide) (va_Nw.use rfl (zN_RX3_121 hZN)) (fun _ h9 => h9) rfl dX3_roofTold_97 ?_
  refine lv_iload_n hx hb dX3_roofTold_100 rfl (lv_at hl 1 rfl) ?_
  refine va_iald hx hb hK hP 7 5 rfl rfl (vp_in_nI (by omega) (by omega)) dX3_roofTold_101 ?_
  refine lv_topi (fun x11 ex11 => ?_)
  obtain rfl : x11 = 0 := ex11
  refine va_iast hx hb hK hP hD hS 10 8 rfl rfl (vp_in_nI (n := 8) (by decide) (by decide)) dX3_roofTold_102 (fun H locs hP hD hS => ?_)
  have hP : va_P (dC, dI) vwCl [(hm, .inr (3, [.int th, .int 6, .ref wi, .ref co, .ref sl, .ref rn, .ref so, .ref bn, .ref sm, .ref ah])), (sm, .inr (2, [.int 0, .ref gr, .ref gt, .ref gw, .ref gk, .ref gi, .ref gp, .ref go, .ref gg, .ref hm])), (wi, .inl (d1, 6, .inl fw)), (co, .inl (d2, 6, .inl fc)), (sl, .inl (d3, 6, .inl fs)), (gr, .inl (d4, 6, .inl fg)), (gt, .inl (d8, 6, .inl (fun _ => 0))), (gw, .inl (d9, 6, .inl (fun _ => 0))), (gk, .inl (d10, 360, .inl fk)), (gi, .inl (d11, 360, .inl (fun _ => 0))), (q1, .inl (cA2, 9, .inl (upd (upd (upd (upd (upd (upd (upd (upd (upd (fun _ => 0) 0 10) 1 6) 2 30) 3 100) 4 0) 5 0) 6 10) 7 0) 8 0)))] H := hP
  have hD : va_D A [(hm, .inr (3, [.int th, .int 6, .ref wi, .ref co, .ref sl, .ref rn, .ref so, .ref bn, .ref sm, .ref ah])), (sm, .inr (2, [.int 0, .ref gr, .ref gt, .ref gw, .ref gk, .ref gi, .ref gp, .ref go, .ref gg, .ref hm])), (wi, .inl (d1, 6, .inl fw)), (co, .inl (d2, 6, .inl fc)), (sl, .inl (d3, 6, .inl fs)), (gr, .inl (d4, 6, .inl fg)), (gt, .inl (d8, 6, .inl (fun _ => 0))), (gw, .inl (d9, 6, .inl (fun _ => 0))), (gk, .inl (d10, 360, .inl fk)), (gi, .inl (d11, 360, .inl (fun _ => 0))), (q1, .inl (cA2, 9, .inl (upd (upd (upd (upd (upd (upd (upd (upd (upd (fun _ => 0) 0 10) 1 6) 2 30) 3 100) 4 0) 5 0) 6 10) 7 0) 8 0)))] := hD
  refine lv_astore_n (lv' := [(3, .ref q1), (0, .ref hm), (1, .int (nI ru)), (2, .int 8)]) hx hb dX3_roofTold_103 rfl hl (by decide) rfl (fun ls hl => ?_)
  refine lv_aload_n hx hb dX3_roofTold_104 rfl (lv_at hl 0 rfl) ?_
  refine lv_iload_n hx hb dX3_roofTold_105 rfl (lv_at hl 3 rfl) ?_
  refine va_iald hx hb hK hP 10 8 rfl rfl (vp_in_nI (n := 8) (by decide) (by decide)) dX3_roofTold_106 ?_
  refine lv_topi (fun x12 ex12 => ?_)
  obtain rfl : x12 = 0 := ex12
  have hP9 := hP.sub (ws' := [(hm, .inr (3, [.int th, .int 6, .ref wi, .ref co, .ref sl, .ref rn, .ref so, .ref bn, .ref sm, .ref ah])), (sm, .inr (2, [.int 0, .ref gr, .ref gt, .ref gw, .ref gk, .ref gi, .ref gp, .ref go, .ref gg, .ref hm])), (wi, .inl (d1, 6, .inl fw)), (co, .inl (d2, 6, .inl fc)), (sl, .inl (d3, 6, .inl fs)), (gr, .inl (d4, 6, .inl fg)), (gt, .inl (d8, 6, .inl (fun _ => 0))), (gw, .inl (d9, 6, .inl (fun _ => 0))), (gk, .inl (d10, 360, .inl fk)), (gi, .inl (d11, 360, .inl (fun _ => 0)))]) [0, 1, 2, 3, 4, 5, 6, 7, 8, 9] rfl
  have hD9 := hD.sub (ws' := [(hm, .inr (3, [.int th, .int 6, .ref wi, .ref co, .ref sl, .ref rn, .ref so, .ref bn, .ref sm, .ref ah])), (sm, .inr (2, [.int 0, .ref gr, .ref gt, .ref gw, .ref gk, .ref gi, .ref gp, .ref go, .ref gg, .ref hm])), (wi, .inl (d1, 6, .inl fw)), (co, .inl (d2, 6, .inl fc)), (sl, .inl (d3, 6, .inl fs)), (gr, .inl (d4, 6, .inl fg)), (gt, .inl (d8, 6, .inl (fun _ => 0))), (gw, .inl (d9, 6, .inl (fun _ => 0))), (gk, .inl (d10, 360, .inl fk)), (gi, .inl (d11, 360, .inl (fun _ => 0)))]) [0, 1, 2, 3, 4, 5, 6, 7, 8, 9] (by decide) rfl
  have hK9 := hK.sub (tys' := []) [] rfl
  refine W.widen (k := 1) (n := 9) (Nat.le_of_ble_eq_true rfl) (Nat.le_of_ble_eq_true rfl) ?_
  have hZ := zz_one hAe hD hP 10 [0, 1, 2, 3, 4, 5, 6, 7, 8, 9] rfl rfl (by decide)
  exact W.iret (v := 0) hx hb hr (fun t ht hW => ⟨⟨0, (), rfl, by (first | rfl | assumption | decide | (simp_all; done) | grind), ⟨by rw [ht]; exact hP9, va_K.moved hW.alike hK9, hD9, by rw [ht]; omega⟩⟩, hS.F ht⟩) hS.2.2 dX3_roofTold_107

set_option maxHeartbeats 4000000 in
set_option maxRecDepth 100000 in
theorem r3_counted0 (l : Launch) (dC : Nat → ClassId) (dI : Nat → Nat → Nat) (sz : Nat) (hm : Nat) (wi : Nat) (co : Nat) (sl : Nat) (rn : Nat) (so : Nat) (bn : Nat) (sm : Nat) (ah : Nat) (th : Int32) (gr : Nat) (gt : Nat) (gw : Nat) (gk : Nat) (gi : Nat) (gp : Nat) (go : Nat) (gg : Nat) (d1 : ClassId) (d2 : ClassId) (d5 : ClassId) (d6 : ClassId) (d7 : ClassId) (d10 : ClassId) (d11 : ClassId) (fw : Nat → Int32) (fc : Nat → Int32) (fn : Nat → Int32) (fk : Nat → Int32) (hk : ∀ j : Nat, j < 360 → fk j = -1) (hw : ∀ j : Nat, j < 6 → fw j = 10) (hc : ∀ j : Nat, j < 6 → fc j = 6) (hn : ∀ j : Nat, j < 12 → fn j = 4) : Met l yX3_counted wsX3_counted ({ frames := 2, cells := 1, slots := 9, locals := 47 }) (va_Pc [.ref hm, .int 0] (fun U => U.heap.size = sz ∧ va_P (dC, dI) vwCl [(hm, .inr (3, [.int th, .int 6, .ref wi, .ref co, .ref sl, .ref rn, .ref so, .ref bn, .ref sm, .ref ah])), (sm, .inr (2, [.int 0, .ref gr, .ref gt, .ref gw, .ref gk, .ref gi, .ref gp, .ref go, .ref gg, .ref hm])), (wi, .inl (d1, 6, .inl fw)), (co, .inl (d2, 6, .inl fc)), (bn, .inl (d5, 3, .inl (fun _ => 0))), (rn, .inl (d6, 12, .inl fn)), (so, .inl (d7, 12, .inl (fun _ => 0))), (gk, .inl (d10, 360, .inl fk)), (gi, .inl (d11, 360, .inl (fun _ => 0)))] U.heap ∧ va_K (dC, dI) vwCl [(d1, .int), (d2, .int), (d5, .int), (d6, .int), (d7, .int), (d10, .int), (d11, .int)] U ∧ va_D (fun _ => True) [(hm, .inr (3, [.int th, .int 6, .ref wi, .ref co, .ref sl, .ref rn, .ref so, .ref bn, .ref sm, .ref ah])), (sm, .inr (2, [.int 0, .ref gr, .ref gt, .ref gw, .ref gk, .ref gi, .ref gp, .ref go, .ref gg, .ref hm])), (wi, .inl (d1, 6, .inl fw)), (co, .inl (d2, 6, .inl fc)), (bn, .inl (d5, 3, .inl (fun _ => 0))), (rn, .inl (d6, 12, .inl fn)), (so, .inl (d7, 12, .inl (fun _ => 0))), (gk, .inl (d10, 360, .inl fk)), (gi, .inl (d11, 360, .inl (fun _ => 0)))] ∧ zNs U)) (va_Qi (fun (r : Int32) (u : Unit) => r = 0) (fun (u : Unit) (t : State) => va_P (dC, dI) vwCl [(hm, .inr (3, [.int th, .int 6, .ref wi, .ref co, .ref sl, .ref rn, .ref so, .ref bn, .ref sm, .ref ah])), (sm, .inr (2, [.int 0, .ref gr, .ref gt, .ref gw, .ref gk, .ref gi, .ref gp, .ref go, .ref gg, .ref hm])), (wi, .inl (d1, 6, .inl fw)), (co, .inl (d2, 6, .inl fc)), (bn, .inl (d5, 3, .inl (fun _ => 0))), (rn, .inl (d6, 12, .inl fn)), (so, .inl (d7, 12, .inl (fun _ => 0))), (gk, .inl (d10, 360, .inl fk)), (gi, .inl (d11, 360, .inl (fun _ => 0)))] t.heap ∧ va_K (dC, dI) vwCl [] t ∧ va_D (va_A [(hm, .inr (3, [.int th, .int 6, .ref wi, .ref co, .ref sl, .ref rn, .ref so, .ref bn, .ref sm, .ref ah])), (sm, .inr (2, [.int 0, .ref gr, .ref gt, .ref gw, .ref gk, .ref gi, .ref gp, .ref go, .ref gg, .ref hm])), (wi, .inl (d1, 6, .inl fw)), (co, .inl (d2, 6, .inl fc)), (bn, .inl (d5, 3, .inl (fun _ => 0))), (rn, .inl (d6, 12, .inl fn)), (so, .inl (d7, 12, .inl (fun _ => 0))), (gk, .inl (d10, 360, .inl fk)), (gi, .inl (d11, 360, .inl (fun _ => 0)))] sz) [(hm, .inr (3, [.int th, .int 6, .ref wi, .ref co, .ref sl, .ref rn, .ref so, .ref bn, .ref sm, .ref ah])), (sm, .inr (2, [.int 0, .ref gr, .ref gt, .ref gw, .ref gk, .ref gi, .ref gp, .ref go, .ref gg, .ref hm])), (wi, .inl (d1, 6, .inl fw)), (co, .inl (d2, 6, .inl fc)), (bn, .inl (d5, 3, .inl (fun _ => 0))), (rn, .inl (d6, 12, .inl fn)), (so, .inl (d7, 12, .inl (fun _ => 0))), (gk, .inl (d10, 360, .inl fk)), (gi, .inl (d11, 360, .inl (fun _ => 0)))] ∧ sz + 1 ≤ t.heap.size) (va_A [(hm, .inr (3, [.int th, .int 6, .ref wi, .ref co, .ref sl, .ref rn, .ref so, .ref bn, .ref sm, .ref ah])), (sm, .inr (2, [.int 0, .ref gr, .ref gt, .ref gw, .ref gk, .ref gi, .ref gp, .ref go, .ref gg, .ref hm])), (wi, .inl (d1, 6, .inl fw)), (co, .inl (d2, 6, .inl fc)), (bn, .inl (d5, 3, .inl (fun _ => 0))), (rn, .inl (d6, 12, .inl fn)), (so, .inl (d7, 12, .inl (fun _ => 0))), (gk, .inl (d10, 360, .inl fk)), (gi, .inl (d11, 360, .inl (fun _ => 0)))] sz)) 1 9 (va_A [(hm, .inr (3, [.int th, .int 6, .ref wi, .ref co, .ref sl, .ref rn, .ref so, .ref bn, .ref sm, .ref ah])), (sm, .inr (2, [.int 0, .ref gr, .ref gt, .ref gw, .ref gk, .ref gi, .ref gp, .ref go, .ref gg, .ref hm])), (wi, .inl (d1, 6, .inl fw)), (co, .inl (d2, 6, .inl fc)), (bn, .inl (d5, 3, .inl (fun _ => 0))), (rn, .inl (d6, 12, .inl fn)), (so, .inl (d7, 12, .inl (fun _ => 0))), (gk, .inl (d10, 360, .inl fk)), (gi, .inl (d11, 360, .inl (fun _ => 0)))] sz) := by
  refine Met.ofW (cc := cX3_counted) (maxL := 5) (ret := (some .int)) (by decide) rfl ?_
  intro p e s m args below meth c s₁ B hml hv
  obtain ⟨rfl, hsz, hP, hK, hD0, hZN⟩ := hv
  have hx := B.exec
  have hb := B.bytes
  have hr := B.returns
  have hts := atoms_spec (ws := wsX3_counted) B.pre
  have hown : s.vm.findClass RX3 = some m.cls := findClass_of_methodNamed B.named
  have hlocks := B.notSynchronized
  subst hsz
  have hD := hD0.self (sz := s.heap.size)
  generalize hAe : va_A [(hm, .inr (3, [.int th, .int 6, .ref wi, .ref co, .ref sl, .ref rn, .ref so, .ref bn, .ref sm, .ref ah])), (sm, .inr (2, [.int 0, .ref gr, .ref gt, .ref gw, .ref gk, .ref gi, .ref gp, .ref go, .ref gg, .ref hm])), (wi, .inl (d1, 6, .inl fw)), (co, .inl (d2, 6, .inl fc)), (bn, .inl (d5, 3, .inl (fun _ => 0))), (rn, .inl (d6, 12, .inl fn)), (so, .inl (d7, 12, .inl (fun _ => 0))), (gk, .inl (d10, 360, .inl fk)), (gi, .inl (d11, 360, .inl (fun _ => 0)))] s.heap.size = A at hD ⊢
  have hA : ∀ q : Nat, s.heap.size ≤ q → A q := fun q h => by rw [← hAe]; exact Or.inr h
  have hS : va_S A s.heap s.heap [] := va_S.rf
  have hP : va_P (dC, dI) vwCl [(hm, .inr (3, [.int th, .int 6, .ref wi, .ref co, .ref sl, .ref rn, .ref so, .ref bn, .ref sm, .ref ah])), (sm, .inr (2, [.int 0, .ref gr, .ref gt, .ref gw, .ref gk, .ref gi, .ref gp, .ref go, .ref gg, .ref hm])), (wi, .inl (d1, 6, .inl fw)), (co, .inl (d2, 6, .inl fc)), (bn, .inl (d5, 3, .inl (fun _ => 0))), (rn, .inl (d6, 12, .inl fn)), (so, .inl (d7, 12, .inl (fun _ => 0))), (gk, .inl (d10, 360, .inl fk)), (gi, .inl (d11, 360, .inl (fun _ => 0)))] s.heap := hP
  have hl := lv_entry ([.ref hm, .int 0]) (n := 5) (Nat.le_of_ble_eq_true rfl)
  rw [lg_entry_eq]
  generalize (lg_sl ([.ref hm, .int 0]) ++ List.replicate (5 - (lg_sl ([.ref hm, .int 0])).length) Slot.unset).toArray = ls at hl ⊢
  have hl : lv_has ls 5 [(0, .ref hm), (1, .int 0)] := hl
  refine lv_iconst (v := 0) hx hb dX3_counted_0 (by decide) ?_
  refine lv_istore_n (lv' := [(2, .int 0), (0, .ref hm), (1, .int 0)]) hx hb dX3_counted_1 rfl hl (by decide) rfl (fun ls hl => ?_)
  refine lv_iconst (v := 0) hx hb dX3_counted_2 (by decide) ?_
  refine lv_istore_n (lv' := [(3, .int 0), (2, .int 0), (0, .ref hm), (1, .int 0)]) hx hb dX3_counted_3 rfl hl (by decide) rfl (fun ls hl => ?_)
  refine lv_iconst (v := 0) hx hb dX3_counted_4 (by decide) ?_
  refine lv_istore (lv' := [(4, .int 0), (3, .int 0), (2, .int 0), (0, .ref hm), (1, .int 0)]) hx hb dX3_counted_5 hl (by decide) rfl (fun ls hl => ?_)
  suffices K7 : ∀ (n : Nat) (i : Nat), (i ≤ 6) → 6 - i < n → ∀ (H : Heap) (locs : List Loc), va_P (dC, dI) vwCl [(hm, .inr (3, [.int th, .int 6, .ref wi, .ref co, .ref sl, .ref rn, .ref so, .ref bn, .ref sm, .ref ah])), (sm, .inr (2, [.int 0, .ref gr, .ref gt, .ref gw, .ref gk, .ref gi, .ref gp, .ref go, .ref gg, .ref hm])), (wi, .inl (d1, 6, .inl fw)), (co, .inl (d2, 6, .inl fc)), (bn, .inl (d5, 3, .inl (fun _ => 0))), (rn, .inl (d6, 12, .inl fn)), (so, .inl (d7, 12, .inl (fun _ => 0))), (gk, .inl (d10, 360, .inl fk)), (gi, .inl (d11, 360, .inl (fun _ => 0)))] H → va_D A [(hm, .inr (3, [.int th, .int 6, .ref wi, .ref co, .ref sl, .ref rn, .ref so, .ref bn, .ref sm, .ref ah])), (sm, .inr (2, [.int 0, .ref gr, .ref gt, .ref gw, .ref gk, .ref gi, .ref gp, .ref go, .ref gg, .ref hm])), (wi, .inl (d1, 6, .inl fw)), (co, .inl (d2, 6, .inl fc)), (bn, .inl (d5, 3, .inl (fun _ => 0))), (rn, .inl (d6, 12, .inl fn)), (so, .inl (d7, 12, .inl (fun _ => 0))), (gk, .inl (d10, 360, .inl fk)), (gi, .inl (d11, 360, .inl (fun _ => 0)))] → va_S A s.heap H locs → ∀ ls : Array Slot, lv_has ls 5 [(0, .ref hm), (1, .int 0), (2, .int 0), (3, .int (nI (10 * i))), (4, .int (nI i))] → W p l e ({ frames := 2, cells := 1, slots := 9, locals := 47 } : Room) s m (([.ref hm, .int 0] : List Value).toArray) below meth c H locs 0 0 (MQ below (va_Qi (fun (r : Int32) (u : Unit) => r = 0) (fun (u : Unit) (t : State) => va_P (dC, dI) vwCl [(hm, .inr (3, [.int th, .int 6, .ref wi, .ref co, .ref sl, .ref rn, .ref so, .ref bn, .ref sm, .ref ah])), (sm, .inr (2, [.int 0, .ref gr, .ref gt, .ref gw, .ref gk, .ref gi, .ref gp, .ref go, .ref gg, .ref hm])), (wi, .inl (d1, 6, .inl fw)), (co, .inl (d2, 6, .inl fc)), (bn, .inl (d5, 3, .inl (fun _ => 0))), (rn, .inl (d6, 12, .inl fn)), (so, .inl (d7, 12, .inl (fun _ => 0))), (gk, .inl (d10, 360, .inl fk)), (gi, .inl (d11, 360, .inl (fun _ => 0)))] t.heap ∧ va_K (dC, dI) vwCl [] t ∧ va_D A [(hm, .inr (3, [.int th, .int 6, .ref wi, .ref co, .ref sl, .ref rn, .ref so, .ref bn, .ref sm, .ref ah])), (sm, .inr (2, [.int 0, .ref gr, .ref gt, .ref gw, .ref gk, .ref gi, .ref gp, .ref go, .ref gg, .ref hm])), (wi, .inl (d1, 6, .inl fw)), (co, .inl (d2, 6, .inl fc)), (bn, .inl (d5, 3, .inl (fun _ => 0))), (rn, .inl (d6, 12, .inl fn)), (so, .inl (d7, 12, .inl (fun _ => 0))), (gk, .inl (d10, 360, .inl fk)), (gi, .inl (d11, 360, .inl (fun _ => 0)))] ∧ s.heap.size + 1 ≤ t.heap.size) A) (([.ref hm, .int 0] : List Value).toArray) s 1 9 A) (F0 m 7 ls []) from
    K7 _ 0 (by decide) (Nat.lt_succ_self _) _ _ hP hD hS _ (lv_sub hl [3, 4, 2, 1, 0] rfl)
  intro n
  induction n with
  | zero =>
    intro i hi hn
    exact absurd hn (Nat.not_lt_zero _)
  | succ n ih7 =>
    intro i hi hn7 H locs hP hD hS ls hl
    refine lv_iload hx hb dX3_counted_7 (lv_at hl 4 rfl) ?_
    refine lv_aload_n hx hb dX3_counted_9 rfl (lv_at hl 0 rfl) ?_
    refine va_get (D := (dC, dI)) (ci := 3) (v := .int 6) (C := RX3) (T := TX3) (N := 10) hx hb hts (by decide +kernel) hown hK hP 0 rfl rfl 1 (by decide) (hts (.fieldLink RX3 44 "ThatchRoofModel" "roofs" "I") (by decide +kernel)) (fun _ h9 => h9) rfl dX3_counted_10 ?_
    refine lv_icmp_ge (tgt := 46) hx hb dX3_counted_13 (by decide) (fun c1 => ?_) (fun c1 => ?_)
    · have nc1 : 6 ≤ i := (nI_leI (a := 6) (b := i) (by omega) (by omega)).mp c1
      have h9 : i = 6 := by omega
      rw [show nI (10 * i) = 60 from by rw [h9]; rfl] at hl
      refine lv_bipush (v := 9) hx hb dX3_counted_46 (by decide) ?_
      refine va_newa (atype := .int) (ty := .int) (N' := 9) (a0 := (9, .inl (fun _ => 0))) hx hb (hts (.arrayClass .int) (by decide +kernel)) rfl hK hP hD hS hA (fun _ => rfl) (by decide) (by decide) (by decide) (Nat.le_of_ble_eq_true rfl) (Nat.le_of_ble_eq_true rfl) dX3_counted_48 (fun q2 cA3 H hK hP hD hS => ?_)
      refine W.widen (k := 1) (n := 9) (Nat.le_of_ble_eq_true rfl) (Nat.le_of_ble_eq_true rfl) ?_
      have hK : va_K (dC, dI) vwCl [(d1, .int), (d2, .int), (d5, .int), (d6, .int), (d7, .int), (d10, .int), (d11, .int), (cA3, .int)] s := hK
      have hP : va_P (dC, dI) vwCl [(hm, .inr (3, [.int th, .int 6, .ref wi, .ref co, .ref sl, .ref rn, .ref so, .ref bn, .ref sm, .ref ah])), (sm, .inr (2, [.int 0, .ref gr, .ref gt, .ref gw, .ref gk, .ref gi, .ref gp, .ref go, .ref gg, .ref hm])), (wi, .inl (d1, 6, .inl fw)), (co, .inl (d2, 6, .inl fc)), (bn, .inl (d5, 3, .inl (fun _ => 0))), (rn, .inl (d6, 12, .inl fn)), (so, .inl (d7, 12, .inl (fun _ => 0))), (gk, .inl (d10, 360, .inl fk)), (gi, .inl (d11, 360, .inl (fun _ => 0))), (q2, .inl (cA3, 9, .inl (fun _ => 0)))] H := hP
      have hD : va_D A [(hm, .inr (3, [.int th, .int 6, .ref wi, .ref co, .ref sl, .ref rn, .ref so, .ref bn, .ref sm, .ref ah])), (sm, .inr (2, [.int 0, .ref gr, .ref gt, .ref gw, .ref gk, .ref gi, .ref gp, .ref go, .ref gg, .ref hm])), (wi, .inl (d1, 6, .inl fw)), (co, .inl (d2, 6, .inl fc)), (bn, .inl (d5, 3, .inl (fun _ => 0))), (rn, .inl (d6, 12, .inl fn)), (so, .inl (d7, 12, .inl (fun _ => 0))), (gk, .inl (d10, 360, .inl fk)), (gi, .inl (d11, 360, .inl (fun _ => 0))), (q2, .inl (cA3, 9, .inl (fun _ => 0)))] := hD
      refine lv_dup hx hb dX3_counted_50 rfl ?_
      refine lv_iconst (v := 0) hx hb dX3_counted_51 (by decide) ?_
      refine lv_aload_n hx hb dX3_counted_52 rfl (lv_at hl 0 rfl) ?_
      refine va_get (D := (dC, dI)) (ci := 3) (v := .ref sm) (C := RX3) (T := TX3) (N := 10) hx hb hts (by decide +kernel) hown hK hP 0 rfl rfl 8 (by decide) (hts (.fieldLink RX3 33 "ThatchRoofModel" "s" "LThatchRoofModel$State;") (by decide +kernel)) (fun _ h9 => h9) rfl dX3_counted_53 ?_
      refine va_getN (D := (dC, dI)) (ci := 2) (v := .int 0) (C := RX2) (T := TX2) (N := 10) hx hb hts (by decide +kernel) hown hK hP 1 rfl rfl 0 (by decide) (va_Nw.use rfl (zN_RX3_128 hZN)) (fun _ h9 => h9) rfl dX3_counted_56 ?_
      refine va_iast hx hb hK hP hD hS 9 7 rfl rfl (vp_in_nI (n := 0) (by decide) (by decide)) dX3_counted_59 (fun H locs hP hD hS => ?_)
      have hP : va_P (dC, dI) vwCl [(hm, .inr (3, [.int th, .int 6, .ref wi, .ref co, .ref sl, .ref rn, .ref so, .ref bn, .ref sm, .ref ah])), (sm, .inr (2, [.int 0, .ref gr, .ref gt, .ref gw, .ref gk, .ref gi, .ref gp, .ref go, .ref gg, .ref hm])), (wi, .inl (d1, 6, .inl fw)), (co, .inl (d2, 6, .inl fc)), (bn, .inl (d5, 3, .inl (fun _ => 0))), (rn, .inl (d6, 12, .inl fn)), (so, .inl (d7, 12, .inl (fun _ => 0))), (gk, .inl (d10, 360, .inl fk)), (gi, .inl (d11, 360, .inl (fun _ => 0))), (q2, .inl (cA3, 9, .inl (upd (fun _ => 0) 0 0)))] H := hP
      have hD : va_D A [(hm, .inr (3, [.int th, .int 6, .ref wi, .ref co, .ref sl, .ref rn, .ref so, .ref bn, .ref sm, .ref ah])), (sm, .inr (2, [.int 0, .ref gr, .ref gt, .ref gw, .ref gk, .ref gi, .ref gp, .ref go, .ref gg, .ref hm])), (wi, .inl (d1, 6, .inl fw)), (co, .inl (d2, 6, .inl fc)), (bn, .inl (d5, 3, .inl (fun _ => 0))), (rn, .inl (d6, 12, .inl fn)), (so, .inl (d7, 12, .inl (fun _ => 0))), (gk, .inl (d10, 360, .inl fk)), (gi, .inl (d11, 360, .inl (fun _ => 0))), (q2, .inl (cA3, 9, .inl (upd (fun _ => 0) 0 0)))] := hD
      refine lv_dup hx hb dX3_counted_60 rfl ?_
      refine lv_iconst (v := 1) hx hb dX3_counted_61 (by decide) ?_
      refine lv_aload_n hx hb dX3_counted_62 rfl (lv_at hl 0 rfl) ?_
      refine va_get (D := (dC, dI)) (ci := 3) (v := .int 6) (C := RX3) (T := TX3) (N := 10) hx hb hts (by decide +kernel) hown hK hP 0 rfl rfl 1 (by decide) (hts (.fieldLink RX3 44 "ThatchRoofModel" "roofs" "I") (by decide +kernel)) (fun _ h9 => h9) rfl dX3_counted_63 ?_
      refine va_iast hx hb hK hP hD hS 9 7 rfl rfl (vp_in_nI (n := 1) (by decide) (by decide)) dX3_counted_66 (fun H locs hP hD hS => ?_)
      have hP : va_P (dC, dI) vwCl [(hm, .inr (3, [.int th, .int 6, .ref wi, .ref co, .ref sl, .ref rn, .ref so, .ref bn, .ref sm, .ref ah])), (sm, .inr (2, [.int 0, .ref gr, .ref gt, .ref gw, .ref gk, .ref gi, .ref gp, .ref go, .ref gg, .ref hm])), (wi, .inl (d1, 6, .inl fw)), (co, .inl (d2, 6, .inl fc)), (bn, .inl (d5, 3, .inl (fun _ => 0))), (rn, .inl (d6, 12, .inl fn)), (so, .inl (d7, 12, .inl (fun _ => 0))), (gk, .inl (d10, 360, .inl fk)), (gi, .inl (d11, 360, .inl (fun _ => 0))), (q2, .inl (cA3, 9, .inl (upd (upd (fun _ => 0) 0 0) 1 6)))] H := hP
      have hD : va_D A [(hm, .inr (3, [.int th, .int 6, .ref wi, .ref co, .ref sl, .ref rn, .ref so, .ref bn, .ref sm, .ref ah])), (sm, .inr (2, [.int 0, .ref gr, .ref gt, .ref gw, .ref gk, .ref gi, .ref gp, .ref go, .ref gg, .ref hm])), (wi, .inl (d1, 6, .inl fw)), (co, .inl (d2, 6, .inl fc)), (bn, .inl (d5, 3, .inl (fun _ => 0))), (rn, .inl (d6, 12, .inl fn)), (so, .inl (d7, 12, .inl (fun _ => 0))), (gk, .inl (d10, 360, .inl fk)), (gi, .inl (d11, 360, .inl (fun _ => 0))), (q2, .inl (cA3, 9, .inl (upd (upd (fun _ => 0) 0 0) 1 6)))] := hD
      refine lv_dup hx hb dX3_counted_67 rfl ?_
      refine lv_iconst (v := 2) hx hb dX3_counted_68 (by decide) ?_
      refine lv_aload_n hx hb dX3_counted_69 rfl (lv_at hl 0 rfl) ?_
      refine va_get (D := (dC, dI)) (ci := 3) (v := .ref bn) (C := RX3) (T := TX3) (N := 10) hx hb hts (by decide +kernel) hown hK hP 0 rfl rfl 7 (by decide) (hts (.fieldLink RX3 25 "ThatchRoofModel" "barn" "[I") (by decide +kernel)) (fun _ h9 => h9) rfl dX3_counted_70 ?_
      refine lv_iconst (v := 0) hx hb dX3_counted_73 (by decide) ?_
      refine va_iald hx hb hK hP 4 2 rfl rfl (vp_in_nI (n := 0) (by decide) (by decide)) dX3_counted_74 ?_
      refine lv_topi (fun x4 ex4 => ?_)
      obtain rfl : x4 = 0 := ex4
      refine va_iast hx hb hK hP hD hS 9 7 rfl rfl (vp_in_nI (n := 2) (by decide) (by decide)) dX3_counted_75 (fun H locs hP hD hS => ?_)
      have hP : va_P (dC, dI) vwCl [(hm, .inr (3, [.int th, .int 6, .ref wi, .ref co, .ref sl, .ref rn, .ref so, .ref bn, .ref sm, .ref ah])), (sm, .inr (2, [.int 0, .ref gr, .ref gt, .ref gw, .ref gk, .ref gi, .ref gp, .ref go, .ref gg, .ref hm])), (wi, .inl (d1, 6, .inl fw)), (co, .inl (d2, 6, .inl fc)), (bn, .inl (d5, 3, .inl (fun _ => 0))), (rn, .inl (d6, 12, .inl fn)), (so, .inl (d7, 12, .inl (fun _ => 0))), (gk, .inl (d10, 360, .inl fk)), (gi, .inl (d11, 360, .inl (fun _ => 0))), (q2, .inl (cA3, 9, .inl (upd (upd (upd (fun _ => 0) 0 0) 1 6) 2 0)))] H := hP
      have hD : va_D A [(hm, .inr (3, [.int th, .int 6, .ref wi, .ref co, .ref sl, .ref rn, .ref so, .ref bn, .ref sm, .ref ah])), (sm, .inr (2, [.int 0, .ref gr, .ref gt, .ref gw, .ref gk, .ref gi, .ref gp, .ref go, .ref gg, .ref hm])), (wi, .inl (d1, 6, .inl fw)), (co, .inl (d2, 6, .inl fc)), (bn, .inl (d5, 3, .inl (fun _ => 0))), (rn, .inl (d6, 12, .inl fn)), (so, .inl (d7, 12, .inl (fun _ => 0))), (gk, .inl (d10, 360, .inl fk)), (gi, .inl (d11, 360, .inl (fun _ => 0))), (q2, .inl (cA3, 9, .inl (upd (upd (upd (fun _ => 0) 0 0) 1 6) 2 0)))] := hD
      refine lv_dup hx hb dX3_counted_76 rfl ?_
      refine lv_iconst (v := 3) hx hb dX3_counted_77 (by decide) ?_
      refine lv_aload_n hx hb dX3_counted_78 rfl (lv_at hl 0 rfl) ?_
      refine va_get (D := (dC, dI)) (ci := 3) (v := .ref bn) (C := RX3) (T := TX3) (N := 10) hx hb hts (by decide +kernel) hown hK hP 0 rfl rfl 7 (by decide) (hts (.fieldLink RX3 25 "ThatchRoofModel" "barn" "[I") (by decide +kernel)) (fun _ h9 => h9) rfl dX3_counted_79 ?_
      refine lv_iconst (v := 1) hx hb dX3_counted_82 (by decide) ?_
      refine va_iald hx hb hK hP 4 2 rfl rfl (vp_in_nI (n := 1) (by decide) (by decide)) dX3_counted_83 ?_
      refine lv_topi (fun x5 ex5 => ?_)
      obtain rfl : x5 = 0 := ex5
      refine va_iast hx hb hK hP hD hS 9 7 rfl rfl (vp_in_nI (n := 3) (by decide) (by decide)) dX3_counted_84 (fun H locs hP hD hS => ?_)
      have hP : va_P (dC, dI) vwCl [(hm, .inr (3, [.int th, .int 6, .ref wi, .ref co, .ref sl, .ref rn, .ref so, .ref bn, .ref sm, .ref ah])), (sm, .inr (2, [.int 0, .ref gr, .ref gt, .ref gw, .ref gk, .ref gi, .ref gp, .ref go, .ref gg, .ref hm])), (wi, .inl (d1, 6, .inl fw)), (co, .inl (d2, 6, .inl fc)), (bn, .inl (d5, 3, .inl (fun _ => 0))), (rn, .inl (d6, 12, .inl fn)), (so, .inl (d7, 12, .inl (fun _ => 0))), (gk, .inl (d10, 360, .inl fk)), (gi, .inl (d11, 360, .inl (fun _ => 0))), (q2, .inl (cA3, 9, .inl (upd (upd (upd (upd (fun _ => 0) 0 0) 1 6) 2 0) 3 0)))] H := hP
      have hD : va_D A [(hm, .inr (3, [.int th, .int 6, .ref wi, .ref co, .ref sl, .ref rn, .ref so, .ref bn, .ref sm, .ref ah])), (sm, .inr (2, [.int 0, .ref gr, .ref gt, .ref gw, .ref gk, .ref gi, .ref gp, .ref go, .ref gg, .ref hm])), (wi, .inl (d1, 6, .inl fw)), (co, .inl (d2, 6, .inl fc)), (bn, .inl (d5, 3, .inl (fun _ => 0))), (rn, .inl (d6, 12, .inl fn)), (so, .inl (d7, 12, .inl (fun _ => 0))), (gk, .inl (d10, 360, .inl fk)), (gi, .inl (d11, 360, .inl (fun _ => 0))), (q2, .inl (cA3, 9, .inl (upd (upd (upd (upd (fun _ => 0) 0 0) 1 6) 2 0) 3 0)))] := hD
      refine lv_dup hx hb dX3_counted_85 rfl ?_
      refine lv_iconst (v := 4) hx hb dX3_counted_86 (by decide) ?_
      refine lv_aload_n hx hb dX3_counted_87 rfl (lv_at hl 0 rfl) ?_
      refine va_get (D := (dC, dI)) (ci := 3) (v := .ref bn) (C := RX3) (T := TX3) (N := 10) hx hb hts (by decide +kernel) hown hK hP 0 rfl rfl 7 (by decide) (hts (.fieldLink RX3 25 "ThatchRoofModel" "barn" "[I") (by decide +kernel)) (fun _ h9 => h9) rfl dX3_counted_88 ?_
      refine lv_iconst (v := 2) hx hb dX3_counted_91 (by decide) ?_
      refine va_iald hx hb hK hP 4 2 rfl rfl (vp_in_nI (n := 2) (by decide) (by decide)) dX3_counted_92 ?_
      refine lv_topi (fun x6 ex6 => ?_)
      obtain rfl : x6 = 0 := ex6
      refine va_iast hx hb hK hP hD hS 9 7 rfl rfl (vp_in_nI (n := 4) (by decide) (by decide)) dX3_counted_93 (fun H locs hP hD hS => ?_)
      have hP : va_P (dC, dI) vwCl [(hm, .inr (3, [.int th, .int 6, .ref wi, .ref co, .ref sl, .ref rn, .ref so, .ref bn, .ref sm, .ref ah])), (sm, .inr (2, [.int 0, .ref gr, .ref gt, .ref gw, .ref gk, .ref gi, .ref gp, .ref go, .ref gg, .ref hm])), (wi, .inl (d1, 6, .inl fw)), (co, .inl (d2, 6, .inl fc)), (bn, .inl (d5, 3, .inl (fun _ => 0))), (rn, .inl (d6, 12, .inl fn)), (so, .inl (d7, 12, .inl (fun _ => 0))), (gk, .inl (d10, 360, .inl fk)), (gi, .inl (d11, 360, .inl (fun _ => 0))), (q2, .inl (cA3, 9, .inl (upd (upd (upd (upd (upd (fun _ => 0) 0 0) 1 6) 2 0) 3 0) 4 0)))] H := hP
      have hD : va_D A [(hm, .inr (3, [.int th, .int 6, .ref wi, .ref co, .ref sl, .ref rn, .ref so, .ref bn, .ref sm, .ref ah])), (sm, .inr (2, [.int 0, .ref gr, .ref gt, .ref gw, .ref gk, .ref gi, .ref gp, .ref go, .ref gg, .ref hm])), (wi, .inl (d1, 6, .inl fw)), (co, .inl (d2, 6, .inl fc)), (bn, .inl (d5, 3, .inl (fun _ => 0))), (rn, .inl (d6, 12, .inl fn)), (so, .inl (d7, 12, .inl (fun _ => 0))), (gk, .inl (d10, 360, .inl fk)), (gi, .inl (d11, 360, .inl (fun _ => 0))), (q2, .inl (cA3, 9, .inl (upd (upd (upd (upd (upd (fun _ => 0) 0 0) 1 6) 2 0) 3 0) 4 0)))] := hD
      refine lv_dup hx hb dX3_counted_94 rfl ?_
      refine lv_iconst (v := 5) hx hb dX3_counted_95 (by decide) ?_
      refine lv_iload_n hx hb dX3_counted_96 rfl (lv_at hl 2 rfl) ?_
      refine va_iast hx hb hK hP hD hS 9 7 rfl rfl (vp_in_nI (n := 5) (by decide) (by decide)) dX3_counted_97 (fun H locs hP hD hS => ?_)
      have hP : va_P (dC, dI) vwCl [(hm, .inr (3, [.int th, .int 6, .ref wi, .ref co, .ref sl, .ref rn, .ref so, .ref bn, .ref sm, .ref ah])), (sm, .inr (2, [.int 0, .ref gr, .ref gt, .ref gw, .ref gk, .ref gi, .ref gp, .ref go, .ref gg, .ref hm])), (wi, .inl (d1, 6, .inl fw)), (co, .inl (d2, 6, .inl fc)), (bn, .inl (d5, 3, .inl (fun _ => 0))), (rn, .inl (d6, 12, .inl fn)), (so, .inl (d7, 12, .inl (fun _ => 0))), (gk, .inl (d10, 360, .inl fk)), (gi, .inl (d11, 360, .inl (fun _ => 0))), (q2, .inl (cA3, 9, .inl (upd (upd (upd (upd (upd (upd (fun _ => 0) 0 0) 1 6) 2 0) 3 0) 4 0) 5 0)))] H := hP
      have hD : va_D A [(hm, .inr (3, [.int th, .int 6, .ref wi, .ref co, .ref sl, .ref rn, .ref so, .ref bn, .ref sm, .ref ah])), (sm, .inr (2, [.int 0, .ref gr, .ref gt, .ref gw, .ref gk, .ref gi, .ref gp, .ref go, .ref gg, .ref hm])), (wi, .inl (d1, 6, .inl fw)), (co, .inl (d2, 6, .inl fc)), (bn, .inl (d5, 3, .inl (fun _ => 0))), (rn, .inl (d6, 12, .inl fn)), (so, .inl (d7, 12, .inl (fun _ => 0))), (gk, .inl (d10, 360, .inl fk)), (gi, .inl (d11, 360, .inl (fun _ => 0))), (q2, .inl (cA3, 9, .inl (upd (upd (upd (upd (upd (upd (fun _ => 0) 0 0) 1 6) 2 0) 3 0) 4 0) 5 0)))] := hD
      refine lv_dup hx hb dX3_counted_98 rfl ?_
      refine lv_bipush (v := 6) hx hb dX3_counted_99 (by decide) ?_
      refine lv_iload_n hx hb dX3_counted_101 rfl (lv_at hl 3 rfl) ?_
      refine va_iast hx hb hK hP hD hS 9 7 rfl rfl (vp_in_nI (n := 6) (by decide) (by decide)) dX3_counted_102 (fun H locs hP hD hS => ?_)
      have hP : va_P (dC, dI) vwCl [(hm, .inr (3, [.int th, .int 6, .ref wi, .ref co, .ref sl, .ref rn, .ref so, .ref bn, .ref sm, .ref ah])), (sm, .inr (2, [.int 0, .ref gr, .ref gt, .ref gw, .ref gk, .ref gi, .ref gp, .ref go, .ref gg, .ref hm])), (wi, .inl (d1, 6, .inl fw)), (co, .inl (d2, 6, .inl fc)), (bn, .inl (d5, 3, .inl (fun _ => 0))), (rn, .inl (d6, 12, .inl fn)), (so, .inl (d7, 12, .inl (fun _ => 0))), (gk, .inl (d10, 360, .inl fk)), (gi, .inl (d11, 360, .inl (fun _ => 0))), (q2, .inl (cA3, 9, .inl (upd (upd (upd (upd (upd (upd (upd (fun _ => 0) 0 0) 1 6) 2 0) 3 0) 4 0) 5 0) 6 60)))] H := hP
      have hD : va_D A [(hm, .inr (3, [.int th, .int 6, .ref wi, .ref co, .ref sl, .ref rn, .ref so, .ref bn, .ref sm, .ref ah])), (sm, .inr (2, [.int 0, .ref gr, .ref gt, .ref gw, .ref gk, .ref gi, .ref gp, .ref go, .ref gg, .ref hm])), (wi, .inl (d1, 6, .inl fw)), (co, .inl (d2, 6, .inl fc)), (bn, .inl (d5, 3, .inl (fun _ => 0))), (rn, .inl (d6, 12, .inl fn)), (so, .inl (d7, 12, .inl (fun _ => 0))), (gk, .inl (d10, 360, .inl fk)), (gi, .inl (d11, 360, .inl (fun _ => 0))), (q2, .inl (cA3, 9, .inl (upd (upd (upd (upd (upd (upd (upd (fun _ => 0) 0 0) 1 6) 2 0) 3 0) 4 0) 5 0) 6 60)))] := hD
      refine lv_dup hx hb dX3_counted_103 rfl ?_
      refine lv_bipush (v := 7) hx hb dX3_counted_104 (by decide) ?_
      refine lv_aload_n hx hb dX3_counted_106 rfl (lv_at hl 0 rfl) ?_
      refine va_get (D := (dC, dI)) (ci := 3) (v := .ref rn) (C := RX3) (T := TX3) (N := 10) hx hb hts (by decide +kernel) hown hK hP 0 rfl rfl 5 (by decide) (hts (.fieldLink RX3 19 "ThatchRoofModel" "rain" "[I") (by decide +kernel)) (fun _ h9 => h9) rfl dX3_counted_107 ?_
      refine lv_aload_n hx hb dX3_counted_110 rfl (lv_at hl 0 rfl) ?_
      refine va_get (D := (dC, dI)) (ci := 3) (v := .ref sm) (C := RX3) (T := TX3) (N := 10) hx hb hts (by decide +kernel) hown hK hP 0 rfl rfl 8 (by decide) (hts (.fieldLink RX3 33 "ThatchRoofModel" "s" "LThatchRoofModel$State;") (by decide +kernel)) (fun _ h9 => h9) rfl dX3_counted_111 ?_
      refine va_getN (D := (dC, dI)) (ci := 2) (v := .int 0) (C := RX2) (T := TX2) (N := 10) hx hb hts (by decide +kernel) hown hK hP 1 rfl rfl 0 (by decide) (va_Nw.use rfl (zN_RX3_128 hZN)) (fun _ h9 => h9) rfl dX3_counted_114 ?_
      refine lv_bipush (v := 12) hx hb dX3_counted_117 (by decide) ?_
      refine lv_irem hx hb dX3_counted_119 (by decide) ?_
      refine W.eq (g2 := F0 m 120 ls [.int 0, .ref rn, .int 7, .ref q2, .ref q2]) rfl ?_
      refine va_iald hx hb hK hP 5 3 rfl rfl (vp_in_nI (n := 0) (by decide) (by decide)) dX3_counted_120 ?_
      refine lv_topi (fun x7 ex7 => ?_)
      obtain rfl : x7 = 4 := ex7.trans (hn 0 (by decide))
      refine va_iast hx hb hK hP hD hS 9 7 rfl rfl (vp_in_nI (n := 7) (by decide) (by decide)) dX3_counted_121 (fun H locs hP hD hS => ?_)
      have hP : va_P (dC, dI) vwCl [(hm, .inr (3, [.int th, .int 6, .ref wi, .ref co, .ref sl, .ref rn, .ref so, .ref bn, .ref sm, .ref ah])), (sm, .inr (2, [.int 0, .ref gr, .ref gt, .ref gw, .ref gk, .ref gi, .ref gp, .ref go, .ref gg, .ref hm])), (wi, .inl (d1, 6, .inl fw)), (co, .inl (d2, 6, .inl fc)), (bn, .inl (d5, 3, .inl (fun _ => 0))), (rn, .inl (d6, 12, .inl fn)), (so, .inl (d7, 12, .inl (fun _ => 0))), (gk, .inl (d10, 360, .inl fk)), (gi, .inl (d11, 360, .inl (fun _ => 0))), (q2, .inl (cA3, 9, .inl (upd (upd (upd (upd (upd (upd (upd (upd (fun _ => 0) 0 0) 1 6) 2 0) 3 0) 4 0) 5 0) 6 60) 7 4)))] H := hP
      have hD : va_D A [(hm, .inr (3, [.int th, .int 6, .ref wi, .ref co, .ref sl, .ref rn, .ref so, .ref bn, .ref sm, .ref ah])), (sm, .inr (2, [.int 0, .ref gr, .ref gt, .ref gw, .ref gk, .ref gi, .ref gp, .ref go, .ref gg, .ref hm])), (wi, .inl (d1, 6, .inl fw)), (co, .inl (d2, 6, .inl fc)), (bn, .inl (d5, 3, .inl (fun _ => 0))), (rn, .inl (d6, 12, .inl fn)), (so, .inl (d7, 12, .inl (fun _ => 0))), (gk, .inl (d10, 360, .inl fk)), (gi, .inl (d11, 360, .inl (fun _ => 0))), (q2, .inl (cA3, 9, .inl (upd (upd (upd (upd (upd (upd (upd (upd (fun _ => 0) 0 0) 1 6) 2 0) 3 0) 4 0) 5 0) 6 60) 7 4)))] := hD
      refine lv_dup hx hb dX3_counted_122 rfl ?_
      refine lv_bipush (v := 8) hx hb dX3_counted_123 (by decide) ?_
      refine lv_aload_n hx hb dX3_counted_125 rfl (lv_at hl 0 rfl) ?_
      refine va_get (D := (dC, dI)) (ci := 3) (v := .ref so) (C := RX3) (T := TX3) (N := 10) hx hb hts (by decide +kernel) hown hK hP 0 rfl rfl 6 (by decide) (hts (.fieldLink RX3 22 "ThatchRoofModel" "storm" "[I") (by decide +kernel)) (fun _ h9 => h9) rfl dX3_counted_126 ?_
      refine lv_aload_n hx hb dX3_counted_129 rfl (lv_at hl 0 rfl) ?_
      refine va_get (D := (dC, dI)) (ci := 3) (v := .ref sm) (C := RX3) (T := TX3) (N := 10) hx hb hts (by decide +kernel) hown hK hP 0 rfl rfl 8 (by decide) (hts (.fieldLink RX3 33 "ThatchRoofModel" "s" "LThatchRoofModel$State;") (by decide +kernel)) (fun _ h9 => h9) rfl dX3_counted_130 ?_
      refine va_getN (D := (dC, dI)) (ci := 2) (v := .int 0) (C := RX2) (T := TX2) (N := 10) hx hb hts (by decide +kernel) hown hK hP 1 rfl rfl 0 (by decide) (va_Nw.use rfl (zN_RX3_128 hZN)) (fun _ h9 => h9) rfl dX3_counted_133 ?_
      refine lv_bipush (v := 12) hx hb dX3_counted_136 (by decide) ?_
      refine lv_irem hx hb dX3_counted_138 (by decide) ?_
      refine W.eq (g2 := F0 m 139 ls [.int 0, .ref so, .int 8, .ref q2, .ref q2]) rfl ?_
      refine va_iald hx hb hK hP 6 4 rfl rfl (vp_in_nI (n := 0) (by decide) (by decide)) dX3_counted_139 ?_
      refine lv_topi (fun x8 ex8 => ?_)
      obtain rfl : x8 = 0 := ex8
      refine va_iast hx hb hK hP hD hS 9 7 rfl rfl (vp_in_nI (n := 8) (by decide) (by decide)) dX3_counted_140 (fun H locs hP hD hS => ?_)
      have hP : va_P (dC, dI) vwCl [(hm, .inr (3, [.int th, .int 6, .ref wi, .ref co, .ref sl, .ref rn, .ref so, .ref bn, .ref sm, .ref ah])), (sm, .inr (2, [.int 0, .ref gr, .ref gt, .ref gw, .ref gk, .ref gi, .ref gp, .ref go, .ref gg, .ref hm])), (wi, .inl (d1, 6, .inl fw)), (co, .inl (d2, 6, .inl fc)), (bn, .inl (d5, 3, .inl (fun _ => 0))), (rn, .inl (d6, 12, .inl fn)), (so, .inl (d7, 12, .inl (fun _ => 0))), (gk, .inl (d10, 360, .inl fk)), (gi, .inl (d11, 360, .inl (fun _ => 0))), (q2, .inl (cA3, 9, .inl (upd (upd (upd (upd (upd (upd (upd (upd (upd (fun _ => 0) 0 0) 1 6) 2 0) 3 0) 4 0) 5 0) 6 60) 7 4) 8 0)))] H := hP
      have hD : va_D A [(hm, .inr (3, [.int th, .int 6, .ref wi, .ref co, .ref sl, .ref rn, .ref so, .ref bn, .ref sm, .ref ah])), (sm, .inr (2, [.int 0, .ref gr, .ref gt, .ref gw, .ref gk, .ref gi, .ref gp, .ref go, .ref gg, .ref hm])), (wi, .inl (d1, 6, .inl fw)), (co, .inl (d2, 6, .inl fc)), (bn, .inl (d5, 3, .inl (fun _ => 0))), (rn, .inl (d6, 12, .inl fn)), (so, .inl (d7, 12, .inl (fun _ => 0))), (gk, .inl (d10, 360, .inl fk)), (gi, .inl (d11, 360, .inl (fun _ => 0))), (q2, .inl (cA3, 9, .inl (upd (upd (upd (upd (upd (upd (upd (upd (upd (fun _ => 0) 0 0) 1 6) 2 0) 3 0) 4 0) 5 0) 6 60) 7 4) 8 0)))] := hD
      refine lv_astore (lv' := [(4, .ref q2), (0, .ref hm), (1, .int 0), (2, .int 0), (3, .int 60)]) hx hb dX3_counted_141 hl (by decide) rfl (fun ls hl => ?_)
      refine lv_aload hx hb dX3_counted_143 (lv_at hl 0 rfl) ?_
      refine lv_iload_n hx hb dX3_counted_145 rfl (lv_at hl 2 rfl) ?_
      refine va_iald hx hb hK hP 9 7 rfl rfl (vp_in_nI (n := 0) (by decide) (by decide)) dX3_counted_146 ?_
      refine lv_topi (fun x9 ex9 => ?_)
      obtain rfl : x9 = 0 := ex9
      have hP9 := hP.sub (ws' := [(hm, .inr (3, [.int th, .int 6, .ref wi, .ref co, .ref sl, .ref rn, .ref so, .ref bn, .ref sm, .ref ah])), (sm, .inr (2, [.int 0, .ref gr, .ref gt, .ref gw, .ref gk, .ref gi, .ref gp, .ref go, .ref gg, .ref hm])), (wi, .inl (d1, 6, .inl fw)), (co, .inl (d2, 6, .inl fc)), (bn, .inl (d5, 3, .inl (fun _ => 0))), (rn, .inl (d6, 12, .inl fn)), (so, .inl (d7, 12, .inl (fun _ => 0))), (gk, .inl (d10, 360, .inl fk)), (gi, .inl (d11, 360, .inl (fun _ => 0)))]) [0, 1, 2, 3, 4, 5, 6, 7, 8] rfl
      have hD9 := hD.sub (ws' := [(hm, .inr (3, [.int th, .int 6, .ref wi, .ref co, .ref sl, .ref rn, .ref so, .ref bn, .ref sm, .ref ah])), (sm, .inr (2, [.int 0, .ref gr, .ref gt, .ref gw, .ref gk, .ref gi, .ref gp, .ref go, .ref gg, .ref hm])), (wi, .inl (d1, 6, .inl fw)), (co, .inl (d2, 6, .inl fc)), (bn, .inl (d5, 3, .inl (fun _ => 0))), (rn, .inl (d6, 12, .inl fn)), (so, .inl (d7, 12, .inl (fun _ => 0))), (gk, .inl (d10, 360, .inl fk)), (gi, .inl (d11, 360, .inl (fun _ => 0)))]) [0, 1, 2, 3, 4, 5, 6, 7, 8] (by decide) rfl
      have hK9 := hK.sub (tys' := []) [] rfl
      refine W.widen (k := 1) (n := 9) (Nat.le_of_ble_eq_true rfl) (Nat.le_of_ble_eq_true rfl) ?_
      have hZ := zz_one hAe hD hP 9 [0, 1, 2, 3, 4, 5, 6, 7, 8] rfl rfl (by decide)
      exact W.iret (v := 0) hx hb hr (fun t ht hW => ⟨⟨0, (), rfl, by (first | rfl | assumption | decide | (simp_all; done) | grind), ⟨by rw [ht]; exact hP9, va_K.moved hW.alike hK9, hD9, by rw [ht]; omega⟩⟩, hS.F ht⟩) hS.2.2 dX3_counted_147
    · have nc1 : i < 6 := Nat.lt_of_not_le (fun q => c1 ((nI_leI (a := 6) (b := i) (by omega) (by omega)).mpr q))
      refine lv_iload_n hx hb dX3_counted_16 rfl (lv_at hl 2 rfl) ?_
      refine lv_aload_n hx hb dX3_counted_17 rfl (lv_at hl 0 rfl) ?_
      refine va_get (D := (dC, dI)) (ci := 3) (v := .ref sm) (C := RX3) (T := TX3) (N := 10) hx hb hts (by decide +kernel) hown hK hP 0 rfl rfl 8 (by decide) (hts (.fieldLink RX3 33 "ThatchRoofModel" "s" "LThatchRoofModel$State;") (by decide +kernel)) (fun _ h9 => h9) rfl dX3_counted_18 ?_
      refine lv_iload hx hb dX3_counted_21 (lv_at hl 4 rfl) ?_
      have hPc := hP.sub (ws' := [(sm, .inr (2, [.int 0, .ref gr, .ref gt, .ref gw, .ref gk, .ref gi, .ref gp, .ref go, .ref gg, .ref hm])), (gk, .inl (d10, 360, .inl fk))]) [1, 7] rfl
      have hKc := hK.sub (tys' := [(d10, .int)]) [5] rfl
      refine vp_callSi (va_runV (As := [.int (nI i)]) (rest := [.int 0]) ⟨hx, hb, hml, hown, hts⟩ (r2_yealms l dC dI sm hm gr gt gw gk gi gp go gg d10 fk i (by first | assumption | decide | omega) (by first | assumption | decide | omega)) (cwV 1 hts gX3_counted_X2_yealms rfl rfl rfl (by decide +kernel) ⟨Nat.le_of_ble_eq_true rfl, Nat.le_of_ble_eq_true rfl⟩) ⟨fun a U g mk q => by obtain ⟨q0, qP, qK⟩ := q; exact ⟨q0, qP, va_K.moved (u := U) (U := U.calling g mk a) (Vm.Alike.refl U.vm) qK⟩, va_recv hKc hPc (ci := 2) (q0 := 0) rfl rfl, fun U hU hW => ⟨rfl, by rw [hU]; exact hPc, va_K.moved hW.alike hKc⟩⟩ rfl rfl hl.1 rfl (lv_room (Nat.le_of_ble_eq_true rfl)) dX3_counted_23 ⟨Nat.le_of_ble_eq_true rfl, Nat.le_of_ble_eq_true rfl⟩).run (fun r10 hr10 => ?_)
      obtain rfl := hr10
      refine lv_iadd hx hb dX3_counted_26 ?_
      refine W.eq (g2 := F0 m 27 ls [.int 0]) rfl ?_
      refine lv_istore_n (lv' := [(2, .int 0), (0, .ref hm), (1, .int 0), (3, .int (nI (10 * i))), (4, .int (nI i))]) hx hb dX3_counted_27 rfl hl (by decide) rfl (fun ls hl => ?_)
      refine lv_iload_n hx hb dX3_counted_28 rfl (lv_at hl 3 rfl) ?_
      refine lv_aload_n hx hb dX3_counted_29 rfl (lv_at hl 1 rfl) ?_
      refine va_get (D := (dC, dI)) (ci := 3) (v := .ref sm) (C := RX3) (T := TX3) (N := 10) hx hb hts (by decide +kernel) hown hK hP 0 rfl rfl 8 (by decide) (hts (.fieldLink RX3 33 "ThatchRoofModel" "s" "LThatchRoofModel$State;") (by decide +kernel)) (fun _ h9 => h9) rfl dX3_counted_30 ?_
      refine lv_iload hx hb dX3_counted_33 (lv_at hl 4 rfl) ?_
      have hPc := hP.sub (ws' := [(sm, .inr (2, [.int 0, .ref gr, .ref gt, .ref gw, .ref gk, .ref gi, .ref gp, .ref go, .ref gg, .ref hm])), (hm, .inr (3, [.int th, .int 6, .ref wi, .ref co, .ref sl, .ref rn, .ref so, .ref bn, .ref sm, .ref ah])), (wi, .inl (d1, 6, .inl fw)), (co, .inl (d2, 6, .inl fc)), (gk, .inl (d10, 360, .inl fk)), (gi, .inl (d11, 360, .inl (fun _ => 0)))]) [1, 0, 2, 3, 7, 8] rfl
      have hKc := hK.sub (tys' := [(d1, .int), (d2, .int), (d10, .int), (d11, .int)]) [0, 1, 5, 6] rfl
      refine vp_callSi (va_runV (As := [.int (nI i)]) (rest := [.int (nI (10 * i))]) ⟨hx, hb, hml, hown, hts⟩ (r2_leaks l dC dI hm wi co sl rn so bn sm ah th gr gt gw gk gi gp go gg d1 d2 d10 d11 fw fc fk i (by first | assumption | decide | omega) (by first | assumption | decide | omega) (by first | assumption | decide | omega) (by first | assumption | decide | omega)) (cwV 1 hts gX3_counted_X2_leaks rfl rfl rfl (by decide +kernel) ⟨Nat.le_of_ble_eq_true rfl, Nat.le_of_ble_eq_true rfl⟩) ⟨fun a U g mk q => by obtain ⟨q0, qP, qK, qN⟩ := q; exact ⟨q0, qP, va_K.moved (u := U) (U := U.calling g mk a) (Vm.Alike.refl U.vm) qK, zNs.calling qN⟩, va_recv hKc hPc (ci := 2) (q0 := 0) rfl rfl, fun U hU hW => ⟨rfl, by rw [hU]; exact hPc, va_K.moved hW.alike hKc, zNs.warm hW hZN⟩⟩ rfl rfl hl.1 rfl (lv_room (Nat.le_of_ble_eq_true rfl)) dX3_counted_35 ⟨Nat.le_of_ble_eq_true rfl, Nat.le_of_ble_eq_true rfl⟩).run (fun r11 hr11 => ?_)
      obtain rfl := hr11
      refine lv_iadd hx hb dX3_counted_38 ?_
      refine lv_topi (fun x12 ex12 => ?_)
      obtain rfl : x12 = nI ((10 * i) + 10) := ex12.trans (nI_add (10 * i) 10)
      refine lv_istore_n (lv' := [(3, .int (nI ((10 * i) + 10))), (2, .int 0), (0, .ref hm), (1, .int 0), (4, .int (nI i))]) hx hb dX3_counted_39 rfl hl (by decide) rfl (fun ls hl => ?_)
      refine lv_iinc (v := nI (i + 1)) (lv' := [(4, .int (nI (i + 1))), (3, .int (nI ((10 * i) + 10))), (2, .int 0), (0, .ref hm), (1, .int 0)]) hx hb dX3_counted_40 hl (k := 4) rfl (by exact nI_1 i) (by decide) rfl (fun ls hl => ?_)
      refine lv_goto (tgt := 7) hx hb dX3_counted_43 (by decide) ?_
      exact ih7 (i + 1) (by omega) (by omega) _ _ (hP.sub [0, 1, 2, 3, 4, 5, 6, 7, 8] rfl) (hD.sub [0, 1, 2, 3, 4, 5, 6, 7, 8] (by decide) rfl) hS _ (lv_sub hl [3, 4, 2, 1, 0] rfl)

set_option maxHeartbeats 4000000 in
set_option maxRecDepth 100000 in
theorem r3_counted1 (l : Launch) (dC : Nat → ClassId) (dI : Nat → Nat → Nat) (sz : Nat) (hm : Nat) (wi : Nat) (co : Nat) (sl : Nat) (rn : Nat) (so : Nat) (bn : Nat) (sm : Nat) (ah : Nat) (th : Int32) (gr : Nat) (gt : Nat) (gw : Nat) (gk : Nat) (gi : Nat) (gp : Nat) (go : Nat) (gg : Nat) (d1 : ClassId) (d2 : ClassId) (d5 : ClassId) (d6 : ClassId) (d7 : ClassId) (d10 : ClassId) (d11 : ClassId) (fw : Nat → Int32) (fc : Nat → Int32) (fn : Nat → Int32) (fk : Nat → Int32) (hk : ∀ j : Nat, j < 360 → fk j = -1) (hw : ∀ j : Nat, j < 6 → fw j = 10) (hc : ∀ j : Nat, j < 6 → fc j = 6) (hn : ∀ j : Nat, j < 12 → fn j = 4) : Met l yX3_counted wsX3_counted ({ frames := 2, cells := 1, slots := 9, locals := 47 }) (va_Pc [.ref hm, .int 1] (fun U => U.heap.size = sz ∧ va_P (dC, dI) vwCl [(hm, .inr (3, [.int th, .int 6, .ref wi, .ref co, .ref sl, .ref rn, .ref so, .ref bn, .ref sm, .ref ah])), (sm, .inr (2, [.int 0, .ref gr, .ref gt, .ref gw, .ref gk, .ref gi, .ref gp, .ref go, .ref gg, .ref hm])), (wi, .inl (d1, 6, .inl fw)), (co, .inl (d2, 6, .inl fc)), (bn, .inl (d5, 3, .inl (fun _ => 0))), (rn, .inl (d6, 12, .inl fn)), (so, .inl (d7, 12, .inl (fun _ => 0))), (gk, .inl (d10, 360, .inl fk)), (gi, .inl (d11, 360, .inl (fun _ => 0)))] U.heap ∧ va_K (dC, dI) vwCl [(d1, .int), (d2, .int), (d5, .int), (d6, .int), (d7, .int), (d10, .int), (d11, .int)] U ∧ va_D (fun _ => True) [(hm, .inr (3, [.int th, .int 6, .ref wi, .ref co, .ref sl, .ref rn, .ref so, .ref bn, .ref sm, .ref ah])), (sm, .inr (2, [.int 0, .ref gr, .ref gt, .ref gw, .ref gk, .ref gi, .ref gp, .ref go, .ref gg, .ref hm])), (wi, .inl (d1, 6, .inl fw)), (co, .inl (d2, 6, .inl fc)), (bn, .inl (d5, 3, .inl (fun _ => 0))), (rn, .inl (d6, 12, .inl fn)), (so, .inl (d7, 12, .inl (fun _ => 0))), (gk, .inl (d10, 360, .inl fk)), (gi, .inl (d11, 360, .inl (fun _ => 0)))] ∧ zNs U)) (va_Qi (fun (r : Int32) (u : Unit) => r = 6) (fun (u : Unit) (t : State) => va_P (dC, dI) vwCl [(hm, .inr (3, [.int th, .int 6, .ref wi, .ref co, .ref sl, .ref rn, .ref so, .ref bn, .ref sm, .ref ah])), (sm, .inr (2, [.int 0, .ref gr, .ref gt, .ref gw, .ref gk, .ref gi, .ref gp, .ref go, .ref gg, .ref hm])), (wi, .inl (d1, 6, .inl fw)), (co, .inl (d2, 6, .inl fc)), (bn, .inl (d5, 3, .inl (fun _ => 0))), (rn, .inl (d6, 12, .inl fn)), (so, .inl (d7, 12, .inl (fun _ => 0))), (gk, .inl (d10, 360, .inl fk)), (gi, .inl (d11, 360, .inl (fun _ => 0)))] t.heap ∧ va_K (dC, dI) vwCl [] t ∧ va_D (va_A [(hm, .inr (3, [.int th, .int 6, .ref wi, .ref co, .ref sl, .ref rn, .ref so, .ref bn, .ref sm, .ref ah])), (sm, .inr (2, [.int 0, .ref gr, .ref gt, .ref gw, .ref gk, .ref gi, .ref gp, .ref go, .ref gg, .ref hm])), (wi, .inl (d1, 6, .inl fw)), (co, .inl (d2, 6, .inl fc)), (bn, .inl (d5, 3, .inl (fun _ => 0))), (rn, .inl (d6, 12, .inl fn)), (so, .inl (d7, 12, .inl (fun _ => 0))), (gk, .inl (d10, 360, .inl fk)), (gi, .inl (d11, 360, .inl (fun _ => 0)))] sz) [(hm, .inr (3, [.int th, .int 6, .ref wi, .ref co, .ref sl, .ref rn, .ref so, .ref bn, .ref sm, .ref ah])), (sm, .inr (2, [.int 0, .ref gr, .ref gt, .ref gw, .ref gk, .ref gi, .ref gp, .ref go, .ref gg, .ref hm])), (wi, .inl (d1, 6, .inl fw)), (co, .inl (d2, 6, .inl fc)), (bn, .inl (d5, 3, .inl (fun _ => 0))), (rn, .inl (d6, 12, .inl fn)), (so, .inl (d7, 12, .inl (fun _ => 0))), (gk, .inl (d10, 360, .inl fk)), (gi, .inl (d11, 360, .inl (fun _ => 0)))] ∧ sz + 1 ≤ t.heap.size) (va_A [(hm, .inr (3, [.int th, .int 6, .ref wi, .ref co, .ref sl, .ref rn, .ref so, .ref bn, .ref sm, .ref ah])), (sm, .inr (2, [.int 0, .ref gr, .ref gt, .ref gw, .ref gk, .ref gi, .ref gp, .ref go, .ref gg, .ref hm])), (wi, .inl (d1, 6, .inl fw)), (co, .inl (d2, 6, .inl fc)), (bn, .inl (d5, 3, .inl (fun _ => 0))), (rn, .inl (d6, 12, .inl fn)), (so, .inl (d7, 12, .inl (fun _ => 0))), (gk, .inl (d10, 360, .inl fk)), (gi, .inl (d11, 360, .inl (fun _ => 0)))] sz)) 1 9 (va_A [(hm, .inr (3, [.int th, .int 6, .ref wi, .ref co, .ref sl, .ref rn, .ref so, .ref bn, .ref sm, .ref ah])), (sm, .inr (2, [.int 0, .ref gr, .ref gt, .ref gw, .ref gk, .ref gi, .ref gp, .ref go, .ref gg, .ref hm])), (wi, .inl (d1, 6, .inl fw)), (co, .inl (d2, 6, .inl fc)), (bn, .inl (d5, 3, .inl (fun _ => 0))), (rn, .inl (d6, 12, .inl fn)), (so, .inl (d7, 12, .inl (fun _ => 0))), (gk, .inl (d10, 360, .inl fk)), (gi, .inl (d11, 360, .inl (fun _ => 0)))] sz) := by
  refine Met.ofW (cc := cX3_counted) (maxL := 5) (ret := (some .int)) (by decide) rfl ?_
  intro p e s m args below meth c s₁ B hml hv
  obtain ⟨rfl, hsz, hP, hK, hD0, hZN⟩ := hv
  have hx := B.exec
  have hb := B.bytes
  have hr := B.returns
  have hts := atoms_spec (ws := wsX3_counted) B.pre
  have hown : s.vm.findClass RX3 = some m.cls := findClass_of_methodNamed B.named
  have hlocks := B.notSynchronized
  subst hsz
  have hD := hD0.self (sz := s.heap.size)
  generalize hAe : va_A [(hm, .inr (3, [.int th, .int 6, .ref wi, .ref co, .ref sl, .ref rn, .ref so, .ref bn, .ref sm, .ref ah])), (sm, .inr (2, [.int 0, .ref gr, .ref gt, .ref gw, .ref gk, .ref gi, .ref gp, .ref go, .ref gg, .ref hm])), (wi, .inl (d1, 6, .inl fw)), (co, .inl (d2, 6, .inl fc)), (bn, .inl (d5, 3, .inl (fun _ => 0))), (rn, .inl (d6, 12, .inl fn)), (so, .inl (d7, 12, .inl (fun _ => 0))), (gk, .inl (d10, 360, .inl fk)), (gi, .inl (d11, 360, .inl (fun _ => 0)))] s.heap.size = A at hD ⊢
  have hA : ∀ q : Nat, s.heap.size ≤ q → A q := fun q h => by rw [← hAe]; exact Or.inr h
  have hS : va_S A s.heap s.heap [] := va_S.rf
  have hP : va_P (dC, dI) vwCl [(hm, .inr (3, [.int th, .int 6, .ref wi, .ref co, .ref sl, .ref rn, .ref so, .ref bn, .ref sm, .ref ah])), (sm, .inr (2, [.int 0, .ref gr, .ref gt, .ref gw, .ref gk, .ref gi, .ref gp, .ref go, .ref gg, .ref hm])), (wi, .inl (d1, 6, .inl fw)), (co, .inl (d2, 6, .inl fc)), (bn, .inl (d5, 3, .inl (fun _ => 0))), (rn, .inl (d6, 12, .inl fn)), (so, .inl (d7, 12, .inl (fun _ => 0))), (gk, .inl (d10, 360, .inl fk)), (gi, .inl (d11, 360, .inl (fun _ => 0)))] s.heap := hP
  have hl := lv_entry ([.ref hm, .int 1]) (n := 5) (Nat.le_of_ble_eq_true rfl)
  rw [lg_entry_eq]
  generalize (lg_sl ([.ref hm, .int 1]) ++ List.replicate (5 - (lg_sl ([.ref hm, .int 1])).length) Slot.unset).toArray = ls at hl ⊢
  have hl : lv_has ls 5 [(0, .ref hm), (1, .int 1)] := hl
  refine lv_iconst (v := 0) hx hb dX3_counted_0 (by decide) ?_
  refine lv_istore_n (lv' := [(2, .int 0), (0, .ref hm), (1, .int 1)]) hx hb dX3_counted_1 rfl hl (by decide) rfl (fun ls hl => ?_)
  refine lv_iconst (v := 0) hx hb dX3_counted_2 (by decide) ?_
  refine lv_istore_n (lv' := [(3, .int 0), (2, .int 0), (0, .ref hm), (1, .int 1)]) hx hb dX3_counted_3 rfl hl (by decide) rfl (fun ls hl => ?_)
  refine lv_iconst (v := 0) hx hb dX3_counted_4 (by decide) ?_
  refine lv_istore (lv' := [(4, .int 0), (3, .int 0), (2, .int 0), (0, .ref hm), (1, .int 1)]) hx hb dX3_counted_5 hl (by decide) rfl (fun ls hl => ?_)
  suffices K7 : ∀ (n : Nat) (i : Nat), (i ≤ 6) → 6 - i < n → ∀ (H : Heap) (locs : List Loc), va_P (dC, dI) vwCl [(hm, .inr (3, [.int th, .int 6, .ref wi, .ref co, .ref sl, .ref rn, .ref so, .ref bn, .ref sm, .ref ah])), (sm, .inr (2, [.int 0, .ref gr, .ref gt, .ref gw, .ref gk, .ref gi, .ref gp, .ref go, .ref gg, .ref hm])), (wi, .inl (d1, 6, .inl fw)), (co, .inl (d2, 6, .inl fc)), (bn, .inl (d5, 3, .inl (fun _ => 0))), (rn, .inl (d6, 12, .inl fn)), (so, .inl (d7, 12, .inl (fun _ => 0))), (gk, .inl (d10, 360, .inl fk)), (gi, .inl (d11, 360, .inl (fun _ => 0)))] H → va_D A [(hm, .inr (3, [.int th, .int 6, .ref wi, .ref co, .ref sl, .ref rn, .ref so, .ref bn, .ref sm, .ref ah])), (sm, .inr (2, [.int 0, .ref gr, .ref gt, .ref gw, .ref gk, .ref gi, .ref gp, .ref go, .ref gg, .ref hm])), (wi, .inl (d1, 6, .inl fw)), (co, .inl (d2, 6, .inl fc)), (bn, .inl (d5, 3, .inl (fun _ => 0))), (rn, .inl (d6, 12, .inl fn)), (so, .inl (d7, 12, .inl (fun _ => 0))), (gk, .inl (d10, 360, .inl fk)), (gi, .inl (d11, 360, .inl (fun _ => 0)))] → va_S A s.heap H locs → ∀ ls : Array Slot, lv_has ls 5 [(0, .ref hm), (1, .int 1), (2, .int 0), (3, .int (nI (10 * i))), (4, .int (nI i))] → W p l e ({ frames := 2, cells := 1, slots := 9, locals := 47 } : Room) s m (([.ref hm, .int 1] : List Value).toArray) below meth c H locs 0 0 (MQ below (va_Qi (fun (r : Int32) (u : Unit) => r = 6) (fun (u : Unit) (t : State) => va_P (dC, dI) vwCl [(hm, .inr (3, [.int th, .int 6, .ref wi, .ref co, .ref sl, .ref rn, .ref so, .ref bn, .ref sm, .ref ah])), (sm, .inr (2, [.int 0, .ref gr, .ref gt, .ref gw, .ref gk, .ref gi, .ref gp, .ref go, .ref gg, .ref hm])), (wi, .inl (d1, 6, .inl fw)), (co, .inl (d2, 6, .inl fc)), (bn, .inl (d5, 3, .inl (fun _ => 0))), (rn, .inl (d6, 12, .inl fn)), (so, .inl (d7, 12, .inl (fun _ => 0))), (gk, .inl (d10, 360, .inl fk)), (gi, .inl (d11, 360, .inl (fun _ => 0)))] t.heap ∧ va_K (dC, dI) vwCl [] t ∧ va_D A [(hm, .inr (3, [.int th, .int 6, .ref wi, .ref co, .ref sl, .ref rn, .ref so, .ref bn, .ref sm, .ref ah])), (sm, .inr (2, [.int 0, .ref gr, .ref gt, .ref gw, .ref gk, .ref gi, .ref gp, .ref go, .ref gg, .ref hm])), (wi, .inl (d1, 6, .inl fw)), (co, .inl (d2, 6, .inl fc)), (bn, .inl (d5, 3, .inl (fun _ => 0))), (rn, .inl (d6, 12, .inl fn)), (so, .inl (d7, 12, .inl (fun _ => 0))), (gk, .inl (d10, 360, .inl fk)), (gi, .inl (d11, 360, .inl (fun _ => 0)))] ∧ s.heap.size + 1 ≤ t.heap.size) A) (([.ref hm, .int 1] : List Value).toArray) s 1 9 A) (F0 m 7 ls []) from
    K7 _ 0 (by decide) (Nat.lt_succ_self _) _ _ hP hD hS _ (lv_sub hl [3, 4, 2, 1, 0] rfl)
  intro n
  induction n with
  | zero =>
    intro i hi hn
    exact absurd hn (Nat.not_lt_zero _)
  | succ n ih7 =>
    intro i hi hn7 H locs hP hD hS ls hl
    refine lv_iload hx hb dX3_counted_7 (lv_at hl 4 rfl) ?_
    refine lv_aload_n hx hb dX3_counted_9 rfl (lv_at hl 0 rfl) ?_
    refine va_get (D := (dC, dI)) (ci := 3) (v := .int 6) (C := RX3) (T := TX3) (N := 10) hx hb hts (by decide +kernel) hown hK hP 0 rfl rfl 1 (by decide) (hts (.fieldLink RX3 44 "ThatchRoofModel" "roofs" "I") (by decide +kernel)) (fun _ h9 => h9) rfl dX3_counted_10 ?_
    refine lv_icmp_ge (tgt := 46) hx hb dX3_counted_13 (by decide) (fun c1 => ?_) (fun c1 => ?_)
    · have nc1 : 6 ≤ i := (nI_leI (a := 6) (b := i) (by omega) (by omega)).mp c1
      have h9 : i = 6 := by omega
      rw [show nI (10 * i) = 60 from by rw [h9]; rfl] at hl
      refine lv_bipush (v := 9) hx hb dX3_counted_46 (by decide) ?_
      refine va_newa (atype := .int) (ty := .int) (N' := 9) (a0 := (9, .inl (fun _ => 0))) hx hb (hts (.arrayClass .int) (by decide +kernel)) rfl hK hP hD hS hA (fun _ => rfl) (by decide) (by decide) (by decide) (Nat.le_of_ble_eq_true rfl) (Nat.le_of_ble_eq_true rfl) dX3_counted_48 (fun q2 cA3 H hK hP hD hS => ?_)
      refine W.widen (k := 1) (n := 9) (Nat.le_of_ble_eq_true rfl) (Nat.le_of_ble_eq_true rfl) ?_
      have hK : va_K (dC, dI) vwCl [(d1, .int), (d2, .int), (d5, .int), (d6, .int), (d7, .int), (d10, .int), (d11, .int), (cA3, .int)] s := hK
      have hP : va_P (dC, dI) vwCl [(hm, .inr (3, [.int th, .int 6, .ref wi, .ref co, .ref sl, .ref rn, .ref so, .ref bn, .ref sm, .ref ah])), (sm, .inr (2, [.int 0, .ref gr, .ref gt, .ref gw, .ref gk, .ref gi, .ref gp, .ref go, .ref gg, .ref hm])), (wi, .inl (d1, 6, .inl fw)), (co, .inl (d2, 6, .inl fc)), (bn, .inl (d5, 3, .inl (fun _ => 0))), (rn, .inl (d6, 12, .inl fn)), (so, .inl (d7, 12, .inl (fun _ => 0))), (gk, .inl (d10, 360, .inl fk)), (gi, .inl (d11, 360, .inl (fun _ => 0))), (q2, .inl (cA3, 9, .inl (fun _ => 0)))] H := hP
      have hD : va_D A [(hm, .inr (3, [.int th, .int 6, .ref wi, .ref co, .ref sl, .ref rn, .ref so, .ref bn, .ref sm, .ref ah])), (sm, .inr (2, [.int 0, .ref gr, .ref gt, .ref gw, .ref gk, .ref gi, .ref gp, .ref go, .ref gg, .ref hm])), (wi, .inl (d1, 6, .inl fw)), (co, .inl (d2, 6, .inl fc)), (bn, .inl (d5, 3, .inl (fun _ => 0))), (rn, .inl (d6, 12, .inl fn)), (so, .inl (d7, 12, .inl (fun _ => 0))), (gk, .inl (d10, 360, .inl fk)), (gi, .inl (d11, 360, .inl (fun _ => 0))), (q2, .inl (cA3, 9, .inl (fun _ => 0)))] := hD
      refine lv_dup hx hb dX3_counted_50 rfl ?_
      refine lv_iconst (v := 0) hx hb dX3_counted_51 (by decide) ?_
      refine lv_aload_n hx hb dX3_counted_52 rfl (lv_at hl 0 rfl) ?_
      refine va_get (D := (dC, dI)) (ci := 3) (v := .ref sm) (C := RX3) (T := TX3) (N := 10) hx hb hts (by decide +kernel) hown hK hP 0 rfl rfl 8 (by decide) (hts (.fieldLink RX3 33 "ThatchRoofModel" "s" "LThatchRoofModel$State;") (by decide +kernel)) (fun _ h9 => h9) rfl dX3_counted_53 ?_
      refine va_getN (D := (dC, dI)) (ci := 2) (v := .int 0) (C := RX2) (T := TX2) (N := 10) hx hb hts (by decide +kernel) hown hK hP 1 rfl rfl 0 (by decide) (va_Nw.use rfl (zN_RX3_128 hZN)) (fun _ h9 => h9) rfl dX3_counted_56 ?_
      refine va_iast hx hb hK hP hD hS 9 7 rfl rfl (vp_in_nI (n := 0) (by decide) (by decide)) dX3_counted_59 (fun H locs hP hD hS => ?_)
      have hP : va_P (dC, dI) vwCl [(hm, .inr (3, [.int th, .int 6, .ref wi, .ref co, .ref sl, .ref rn, .ref so, .ref bn, .ref sm, .ref ah])), (sm, .inr (2, [.int 0, .ref gr, .ref gt, .ref gw, .ref gk, .ref gi, .ref gp, .ref go, .ref gg, .ref hm])), (wi, .inl (d1, 6, .inl fw)), (co, .inl (d2, 6, .inl fc)), (bn, .inl (d5, 3, .inl (fun _ => 0))), (rn, .inl (d6, 12, .inl fn)), (so, .inl (d7, 12, .inl (fun _ => 0))), (gk, .inl (d10, 360, .inl fk)), (gi, .inl (d11, 360, .inl (fun _ => 0))), (q2, .inl (cA3, 9, .inl (upd (fun _ => 0) 0 0)))] H := hP
      have hD : va_D A [(hm, .inr (3, [.int th, .int 6, .ref wi, .ref co, .ref sl, .ref rn, .ref so, .ref bn, .ref sm, .ref ah])), (sm, .inr (2, [.int 0, .ref gr, .ref gt, .ref gw, .ref gk, .ref gi, .ref gp, .ref go, .ref gg, .ref hm])), (wi, .inl (d1, 6, .inl fw)), (co, .inl (d2, 6, .inl fc)), (bn, .inl (d5, 3, .inl (fun _ => 0))), (rn, .inl (d6, 12, .inl fn)), (so, .inl (d7, 12, .inl (fun _ => 0))), (gk, .inl (d10, 360, .inl fk)), (gi, .inl (d11, 360, .inl (fun _ => 0))), (q2, .inl (cA3, 9, .inl (upd (fun _ => 0) 0 0)))] := hD
      refine lv_dup hx hb dX3_counted_60 rfl ?_
      refine lv_iconst (v := 1) hx hb dX3_counted_61 (by decide) ?_
      refine lv_aload_n hx hb dX3_counted_62 rfl (lv_at hl 0 rfl) ?_
      refine va_get (D := (dC, dI)) (ci := 3) (v := .int 6) (C := RX3) (T := TX3) (N := 10) hx hb hts (by decide +kernel) hown hK hP 0 rfl rfl 1 (by decide) (hts (.fieldLink RX3 44 "ThatchRoofModel" "roofs" "I") (by decide +kernel)) (fun _ h9 => h9) rfl dX3_counted_63 ?_
      refine va_iast hx hb hK hP hD hS 9 7 rfl rfl (vp_in_nI (n := 1) (by decide) (by decide)) dX3_counted_66 (fun H locs hP hD hS => ?_)
      have hP : va_P (dC, dI) vwCl [(hm, .inr (3, [.int th, .int 6, .ref wi, .ref co, .ref sl, .ref rn, .ref so, .ref bn, .ref sm, .ref ah])), (sm, .inr (2, [.int 0, .ref gr, .ref gt, .ref gw, .ref gk, .ref gi, .ref gp, .ref go, .ref gg, .ref hm])), (wi, .inl (d1, 6, .inl fw)), (co, .inl (d2, 6, .inl fc)), (bn, .inl (d5, 3, .inl (fun _ => 0))), (rn, .inl (d6, 12, .inl fn)), (so, .inl (d7, 12, .inl (fun _ => 0))), (gk, .inl (d10, 360, .inl fk)), (gi, .inl (d11, 360, .inl (fun _ => 0))), (q2, .inl (cA3, 9, .inl (upd (upd (fun _ => 0) 0 0) 1 6)))] H := hP
      have hD : va_D A [(hm, .inr (3, [.int th, .int 6, .ref wi, .ref co, .ref sl, .ref rn, .ref so, .ref bn, .ref sm, .ref ah])), (sm, .inr (2, [.int 0, .ref gr, .ref gt, .ref gw, .ref gk, .ref gi, .ref gp, .ref go, .ref gg, .ref hm])), (wi, .inl (d1, 6, .inl fw)), (co, .inl (d2, 6, .inl fc)), (bn, .inl (d5, 3, .inl (fun _ => 0))), (rn, .inl (d6, 12, .inl fn)), (so, .inl (d7, 12, .inl (fun _ => 0))), (gk, .inl (d10, 360, .inl fk)), (gi, .inl (d11, 360, .inl (fun _ => 0))), (q2, .inl (cA3, 9, .inl (upd (upd (fun _ => 0) 0 0) 1 6)))] := hD
      refine lv_dup hx hb dX3_counted_67 rfl ?_
      refine lv_iconst (v := 2) hx hb dX3_counted_68 (by decide) ?_
      refine lv_aload_n hx hb dX3_counted_69 rfl (lv_at hl 0 rfl) ?_
      refine va_get (D := (dC, dI)) (ci := 3) (v := .ref bn) (C := RX3) (T := TX3) (N := 10) hx hb hts (by decide +kernel) hown hK hP 0 rfl rfl 7 (by decide) (hts (.fieldLink RX3 25 "ThatchRoofModel" "barn" "[I") (by decide +kernel)) (fun _ h9 => h9) rfl dX3_counted_70 ?_
      refine lv_iconst (v := 0) hx hb dX3_counted_73 (by decide) ?_
      refine va_iald hx hb hK hP 4 2 rfl rfl (vp_in_nI (n := 0) (by decide) (by decide)) dX3_counted_74 ?_
      refine lv_topi (fun x4 ex4 => ?_)
      obtain rfl : x4 = 0 := ex4
      refine va_iast hx hb hK hP hD hS 9 7 rfl rfl (vp_in_nI (n := 2) (by decide) (by decide)) dX3_counted_75 (fun H locs hP hD hS => ?_)
      have hP : va_P (dC, dI) vwCl [(hm, .inr (3, [.int th, .int 6, .ref wi, .ref co, .ref sl, .ref rn, .ref so, .ref bn, .ref sm, .ref ah])), (sm, .inr (2, [.int 0, .ref gr, .ref gt, .ref gw, .ref gk, .ref gi, .ref gp, .ref go, .ref gg, .ref hm])), (wi, .inl (d1, 6, .inl fw)), (co, .inl (d2, 6, .inl fc)), (bn, .inl (d5, 3, .inl (fun _ => 0))), (rn, .inl (d6, 12, .inl fn)), (so, .inl (d7, 12, .inl (fun _ => 0))), (gk, .inl (d10, 360, .inl fk)), (gi, .inl (d11, 360, .inl (fun _ => 0))), (q2, .inl (cA3, 9, .inl (upd (upd (upd (fun _ => 0) 0 0) 1 6) 2 0)))] H := hP
      have hD : va_D A [(hm, .inr (3, [.int th, .int 6, .ref wi, .ref co, .ref sl, .ref rn, .ref so, .ref bn, .ref sm, .ref ah])), (sm, .inr (2, [.int 0, .ref gr, .ref gt, .ref gw, .ref gk, .ref gi, .ref gp, .ref go, .ref gg, .ref hm])), (wi, .inl (d1, 6, .inl fw)), (co, .inl (d2, 6, .inl fc)), (bn, .inl (d5, 3, .inl (fun _ => 0))), (rn, .inl (d6, 12, .inl fn)), (so, .inl (d7, 12, .inl (fun _ => 0))), (gk, .inl (d10, 360, .inl fk)), (gi, .inl (d11, 360, .inl (fun _ => 0))), (q2, .inl (cA3, 9, .inl (upd (upd (upd (fun _ => 0) 0 0) 1 6) 2 0)))] := hD
      refine lv_dup hx hb dX3_counted_76 rfl ?_
      refine lv_iconst (v := 3) hx hb dX3_counted_77 (by decide) ?_
      refine lv_aload_n hx hb dX3_counted_78 rfl (lv_at hl 0 rfl) ?_
      refine va_get (D := (dC, dI)) (ci := 3) (v := .ref bn) (C := RX3) (T := TX3) (N := 10) hx hb hts (by decide +kernel) hown hK hP 0 rfl rfl 7 (by decide) (hts (.fieldLink RX3 25 "ThatchRoofModel" "barn" "[I") (by decide +kernel)) (fun _ h9 => h9) rfl dX3_counted_79 ?_
      refine lv_iconst (v := 1) hx hb dX3_counted_82 (by decide) ?_
      refine va_iald hx hb hK hP 4 2 rfl rfl (vp_in_nI (n := 1) (by decide) (by decide)) dX3_counted_83 ?_
      refine lv_topi (fun x5 ex5 => ?_)
      obtain rfl : x5 = 0 := ex5
      refine va_iast hx hb hK hP hD hS 9 7 rfl rfl (vp_in_nI (n := 3) (by decide) (by decide)) dX3_counted_84 (fun H locs hP hD hS => ?_)
      have hP : va_P (dC, dI) vwCl [(hm, .inr (3, [.int th, .int 6, .ref wi, .ref co, .ref sl, .ref rn, .ref so, .ref bn, .ref sm, .ref ah])), (sm, .inr (2, [.int 0, .ref gr, .ref gt, .ref gw, .ref gk, .ref gi, .ref gp, .ref go, .ref gg, .ref hm])), (wi, .inl (d1, 6, .inl fw)), (co, .inl (d2, 6, .inl fc)), (bn, .inl (d5, 3, .inl (fun _ => 0))), (rn, .inl (d6, 12, .inl fn)), (so, .inl (d7, 12, .inl (fun _ => 0))), (gk, .inl (d10, 360, .inl fk)), (gi, .inl (d11, 360, .inl (fun _ => 0))), (q2, .inl (cA3, 9, .inl (upd (upd (upd (upd (fun _ => 0) 0 0) 1 6) 2 0) 3 0)))] H := hP
      have hD : va_D A [(hm, .inr (3, [.int th, .int 6, .ref wi, .ref co, .ref sl, .ref rn, .ref so, .ref bn, .ref sm, .ref ah])), (sm, .inr (2, [.int 0, .ref gr, .ref gt, .ref gw, .ref gk, .ref gi, .ref gp, .ref go, .ref gg, .ref hm])), (wi, .inl (d1, 6, .inl fw)), (co, .inl (d2, 6, .inl fc)), (bn, .inl (d5, 3, .inl (fun _ => 0))), (rn, .inl (d6, 12, .inl fn)), (so, .inl (d7, 12, .inl (fun _ => 0))), (gk, .inl (d10, 360, .inl fk)), (gi, .inl (d11, 360, .inl (fun _ => 0))), (q2, .inl (cA3, 9, .inl (upd (upd (upd (upd (fun _ => 0) 0 0) 1 6) 2 0) 3 0)))] := hD
      refine lv_dup hx hb dX3_counted_85 rfl ?_
      refine lv_iconst (v := 4) hx hb dX3_counted_86 (by decide) ?_
      refine lv_aload_n hx hb dX3_counted_87 rfl (lv_at hl 0 rfl) ?_
      refine va_get (D := (dC, dI)) (ci := 3) (v := .ref bn) (C := RX3) (T := TX3) (N := 10) hx hb hts (by decide +kernel) hown hK hP 0 rfl rfl 7 (by decide) (hts (.fieldLink RX3 25 "ThatchRoofModel" "barn" "[I") (by decide +kernel)) (fun _ h9 => h9) rfl dX3_counted_88 ?_
      refine lv_iconst (v := 2) hx hb dX3_counted_91 (by decide) ?_
      refine va_iald hx hb hK hP 4 2 rfl rfl (vp_in_nI (n := 2) (by decide) (by decide)) dX3_counted_92 ?_
      refine lv_topi (fun x6 ex6 => ?_)
      obtain rfl : x6 = 0 := ex6
      refine va_iast hx hb hK hP hD hS 9 7 rfl rfl (vp_in_nI (n := 4) (by decide) (by decide)) dX3_counted_93 (fun H locs hP hD hS => ?_)
      have hP : va_P (dC, dI) vwCl [(hm, .inr (3, [.int th, .int 6, .ref wi, .ref co, .ref sl, .ref rn, .ref so, .ref bn, .ref sm, .ref ah])), (sm, .inr (2, [.int 0, .ref gr, .ref gt, .ref gw, .ref gk, .ref gi, .ref gp, .ref go, .ref gg, .ref hm])), (wi, .inl (d1, 6, .inl fw)), (co, .inl (d2, 6, .inl fc)), (bn, .inl (d5, 3, .inl (fun _ => 0))), (rn, .inl (d6, 12, .inl fn)), (so, .inl (d7, 12, .inl (fun _ => 0))), (gk, .inl (d10, 360, .inl fk)), (gi, .inl (d11, 360, .inl (fun _ => 0))), (q2, .inl (cA3, 9, .inl (upd (upd (upd (upd (upd (fun _ => 0) 0 0) 1 6) 2 0) 3 0) 4 0)))] H := hP
      have hD : va_D A [(hm, .inr (3, [.int th, .int 6, .ref wi, .ref co, .ref sl, .ref rn, .ref so, .ref bn, .ref sm, .ref ah])), (sm, .inr (2, [.int 0, .ref gr, .ref gt, .ref gw, .ref gk, .ref gi, .ref gp, .ref go, .ref gg, .ref hm])), (wi, .inl (d1, 6, .inl fw)), (co, .inl (d2, 6, .inl fc)), (bn, .inl (d5, 3, .inl (fun _ => 0))), (rn, .inl (d6, 12, .inl fn)), (so, .inl (d7, 12, .inl (fun _ => 0))), (gk, .inl (d10, 360, .inl fk)), (gi, .inl (d11, 360, .inl (fun _ => 0))), (q2, .inl (cA3, 9, .inl (upd (upd (upd (upd (upd (fun _ => 0) 0 0) 1 6) 2 0) 3 0) 4 0)))] := hD
      refine lv_dup hx hb dX3_counted_94 rfl ?_
      refine lv_iconst (v := 5) hx hb dX3_counted_95 (by decide) ?_
      refine lv_iload_n hx hb dX3_counted_96 rfl (lv_at hl 2 rfl) ?_
      refine va_iast hx hb hK hP hD hS 9 7 rfl rfl (vp_in_nI (n := 5) (by decide) (by decide)) dX3_counted_97 (fun H locs hP hD hS => ?_)
      have hP : va_P (dC, dI) vwCl [(hm, .inr (3, [.int th, .int 6, .ref wi, .ref co, .ref sl, .ref rn, .ref so, .ref bn, .ref sm, .ref ah])), (sm, .inr (2, [.int 0, .ref gr, .ref gt, .ref gw, .ref gk, .ref gi, .ref gp, .ref go, .ref gg, .ref hm])), (wi, .inl (d1, 6, .inl fw)), (co, .inl (d2, 6, .inl fc)), (bn, .inl (d5, 3, .inl (fun _ => 0))), (rn, .inl (d6, 12, .inl fn)), (so, .inl (d7, 12, .inl (fun _ => 0))), (gk, .inl (d10, 360, .inl fk)), (gi, .inl (d11, 360, .inl (fun _ => 0))), (q2, .inl (cA3, 9, .inl (upd (upd (upd (upd (upd (upd (fun _ => 0) 0 0) 1 6) 2 0) 3 0) 4 0) 5 0)))] H := hP
      have hD : va_D A [(hm, .inr (3, [.int th, .int 6, .ref wi, .ref co, .ref sl, .ref rn, .ref so, .ref bn, .ref sm, .ref ah])), (sm, .inr (2, [.int 0, .ref gr, .ref gt, .ref gw, .ref gk, .ref gi, .ref gp, .ref go, .ref gg, .ref hm])), (wi, .inl (d1, 6, .inl fw)), (co, .inl (d2, 6, .inl fc)), (bn, .inl (d5, 3, .inl (fun _ => 0))), (rn, .inl (d6, 12, .inl fn)), (so, .inl (d7, 12, .inl (fun _ => 0))), (gk, .inl (d10, 360, .inl fk)), (gi, .inl (d11, 360, .inl (fun _ => 0))), (q2, .inl (cA3, 9, .inl (upd (upd (upd (upd (upd (upd (fun _ => 0) 0 0) 1 6) 2 0) 3 0) 4 0) 5 0)))] := hD
      refine lv_dup hx hb dX3_counted_98 rfl ?_
      refine lv_bipush (v := 6) hx hb dX3_counted_99 (by decide) ?_
      refine lv_iload_n hx hb dX3_counted_101 rfl (lv_at hl 3 rfl) ?_
      refine va_iast hx hb hK hP hD hS 9 7 rfl rfl (vp_in_nI (n := 6) (by decide) (by decide)) dX3_counted_102 (fun H locs hP hD hS => ?_)
      have hP : va_P (dC, dI) vwCl [(hm, .inr (3, [.int th, .int 6, .ref wi, .ref co, .ref sl, .ref rn, .ref so, .ref bn, .ref sm, .ref ah])), (sm, .inr (2, [.int 0, .ref gr, .ref gt, .ref gw, .ref gk, .ref gi, .ref gp, .ref go, .ref gg, .ref hm])), (wi, .inl (d1, 6, .inl fw)), (co, .inl (d2, 6, .inl fc)), (bn, .inl (d5, 3, .inl (fun _ => 0))), (rn, .inl (d6, 12, .inl fn)), (so, .inl (d7, 12, .inl (fun _ => 0))), (gk, .inl (d10, 360, .inl fk)), (gi, .inl (d11, 360, .inl (fun _ => 0))), (q2, .inl (cA3, 9, .inl (upd (upd (upd (upd (upd (upd (upd (fun _ => 0) 0 0) 1 6) 2 0) 3 0) 4 0) 5 0) 6 60)))] H := hP
      have hD : va_D A [(hm, .inr (3, [.int th, .int 6, .ref wi, .ref co, .ref sl, .ref rn, .ref so, .ref bn, .ref sm, .ref ah])), (sm, .inr (2, [.int 0, .ref gr, .ref gt, .ref gw, .ref gk, .ref gi, .ref gp, .ref go, .ref gg, .ref hm])), (wi, .inl (d1, 6, .inl fw)), (co, .inl (d2, 6, .inl fc)), (bn, .inl (d5, 3, .inl (fun _ => 0))), (rn, .inl (d6, 12, .inl fn)), (so, .inl (d7, 12, .inl (fun _ => 0))), (gk, .inl (d10, 360, .inl fk)), (gi, .inl (d11, 360, .inl (fun _ => 0))), (q2, .inl (cA3, 9, .inl (upd (upd (upd (upd (upd (upd (upd (fun _ => 0) 0 0) 1 6) 2 0) 3 0) 4 0) 5 0) 6 60)))] := hD
      refine lv_dup hx hb dX3_counted_103 rfl ?_
      refine lv_bipush (v := 7) hx hb dX3_counted_104 (by decide) ?_
      refine lv_aload_n hx hb dX3_counted_106 rfl (lv_at hl 0 rfl) ?_
      refine va_get (D := (dC, dI)) (ci := 3) (v := .ref rn) (C := RX3) (T := TX3) (N := 10) hx hb hts (by decide +kernel) hown hK hP 0 rfl rfl 5 (by decide) (hts (.fieldLink RX3 19 "ThatchRoofModel" "rain" "[I") (by decide +kernel)) (fun _ h9 => h9) rfl dX3_counted_107 ?_
      refine lv_aload_n hx hb dX3_counted_110 rfl (lv_at hl 0 rfl) ?_
      refine va_get (D := (dC, dI)) (ci := 3) (v := .ref sm) (C := RX3) (T := TX3) (N := 10) hx hb hts (by decide +kernel) hown hK hP 0 rfl rfl 8 (by decide) (hts (.fieldLink RX3 33 "ThatchRoofModel" "s" "LThatchRoofModel$State;") (by decide +kernel)) (fun _ h9 => h9) rfl dX3_counted_111 ?_
      refine va_getN (D := (dC, dI)) (ci := 2) (v := .int 0) (C := RX2) (T := TX2) (N := 10) hx hb hts (by decide +kernel) hown hK hP 1 rfl rfl 0 (by decide) (va_Nw.use rfl (zN_RX3_128 hZN)) (fun _ h9 => h9) rfl dX3_counted_114 ?_
      refine lv_bipush (v := 12) hx hb dX3_counted_117 (by decide) ?_
      refine lv_irem hx hb dX3_counted_119 (by decide) ?_
      refine W.eq (g2 := F0 m 120 ls [.int 0, .ref rn, .int 7, .ref q2, .ref q2]) rfl ?_
      refine va_iald hx hb hK hP 5 3 rfl rfl (vp_in_nI (n := 0) (by decide) (by decide)) dX3_counted_120 ?_
      refine lv_topi (fun x7 ex7 => ?_)
      obtain rfl : x7 = 4 := ex7.trans (hn 0 (by decide))
      refine va_iast hx hb hK hP hD hS 9 7 rfl rfl (vp_in_nI (n := 7) (by decide) (by decide)) dX3_counted_121 (fun H locs hP hD hS => ?_)
      have hP : va_P (dC, dI) vwCl [(hm, .inr (3, [.int th, .int 6, .ref wi, .ref co, .ref sl, .ref rn, .ref so, .ref bn, .ref sm, .ref ah])), (sm, .inr (2, [.int 0, .ref gr, .ref gt, .ref gw, .ref gk, .ref gi, .ref gp, .ref go, .ref gg, .ref hm])), (wi, .inl (d1, 6, .inl fw)), (co, .inl (d2, 6, .inl fc)), (bn, .inl (d5, 3, .inl (fun _ => 0))), (rn, .inl (d6, 12, .inl fn)), (so, .inl (d7, 12, .inl (fun _ => 0))), (gk, .inl (d10, 360, .inl fk)), (gi, .inl (d11, 360, .inl (fun _ => 0))), (q2, .inl (cA3, 9, .inl (upd (upd (upd (upd (upd (upd (upd (upd (fun _ => 0) 0 0) 1 6) 2 0) 3 0) 4 0) 5 0) 6 60) 7 4)))] H := hP
      have hD : va_D A [(hm, .inr (3, [.int th, .int 6, .ref wi, .ref co, .ref sl, .ref rn, .ref so, .ref bn, .ref sm, .ref ah])), (sm, .inr (2, [.int 0, .ref gr, .ref gt, .ref gw, .ref gk, .ref gi, .ref gp, .ref go, .ref gg, .ref hm])), (wi, .inl (d1, 6, .inl fw)), (co, .inl (d2, 6, .inl fc)), (bn, .inl (d5, 3, .inl (fun _ => 0))), (rn, .inl (d6, 12, .inl fn)), (so, .inl (d7, 12, .inl (fun _ => 0))), (gk, .inl (d10, 360, .inl fk)), (gi, .inl (d11, 360, .inl (fun _ => 0))), (q2, .inl (cA3, 9, .inl (upd (upd (upd (upd (upd (upd (upd (upd (fun _ => 0) 0 0) 1 6) 2 0) 3 0) 4 0) 5 0) 6 60) 7 4)))] := hD
      refine lv_dup hx hb dX3_counted_122 rfl ?_
      refine lv_bipush (v := 8) hx hb dX3_counted_123 (by decide) ?_
      refine lv_aload_n hx hb dX3_counted_125 rfl (lv_at hl 0 rfl) ?_
      refine va_get (D := (dC, dI)) (ci := 3) (v := .ref so) (C := RX3) (T := TX3) (N := 10) hx hb hts (by decide +kernel) hown hK hP 0 rfl rfl 6 (by decide) (hts (.fieldLink RX3 22 "ThatchRoofModel" "storm" "[I") (by decide +kernel)) (fun _ h9 => h9) rfl dX3_counted_126 ?_
      refine lv_aload_n hx hb dX3_counted_129 rfl (lv_at hl 0 rfl) ?_
      refine va_get (D := (dC, dI)) (ci := 3) (v := .ref sm) (C := RX3) (T := TX3) (N := 10) hx hb hts (by decide +kernel) hown hK hP 0 rfl rfl 8 (by decide) (hts (.fieldLink RX3 33 "ThatchRoofModel" "s" "LThatchRoofModel$State;") (by decide +kernel)) (fun _ h9 => h9) rfl dX3_counted_130 ?_
      refine va_getN (D := (dC, dI)) (ci := 2) (v := .int 0) (C := RX2) (T := TX2) (N := 10) hx hb hts (by decide +kernel) hown hK hP 1 rfl rfl 0 (by decide) (va_Nw.use rfl (zN_RX3_128 hZN)) (fun _ h9 => h9) rfl dX3_counted_133 ?_
      refine lv_bipush (v := 12) hx hb dX3_counted_136 (by decide) ?_
      refine lv_irem hx hb dX3_counted_138 (by decide) ?_
      refine W.eq (g2 := F0 m 139 ls [.int 0, .ref so, .int 8, .ref q2, .ref q2]) rfl ?_
      refine va_iald hx hb hK hP 6 4 rfl rfl (vp_in_nI (n := 0) (by decide) (by decide)) dX3_counted_139 ?_
      refine lv_topi (fun x8 ex8 => ?_)
      obtain rfl : x8 = 0 := ex8
      refine va_iast hx hb hK hP hD hS 9 7 rfl rfl (vp_in_nI (n := 8) (by decide) (by decide)) dX3_counted_140 (fun H locs hP hD hS => ?_)
      have hP : va_P (dC, dI) vwCl [(hm, .inr (3, [.int th, .int 6, .ref wi, .ref co, .ref sl, .ref rn, .ref so, .ref bn, .ref sm, .ref ah])), (sm, .inr (2, [.int 0, .ref gr, .ref gt, .ref gw, .ref gk, .ref gi, .ref gp, .ref go, .ref gg, .ref hm])), (wi, .inl (d1, 6, .inl fw)), (co, .inl (d2, 6, .inl fc)), (bn, .inl (d5, 3, .inl (fun _ => 0))), (rn, .inl (d6, 12, .inl fn)), (so, .inl (d7, 12, .inl (fun _ => 0))), (gk, .inl (d10, 360, .inl fk)), (gi, .inl (d11, 360, .inl (fun _ => 0))), (q2, .inl (cA3, 9, .inl (upd (upd (upd (upd (upd (upd (upd (upd (upd (fun _ => 0) 0 0) 1 6) 2 0) 3 0) 4 0) 5 0) 6 60) 7 4) 8 0)))] H := hP
      have hD : va_D A [(hm, .inr (3, [.int th, .int 6, .ref wi, .ref co, .ref sl, .ref rn, .ref so, .ref bn, .ref sm, .ref ah])), (sm, .inr (2, [.int 0, .ref gr, .ref gt, .ref gw, .ref gk, .ref gi, .ref gp, .ref go, .ref gg, .ref hm])), (wi, .inl (d1, 6, .inl fw)), (co, .inl (d2, 6, .inl fc)), (bn, .inl (d5, 3, .inl (fun _ => 0))), (rn, .inl (d6, 12, .inl fn)), (so, .inl (d7, 12, .inl (fun _ => 0))), (gk, .inl (d10, 360, .inl fk)), (gi, .inl (d11, 360, .inl (fun _ => 0))), (q2, .inl (cA3, 9, .inl (upd (upd (upd (upd (upd (upd (upd (upd (upd (fun _ => 0) 0 0) 1 6) 2 0) 3 0) 4 0) 5 0) 6 60) 7 4) 8 0)))] := hD
      refine lv_astore (lv' := [(4, .ref q2), (0, .ref hm), (1, .int 1), (2, .int 0), (3, .int 60)]) hx hb dX3_counted_141 hl (by decide) rfl (fun ls hl => ?_)
      refine lv_aload hx hb dX3_counted_143 (lv_at hl 0 rfl) ?_
      refine lv_iload_n hx hb dX3_counted_145 rfl (lv_at hl 2 rfl) ?_
      refine va_iald hx hb hK hP 9 7 rfl rfl (vp_in_nI (n := 1) (by decide) (by decide)) dX3_counted_146 ?_
      refine lv_topi (fun x9 ex9 => ?_)
      obtain rfl : x9 = 6 := ex9
      have hP9 := hP.sub (ws' := [(hm, .inr (3, [.int th, .int 6, .ref wi, .ref co, .ref sl, .ref rn, .ref so, .ref bn, .ref sm, .ref ah])), (sm, .inr (2, [.int 0, .ref gr, .ref gt, .ref gw, .ref gk, .ref gi, .ref gp, .ref go, .ref gg, .ref hm])), (wi, .inl (d1, 6, .inl fw)), (co, .inl (d2, 6, .inl fc)), (bn, .inl (d5, 3, .inl (fun _ => 0))), (rn, .inl (d6, 12, .inl fn)), (so, .inl (d7, 12, .inl (fun _ => 0))), (gk, .inl (d10, 360, .inl fk)), (gi, .inl (d11, 360, .inl (fun _ => 0)))]) [0, 1, 2, 3, 4, 5, 6, 7, 8] rfl
      have hD9 := hD.sub (ws' := [(hm, .inr (3, [.int th, .int 6, .ref wi, .ref co, .ref sl, .ref rn, .ref so, .ref bn, .ref sm, .ref ah])), (sm, .inr (2, [.int 0, .ref gr, .ref gt, .ref gw, .ref gk, .ref gi, .ref gp, .ref go, .ref gg, .ref hm])), (wi, .inl (d1, 6, .inl fw)), (co, .inl (d2, 6, .inl fc)), (bn, .inl (d5, 3, .inl (fun _ => 0))), (rn, .inl (d6, 12, .inl fn)), (so, .inl (d7, 12, .inl (fun _ => 0))), (gk, .inl (d10, 360, .inl fk)), (gi, .inl (d11, 360, .inl (fun _ => 0)))]) [0, 1, 2, 3, 4, 5, 6, 7, 8] (by decide) rfl
      have hK9 := hK.sub (tys' := []) [] rfl
      refine W.widen (k := 1) (n := 9) (Nat.le_of_ble_eq_true rfl) (Nat.le_of_ble_eq_true rfl) ?_
      have hZ := zz_one hAe hD hP 9 [0, 1, 2, 3, 4, 5, 6, 7, 8] rfl rfl (by decide)
      exact W.iret (v := 6) hx hb hr (fun t ht hW => ⟨⟨6, (), rfl, by (first | rfl | assumption | decide | (simp_all; done) | grind), ⟨by rw [ht]; exact hP9, va_K.moved hW.alike hK9, hD9, by rw [ht]; omega⟩⟩, hS.F ht⟩) hS.2.2 dX3_counted_147
    · have nc1 : i < 6 := Nat.lt_of_not_le (fun q => c1 ((nI_leI (a := 6) (b := i) (by omega) (by omega)).mpr q))
      refine lv_iload_n hx hb dX3_counted_16 rfl (lv_at hl 2 rfl) ?_
      refine lv_aload_n hx hb dX3_counted_17 rfl (lv_at hl 0 rfl) ?_
      refine va_get (D := (dC, dI)) (ci := 3) (v := .ref sm) (C := RX3) (T := TX3) (N := 10) hx hb hts (by decide +kernel) hown hK hP 0 rfl rfl 8 (by decide) (hts (.fieldLink RX3 33 "ThatchRoofModel" "s" "LThatchRoofModel$State;") (by decide +kernel)) (fun _ h9 => h9) rfl dX3_counted_18 ?_
      refine lv_iload hx hb dX3_counted_21 (lv_at hl 4 rfl) ?_
      have hPc := hP.sub (ws' := [(sm, .inr (2, [.int 0, .ref gr, .ref gt, .ref gw, .ref gk, .ref gi, .ref gp, .ref go, .ref gg, .ref hm])), (gk, .inl (d10, 360, .inl fk))]) [1, 7] rfl
      have hKc := hK.sub (tys' := [(d10, .int)]) [5] rfl
      refine vp_callSi (va_runV (As := [.int (nI i)]) (rest := [.int 0]) ⟨hx, hb, hml, hown, hts⟩ (r2_yealms l dC dI sm hm gr gt gw gk gi gp go gg d10 fk i (by first | assumption | decide | omega) (by first | assumption | decide | omega)) (cwV 1 hts gX3_counted_X2_yealms rfl rfl rfl (by decide +kernel) ⟨Nat.le_of_ble_eq_true rfl, Nat.le_of_ble_eq_true rfl⟩) ⟨fun a U g mk q => by obtain ⟨q0, qP, qK⟩ := q; exact ⟨q0, qP, va_K.moved (u := U) (U := U.calling g mk a) (Vm.Alike.refl U.vm) qK⟩, va_recv hKc hPc (ci := 2) (q0 := 0) rfl rfl, fun U hU hW => ⟨rfl, by rw [hU]; exact hPc, va_K.moved hW.alike hKc⟩⟩ rfl rfl hl.1 rfl (lv_room (Nat.le_of_ble_eq_true rfl)) dX3_counted_23 ⟨Nat.le_of_ble_eq_true rfl, Nat.le_of_ble_eq_true rfl⟩).run (fun r10 hr10 => ?_)
      obtain rfl := hr10
      refine lv_iadd hx hb dX3_counted_26 ?_
      refine W.eq (g2 := F0 m 27 ls [.int 0]) rfl ?_
      refine lv_istore_n (lv' := [(2, .int 0), (0, .ref hm), (1, .int 1), (3, .int (nI (10 * i))), (4, .int (nI i))]) hx hb dX3_counted_27 rfl hl (by decide) rfl (fun ls hl => ?_)
      refine lv_iload_n hx hb dX3_counted_28 rfl (lv_at hl 3 rfl) ?_
      refine lv_aload_n hx hb dX3_counted_29 rfl (lv_at hl 1 rfl) ?_
      refine va_get (D := (dC, dI)) (ci := 3) (v := .ref sm) (C := RX3) (T := TX3) (N := 10) hx hb hts (by decide +kernel) hown hK hP 0 rfl rfl 8 (by decide) (hts (.fieldLink RX3 33 "ThatchRoofModel" "s" "LThatchRoofModel$State;") (by decide +kernel)) (fun _ h9 => h9) rfl dX3_counted_30 ?_
      refine lv_iload hx hb dX3_counted_33 (lv_at hl 4 rfl) ?_
      have hPc := hP.sub (ws' := [(sm, .inr (2, [.int 0, .ref gr, .ref gt, .ref gw, .ref gk, .ref gi, .ref gp, .ref go, .ref gg, .ref hm])), (hm, .inr (3, [.int th, .int 6, .ref wi, .ref co, .ref sl, .ref rn, .ref so, .ref bn, .ref sm, .ref ah])), (wi, .inl (d1, 6, .inl fw)), (co, .inl (d2, 6, .inl fc)), (gk, .inl (d10, 360, .inl fk)), (gi, .inl (d11, 360, .inl (fun _ => 0)))]) [1, 0, 2, 3, 7, 8] rfl
      have hKc := hK.sub (tys' := [(d1, .int), (d2, .int), (d10, .int), (d11, .int)]) [0, 1, 5, 6] rfl
      refine vp_callSi (va_runV (As := [.int (nI i)]) (rest := [.int (nI (10 * i))]) ⟨hx, hb, hml, hown, hts⟩ (r2_leaks l dC dI hm wi co sl rn so bn sm ah th gr gt gw gk gi gp go gg d1 d2 d10 d11 fw fc fk i (by first | assumption | decide | omega) (by first | assumption | decide | omega) (by first | assumption | decide | omega) (by first | assumption | decide | omega)) (cwV 1 hts gX3_counted_X2_leaks rfl rfl rfl (by decide +kernel) ⟨Nat.le_of_ble_eq_true rfl, Nat.le_of_ble_eq_true rfl⟩) ⟨fun a U g mk q => by obtain ⟨q0, qP, qK, qN⟩ := q; exact ⟨q0, qP, va_K.moved (u := U) (U := U.calling g mk a) (Vm.Alike.refl U.vm) qK, zNs.calling qN⟩, va_recv hKc hPc (ci := 2) (q0 := 0) rfl rfl, fun U hU hW => ⟨rfl, by rw [hU]; exact hPc, va_K.moved hW.alike hKc, zNs.warm hW hZN⟩⟩ rfl rfl hl.1 rfl (lv_room (Nat.le_of_ble_eq_true rfl)) dX3_counted_35 ⟨Nat.le_of_ble_eq_true rfl, Nat.le_of_ble_eq_true rfl⟩).run (fun r11 hr11 => ?_)
      obtain rfl := hr11
      refine lv_iadd hx hb dX3_counted_38 ?_
      refine lv_topi (fun x12 ex12 => ?_)
      obtain rfl : x12 = nI ((10 * i) + 10) := ex12.trans (nI_add (10 * i) 10)
      refine lv_istore_n (lv' := [(3, .int (nI ((10 * i) + 10))), (2, .int 0), (0, .ref hm), (1, .int 1), (4, .int (nI i))]) hx hb dX3_counted_39 rfl hl (by decide) rfl (fun ls hl => ?_)
      refine lv_iinc (v := nI (i + 1)) (lv' := [(4, .int (nI (i + 1))), (3, .int (nI ((10 * i) + 10))), (2, .int 0), (0, .ref hm), (1, .int 1)]) hx hb dX3_counted_40 hl (k := 4) rfl (by exact nI_1 i) (by decide) rfl (fun ls hl => ?_)
      refine lv_goto (tgt := 7) hx hb dX3_counted_43 (by decide) ?_
      exact ih7 (i + 1) (by omega) (by omega) _ _ (hP.sub [0, 1, 2, 3, 4, 5, 6, 7, 8] rfl) (hD.sub [0, 1, 2, 3, 4, 5, 6, 7, 8] (by decide) rfl) hS _ (lv_sub hl [3, 4, 2, 1, 0] rfl)

set_option maxHeartbeats 4000000 in
set_option maxRecDepth 100000 in
theorem r3_counted2 (l : Launch) (dC : Nat → ClassId) (dI : Nat → Nat → Nat) (sz : Nat) (hm : Nat) (wi : Nat) (co : Nat) (sl : Nat) (rn : Nat) (so : Nat) (bn : Nat) (sm : Nat) (ah : Nat) (th : Int32) (gr : Nat) (gt : Nat) (gw : Nat) (gk : Nat) (gi : Nat) (gp : Nat) (go : Nat) (gg : Nat) (d1 : ClassId) (d2 : ClassId) (d5 : ClassId) (d6 : ClassId) (d7 : ClassId) (d10 : ClassId) (d11 : ClassId) (fw : Nat → Int32) (fc : Nat → Int32) (fn : Nat → Int32) (fk : Nat → Int32) (hk : ∀ j : Nat, j < 360 → fk j = -1) (hw : ∀ j : Nat, j < 6 → fw j = 10) (hc : ∀ j : Nat, j < 6 → fc j = 6) (hn : ∀ j : Nat, j < 12 → fn j = 4) : Met l yX3_counted wsX3_counted ({ frames := 2, cells := 1, slots := 9, locals := 47 }) (va_Pc [.ref hm, .int 2] (fun U => U.heap.size = sz ∧ va_P (dC, dI) vwCl [(hm, .inr (3, [.int th, .int 6, .ref wi, .ref co, .ref sl, .ref rn, .ref so, .ref bn, .ref sm, .ref ah])), (sm, .inr (2, [.int 0, .ref gr, .ref gt, .ref gw, .ref gk, .ref gi, .ref gp, .ref go, .ref gg, .ref hm])), (wi, .inl (d1, 6, .inl fw)), (co, .inl (d2, 6, .inl fc)), (bn, .inl (d5, 3, .inl (fun _ => 0))), (rn, .inl (d6, 12, .inl fn)), (so, .inl (d7, 12, .inl (fun _ => 0))), (gk, .inl (d10, 360, .inl fk)), (gi, .inl (d11, 360, .inl (fun _ => 0)))] U.heap ∧ va_K (dC, dI) vwCl [(d1, .int), (d2, .int), (d5, .int), (d6, .int), (d7, .int), (d10, .int), (d11, .int)] U ∧ va_D (fun _ => True) [(hm, .inr (3, [.int th, .int 6, .ref wi, .ref co, .ref sl, .ref rn, .ref so, .ref bn, .ref sm, .ref ah])), (sm, .inr (2, [.int 0, .ref gr, .ref gt, .ref gw, .ref gk, .ref gi, .ref gp, .ref go, .ref gg, .ref hm])), (wi, .inl (d1, 6, .inl fw)), (co, .inl (d2, 6, .inl fc)), (bn, .inl (d5, 3, .inl (fun _ => 0))), (rn, .inl (d6, 12, .inl fn)), (so, .inl (d7, 12, .inl (fun _ => 0))), (gk, .inl (d10, 360, .inl fk)), (gi, .inl (d11, 360, .inl (fun _ => 0)))] ∧ zNs U)) (va_Qi (fun (r : Int32) (u : Unit) => r = 0) (fun (u : Unit) (t : State) => va_P (dC, dI) vwCl [(hm, .inr (3, [.int th, .int 6, .ref wi, .ref co, .ref sl, .ref rn, .ref so, .ref bn, .ref sm, .ref ah])), (sm, .inr (2, [.int 0, .ref gr, .ref gt, .ref gw, .ref gk, .ref gi, .ref gp, .ref go, .ref gg, .ref hm])), (wi, .inl (d1, 6, .inl fw)), (co, .inl (d2, 6, .inl fc)), (bn, .inl (d5, 3, .inl (fun _ => 0))), (rn, .inl (d6, 12, .inl fn)), (so, .inl (d7, 12, .inl (fun _ => 0))), (gk, .inl (d10, 360, .inl fk)), (gi, .inl (d11, 360, .inl (fun _ => 0)))] t.heap ∧ va_K (dC, dI) vwCl [] t ∧ va_D (va_A [(hm, .inr (3, [.int th, .int 6, .ref wi, .ref co, .ref sl, .ref rn, .ref so, .ref bn, .ref sm, .ref ah])), (sm, .inr (2, [.int 0, .ref gr, .ref gt, .ref gw, .ref gk, .ref gi, .ref gp, .ref go, .ref gg, .ref hm])), (wi, .inl (d1, 6, .inl fw)), (co, .inl (d2, 6, .inl fc)), (bn, .inl (d5, 3, .inl (fun _ => 0))), (rn, .inl (d6, 12, .inl fn)), (so, .inl (d7, 12, .inl (fun _ => 0))), (gk, .inl (d10, 360, .inl fk)), (gi, .inl (d11, 360, .inl (fun _ => 0)))] sz) [(hm, .inr (3, [.int th, .int 6, .ref wi, .ref co, .ref sl, .ref rn, .ref so, .ref bn, .ref sm, .ref ah])), (sm, .inr (2, [.int 0, .ref gr, .ref gt, .ref gw, .ref gk, .ref gi, .ref gp, .ref go, .ref gg, .ref hm])), (wi, .inl (d1, 6, .inl fw)), (co, .inl (d2, 6, .inl fc)), (bn, .inl (d5, 3, .inl (fun _ => 0))), (rn, .inl (d6, 12, .inl fn)), (so, .inl (d7, 12, .inl (fun _ => 0))), (gk, .inl (d10, 360, .inl fk)), (gi, .inl (d11, 360, .inl (fun _ => 0)))] ∧ sz + 1 ≤ t.heap.size) (va_A [(hm, .inr (3, [.int th, .int 6, .ref wi, .ref co, .ref sl, .ref rn, .ref so, .ref bn, .ref sm, .ref ah])), (sm, .inr (2, [.int 0, .ref gr, .ref gt, .ref gw, .ref gk, .ref gi, .ref gp, .ref go, .ref gg, .ref hm])), (wi, .inl (d1, 6, .inl fw)), (co, .inl (d2, 6, .inl fc)), (bn, .inl (d5, 3, .inl (fun _ => 0))), (rn, .inl (d6, 12, .inl fn)), (so, .inl (d7, 12, .inl (fun _ => 0))), (gk, .inl (d10, 360, .inl fk)), (gi, .inl (d11, 360, .inl (fun _ => 0)))] sz)) 1 9 (va_A [(hm, .inr (3, [.int th, .int 6, .ref wi, .ref co, .ref sl, .ref rn, .ref so, .ref bn, .ref sm, .ref ah])), (sm, .inr (2, [.int 0, .ref gr, .ref gt, .ref gw, .ref gk, .ref gi, .ref gp, .ref go, .ref gg, .ref hm])), (wi, .inl (d1, 6, .inl fw)), (co, .inl (d2, 6, .inl fc)), (bn, .inl (d5, 3, .inl (fun _ => 0))), (rn, .inl (d6, 12, .inl fn)), (so, .inl (d7, 12, .inl (fun _ => 0))), (gk, .inl (d10, 360, .inl fk)), (gi, .inl (d11, 360, .inl (fun _ => 0)))] sz) := by
  refine Met.ofW (cc := cX3_counted) (maxL := 5) (ret := (some .int)) (by decide) rfl ?_
  intro p e s m args below meth c s₁ B hml hv
  obtain ⟨rfl, hsz, hP, hK, hD0, hZN⟩ := hv
  have hx := B.exec
  have hb := B.bytes
  have hr := B.returns
  have hts := atoms_spec (ws := wsX3_counted) B.pre
  have hown : s.vm.findClass RX3 = some m.cls := findClass_of_methodNamed B.named
  have hlocks := B.notSynchronized
  subst hsz
  have hD := hD0.self (sz := s.heap.size)
  generalize hAe : va_A [(hm, .inr (3, [.int th, .int 6, .ref wi, .ref co, .ref sl, .ref rn, .ref so, .ref bn, .ref sm, .ref ah])), (sm, .inr (2, [.int 0, .ref gr, .ref gt, .ref gw, .ref gk, .ref gi, .ref gp, .ref go, .ref gg, .ref hm])), (wi, .inl (d1, 6, .inl fw)), (co, .inl (d2, 6, .inl fc)), (bn, .inl (d5, 3, .inl (fun _ => 0))), (rn, .inl (d6, 12, .inl fn)), (so, .inl (d7, 12, .inl (fun _ => 0))), (gk, .inl (d10, 360, .inl fk)), (gi, .inl (d11, 360, .inl (fun _ => 0)))] s.heap.size = A at hD ⊢
  have hA : ∀ q : Nat, s.heap.size ≤ q → A q := fun q h => by rw [← hAe]; exact Or.inr h
  have hS : va_S A s.heap s.heap [] := va_S.rf
  have hP : va_P (dC, dI) vwCl [(hm, .inr (3, [.int th, .int 6, .ref wi, .ref co, .ref sl, .ref rn, .ref so, .ref bn, .ref sm, .ref ah])), (sm, .inr (2, [.int 0, .ref gr, .ref gt, .ref gw, .ref gk, .ref gi, .ref gp, .ref go, .ref gg, .ref hm])), (wi, .inl (d1, 6, .inl fw)), (co, .inl (d2, 6, .inl fc)), (bn, .inl (d5, 3, .inl (fun _ => 0))), (rn, .inl (d6, 12, .inl fn)), (so, .inl (d7, 12, .inl (fun _ => 0))), (gk, .inl (d10, 360, .inl fk)), (gi, .inl (d11, 360, .inl (fun _ => 0)))] s.heap := hP
  have hl := lv_entry ([.ref hm, .int 2]) (n := 5) (Nat.le_of_ble_eq_true rfl)
  rw [lg_entry_eq]
  generalize (lg_sl ([.ref hm, .int 2]) ++ List.replicate (5 - (lg_sl ([.ref hm, .int 2])).length) Slot.unset).toArray = ls at hl ⊢
  have hl : lv_has ls 5 [(0, .ref hm), (1, .int 2)] := hl
  refine lv_iconst (v := 0) hx hb dX3_counted_0 (by decide) ?_
  refine lv_istore_n (lv' := [(2, .int 0), (0, .ref hm), (1, .int 2)]) hx hb dX3_counted_1 rfl hl (by decide) rfl (fun ls hl => ?_)
  refine lv_iconst (v := 0) hx hb dX3_counted_2 (by decide) ?_
  refine lv_istore_n (lv' := [(3, .int 0), (2, .int 0), (0, .ref hm), (1, .int 2)]) hx hb dX3_counted_3 rfl hl (by decide) rfl (fun ls hl => ?_)
  refine lv_iconst (v := 0) hx hb dX3_counted_4 (by decide) ?_
  refine lv_istore (lv' := [(4, .int 0), (3, .int 0), (2, .int 0), (0, .ref hm), (1, .int 2)]) hx hb dX3_counted_5 hl (by decide) rfl (fun ls hl => ?_)
  suffices K7 : ∀ (n : Nat) (i : Nat), (i ≤ 6) → 6 - i < n → ∀ (H : Heap) (locs : List Loc), va_P (dC, dI) vwCl [(hm, .inr (3, [.int th, .int 6, .ref wi, .ref co, .ref sl, .ref rn, .ref so, .ref bn, .ref sm, .ref ah])), (sm, .inr (2, [.int 0, .ref gr, .ref gt, .ref gw, .ref gk, .ref gi, .ref gp, .ref go, .ref gg, .ref hm])), (wi, .inl (d1, 6, .inl fw)), (co, .inl (d2, 6, .inl fc)), (bn, .inl (d5, 3, .inl (fun _ => 0))), (rn, .inl (d6, 12, .inl fn)), (so, .inl (d7, 12, .inl (fun _ => 0))), (gk, .inl (d10, 360, .inl fk)), (gi, .inl (d11, 360, .inl (fun _ => 0)))] H → va_D A [(hm, .inr (3, [.int th, .int 6, .ref wi, .ref co, .ref sl, .ref rn, .ref so, .ref bn, .ref sm, .ref ah])), (sm, .inr (2, [.int 0, .ref gr, .ref gt, .ref gw, .ref gk, .ref gi, .ref gp, .ref go, .ref gg, .ref hm])), (wi, .inl (d1, 6, .inl fw)), (co, .inl (d2, 6, .inl fc)), (bn, .inl (d5, 3, .inl (fun _ => 0))), (rn, .inl (d6, 12, .inl fn)), (so, .inl (d7, 12, .inl (fun _ => 0))), (gk, .inl (d10, 360, .inl fk)), (gi, .inl (d11, 360, .inl (fun _ => 0)))] → va_S A s.heap H locs → ∀ ls : Array Slot, lv_has ls 5 [(0, .ref hm), (1, .int 2), (2, .int 0), (3, .int (nI (10 * i))), (4, .int (nI i))] → W p l e ({ frames := 2, cells := 1, slots := 9, locals := 47 } : Room) s m (([.ref hm, .int 2] : List Value).toArray) below meth c H locs 0 0 (MQ below (va_Qi (fun (r : Int32) (u : Unit) => r = 0) (fun (u : Unit) (t : State) => va_P (dC, dI) vwCl [(hm, .inr (3, [.int th, .int 6, .ref wi, .ref co, .ref sl, .ref rn, .ref so, .ref bn, .ref sm, .ref ah])), (sm, .inr (2, [.int 0, .ref gr, .ref gt, .ref gw, .ref gk, .ref gi, .ref gp, .ref go, .ref gg, .ref hm])), (wi, .inl (d1, 6, .inl fw)), (co, .inl (d2, 6, .inl fc)), (bn, .inl (d5, 3, .inl (fun _ => 0))), (rn, .inl (d6, 12, .inl fn)), (so, .inl (d7, 12, .inl (fun _ => 0))), (gk, .inl (d10, 360, .inl fk)), (gi, .inl (d11, 360, .inl (fun _ => 0)))] t.heap ∧ va_K (dC, dI) vwCl [] t ∧ va_D A [(hm, .inr (3, [.int th, .int 6, .ref wi, .ref co, .ref sl, .ref rn, .ref so, .ref bn, .ref sm, .ref ah])), (sm, .inr (2, [.int 0, .ref gr, .ref gt, .ref gw, .ref gk, .ref gi, .ref gp, .ref go, .ref gg, .ref hm])), (wi, .inl (d1, 6, .inl fw)), (co, .inl (d2, 6, .inl fc)), (bn, .inl (d5, 3, .inl (fun _ => 0))), (rn, .inl (d6, 12, .inl fn)), (so, .inl (d7, 12, .inl (fun _ => 0))), (gk, .inl (d10, 360, .inl fk)), (gi, .inl (d11, 360, .inl (fun _ => 0)))] ∧ s.heap.size + 1 ≤ t.heap.size) A) (([.ref hm, .int 2] : List Value).toArray) s 1 9 A) (F0 m 7 ls []) from
    K7 _ 0 (by decide) (Nat.lt_succ_self _) _ _ hP hD hS _ (lv_sub hl [3, 4, 2, 1, 0] rfl)
  intro n
  induction n with
  | zero =>
    intro i hi hn
    exact absurd hn (Nat.not_lt_zero _)
  | succ n ih7 =>
    intro i hi hn7 H locs hP hD hS ls hl
    refine lv_iload hx hb dX3_counted_7 (lv_at hl 4 rfl) ?_
    refine lv_aload_n hx hb dX3_counted_9 rfl (lv_at hl 0 rfl) ?_
    refine va_get (D := (dC, dI)) (ci := 3) (v := .int 6) (C := RX3) (T := TX3) (N := 10) hx hb hts (by decide +kernel) hown hK hP 0 rfl rfl 1 (by decide) (hts (.fieldLink RX3 44 "ThatchRoofModel" "roofs" "I") (by decide +kernel)) (fun _ h9 => h9) rfl dX3_counted_10 ?_
    refine lv_icmp_ge (tgt := 46) hx hb dX3_counted_13 (by decide) (fun c1 => ?_) (fun c1 => ?_)
    · have nc1 : 6 ≤ i := (nI_leI (a := 6) (b := i) (by omega) (by omega)).mp c1
      have h9 : i = 6 := by omega
      rw [show nI (10 * i) = 60 from by rw [h9]; rfl] at hl
      refine lv_bipush (v := 9) hx hb dX3_counted_46 (by decide) ?_
      refine va_newa (atype := .int) (ty := .int) (N' := 9) (a0 := (9, .inl (fun _ => 0))) hx hb (hts (.arrayClass .int) (by decide +kernel)) rfl hK hP hD hS hA (fun _ => rfl) (by decide) (by decide) (by decide) (Nat.le_of_ble_eq_true rfl) (Nat.le_of_ble_eq_true rfl) dX3_counted_48 (fun q2 cA3 H hK hP hD hS => ?_)
      refine W.widen (k := 1) (n := 9) (Nat.le_of_ble_eq_true rfl) (Nat.le_of_ble_eq_true rfl) ?_
      have hK : va_K (dC, dI) vwCl [(d1, .int), (d2, .int), (d5, .int), (d6, .int), (d7, .int), (d10, .int), (d11, .int), (cA3, .int)] s := hK
      have hP : va_P (dC, dI) vwCl [(hm, .inr (3, [.int th, .int 6, .ref wi, .ref co, .ref sl, .ref rn, .ref so, .ref bn, .ref sm, .ref ah])), (sm, .inr (2, [.int 0, .ref gr, .ref gt, .ref gw, .ref gk, .ref gi, .ref gp, .ref go, .ref gg, .ref hm])), (wi, .inl (d1, 6, .inl fw)), (co, .inl (d2, 6, .inl fc)), (bn, .inl (d5, 3, .inl (fun _ => 0))), (rn, .inl (d6, 12, .inl fn)), (so, .inl (d7, 12, .inl (fun _ => 0))), (gk, .inl (d10, 360, .inl fk)), (gi, .inl (d11, 360, .inl (fun _ => 0))), (q2, .inl (cA3, 9, .inl (fun _ => 0)))] H := hP
      have hD : va_D A [(hm, .inr (3, [.int th, .int 6, .ref wi, .ref co, .ref sl, .ref rn, .ref so, .ref bn, .ref sm, .ref ah])), (sm, .inr (2, [.int 0, .ref gr, .ref gt, .ref gw, .ref gk, .ref gi, .ref gp, .ref go, .ref gg, .ref hm])), (wi, .inl (d1, 6, .inl fw)), (co, .inl (d2, 6, .inl fc)), (bn, .inl (d5, 3, .inl (fun _ => 0))), (rn, .inl (d6, 12, .inl fn)), (so, .inl (d7, 12, .inl (fun _ => 0))), (gk, .inl (d10, 360, .inl fk)), (gi, .inl (d11, 360, .inl (fun _ => 0))), (q2, .inl (cA3, 9, .inl (fun _ => 0)))] := hD
      refine lv_dup hx hb dX3_counted_50 rfl ?_
      refine lv_iconst (v := 0) hx hb dX3_counted_51 (by decide) ?_
      refine lv_aload_n hx hb dX3_counted_52 rfl (lv_at hl 0 rfl) ?_
      refine va_get (D := (dC, dI)) (ci := 3) (v := .ref sm) (C := RX3) (T := TX3) (N := 10) hx hb hts (by decide +kernel) hown hK hP 0 rfl rfl 8 (by decide) (hts (.fieldLink RX3 33 "ThatchRoofModel" "s" "LThatchRoofModel$State;") (by decide +kernel)) (fun _ h9 => h9) rfl dX3_counted_53 ?_
      refine va_getN (D := (dC, dI)) (ci := 2) (v := .int 0) (C := RX2) (T := TX2) (N := 10) hx hb hts (by decide +kernel) hown hK hP 1 rfl rfl 0 (by decide) (va_Nw.use rfl (zN_RX3_128 hZN)) (fun _ h9 => h9) rfl dX3_counted_56 ?_
      refine va_iast hx hb hK hP hD hS 9 7 rfl rfl (vp_in_nI (n := 0) (by decide) (by decide)) dX3_counted_59 (fun H locs hP hD hS => ?_)
      have hP : va_P (dC, dI) vwCl [(hm, .inr (3, [.int th, .int 6, .ref wi, .ref co, .ref sl, .ref rn, .ref so, .ref bn, .ref sm, .ref ah])), (sm, .inr (2, [.int 0, .ref gr, .ref gt, .ref gw, .ref gk, .ref gi, .ref gp, .ref go, .ref gg, .ref hm])), (wi, .inl (d1, 6, .inl fw)), (co, .inl (d2, 6, .inl fc)), (bn, .inl (d5, 3, .inl (fun _ => 0))), (rn, .inl (d6, 12, .inl fn)), (so, .inl (d7, 12, .inl (fun _ => 0))), (gk, .inl (d10, 360, .inl fk)), (gi, .inl (d11, 360, .inl (fun _ => 0))), (q2, .inl (cA3, 9, .inl (upd (fun _ => 0) 0 0)))] H := hP
      have hD : va_D A [(hm, .inr (3, [.int th, .int 6, .ref wi, .ref co, .ref sl, .ref rn, .ref so, .ref bn, .ref sm, .ref ah])), (sm, .inr (2, [.int 0, .ref gr, .ref gt, .ref gw, .ref gk, .ref gi, .ref gp, .ref go, .ref gg, .ref hm])), (wi, .inl (d1, 6, .inl fw)), (co, .inl (d2, 6, .inl fc)), (bn, .inl (d5, 3, .inl (fun _ => 0))), (rn, .inl (d6, 12, .inl fn)), (so, .inl (d7, 12, .inl (fun _ => 0))), (gk, .inl (d10, 360, .inl fk)), (gi, .inl (d11, 360, .inl (fun _ => 0))), (q2, .inl (cA3, 9, .inl (upd (fun _ => 0) 0 0)))] := hD
      refine lv_dup hx hb dX3_counted_60 rfl ?_
      refine lv_iconst (v := 1) hx hb dX3_counted_61 (by decide) ?_
      refine lv_aload_n hx hb dX3_counted_62 rfl (lv_at hl 0 rfl) ?_
      refine va_get (D := (dC, dI)) (ci := 3) (v := .int 6) (C := RX3) (T := TX3) (N := 10) hx hb hts (by decide +kernel) hown hK hP 0 rfl rfl 1 (by decide) (hts (.fieldLink RX3 44 "ThatchRoofModel" "roofs" "I") (by decide +kernel)) (fun _ h9 => h9) rfl dX3_counted_63 ?_
      refine va_iast hx hb hK hP hD hS 9 7 rfl rfl (vp_in_nI (n := 1) (by decide) (by decide)) dX3_counted_66 (fun H locs hP hD hS => ?_)
      have hP : va_P (dC, dI) vwCl [(hm, .inr (3, [.int th, .int 6, .ref wi, .ref co, .ref sl, .ref rn, .ref so, .ref bn, .ref sm, .ref ah])), (sm, .inr (2, [.int 0, .ref gr, .ref gt, .ref gw, .ref gk, .ref gi, .ref gp, .ref go, .ref gg, .ref hm])), (wi, .inl (d1, 6, .inl fw)), (co, .inl (d2, 6, .inl fc)), (bn, .inl (d5, 3, .inl (fun _ => 0))), (rn, .inl (d6, 12, .inl fn)), (so, .inl (d7, 12, .inl (fun _ => 0))), (gk, .inl (d10, 360, .inl fk)), (gi, .inl (d11, 360, .inl (fun _ => 0))), (q2, .inl (cA3, 9, .inl (upd (upd (fun _ => 0) 0 0) 1 6)))] H := hP
      have hD : va_D A [(hm, .inr (3, [.int th, .int 6, .ref wi, .ref co, .ref sl, .ref rn, .ref so, .ref bn, .ref sm, .ref ah])), (sm, .inr (2, [.int 0, .ref gr, .ref gt, .ref gw, .ref gk, .ref gi, .ref gp, .ref go, .ref gg, .ref hm])), (wi, .inl (d1, 6, .inl fw)), (co, .inl (d2, 6, .inl fc)), (bn, .inl (d5, 3, .inl (fun _ => 0))), (rn, .inl (d6, 12, .inl fn)), (so, .inl (d7, 12, .inl (fun _ => 0))), (gk, .inl (d10, 360, .inl fk)), (gi, .inl (d11, 360, .inl (fun _ => 0))), (q2, .inl (cA3, 9, .inl (upd (upd (fun _ => 0) 0 0) 1 6)))] := hD
      refine lv_dup hx hb dX3_counted_67 rfl ?_
      refine lv_iconst (v := 2) hx hb dX3_counted_68 (by decide) ?_
      refine lv_aload_n hx hb dX3_counted_69 rfl (lv_at hl 0 rfl) ?_
      refine va_get (D := (dC, dI)) (ci := 3) (v := .ref bn) (C := RX3) (T := TX3) (N := 10) hx hb hts (by decide +kernel) hown hK hP 0 rfl rfl 7 (by decide) (hts (.fieldLink RX3 25 "ThatchRoofModel" "barn" "[I") (by decide +kernel)) (fun _ h9 => h9) rfl dX3_counted_70 ?_
      refine lv_iconst (v := 0) hx hb dX3_counted_73 (by decide) ?_
      refine va_iald hx hb hK hP 4 2 rfl rfl (vp_in_nI (n := 0) (by decide) (by decide)) dX3_counted_74 ?_
      refine lv_topi (fun x4 ex4 => ?_)
      obtain rfl : x4 = 0 := ex4
      refine va_iast hx hb hK hP hD hS 9 7 rfl rfl (vp_in_nI (n := 2) (by decide) (by decide)) dX3_counted_75 (fun H locs hP hD hS => ?_)
      have hP : va_P (dC, dI) vwCl [(hm, .inr (3, [.int th, .int 6, .ref wi, .ref co, .ref sl, .ref rn, .ref so, .ref bn, .ref sm, .ref ah])), (sm, .inr (2, [.int 0, .ref gr, .ref gt, .ref gw, .ref gk, .ref gi, .ref gp, .ref go, .ref gg, .ref hm])), (wi, .inl (d1, 6, .inl fw)), (co, .inl (d2, 6, .inl fc)), (bn, .inl (d5, 3, .inl (fun _ => 0))), (rn, .inl (d6, 12, .inl fn)), (so, .inl (d7, 12, .inl (fun _ => 0))), (gk, .inl (d10, 360, .inl fk)), (gi, .inl (d11, 360, .inl (fun _ => 0))), (q2, .inl (cA3, 9, .inl (upd (upd (upd (fun _ => 0) 0 0) 1 6) 2 0)))] H := hP
      have hD : va_D A [(hm, .inr (3, [.int th, .int 6, .ref wi, .ref co, .ref sl, .ref rn, .ref so, .ref bn, .ref sm, .ref ah])), (sm, .inr (2, [.int 0, .ref gr, .ref gt, .ref gw, .ref gk, .ref gi, .ref gp, .ref go, .ref gg, .ref hm])), (wi, .inl (d1, 6, .inl fw)), (co, .inl (d2, 6, .inl fc)), (bn, .inl (d5, 3, .inl (fun _ => 0))), (rn, .inl (d6, 12, .inl fn)), (so, .inl (d7, 12, .inl (fun _ => 0))), (gk, .inl (d10, 360, .inl fk)), (gi, .inl (d11, 360, .inl (fun _ => 0))), (q2, .inl (cA3, 9, .inl (upd (upd (upd (fun _ => 0) 0 0) 1 6) 2 0)))] := hD
      refine lv_dup hx hb dX3_counted_76 rfl ?_
      refine lv_iconst (v := 3) hx hb dX3_counted_77 (by decide) ?_
      refine lv_aload_n hx hb dX3_counted_78 rfl (lv_at hl 0 rfl) ?_
      refine va_get (D := (dC, dI)) (ci := 3) (v := .ref bn) (C := RX3) (T := TX3) (N := 10) hx hb hts (by decide +kernel) hown hK hP 0 rfl rfl 7 (by decide) (hts (.fieldLink RX3 25 "ThatchRoofModel" "barn" "[I") (by decide +kernel)) (fun _ h9 => h9) rfl dX3_counted_79 ?_
      refine lv_iconst (v := 1) hx hb dX3_counted_82 (by decide) ?_
      refine va_iald hx hb hK hP 4 2 rfl rfl (vp_in_nI (n := 1) (by decide) (by decide)) dX3_counted_83 ?_
      refine lv_topi (fun x5 ex5 => ?_)
      obtain rfl : x5 = 0 := ex5
      refine va_iast hx hb hK hP hD hS 9 7 rfl rfl (vp_in_nI (n := 3) (by decide) (by decide)) dX3_counted_84 (fun H locs hP hD hS => ?_)
      have hP : va_P (dC, dI) vwCl [(hm, .inr (3, [.int th, .int 6, .ref wi, .ref co, .ref sl, .ref rn, .ref so, .ref bn, .ref sm, .ref ah])), (sm, .inr (2, [.int 0, .ref gr, .ref gt, .ref gw, .ref gk, .ref gi, .ref gp, .ref go, .ref gg, .ref hm])), (wi, .inl (d1, 6, .inl fw)), (co, .inl (d2, 6, .inl fc)), (bn, .inl (d5, 3, .inl (fun _ => 0))), (rn, .inl (d6, 12, .inl fn)), (so, .inl (d7, 12, .inl (fun _ => 0))), (gk, .inl (d10, 360, .inl fk)), (gi, .inl (d11, 360, .inl (fun _ => 0))), (q2, .inl (cA3, 9, .inl (upd (upd (upd (upd (fun _ => 0) 0 0) 1 6) 2 0) 3 0)))] H := hP
      have hD : va_D A [(hm, .inr (3, [.int th, .int 6, .ref wi, .ref co, .ref sl, .ref rn, .ref so, .ref bn, .ref sm, .ref ah])), (sm, .inr (2, [.int 0, .ref gr, .ref gt, .ref gw, .ref gk, .ref gi, .ref gp, .ref go, .ref gg, .ref hm])), (wi, .inl (d1, 6, .inl fw)), (co, .inl (d2, 6, .inl fc)), (bn, .inl (d5, 3, .inl (fun _ => 0))), (rn, .inl (d6, 12, .inl fn)), (so, .inl (d7, 12, .inl (fun _ => 0))), (gk, .inl (d10, 360, .inl fk)), (gi, .inl (d11, 360, .inl (fun _ => 0))), (q2, .inl (cA3, 9, .inl (upd (upd (upd (upd (fun _ => 0) 0 0) 1 6) 2 0) 3 0)))] := hD
      refine lv_dup hx hb dX3_counted_85 rfl ?_
      refine lv_iconst (v := 4) hx hb dX3_counted_86 (by decide) ?_
      refine lv_aload_n hx hb dX3_counted_87 rfl (lv_at hl 0 rfl) ?_
      refine va_get (D := (dC, dI)) (ci := 3) (v := .ref bn) (C := RX3) (T := TX3) (N := 10) hx hb hts (by decide +kernel) hown hK hP 0 rfl rfl 7 (by decide) (hts (.fieldLink RX3 25 "ThatchRoofModel" "barn" "[I") (by decide +kernel)) (fun _ h9 => h9) rfl dX3_counted_88 ?_
      refine lv_iconst (v := 2) hx hb dX3_counted_91 (by decide) ?_
      refine va_iald hx hb hK hP 4 2 rfl rfl (vp_in_nI (n := 2) (by decide) (by decide)) dX3_counted_92 ?_
      refine lv_topi (fun x6 ex6 => ?_)
      obtain rfl : x6 = 0 := ex6
      refine va_iast hx hb hK hP hD hS 9 7 rfl rfl (vp_in_nI (n := 4) (by decide) (by decide)) dX3_counted_93 (fun H locs hP hD hS => ?_)
      have hP : va_P (dC, dI) vwCl [(hm, .inr (3, [.int th, .int 6, .ref wi, .ref co, .ref sl, .ref rn, .ref so, .ref bn, .ref sm, .ref ah])), (sm, .inr (2, [.int 0, .ref gr, .ref gt, .ref gw, .ref gk, .ref gi, .ref gp, .ref go, .ref gg, .ref hm])), (wi, .inl (d1, 6, .inl fw)), (co, .inl (d2, 6, .inl fc)), (bn, .inl (d5, 3, .inl (fun _ => 0))), (rn, .inl (d6, 12, .inl fn)), (so, .inl (d7, 12, .inl (fun _ => 0))), (gk, .inl (d10, 360, .inl fk)), (gi, .inl (d11, 360, .inl (fun _ => 0))), (q2, .inl (cA3, 9, .inl (upd (upd (upd (upd (upd (fun _ => 0) 0 0) 1 6) 2 0) 3 0) 4 0)))] H := hP
      have hD : va_D A [(hm, .inr (3, [.int th, .int 6, .ref wi, .ref co, .ref sl, .ref rn, .ref so, .ref bn, .ref sm, .ref ah])), (sm, .inr (2, [.int 0, .ref gr, .ref gt, .ref gw, .ref gk, .ref gi, .ref gp, .ref go, .ref gg, .ref hm])), (wi, .inl (d1, 6, .inl fw)), (co, .inl (d2, 6, .inl fc)), (bn, .inl (d5, 3, .inl (fun _ => 0))), (rn, .inl (d6, 12, .inl fn)), (so, .inl (d7, 12, .inl (fun _ => 0))), (gk, .inl (d10, 360, .inl fk)), (gi, .inl (d11, 360, .inl (fun _ => 0))), (q2, .inl (cA3, 9, .inl (upd (upd (upd (upd (upd (fun _ => 0) 0 0) 1 6) 2 0) 3 0) 4 0)))] := hD
      refine lv_dup hx hb dX3_counted_94 rfl ?_
      refine lv_iconst (v := 5) hx hb dX3_counted_95 (by decide) ?_
      refine lv_iload_n hx hb dX3_counted_96 rfl (lv_at hl 2 rfl) ?_
      refine va_iast hx hb hK hP hD hS 9 7 rfl rfl (vp_in_nI (n := 5) (by decide) (by decide)) dX3_counted_97 (fun H locs hP hD hS => ?_)
      have hP : va_P (dC, dI) vwCl [(hm, .inr (3, [.int th, .int 6, .ref wi, .ref co, .ref sl, .ref rn, .ref so, .ref bn, .ref sm, .ref ah])), (sm, .inr (2, [.int 0, .ref gr, .ref gt, .ref gw, .ref gk, .ref gi, .ref gp, .ref go, .ref gg, .ref hm])), (wi, .inl (d1, 6, .inl fw)), (co, .inl (d2, 6, .inl fc)), (bn, .inl (d5, 3, .inl (fun _ => 0))), (rn, .inl (d6, 12, .inl fn)), (so, .inl (d7, 12, .inl (fun _ => 0))), (gk, .inl (d10, 360, .inl fk)), (gi, .inl (d11, 360, .inl (fun _ => 0))), (q2, .inl (cA3, 9, .inl (upd (upd (upd (upd (upd (upd (fun _ => 0) 0 0) 1 6) 2 0) 3 0) 4 0) 5 0)))] H := hP
      have hD : va_D A [(hm, .inr (3, [.int th, .int 6, .ref wi, .ref co, .ref sl, .ref rn, .ref so, .ref bn, .ref sm, .ref ah])), (sm, .inr (2, [.int 0, .ref gr, .ref gt, .ref gw, .ref gk, .ref gi, .ref gp, .ref go, .ref gg, .ref hm])), (wi, .inl (d1, 6, .inl fw)), (co, .inl (d2, 6, .inl fc)), (bn, .inl (d5, 3, .inl (fun _ => 0))), (rn, .inl (d6, 12, .inl fn)), (so, .inl (d7, 12, .inl (fun _ => 0))), (gk, .inl (d10, 360, .inl fk)), (gi, .inl (d11, 360, .inl (fun _ => 0))), (q2, .inl (cA3, 9, .inl (upd (upd (upd (upd (upd (upd (fun _ => 0) 0 0) 1 6) 2 0) 3 0) 4 0) 5 0)))] := hD
      refine lv_dup hx hb dX3_counted_98 rfl ?_
      refine lv_bipush (v := 6) hx hb dX3_counted_99 (by decide) ?_
      refine lv_iload_n hx hb dX3_counted_101 rfl (lv_at hl 3 rfl) ?_
      refine va_iast hx hb hK hP hD hS 9 7 rfl rfl (vp_in_nI (n := 6) (by decide) (by decide)) dX3_counted_102 (fun H locs hP hD hS => ?_)
      have hP : va_P (dC, dI) vwCl [(hm, .inr (3, [.int th, .int 6, .ref wi, .ref co, .ref sl, .ref rn, .ref so, .ref bn, .ref sm, .ref ah])), (sm, .inr (2, [.int 0, .ref gr, .ref gt, .ref gw, .ref gk, .ref gi, .ref gp, .ref go, .ref gg, .ref hm])), (wi, .inl (d1, 6, .inl fw)), (co, .inl (d2, 6, .inl fc)), (bn, .inl (d5, 3, .inl (fun _ => 0))), (rn, .inl (d6, 12, .inl fn)), (so, .inl (d7, 12, .inl (fun _ => 0))), (gk, .inl (d10, 360, .inl fk)), (gi, .inl (d11, 360, .inl (fun _ => 0))), (q2, .inl (cA3, 9, .inl (upd (upd (upd (upd (upd (upd (upd (fun _ => 0) 0 0) 1 6) 2 0) 3 0) 4 0) 5 0) 6 60)))] H := hP
      have hD : va_D A [(hm, .inr (3, [.int th, .int 6, .ref wi, .ref co, .ref sl, .ref rn, .ref so, .ref bn, .ref sm, .ref ah])), (sm, .inr (2, [.int 0, .ref gr, .ref gt, .ref gw, .ref gk, .ref gi, .ref gp, .ref go, .ref gg, .ref hm])), (wi, .inl (d1, 6, .inl fw)), (co, .inl (d2, 6, .inl fc)), (bn, .inl (d5, 3, .inl (fun _ => 0))), (rn, .inl (d6, 12, .inl fn)), (so, .inl (d7, 12, .inl (fun _ => 0))), (gk, .inl (d10, 360, .inl fk)), (gi, .inl (d11, 360, .inl (fun _ => 0))), (q2, .inl (cA3, 9, .inl (upd (upd (upd (upd (upd (upd (upd (fun _ => 0) 0 0) 1 6) 2 0) 3 0) 4 0) 5 0) 6 60)))] := hD
      refine lv_dup hx hb dX3_counted_103 rfl ?_
      refine lv_bipush (v := 7) hx hb dX3_counted_104 (by decide) ?_
      refine lv_aload_n hx hb dX3_counted_106 rfl (lv_at hl 0 rfl) ?_
      refine va_get (D := (dC, dI)) (ci := 3) (v := .ref rn) (C := RX3) (T := TX3) (N := 10) hx hb hts (by decide +kernel) hown hK hP 0 rfl rfl 5 (by decide) (hts (.fieldLink RX3 19 "ThatchRoofModel" "rain" "[I") (by decide +kernel)) (fun _ h9 => h9) rfl dX3_counted_107 ?_
      refine lv_aload_n hx hb dX3_counted_110 rfl (lv_at hl 0 rfl) ?_
      refine va_get (D := (dC, dI)) (ci := 3) (v := .ref sm) (C := RX3) (T := TX3) (N := 10) hx hb hts (by decide +kernel) hown hK hP 0 rfl rfl 8 (by decide) (hts (.fieldLink RX3 33 "ThatchRoofModel" "s" "LThatchRoofModel$State;") (by decide +kernel)) (fun _ h9 => h9) rfl dX3_counted_111 ?_
      refine va_getN (D := (dC, dI)) (ci := 2) (v := .int 0) (C := RX2) (T := TX2) (N := 10) hx hb hts (by decide +kernel) hown hK hP 1 rfl rfl 0 (by decide) (va_Nw.use rfl (zN_RX3_128 hZN)) (fun _ h9 => h9) rfl dX3_counted_114 ?_
      refine lv_bipush (v := 12) hx hb dX3_counted_117 (by decide) ?_
      refine lv_irem hx hb dX3_counted_119 (by decide) ?_
      refine W.eq (g2 := F0 m 120 ls [.int 0, .ref rn, .int 7, .ref q2, .ref q2]) rfl ?_
      refine va_iald hx hb hK hP 5 3 rfl rfl (vp_in_nI (n := 0) (by decide) (by decide)) dX3_counted_120 ?_
      refine lv_topi (fun x7 ex7 => ?_)
      obtain rfl : x7 = 4 := ex7.trans (hn 0 (by decide))
      refine va_iast hx hb hK hP hD hS 9 7 rfl rfl (vp_in_nI (n := 7) (by decide) (by decide)) dX3_counted_121 (fun H locs hP hD hS => ?_)
      have hP : va_P (dC, dI) vwCl [(hm, .inr (3, [.int th, .int 6, .ref wi, .ref co, .ref sl, .ref rn, .ref so, .ref bn, .ref sm, .ref ah])), (sm, .inr (2, [.int 0, .ref gr, .ref gt, .ref gw, .ref gk, .ref gi, .ref gp, .ref go, .ref gg, .ref hm])), (wi, .inl (d1, 6, .inl fw)), (co, .inl (d2, 6, .inl fc)), (bn, .inl (d5, 3, .inl (fun _ => 0))), (rn, .inl (d6, 12, .inl fn)), (so, .inl (d7, 12, .inl (fun _ => 0))), (gk, .inl (d10, 360, .inl fk)), (gi, .inl (d11, 360, .inl (fun _ => 0))), (q2, .inl (cA3, 9, .inl (upd (upd (upd (upd (upd (upd (upd (upd (fun _ => 0) 0 0) 1 6) 2 0) 3 0) 4 0) 5 0) 6 60) 7 4)))] H := hP
      have hD : va_D A [(hm, .inr (3, [.int th, .int 6, .ref wi, .ref co, .ref sl, .ref rn, .ref so, .ref bn, .ref sm, .ref ah])), (sm, .inr (2, [.int 0, .ref gr, .ref gt, .ref gw, .ref gk, .ref gi, .ref gp, .ref go, .ref gg, .ref hm])), (wi, .inl (d1, 6, .inl fw)), (co, .inl (d2, 6, .inl fc)), (bn, .inl (d5, 3, .inl (fun _ => 0))), (rn, .inl (d6, 12, .inl fn)), (so, .inl (d7, 12, .inl (fun _ => 0))), (gk, .inl (d10, 360, .inl fk)), (gi, .inl (d11, 360, .inl (fun _ => 0))), (q2, .inl (cA3, 9, .inl (upd (upd (upd (upd (upd (upd (upd (upd (fun _ => 0) 0 0) 1 6) 2 0) 3 0) 4 0) 5 0) 6 60) 7 4)))] := hD
      refine lv_dup hx hb dX3_counted_122 rfl ?_
      refine lv_bipush (v := 8) hx hb dX3_counted_123 (by decide) ?_
      refine lv_aload_n hx hb dX3_counted_125 rfl (lv_at hl 0 rfl) ?_
      refine va_get (D := (dC, dI)) (ci := 3) (v := .ref so) (C := RX3) (T := TX3) (N := 10) hx hb hts (by decide +kernel) hown hK hP 0 rfl rfl 6 (by decide) (hts (.fieldLink RX3 22 "ThatchRoofModel" "storm" "[I") (by decide +kernel)) (fun _ h9 => h9) rfl dX3_counted_126 ?_
      refine lv_aload_n hx hb dX3_counted_129 rfl (lv_at hl 0 rfl) ?_
      refine va_get (D := (dC, dI)) (ci := 3) (v := .ref sm) (C := RX3) (T := TX3) (N := 10) hx hb hts (by decide +kernel) hown hK hP 0 rfl rfl 8 (by decide) (hts (.fieldLink RX3 33 "ThatchRoofModel" "s" "LThatchRoofModel$State;") (by decide +kernel)) (fun _ h9 => h9) rfl dX3_counted_130 ?_
      refine va_getN (D := (dC, dI)) (ci := 2) (v := .int 0) (C := RX2) (T := TX2) (N := 10) hx hb hts (by decide +kernel) hown hK hP 1 rfl rfl 0 (by decide) (va_Nw.use rfl (zN_RX3_128 hZN)) (fun _ h9 => h9) rfl dX3_counted_133 ?_
      refine lv_bipush (v := 12) hx hb dX3_counted_136 (by decide) ?_
      refine lv_irem hx hb dX3_counted_138 (by decide) ?_
      refine W.eq (g2 := F0 m 139 ls [.int 0, .ref so, .int 8, .ref q2, .ref q2]) rfl ?_
      refine va_iald hx hb hK hP 6 4 rfl rfl (vp_in_nI (n := 0) (by decide) (by decide)) dX3_counted_139 ?_
      refine lv_topi (fun x8 ex8 => ?_)
      obtain rfl : x8 = 0 := ex8
      refine va_iast hx hb hK hP hD hS 9 7 rfl rfl (vp_in_nI (n := 8) (by decide) (by decide)) dX3_counted_140 (fun H locs hP hD hS => ?_)
      have hP : va_P (dC, dI) vwCl [(hm, .inr (3, [.int th, .int 6, .ref wi, .ref co, .ref sl, .ref rn, .ref so, .ref bn, .ref sm, .ref ah])), (sm, .inr (2, [.int 0, .ref gr, .ref gt, .ref gw, .ref gk, .ref gi, .ref gp, .ref go, .ref gg, .ref hm])), (wi, .inl (d1, 6, .inl fw)), (co, .inl (d2, 6, .inl fc)), (bn, .inl (d5, 3, .inl (fun _ => 0))), (rn, .inl (d6, 12, .inl fn)), (so, .inl (d7, 12, .inl (fun _ => 0))), (gk, .inl (d10, 360, .inl fk)), (gi, .inl (d11, 360, .inl (fun _ => 0))), (q2, .inl (cA3, 9, .inl (upd (upd (upd (upd (upd (upd (upd (upd (upd (fun _ => 0) 0 0) 1 6) 2 0) 3 0) 4 0) 5 0) 6 60) 7 4) 8 0)))] H := hP
      have hD : va_D A [(hm, .inr (3, [.int th, .int 6, .ref wi, .ref co, .ref sl, .ref rn, .ref so, .ref bn, .ref sm, .ref ah])), (sm, .inr (2, [.int 0, .ref gr, .ref gt, .ref gw, .ref gk, .ref gi, .ref gp, .ref go, .ref gg, .ref hm])), (wi, .inl (d1, 6, .inl fw)), (co, .inl (d2, 6, .inl fc)), (bn, .inl (d5, 3, .inl (fun _ => 0))), (rn, .inl (d6, 12, .inl fn)), (so, .inl (d7, 12, .inl (fun _ => 0))), (gk, .inl (d10, 360, .inl fk)), (gi, .inl (d11, 360, .inl (fun _ => 0))), (q2, .inl (cA3, 9, .inl (upd (upd (upd (upd (upd (upd (upd (upd (upd (fun _ => 0) 0 0) 1 6) 2 0) 3 0) 4 0) 5 0) 6 60) 7 4) 8 0)))] := hD
      refine lv_astore (lv' := [(4, .ref q2), (0, .ref hm), (1, .int 2), (2, .int 0), (3, .int 60)]) hx hb dX3_counted_141 hl (by decide) rfl (fun ls hl => ?_)
      refine lv_aload hx hb dX3_counted_143 (lv_at hl 0 rfl) ?_
      refine lv_iload_n hx hb dX3_counted_145 rfl (lv_at hl 2 rfl) ?_
      refine va_iald hx hb hK hP 9 7 rfl rfl (vp_in_nI (n := 2) (by decide) (by decide)) dX3_counted_146 ?_
      refine lv_topi (fun x9 ex9 => ?_)
      obtain rfl : x9 = 0 := ex9
      have hP9 := hP.sub (ws' := [(hm, .inr (3, [.int th, .int 6, .ref wi, .ref co, .ref sl, .ref rn, .ref so, .ref bn, .ref sm, .ref ah])), (sm, .inr (2, [.int 0, .ref gr, .ref gt, .ref gw, .ref gk, .ref gi, .ref gp, .ref go, .ref gg, .ref hm])), (wi, .inl (d1, 6, .inl fw)), (co, .inl (d2, 6, .inl fc)), (bn, .inl (d5, 3, .inl (fun _ => 0))), (rn, .inl (d6, 12, .inl fn)), (so, .inl (d7, 12, .inl (fun _ => 0))), (gk, .inl (d10, 360, .inl fk)), (gi, .inl (d11, 360, .inl (fun _ => 0)))]) [0, 1, 2, 3, 4, 5, 6, 7, 8] rfl
      have hD9 := hD.sub (ws' := [(hm, .inr (3, [.int th, .int 6, .ref wi, .ref co, .ref sl, .ref rn, .ref so, .ref bn, .ref sm, .ref ah])), (sm, .inr (2, [.int 0, .ref gr, .ref gt, .ref gw, .ref gk, .ref gi, .ref gp, .ref go, .ref gg, .ref hm])), (wi, .inl (d1, 6, .inl fw)), (co, .inl (d2, 6, .inl fc)), (bn, .inl (d5, 3, .inl (fun _ => 0))), (rn, .inl (d6, 12, .inl fn)), (so, .inl (d7, 12, .inl (fun _ => 0))), (gk, .inl (d10, 360, .inl fk)), (gi, .inl (d11, 360, .inl (fun _ => 0)))]) [0, 1, 2, 3, 4, 5, 6, 7, 8] (by decide) rfl
      have hK9 := hK.sub (tys' := []) [] rfl
      refine W.widen (k := 1) (n := 9) (Nat.le_of_ble_eq_true rfl) (Nat.le_of_ble_eq_true rfl) ?_
      have hZ := zz_one hAe hD hP 9 [0, 1, 2, 3, 4, 5, 6, 7, 8] rfl rfl (by decide)
      exact W.iret (v := 0) hx hb hr (fun t ht hW => ⟨⟨0, (), rfl, by (first | rfl | assumption | decide | (simp_all; done) | grind), ⟨by rw [ht]; exact hP9, va_K.moved hW.alike hK9, hD9, by rw [ht]; omega⟩⟩, hS.F ht⟩) hS.2.2 dX3_counted_147
    · have nc1 : i < 6 := Nat.lt_of_not_le (fun q => c1 ((nI_leI (a := 6) (b := i) (by omega) (by omega)).mpr q))
      refine lv_iload_n hx hb dX3_counted_16 rfl (lv_at hl 2 rfl) ?_
      refine lv_aload_n hx hb dX3_counted_17 rfl (lv_at hl 0 rfl) ?_
      refine va_get (D := (dC, dI)) (ci := 3) (v := .ref sm) (C := RX3) (T := TX3) (N := 10) hx hb hts (by decide +kernel) hown hK hP 0 rfl rfl 8 (by decide) (hts (.fieldLink RX3 33 "ThatchRoofModel" "s" "LThatchRoofModel$State;") (by decide +kernel)) (fun _ h9 => h9) rfl dX3_counted_18 ?_
      refine lv_iload hx hb dX3_counted_21 (lv_at hl 4 rfl) ?_
      have hPc := hP.sub (ws' := [(sm, .inr (2, [.int 0, .ref gr, .ref gt, .ref gw, .ref gk, .ref gi, .ref gp, .ref go, .ref gg, .ref hm])), (gk, .inl (d10, 360, .inl fk))]) [1, 7] rfl
      have hKc := hK.sub (tys' := [(d10, .int)]) [5] rfl
      refine vp_callSi (va_runV (As := [.int (nI i)]) (rest := [.int 0]) ⟨hx, hb, hml, hown, hts⟩ (r2_yealms l dC dI sm hm gr gt gw gk gi gp go gg d10 fk i (by first | assumption | decide | omega) (by first | assumption | decide | omega)) (cwV 1 hts gX3_counted_X2_yealms rfl rfl rfl (by decide +kernel) ⟨Nat.le_of_ble_eq_true rfl, Nat.le_of_ble_eq_true rfl⟩) ⟨fun a U g mk q => by obtain ⟨q0, qP, qK⟩ := q; exact ⟨q0, qP, va_K.moved (u := U) (U := U.calling g mk a) (Vm.Alike.refl U.vm) qK⟩, va_recv hKc hPc (ci := 2) (q0 := 0) rfl rfl, fun U hU hW => ⟨rfl, by rw [hU]; exact hPc, va_K.moved hW.alike hKc⟩⟩ rfl rfl hl.1 rfl (lv_room (Nat.le_of_ble_eq_true rfl)) dX3_counted_23 ⟨Nat.le_of_ble_eq_true rfl, Nat.le_of_ble_eq_true rfl⟩).run (fun r10 hr10 => ?_)
      obtain rfl := hr10
      refine lv_iadd hx hb dX3_counted_26 ?_
      refine W.eq (g2 := F0 m 27 ls [.int 0]) rfl ?_
      refine lv_istore_n (lv' := [(2, .int 0), (0, .ref hm), (1, .int 2), (3, .int (nI (10 * i))), (4, .int (nI i))]) hx hb dX3_counted_27 rfl hl (by decide) rfl (fun ls hl => ?_)
      refine lv_iload_n hx hb dX3_counted_28 rfl (lv_at hl 3 rfl) ?_
      refine lv_aload_n hx hb dX3_counted_29 rfl (lv_at hl 1 rfl) ?_
      refine va_get (D := (dC, dI)) (ci := 3) (v := .ref sm) (C := RX3) (T := TX3) (N := 10) hx hb hts (by decide +kernel) hown hK hP 0 rfl rfl 8 (by decide) (hts (.fieldLink RX3 33 "ThatchRoofModel" "s" "LThatchRoofModel$State;") (by decide +kernel)) (fun _ h9 => h9) rfl dX3_counted_30 ?_
      refine lv_iload hx hb dX3_counted_33 (lv_at hl 4 rfl) ?_
      have hPc := hP.sub (ws' := [(sm, .inr (2, [.int 0, .ref gr, .ref gt, .ref gw, .ref gk, .ref gi, .ref gp, .ref go, .ref gg, .ref hm])), (hm, .inr (3, [.int th, .int 6, .ref wi, .ref co, .ref sl, .ref rn, .ref so, .ref bn, .ref sm, .ref ah])), (wi, .inl (d1, 6, .inl fw)), (co, .inl (d2, 6, .inl fc)), (gk, .inl (d10, 360, .inl fk)), (gi, .inl (d11, 360, .inl (fun _ => 0)))]) [1, 0, 2, 3, 7, 8] rfl
      have hKc := hK.sub (tys' := [(d1, .int), (d2, .int), (d10, .int), (d11, .int)]) [0, 1, 5, 6] rfl
      refine vp_callSi (va_runV (As := [.int (nI i)]) (rest := [.int (nI (10 * i))]) ⟨hx, hb, hml, hown, hts⟩ (r2_leaks l dC dI hm wi co sl rn so bn sm ah th gr gt gw gk gi gp go gg d1 d2 d10 d11 fw fc fk i (by first | assumption | decide | omega) (by first | assumption | decide | omega) (by first | assumption | decide | omega) (by first | assumption | decide | omega)) (cwV 1 hts gX3_counted_X2_leaks rfl rfl rfl (by decide +kernel) ⟨Nat.le_of_ble_eq_true rfl, Nat.le_of_ble_eq_true rfl⟩) ⟨fun a U g mk q => by obtain ⟨q0, qP, qK, qN⟩ := q; exact ⟨q0, qP, va_K.moved (u := U) (U := U.calling g mk a) (Vm.Alike.refl U.vm) qK, zNs.calling qN⟩, va_recv hKc hPc (ci := 2) (q0 := 0) rfl rfl, fun U hU hW => ⟨rfl, by rw [hU]; exact hPc, va_K.moved hW.alike hKc, zNs.warm hW hZN⟩⟩ rfl rfl hl.1 rfl (lv_room (Nat.le_of_ble_eq_true rfl)) dX3_counted_35 ⟨Nat.le_of_ble_eq_true rfl, Nat.le_of_ble_eq_true rfl⟩).run (fun r11 hr11 => ?_)
      obtain rfl := hr11
      refine lv_iadd hx hb dX3_counted_38 ?_
      refine lv_topi (fun x12 ex12 => ?_)
      obtain rfl : x12 = nI ((10 * i) + 10) := ex12.trans (nI_add (10 * i) 10)
      refine lv_istore_n (lv' := [(3, .int (nI ((10 * i) + 10))), (2, .int 0), (0, .ref hm), (1, .int 2), (4, .int (nI i))]) hx hb dX3_counted_39 rfl hl (by decide) rfl (fun ls hl => ?_)
      refine lv_iinc (v := nI (i + 1)) (lv' := [(4, .int (nI (i + 1))), (3, .int (nI ((10 * i) + 10))), (2, .int 0), (0, .ref hm), (1, .int 2)]) hx hb dX3_counted_40 hl (k := 4) rfl (by exact nI_1 i) (by decide) rfl (fun ls hl => ?_)
      refine lv_goto (tgt := 7) hx hb dX3_counted_43 (by decide) ?_
      exact ih7 (i + 1) (by omega) (by omega) _ _ (hP.sub [0, 1, 2, 3, 4, 5, 6, 7, 8] rfl) (hD.sub [0, 1, 2, 3, 4, 5, 6, 7, 8] (by decide) rfl) hS _ (lv_sub hl [3, 4, 2, 1, 0] rfl)

set_option maxHeartbeats 4000000 in
set_option maxRecDepth 100000 in
theorem r3_counted3 (l : Launch) (dC : Nat → ClassId) (dI : Nat → Nat → Nat) (sz : Nat) (hm : Nat) (wi : Nat) (co : Nat) (sl : Nat) (rn : Nat) (so : Nat) (bn : Nat) (sm : Nat) (ah : Nat) (th : Int32) (gr : Nat) (gt : Nat) (gw : Nat) (gk : Nat) (gi : Nat) (gp : Nat) (go : Nat) (gg : Nat) (d1 : ClassId) (d2 : ClassId) (d5 : ClassId) (d6 : ClassId) (d7 : ClassId) (d10 : ClassId) (d11 : ClassId) (fw : Nat → Int32) (fc : Nat → Int32) (fn : Nat → Int32) (fk : Nat → Int32) (hk : ∀ j : Nat, j < 360 → fk j = -1) (hw : ∀ j : Nat, j < 6 → fw j = 10) (hc : ∀ j : Nat, j < 6 → fc j = 6) (hn : ∀ j : Nat, j < 12 → fn j = 4) : Met l yX3_counted wsX3_counted ({ frames := 2, cells := 1, slots := 9, locals := 47 }) (va_Pc [.ref hm, .int 3] (fun U => U.heap.size = sz ∧ va_P (dC, dI) vwCl [(hm, .inr (3, [.int th, .int 6, .ref wi, .ref co, .ref sl, .ref rn, .ref so, .ref bn, .ref sm, .ref ah])), (sm, .inr (2, [.int 0, .ref gr, .ref gt, .ref gw, .ref gk, .ref gi, .ref gp, .ref go, .ref gg, .ref hm])), (wi, .inl (d1, 6, .inl fw)), (co, .inl (d2, 6, .inl fc)), (bn, .inl (d5, 3, .inl (fun _ => 0))), (rn, .inl (d6, 12, .inl fn)), (so, .inl (d7, 12, .inl (fun _ => 0))), (gk, .inl (d10, 360, .inl fk)), (gi, .inl (d11, 360, .inl (fun _ => 0)))] U.heap ∧ va_K (dC, dI) vwCl [(d1, .int), (d2, .int), (d5, .int), (d6, .int), (d7, .int), (d10, .int), (d11, .int)] U ∧ va_D (fun _ => True) [(hm, .inr (3, [.int th, .int 6, .ref wi, .ref co, .ref sl, .ref rn, .ref so, .ref bn, .ref sm, .ref ah])), (sm, .inr (2, [.int 0, .ref gr, .ref gt, .ref gw, .ref gk, .ref gi, .ref gp, .ref go, .ref gg, .ref hm])), (wi, .inl (d1, 6, .inl fw)), (co, .inl (d2, 6, .inl fc)), (bn, .inl (d5, 3, .inl (fun _ => 0))), (rn, .inl (d6, 12, .inl fn)), (so, .inl (d7, 12, .inl (fun _ => 0))), (gk, .inl (d10, 360, .inl fk)), (gi, .inl (d11, 360, .inl (fun _ => 0)))] ∧ zNs U)) (va_Qi (fun (r : Int32) (u : Unit) => r = 0) (fun (u : Unit) (t : State) => va_P (dC, dI) vwCl [(hm, .inr (3, [.int th, .int 6, .ref wi, .ref co, .ref sl, .ref rn, .ref so, .ref bn, .ref sm, .ref ah])), (sm, .inr (2, [.int 0, .ref gr, .ref gt, .ref gw, .ref gk, .ref gi, .ref gp, .ref go, .ref gg, .ref hm])), (wi, .inl (d1, 6, .inl fw)), (co, .inl (d2, 6, .inl fc)), (bn, .inl (d5, 3, .inl (fun _ => 0))), (rn, .inl (d6, 12, .inl fn)), (so, .inl (d7, 12, .inl (fun _ => 0))), (gk, .inl (d10, 360, .inl fk)), (gi, .inl (d11, 360, .inl (fun _ => 0)))] t.heap ∧ va_K (dC, dI) vwCl [] t ∧ va_D (va_A [(hm, .inr (3, [.int th, .int 6, .ref wi, .ref co, .ref sl, .ref rn, .ref so, .ref bn, .ref sm, .ref ah])), (sm, .inr (2, [.int 0, .ref gr, .ref gt, .ref gw, .ref gk, .ref gi, .ref gp, .ref go, .ref gg, .ref hm])), (wi, .inl (d1, 6, .inl fw)), (co, .inl (d2, 6, .inl fc)), (bn, .inl (d5, 3, .inl (fun _ => 0))), (rn, .inl (d6, 12, .inl fn)), (so, .inl (d7, 12, .inl (fun _ => 0))), (gk, .inl (d10, 360, .inl fk)), (gi, .inl (d11, 360, .inl (fun _ => 0)))] sz) [(hm, .inr (3, [.int th, .int 6, .ref wi, .ref co, .ref sl, .ref rn, .ref so, .ref bn, .ref sm, .ref ah])), (sm, .inr (2, [.int 0, .ref gr, .ref gt, .ref gw, .ref gk, .ref gi, .ref gp, .ref go, .ref gg, .ref hm])), (wi, .inl (d1, 6, .inl fw)), (co, .inl (d2, 6, .inl fc)), (bn, .inl (d5, 3, .inl (fun _ => 0))), (rn, .inl (d6, 12, .inl fn)), (so, .inl (d7, 12, .inl (fun _ => 0))), (gk, .inl (d10, 360, .inl fk)), (gi, .inl (d11, 360, .inl (fun _ => 0)))] ∧ sz + 1 ≤ t.heap.size) (va_A [(hm, .inr (3, [.int th, .int 6, .ref wi, .ref co, .ref sl, .ref rn, .ref so, .ref bn, .ref sm, .ref ah])), (sm, .inr (2, [.int 0, .ref gr, .ref gt, .ref gw, .ref gk, .ref gi, .ref gp, .ref go, .ref gg, .ref hm])), (wi, .inl (d1, 6, .inl fw)), (co, .inl (d2, 6, .inl fc)), (bn, .inl (d5, 3, .inl (fun _ => 0))), (rn, .inl (d6, 12, .inl fn)), (so, .inl (d7, 12, .inl (fun _ => 0))), (gk, .inl (d10, 360, .inl fk)), (gi, .inl (d11, 360, .inl (fun _ => 0)))] sz)) 1 9 (va_A [(hm, .inr (3, [.int th, .int 6, .ref wi, .ref co, .ref sl, .ref rn, .ref so, .ref bn, .ref sm, .ref ah])), (sm, .inr (2, [.int 0, .ref gr, .ref gt, .ref gw, .ref gk, .ref gi, .ref gp, .ref go, .ref gg, .ref hm])), (wi, .inl (d1, 6, .inl fw)), (co, .inl (d2, 6, .inl fc)), (bn, .inl (d5, 3, .inl (fun _ => 0))), (rn, .inl (d6, 12, .inl fn)), (so, .inl (d7, 12, .inl (fun _ => 0))), (gk, .inl (d10, 360, .inl fk)), (gi, .inl (d11, 360, .inl (fun _ => 0)))] sz) := by
  refine Met.ofW (cc := cX3_counted) (maxL := 5) (ret := (some .int)) (by decide) rfl ?_
  intro p e s m args below meth c s₁ B hml hv
  obtain ⟨rfl, hsz, hP, hK, hD0, hZN⟩ := hv
  have hx := B.exec
  have hb := B.bytes
  have hr := B.returns
  have hts := atoms_spec (ws := wsX3_counted) B.pre
  have hown : s.vm.findClass RX3 = some m.cls := findClass_of_methodNamed B.named
  have hlocks := B.notSynchronized
  subst hsz
  have hD := hD0.self (sz := s.heap.size)
  generalize hAe : va_A [(hm, .inr (3, [.int th, .int 6, .ref wi, .ref co, .ref sl, .ref rn, .ref so, .ref bn, .ref sm, .ref ah])), (sm, .inr (2, [.int 0, .ref gr, .ref gt, .ref gw, .ref gk, .ref gi, .ref gp, .ref go, .ref gg, .ref hm])), (wi, .inl (d1, 6, .inl fw)), (co, .inl (d2, 6, .inl fc)), (bn, .inl (d5, 3, .inl (fun _ => 0))), (rn, .inl (d6, 12, .inl fn)), (so, .inl (d7, 12, .inl (fun _ => 0))), (gk, .inl (d10, 360, .inl fk)), (gi, .inl (d11, 360, .inl (fun _ => 0)))] s.heap.size = A at hD ⊢
  have hA : ∀ q : Nat, s.heap.size ≤ q → A q := fun q h => by rw [← hAe]; exact Or.inr h
  have hS : va_S A s.heap s.heap [] := va_S.rf
  have hP : va_P (dC, dI) vwCl [(hm, .inr (3, [.int th, .int 6, .ref wi, .ref co, .ref sl, .ref rn, .ref so, .ref bn, .ref sm, .ref ah])), (sm, .inr (2, [.int 0, .ref gr, .ref gt, .ref gw, .ref gk, .ref gi, .ref gp, .ref go, .ref gg, .ref hm])), (wi, .inl (d1, 6, .inl fw)), (co, .inl (d2, 6, .inl fc)), (bn, .inl (d5, 3, .inl (fun _ => 0))), (rn, .inl (d6, 12, .inl fn)), (so, .inl (d7, 12, .inl (fun _ => 0))), (gk, .inl (d10, 360, .inl fk)), (gi, .inl (d11, 360, .inl (fun _ => 0)))] s.heap := hP
  have hl := lv_entry ([.ref hm, .int 3]) (n := 5) (Nat.le_of_ble_eq_true rfl)
  rw [lg_entry_eq]
  generalize (lg_sl ([.ref hm, .int 3]) ++ List.replicate (5 - (lg_sl ([.ref hm, .int 3])).length) Slot.unset).toArray = ls at hl ⊢
  have hl : lv_has ls 5 [(0, .ref hm), (1, .int 3)] := hl
  refine lv_iconst (v := 0) hx hb dX3_counted_0 (by decide) ?_
  refine lv_istore_n (lv' := [(2, .int 0), (0, .ref hm), (1, .int 3)]) hx hb dX3_counted_1 rfl hl (by decide) rfl (fun ls hl => ?_)
  refine lv_iconst (v := 0) hx hb dX3_counted_2 (by decide) ?_
  refine lv_istore_n (lv' := [(3, .int 0), (2, .int 0), (0, .ref hm), (1, .int 3)]) hx hb dX3_counted_3 rfl hl (by decide) rfl (fun ls hl => ?_)
  refine lv_iconst (v := 0) hx hb dX3_counted_4 (by decide) ?_
  refine lv_istore (lv' := [(4, .int 0), (3, .int 0), (2, .int 0), (0, .ref hm), (1, .int 3)]) hx hb dX3_counted_5 hl (by decide) rfl (fun ls hl => ?_)
  suffices K7 : ∀ (n : Nat) (i : Nat), (i ≤ 6) → 6 - i < n → ∀ (H : Heap) (locs : List Loc), va_P (dC, dI) vwCl [(hm, .inr (3, [.int th, .int 6, .ref wi, .ref co, .ref sl, .ref rn, .ref so, .ref bn, .ref sm, .ref ah])), (sm, .inr (2, [.int 0, .ref gr, .ref gt, .ref gw, .ref gk, .ref gi, .ref gp, .ref go, .ref gg, .ref hm])), (wi, .inl (d1, 6, .inl fw)), (co, .inl (d2, 6, .inl fc)), (bn, .inl (d5, 3, .inl (fun _ => 0))), (rn, .inl (d6, 12, .inl fn)), (so, .inl (d7, 12, .inl (fun _ => 0))), (gk, .inl (d10, 360, .inl fk)), (gi, .inl (d11, 360, .inl (fun _ => 0)))] H → va_D A [(hm, .inr (3, [.int th, .int 6, .ref wi, .ref co, .ref sl, .ref rn, .ref so, .ref bn, .ref sm, .ref ah])), (sm, .inr (2, [.int 0, .ref gr, .ref gt, .ref gw, .ref gk, .ref gi, .ref gp, .ref go, .ref gg, .ref hm])), (wi, .inl (d1, 6, .inl fw)), (co, .inl (d2, 6, .inl fc)), (bn, .inl (d5, 3, .inl (fun _ => 0))), (rn, .inl (d6, 12, .inl fn)), (so, .inl (d7, 12, .inl (fun _ => 0))), (gk, .inl (d10, 360, .inl fk)), (gi, .inl (d11, 360, .inl (fun _ => 0)))] → va_S A s.heap H locs → ∀ ls : Array Slot, lv_has ls 5 [(0, .ref hm), (1, .int 3), (2, .int 0), (3, .int (nI (10 * i))), (4, .int (nI i))] → W p l e ({ frames := 2, cells := 1, slots := 9, locals := 47 } : Room) s m (([.ref hm, .int 3] : List Value).toArray) below meth c H locs 0 0 (MQ below (va_Qi (fun (r : Int32) (u : Unit) => r = 0) (fun (u : Unit) (t : State) => va_P (dC, dI) vwCl [(hm, .inr (3, [.int th, .int 6, .ref wi, .ref co, .ref sl, .ref rn, .ref so, .ref bn, .ref sm, .ref ah])), (sm, .inr (2, [.int 0, .ref gr, .ref gt, .ref gw, .ref gk, .ref gi, .ref gp, .ref go, .ref gg, .ref hm])), (wi, .inl (d1, 6, .inl fw)), (co, .inl (d2, 6, .inl fc)), (bn, .inl (d5, 3, .inl (fun _ => 0))), (rn, .inl (d6, 12, .inl fn)), (so, .inl (d7, 12, .inl (fun _ => 0))), (gk, .inl (d10, 360, .inl fk)), (gi, .inl (d11, 360, .inl (fun _ => 0)))] t.heap ∧ va_K (dC, dI) vwCl [] t ∧ va_D A [(hm, .inr (3, [.int th, .int 6, .ref wi, .ref co, .ref sl, .ref rn, .ref so, .ref bn, .ref sm, .ref ah])), (sm, .inr (2, [.int 0, .ref gr, .ref gt, .ref gw, .ref gk, .ref gi, .ref gp, .ref go, .ref gg, .ref hm])), (wi, .inl (d1, 6, .inl fw)), (co, .inl (d2, 6, .inl fc)), (bn, .inl (d5, 3, .inl (fun _ => 0))), (rn, .inl (d6, 12, .inl fn)), (so, .inl (d7, 12, .inl (fun _ => 0))), (gk, .inl (d10, 360, .inl fk)), (gi, .inl (d11, 360, .inl (fun _ => 0)))] ∧ s.heap.size + 1 ≤ t.heap.size) A) (([.ref hm, .int 3] : List Value).toArray) s 1 9 A) (F0 m 7 ls []) from
    K7 _ 0 (by decide) (Nat.lt_succ_self _) _ _ hP hD hS _ (lv_sub hl [3, 4, 2, 1, 0] rfl)
  intro n
  induction n with
  | zero =>
    intro i hi hn
    exact absurd hn (Nat.not_lt_zero _)
  | succ n ih7 =>
    intro i hi hn7 H locs hP hD hS ls hl
    refine lv_iload hx hb dX3_counted_7 (lv_at hl 4 rfl) ?_
    refine lv_aload_n hx hb dX3_counted_9 rfl (lv_at hl 0 rfl) ?_
    refine va_get (D := (dC, dI)) (ci := 3) (v := .int 6) (C := RX3) (T := TX3) (N := 10) hx hb hts (by decide +kernel) hown hK hP 0 rfl rfl 1 (by decide) (hts (.fieldLink RX3 44 "ThatchRoofModel" "roofs" "I") (by decide +kernel)) (fun _ h9 => h9) rfl dX3_counted_10 ?_
    refine lv_icmp_ge (tgt := 46) hx hb dX3_counted_13 (by decide) (fun c1 => ?_) (fun c1 => ?_)
    · have nc1 : 6 ≤ i := (nI_leI (a := 6) (b := i) (by omega) (by omega)).mp c1
      have h9 : i = 6 := by omega
      rw [show nI (10 * i) = 60 from by rw [h9]; rfl] at hl
      refine lv_bipush (v := 9) hx hb dX3_counted_46 (by decide) ?_
      refine va_newa (atype := .int) (ty := .int) (N' := 9) (a0 := (9, .inl (fun _ => 0))) hx hb (hts (.arrayClass .int) (by decide +kernel)) rfl hK hP hD hS hA (fun _ => rfl) (by decide) (by decide) (by decide) (Nat.le_of_ble_eq_true rfl) (Nat.le_of_ble_eq_true rfl) dX3_counted_48 (fun q2 cA3 H hK hP hD hS => ?_)
      refine W.widen (k := 1) (n := 9) (Nat.le_of_ble_eq_true rfl) (Nat.le_of_ble_eq_true rfl) ?_
      have hK : va_K (dC, dI) vwCl [(d1, .int), (d2, .int), (d5, .int), (d6, .int), (d7, .int), (d10, .int), (d11, .int), (cA3, .int)] s := hK
      have hP : va_P (dC, dI) vwCl [(hm, .inr (3, [.int th, .int 6, .ref wi, .ref co, .ref sl, .ref rn, .ref so, .ref bn, .ref sm, .ref ah])), (sm, .inr (2, [.int 0, .ref gr, .ref gt, .ref gw, .ref gk, .ref gi, .ref gp, .ref go, .ref gg, .ref hm])), (wi, .inl (d1, 6, .inl fw)), (co, .inl (d2, 6, .inl fc)), (bn, .inl (d5, 3, .inl (fun _ => 0))), (rn, .inl (d6, 12, .inl fn)), (so, .inl (d7, 12, .inl (fun _ => 0))), (gk, .inl (d10, 360, .inl fk)), (gi, .inl (d11, 360, .inl (fun _ => 0))), (q2, .inl (cA3, 9, .inl (fun _ => 0)))] H := hP
      have hD : va_D A [(hm, .inr (3, [.int th, .int 6, .ref wi, .ref co, .ref sl, .ref rn, .ref so, .ref bn, .ref sm, .ref ah])), (sm, .inr (2, [.int 0, .ref gr, .ref gt, .ref gw, .ref gk, .ref gi, .ref gp, .ref go, .ref gg, .ref hm])), (wi, .inl (d1, 6, .inl fw)), (co, .inl (d2, 6, .inl fc)), (bn, .inl (d5, 3, .inl (fun _ => 0))), (rn, .inl (d6, 12, .inl fn)), (so, .inl (d7, 12, .inl (fun _ => 0))), (gk, .inl (d10, 360, .inl fk)), (gi, .inl (d11, 360, .inl (fun _ => 0))), (q2, .inl (cA3, 9, .inl (fun _ => 0)))] := hD
      refine lv_dup hx hb dX3_counted_50 rfl ?_
      refine lv_iconst (v := 0) hx hb dX3_counted_51 (by decide) ?_
      refine lv_aload_n hx hb dX3_counted_52 rfl (lv_at hl 0 rfl) ?_
      refine va_get (D := (dC, dI)) (ci := 3) (v := .ref sm) (C := RX3) (T := TX3) (N := 10) hx hb hts (by decide +kernel) hown hK hP 0 rfl rfl 8 (by decide) (hts (.fieldLink RX3 33 "ThatchRoofModel" "s" "LThatchRoofModel$State;") (by decide +kernel)) (fun _ h9 => h9) rfl dX3_counted_53 ?_
      refine va_getN (D := (dC, dI)) (ci := 2) (v := .int 0) (C := RX2) (T := TX2) (N := 10) hx hb hts (by decide +kernel) hown hK hP 1 rfl rfl 0 (by decide) (va_Nw.use rfl (zN_RX3_128 hZN)) (fun _ h9 => h9) rfl dX3_counted_56 ?_
      refine va_iast hx hb hK hP hD hS 9 7 rfl rfl (vp_in_nI (n := 0) (by decide) (by decide)) dX3_counted_59 (fun H locs hP hD hS => ?_)
      have hP : va_P (dC, dI) vwCl [(hm, .inr (3, [.int th, .int 6, .ref wi, .ref co, .ref sl, .ref rn, .ref so, .ref bn, .ref sm, .ref ah])), (sm, .inr (2, [.int 0, .ref gr, .ref gt, .ref gw, .ref gk, .ref gi, .ref gp, .ref go, .ref gg, .ref hm])), (wi, .inl (d1, 6, .inl fw)), (co, .inl (d2, 6, .inl fc)), (bn, .inl (d5, 3, .inl (fun _ => 0))), (rn, .inl (d6, 12, .inl fn)), (so, .inl (d7, 12, .inl (fun _ => 0))), (gk, .inl (d10, 360, .inl fk)), (gi, .inl (d11, 360, .inl (fun _ => 0))), (q2, .inl (cA3, 9, .inl (upd (fun _ => 0) 0 0)))] H := hP
      have hD : va_D A [(hm, .inr (3, [.int th, .int 6, .ref wi, .ref co, .ref sl, .ref rn, .ref so, .ref bn, .ref sm, .ref ah])), (sm, .inr (2, [.int 0, .ref gr, .ref gt, .ref gw, .ref gk, .ref gi, .ref gp, .ref go, .ref gg, .ref hm])), (wi, .inl (d1, 6, .inl fw)), (co, .inl (d2, 6, .inl fc)), (bn, .inl (d5, 3, .inl (fun _ => 0))), (rn, .inl (d6, 12, .inl fn)), (so, .inl (d7, 12, .inl (fun _ => 0))), (gk, .inl (d10, 360, .inl fk)), (gi, .inl (d11, 360, .inl (fun _ => 0))), (q2, .inl (cA3, 9, .inl (upd (fun _ => 0) 0 0)))] := hD
      refine lv_dup hx hb dX3_counted_60 rfl ?_
      refine lv_iconst (v := 1) hx hb dX3_counted_61 (by decide) ?_
      refine lv_aload_n hx hb dX3_counted_62 rfl (lv_at hl 0 rfl) ?_
      refine va_get (D := (dC, dI)) (ci := 3) (v := .int 6) (C := RX3) (T := TX3) (N := 10) hx hb hts (by decide +kernel) hown hK hP 0 rfl rfl 1 (by decide) (hts (.fieldLink RX3 44 "ThatchRoofModel" "roofs" "I") (by decide +kernel)) (fun _ h9 => h9) rfl dX3_counted_63 ?_
      refine va_iast hx hb hK hP hD hS 9 7 rfl rfl (vp_in_nI (n := 1) (by decide) (by decide)) dX3_counted_66 (fun H locs hP hD hS => ?_)
      have hP : va_P (dC, dI) vwCl [(hm, .inr (3, [.int th, .int 6, .ref wi, .ref co, .ref sl, .ref rn, .ref so, .ref bn, .ref sm, .ref ah])), (sm, .inr (2, [.int 0, .ref gr, .ref gt, .ref gw, .ref gk, .ref gi, .ref gp, .ref go, .ref gg, .ref hm])), (wi, .inl (d1, 6, .inl fw)), (co, .inl (d2, 6, .inl fc)), (bn, .inl (d5, 3, .inl (fun _ => 0))), (rn, .inl (d6, 12, .inl fn)), (so, .inl (d7, 12, .inl (fun _ => 0))), (gk, .inl (d10, 360, .inl fk)), (gi, .inl (d11, 360, .inl (fun _ => 0))), (q2, .inl (cA3, 9, .inl (upd (upd (fun _ => 0) 0 0) 1 6)))] H := hP
      have hD : va_D A [(hm, .inr (3, [.int th, .int 6, .ref wi, .ref co, .ref sl, .ref rn, .ref so, .ref bn, .ref sm, .ref ah])), (sm, .inr (2, [.int 0, .ref gr, .ref gt, .ref gw, .ref gk, .ref gi, .ref gp, .ref go, .ref gg, .ref hm])), (wi, .inl (d1, 6, .inl fw)), (co, .inl (d2, 6, .inl fc)), (bn, .inl (d5, 3, .inl (fun _ => 0))), (rn, .inl (d6, 12, .inl fn)), (so, .inl (d7, 12, .inl (fun _ => 0))), (gk, .inl (d10, 360, .inl fk)), (gi, .inl (d11, 360, .inl (fun _ => 0))), (q2, .inl (cA3, 9, .inl (upd (upd (fun _ => 0) 0 0) 1 6)))] := hD
      refine lv_dup hx hb dX3_counted_67 rfl ?_
      refine lv_iconst (v := 2) hx hb dX3_counted_68 (by decide) ?_
      refine lv_aload_n hx hb dX3_counted_69 rfl (lv_at hl 0 rfl) ?_
      refine va_get (D := (dC, dI)) (ci := 3) (v := .ref bn) (C := RX3) (T := TX3) (N := 10) hx hb hts (by decide +kernel) hown hK hP 0 rfl rfl 7 (by decide) (hts (.fieldLink RX3 25 "ThatchRoofModel" "barn" "[I") (by decide +kernel)) (fun _ h9 => h9) rfl dX3_counted_70 ?_
      refine lv_iconst (v := 0) hx hb dX3_counted_73 (by decide) ?_
      refine va_iald hx hb hK hP 4 2 rfl rfl (vp_in_nI (n := 0) (by decide) (by decide)) dX3_counted_74 ?_
      refine lv_topi (fun x4 ex4 => ?_)
      obtain rfl : x4 = 0 := ex4
      refine va_iast hx hb hK hP hD hS 9 7 rfl rfl (vp_in_nI (n := 2) (by decide) (by decide)) dX3_counted_75 (fun H locs hP hD hS => ?_)
      have hP : va_P (dC, dI) vwCl [(hm, .inr (3, [.int th, .int 6, .ref wi, .ref co, .ref sl, .ref rn, .ref so, .ref bn, .ref sm, .ref ah])), (sm, .inr (2, [.int 0, .ref gr, .ref gt, .ref gw, .ref gk, .ref gi, .ref gp, .ref go, .ref gg, .ref hm])), (wi, .inl (d1, 6, .inl fw)), (co, .inl (d2, 6, .inl fc)), (bn, .inl (d5, 3, .inl (fun _ => 0))), (rn, .inl (d6, 12, .inl fn)), (so, .inl (d7, 12, .inl (fun _ => 0))), (gk, .inl (d10, 360, .inl fk)), (gi, .inl (d11, 360, .inl (fun _ => 0))), (q2, .inl (cA3, 9, .inl (upd (upd (upd (fun _ => 0) 0 0) 1 6) 2 0)))] H := hP
      have hD : va_D A [(hm, .inr (3, [.int th, .int 6, .ref wi, .ref co, .ref sl, .ref rn, .ref so, .ref bn, .ref sm, .ref ah])), (sm, .inr (2, [.int 0, .ref gr, .ref gt, .ref gw, .ref gk, .ref gi, .ref gp, .ref go, .ref gg, .ref hm])), (wi, .inl (d1, 6, .inl fw)), (co, .inl (d2, 6, .inl fc)), (bn, .inl (d5, 3, .inl (fun _ => 0))), (rn, .inl (d6, 12, .inl fn)), (so, .inl (d7, 12, .inl (fun _ => 0))), (gk, .inl (d10, 360, .inl fk)), (gi, .inl (d11, 360, .inl (fun _ => 0))), (q2, .inl (cA3, 9, .inl (upd (upd (upd (fun _ => 0) 0 0) 1 6) 2 0)))] := hD
      refine lv_dup hx hb dX3_counted_76 rfl ?_
      refine lv_iconst (v := 3) hx hb dX3_counted_77 (by decide) ?_
      refine lv_aload_n hx hb dX3_counted_78 rfl (lv_at hl 0 rfl) ?_
      refine va_get (D := (dC, dI)) (ci := 3) (v := .ref bn) (C := RX3) (T := TX3) (N := 10) hx hb hts (by decide +kernel) hown hK hP 0 rfl rfl 7 (by decide) (hts (.fieldLink RX3 25 "ThatchRoofModel" "barn" "[I") (by decide +kernel)) (fun _ h9 => h9) rfl dX3_counted_79 ?_
      refine lv_iconst (v := 1) hx hb dX3_counted_82 (by decide) ?_
      refine va_iald hx hb hK hP 4 2 rfl rfl (vp_in_nI (n := 1) (by decide) (by decide)) dX3_counted_83 ?_
      refine lv_topi (fun x5 ex5 => ?_)
      obtain rfl : x5 = 0 := ex5
      refine va_iast hx hb hK hP hD hS 9 7 rfl rfl (vp_in_nI (n := 3) (by decide) (by decide)) dX3_counted_84 (fun H locs hP hD hS => ?_)
      have hP : va_P (dC, dI) vwCl [(hm, .inr (3, [.int th, .int 6, .ref wi, .ref co, .ref sl, .ref rn, .ref so, .ref bn, .ref sm, .ref ah])), (sm, .inr (2, [.int 0, .ref gr, .ref gt, .ref gw, .ref gk, .ref gi, .ref gp, .ref go, .ref gg, .ref hm])), (wi, .inl (d1, 6, .inl fw)), (co, .inl (d2, 6, .inl fc)), (bn, .inl (d5, 3, .inl (fun _ => 0))), (rn, .inl (d6, 12, .inl fn)), (so, .inl (d7, 12, .inl (fun _ => 0))), (gk, .inl (d10, 360, .inl fk)), (gi, .inl (d11, 360, .inl (fun _ => 0))), (q2, .inl (cA3, 9, .inl (upd (upd (upd (upd (fun _ => 0) 0 0) 1 6) 2 0) 3 0)))] H := hP
      have hD : va_D A [(hm, .inr (3, [.int th, .int 6, .ref wi, .ref co, .ref sl, .ref rn, .ref so, .ref bn, .ref sm, .ref ah])), (sm, .inr (2, [.int 0, .ref gr, .ref gt, .ref gw, .ref gk, .ref gi, .ref gp, .ref go, .ref gg, .ref hm])), (wi, .inl (d1, 6, .inl fw)), (co, .inl (d2, 6, .inl fc)), (bn, .inl (d5, 3, .inl (fun _ => 0))), (rn, .inl (d6, 12, .inl fn)), (so, .inl (d7, 12, .inl (fun _ => 0))), (gk, .inl (d10, 360, .inl fk)), (gi, .inl (d11, 360, .inl (fun _ => 0))), (q2, .inl (cA3, 9, .inl (upd (upd (upd (upd (fun _ => 0) 0 0) 1 6) 2 0) 3 0)))] := hD
      refine lv_dup hx hb dX3_counted_85 rfl ?_
      refine lv_iconst (v := 4) hx hb dX3_counted_86 (by decide) ?_
      refine lv_aload_n hx hb dX3_counted_87 rfl (lv_at hl 0 rfl) ?_
      refine va_get (D := (dC, dI)) (ci := 3) (v := .ref bn) (C := RX3) (T := TX3) (N := 10) hx hb hts (by decide +kernel) hown hK hP 0 rfl rfl 7 (by decide) (hts (.fieldLink RX3 25 "ThatchRoofModel" "barn" "[I") (by decide +kernel)) (fun _ h9 => h9) rfl dX3_counted_88 ?_
      refine lv_iconst (v := 2) hx hb dX3_counted_91 (by decide) ?_
      refine va_iald hx hb hK hP 4 2 rfl rfl (vp_in_nI (n := 2) (by decide) (by decide)) dX3_counted_92 ?_
      refine lv_topi (fun x6 ex6 => ?_)
      obtain rfl : x6 = 0 := ex6
      refine va_iast hx hb hK hP hD hS 9 7 rfl rfl (vp_in_nI (n := 4) (by decide) (by decide)) dX3_counted_93 (fun H locs hP hD hS => ?_)
      have hP : va_P (dC, dI) vwCl [(hm, .inr (3, [.int th, .int 6, .ref wi, .ref co, .ref sl, .ref rn, .ref so, .ref bn, .ref sm, .ref ah])), (sm, .inr (2, [.int 0, .ref gr, .ref gt, .ref gw, .ref gk, .ref gi, .ref gp, .ref go, .ref gg, .ref hm])), (wi, .inl (d1, 6, .inl fw)), (co, .inl (d2, 6, .inl fc)), (bn, .inl (d5, 3, .inl (fun _ => 0))), (rn, .inl (d6, 12, .inl fn)), (so, .inl (d7, 12, .inl (fun _ => 0))), (gk, .inl (d10, 360, .inl fk)), (gi, .inl (d11, 360, .inl (fun _ => 0))), (q2, .inl (cA3, 9, .inl (upd (upd (upd (upd (upd (fun _ => 0) 0 0) 1 6) 2 0) 3 0) 4 0)))] H := hP
      have hD : va_D A [(hm, .inr (3, [.int th, .int 6, .ref wi, .ref co, .ref sl, .ref rn, .ref so, .ref bn, .ref sm, .ref ah])), (sm, .inr (2, [.int 0, .ref gr, .ref gt, .ref gw, .ref gk, .ref gi, .ref gp, .ref go, .ref gg, .ref hm])), (wi, .inl (d1, 6, .inl fw)), (co, .inl (d2, 6, .inl fc)), (bn, .inl (d5, 3, .inl (fun _ => 0))), (rn, .inl (d6, 12, .inl fn)), (so, .inl (d7, 12, .inl (fun _ => 0))), (gk, .inl (d10, 360, .inl fk)), (gi, .inl (d11, 360, .inl (fun _ => 0))), (q2, .inl (cA3, 9, .inl (upd (upd (upd (upd (upd (fun _ => 0) 0 0) 1 6) 2 0) 3 0) 4 0)))] := hD
      refine lv_dup hx hb dX3_counted_94 rfl ?_
      refine lv_iconst (v := 5) hx hb dX3_counted_95 (by decide) ?_
      refine lv_iload_n hx hb dX3_counted_96 rfl (lv_at hl 2 rfl) ?_
      refine va_iast hx hb hK hP hD hS 9 7 rfl rfl (vp_in_nI (n := 5) (by decide) (by decide)) dX3_counted_97 (fun H locs hP hD hS => ?_)
      have hP : va_P (dC, dI) vwCl [(hm, .inr (3, [.int th, .int 6, .ref wi, .ref co, .ref sl, .ref rn, .ref so, .ref bn, .ref sm, .ref ah])), (sm, .inr (2, [.int 0, .ref gr, .ref gt, .ref gw, .ref gk, .ref gi, .ref gp, .ref go, .ref gg, .ref hm])), (wi, .inl (d1, 6, .inl fw)), (co, .inl (d2, 6, .inl fc)), (bn, .inl (d5, 3, .inl (fun _ => 0))), (rn, .inl (d6, 12, .inl fn)), (so, .inl (d7, 12, .inl (fun _ => 0))), (gk, .inl (d10, 360, .inl fk)), (gi, .inl (d11, 360, .inl (fun _ => 0))), (q2, .inl (cA3, 9, .inl (upd (upd (upd (upd (upd (upd (fun _ => 0) 0 0) 1 6) 2 0) 3 0) 4 0) 5 0)))] H := hP
      have hD : va_D A [(hm, .inr (3, [.int th, .int 6, .ref wi, .ref co, .ref sl, .ref rn, .ref so, .ref bn, .ref sm, .ref ah])), (sm, .inr (2, [.int 0, .ref gr, .ref gt, .ref gw, .ref gk, .ref gi, .ref gp, .ref go, .ref gg, .ref hm])), (wi, .inl (d1, 6, .inl fw)), (co, .inl (d2, 6, .inl fc)), (bn, .inl (d5, 3, .inl (fun _ => 0))), (rn, .inl (d6, 12, .inl fn)), (so, .inl (d7, 12, .inl (fun _ => 0))), (gk, .inl (d10, 360, .inl fk)), (gi, .inl (d11, 360, .inl (fun _ => 0))), (q2, .inl (cA3, 9, .inl (upd (upd (upd (upd (upd (upd (fun _ => 0) 0 0) 1 6) 2 0) 3 0) 4 0) 5 0)))] := hD
      refine lv_dup hx hb dX3_counted_98 rfl ?_
      refine lv_bipush (v := 6) hx hb dX3_counted_99 (by decide) ?_
      refine lv_iload_n hx hb dX3_counted_101 rfl (lv_at hl 3 rfl) ?_
      refine va_iast hx hb hK hP hD hS 9 7 rfl rfl (vp_in_nI (n := 6) (by decide) (by decide)) dX3_counted_102 (fun H locs hP hD hS => ?_)
      have hP : va_P (dC, dI) vwCl [(hm, .inr (3, [.int th, .int 6, .ref wi, .ref co, .ref sl, .ref rn, .ref so, .ref bn, .ref sm, .ref ah])), (sm, .inr (2, [.int 0, .ref gr, .ref gt, .ref gw, .ref gk, .ref gi, .ref gp, .ref go, .ref gg, .ref hm])), (wi, .inl (d1, 6, .inl fw)), (co, .inl (d2, 6, .inl fc)), (bn, .inl (d5, 3, .inl (fun _ => 0))), (rn, .inl (d6, 12, .inl fn)), (so, .inl (d7, 12, .inl (fun _ => 0))), (gk, .inl (d10, 360, .inl fk)), (gi, .inl (d11, 360, .inl (fun _ => 0))), (q2, .inl (cA3, 9, .inl (upd (upd (upd (upd (upd (upd (upd (fun _ => 0) 0 0) 1 6) 2 0) 3 0) 4 0) 5 0) 6 60)))] H := hP
      have hD : va_D A [(hm, .inr (3, [.int th, .int 6, .ref wi, .ref co, .ref sl, .ref rn, .ref so, .ref bn, .ref sm, .ref ah])), (sm, .inr (2, [.int 0, .ref gr, .ref gt, .ref gw, .ref gk, .ref gi, .ref gp, .ref go, .ref gg, .ref hm])), (wi, .inl (d1, 6, .inl fw)), (co, .inl (d2, 6, .inl fc)), (bn, .inl (d5, 3, .inl (fun _ => 0))), (rn, .inl (d6, 12, .inl fn)), (so, .inl (d7, 12, .inl (fun _ => 0))), (gk, .inl (d10, 360, .inl fk)), (gi, .inl (d11, 360, .inl (fun _ => 0))), (q2, .inl (cA3, 9, .inl (upd (upd (upd (upd (upd (upd (upd (fun _ => 0) 0 0) 1 6) 2 0) 3 0) 4 0) 5 0) 6 60)))] := hD
      refine lv_dup hx hb dX3_counted_103 rfl ?_
      refine lv_bipush (v := 7) hx hb dX3_counted_104 (by decide) ?_
      refine lv_aload_n hx hb dX3_counted_106 rfl (lv_at hl 0 rfl) ?_
      refine va_get (D := (dC, dI)) (ci := 3) (v := .ref rn) (C := RX3) (T := TX3) (N := 10) hx hb hts (by decide +kernel) hown hK hP 0 rfl rfl 5 (by decide) (hts (.fieldLink RX3 19 "ThatchRoofModel" "rain" "[I") (by decide +kernel)) (fun _ h9 => h9) rfl dX3_counted_107 ?_
      refine lv_aload_n hx hb dX3_counted_110 rfl (lv_at hl 0 rfl) ?_
      refine va_get (D := (dC, dI)) (ci := 3) (v := .ref sm) (C := RX3) (T := TX3) (N := 10) hx hb hts (by decide +kernel) hown hK hP 0 rfl rfl 8 (by decide) (hts (.fieldLink RX3 33 "ThatchRoofModel" "s" "LThatchRoofModel$State;") (by decide +kernel)) (fun _ h9 => h9) rfl dX3_counted_111 ?_
      refine va_getN (D := (dC, dI)) (ci := 2) (v := .int 0) (C := RX2) (T := TX2) (N := 10) hx hb hts (by decide +kernel) hown hK hP 1 rfl rfl 0 (by decide) (va_Nw.use rfl (zN_RX3_128 hZN)) (fun _ h9 => h9) rfl dX3_counted_114 ?_
      refine lv_bipush (v := 12) hx hb dX3_counted_117 (by decide) ?_
      refine lv_irem hx hb dX3_counted_119 (by decide) ?_
      refine W.eq (g2 := F0 m 120 ls [.int 0, .ref rn, .int 7, .ref q2, .ref q2]) rfl ?_
      refine va_iald hx hb hK hP 5 3 rfl rfl (vp_in_nI (n := 0) (by decide) (by decide)) dX3_counted_120 ?_
      refine lv_topi (fun x7 ex7 => ?_)
      obtain rfl : x7 = 4 := ex7.trans (hn 0 (by decide))
      refine va_iast hx hb hK hP hD hS 9 7 rfl rfl (vp_in_nI (n := 7) (by decide) (by decide)) dX3_counted_121 (fun H locs hP hD hS => ?_)
      have hP : va_P (dC, dI) vwCl [(hm, .inr (3, [.int th, .int 6, .ref wi, .ref co, .ref sl, .ref rn, .ref so, .ref bn, .ref sm, .ref ah])), (sm, .inr (2, [.int 0, .ref gr, .ref gt, .ref gw, .ref gk, .ref gi, .ref gp, .ref go, .ref gg, .ref hm])), (wi, .inl (d1, 6, .inl fw)), (co, .inl (d2, 6, .inl fc)), (bn, .inl (d5, 3, .inl (fun _ => 0))), (rn, .inl (d6, 12, .inl fn)), (so, .inl (d7, 12, .inl (fun _ => 0))), (gk, .inl (d10, 360, .inl fk)), (gi, .inl (d11, 360, .inl (fun _ => 0))), (q2, .inl (cA3, 9, .inl (upd (upd (upd (upd (upd (upd (upd (upd (fun _ => 0) 0 0) 1 6) 2 0) 3 0) 4 0) 5 0) 6 60) 7 4)))] H := hP
      have hD : va_D A [(hm, .inr (3, [.int th, .int 6, .ref wi, .ref co, .ref sl, .ref rn, .ref so, .ref bn, .ref sm, .ref ah])), (sm, .inr (2, [.int 0, .ref gr, .ref gt, .ref gw, .ref gk, .ref gi, .ref gp, .ref go, .ref gg, .ref hm])), (wi, .inl (d1, 6, .inl fw)), (co, .inl (d2, 6, .inl fc)), (bn, .inl (d5, 3, .inl (fun _ => 0))), (rn, .inl (d6, 12, .inl fn)), (so, .inl (d7, 12, .inl (fun _ => 0))), (gk, .inl (d10, 360, .inl fk)), (gi, .inl (d11, 360, .inl (fun _ => 0))), (q2, .inl (cA3, 9, .inl (upd (upd (upd (upd (upd (upd (upd (upd (fun _ => 0) 0 0) 1 6) 2 0) 3 0) 4 0) 5 0) 6 60) 7 4)))] := hD
      refine lv_dup hx hb dX3_counted_122 rfl ?_
      refine lv_bipush (v := 8) hx hb dX3_counted_123 (by decide) ?_
      refine lv_aload_n hx hb dX3_counted_125 rfl (lv_at hl 0 rfl) ?_
      refine va_get (D := (dC, dI)) (ci := 3) (v := .ref so) (C := RX3) (T := TX3) (N := 10) hx hb hts (by decide +kernel) hown hK hP 0 rfl rfl 6 (by decide) (hts (.fieldLink RX3 22 "ThatchRoofModel" "storm" "[I") (by decide +kernel)) (fun _ h9 => h9) rfl dX3_counted_126 ?_
      refine lv_aload_n hx hb dX3_counted_129 rfl (lv_at hl 0 rfl) ?_
      refine va_get (D := (dC, dI)) (ci := 3) (v := .ref sm) (C := RX3) (T := TX3) (N := 10) hx hb hts (by decide +kernel) hown hK hP 0 rfl rfl 8 (by decide) (hts (.fieldLink RX3 33 "ThatchRoofModel" "s" "LThatchRoofModel$State;") (by decide +kernel)) (fun _ h9 => h9) rfl dX3_counted_130 ?_
      refine va_getN (D := (dC, dI)) (ci := 2) (v := .int 0) (C := RX2) (T := TX2) (N := 10) hx hb hts (by decide +kernel) hown hK hP 1 rfl rfl 0 (by decide) (va_Nw.use rfl (zN_RX3_128 hZN)) (fun _ h9 => h9) rfl dX3_counted_133 ?_
      refine lv_bipush (v := 12) hx hb dX3_counted_136 (by decide) ?_
      refine lv_irem hx hb dX3_counted_138 (by decide) ?_
      refine W.eq (g2 := F0 m 139 ls [.int 0, .ref so, .int 8, .ref q2, .ref q2]) rfl ?_
      refine va_iald hx hb hK hP 6 4 rfl rfl (vp_in_nI (n := 0) (by decide) (by decide)) dX3_counted_139 ?_
      refine lv_topi (fun x8 ex8 => ?_)
      obtain rfl : x8 = 0 := ex8
      refine va_iast hx hb hK hP hD hS 9 7 rfl rfl (vp_in_nI (n := 8) (by decide) (by decide)) dX3_counted_140 (fun H locs hP hD hS => ?_)
      have hP : va_P (dC, dI) vwCl [(hm, .inr (3, [.int th, .int 6, .ref wi, .ref co, .ref sl, .ref rn, .ref so, .ref bn, .ref sm, .ref ah])), (sm, .inr (2, [.int 0, .ref gr, .ref gt, .ref gw, .ref gk, .ref gi, .ref gp, .ref go, .ref gg, .ref hm])), (wi, .inl (d1, 6, .inl fw)), (co, .inl (d2, 6, .inl fc)), (bn, .inl (d5, 3, .inl (fun _ => 0))), (rn, .inl (d6, 12, .inl fn)), (so, .inl (d7, 12, .inl (fun _ => 0))), (gk, .inl (d10, 360, .inl fk)), (gi, .inl (d11, 360, .inl (fun _ => 0))), (q2, .inl (cA3, 9, .inl (upd (upd (upd (upd (upd (upd (upd (upd (upd (fun _ => 0) 0 0) 1 6) 2 0) 3 0) 4 0) 5 0) 6 60) 7 4) 8 0)))] H := hP
      have hD : va_D A [(hm, .inr (3, [.int th, .int 6, .ref wi, .ref co, .ref sl, .ref rn, .ref so, .ref bn, .ref sm, .ref ah])), (sm, .inr (2, [.int 0, .ref gr, .ref gt, .ref gw, .ref gk, .ref gi, .ref gp, .ref go, .ref gg, .ref hm])), (wi, .inl (d1, 6, .inl fw)), (co, .inl (d2, 6, .inl fc)), (bn, .inl (d5, 3, .inl (fun _ => 0))), (rn, .inl (d6, 12, .inl fn)), (so, .inl (d7, 12, .inl (fun _ => 0))), (gk, .inl (d10, 360, .inl fk)), (gi, .inl (d11, 360, .inl (fun _ => 0))), (q2, .inl (cA3, 9, .inl (upd (upd (upd (upd (upd (upd (upd (upd (upd (fun _ => 0) 0 0) 1 6) 2 0) 3 0) 4 0) 5 0) 6 60) 7 4) 8 0)))] := hD
      refine lv_astore (lv' := [(4, .ref q2), (0, .ref hm), (1, .int 3), (2, .int 0), (3, .int 60)]) hx hb dX3_counted_141 hl (by decide) rfl (fun ls hl => ?_)
      refine lv_aload hx hb dX3_counted_143 (lv_at hl 0 rfl) ?_
      refine lv_iload_n hx hb dX3_counted_145 rfl (lv_at hl 2 rfl) ?_
      refine va_iald hx hb hK hP 9 7 rfl rfl (vp_in_nI (n := 3) (by decide) (by decide)) dX3_counted_146 ?_
      refine lv_topi (fun x9 ex9 => ?_)
      obtain rfl : x9 = 0 := ex9
      have hP9 := hP.sub (ws' := [(hm, .inr (3, [.int th, .int 6, .ref wi, .ref co, .ref sl, .ref rn, .ref so, .ref bn, .ref sm, .ref ah])), (sm, .inr (2, [.int 0, .ref gr, .ref gt, .ref gw, .ref gk, .ref gi, .ref gp, .ref go, .ref gg, .ref hm])), (wi, .inl (d1, 6, .inl fw)), (co, .inl (d2, 6, .inl fc)), (bn, .inl (d5, 3, .inl (fun _ => 0))), (rn, .inl (d6, 12, .inl fn)), (so, .inl (d7, 12, .inl (fun _ => 0))), (gk, .inl (d10, 360, .inl fk)), (gi, .inl (d11, 360, .inl (fun _ => 0)))]) [0, 1, 2, 3, 4, 5, 6, 7, 8] rfl
      have hD9 := hD.sub (ws' := [(hm, .inr (3, [.int th, .int 6, .ref wi, .ref co, .ref sl, .ref rn, .ref so, .ref bn, .ref sm, .ref ah])), (sm, .inr (2, [.int 0, .ref gr, .ref gt, .ref gw, .ref gk, .ref gi, .ref gp, .ref go, .ref gg, .ref hm])), (wi, .inl (d1, 6, .inl fw)), (co, .inl (d2, 6, .inl fc)), (bn, .inl (d5, 3, .inl (fun _ => 0))), (rn, .inl (d6, 12, .inl fn)), (so, .inl (d7, 12, .inl (fun _ => 0))), (gk, .inl (d10, 360, .inl fk)), (gi, .inl (d11, 360, .inl (fun _ => 0)))]) [0, 1, 2, 3, 4, 5, 6, 7, 8] (by decide) rfl
      have hK9 := hK.sub (tys' := []) [] rfl
      refine W.widen (k := 1) (n := 9) (Nat.le_of_ble_eq_true rfl) (Nat.le_of_ble_eq_true rfl) ?_
      have hZ := zz_one hAe hD hP 9 [0, 1, 2, 3, 4, 5, 6, 7, 8] rfl rfl (by decide)
      exact W.iret (v := 0) hx hb hr (fun t ht hW => ⟨⟨0, (), rfl, by (first | rfl | assumption | decide | (simp_all; done) | grind), ⟨by rw [ht]; exact hP9, va_K.moved hW.alike hK9, hD9, by rw [ht]; omega⟩⟩, hS.F ht⟩) hS.2.2 dX3_counted_147
    · have nc1 : i < 6 := Nat.lt_of_not_le (fun q => c1 ((nI_leI (a := 6) (b := i) (by omega) (by omega)).mpr q))
      refine lv_iload_n hx hb dX3_counted_16 rfl (lv_at hl 2 rfl) ?_
      refine lv_aload_n hx hb dX3_counted_17 rfl (lv_at hl 0 rfl) ?_
      refine va_get (D := (dC, dI)) (ci := 3) (v := .ref sm) (C := RX3) (T := TX3) (N := 10) hx hb hts (by decide +kernel) hown hK hP 0 rfl rfl 8 (by decide) (hts (.fieldLink RX3 33 "ThatchRoofModel" "s" "LThatchRoofModel$State;") (by decide +kernel)) (fun _ h9 => h9) rfl dX3_counted_18 ?_
      refine lv_iload hx hb dX3_counted_21 (lv_at hl 4 rfl) ?_
      have hPc := hP.sub (ws' := [(sm, .inr (2, [.int 0, .ref gr, .ref gt, .ref gw, .ref gk, .ref gi, .ref gp, .ref go, .ref gg, .ref hm])), (gk, .inl (d10, 360, .inl fk))]) [1, 7] rfl
      have hKc := hK.sub (tys' := [(d10, .int)]) [5] rfl
      refine vp_callSi (va_runV (As := [.int (nI i)]) (rest := [.int 0]) ⟨hx, hb, hml, hown, hts⟩ (r2_yealms l dC dI sm hm gr gt gw gk gi gp go gg d10 fk i (by first | assumption | decide | omega) (by first | assumption | decide | omega)) (cwV 1 hts gX3_counted_X2_yealms rfl rfl rfl (by decide +kernel) ⟨Nat.le_of_ble_eq_true rfl, Nat.le_of_ble_eq_true rfl⟩) ⟨fun a U g mk q => by obtain ⟨q0, qP, qK⟩ := q; exact ⟨q0, qP, va_K.moved (u := U) (U := U.calling g mk a) (Vm.Alike.refl U.vm) qK⟩, va_recv hKc hPc (ci := 2) (q0 := 0) rfl rfl, fun U hU hW => ⟨rfl, by rw [hU]; exact hPc, va_K.moved hW.alike hKc⟩⟩ rfl rfl hl.1 rfl (lv_room (Nat.le_of_ble_eq_true rfl)) dX3_counted_23 ⟨Nat.le_of_ble_eq_true rfl, Nat.le_of_ble_eq_true rfl⟩).run (fun r10 hr10 => ?_)
      obtain rfl := hr10
      refine lv_iadd hx hb dX3_counted_26 ?_
      refine W.eq (g2 := F0 m 27 ls [.int 0]) rfl ?_
      refine lv_istore_n (lv' := [(2, .int 0), (0, .ref hm), (1, .int 3), (3, .int (nI (10 * i))), (4, .int (nI i))]) hx hb dX3_counted_27 rfl hl (by decide) rfl (fun ls hl => ?_)
      refine lv_iload_n hx hb dX3_counted_28 rfl (lv_at hl 3 rfl) ?_
      refine lv_aload_n hx hb dX3_counted_29 rfl (lv_at hl 1 rfl) ?_
      refine va_get (D := (dC, dI)) (ci := 3) (v := .ref sm) (C := RX3) (T := TX3) (N := 10) hx hb hts (by decide +kernel) hown hK hP 0 rfl rfl 8 (by decide) (hts (.fieldLink RX3 33 "ThatchRoofModel" "s" "LThatchRoofModel$State;") (by decide +kernel)) (fun _ h9 => h9) rfl dX3_counted_30 ?_
      refine lv_iload hx hb dX3_counted_33 (lv_at hl 4 rfl) ?_
      have hPc := hP.sub (ws' := [(sm, .inr (2, [.int 0, .ref gr, .ref gt, .ref gw, .ref gk, .ref gi, .ref gp, .ref go, .ref gg, .ref hm])), (hm, .inr (3, [.int th, .int 6, .ref wi, .ref co, .ref sl, .ref rn, .ref so, .ref bn, .ref sm, .ref ah])), (wi, .inl (d1, 6, .inl fw)), (co, .inl (d2, 6, .inl fc)), (gk, .inl (d10, 360, .inl fk)), (gi, .inl (d11, 360, .inl (fun _ => 0)))]) [1, 0, 2, 3, 7, 8] rfl
      have hKc := hK.sub (tys' := [(d1, .int), (d2, .int), (d10, .int), (d11, .int)]) [0, 1, 5, 6] rfl
      refine vp_callSi (va_runV (As := [.int (nI i)]) (rest := [.int (nI (10 * i))]) ⟨hx, hb, hml, hown, hts⟩ (r2_leaks l dC dI hm wi co sl rn so bn sm ah th gr gt gw gk gi gp go gg d1 d2 d10 d11 fw fc fk i (by first | assumption | decide | omega) (by first | assumption | decide | omega) (by first | assumption | decide | omega) (by first | assumption | decide | omega)) (cwV 1 hts gX3_counted_X2_leaks rfl rfl rfl (by decide +kernel) ⟨Nat.le_of_ble_eq_true rfl, Nat.le_of_ble_eq_true rfl⟩) ⟨fun a U g mk q => by obtain ⟨q0, qP, qK, qN⟩ := q; exact ⟨q0, qP, va_K.moved (u := U) (U := U.calling g mk a) (Vm.Alike.refl U.vm) qK, zNs.calling qN⟩, va_recv hKc hPc (ci := 2) (q0 := 0) rfl rfl, fun U hU hW => ⟨rfl, by rw [hU]; exact hPc, va_K.moved hW.alike hKc, zNs.warm hW hZN⟩⟩ rfl rfl hl.1 rfl (lv_room (Nat.le_of_ble_eq_true rfl)) dX3_counted_35 ⟨Nat.le_of_ble_eq_true rfl, Nat.le_of_ble_eq_true rfl⟩).run (fun r11 hr11 => ?_)
      obtain rfl := hr11
      refine lv_iadd hx hb dX3_counted_38 ?_
      refine lv_topi (fun x12 ex12 => ?_)
      obtain rfl : x12 = nI ((10 * i) + 10) := ex12.trans (nI_add (10 * i) 10)
      refine lv_istore_n (lv' := [(3, .int (nI ((10 * i) + 10))), (2, .int 0), (0, .ref hm), (1, .int 3), (4, .int (nI i))]) hx hb dX3_counted_39 rfl hl (by decide) rfl (fun ls hl => ?_)
      refine lv_iinc (v := nI (i + 1)) (lv' := [(4, .int (nI (i + 1))), (3, .int (nI ((10 * i) + 10))), (2, .int 0), (0, .ref hm), (1, .int 3)]) hx hb dX3_counted_40 hl (k := 4) rfl (by exact nI_1 i) (by decide) rfl (fun ls hl => ?_)
      refine lv_goto (tgt := 7) hx hb dX3_counted_43 (by decide) ?_
      exact ih7 (i + 1) (by omega) (by omega) _ _ (hP.sub [0, 1, 2, 3, 4, 5, 6, 7, 8] rfl) (hD.sub [0, 1, 2, 3, 4, 5, 6, 7, 8] (by decide) rfl) hS _ (lv_sub hl [3, 4, 2, 1, 0] rfl)

set_option maxHeartbeats 4000000 in
set_option maxRecDepth 100000 in
theorem r3_counted4 (l : Launch) (dC : Nat → ClassId) (dI : Nat → Nat → Nat) (sz : Nat) (hm : Nat) (wi : Nat) (co : Nat) (sl : Nat) (rn : Nat) (so : Nat) (bn : Nat) (sm : Nat) (ah : Nat) (th : Int32) (gr : Nat) (gt : Nat) (gw : Nat) (gk : Nat) (gi : Nat) (gp : Nat) (go : Nat) (gg : Nat) (d1 : ClassId) (d2 : ClassId) (d5 : ClassId) (d6 : ClassId) (d7 : ClassId) (d10 : ClassId) (d11 : ClassId) (fw : Nat → Int32) (fc : Nat → Int32) (fn : Nat → Int32) (fk : Nat → Int32) (hk : ∀ j : Nat, j < 360 → fk j = -1) (hw : ∀ j : Nat, j < 6 → fw j = 10) (hc : ∀ j : Nat, j < 6 → fc j = 6) (hn : ∀ j : Nat, j < 12 → fn j = 4) : Met l yX3_counted wsX3_counted ({ frames := 2, cells := 1, slots := 9, locals := 47 }) (va_Pc [.ref hm, .int 4] (fun U => U.heap.size = sz ∧ va_P (dC, dI) vwCl [(hm, .inr (3, [.int th, .int 6, .ref wi, .ref co, .ref sl, .ref rn, .ref so, .ref bn, .ref sm, .ref ah])), (sm, .inr (2, [.int 0, .ref gr, .ref gt, .ref gw, .ref gk, .ref gi, .ref gp, .ref go, .ref gg, .ref hm])), (wi, .inl (d1, 6, .inl fw)), (co, .inl (d2, 6, .inl fc)), (bn, .inl (d5, 3, .inl (fun _ => 0))), (rn, .inl (d6, 12, .inl fn)), (so, .inl (d7, 12, .inl (fun _ => 0))), (gk, .inl (d10, 360, .inl fk)), (gi, .inl (d11, 360, .inl (fun _ => 0)))] U.heap ∧ va_K (dC, dI) vwCl [(d1, .int), (d2, .int), (d5, .int), (d6, .int), (d7, .int), (d10, .int), (d11, .int)] U ∧ va_D (fun _ => True) [(hm, .inr (3, [.int th, .int 6, .ref wi, .ref co, .ref sl, .ref rn, .ref so, .ref bn, .ref sm, .ref ah])), (sm, .inr (2, [.int 0, .ref gr, .ref gt, .ref gw, .ref gk, .ref gi, .ref gp, .ref go, .ref gg, .ref hm])), (wi, .inl (d1, 6, .inl fw)), (co, .inl (d2, 6, .inl fc)), (bn, .inl (d5, 3, .inl (fun _ => 0))), (rn, .inl (d6, 12, .inl fn)), (so, .inl (d7, 12, .inl (fun _ => 0))), (gk, .inl (d10, 360, .inl fk)), (gi, .inl (d11, 360, .inl (fun _ => 0)))] ∧ zNs U)) (va_Qi (fun (r : Int32) (u : Unit) => r = 0) (fun (u : Unit) (t : State) => va_P (dC, dI) vwCl [(hm, .inr (3, [.int th, .int 6, .ref wi, .ref co, .ref sl, .ref rn, .ref so, .ref bn, .ref sm, .ref ah])), (sm, .inr (2, [.int 0, .ref gr, .ref gt, .ref gw, .ref gk, .ref gi, .ref gp, .ref go, .ref gg, .ref hm])), (wi, .inl (d1, 6, .inl fw)), (co, .inl (d2, 6, .inl fc)), (bn, .inl (d5, 3, .inl (fun _ => 0))), (rn, .inl (d6, 12, .inl fn)), (so, .inl (d7, 12, .inl (fun _ => 0))), (gk, .inl (d10, 360, .inl fk)), (gi, .inl (d11, 360, .inl (fun _ => 0)))] t.heap ∧ va_K (dC, dI) vwCl [] t ∧ va_D (va_A [(hm, .inr (3, [.int th, .int 6, .ref wi, .ref co, .ref sl, .ref rn, .ref so, .ref bn, .ref sm, .ref ah])), (sm, .inr (2, [.int 0, .ref gr, .ref gt, .ref gw, .ref gk, .ref gi, .ref gp, .ref go, .ref gg, .ref hm])), (wi, .inl (d1, 6, .inl fw)), (co, .inl (d2, 6, .inl fc)), (bn, .inl (d5, 3, .inl (fun _ => 0))), (rn, .inl (d6, 12, .inl fn)), (so, .inl (d7, 12, .inl (fun _ => 0))), (gk, .inl (d10, 360, .inl fk)), (gi, .inl (d11, 360, .inl (fun _ => 0)))] sz) [(hm, .inr (3, [.int th, .int 6, .ref wi, .ref co, .ref sl, .ref rn, .ref so, .ref bn, .ref sm, .ref ah])), (sm, .inr (2, [.int 0, .ref gr, .ref gt, .ref gw, .ref gk, .ref gi, .ref gp, .ref go, .ref gg, .ref hm])), (wi, .inl (d1, 6, .inl fw)), (co, .inl (d2, 6, .inl fc)), (bn, .inl (d5, 3, .inl (fun _ => 0))), (rn, .inl (d6, 12, .inl fn)), (so, .inl (d7, 12, .inl (fun _ => 0))), (gk, .inl (d10, 360, .inl fk)), (gi, .inl (d11, 360, .inl (fun _ => 0)))] ∧ sz + 1 ≤ t.heap.size) (va_A [(hm, .inr (3, [.int th, .int 6, .ref wi, .ref co, .ref sl, .ref rn, .ref so, .ref bn, .ref sm, .ref ah])), (sm, .inr (2, [.int 0, .ref gr, .ref gt, .ref gw, .ref gk, .ref gi, .ref gp, .ref go, .ref gg, .ref hm])), (wi, .inl (d1, 6, .inl fw)), (co, .inl (d2, 6, .inl fc)), (bn, .inl (d5, 3, .inl (fun _ => 0))), (rn, .inl (d6, 12, .inl fn)), (so, .inl (d7, 12, .inl (fun _ => 0))), (gk, .inl (d10, 360, .inl fk)), (gi, .inl (d11, 360, .inl (fun _ => 0)))] sz)) 1 9 (va_A [(hm, .inr (3, [.int th, .int 6, .ref wi, .ref co, .ref sl, .ref rn, .ref so, .ref bn, .ref sm, .ref ah])), (sm, .inr (2, [.int 0, .ref gr, .ref gt, .ref gw, .ref gk, .ref gi, .ref gp, .ref go, .ref gg, .ref hm])), (wi, .inl (d1, 6, .inl fw)), (co, .inl (d2, 6, .inl fc)), (bn, .inl (d5, 3, .inl (fun _ => 0))), (rn, .inl (d6, 12, .inl fn)), (so, .inl (d7, 12, .inl (fun _ => 0))), (gk, .inl (d10, 360, .inl fk)), (gi, .inl (d11, 360, .inl (fun _ => 0)))] sz) := by
  refine Met.ofW (cc := cX3_counted) (maxL := 5) (ret := (some .int)) (by decide) rfl ?_
  intro p e s m args below meth c s₁ B hml hv
  obtain ⟨rfl, hsz, hP, hK, hD0, hZN⟩ := hv
  have hx := B.exec
  have hb := B.bytes
  have hr := B.returns
  have hts := atoms_spec (ws := wsX3_counted) B.pre
  have hown : s.vm.findClass RX3 = some m.cls := findClass_of_methodNamed B.named
  have hlocks := B.notSynchronized
  subst hsz
  have hD := hD0.self (sz := s.heap.size)
  generalize hAe : va_A [(hm, .inr (3, [.int th, .int 6, .ref wi, .ref co, .ref sl, .ref rn, .ref so, .ref bn, .ref sm, .ref ah])), (sm, .inr (2, [.int 0, .ref gr, .ref gt, .ref gw, .ref gk, .ref gi, .ref gp, .ref go, .ref gg, .ref hm])), (wi, .inl (d1, 6, .inl fw)), (co, .inl (d2, 6, .inl fc)), (bn, .inl (d5, 3, .inl (fun _ => 0))), (rn, .inl (d6, 12, .inl fn)), (so, .inl (d7, 12, .inl (fun _ => 0))), (gk, .inl (d10, 360, .inl fk)), (gi, .inl (d11, 360, .inl (fun _ => 0)))] s.heap.size = A at hD ⊢
  have hA : ∀ q : Nat, s.heap.size ≤ q → A q := fun q h => by rw [← hAe]; exact Or.inr h
  have hS : va_S A s.heap s.heap [] := va_S.rf
  have hP : va_P (dC, dI) vwCl [(hm, .inr (3, [.int th, .int 6, .ref wi, .ref co, .ref sl, .ref rn, .ref so, .ref bn, .ref sm, .ref ah])), (sm, .inr (2, [.int 0, .ref gr, .ref gt, .ref gw, .ref gk, .ref gi, .ref gp, .ref go, .ref gg, .ref hm])), (wi, .inl (d1, 6, .inl fw)), (co, .inl (d2, 6, .inl fc)), (bn, .inl (d5, 3, .inl (fun _ => 0))), (rn, .inl (d6, 12, .inl fn)), (so, .inl (d7, 12, .inl (fun _ => 0))), (gk, .inl (d10, 360, .inl fk)), (gi, .inl (d11, 360, .inl (fun _ => 0)))] s.heap := hP
  have hl := lv_entry ([.ref hm, .int 4]) (n := 5) (Nat.le_of_ble_eq_true rfl)
  rw [lg_entry_eq]
  generalize (lg_sl ([.ref hm, .int 4]) ++ List.replicate (5 - (lg_sl ([.ref hm, .int 4])).length) Slot.unset).toArray = ls at hl ⊢
  have hl : lv_has ls 5 [(0, .ref hm), (1, .int 4)] := hl
  refine lv_iconst (v := 0) hx hb dX3_counted_0 (by decide) ?_
  refine lv_istore_n (lv' := [(2, .int 0), (0, .ref hm), (1, .int 4)]) hx hb dX3_counted_1 rfl hl (by decide) rfl (fun ls hl => ?_)
  refine lv_iconst (v := 0) hx hb dX3_counted_2 (by decide) ?_
  refine lv_istore_n (lv' := [(3, .int 0), (2, .int 0), (0, .ref hm), (1, .int 4)]) hx hb dX3_counted_3 rfl hl (by decide) rfl (fun ls hl => ?_)
  refine lv_iconst (v := 0) hx hb dX3_counted_4 (by decide) ?_
  refine lv_istore (lv' := [(4, .int 0), (3, .int 0), (2, .int 0), (0, .ref hm), (1, .int 4)]) hx hb dX3_counted_5 hl (by decide) rfl (fun ls hl => ?_)
  suffices K7 : ∀ (n : Nat) (i : Nat), (i ≤ 6) → 6 - i < n → ∀ (H : Heap) (locs : List Loc), va_P (dC, dI) vwCl [(hm, .inr (3, [.int th, .int 6, .ref wi, .ref co, .ref sl, .ref rn, .ref so, .ref bn, .ref sm, .ref ah])), (sm, .inr (2, [.int 0, .ref gr, .ref gt, .ref gw, .ref gk, .ref gi, .ref gp, .ref go, .ref gg, .ref hm])), (wi, .inl (d1, 6, .inl fw)), (co, .inl (d2, 6, .inl fc)), (bn, .inl (d5, 3, .inl (fun _ => 0))), (rn, .inl (d6, 12, .inl fn)), (so, .inl (d7, 12, .inl (fun _ => 0))), (gk, .inl (d10, 360, .inl fk)), (gi, .inl (d11, 360, .inl (fun _ => 0)))] H → va_D A [(hm, .inr (3, [.int th, .int 6, .ref wi, .ref co, .ref sl, .ref rn, .ref so, .ref bn, .ref sm, .ref ah])), (sm, .inr (2, [.int 0, .ref gr, .ref gt, .ref gw, .ref gk, .ref gi, .ref gp, .ref go, .ref gg, .ref hm])), (wi, .inl (d1, 6, .inl fw)), (co, .inl (d2, 6, .inl fc)), (bn, .inl (d5, 3, .inl (fun _ => 0))), (rn, .inl (d6, 12, .inl fn)), (so, .inl (d7, 12, .inl (fun _ => 0))), (gk, .inl (d10, 360, .inl fk)), (gi, .inl (d11, 360, .inl (fun _ => 0)))] → va_S A s.heap H locs → ∀ ls : Array Slot, lv_has ls 5 [(0, .ref hm), (1, .int 4), (2, .int 0), (3, .int (nI (10 * i))), (4, .int (nI i))] → W p l e ({ frames := 2, cells := 1, slots := 9, locals := 47 } : Room) s m (([.ref hm, .int 4] : List Value).toArray) below meth c H locs 0 0 (MQ below (va_Qi (fun (r : Int32) (u : Unit) => r = 0) (fun (u : Unit) (t : State) => va_P (dC, dI) vwCl [(hm, .inr (3, [.int th, .int 6, .ref wi, .ref co, .ref sl, .ref rn, .ref so, .ref bn, .ref sm, .ref ah])), (sm, .inr (2, [.int 0, .ref gr, .ref gt, .ref gw, .ref gk, .ref gi, .ref gp, .ref go, .ref gg, .ref hm])), (wi, .inl (d1, 6, .inl fw)), (co, .inl (d2, 6, .inl fc)), (bn, .inl (d5, 3, .inl (fun _ => 0))), (rn, .inl (d6, 12, .inl fn)), (so, .inl (d7, 12, .inl (fun _ => 0))), (gk, .inl (d10, 360, .inl fk)), (gi, .inl (d11, 360, .inl (fun _ => 0)))] t.heap ∧ va_K (dC, dI) vwCl [] t ∧ va_D A [(hm, .inr (3, [.int th, .int 6, .ref wi, .ref co, .ref sl, .ref rn, .ref so, .ref bn, .ref sm, .ref ah])), (sm, .inr (2, [.int 0, .ref gr, .ref gt, .ref gw, .ref gk, .ref gi, .ref gp, .ref go, .ref gg, .ref hm])), (wi, .inl (d1, 6, .inl fw)), (co, .inl (d2, 6, .inl fc)), (bn, .inl (d5, 3, .inl (fun _ => 0))), (rn, .inl (d6, 12, .inl fn)), (so, .inl (d7, 12, .inl (fun _ => 0))), (gk, .inl (d10, 360, .inl fk)), (gi, .inl (d11, 360, .inl (fun _ => 0)))] ∧ s.heap.size + 1 ≤ t.heap.size) A) (([.ref hm, .int 4] : List Value).toArray) s 1 9 A) (F0 m 7 ls []) from
    K7 _ 0 (by decide) (Nat.lt_succ_self _) _ _ hP hD hS _ (lv_sub hl [3, 4, 2, 1, 0] rfl)
  intro n
  induction n with
  | zero =>
    intro i hi hn
    exact absurd hn (Nat.not_lt_zero _)
  | succ n ih7 =>
    intro i hi hn7 H locs hP hD hS ls hl
    refine lv_iload hx hb dX3_counted_7 (lv_at hl 4 rfl) ?_
    refine lv_aload_n hx hb dX3_counted_9 rfl (lv_at hl 0 rfl) ?_
    refine va_get (D := (dC, dI)) (ci := 3) (v := .int 6) (C := RX3) (T := TX3) (N := 10) hx hb hts (by decide +kernel) hown hK hP 0 rfl rfl 1 (by decide) (hts (.fieldLink RX3 44 "ThatchRoofModel" "roofs" "I") (by decide +kernel)) (fun _ h9 => h9) rfl dX3_counted_10 ?_
    refine lv_icmp_ge (tgt := 46) hx hb dX3_counted_13 (by decide) (fun c1 => ?_) (fun c1 => ?_)
    · have nc1 : 6 ≤ i := (nI_leI (a := 6) (b := i) (by omega) (by omega)).mp c1
      have h9 : i = 6 := by omega
      rw [show nI (10 * i) = 60 from by rw [h9]; rfl] at hl
      refine lv_bipush (v := 9) hx hb dX3_counted_46 (by decide) ?_
      refine va_newa (atype := .int) (ty := .int) (N' := 9) (a0 := (9, .inl (fun _ => 0))) hx hb (hts (.arrayClass .int) (by decide +kernel)) rfl hK hP hD hS hA (fun _ => rfl) (by decide) (by decide) (by decide) (Nat.le_of_ble_eq_true rfl) (Nat.le_of_ble_eq_true rfl) dX3_counted_48 (fun q2 cA3 H hK hP hD hS => ?_)
      refine W.widen (k := 1) (n := 9) (Nat.le_of_ble_eq_true rfl) (Nat.le_of_ble_eq_true rfl) ?_
      have hK : va_K (dC, dI) vwCl [(d1, .int), (d2, .int), (d5, .int), (d6, .int), (d7, .int), (d10, .int), (d11, .int), (cA3, .int)] s := hK
      have hP : va_P (dC, dI) vwCl [(hm, .inr (3, [.int th, .int 6, .ref wi, .ref co, .ref sl, .ref rn, .ref so, .ref bn, .ref sm, .ref ah])), (sm, .inr (2, [.int 0, .ref gr, .ref gt, .ref gw, .ref gk, .ref gi, .ref gp, .ref go, .ref gg, .ref hm])), (wi, .inl (d1, 6, .inl fw)), (co, .inl (d2, 6, .inl fc)), (bn, .inl (d5, 3, .inl (fun _ => 0))), (rn, .inl (d6, 12, .inl fn)), (so, .inl (d7, 12, .inl (fun _ => 0))), (gk, .inl (d10, 360, .inl fk)), (gi, .inl (d11, 360, .inl (fun _ => 0))), (q2, .inl (cA3, 9, .inl (fun _ => 0)))] H := hP
      have hD : va_D A [(hm, .inr (3, [.int th, .int 6, .ref wi, .ref co, .ref sl, .ref rn, .ref so, .ref bn, .ref sm, .ref ah])), (sm, .inr (2, [.int 0, .ref gr, .ref gt, .ref gw, .ref gk, .ref gi, .ref gp, .ref go, .ref gg, .ref hm])), (wi, .inl (d1, 6, .inl fw)), (co, .inl (d2, 6, .inl fc)), (bn, .inl (d5, 3, .inl (fun _ => 0))), (rn, .inl (d6, 12, .inl fn)), (so, .inl (d7, 12, .inl (fun _ => 0))), (gk, .inl (d10, 360, .inl fk)), (gi, .inl (d11, 360, .inl (fun _ => 0))), (q2, .inl (cA3, 9, .inl (fun _ => 0)))] := hD
      refine lv_dup hx hb dX3_counted_50 rfl ?_
      refine lv_iconst (v := 0) hx hb dX3_counted_51 (by decide) ?_
      refine lv_aload_n hx hb dX3_counted_52 rfl (lv_at hl 0 rfl) ?_
      refine va_get (D := (dC, dI)) (ci := 3) (v := .ref sm) (C := RX3) (T := TX3) (N := 10) hx hb hts (by decide +kernel) hown hK hP 0 rfl rfl 8 (by decide) (hts (.fieldLink RX3 33 "ThatchRoofModel" "s" "LThatchRoofModel$State;") (by decide +kernel)) (fun _ h9 => h9) rfl dX3_counted_53 ?_
      refine va_getN (D := (dC, dI)) (ci := 2) (v := .int 0) (C := RX2) (T := TX2) (N := 10) hx hb hts (by decide +kernel) hown hK hP 1 rfl rfl 0 (by decide) (va_Nw.use rfl (zN_RX3_128 hZN)) (fun _ h9 => h9) rfl dX3_counted_56 ?_
      refine va_iast hx hb hK hP hD hS 9 7 rfl rfl (vp_in_nI (n := 0) (by decide) (by decide)) dX3_counted_59 (fun H locs hP hD hS => ?_)
      have hP : va_P (dC, dI) vwCl [(hm, .inr (3, [.int th, .int 6, .ref wi, .ref co, .ref sl, .ref rn, .ref so, .ref bn, .ref sm, .ref ah])), (sm, .inr (2, [.int 0, .ref gr, .ref gt, .ref gw, .ref gk, .ref gi, .ref gp, .ref go, .ref gg, .ref hm])), (wi, .inl (d1, 6, .inl fw)), (co, .inl (d2, 6, .inl fc)), (bn, .inl (d5, 3, .inl (fun _ => 0))), (rn, .inl (d6, 12, .inl fn)), (so, .inl (d7, 12, .inl (fun _ => 0))), (gk, .inl (d10, 360, .inl fk)), (gi, .inl (d11, 360, .inl (fun _ => 0))), (q2, .inl (cA3, 9, .inl (upd (fun _ => 0) 0 0)))] H := hP
      have hD : va_D A [(hm, .inr (3, [.int th, .int 6, .ref wi, .ref co, .ref sl, .ref rn, .ref so, .ref bn, .ref sm, .ref ah])), (sm, .inr (2, [.int 0, .ref gr, .ref gt, .ref gw, .ref gk, .ref gi, .ref gp, .ref go, .ref gg, .ref hm])), (wi, .inl (d1, 6, .inl fw)), (co, .inl (d2, 6, .inl fc)), (bn, .inl (d5, 3, .inl (fun _ => 0))), (rn, .inl (d6, 12, .inl fn)), (so, .inl (d7, 12, .inl (fun _ => 0))), (gk, .inl (d10, 360, .inl fk)), (gi, .inl (d11, 360, .inl (fun _ => 0))), (q2, .inl (cA3, 9, .inl (upd (fun _ => 0) 0 0)))] := hD
      refine lv_dup hx hb dX3_counted_60 rfl ?_
      refine lv_iconst (v := 1) hx hb dX3_counted_61 (by decide) ?_
      refine lv_aload_n hx hb dX3_counted_62 rfl (lv_at hl 0 rfl) ?_
      refine va_get (D := (dC, dI)) (ci := 3) (v := .int 6) (C := RX3) (T := TX3) (N := 10) hx hb hts (by decide +kernel) hown hK hP 0 rfl rfl 1 (by decide) (hts (.fieldLink RX3 44 "ThatchRoofModel" "roofs" "I") (by decide +kernel)) (fun _ h9 => h9) rfl dX3_counted_63 ?_
      refine va_iast hx hb hK hP hD hS 9 7 rfl rfl (vp_in_nI (n := 1) (by decide) (by decide)) dX3_counted_66 (fun H locs hP hD hS => ?_)
      have hP : va_P (dC, dI) vwCl [(hm, .inr (3, [.int th, .int 6, .ref wi, .ref co, .ref sl, .ref rn, .ref so, .ref bn, .ref sm, .ref ah])), (sm, .inr (2, [.int 0, .ref gr, .ref gt, .ref gw, .ref gk, .ref gi, .ref gp, .ref go, .ref gg, .ref hm])), (wi, .inl (d1, 6, .inl fw)), (co, .inl (d2, 6, .inl fc)), (bn, .inl (d5, 3, .inl (fun _ => 0))), (rn, .inl (d6, 12, .inl fn)), (so, .inl (d7, 12, .inl (fun _ => 0))), (gk, .inl (d10, 360, .inl fk)), (gi, .inl (d11, 360, .inl (fun _ => 0))), (q2, .inl (cA3, 9, .inl (upd (upd (fun _ => 0) 0 0) 1 6)))] H := hP
      have hD : va_D A [(hm, .inr (3, [.int th, .int 6, .ref wi, .ref co, .ref sl, .ref rn, .ref so, .ref bn, .ref sm, .ref ah])), (sm, .inr (2, [.int 0, .ref gr, .ref gt, .ref gw, .ref gk, .ref gi, .ref gp, .ref go, .ref gg, .ref hm])), (wi, .inl (d1, 6, .inl fw)), (co, .inl (d2, 6, .inl fc)), (bn, .inl (d5, 3, .inl (fun _ => 0))), (rn, .inl (d6, 12, .inl fn)), (so, .inl (d7, 12, .inl (fun _ => 0))), (gk, .inl (d10, 360, .inl fk)), (gi, .inl (d11, 360, .inl (fun _ => 0))), (q2, .inl (cA3, 9, .inl (upd (upd (fun _ => 0) 0 0) 1 6)))] := hD
      refine lv_dup hx hb dX3_counted_67 rfl ?_
      refine lv_iconst (v := 2) hx hb dX3_counted_68 (by decide) ?_
      refine lv_aload_n hx hb dX3_counted_69 rfl (lv_at hl 0 rfl) ?_
      refine va_get (D := (dC, dI)) (ci := 3) (v := .ref bn) (C := RX3) (T := TX3) (N := 10) hx hb hts (by decide +kernel) hown hK hP 0 rfl rfl 7 (by decide) (hts (.fieldLink RX3 25 "ThatchRoofModel" "barn" "[I") (by decide +kernel)) (fun _ h9 => h9) rfl dX3_counted_70 ?_
      refine lv_iconst (v := 0) hx hb dX3_counted_73 (by decide) ?_
      refine va_iald hx hb hK hP 4 2 rfl rfl (vp_in_nI (n := 0) (by decide) (by decide)) dX3_counted_74 ?_
      refine lv_topi (fun x4 ex4 => ?_)
      obtain rfl : x4 = 0 := ex4
      refine va_iast hx hb hK hP hD hS 9 7 rfl rfl (vp_in_nI (n := 2) (by decide) (by decide)) dX3_counted_75 (fun H locs hP hD hS => ?_)
      have hP : va_P (dC, dI) vwCl [(hm, .inr (3, [.int th, .int 6, .ref wi, .ref co, .ref sl, .ref rn, .ref so, .ref bn, .ref sm, .ref ah])), (sm, .inr (2, [.int 0, .ref gr, .ref gt, .ref gw, .ref gk, .ref gi, .ref gp, .ref go, .ref gg, .ref hm])), (wi, .inl (d1, 6, .inl fw)), (co, .inl (d2, 6, .inl fc)), (bn, .inl (d5, 3, .inl (fun _ => 0))), (rn, .inl (d6, 12, .inl fn)), (so, .inl (d7, 12, .inl (fun _ => 0))), (gk, .inl (d10, 360, .inl fk)), (gi, .inl (d11, 360, .inl (fun _ => 0))), (q2, .inl (cA3, 9, .inl (upd (upd (upd (fun _ => 0) 0 0) 1 6) 2 0)))] H := hP
      have hD : va_D A [(hm, .inr (3, [.int th, .int 6, .ref wi, .ref co, .ref sl, .ref rn, .ref so, .ref bn, .ref sm, .ref ah])), (sm, .inr (2, [.int 0, .ref gr, .ref gt, .ref gw, .ref gk, .ref gi, .ref gp, .ref go, .ref gg, .ref hm])), (wi, .inl (d1, 6, .inl fw)), (co, .inl (d2, 6, .inl fc)), (bn, .inl (d5, 3, .inl (fun _ => 0))), (rn, .inl (d6, 12, .inl fn)), (so, .inl (d7, 12, .inl (fun _ => 0))), (gk, .inl (d10, 360, .inl fk)), (gi, .inl (d11, 360, .inl (fun _ => 0))), (q2, .inl (cA3, 9, .inl (upd (upd (upd (fun _ => 0) 0 0) 1 6) 2 0)))] := hD
      refine lv_dup hx hb dX3_counted_76 rfl ?_
      refine lv_iconst (v := 3) hx hb dX3_counted_77 (by decide) ?_
      refine lv_aload_n hx hb dX3_counted_78 rfl (lv_at hl 0 rfl) ?_
      refine va_get (D := (dC, dI)) (ci := 3) (v := .ref bn) (C := RX3) (T := TX3) (N := 10) hx hb hts (by decide +kernel) hown hK hP 0 rfl rfl 7 (by decide) (hts (.fieldLink RX3 25 "ThatchRoofModel" "barn" "[I") (by decide +kernel)) (fun _ h9 => h9) rfl dX3_counted_79 ?_
      refine lv_iconst (v := 1) hx hb dX3_counted_82 (by decide) ?_
      refine va_iald hx hb hK hP 4 2 rfl rfl (vp_in_nI (n := 1) (by decide) (by decide)) dX3_counted_83 ?_
      refine lv_topi (fun x5 ex5 => ?_)
      obtain rfl : x5 = 0 := ex5
      refine va_iast hx hb hK hP hD hS 9 7 rfl rfl (vp_in_nI (n := 3) (by decide) (by decide)) dX3_counted_84 (fun H locs hP hD hS => ?_)
      have hP : va_P (dC, dI) vwCl [(hm, .inr (3, [.int th, .int 6, .ref wi, .ref co, .ref sl, .ref rn, .ref so, .ref bn, .ref sm, .ref ah])), (sm, .inr (2, [.int 0, .ref gr, .ref gt, .ref gw, .ref gk, .ref gi, .ref gp, .ref go, .ref gg, .ref hm])), (wi, .inl (d1, 6, .inl fw)), (co, .inl (d2, 6, .inl fc)), (bn, .inl (d5, 3, .inl (fun _ => 0))), (rn, .inl (d6, 12, .inl fn)), (so, .inl (d7, 12, .inl (fun _ => 0))), (gk, .inl (d10, 360, .inl fk)), (gi, .inl (d11, 360, .inl (fun _ => 0))), (q2, .inl (cA3, 9, .inl (upd (upd (upd (upd (fun _ => 0) 0 0) 1 6) 2 0) 3 0)))] H := hP
      have hD : va_D A [(hm, .inr (3, [.int th, .int 6, .ref wi, .ref co, .ref sl, .ref rn, .ref so, .ref bn, .ref sm, .ref ah])), (sm, .inr (2, [.int 0, .ref gr, .ref gt, .ref gw, .ref gk, .ref gi, .ref gp, .ref go, .ref gg, .ref hm])), (wi, .inl (d1, 6, .inl fw)), (co, .inl (d2, 6, .inl fc)), (bn, .inl (d5, 3, .inl (fun _ => 0))), (rn, .inl (d6, 12, .inl fn)), (so, .inl (d7, 12, .inl (fun _ => 0))), (gk, .inl (d10, 360, .inl fk)), (gi, .inl (d11, 360, .inl (fun _ => 0))), (q2, .inl (cA3, 9, .inl (upd (upd (upd (upd (fun _ => 0) 0 0) 1 6) 2 0) 3 0)))] := hD
      refine lv_dup hx hb dX3_counted_85 rfl ?_
      refine lv_iconst (v := 4) hx hb dX3_counted_86 (by decide) ?_
      refine lv_aload_n hx hb dX3_counted_87 rfl (lv_at hl 0 rfl) ?_
      refine va_get (D := (dC, dI)) (ci := 3) (v := .ref bn) (C := RX3) (T := TX3) (N := 10) hx hb hts (by decide +kernel) hown hK hP 0 rfl rfl 7 (by decide) (hts (.fieldLink RX3 25 "ThatchRoofModel" "barn" "[I") (by decide +kernel)) (fun _ h9 => h9) rfl dX3_counted_88 ?_
      refine lv_iconst (v := 2) hx hb dX3_counted_91 (by decide) ?_
      refine va_iald hx hb hK hP 4 2 rfl rfl (vp_in_nI (n := 2) (by decide) (by decide)) dX3_counted_92 ?_
      refine lv_topi (fun x6 ex6 => ?_)
      obtain rfl : x6 = 0 := ex6
      refine va_iast hx hb hK hP hD hS 9 7 rfl rfl (vp_in_nI (n := 4) (by decide) (by decide)) dX3_counted_93 (fun H locs hP hD hS => ?_)
      have hP : va_P (dC, dI) vwCl [(hm, .inr (3, [.int th, .int 6, .ref wi, .ref co, .ref sl, .ref rn, .ref so, .ref bn, .ref sm, .ref ah])), (sm, .inr (2, [.int 0, .ref gr, .ref gt, .ref gw, .ref gk, .ref gi, .ref gp, .ref go, .ref gg, .ref hm])), (wi, .inl (d1, 6, .inl fw)), (co, .inl (d2, 6, .inl fc)), (bn, .inl (d5, 3, .inl (fun _ => 0))), (rn, .inl (d6, 12, .inl fn)), (so, .inl (d7, 12, .inl (fun _ => 0))), (gk, .inl (d10, 360, .inl fk)), (gi, .inl (d11, 360, .inl (fun _ => 0))), (q2, .inl (cA3, 9, .inl (upd (upd (upd (upd (upd (fun _ => 0) 0 0) 1 6) 2 0) 3 0) 4 0)))] H := hP
      have hD : va_D A [(hm, .inr (3, [.int th, .int 6, .ref wi, .ref co, .ref sl, .ref rn, .ref so, .ref bn, .ref sm, .ref ah])), (sm, .inr (2, [.int 0, .ref gr, .ref gt, .ref gw, .ref gk, .ref gi, .ref gp, .ref go, .ref gg, .ref hm])), (wi, .inl (d1, 6, .inl fw)), (co, .inl (d2, 6, .inl fc)), (bn, .inl (d5, 3, .inl (fun _ => 0))), (rn, .inl (d6, 12, .inl fn)), (so, .inl (d7, 12, .inl (fun _ => 0))), (gk, .inl (d10, 360, .inl fk)), (gi, .inl (d11, 360, .inl (fun _ => 0))), (q2, .inl (cA3, 9, .inl (upd (upd (upd (upd (upd (fun _ => 0) 0 0) 1 6) 2 0) 3 0) 4 0)))] := hD
      refine lv_dup hx hb dX3_counted_94 rfl ?_
      refine lv_iconst (v := 5) hx hb dX3_counted_95 (by decide) ?_
      refine lv_iload_n hx hb dX3_counted_96 rfl (lv_at hl 2 rfl) ?_
      refine va_iast hx hb hK hP hD hS 9 7 rfl rfl (vp_in_nI (n := 5) (by decide) (by decide)) dX3_counted_97 (fun H locs hP hD hS => ?_)
      have hP : va_P (dC, dI) vwCl [(hm, .inr (3, [.int th, .int 6, .ref wi, .ref co, .ref sl, .ref rn, .ref so, .ref bn, .ref sm, .ref ah])), (sm, .inr (2, [.int 0, .ref gr, .ref gt, .ref gw, .ref gk, .ref gi, .ref gp, .ref go, .ref gg, .ref hm])), (wi, .inl (d1, 6, .inl fw)), (co, .inl (d2, 6, .inl fc)), (bn, .inl (d5, 3, .inl (fun _ => 0))), (rn, .inl (d6, 12, .inl fn)), (so, .inl (d7, 12, .inl (fun _ => 0))), (gk, .inl (d10, 360, .inl fk)), (gi, .inl (d11, 360, .inl (fun _ => 0))), (q2, .inl (cA3, 9, .inl (upd (upd (upd (upd (upd (upd (fun _ => 0) 0 0) 1 6) 2 0) 3 0) 4 0) 5 0)))] H := hP
      have hD : va_D A [(hm, .inr (3, [.int th, .int 6, .ref wi, .ref co, .ref sl, .ref rn, .ref so, .ref bn, .ref sm, .ref ah])), (sm, .inr (2, [.int 0, .ref gr, .ref gt, .ref gw, .ref gk, .ref gi, .ref gp, .ref go, .ref gg, .ref hm])), (wi, .inl (d1, 6, .inl fw)), (co, .inl (d2, 6, .inl fc)), (bn, .inl (d5, 3, .inl (fun _ => 0))), (rn, .inl (d6, 12, .inl fn)), (so, .inl (d7, 12, .inl (fun _ => 0))), (gk, .inl (d10, 360, .inl fk)), (gi, .inl (d11, 360, .inl (fun _ => 0))), (q2, .inl (cA3, 9, .inl (upd (upd (upd (upd (upd (upd (fun _ => 0) 0 0) 1 6) 2 0) 3 0) 4 0) 5 0)))] := hD
      refine lv_dup hx hb dX3_counted_98 rfl ?_
      refine lv_bipush (v := 6) hx hb dX3_counted_99 (by decide) ?_
      refine lv_iload_n hx hb dX3_counted_101 rfl (lv_at hl 3 rfl) ?_
      refine va_iast hx hb hK hP hD hS 9 7 rfl rfl (vp_in_nI (n := 6) (by decide) (by decide)) dX3_counted_102 (fun H locs hP hD hS => ?_)
      have hP : va_P (dC, dI) vwCl [(hm, .inr (3, [.int th, .int 6, .ref wi, .ref co, .ref sl, .ref rn, .ref so, .ref bn, .ref sm, .ref ah])), (sm, .inr (2, [.int 0, .ref gr, .ref gt, .ref gw, .ref gk, .ref gi, .ref gp, .ref go, .ref gg, .ref hm])), (wi, .inl (d1, 6, .inl fw)), (co, .inl (d2, 6, .inl fc)), (bn, .inl (d5, 3, .inl (fun _ => 0))), (rn, .inl (d6, 12, .inl fn)), (so, .inl (d7, 12, .inl (fun _ => 0))), (gk, .inl (d10, 360, .inl fk)), (gi, .inl (d11, 360, .inl (fun _ => 0))), (q2, .inl (cA3, 9, .inl (upd (upd (upd (upd (upd (upd (upd (fun _ => 0) 0 0) 1 6) 2 0) 3 0) 4 0) 5 0) 6 60)))] H := hP
      have hD : va_D A [(hm, .inr (3, [.int th, .int 6, .ref wi, .ref co, .ref sl, .ref rn, .ref so, .ref bn, .ref sm, .ref ah])), (sm, .inr (2, [.int 0, .ref gr, .ref gt, .ref gw, .ref gk, .ref gi, .ref gp, .ref go, .ref gg, .ref hm])), (wi, .inl (d1, 6, .inl fw)), (co, .inl (d2, 6, .inl fc)), (bn, .inl (d5, 3, .inl (fun _ => 0))), (rn, .inl (d6, 12, .inl fn)), (so, .inl (d7, 12, .inl (fun _ => 0))), (gk, .inl (d10, 360, .inl fk)), (gi, .inl (d11, 360, .inl (fun _ => 0))), (q2, .inl (cA3, 9, .inl (upd (upd (upd (upd (upd (upd (upd (fun _ => 0) 0 0) 1 6) 2 0) 3 0) 4 0) 5 0) 6 60)))] := hD
      refine lv_dup hx hb dX3_counted_103 rfl ?_
      refine lv_bipush (v := 7) hx hb dX3_counted_104 (by decide) ?_
      refine lv_aload_n hx hb dX3_counted_106 rfl (lv_at hl 0 rfl) ?_
      refine va_get (D := (dC, dI)) (ci := 3) (v := .ref rn) (C := RX3) (T := TX3) (N := 10) hx hb hts (by decide +kernel) hown hK hP 0 rfl rfl 5 (by decide) (hts (.fieldLink RX3 19 "ThatchRoofModel" "rain" "[I") (by decide +kernel)) (fun _ h9 => h9) rfl dX3_counted_107 ?_
      refine lv_aload_n hx hb dX3_counted_110 rfl (lv_at hl 0 rfl) ?_
      refine va_get (D := (dC, dI)) (ci := 3) (v := .ref sm) (C := RX3) (T := TX3) (N := 10) hx hb hts (by decide +kernel) hown hK hP 0 rfl rfl 8 (by decide) (hts (.fieldLink RX3 33 "ThatchRoofModel" "s" "LThatchRoofModel$State;") (by decide +kernel)) (fun _ h9 => h9) rfl dX3_counted_111 ?_
      refine va_getN (D := (dC, dI)) (ci := 2) (v := .int 0) (C := RX2) (T := TX2) (N := 10) hx hb hts (by decide +kernel) hown hK hP 1 rfl rfl 0 (by decide) (va_Nw.use rfl (zN_RX3_128 hZN)) (fun _ h9 => h9) rfl dX3_counted_114 ?_
      refine lv_bipush (v := 12) hx hb dX3_counted_117 (by decide) ?_
      refine lv_irem hx hb dX3_counted_119 (by decide) ?_
      refine W.eq (g2 := F0 m 120 ls [.int 0, .ref rn, .int 7, .ref q2, .ref q2]) rfl ?_
      refine va_iald hx hb hK hP 5 3 rfl rfl (vp_in_nI (n := 0) (by decide) (by decide)) dX3_counted_120 ?_
      refine lv_topi (fun x7 ex7 => ?_)
      obtain rfl : x7 = 4 := ex7.trans (hn 0 (by decide))
      refine va_iast hx hb hK hP hD hS 9 7 rfl rfl (vp_in_nI (n := 7) (by decide) (by decide)) dX3_counted_121 (fun H locs hP hD hS => ?_)
      have hP : va_P (dC, dI) vwCl [(hm, .inr (3, [.int th, .int 6, .ref wi, .ref co, .ref sl, .ref rn, .ref so, .ref bn, .ref sm, .ref ah])), (sm, .inr (2, [.int 0, .ref gr, .ref gt, .ref gw, .ref gk, .ref gi, .ref gp, .ref go, .ref gg, .ref hm])), (wi, .inl (d1, 6, .inl fw)), (co, .inl (d2, 6, .inl fc)), (bn, .inl (d5, 3, .inl (fun _ => 0))), (rn, .inl (d6, 12, .inl fn)), (so, .inl (d7, 12, .inl (fun _ => 0))), (gk, .inl (d10, 360, .inl fk)), (gi, .inl (d11, 360, .inl (fun _ => 0))), (q2, .inl (cA3, 9, .inl (upd (upd (upd (upd (upd (upd (upd (upd (fun _ => 0) 0 0) 1 6) 2 0) 3 0) 4 0) 5 0) 6 60) 7 4)))] H := hP
      have hD : va_D A [(hm, .inr (3, [.int th, .int 6, .ref wi, .ref co, .ref sl, .ref rn, .ref so, .ref bn, .ref sm, .ref ah])), (sm, .inr (2, [.int 0, .ref gr, .ref gt, .ref gw, .ref gk, .ref gi, .ref gp, .ref go, .ref gg, .ref hm])), (wi, .inl (d1, 6, .inl fw)), (co, .inl (d2, 6, .inl fc)), (bn, .inl (d5, 3, .inl (fun _ => 0))), (rn, .inl (d6, 12, .inl fn)), (so, .inl (d7, 12, .inl (fun _ => 0))), (gk, .inl (d10, 360, .inl fk)), (gi, .inl (d11, 360, .inl (fun _ => 0))), (q2, .inl (cA3, 9, .inl (upd (upd (upd (upd (upd (upd (upd (upd (fun _ => 0) 0 0) 1 6) 2 0) 3 0) 4 0) 5 0) 6 60) 7 4)))] := hD
      refine lv_dup hx hb dX3_counted_122 rfl ?_
      refine lv_bipush (v := 8) hx hb dX3_counted_123 (by decide) ?_
      refine lv_aload_n hx hb dX3_counted_125 rfl (lv_at hl 0 rfl) ?_
      refine va_get (D := (dC, dI)) (ci := 3) (v := .ref so) (C := RX3) (T := TX3) (N := 10) hx hb hts (by decide +kernel) hown hK hP 0 rfl rfl 6 (by decide) (hts (.fieldLink RX3 22 "ThatchRoofModel" "storm" "[I") (by decide +kernel)) (fun _ h9 => h9) rfl dX3_counted_126 ?_
      refine lv_aload_n hx hb dX3_counted_129 rfl (lv_at hl 0 rfl) ?_
      refine va_get (D := (dC, dI)) (ci := 3) (v := .ref sm) (C := RX3) (T := TX3) (N := 10) hx hb hts (by decide +kernel) hown hK hP 0 rfl rfl 8 (by decide) (hts (.fieldLink RX3 33 "ThatchRoofModel" "s" "LThatchRoofModel$State;") (by decide +kernel)) (fun _ h9 => h9) rfl dX3_counted_130 ?_
      refine va_getN (D := (dC, dI)) (ci := 2) (v := .int 0) (C := RX2) (T := TX2) (N := 10) hx hb hts (by decide +kernel) hown hK hP 1 rfl rfl 0 (by decide) (va_Nw.use rfl (zN_RX3_128 hZN)) (fun _ h9 => h9) rfl dX3_counted_133 ?_
      refine lv_bipush (v := 12) hx hb dX3_counted_136 (by decide) ?_
      refine lv_irem hx hb dX3_counted_138 (by decide) ?_
      refine W.eq (g2 := F0 m 139 ls [.int 0, .ref so, .int 8, .ref q2, .ref q2]) rfl ?_
      refine va_iald hx hb hK hP 6 4 rfl rfl (vp_in_nI (n := 0) (by decide) (by decide)) dX3_counted_139 ?_
      refine lv_topi (fun x8 ex8 => ?_)
      obtain rfl : x8 = 0 := ex8
      refine va_iast hx hb hK hP hD hS 9 7 rfl rfl (vp_in_nI (n := 8) (by decide) (by decide)) dX3_counted_140 (fun H locs hP hD hS => ?_)
      have hP : va_P (dC, dI) vwCl [(hm, .inr (3, [.int th, .int 6, .ref wi, .ref co, .ref sl, .ref rn, .ref so, .ref bn, .ref sm, .ref ah])), (sm, .inr (2, [.int 0, .ref gr, .ref gt, .ref gw, .ref gk, .ref gi, .ref gp, .ref go, .ref gg, .ref hm])), (wi, .inl (d1, 6, .inl fw)), (co, .inl (d2, 6, .inl fc)), (bn, .inl (d5, 3, .inl (fun _ => 0))), (rn, .inl (d6, 12, .inl fn)), (so, .inl (d7, 12, .inl (fun _ => 0))), (gk, .inl (d10, 360, .inl fk)), (gi, .inl (d11, 360, .inl (fun _ => 0))), (q2, .inl (cA3, 9, .inl (upd (upd (upd (upd (upd (upd (upd (upd (upd (fun _ => 0) 0 0) 1 6) 2 0) 3 0) 4 0) 5 0) 6 60) 7 4) 8 0)))] H := hP
      have hD : va_D A [(hm, .inr (3, [.int th, .int 6, .ref wi, .ref co, .ref sl, .ref rn, .ref so, .ref bn, .ref sm, .ref ah])), (sm, .inr (2, [.int 0, .ref gr, .ref gt, .ref gw, .ref gk, .ref gi, .ref gp, .ref go, .ref gg, .ref hm])), (wi, .inl (d1, 6, .inl fw)), (co, .inl (d2, 6, .inl fc)), (bn, .inl (d5, 3, .inl (fun _ => 0))), (rn, .inl (d6, 12, .inl fn)), (so, .inl (d7, 12, .inl (fun _ => 0))), (gk, .inl (d10, 360, .inl fk)), (gi, .inl (d11, 360, .inl (fun _ => 0))), (q2, .inl (cA3, 9, .inl (upd (upd (upd (upd (upd (upd (upd (upd (upd (fun _ => 0) 0 0) 1 6) 2 0) 3 0) 4 0) 5 0) 6 60) 7 4) 8 0)))] := hD
      refine lv_astore (lv' := [(4, .ref q2), (0, .ref hm), (1, .int 4), (2, .int 0), (3, .int 60)]) hx hb dX3_counted_141 hl (by decide) rfl (fun ls hl => ?_)
      refine lv_aload hx hb dX3_counted_143 (lv_at hl 0 rfl) ?_
      refine lv_iload_n hx hb dX3_counted_145 rfl (lv_at hl 2 rfl) ?_
      refine va_iald hx hb hK hP 9 7 rfl rfl (vp_in_nI (n := 4) (by decide) (by decide)) dX3_counted_146 ?_
      refine lv_topi (fun x9 ex9 => ?_)
      obtain rfl : x9 = 0 := ex9
      have hP9 := hP.sub (ws' := [(hm, .inr (3, [.int th, .int 6, .ref wi, .ref co, .ref sl, .ref rn, .ref so, .ref bn, .ref sm, .ref ah])), (sm, .inr (2, [.int 0, .ref gr, .ref gt, .ref gw, .ref gk, .ref gi, .ref gp, .ref go, .ref gg, .ref hm])), (wi, .inl (d1, 6, .inl fw)), (co, .inl (d2, 6, .inl fc)), (bn, .inl (d5, 3, .inl (fun _ => 0))), (rn, .inl (d6, 12, .inl fn)), (so, .inl (d7, 12, .inl (fun _ => 0))), (gk, .inl (d10, 360, .inl fk)), (gi, .inl (d11, 360, .inl (fun _ => 0)))]) [0, 1, 2, 3, 4, 5, 6, 7, 8] rfl
      have hD9 := hD.sub (ws' := [(hm, .inr (3, [.int th, .int 6, .ref wi, .ref co, .ref sl, .ref rn, .ref so, .ref bn, .ref sm, .ref ah])), (sm, .inr (2, [.int 0, .ref gr, .ref gt, .ref gw, .ref gk, .ref gi, .ref gp, .ref go, .ref gg, .ref hm])), (wi, .inl (d1, 6, .inl fw)), (co, .inl (d2, 6, .inl fc)), (bn, .inl (d5, 3, .inl (fun _ => 0))), (rn, .inl (d6, 12, .inl fn)), (so, .inl (d7, 12, .inl (fun _ => 0))), (gk, .inl (d10, 360, .inl fk)), (gi, .inl (d11, 360, .inl (fun _ => 0)))]) [0, 1, 2, 3, 4, 5, 6, 7, 8] (by decide) rfl
      have hK9 := hK.sub (tys' := []) [] rfl
      refine W.widen (k := 1) (n := 9) (Nat.le_of_ble_eq_true rfl) (Nat.le_of_ble_eq_true rfl) ?_
      have hZ := zz_one hAe hD hP 9 [0, 1, 2, 3, 4, 5, 6, 7, 8] rfl rfl (by decide)
      exact W.iret (v := 0) hx hb hr (fun t ht hW => ⟨⟨0, (), rfl, by (first | rfl | assumption | decide | (simp_all; done) | grind), ⟨by rw [ht]; exact hP9, va_K.moved hW.alike hK9, hD9, by rw [ht]; omega⟩⟩, hS.F ht⟩) hS.2.2 dX3_counted_147
    · have nc1 : i < 6 := Nat.lt_of_not_le (fun q => c1 ((nI_leI (a := 6) (b := i) (by omega) (by omega)).mpr q))
      refine lv_iload_n hx hb dX3_counted_16 rfl (lv_at hl 2 rfl) ?_
      refine lv_aload_n hx hb dX3_counted_17 rfl (lv_at hl 0 rfl) ?_
      refine va_get (D := (dC, dI)) (ci := 3) (v := .ref sm) (C := RX3) (T := TX3) (N := 10) hx hb hts (by decide +kernel) hown hK hP 0 rfl rfl 8 (by decide) (hts (.fieldLink RX3 33 "ThatchRoofModel" "s" "LThatchRoofModel$State;") (by decide +kernel)) (fun _ h9 => h9) rfl dX3_counted_18 ?_
      refine lv_iload hx hb dX3_counted_21 (lv_at hl 4 rfl) ?_
      have hPc := hP.sub (ws' := [(sm, .inr (2, [.int 0, .ref gr, .ref gt, .ref gw, .ref gk, .ref gi, .ref gp, .ref go, .ref gg, .ref hm])), (gk, .inl (d10, 360, .inl fk))]) [1, 7] rfl
      have hKc := hK.sub (tys' := [(d10, .int)]) [5] rfl
      refine vp_callSi (va_runV (As := [.int (nI i)]) (rest := [.int 0]) ⟨hx, hb, hml, hown, hts⟩ (r2_yealms l dC dI sm hm gr gt gw gk gi gp go gg d10 fk i (by first | assumption | decide | omega) (by first | assumption | decide | omega)) (cwV 1 hts gX3_counted_X2_yealms rfl rfl rfl (by decide +kernel) ⟨Nat.le_of_ble_eq_true rfl, Nat.le_of_ble_eq_true rfl⟩) ⟨fun a U g mk q => by obtain ⟨q0, qP, qK⟩ := q; exact ⟨q0, qP, va_K.moved (u := U) (U := U.calling g mk a) (Vm.Alike.refl U.vm) qK⟩, va_recv hKc hPc (ci := 2) (q0 := 0) rfl rfl, fun U hU hW => ⟨rfl, by rw [hU]; exact hPc, va_K.moved hW.alike hKc⟩⟩ rfl rfl hl.1 rfl (lv_room (Nat.le_of_ble_eq_true rfl)) dX3_counted_23 ⟨Nat.le_of_ble_eq_true rfl, Nat.le_of_ble_eq_true rfl⟩).run (fun r10 hr10 => ?_)
      obtain rfl := hr10
      refine lv_iadd hx hb dX3_counted_26 ?_
      refine W.eq (g2 := F0 m 27 ls [.int 0]) rfl ?_
      refine lv_istore_n (lv' := [(2, .int 0), (0, .ref hm), (1, .int 4), (3, .int (nI (10 * i))), (4, .int (nI i))]) hx hb dX3_counted_27 rfl hl (by decide) rfl (fun ls hl => ?_)
      refine lv_iload_n hx hb dX3_counted_28 rfl (lv_at hl 3 rfl) ?_
      refine lv_aload_n hx hb dX3_counted_29 rfl (lv_at hl 1 rfl) ?_
      refine va_get (D := (dC, dI)) (ci := 3) (v := .ref sm) (C := RX3) (T := TX3) (N := 10) hx hb hts (by decide +kernel) hown hK hP 0 rfl rfl 8 (by decide) (hts (.fieldLink RX3 33 "ThatchRoofModel" "s" "LThatchRoofModel$State;") (by decide +kernel)) (fun _ h9 => h9) rfl dX3_counted_30 ?_
      refine lv_iload hx hb dX3_counted_33 (lv_at hl 4 rfl) ?_
      have hPc := hP.sub (ws' := [(sm, .inr (2, [.int 0, .ref gr, .ref gt, .ref gw, .ref gk, .ref gi, .ref gp, .ref go, .ref gg, .ref hm])), (hm, .inr (3, [.int th, .int 6, .ref wi, .ref co, .ref sl, .ref rn, .ref so, .ref bn, .ref sm, .ref ah])), (wi, .inl (d1, 6, .inl fw)), (co, .inl (d2, 6, .inl fc)), (gk, .inl (d10, 360, .inl fk)), (gi, .inl (d11, 360, .inl (fun _ => 0)))]) [1, 0, 2, 3, 7, 8] rfl
      have hKc := hK.sub (tys' := [(d1, .int), (d2, .int), (d10, .int), (d11, .int)]) [0, 1, 5, 6] rfl
      refine vp_callSi (va_runV (As := [.int (nI i)]) (rest := [.int (nI (10 * i))]) ⟨hx, hb, hml, hown, hts⟩ (r2_leaks l dC dI hm wi co sl rn so bn sm ah th gr gt gw gk gi gp go gg d1 d2 d10 d11 fw fc fk i (by first | assumption | decide | omega) (by first | assumption | decide | omega) (by first | assumption | decide | omega) (by first | assumption | decide | omega)) (cwV 1 hts gX3_counted_X2_leaks rfl rfl rfl (by decide +kernel) ⟨Nat.le_of_ble_eq_true rfl, Nat.le_of_ble_eq_true rfl⟩) ⟨fun a U g mk q => by obtain ⟨q0, qP, qK, qN⟩ := q; exact ⟨q0, qP, va_K.moved (u := U) (U := U.calling g mk a) (Vm.Alike.refl U.vm) qK, zNs.calling qN⟩, va_recv hKc hPc (ci := 2) (q0 := 0) rfl rfl, fun U hU hW => ⟨rfl, by rw [hU]; exact hPc, va_K.moved hW.alike hKc, zNs.warm hW hZN⟩⟩ rfl rfl hl.1 rfl (lv_room (Nat.le_of_ble_eq_true rfl)) dX3_counted_35 ⟨Nat.le_of_ble_eq_true rfl, Nat.le_of_ble_eq_true rfl⟩).run (fun r11 hr11 => ?_)
      obtain rfl := hr11
      refine lv_iadd hx hb dX3_counted_38 ?_
      refine lv_topi (fun x12 ex12 => ?_)
      obtain rfl : x12 = nI ((10 * i) + 10) := ex12.trans (nI_add (10 * i) 10)
      refine lv_istore_n (lv' := [(3, .int (nI ((10 * i) + 10))), (2, .int 0), (0, .ref hm), (1, .int 4), (4, .int (nI i))]) hx hb dX3_counted_39 rfl hl (by decide) rfl (fun ls hl => ?_)
      refine lv_iinc (v := nI (i + 1)) (lv' := [(4, .int (nI (i + 1))), (3, .int (nI ((10 * i) + 10))), (2, .int 0), (0, .ref hm), (1, .int 4)]) hx hb dX3_counted_40 hl (k := 4) rfl (by exact nI_1 i) (by decide) rfl (fun ls hl => ?_)
      refine lv_goto (tgt := 7) hx hb dX3_counted_43 (by decide) ?_
      exact ih7 (i + 1) (by omega) (by omega) _ _ (hP.sub [0, 1, 2, 3, 4, 5, 6, 7, 8] rfl) (hD.sub [0, 1, 2, 3, 4, 5, 6, 7, 8] (by decide) rfl) hS _ (lv_sub hl [3, 4, 2, 1, 0] rfl)

set_option maxHeartbeats 4000000 in
set_option maxRecDepth 100000 in
theorem r3_counted5 (l : Launch) (dC : Nat → ClassId) (dI : Nat → Nat → Nat) (sz : Nat) (hm : Nat) (wi : Nat) (co : Nat) (sl : Nat) (rn : Nat) (so : Nat) (bn : Nat) (sm : Nat) (ah : Nat) (th : Int32) (gr : Nat) (gt : Nat) (gw : Nat) (gk : Nat) (gi : Nat) (gp : Nat) (go : Nat) (gg : Nat) (d1 : ClassId) (d2 : ClassId) (d5 : ClassId) (d6 : ClassId) (d7 : ClassId) (d10 : ClassId) (d11 : ClassId) (fw : Nat → Int32) (fc : Nat → Int32) (fn : Nat → Int32) (fk : Nat → Int32) (hk : ∀ j : Nat, j < 360 → fk j = -1) (hw : ∀ j : Nat, j < 6 → fw j = 10) (hc : ∀ j : Nat, j < 6 → fc j = 6) (hn : ∀ j : Nat, j < 12 → fn j = 4) : Met l yX3_counted wsX3_counted ({ frames := 2, cells := 1, slots := 9, locals := 47 }) (va_Pc [.ref hm, .int 5] (fun U => U.heap.size = sz ∧ va_P (dC, dI) vwCl [(hm, .inr (3, [.int th, .int 6, .ref wi, .ref co, .ref sl, .ref rn, .ref so, .ref bn, .ref sm, .ref ah])), (sm, .inr (2, [.int 0, .ref gr, .ref gt, .ref gw, .ref gk, .ref gi, .ref gp, .ref go, .ref gg, .ref hm])), (wi, .inl (d1, 6, .inl fw)), (co, .inl (d2, 6, .inl fc)), (bn, .inl (d5, 3, .inl (fun _ => 0))), (rn, .inl (d6, 12, .inl fn)), (so, .inl (d7, 12, .inl (fun _ => 0))), (gk, .inl (d10, 360, .inl fk)), (gi, .inl (d11, 360, .inl (fun _ => 0)))] U.heap ∧ va_K (dC, dI) vwCl [(d1, .int), (d2, .int), (d5, .int), (d6, .int), (d7, .int), (d10, .int), (d11, .int)] U ∧ va_D (fun _ => True) [(hm, .inr (3, [.int th, .int 6, .ref wi, .ref co, .ref sl, .ref rn, .ref so, .ref bn, .ref sm, .ref ah])), (sm, .inr (2, [.int 0, .ref gr, .ref gt, .ref gw, .ref gk, .ref gi, .ref gp, .ref go, .ref gg, .ref hm])), (wi, .inl (d1, 6, .inl fw)), (co, .inl (d2, 6, .inl fc)), (bn, .inl (d5, 3, .inl (fun _ => 0))), (rn, .inl (d6, 12, .inl fn)), (so, .inl (d7, 12, .inl (fun _ => 0))), (gk, .inl (d10, 360, .inl fk)), (gi, .inl (d11, 360, .inl (fun _ => 0)))] ∧ zNs U)) (va_Qi (fun (r : Int32) (u : Unit) => r = 0) (fun (u : Unit) (t : State) => va_P (dC, dI) vwCl [(hm, .inr (3, [.int th, .int 6, .ref wi, .ref co, .ref sl, .ref rn, .ref so, .ref bn, .ref sm, .ref ah])), (sm, .inr (2, [.int 0, .ref gr, .ref gt, .ref gw, .ref gk, .ref gi, .ref gp, .ref go, .ref gg, .ref hm])), (wi, .inl (d1, 6, .inl fw)), (co, .inl (d2, 6, .inl fc)), (bn, .inl (d5, 3, .inl (fun _ => 0))), (rn, .inl (d6, 12, .inl fn)), (so, .inl (d7, 12, .inl (fun _ => 0))), (gk, .inl (d10, 360, .inl fk)), (gi, .inl (d11, 360, .inl (fun _ => 0)))] t.heap ∧ va_K (dC, dI) vwCl [] t ∧ va_D (va_A [(hm, .inr (3, [.int th, .int 6, .ref wi, .ref co, .ref sl, .ref rn, .ref so, .ref bn, .ref sm, .ref ah])), (sm, .inr (2, [.int 0, .ref gr, .ref gt, .ref gw, .ref gk, .ref gi, .ref gp, .ref go, .ref gg, .ref hm])), (wi, .inl (d1, 6, .inl fw)), (co, .inl (d2, 6, .inl fc)), (bn, .inl (d5, 3, .inl (fun _ => 0))), (rn, .inl (d6, 12, .inl fn)), (so, .inl (d7, 12, .inl (fun _ => 0))), (gk, .inl (d10, 360, .inl fk)), (gi, .inl (d11, 360, .inl (fun _ => 0)))] sz) [(hm, .inr (3, [.int th, .int 6, .ref wi, .ref co, .ref sl, .ref rn, .ref so, .ref bn, .ref sm, .ref ah])), (sm, .inr (2, [.int 0, .ref gr, .ref gt, .ref gw, .ref gk, .ref gi, .ref gp, .ref go, .ref gg, .ref hm])), (wi, .inl (d1, 6, .inl fw)), (co, .inl (d2, 6, .inl fc)), (bn, .inl (d5, 3, .inl (fun _ => 0))), (rn, .inl (d6, 12, .inl fn)), (so, .inl (d7, 12, .inl (fun _ => 0))), (gk, .inl (d10, 360, .inl fk)), (gi, .inl (d11, 360, .inl (fun _ => 0)))] ∧ sz + 1 ≤ t.heap.size) (va_A [(hm, .inr (3, [.int th, .int 6, .ref wi, .ref co, .ref sl, .ref rn, .ref so, .ref bn, .ref sm, .ref ah])), (sm, .inr (2, [.int 0, .ref gr, .ref gt, .ref gw, .ref gk, .ref gi, .ref gp, .ref go, .ref gg, .ref hm])), (wi, .inl (d1, 6, .inl fw)), (co, .inl (d2, 6, .inl fc)), (bn, .inl (d5, 3, .inl (fun _ => 0))), (rn, .inl (d6, 12, .inl fn)), (so, .inl (d7, 12, .inl (fun _ => 0))), (gk, .inl (d10, 360, .inl fk)), (gi, .inl (d11, 360, .inl (fun _ => 0)))] sz)) 1 9 (va_A [(hm, .inr (3, [.int th, .int 6, .ref wi, .ref co, .ref sl, .ref rn, .ref so, .ref bn, .ref sm, .ref ah])), (sm, .inr (2, [.int 0, .ref gr, .ref gt, .ref gw, .ref gk, .ref gi, .ref gp, .ref go, .ref gg, .ref hm])), (wi, .inl (d1, 6, .inl fw)), (co, .inl (d2, 6, .inl fc)), (bn, .inl (d5, 3, .inl (fun _ => 0))), (rn, .inl (d6, 12, .inl fn)), (so, .inl (d7, 12, .inl (fun _ => 0))), (gk, .inl (d10, 360, .inl fk)), (gi, .inl (d11, 360, .inl (fun _ => 0)))] sz) := by
  refine Met.ofW (cc := cX3_counted) (maxL := 5) (ret := (some .int)) (by decide) rfl ?_
  intro p e s m args below meth c s₁ B hml hv
  obtain ⟨rfl, hsz, hP, hK, hD0, hZN⟩ := hv
  have hx := B.exec
  have hb := B.bytes
  have hr := B.returns
  have hts := atoms_spec (ws := wsX3_counted) B.pre
  have hown : s.vm.findClass RX3 = some m.cls := findClass_of_methodNamed B.named
  have hlocks := B.notSynchronized
  subst hsz
  have hD := hD0.self (sz := s.heap.size)
  generalize hAe : va_A [(hm, .inr (3, [.int th, .int 6, .ref wi, .ref co, .ref sl, .ref rn, .ref so, .ref bn, .ref sm, .ref ah])), (sm, .inr (2, [.int 0, .ref gr, .ref gt, .ref gw, .ref gk, .ref gi, .ref gp, .ref go, .ref gg, .ref hm])), (wi, .inl (d1, 6, .inl fw)), (co, .inl (d2, 6, .inl fc)), (bn, .inl (d5, 3, .inl (fun _ => 0))), (rn, .inl (d6, 12, .inl fn)), (so, .inl (d7, 12, .inl (fun _ => 0))), (gk, .inl (d10, 360, .inl fk)), (gi, .inl (d11, 360, .inl (fun _ => 0)))] s.heap.size = A at hD ⊢
  have hA : ∀ q : Nat, s.heap.size ≤ q → A q := fun q h => by rw [← hAe]; exact Or.inr h
  have hS : va_S A s.heap s.heap [] := va_S.rf
  have hP : va_P (dC, dI) vwCl [(hm, .inr (3, [.int th, .int 6, .ref wi, .ref co, .ref sl, .ref rn, .ref so, .ref bn, .ref sm, .ref ah])), (sm, .inr (2, [.int 0, .ref gr, .ref gt, .ref gw, .ref gk, .ref gi, .ref gp, .ref go, .ref gg, .ref hm])), (wi, .inl (d1, 6, .inl fw)), (co, .inl (d2, 6, .inl fc)), (bn, .inl (d5, 3, .inl (fun _ => 0))), (rn, .inl (d6, 12, .inl fn)), (so, .inl (d7, 12, .inl (fun _ => 0))), (gk, .inl (d10, 360, .inl fk)), (gi, .inl (d11, 360, .inl (fun _ => 0)))] s.heap := hP
  have hl := lv_entry ([.ref hm, .int 5]) (n := 5) (Nat.le_of_ble_eq_true rfl)
  rw [lg_entry_eq]
  generalize (lg_sl ([.ref hm, .int 5]) ++ List.replicate (5 - (lg_sl ([.ref hm, .int 5])).length) Slot.unset).toArray = ls at hl ⊢
  have hl : lv_has ls 5 [(0, .ref hm), (1, .int 5)] := hl
  refine lv_iconst (v := 0) hx hb dX3_counted_0 (by decide) ?_
  refine lv_istore_n (lv' := [(2, .int 0), (0, .ref hm), (1, .int 5)]) hx hb dX3_counted_1 rfl hl (by decide) rfl (fun ls hl => ?_)
  refine lv_iconst (v := 0) hx hb dX3_counted_2 (by decide) ?_
  refine lv_istore_n (lv' := [(3, .int 0), (2, .int 0), (0, .ref hm), (1, .int 5)]) hx hb dX3_counted_3 rfl hl (by decide) rfl (fun ls hl => ?_)
  refine lv_iconst (v := 0) hx hb dX3_counted_4 (by decide) ?_
  refine lv_istore (lv' := [(4, .int 0), (3, .int 0), (2, .int 0), (0, .ref hm), (1, .int 5)]) hx hb dX3_counted_5 hl (by decide) rfl (fun ls hl => ?_)
  suffices K7 : ∀ (n : Nat) (i : Nat), (i ≤ 6) → 6 - i < n → ∀ (H : Heap) (locs : List Loc), va_P (dC, dI) vwCl [(hm, .inr (3, [.int th, .int 6, .ref wi, .ref co, .ref sl, .ref rn, .ref so, .ref bn, .ref sm, .ref ah])), (sm, .inr (2, [.int 0, .ref gr, .ref gt, .ref gw, .ref gk, .ref gi, .ref gp, .ref go, .ref gg, .ref hm])), (wi, .inl (d1, 6, .inl fw)), (co, .inl (d2, 6, .inl fc)), (bn, .inl (d5, 3, .inl (fun _ => 0))), (rn, .inl (d6, 12, .inl fn)), (so, .inl (d7, 12, .inl (fun _ => 0))), (gk, .inl (d10, 360, .inl fk)), (gi, .inl (d11, 360, .inl (fun _ => 0)))] H → va_D A [(hm, .inr (3, [.int th, .int 6, .ref wi, .ref co, .ref sl, .ref rn, .ref so, .ref bn, .ref sm, .ref ah])), (sm, .inr (2, [.int 0, .ref gr, .ref gt, .ref gw, .ref gk, .ref gi, .ref gp, .ref go, .ref gg, .ref hm])), (wi, .inl (d1, 6, .inl fw)), (co, .inl (d2, 6, .inl fc)), (bn, .inl (d5, 3, .inl (fun _ => 0))), (rn, .inl (d6, 12, .inl fn)), (so, .inl (d7, 12, .inl (fun _ => 0))), (gk, .inl (d10, 360, .inl fk)), (gi, .inl (d11, 360, .inl (fun _ => 0)))] → va_S A s.heap H locs → ∀ ls : Array Slot, lv_has ls 5 [(0, .ref hm), (1, .int 5), (2, .int 0), (3, .int (nI (10 * i))), (4, .int (nI i))] → W p l e ({ frames := 2, cells := 1, slots := 9, locals := 47 } : Room) s m (([.ref hm, .int 5] : List Value).toArray) below meth c H locs 0 0 (MQ below (va_Qi (fun (r : Int32) (u : Unit) => r = 0) (fun (u : Unit) (t : State) => va_P (dC, dI) vwCl [(hm, .inr (3, [.int th, .int 6, .ref wi, .ref co, .ref sl, .ref rn, .ref so, .ref bn, .ref sm, .ref ah])), (sm, .inr (2, [.int 0, .ref gr, .ref gt, .ref gw, .ref gk, .ref gi, .ref gp, .ref go, .ref gg, .ref hm])), (wi, .inl (d1, 6, .inl fw)), (co, .inl (d2, 6, .inl fc)), (bn, .inl (d5, 3, .inl (fun _ => 0))), (rn, .inl (d6, 12, .inl fn)), (so, .inl (d7, 12, .inl (fun _ => 0))), (gk, .inl (d10, 360, .inl fk)), (gi, .inl (d11, 360, .inl (fun _ => 0)))] t.heap ∧ va_K (dC, dI) vwCl [] t ∧ va_D A [(hm, .inr (3, [.int th, .int 6, .ref wi, .ref co, .ref sl, .ref rn, .ref so, .ref bn, .ref sm, .ref ah])), (sm, .inr (2, [.int 0, .ref gr, .ref gt, .ref gw, .ref gk, .ref gi, .ref gp, .ref go, .ref gg, .ref hm])), (wi, .inl (d1, 6, .inl fw)), (co, .inl (d2, 6, .inl fc)), (bn, .inl (d5, 3, .inl (fun _ => 0))), (rn, .inl (d6, 12, .inl fn)), (so, .inl (d7, 12, .inl (fun _ => 0))), (gk, .inl (d10, 360, .inl fk)), (gi, .inl (d11, 360, .inl (fun _ => 0)))] ∧ s.heap.size + 1 ≤ t.heap.size) A) (([.ref hm, .int 5] : List Value).toArray) s 1 9 A) (F0 m 7 ls []) from
    K7 _ 0 (by decide) (Nat.lt_succ_self _) _ _ hP hD hS _ (lv_sub hl [3, 4, 2, 1, 0] rfl)
  intro n
  induction n with
  | zero =>
    intro i hi hn
    exact absurd hn (Nat.not_lt_zero _)
  | succ n ih7 =>
    intro i hi hn7 H locs hP hD hS ls hl
    refine lv_iload hx hb dX3_counted_7 (lv_at hl 4 rfl) ?_
    refine lv_aload_n hx hb dX3_counted_9 rfl (lv_at hl 0 rfl) ?_
    refine va_get (D := (dC, dI)) (ci := 3) (v := .int 6) (C := RX3) (T := TX3) (N := 10) hx hb hts (by decide +kernel) hown hK hP 0 rfl rfl 1 (by decide) (hts (.fieldLink RX3 44 "ThatchRoofModel" "roofs" "I") (by decide +kernel)) (fun _ h9 => h9) rfl dX3_counted_10 ?_
    refine lv_icmp_ge (tgt := 46) hx hb dX3_counted_13 (by decide) (fun c1 => ?_) (fun c1 => ?_)
    · have nc1 : 6 ≤ i := (nI_leI (a := 6) (b := i) (by omega) (by omega)).mp c1
      have h9 : i = 6 := by omega
      rw [show nI (10 * i) = 60 from by rw [h9]; rfl] at hl
      refine lv_bipush (v := 9) hx hb dX3_counted_46 (by decide) ?_
      refine va_newa (atype := .int) (ty := .int) (N' := 9) (a0 := (9, .inl (fun _ => 0))) hx hb (hts (.arrayClass .int) (by decide +kernel)) rfl hK hP hD hS hA (fun _ => rfl) (by decide) (by decide) (by decide) (Nat.le_of_ble_eq_true rfl) (Nat.le_of_ble_eq_true rfl) dX3_counted_48 (fun q2 cA3 H hK hP hD hS => ?_)
      refine W.widen (k := 1) (n := 9) (Nat.le_of_ble_eq_true rfl) (Nat.le_of_ble_eq_true rfl) ?_
      have hK : va_K (dC, dI) vwCl [(d1, .int), (d2, .int), (d5, .int), (d6, .int), (d7, .int), (d10, .int), (d11, .int), (cA3, .int)] s := hK
      have hP : va_P (dC, dI) vwCl [(hm, .inr (3, [.int th, .int 6, .ref wi, .ref co, .ref sl, .ref rn, .ref so, .ref bn, .ref sm, .ref ah])), (sm, .inr (2, [.int 0, .ref gr, .ref gt, .ref gw, .ref gk, .ref gi, .ref gp, .ref go, .ref gg, .ref hm])), (wi, .inl (d1, 6, .inl fw)), (co, .inl (d2, 6, .inl fc)), (bn, .inl (d5, 3, .inl (fun _ => 0))), (rn, .inl (d6, 12, .inl fn)), (so, .inl (d7, 12, .inl (fun _ => 0))), (gk, .inl (d10, 360, .inl fk)), (gi, .inl (d11, 360, .inl (fun _ => 0))), (q2, .inl (cA3, 9, .inl (fun _ => 0)))] H := hP
      have hD : va_D A [(hm, .inr (3, [.int th, .int 6, .ref wi, .ref co, .ref sl, .ref rn, .ref so, .ref bn, .ref sm, .ref ah])), (sm, .inr (2, [.int 0, .ref gr, .ref gt, .ref gw, .ref gk, .ref gi, .ref gp, .ref go, .ref gg, .ref hm])), (wi, .inl (d1, 6, .inl fw)), (co, .inl (d2, 6, .inl fc)), (bn, .inl (d5, 3, .inl (fun _ => 0))), (rn, .inl (d6, 12, .inl fn)), (so, .inl (d7, 12, .inl (fun _ => 0))), (gk, .inl (d10, 360, .inl fk)), (gi, .inl (d11, 360, .inl (fun _ => 0))), (q2, .inl (cA3, 9, .inl (fun _ => 0)))] := hD
      refine lv_dup hx hb dX3_counted_50 rfl ?_
      refine lv_iconst (v := 0) hx hb dX3_counted_51 (by decide) ?_
      refine lv_aload_n hx hb dX3_counted_52 rfl (lv_at hl 0 rfl) ?_
      refine va_get (D := (dC, dI)) (ci := 3) (v := .ref sm) (C := RX3) (T := TX3) (N := 10) hx hb hts (by decide +kernel) hown hK hP 0 rfl rfl 8 (by decide) (hts (.fieldLink RX3 33 "ThatchRoofModel" "s" "LThatchRoofModel$State;") (by decide +kernel)) (fun _ h9 => h9) rfl dX3_counted_53 ?_
      refine va_getN (D := (dC, dI)) (ci := 2) (v := .int 0) (C := RX2) (T := TX2) (N := 10) hx hb hts (by decide +kernel) hown hK hP 1 rfl rfl 0 (by decide) (va_Nw.use rfl (zN_RX3_128 hZN)) (fun _ h9 => h9) rfl dX3_counted_56 ?_
      refine va_iast hx hb hK hP hD hS 9 7 rfl rfl (vp_in_nI (n := 0) (by decide) (by decide)) dX3_counted_59 (fun H locs hP hD hS => ?_)
      have hP : va_P (dC, dI) vwCl [(hm, .inr (3, [.int th, .int 6, .ref wi, .ref co, .ref sl, .ref rn, .ref so, .ref bn, .ref sm, .ref ah])), (sm, .inr (2, [.int 0, .ref gr, .ref gt, .ref gw, .ref gk, .ref gi, .ref gp, .ref go, .ref gg, .ref hm])), (wi, .inl (d1, 6, .inl fw)), (co, .inl (d2, 6, .inl fc)), (bn, .inl (d5, 3, .inl (fun _ => 0))), (rn, .inl (d6, 12, .inl fn)), (so, .inl (d7, 12, .inl (fun _ => 0))), (gk, .inl (d10, 360, .inl fk)), (gi, .inl (d11, 360, .inl (fun _ => 0))), (q2, .inl (cA3, 9, .inl (upd (fun _ => 0) 0 0)))] H := hP
      have hD : va_D A [(hm, .inr (3, [.int th, .int 6, .ref wi, .ref co, .ref sl, .ref rn, .ref so, .ref bn, .ref sm, .ref ah])), (sm, .inr (2, [.int 0, .ref gr, .ref gt, .ref gw, .ref gk, .ref gi, .ref gp, .ref go, .ref gg, .ref hm])), (wi, .inl (d1, 6, .inl fw)), (co, .inl (d2, 6, .inl fc)), (bn, .inl (d5, 3, .inl (fun _ => 0))), (rn, .inl (d6, 12, .inl fn)), (so, .inl (d7, 12, .inl (fun _ => 0))), (gk, .inl (d10, 360, .inl fk)), (gi, .inl (d11, 360, .inl (fun _ => 0))), (q2, .inl (cA3, 9, .inl (upd (fun _ => 0) 0 0)))] := hD
      refine lv_dup hx hb dX3_counted_60 rfl ?_
      refine lv_iconst (v := 1) hx hb dX3_counted_61 (by decide) ?_
      refine lv_aload_n hx hb dX3_counted_62 rfl (lv_at hl 0 rfl) ?_
      refine va_get (D := (dC, dI)) (ci := 3) (v := .int 6) (C := RX3) (T := TX3) (N := 10) hx hb hts (by decide +kernel) hown hK hP 0 rfl rfl 1 (by decide) (hts (.fieldLink RX3 44 "ThatchRoofModel" "roofs" "I") (by decide +kernel)) (fun _ h9 => h9) rfl dX3_counted_63 ?_
      refine va_iast hx hb hK hP hD hS 9 7 rfl rfl (vp_in_nI (n := 1) (by decide) (by decide)) dX3_counted_66 (fun H locs hP hD hS => ?_)
      have hP : va_P (dC, dI) vwCl [(hm, .inr (3, [.int th, .int 6, .ref wi, .ref co, .ref sl, .ref rn, .ref so, .ref bn, .ref sm, .ref ah])), (sm, .inr (2, [.int 0, .ref gr, .ref gt, .ref gw, .ref gk, .ref gi, .ref gp, .ref go, .ref gg, .ref hm])), (wi, .inl (d1, 6, .inl fw)), (co, .inl (d2, 6, .inl fc)), (bn, .inl (d5, 3, .inl (fun _ => 0))), (rn, .inl (d6, 12, .inl fn)), (so, .inl (d7, 12, .inl (fun _ => 0))), (gk, .inl (d10, 360, .inl fk)), (gi, .inl (d11, 360, .inl (fun _ => 0))), (q2, .inl (cA3, 9, .inl (upd (upd (fun _ => 0) 0 0) 1 6)))] H := hP
      have hD : va_D A [(hm, .inr (3, [.int th, .int 6, .ref wi, .ref co, .ref sl, .ref rn, .ref so, .ref bn, .ref sm, .ref ah])), (sm, .inr (2, [.int 0, .ref gr, .ref gt, .ref gw, .ref gk, .ref gi, .ref gp, .ref go, .ref gg, .ref hm])), (wi, .inl (d1, 6, .inl fw)), (co, .inl (d2, 6, .inl fc)), (bn, .inl (d5, 3, .inl (fun _ => 0))), (rn, .inl (d6, 12, .inl fn)), (so, .inl (d7, 12, .inl (fun _ => 0))), (gk, .inl (d10, 360, .inl fk)), (gi, .inl (d11, 360, .inl (fun _ => 0))), (q2, .inl (cA3, 9, .inl (upd (upd (fun _ => 0) 0 0) 1 6)))] := hD
      refine lv_dup hx hb dX3_counted_67 rfl ?_
      refine lv_iconst (v := 2) hx hb dX3_counted_68 (by decide) ?_
      refine lv_aload_n hx hb dX3_counted_69 rfl (lv_at hl 0 rfl) ?_
      refine va_get (D := (dC, dI)) (ci := 3) (v := .ref bn) (C := RX3) (T := TX3) (N := 10) hx hb hts (by decide +kernel) hown hK hP 0 rfl rfl 7 (by decide) (hts (.fieldLink RX3 25 "ThatchRoofModel" "barn" "[I") (by decide +kernel)) (fun _ h9 => h9) rfl dX3_counted_70 ?_
      refine lv_iconst (v := 0) hx hb dX3_counted_73 (by decide) ?_
      refine va_iald hx hb hK hP 4 2 rfl rfl (vp_in_nI (n := 0) (by decide) (by decide)) dX3_counted_74 ?_
      refine lv_topi (fun x4 ex4 => ?_)
      obtain rfl : x4 = 0 := ex4
      refine va_iast hx hb hK hP hD hS 9 7 rfl rfl (vp_in_nI (n := 2) (by decide) (by decide)) dX3_counted_75 (fun H locs hP hD hS => ?_)
      have hP : va_P (dC, dI) vwCl [(hm, .inr (3, [.int th, .int 6, .ref wi, .ref co, .ref sl, .ref rn, .ref so, .ref bn, .ref sm, .ref ah])), (sm, .inr (2, [.int 0, .ref gr, .ref gt, .ref gw, .ref gk, .ref gi, .ref gp, .ref go, .ref gg, .ref hm])), (wi, .inl (d1, 6, .inl fw)), (co, .inl (d2, 6, .inl fc)), (bn, .inl (d5, 3, .inl (fun _ => 0))), (rn, .inl (d6, 12, .inl fn)), (so, .inl (d7, 12, .inl (fun _ => 0))), (gk, .inl (d10, 360, .inl fk)), (gi, .inl (d11, 360, .inl (fun _ => 0))), (q2, .inl (cA3, 9, .inl (upd (upd (upd (fun _ => 0) 0 0) 1 6) 2 0)))] H := hP
      have hD : va_D A [(hm, .inr (3, [.int th, .int 6, .ref wi, .ref co, .ref sl, .ref rn, .ref so, .ref bn, .ref sm, .ref ah])), (sm, .inr (2, [.int 0, .ref gr, .ref gt, .ref gw, .ref gk, .ref gi, .ref gp, .ref go, .ref gg, .ref hm])), (wi, .inl (d1, 6, .inl fw)), (co, .inl (d2, 6, .inl fc)), (bn, .inl (d5, 3, .inl (fun _ => 0))), (rn, .inl (d6, 12, .inl fn)), (so, .inl (d7, 12, .inl (fun _ => 0))), (gk, .inl (d10, 360, .inl fk)), (gi, .inl (d11, 360, .inl (fun _ => 0))), (q2, .inl (cA3, 9, .inl (upd (upd (upd (fun _ => 0) 0 0) 1 6) 2 0)))] := hD
      refine lv_dup hx hb dX3_counted_76 rfl ?_
      refine lv_iconst (v := 3) hx hb dX3_counted_77 (by decide) ?_
      refine lv_aload_n hx hb dX3_counted_78 rfl (lv_at hl 0 rfl) ?_
      refine va_get (D := (dC, dI)) (ci := 3) (v := .ref bn) (C := RX3) (T := TX3) (N := 10) hx hb hts (by decide +kernel) hown hK hP 0 rfl rfl 7 (by decide) (hts (.fieldLink RX3 25 "ThatchRoofModel" "barn" "[I") (by decide +kernel)) (fun _ h9 => h9) rfl dX3_counted_79 ?_
      refine lv_iconst (v := 1) hx hb dX3_counted_82 (by decide) ?_
      refine va_iald hx hb hK hP 4 2 rfl rfl (vp_in_nI (n := 1) (by decide) (by decide)) dX3_counted_83 ?_
      refine lv_topi (fun x5 ex5 => ?_)
      obtain rfl : x5 = 0 := ex5
      refine va_iast hx hb hK hP hD hS 9 7 rfl rfl (vp_in_nI (n := 3) (by decide) (by decide)) dX3_counted_84 (fun H locs hP hD hS => ?_)
      have hP : va_P (dC, dI) vwCl [(hm, .inr (3, [.int th, .int 6, .ref wi, .ref co, .ref sl, .ref rn, .ref so, .ref bn, .ref sm, .ref ah])), (sm, .inr (2, [.int 0, .ref gr, .ref gt, .ref gw, .ref gk, .ref gi, .ref gp, .ref go, .ref gg, .ref hm])), (wi, .inl (d1, 6, .inl fw)), (co, .inl (d2, 6, .inl fc)), (bn, .inl (d5, 3, .inl (fun _ => 0))), (rn, .inl (d6, 12, .inl fn)), (so, .inl (d7, 12, .inl (fun _ => 0))), (gk, .inl (d10, 360, .inl fk)), (gi, .inl (d11, 360, .inl (fun _ => 0))), (q2, .inl (cA3, 9, .inl (upd (upd (upd (upd (fun _ => 0) 0 0) 1 6) 2 0) 3 0)))] H := hP
      have hD : va_D A [(hm, .inr (3, [.int th, .int 6, .ref wi, .ref co, .ref sl, .ref rn, .ref so, .ref bn, .ref sm, .ref ah])), (sm, .inr (2, [.int 0, .ref gr, .ref gt, .ref gw, .ref gk, .ref gi, .ref gp, .ref go, .ref gg, .ref hm])), (wi, .inl (d1, 6, .inl fw)), (co, .inl (d2, 6, .inl fc)), (bn, .inl (d5, 3, .inl (fun _ => 0))), (rn, .inl (d6, 12, .inl fn)), (so, .inl (d7, 12, .inl (fun _ => 0))), (gk, .inl (d10, 360, .inl fk)), (gi, .inl (d11, 360, .inl (fun _ => 0))), (q2, .inl (cA3, 9, .inl (upd (upd (upd (upd (fun _ => 0) 0 0) 1 6) 2 0) 3 0)))] := hD
      refine lv_dup hx hb dX3_counted_85 rfl ?_
      refine lv_iconst (v := 4) hx hb dX3_counted_86 (by decide) ?_
      refine lv_aload_n hx hb dX3_counted_87 rfl (lv_at hl 0 rfl) ?_
      refine va_get (D := (dC, dI)) (ci := 3) (v := .ref bn) (C := RX3) (T := TX3) (N := 10) hx hb hts (by decide +kernel) hown hK hP 0 rfl rfl 7 (by decide) (hts (.fieldLink RX3 25 "ThatchRoofModel" "barn" "[I") (by decide +kernel)) (fun _ h9 => h9) rfl dX3_counted_88 ?_
      refine lv_iconst (v := 2) hx hb dX3_counted_91 (by decide) ?_
      refine va_iald hx hb hK hP 4 2 rfl rfl (vp_in_nI (n := 2) (by decide) (by decide)) dX3_counted_92 ?_
      refine lv_topi (fun x6 ex6 => ?_)
      obtain rfl : x6 = 0 := ex6
      refine va_iast hx hb hK hP hD hS 9 7 rfl rfl (vp_in_nI (n := 4) (by decide) (by decide)) dX3_counted_93 (fun H locs hP hD hS => ?_)
      have hP : va_P (dC, dI) vwCl [(hm, .inr (3, [.int th, .int 6, .ref wi, .ref co, .ref sl, .ref rn, .ref so, .ref bn, .ref sm, .ref ah])), (sm, .inr (2, [.int 0, .ref gr, .ref gt, .ref gw, .ref gk, .ref gi, .ref gp, .ref go, .ref gg, .ref hm])), (wi, .inl (d1, 6, .inl fw)), (co, .inl (d2, 6, .inl fc)), (bn, .inl (d5, 3, .inl (fun _ => 0))), (rn, .inl (d6, 12, .inl fn)), (so, .inl (d7, 12, .inl (fun _ => 0))), (gk, .inl (d10, 360, .inl fk)), (gi, .inl (d11, 360, .inl (fun _ => 0))), (q2, .inl (cA3, 9, .inl (upd (upd (upd (upd (upd (fun _ => 0) 0 0) 1 6) 2 0) 3 0) 4 0)))] H := hP
      have hD : va_D A [(hm, .inr (3, [.int th, .int 6, .ref wi, .ref co, .ref sl, .ref rn, .ref so, .ref bn, .ref sm, .ref ah])), (sm, .inr (2, [.int 0, .ref gr, .ref gt, .ref gw, .ref gk, .ref gi, .ref gp, .ref go, .ref gg, .ref hm])), (wi, .inl (d1, 6, .inl fw)), (co, .inl (d2, 6, .inl fc)), (bn, .inl (d5, 3, .inl (fun _ => 0))), (rn, .inl (d6, 12, .inl fn)), (so, .inl (d7, 12, .inl (fun _ => 0))), (gk, .inl (d10, 360, .inl fk)), (gi, .inl (d11, 360, .inl (fun _ => 0))), (q2, .inl (cA3, 9, .inl (upd (upd (upd (upd (upd (fun _ => 0) 0 0) 1 6) 2 0) 3 0) 4 0)))] := hD
      refine lv_dup hx hb dX3_counted_94 rfl ?_
      refine lv_iconst (v := 5) hx hb dX3_counted_95 (by decide) ?_
      refine lv_iload_n hx hb dX3_counted_96 rfl (lv_at hl 2 rfl) ?_
      refine va_iast hx hb hK hP hD hS 9 7 rfl rfl (vp_in_nI (n := 5) (by decide) (by decide)) dX3_counted_97 (fun H locs hP hD hS => ?_)
      have hP : va_P (dC, dI) vwCl [(hm, .inr (3, [.int th, .int 6, .ref wi, .ref co, .ref sl, .ref rn, .ref so, .ref bn, .ref sm, .ref ah])), (sm, .inr (2, [.int 0, .ref gr, .ref gt, .ref gw, .ref gk, .ref gi, .ref gp, .ref go, .ref gg, .ref hm])), (wi, .inl (d1, 6, .inl fw)), (co, .inl (d2, 6, .inl fc)), (bn, .inl (d5, 3, .inl (fun _ => 0))), (rn, .inl (d6, 12, .inl fn)), (so, .inl (d7, 12, .inl (fun _ => 0))), (gk, .inl (d10, 360, .inl fk)), (gi, .inl (d11, 360, .inl (fun _ => 0))), (q2, .inl (cA3, 9, .inl (upd (upd (upd (upd (upd (upd (fun _ => 0) 0 0) 1 6) 2 0) 3 0) 4 0) 5 0)))] H := hP
      have hD : va_D A [(hm, .inr (3, [.int th, .int 6, .ref wi, .ref co, .ref sl, .ref rn, .ref so, .ref bn, .ref sm, .ref ah])), (sm, .inr (2, [.int 0, .ref gr, .ref gt, .ref gw, .ref gk, .ref gi, .ref gp, .ref go, .ref gg, .ref hm])), (wi, .inl (d1, 6, .inl fw)), (co, .inl (d2, 6, .inl fc)), (bn, .inl (d5, 3, .inl (fun _ => 0))), (rn, .inl (d6, 12, .inl fn)), (so, .inl (d7, 12, .inl (fun _ => 0))), (gk, .inl (d10, 360, .inl fk)), (gi, .inl (d11, 360, .inl (fun _ => 0))), (q2, .inl (cA3, 9, .inl (upd (upd (upd (upd (upd (upd (fun _ => 0) 0 0) 1 6) 2 0) 3 0) 4 0) 5 0)))] := hD
      refine lv_dup hx hb dX3_counted_98 rfl ?_
      refine lv_bipush (v := 6) hx hb dX3_counted_99 (by decide) ?_
      refine lv_iload_n hx hb dX3_counted_101 rfl (lv_at hl 3 rfl) ?_
      refine va_iast hx hb hK hP hD hS 9 7 rfl rfl (vp_in_nI (n := 6) (by decide) (by decide)) dX3_counted_102 (fun H locs hP hD hS => ?_)
      have hP : va_P (dC, dI) vwCl [(hm, .inr (3, [.int th, .int 6, .ref wi, .ref co, .ref sl, .ref rn, .ref so, .ref bn, .ref sm, .ref ah])), (sm, .inr (2, [.int 0, .ref gr, .ref gt, .ref gw, .ref gk, .ref gi, .ref gp, .ref go, .ref gg, .ref hm])), (wi, .inl (d1, 6, .inl fw)), (co, .inl (d2, 6, .inl fc)), (bn, .inl (d5, 3, .inl (fun _ => 0))), (rn, .inl (d6, 12, .inl fn)), (so, .inl (d7, 12, .inl (fun _ => 0))), (gk, .inl (d10, 360, .inl fk)), (gi, .inl (d11, 360, .inl (fun _ => 0))), (q2, .inl (cA3, 9, .inl (upd (upd (upd (upd (upd (upd (upd (fun _ => 0) 0 0) 1 6) 2 0) 3 0) 4 0) 5 0) 6 60)))] H := hP
      have hD : va_D A [(hm, .inr (3, [.int th, .int 6, .ref wi, .ref co, .ref sl, .ref rn, .ref so, .ref bn, .ref sm, .ref ah])), (sm, .inr (2, [.int 0, .ref gr, .ref gt, .ref gw, .ref gk, .ref gi, .ref gp, .ref go, .ref gg, .ref hm])), (wi, .inl (d1, 6, .inl fw)), (co, .inl (d2, 6, .inl fc)), (bn, .inl (d5, 3, .inl (fun _ => 0))), (rn, .inl (d6, 12, .inl fn)), (so, .inl (d7, 12, .inl (fun _ => 0))), (gk, .inl (d10, 360, .inl fk)), (gi, .inl (d11, 360, .inl (fun _ => 0))), (q2, .inl (cA3, 9, .inl (upd (upd (upd (upd (upd (upd (upd (fun _ => 0) 0 0) 1 6) 2 0) 3 0) 4 0) 5 0) 6 60)))] := hD
      refine lv_dup hx hb dX3_counted_103 rfl ?_
      refine lv_bipush (v := 7) hx hb dX3_counted_104 (by decide) ?_
      refine lv_aload_n hx hb dX3_counted_106 rfl (lv_at hl 0 rfl) ?_
      refine va_get (D := (dC, dI)) (ci := 3) (v := .ref rn) (C := RX3) (T := TX3) (N := 10) hx hb hts (by decide +kernel) hown hK hP 0 rfl rfl 5 (by decide) (hts (.fieldLink RX3 19 "ThatchRoofModel" "rain" "[I") (by decide +kernel)) (fun _ h9 => h9) rfl dX3_counted_107 ?_
      refine lv_aload_n hx hb dX3_counted_110 rfl (lv_at hl 0 rfl) ?_
      refine va_get (D := (dC, dI)) (ci := 3) (v := .ref sm) (C := RX3) (T := TX3) (N := 10) hx hb hts (by decide +kernel) hown hK hP 0 rfl rfl 8 (by decide) (hts (.fieldLink RX3 33 "ThatchRoofModel" "s" "LThatchRoofModel$State;") (by decide +kernel)) (fun _ h9 => h9) rfl dX3_counted_111 ?_
      refine va_getN (D := (dC, dI)) (ci := 2) (v := .int 0) (C := RX2) (T := TX2) (N := 10) hx hb hts (by decide +kernel) hown hK hP 1 rfl rfl 0 (by decide) (va_Nw.use rfl (zN_RX3_128 hZN)) (fun _ h9 => h9) rfl dX3_counted_114 ?_
      refine lv_bipush (v := 12) hx hb dX3_counted_117 (by decide) ?_
      refine lv_irem hx hb dX3_counted_119 (by decide) ?_
      refine W.eq (g2 := F0 m 120 ls [.int 0, .ref rn, .int 7, .ref q2, .ref q2]) rfl ?_
      refine va_iald hx hb hK hP 5 3 rfl rfl (vp_in_nI (n := 0) (by decide) (by decide)) dX3_counted_120 ?_
      refine lv_topi (fun x7 ex7 => ?_)
      obtain rfl : x7 = 4 := ex7.trans (hn 0 (by decide))
      refine va_iast hx hb hK hP hD hS 9 7 rfl rfl (vp_in_nI (n := 7) (by decide) (by decide)) dX3_counted_121 (fun H locs hP hD hS => ?_)
      have hP : va_P (dC, dI) vwCl [(hm, .inr (3, [.int th, .int 6, .ref wi, .ref co, .ref sl, .ref rn, .ref so, .ref bn, .ref sm, .ref ah])), (sm, .inr (2, [.int 0, .ref gr, .ref gt, .ref gw, .ref gk, .ref gi, .ref gp, .ref go, .ref gg, .ref hm])), (wi, .inl (d1, 6, .inl fw)), (co, .inl (d2, 6, .inl fc)), (bn, .inl (d5, 3, .inl (fun _ => 0))), (rn, .inl (d6, 12, .inl fn)), (so, .inl (d7, 12, .inl (fun _ => 0))), (gk, .inl (d10, 360, .inl fk)), (gi, .inl (d11, 360, .inl (fun _ => 0))), (q2, .inl (cA3, 9, .inl (upd (upd (upd (upd (upd (upd (upd (upd (fun _ => 0) 0 0) 1 6) 2 0) 3 0) 4 0) 5 0) 6 60) 7 4)))] H := hP
      have hD : va_D A [(hm, .inr (3, [.int th, .int 6, .ref wi, .ref co, .ref sl, .ref rn, .ref so, .ref bn, .ref sm, .ref ah])), (sm, .inr (2, [.int 0, .ref gr, .ref gt, .ref gw, .ref gk, .ref gi, .ref gp, .ref go, .ref gg, .ref hm])), (wi, .inl (d1, 6, .inl fw)), (co, .inl (d2, 6, .inl fc)), (bn, .inl (d5, 3, .inl (fun _ => 0))), (rn, .inl (d6, 12, .inl fn)), (so, .inl (d7, 12, .inl (fun _ => 0))), (gk, .inl (d10, 360, .inl fk)), (gi, .inl (d11, 360, .inl (fun _ => 0))), (q2, .inl (cA3, 9, .inl (upd (upd (upd (upd (upd (upd (upd (upd (fun _ => 0) 0 0) 1 6) 2 0) 3 0) 4 0) 5 0) 6 60) 7 4)))] := hD
      refine lv_dup hx hb dX3_counted_122 rfl ?_
      refine lv_bipush (v := 8) hx hb dX3_counted_123 (by decide) ?_
      refine lv_aload_n hx hb dX3_counted_125 rfl (lv_at hl 0 rfl) ?_
      refine va_get (D := (dC, dI)) (ci := 3) (v := .ref so) (C := RX3) (T := TX3) (N := 10) hx hb hts (by decide +kernel) hown hK hP 0 rfl rfl 6 (by decide) (hts (.fieldLink RX3 22 "ThatchRoofModel" "storm" "[I") (by decide +kernel)) (fun _ h9 => h9) rfl dX3_counted_126 ?_
      refine lv_aload_n hx hb dX3_counted_129 rfl (lv_at hl 0 rfl) ?_
      refine va_get (D := (dC, dI)) (ci := 3) (v := .ref sm) (C := RX3) (T := TX3) (N := 10) hx hb hts (by decide +kernel) hown hK hP 0 rfl rfl 8 (by decide) (hts (.fieldLink RX3 33 "ThatchRoofModel" "s" "LThatchRoofModel$State;") (by decide +kernel)) (fun _ h9 => h9) rfl dX3_counted_130 ?_
      refine va_getN (D := (dC, dI)) (ci := 2) (v := .int 0) (C := RX2) (T := TX2) (N := 10) hx hb hts (by decide +kernel) hown hK hP 1 rfl rfl 0 (by decide) (va_Nw.use rfl (zN_RX3_128 hZN)) (fun _ h9 => h9) rfl dX3_counted_133 ?_
      refine lv_bipush (v := 12) hx hb dX3_counted_136 (by decide) ?_
      refine lv_irem hx hb dX3_counted_138 (by decide) ?_
      refine W.eq (g2 := F0 m 139 ls [.int 0, .ref so, .int 8, .ref q2, .ref q2]) rfl ?_
      refine va_iald hx hb hK hP 6 4 rfl rfl (vp_in_nI (n := 0) (by decide) (by decide)) dX3_counted_139 ?_
      refine lv_topi (fun x8 ex8 => ?_)
      obtain rfl : x8 = 0 := ex8
      refine va_iast hx hb hK hP hD hS 9 7 rfl rfl (vp_in_nI (n := 8) (by decide) (by decide)) dX3_counted_140 (fun H locs hP hD hS => ?_)
      have hP : va_P (dC, dI) vwCl [(hm, .inr (3, [.int th, .int 6, .ref wi, .ref co, .ref sl, .ref rn, .ref so, .ref bn, .ref sm, .ref ah])), (sm, .inr (2, [.int 0, .ref gr, .ref gt, .ref gw, .ref gk, .ref gi, .ref gp, .ref go, .ref gg, .ref hm])), (wi, .inl (d1, 6, .inl fw)), (co, .inl (d2, 6, .inl fc)), (bn, .inl (d5, 3, .inl (fun _ => 0))), (rn, .inl (d6, 12, .inl fn)), (so, .inl (d7, 12, .inl (fun _ => 0))), (gk, .inl (d10, 360, .inl fk)), (gi, .inl (d11, 360, .inl (fun _ => 0))), (q2, .inl (cA3, 9, .inl (upd (upd (upd (upd (upd (upd (upd (upd (upd (fun _ => 0) 0 0) 1 6) 2 0) 3 0) 4 0) 5 0) 6 60) 7 4) 8 0)))] H := hP
      have hD : va_D A [(hm, .inr (3, [.int th, .int 6, .ref wi, .ref co, .ref sl, .ref rn, .ref so, .ref bn, .ref sm, .ref ah])), (sm, .inr (2, [.int 0, .ref gr, .ref gt, .ref gw, .ref gk, .ref gi, .ref gp, .ref go, .ref gg, .ref hm])), (wi, .inl (d1, 6, .inl fw)), (co, .inl (d2, 6, .inl fc)), (bn, .inl (d5, 3, .inl (fun _ => 0))), (rn, .inl (d6, 12, .inl fn)), (so, .inl (d7, 12, .inl (fun _ => 0))), (gk, .inl (d10, 360, .inl fk)), (gi, .inl (d11, 360, .inl (fun _ => 0))), (q2, .inl (cA3, 9, .inl (upd (upd (upd (upd (upd (upd (upd (upd (upd (fun _ => 0) 0 0) 1 6) 2 0) 3 0) 4 0) 5 0) 6 60) 7 4) 8 0)))] := hD
      refine lv_astore (lv' := [(4, .ref q2), (0, .ref hm), (1, .int 5), (2, .int 0), (3, .int 60)]) hx hb dX3_counted_141 hl (by decide) rfl (fun ls hl => ?_)
      refine lv_aload hx hb dX3_counted_143 (lv_at hl 0 rfl) ?_
      refine lv_iload_n hx hb dX3_counted_145 rfl (lv_at hl 2 rfl) ?_
      refine va_iald hx hb hK hP 9 7 rfl rfl (vp_in_nI (n := 5) (by decide) (by decide)) dX3_counted_146 ?_
      refine lv_topi (fun x9 ex9 => ?_)
      obtain rfl : x9 = 0 := ex9
      have hP9 := hP.sub (ws' := [(hm, .inr (3, [.int th, .int 6, .ref wi, .ref co, .ref sl, .ref rn, .ref so, .ref bn, .ref sm, .ref ah])), (sm, .inr (2, [.int 0, .ref gr, .ref gt, .ref gw, .ref gk, .ref gi, .ref gp, .ref go, .ref gg, .ref hm])), (wi, .inl (d1, 6, .inl fw)), (co, .inl (d2, 6, .inl fc)), (bn, .inl (d5, 3, .inl (fun _ => 0))), (rn, .inl (d6, 12, .inl fn)), (so, .inl (d7, 12, .inl (fun _ => 0))), (gk, .inl (d10, 360, .inl fk)), (gi, .inl (d11, 360, .inl (fun _ => 0)))]) [0, 1, 2, 3, 4, 5, 6, 7, 8] rfl
      have hD9 := hD.sub (ws' := [(hm, .inr (3, [.int th, .int 6, .ref wi, .ref co, .ref sl, .ref rn, .ref so, .ref bn, .ref sm, .ref ah])), (sm, .inr (2, [.int 0, .ref gr, .ref gt, .ref gw, .ref gk, .ref gi, .ref gp, .ref go, .ref gg, .ref hm])), (wi, .inl (d1, 6, .inl fw)), (co, .inl (d2, 6, .inl fc)), (bn, .inl (d5, 3, .inl (fun _ => 0))), (rn, .inl (d6, 12, .inl fn)), (so, .inl (d7, 12, .inl (fun _ => 0))), (gk, .inl (d10, 360, .inl fk)), (gi, .inl (d11, 360, .inl (fun _ => 0)))]) [0, 1, 2, 3, 4, 5, 6, 7, 8] (by decide) rfl
      have hK9 := hK.sub (tys' := []) [] rfl
      refine W.widen (k := 1) (n := 9) (Nat.le_of_ble_eq_true rfl) (Nat.le_of_ble_eq_true rfl) ?_
      have hZ := zz_one hAe hD hP 9 [0, 1, 2, 3, 4, 5, 6, 7, 8] rfl rfl (by decide)
      exact W.iret (v := 0) hx hb hr (fun t ht hW => ⟨⟨0, (), rfl, by (first | rfl | assumption | decide | (simp_all; done) | grind), ⟨by rw [ht]; exact hP9, va_K.moved hW.alike hK9, hD9, by rw [ht]; omega⟩⟩, hS.F ht⟩) hS.2.2 dX3_counted_147
    · have nc1 : i < 6 := Nat.lt_of_not_le (fun q => c1 ((nI_leI (a := 6) (b := i) (by omega) (by omega)).mpr q))
      refine lv_iload_n hx hb dX3_counted_16 rfl (lv_at hl 2 rfl) ?_
      refine lv_aload_n hx hb dX3_counted_17 rfl (lv_at hl 0 rfl) ?_
      refine va_get (D := (dC, dI)) (ci := 3) (v := .ref sm) (C := RX3) (T := TX3) (N := 10) hx hb hts (by decide +kernel) hown hK hP 0 rfl rfl 8 (by decide) (hts (.fieldLink RX3 33 "ThatchRoofModel" "s" "LThatchRoofModel$State;") (by decide +kernel)) (fun _ h9 => h9) rfl dX3_counted_18 ?_
      refine lv_iload hx hb dX3_counted_21 (lv_at hl 4 rfl) ?_
      have hPc := hP.sub (ws' := [(sm, .inr (2, [.int 0, .ref gr, .ref gt, .ref gw, .ref gk, .ref gi, .ref gp, .ref go, .ref gg, .ref hm])), (gk, .inl (d10, 360, .inl fk))]) [1, 7] rfl
      have hKc := hK.sub (tys' := [(d10, .int)]) [5] rfl
      refine vp_callSi (va_runV (As := [.int (nI i)]) (rest := [.int 0]) ⟨hx, hb, hml, hown, hts⟩ (r2_yealms l dC dI sm hm gr gt gw gk gi gp go gg d10 fk i (by first | assumption | decide | omega) (by first | assumption | decide | omega)) (cwV 1 hts gX3_counted_X2_yealms rfl rfl rfl (by decide +kernel) ⟨Nat.le_of_ble_eq_true rfl, Nat.le_of_ble_eq_true rfl⟩) ⟨fun a U g mk q => by obtain ⟨q0, qP, qK⟩ := q; exact ⟨q0, qP, va_K.moved (u := U) (U := U.calling g mk a) (Vm.Alike.refl U.vm) qK⟩, va_recv hKc hPc (ci := 2) (q0 := 0) rfl rfl, fun U hU hW => ⟨rfl, by rw [hU]; exact hPc, va_K.moved hW.alike hKc⟩⟩ rfl rfl hl.1 rfl (lv_room (Nat.le_of_ble_eq_true rfl)) dX3_counted_23 ⟨Nat.le_of_ble_eq_true rfl, Nat.le_of_ble_eq_true rfl⟩).run (fun r10 hr10 => ?_)
      obtain rfl := hr10
      refine lv_iadd hx hb dX3_counted_26 ?_
      refine W.eq (g2 := F0 m 27 ls [.int 0]) rfl ?_
      refine lv_istore_n (lv' := [(2, .int 0), (0, .ref hm), (1, .int 5), (3, .int (nI (10 * i))), (4, .int (nI i))]) hx hb dX3_counted_27 rfl hl (by decide) rfl (fun ls hl => ?_)
      refine lv_iload_n hx hb dX3_counted_28 rfl (lv_at hl 3 rfl) ?_
      refine lv_aload_n hx hb dX3_counted_29 rfl (lv_at hl 1 rfl) ?_
      refine va_get (D := (dC, dI)) (ci := 3) (v := .ref sm) (C := RX3) (T := TX3) (N := 10) hx hb hts (by decide +kernel) hown hK hP 0 rfl rfl 8 (by decide) (hts (.fieldLink RX3 33 "ThatchRoofModel" "s" "LThatchRoofModel$State;") (by decide +kernel)) (fun _ h9 => h9) rfl dX3_counted_30 ?_
      refine lv_iload hx hb dX3_counted_33 (lv_at hl 4 rfl) ?_
      have hPc := hP.sub (ws' := [(sm, .inr (2, [.int 0, .ref gr, .ref gt, .ref gw, .ref gk, .ref gi, .ref gp, .ref go, .ref gg, .ref hm])), (hm, .inr (3, [.int th, .int 6, .ref wi, .ref co, .ref sl, .ref rn, .ref so, .ref bn, .ref sm, .ref ah])), (wi, .inl (d1, 6, .inl fw)), (co, .inl (d2, 6, .inl fc)), (gk, .inl (d10, 360, .inl fk)), (gi, .inl (d11, 360, .inl (fun _ => 0)))]) [1, 0, 2, 3, 7, 8] rfl
      have hKc := hK.sub (tys' := [(d1, .int), (d2, .int), (d10, .int), (d11, .int)]) [0, 1, 5, 6] rfl
      refine vp_callSi (va_runV (As := [.int (nI i)]) (rest := [.int (nI (10 * i))]) ⟨hx, hb, hml, hown, hts⟩ (r2_leaks l dC dI hm wi co sl rn so bn sm ah th gr gt gw gk gi gp go gg d1 d2 d10 d11 fw fc fk i (by first | assumption | decide | omega) (by first | assumption | decide | omega) (by first | assumption | decide | omega) (by first | assumption | decide | omega)) (cwV 1 hts gX3_counted_X2_leaks rfl rfl rfl (by decide +kernel) ⟨Nat.le_of_ble_eq_true rfl, Nat.le_of_ble_eq_true rfl⟩) ⟨fun a U g mk q => by obtain ⟨q0, qP, qK, qN⟩ := q; exact ⟨q0, qP, va_K.moved (u := U) (U := U.calling g mk a) (Vm.Alike.refl U.vm) qK, zNs.calling qN⟩, va_recv hKc hPc (ci := 2) (q0 := 0) rfl rfl, fun U hU hW => ⟨rfl, by rw [hU]; exact hPc, va_K.moved hW.alike hKc, zNs.warm hW hZN⟩⟩ rfl rfl hl.1 rfl (lv_room (Nat.le_of_ble_eq_true rfl)) dX3_counted_35 ⟨Nat.le_of_ble_eq_true rfl, Nat.le_of_ble_eq_true rfl⟩).run (fun r11 hr11 => ?_)
      obtain rfl := hr11
      refine lv_iadd hx hb dX3_counted_38 ?_
      refine lv_topi (fun x12 ex12 => ?_)
      obtain rfl : x12 = nI ((10 * i) + 10) := ex12.trans (nI_add (10 * i) 10)
      refine lv_istore_n (lv' := [(3, .int (nI ((10 * i) + 10))), (2, .int 0), (0, .ref hm), (1, .int 5), (4, .int (nI i))]) hx hb dX3_counted_39 rfl hl (by decide) rfl (fun ls hl => ?_)
      refine lv_iinc (v := nI (i + 1)) (lv' := [(4, .int (nI (i + 1))), (3, .int (nI ((10 * i) + 10))), (2, .int 0), (0, .ref hm), (1, .int 5)]) hx hb dX3_counted_40 hl (k := 4) rfl (by exact nI_1 i) (by decide) rfl (fun ls hl => ?_)
      refine lv_goto (tgt := 7) hx hb dX3_counted_43 (by decide) ?_
      exact ih7 (i + 1) (by omega) (by omega) _ _ (hP.sub [0, 1, 2, 3, 4, 5, 6, 7, 8] rfl) (hD.sub [0, 1, 2, 3, 4, 5, 6, 7, 8] (by decide) rfl) hS _ (lv_sub hl [3, 4, 2, 1, 0] rfl)

set_option maxHeartbeats 4000000 in
set_option maxRecDepth 100000 in
theorem r3_counted6 (l : Launch) (dC : Nat → ClassId) (dI : Nat → Nat → Nat) (sz : Nat) (hm : Nat) (wi : Nat) (co : Nat) (sl : Nat) (rn : Nat) (so : Nat) (bn : Nat) (sm : Nat) (ah : Nat) (th : Int32) (gr : Nat) (gt : Nat) (gw : Nat) (gk : Nat) (gi : Nat) (gp : Nat) (go : Nat) (gg : Nat) (d1 : ClassId) (d2 : ClassId) (d5 : ClassId) (d6 : ClassId) (d7 : ClassId) (d10 : ClassId) (d11 : ClassId) (fw : Nat → Int32) (fc : Nat → Int32) (fn : Nat → Int32) (fk : Nat → Int32) (hk : ∀ j : Nat, j < 360 → fk j = -1) (hw : ∀ j : Nat, j < 6 → fw j = 10) (hc : ∀ j : Nat, j < 6 → fc j = 6) (hn : ∀ j : Nat, j < 12 → fn j = 4) : Met l yX3_counted wsX3_counted ({ frames := 2, cells := 1, slots := 9, locals := 47 }) (va_Pc [.ref hm, .int 6] (fun U => U.heap.size = sz ∧ va_P (dC, dI) vwCl [(hm, .inr (3, [.int th, .int 6, .ref wi, .ref co, .ref sl, .ref rn, .ref so, .ref bn, .ref sm, .ref ah])), (sm, .inr (2, [.int 0, .ref gr, .ref gt, .ref gw, .ref gk, .ref gi, .ref gp, .ref go, .ref gg, .ref hm])), (wi, .inl (d1, 6, .inl fw)), (co, .inl (d2, 6, .inl fc)), (bn, .inl (d5, 3, .inl (fun _ => 0))), (rn, .inl (d6, 12, .inl fn)), (so, .inl (d7, 12, .inl (fun _ => 0))), (gk, .inl (d10, 360, .inl fk)), (gi, .inl (d11, 360, .inl (fun _ => 0)))] U.heap ∧ va_K (dC, dI) vwCl [(d1, .int), (d2, .int), (d5, .int), (d6, .int), (d7, .int), (d10, .int), (d11, .int)] U ∧ va_D (fun _ => True) [(hm, .inr (3, [.int th, .int 6, .ref wi, .ref co, .ref sl, .ref rn, .ref so, .ref bn, .ref sm, .ref ah])), (sm, .inr (2, [.int 0, .ref gr, .ref gt, .ref gw, .ref gk, .ref gi, .ref gp, .ref go, .ref gg, .ref hm])), (wi, .inl (d1, 6, .inl fw)), (co, .inl (d2, 6, .inl fc)), (bn, .inl (d5, 3, .inl (fun _ => 0))), (rn, .inl (d6, 12, .inl fn)), (so, .inl (d7, 12, .inl (fun _ => 0))), (gk, .inl (d10, 360, .inl fk)), (gi, .inl (d11, 360, .inl (fun _ => 0)))] ∧ zNs U)) (va_Qi (fun (r : Int32) (u : Unit) => r = 60) (fun (u : Unit) (t : State) => va_P (dC, dI) vwCl [(hm, .inr (3, [.int th, .int 6, .ref wi, .ref co, .ref sl, .ref rn, .ref so, .ref bn, .ref sm, .ref ah])), (sm, .inr (2, [.int 0, .ref gr, .ref gt, .ref gw, .ref gk, .ref gi, .ref gp, .ref go, .ref gg, .ref hm])), (wi, .inl (d1, 6, .inl fw)), (co, .inl (d2, 6, .inl fc)), (bn, .inl (d5, 3, .inl (fun _ => 0))), (rn, .inl (d6, 12, .inl fn)), (so, .inl (d7, 12, .inl (fun _ => 0))), (gk, .inl (d10, 360, .inl fk)), (gi, .inl (d11, 360, .inl (fun _ => 0)))] t.heap ∧ va_K (dC, dI) vwCl [] t ∧ va_D (va_A [(hm, .inr (3, [.int th, .int 6, .ref wi, .ref co, .ref sl, .ref rn, .ref so, .ref bn, .ref sm, .ref ah])), (sm, .inr (2, [.int 0, .ref gr, .ref gt, .ref gw, .ref gk, .ref gi, .ref gp, .ref go, .ref gg, .ref hm])), (wi, .inl (d1, 6, .inl fw)), (co, .inl (d2, 6, .inl fc)), (bn, .inl (d5, 3, .inl (fun _ => 0))), (rn, .inl (d6, 12, .inl fn)), (so, .inl (d7, 12, .inl (fun _ => 0))), (gk, .inl (d10, 360, .inl fk)), (gi, .inl (d11, 360, .inl (fun _ => 0)))] sz) [(hm, .inr (3, [.int th, .int 6, .ref wi, .ref co, .ref sl, .ref rn, .ref so, .ref bn, .ref sm, .ref ah])), (sm, .inr (2, [.int 0, .ref gr, .ref gt, .ref gw, .ref gk, .ref gi, .ref gp, .ref go, .ref gg, .ref hm])), (wi, .inl (d1, 6, .inl fw)), (co, .inl (d2, 6, .inl fc)), (bn, .inl (d5, 3, .inl (fun _ => 0))), (rn, .inl (d6, 12, .inl fn)), (so, .inl (d7, 12, .inl (fun _ => 0))), (gk, .inl (d10, 360, .inl fk)), (gi, .inl (d11, 360, .inl (fun _ => 0)))] ∧ sz + 1 ≤ t.heap.size) (va_A [(hm, .inr (3, [.int th, .int 6, .ref wi, .ref co, .ref sl, .ref rn, .ref so, .ref bn, .ref sm, .ref ah])), (sm, .inr (2, [.int 0, .ref gr, .ref gt, .ref gw, .ref gk, .ref gi, .ref gp, .ref go, .ref gg, .ref hm])), (wi, .inl (d1, 6, .inl fw)), (co, .inl (d2, 6, .inl fc)), (bn, .inl (d5, 3, .inl (fun _ => 0))), (rn, .inl (d6, 12, .inl fn)), (so, .inl (d7, 12, .inl (fun _ => 0))), (gk, .inl (d10, 360, .inl fk)), (gi, .inl (d11, 360, .inl (fun _ => 0)))] sz)) 1 9 (va_A [(hm, .inr (3, [.int th, .int 6, .ref wi, .ref co, .ref sl, .ref rn, .ref so, .ref bn, .ref sm, .ref ah])), (sm, .inr (2, [.int 0, .ref gr, .ref gt, .ref gw, .ref gk, .ref gi, .ref gp, .ref go, .ref gg, .ref hm])), (wi, .inl (d1, 6, .inl fw)), (co, .inl (d2, 6, .inl fc)), (bn, .inl (d5, 3, .inl (fun _ => 0))), (rn, .inl (d6, 12, .inl fn)), (so, .inl (d7, 12, .inl (fun _ => 0))), (gk, .inl (d10, 360, .inl fk)), (gi, .inl (d11, 360, .inl (fun _ => 0)))] sz) := by
  refine Met.ofW (cc := cX3_counted) (maxL := 5) (ret := (some .int)) (by decide) rfl ?_
  intro p e s m args below meth c s₁ B hml hv
  obtain ⟨rfl, hsz, hP, hK, hD0, hZN⟩ := hv
  have hx := B.exec
  have hb := B.bytes
  have hr := B.returns
  have hts := atoms_spec (ws := wsX3_counted) B.pre
  have hown : s.vm.findClass RX3 = some m.cls := findClass_of_methodNamed B.named
  have hlocks := B.notSynchronized
  subst hsz
  have hD := hD0.self (sz := s.heap.size)
  generalize hAe : va_A [(hm, .inr (3, [.int th, .int 6, .ref wi, .ref co, .ref sl, .ref rn, .ref so, .ref bn, .ref sm, .ref ah])), (sm, .inr (2, [.int 0, .ref gr, .ref gt, .ref gw, .ref gk, .ref gi, .ref gp, .ref go, .ref gg, .ref hm])), (wi, .inl (d1, 6, .inl fw)), (co, .inl (d2, 6, .inl fc)), (bn, .inl (d5, 3, .inl (fun _ => 0))), (rn, .inl (d6, 12, .inl fn)), (so, .inl (d7, 12, .inl (fun _ => 0))), (gk, .inl (d10, 360, .inl fk)), (gi, .inl (d11, 360, .inl (fun _ => 0)))] s.heap.size = A at hD ⊢
  have hA : ∀ q : Nat, s.heap.size ≤ q → A q := fun q h => by rw [← hAe]; exact Or.inr h
  have hS : va_S A s.heap s.heap [] := va_S.rf
  have hP : va_P (dC, dI) vwCl [(hm, .inr (3, [.int th, .int 6, .ref wi, .ref co, .ref sl, .ref rn, .ref so, .ref bn, .ref sm, .ref ah])), (sm, .inr (2, [.int 0, .ref gr, .ref gt, .ref gw, .ref gk, .ref gi, .ref gp, .ref go, .ref gg, .ref hm])), (wi, .inl (d1, 6, .inl fw)), (co, .inl (d2, 6, .inl fc)), (bn, .inl (d5, 3, .inl (fun _ => 0))), (rn, .inl (d6, 12, .inl fn)), (so, .inl (d7, 12, .inl (fun _ => 0))), (gk, .inl (d10, 360, .inl fk)), (gi, .inl (d11, 360, .inl (fun _ => 0)))] s.heap := hP
  have hl := lv_entry ([.ref hm, .int 6]) (n := 5) (Nat.le_of_ble_eq_true rfl)
  rw [lg_entry_eq]
  generalize (lg_sl ([.ref hm, .int 6]) ++ List.replicate (5 - (lg_sl ([.ref hm, .int 6])).length) Slot.unset).toArray = ls at hl ⊢
  have hl : lv_has ls 5 [(0, .ref hm), (1, .int 6)] := hl
  refine lv_iconst (v := 0) hx hb dX3_counted_0 (by decide) ?_
  refine lv_istore_n (lv' := [(2, .int 0), (0, .ref hm), (1, .int 6)]) hx hb dX3_counted_1 rfl hl (by decide) rfl (fun ls hl => ?_)
  refine lv_iconst (v := 0) hx hb dX3_counted_2 (by decide) ?_
  refine lv_istore_n (lv' := [(3, .int 0), (2, .int 0), (0, .ref hm), (1, .int 6)]) hx hb dX3_counted_3 rfl hl (by decide) rfl (fun ls hl => ?_)
  refine lv_iconst (v := 0) hx hb dX3_counted_4 (by decide) ?_
  refine lv_istore (lv' := [(4, .int 0), (3, .int 0), (2, .int 0), (0, .ref hm), (1, .int 6)]) hx hb dX3_counted_5 hl (by decide) rfl (fun ls hl => ?_)
  suffices K7 : ∀ (n : Nat) (i : Nat), (i ≤ 6) → 6 - i < n → ∀ (H : Heap) (locs : List Loc), va_P (dC, dI) vwCl [(hm, .inr (3, [.int th, .int 6, .ref wi, .ref co, .ref sl, .ref rn, .ref so, .ref bn, .ref sm, .ref ah])), (sm, .inr (2, [.int 0, .ref gr, .ref gt, .ref gw, .ref gk, .ref gi, .ref gp, .ref go, .ref gg, .ref hm])), (wi, .inl (d1, 6, .inl fw)), (co, .inl (d2, 6, .inl fc)), (bn, .inl (d5, 3, .inl (fun _ => 0))), (rn, .inl (d6, 12, .inl fn)), (so, .inl (d7, 12, .inl (fun _ => 0))), (gk, .inl (d10, 360, .inl fk)), (gi, .inl (d11, 360, .inl (fun _ => 0)))] H → va_D A [(hm, .inr (3, [.int th, .int 6, .ref wi, .ref co, .ref sl, .ref rn, .ref so, .ref bn, .ref sm, .ref ah])), (sm, .inr (2, [.int 0, .ref gr, .ref gt, .ref gw, .ref gk, .ref gi, .ref gp, .ref go, .ref gg, .ref hm])), (wi, .inl (d1, 6, .inl fw)), (co, .inl (d2, 6, .inl fc)), (bn, .inl (d5, 3, .inl (fun _ => 0))), (rn, .inl (d6, 12, .inl fn)), (so, .inl (d7, 12, .inl (fun _ => 0))), (gk, .inl (d10, 360, .inl fk)), (gi, .inl (d11, 360, .inl (fun _ => 0)))] → va_S A s.heap H locs → ∀ ls : Array Slot, lv_has ls 5 [(0, .ref hm), (1, .int 6), (2, .int 0), (3, .int (nI (10 * i))), (4, .int (nI i))] → W p l e ({ frames := 2, cells := 1, slots := 9, locals := 47 } : Room) s m (([.ref hm, .int 6] : List Value).toArray) below meth c H locs 0 0 (MQ below (va_Qi (fun (r : Int32) (u : Unit) => r = 60) (fun (u : Unit) (t : State) => va_P (dC, dI) vwCl [(hm, .inr (3, [.int th, .int 6, .ref wi, .ref co, .ref sl, .ref rn, .ref so, .ref bn, .ref sm, .ref ah])), (sm, .inr (2, [.int 0, .ref gr, .ref gt, .ref gw, .ref gk, .ref gi, .ref gp, .ref go, .ref gg, .ref hm])), (wi, .inl (d1, 6, .inl fw)), (co, .inl (d2, 6, .inl fc)), (bn, .inl (d5, 3, .inl (fun _ => 0))), (rn, .inl (d6, 12, .inl fn)), (so, .inl (d7, 12, .inl (fun _ => 0))), (gk, .inl (d10, 360, .inl fk)), (gi, .inl (d11, 360, .inl (fun _ => 0)))] t.heap ∧ va_K (dC, dI) vwCl [] t ∧ va_D A [(hm, .inr (3, [.int th, .int 6, .ref wi, .ref co, .ref sl, .ref rn, .ref so, .ref bn, .ref sm, .ref ah])), (sm, .inr (2, [.int 0, .ref gr, .ref gt, .ref gw, .ref gk, .ref gi, .ref gp, .ref go, .ref gg, .ref hm])), (wi, .inl (d1, 6, .inl fw)), (co, .inl (d2, 6, .inl fc)), (bn, .inl (d5, 3, .inl (fun _ => 0))), (rn, .inl (d6, 12, .inl fn)), (so, .inl (d7, 12, .inl (fun _ => 0))), (gk, .inl (d10, 360, .inl fk)), (gi, .inl (d11, 360, .inl (fun _ => 0)))] ∧ s.heap.size + 1 ≤ t.heap.size) A) (([.ref hm, .int 6] : List Value).toArray) s 1 9 A) (F0 m 7 ls []) from
    K7 _ 0 (by decide) (Nat.lt_succ_self _) _ _ hP hD hS _ (lv_sub hl [3, 4, 2, 1, 0] rfl)
  intro n
  induction n with
  | zero =>
    intro i hi hn
    exact absurd hn (Nat.not_lt_zero _)
  | succ n ih7 =>
    intro i hi hn7 H locs hP hD hS ls hl
    refine lv_iload hx hb dX3_counted_7 (lv_at hl 4 rfl) ?_
    refine lv_aload_n hx hb dX3_counted_9 rfl (lv_at hl 0 rfl) ?_
    refine va_get (D := (dC, dI)) (ci := 3) (v := .int 6) (C := RX3) (T := TX3) (N := 10) hx hb hts (by decide +kernel) hown hK hP 0 rfl rfl 1 (by decide) (hts (.fieldLink RX3 44 "ThatchRoofModel" "roofs" "I") (by decide +kernel)) (fun _ h9 => h9) rfl dX3_counted_10 ?_
    refine lv_icmp_ge (tgt := 46) hx hb dX3_counted_13 (by decide) (fun c1 => ?_) (fun c1 => ?_)
    · have nc1 : 6 ≤ i := (nI_leI (a := 6) (b := i) (by omega) (by omega)).mp c1
      have h9 : i = 6 := by omega
      rw [show nI (10 * i) = 60 from by rw [h9]; rfl] at hl
      refine lv_bipush (v := 9) hx hb dX3_counted_46 (by decide) ?_
      refine va_newa (atype := .int) (ty := .int) (N' := 9) (a0 := (9, .inl (fun _ => 0))) hx hb (hts (.arrayClass .int) (by decide +kernel)) rfl hK hP hD hS hA (fun _ => rfl) (by decide) (by decide) (by decide) (Nat.le_of_ble_eq_true rfl) (Nat.le_of_ble_eq_true rfl) dX3_counted_48 (fun q2 cA3 H hK hP hD hS => ?_)
      refine W.widen (k := 1) (n := 9) (Nat.le_of_ble_eq_true rfl) (Nat.le_of_ble_eq_true rfl) ?_
      have hK : va_K (dC, dI) vwCl [(d1, .int), (d2, .int), (d5, .int), (d6, .int), (d7, .int), (d10, .int), (d11, .int), (cA3, .int)] s := hK
      have hP : va_P (dC, dI) vwCl [(hm, .inr (3, [.int th, .int 6, .ref wi, .ref co, .ref sl, .ref rn, .ref so, .ref bn, .ref sm, .ref ah])), (sm, .inr (2, [.int 0, .ref gr, .ref gt, .ref gw, .ref gk, .ref gi, .ref gp, .ref go, .ref gg, .ref hm])), (wi, .inl (d1, 6, .inl fw)), (co, .inl (d2, 6, .inl fc)), (bn, .inl (d5, 3, .inl (fun _ => 0))), (rn, .inl (d6, 12, .inl fn)), (so, .inl (d7, 12, .inl (fun _ => 0))), (gk, .inl (d10, 360, .inl fk)), (gi, .inl (d11, 360, .inl (fun _ => 0))), (q2, .inl (cA3, 9, .inl (fun _ => 0)))] H := hP
      have hD : va_D A [(hm, .inr (3, [.int th, .int 6, .ref wi, .ref co, .ref sl, .ref rn, .ref so, .ref bn, .ref sm, .ref ah])), (sm, .inr (2, [.int 0, .ref gr, .ref gt, .ref gw, .ref gk, .ref gi, .ref gp, .ref go, .ref gg, .ref hm])), (wi, .inl (d1, 6, .inl fw)), (co, .inl (d2, 6, .inl fc)), (bn, .inl (d5, 3, .inl (fun _ => 0))), (rn, .inl (d6, 12, .inl fn)), (so, .inl (d7, 12, .inl (fun _ => 0))), (gk, .inl (d10, 360, .inl fk)), (gi, .inl (d11, 360, .inl (fun _ => 0))), (q2, .inl (cA3, 9, .inl (fun _ => 0)))] := hD
      refine lv_dup hx hb dX3_counted_50 rfl ?_
      refine lv_iconst (v := 0) hx hb dX3_counted_51 (by decide) ?_
      refine lv_aload_n hx hb dX3_counted_52 rfl (lv_at hl 0 rfl) ?_
      refine va_get (D := (dC, dI)) (ci := 3) (v := .ref sm) (C := RX3) (T := TX3) (N := 10) hx hb hts (by decide +kernel) hown hK hP 0 rfl rfl 8 (by decide) (hts (.fieldLink RX3 33 "ThatchRoofModel" "s" "LThatchRoofModel$State;") (by decide +kernel)) (fun _ h9 => h9) rfl dX3_counted_53 ?_
      refine va_getN (D := (dC, dI)) (ci := 2) (v := .int 0) (C := RX2) (T := TX2) (N := 10) hx hb hts (by decide +kernel) hown hK hP 1 rfl rfl 0 (by decide) (va_Nw.use rfl (zN_RX3_128 hZN)) (fun _ h9 => h9) rfl dX3_counted_56 ?_
      refine va_iast hx hb hK hP hD hS 9 7 rfl rfl (vp_in_nI (n := 0) (by decide) (by decide)) dX3_counted_59 (fun H locs hP hD hS => ?_)
      have hP : va_P (dC, dI) vwCl [(hm, .inr (3, [.int th, .int 6, .ref wi, .ref co, .ref sl, .ref rn, .ref so, .ref bn, .ref sm, .ref ah])), (sm, .inr (2, [.int 0, .ref gr, .ref gt, .ref gw, .ref gk, .ref gi, .ref gp, .ref go, .ref gg, .ref hm])), (wi, .inl (d1, 6, .inl fw)), (co, .inl (d2, 6, .inl fc)), (bn, .inl (d5, 3, .inl (fun _ => 0))), (rn, .inl (d6, 12, .inl fn)), (so, .inl (d7, 12, .inl (fun _ => 0))), (gk, .inl (d10, 360, .inl fk)), (gi, .inl (d11, 360, .inl (fun _ => 0))), (q2, .inl (cA3, 9, .inl (upd (fun _ => 0) 0 0)))] H := hP
      have hD : va_D A [(hm, .inr (3, [.int th, .int 6, .ref wi, .ref co, .ref sl, .ref rn, .ref so, .ref bn, .ref sm, .ref ah])), (sm, .inr (2, [.int 0, .ref gr, .ref gt, .ref gw, .ref gk, .ref gi, .ref gp, .ref go, .ref gg, .ref hm])), (wi, .inl (d1, 6, .inl fw)), (co, .inl (d2, 6, .inl fc)), (bn, .inl (d5, 3, .inl (fun _ => 0))), (rn, .inl (d6, 12, .inl fn)), (so, .inl (d7, 12, .inl (fun _ => 0))), (gk, .inl (d10, 360, .inl fk)), (gi, .inl (d11, 360, .inl (fun _ => 0))), (q2, .inl (cA3, 9, .inl (upd (fun _ => 0) 0 0)))] := hD
      refine lv_dup hx hb dX3_counted_60 rfl ?_
      refine lv_iconst (v := 1) hx hb dX3_counted_61 (by decide) ?_
      refine lv_aload_n hx hb dX3_counted_62 rfl (lv_at hl 0 rfl) ?_
      refine va_get (D := (dC, dI)) (ci := 3) (v := .int 6) (C := RX3) (T := TX3) (N := 10) hx hb hts (by decide +kernel) hown hK hP 0 rfl rfl 1 (by decide) (hts (.fieldLink RX3 44 "ThatchRoofModel" "roofs" "I") (by decide +kernel)) (fun _ h9 => h9) rfl dX3_counted_63 ?_
      refine va_iast hx hb hK hP hD hS 9 7 rfl rfl (vp_in_nI (n := 1) (by decide) (by decide)) dX3_counted_66 (fun H locs hP hD hS => ?_)
      have hP : va_P (dC, dI) vwCl [(hm, .inr (3, [.int th, .int 6, .ref wi, .ref co, .ref sl, .ref rn, .ref so, .ref bn, .ref sm, .ref ah])), (sm, .inr (2, [.int 0, .ref gr, .ref gt, .ref gw, .ref gk, .ref gi, .ref gp, .ref go, .ref gg, .ref hm])), (wi, .inl (d1, 6, .inl fw)), (co, .inl (d2, 6, .inl fc)), (bn, .inl (d5, 3, .inl (fun _ => 0))), (rn, .inl (d6, 12, .inl fn)), (so, .inl (d7, 12, .inl (fun _ => 0))), (gk, .inl (d10, 360, .inl fk)), (gi, .inl (d11, 360, .inl (fun _ => 0))), (q2, .inl (cA3, 9, .inl (upd (upd (fun _ => 0) 0 0) 1 6)))] H := hP
      have hD : va_D A [(hm, .inr (3, [.int th, .int 6, .ref wi, .ref co, .ref sl, .ref rn, .ref so, .ref bn, .ref sm, .ref ah])), (sm, .inr (2, [.int 0, .ref gr, .ref gt, .ref gw, .ref gk, .ref gi, .ref gp, .ref go, .ref gg, .ref hm])), (wi, .inl (d1, 6, .inl fw)), (co, .inl (d2, 6, .inl fc)), (bn, .inl (d5, 3, .inl (fun _ => 0))), (rn, .inl (d6, 12, .inl fn)), (so, .inl (d7, 12, .inl (fun _ => 0))), (gk, .inl (d10, 360, .inl fk)), (gi, .inl (d11, 360, .inl (fun _ => 0))), (q2, .inl (cA3, 9, .inl (upd (upd (fun _ => 0) 0 0) 1 6)))] := hD
      refine lv_dup hx hb dX3_counted_67 rfl ?_
      refine lv_iconst (v := 2) hx hb dX3_counted_68 (by decide) ?_
      refine lv_aload_n hx hb dX3_counted_69 rfl (lv_at hl 0 rfl) ?_
      refine va_get (D := (dC, dI)) (ci := 3) (v := .ref bn) (C := RX3) (T := TX3) (N := 10) hx hb hts (by decide +kernel) hown hK hP 0 rfl rfl 7 (by decide) (hts (.fieldLink RX3 25 "ThatchRoofModel" "barn" "[I") (by decide +kernel)) (fun _ h9 => h9) rfl dX3_counted_70 ?_
      refine lv_iconst (v := 0) hx hb dX3_counted_73 (by decide) ?_
      refine va_iald hx hb hK hP 4 2 rfl rfl (vp_in_nI (n := 0) (by decide) (by decide)) dX3_counted_74 ?_
      refine lv_topi (fun x4 ex4 => ?_)
      obtain rfl : x4 = 0 := ex4
      refine va_iast hx hb hK hP hD hS 9 7 rfl rfl (vp_in_nI (n := 2) (by decide) (by decide)) dX3_counted_75 (fun H locs hP hD hS => ?_)
      have hP : va_P (dC, dI) vwCl [(hm, .inr (3, [.int th, .int 6, .ref wi, .ref co, .ref sl, .ref rn, .ref so, .ref bn, .ref sm, .ref ah])), (sm, .inr (2, [.int 0, .ref gr, .ref gt, .ref gw, .ref gk, .ref gi, .ref gp, .ref go, .ref gg, .ref hm])), (wi, .inl (d1, 6, .inl fw)), (co, .inl (d2, 6, .inl fc)), (bn, .inl (d5, 3, .inl (fun _ => 0))), (rn, .inl (d6, 12, .inl fn)), (so, .inl (d7, 12, .inl (fun _ => 0))), (gk, .inl (d10, 360, .inl fk)), (gi, .inl (d11, 360, .inl (fun _ => 0))), (q2, .inl (cA3, 9, .inl (upd (upd (upd (fun _ => 0) 0 0) 1 6) 2 0)))] H := hP
      have hD : va_D A [(hm, .inr (3, [.int th, .int 6, .ref wi, .ref co, .ref sl, .ref rn, .ref so, .ref bn, .ref sm, .ref ah])), (sm, .inr (2, [.int 0, .ref gr, .ref gt, .ref gw, .ref gk, .ref gi, .ref gp, .ref go, .ref gg, .ref hm])), (wi, .inl (d1, 6, .inl fw)), (co, .inl (d2, 6, .inl fc)), (bn, .inl (d5, 3, .inl (fun _ => 0))), (rn, .inl (d6, 12, .inl fn)), (so, .inl (d7, 12, .inl (fun _ => 0))), (gk, .inl (d10, 360, .inl fk)), (gi, .inl (d11, 360, .inl (fun _ => 0))), (q2, .inl (cA3, 9, .inl (upd (upd (upd (fun _ => 0) 0 0) 1 6) 2 0)))] := hD
      refine lv_dup hx hb dX3_counted_76 rfl ?_
      refine lv_iconst (v := 3) hx hb dX3_counted_77 (by decide) ?_
      refine lv_aload_n hx hb dX3_counted_78 rfl (lv_at hl 0 rfl) ?_
      refine va_get (D := (dC, dI)) (ci := 3) (v := .ref bn) (C := RX3) (T := TX3) (N := 10) hx hb hts (by decide +kernel) hown hK hP 0 rfl rfl 7 (by decide) (hts (.fieldLink RX3 25 "ThatchRoofModel" "barn" "[I") (by decide +kernel)) (fun _ h9 => h9) rfl dX3_counted_79 ?_
      refine lv_iconst (v := 1) hx hb dX3_counted_82 (by decide) ?_
      refine va_iald hx hb hK hP 4 2 rfl rfl (vp_in_nI (n := 1) (by decide) (by decide)) dX3_counted_83 ?_
      refine lv_topi (fun x5 ex5 => ?_)
      obtain rfl : x5 = 0 := ex5
      refine va_iast hx hb hK hP hD hS 9 7 rfl rfl (vp_in_nI (n := 3) (by decide) (by decide)) dX3_counted_84 (fun H locs hP hD hS => ?_)
      have hP : va_P (dC, dI) vwCl [(hm, .inr (3, [.int th, .int 6, .ref wi, .ref co, .ref sl, .ref rn, .ref so, .ref bn, .ref sm, .ref ah])), (sm, .inr (2, [.int 0, .ref gr, .ref gt, .ref gw, .ref gk, .ref gi, .ref gp, .ref go, .ref gg, .ref hm])), (wi, .inl (d1, 6, .inl fw)), (co, .inl (d2, 6, .inl fc)), (bn, .inl (d5, 3, .inl (fun _ => 0))), (rn, .inl (d6, 12, .inl fn)), (so, .inl (d7, 12, .inl (fun _ => 0))), (gk, .inl (d10, 360, .inl fk)), (gi, .inl (d11, 360, .inl (fun _ => 0))), (q2, .inl (cA3, 9, .inl (upd (upd (upd (upd (fun _ => 0) 0 0) 1 6) 2 0) 3 0)))] H := hP
      have hD : va_D A [(hm, .inr (3, [.int th, .int 6, .ref wi, .ref co, .ref sl, .ref rn, .ref so, .ref bn, .ref sm, .ref ah])), (sm, .inr (2, [.int 0, .ref gr, .ref gt, .ref gw, .ref gk, .ref gi, .ref gp, .ref go, .ref gg, .ref hm])), (wi, .inl (d1, 6, .inl fw)), (co, .inl (d2, 6, .inl fc)), (bn, .inl (d5, 3, .inl (fun _ => 0))), (rn, .inl (d6, 12, .inl fn)), (so, .inl (d7, 12, .inl (fun _ => 0))), (gk, .inl (d10, 360, .inl fk)), (gi, .inl (d11, 360, .inl (fun _ => 0))), (q2, .inl (cA3, 9, .inl (upd (upd (upd (upd (fun _ => 0) 0 0) 1 6) 2 0) 3 0)))] := hD
      refine lv_dup hx hb dX3_counted_85 rfl ?_
      refine lv_iconst (v := 4) hx hb dX3_counted_86 (by decide) ?_
      refine lv_aload_n hx hb dX3_counted_87 rfl (lv_at hl 0 rfl) ?_
      refine va_get (D := (dC, dI)) (ci := 3) (v := .ref bn) (C := RX3) (T := TX3) (N := 10) hx hb hts (by decide +kernel) hown hK hP 0 rfl rfl 7 (by decide) (hts (.fieldLink RX3 25 "ThatchRoofModel" "barn" "[I") (by decide +kernel)) (fun _ h9 => h9) rfl dX3_counted_88 ?_
      refine lv_iconst (v := 2) hx hb dX3_counted_91 (by decide) ?_
      refine va_iald hx hb hK hP 4 2 rfl rfl (vp_in_nI (n := 2) (by decide) (by decide)) dX3_counted_92 ?_
      refine lv_topi (fun x6 ex6 => ?_)
      obtain rfl : x6 = 0 := ex6
      refine va_iast hx hb hK hP hD hS 9 7 rfl rfl (vp_in_nI (n := 4) (by decide) (by decide)) dX3_counted_93 (fun H locs hP hD hS => ?_)
      have hP : va_P (dC, dI) vwCl [(hm, .inr (3, [.int th, .int 6, .ref wi, .ref co, .ref sl, .ref rn, .ref so, .ref bn, .ref sm, .ref ah])), (sm, .inr (2, [.int 0, .ref gr, .ref gt, .ref gw, .ref gk, .ref gi, .ref gp, .ref go, .ref gg, .ref hm])), (wi, .inl (d1, 6, .inl fw)), (co, .inl (d2, 6, .inl fc)), (bn, .inl (d5, 3, .inl (fun _ => 0))), (rn, .inl (d6, 12, .inl fn)), (so, .inl (d7, 12, .inl (fun _ => 0))), (gk, .inl (d10, 360, .inl fk)), (gi, .inl (d11, 360, .inl (fun _ => 0))), (q2, .inl (cA3, 9, .inl (upd (upd (upd (upd (upd (fun _ => 0) 0 0) 1 6) 2 0) 3 0) 4 0)))] H := hP
      have hD : va_D A [(hm, .inr (3, [.int th, .int 6, .ref wi, .ref co, .ref sl, .ref rn, .ref so, .ref bn, .ref sm, .ref ah])), (sm, .inr (2, [.int 0, .ref gr, .ref gt, .ref gw, .ref gk, .ref gi, .ref gp, .ref go, .ref gg, .ref hm])), (wi, .inl (d1, 6, .inl fw)), (co, .inl (d2, 6, .inl fc)), (bn, .inl (d5, 3, .inl (fun _ => 0))), (rn, .inl (d6, 12, .inl fn)), (so, .inl (d7, 12, .inl (fun _ => 0))), (gk, .inl (d10, 360, .inl fk)), (gi, .inl (d11, 360, .inl (fun _ => 0))), (q2, .inl (cA3, 9, .inl (upd (upd (upd (upd (upd (fun _ => 0) 0 0) 1 6) 2 0) 3 0) 4 0)))] := hD
      refine lv_dup hx hb dX3_counted_94 rfl ?_
      refine lv_iconst (v := 5) hx hb dX3_counted_95 (by decide) ?_
      refine lv_iload_n hx hb dX3_counted_96 rfl (lv_at hl 2 rfl) ?_
      refine va_iast hx hb hK hP hD hS 9 7 rfl rfl (vp_in_nI (n := 5) (by decide) (by decide)) dX3_counted_97 (fun H locs hP hD hS => ?_)
      have hP : va_P (dC, dI) vwCl [(hm, .inr (3, [.int th, .int 6, .ref wi, .ref co, .ref sl, .ref rn, .ref so, .ref bn, .ref sm, .ref ah])), (sm, .inr (2, [.int 0, .ref gr, .ref gt, .ref gw, .ref gk, .ref gi, .ref gp, .ref go, .ref gg, .ref hm])), (wi, .inl (d1, 6, .inl fw)), (co, .inl (d2, 6, .inl fc)), (bn, .inl (d5, 3, .inl (fun _ => 0))), (rn, .inl (d6, 12, .inl fn)), (so, .inl (d7, 12, .inl (fun _ => 0))), (gk, .inl (d10, 360, .inl fk)), (gi, .inl (d11, 360, .inl (fun _ => 0))), (q2, .inl (cA3, 9, .inl (upd (upd (upd (upd (upd (upd (fun _ => 0) 0 0) 1 6) 2 0) 3 0) 4 0) 5 0)))] H := hP
      have hD : va_D A [(hm, .inr (3, [.int th, .int 6, .ref wi, .ref co, .ref sl, .ref rn, .ref so, .ref bn, .ref sm, .ref ah])), (sm, .inr (2, [.int 0, .ref gr, .ref gt, .ref gw, .ref gk, .ref gi, .ref gp, .ref go, .ref gg, .ref hm])), (wi, .inl (d1, 6, .inl fw)), (co, .inl (d2, 6, .inl fc)), (bn, .inl (d5, 3, .inl (fun _ => 0))), (rn, .inl (d6, 12, .inl fn)), (so, .inl (d7, 12, .inl (fun _ => 0))), (gk, .inl (d10, 360, .inl fk)), (gi, .inl (d11, 360, .inl (fun _ => 0))), (q2, .inl (cA3, 9, .inl (upd (upd (upd (upd (upd (upd (fun _ => 0) 0 0) 1 6) 2 0) 3 0) 4 0) 5 0)))] := hD
      refine lv_dup hx hb dX3_counted_98 rfl ?_
      refine lv_bipush (v := 6) hx hb dX3_counted_99 (by decide) ?_
      refine lv_iload_n hx hb dX3_counted_101 rfl (lv_at hl 3 rfl) ?_
      refine va_iast hx hb hK hP hD hS 9 7 rfl rfl (vp_in_nI (n := 6) (by decide) (by decide)) dX3_counted_102 (fun H locs hP hD hS => ?_)
      have hP : va_P (dC, dI) vwCl [(hm, .inr (3, [.int th, .int 6, .ref wi, .ref co, .ref sl, .ref rn, .ref so, .ref bn, .ref sm, .ref ah])), (sm, .inr (2, [.int 0, .ref gr, .ref gt, .ref gw, .ref gk, .ref gi, .ref gp, .ref go, .ref gg, .ref hm])), (wi, .inl (d1, 6, .inl fw)), (co, .inl (d2, 6, .inl fc)), (bn, .inl (d5, 3, .inl (fun _ => 0))), (rn, .inl (d6, 12, .inl fn)), (so, .inl (d7, 12, .inl (fun _ => 0))), (gk, .inl (d10, 360, .inl fk)), (gi, .inl (d11, 360, .inl (fun _ => 0))), (q2, .inl (cA3, 9, .inl (upd (upd (upd (upd (upd (upd (upd (fun _ => 0) 0 0) 1 6) 2 0) 3 0) 4 0) 5 0) 6 60)))] H := hP
      have hD : va_D A [(hm, .inr (3, [.int th, .int 6, .ref wi, .ref co, .ref sl, .ref rn, .ref so, .ref bn, .ref sm, .ref ah])), (sm, .inr (2, [.int 0, .ref gr, .ref gt, .ref gw, .ref gk, .ref gi, .ref gp, .ref go, .ref gg, .ref hm])), (wi, .inl (d1, 6, .inl fw)), (co, .inl (d2, 6, .inl fc)), (bn, .inl (d5, 3, .inl (fun _ => 0))), (rn, .inl (d6, 12, .inl fn)), (so, .inl (d7, 12, .inl (fun _ => 0))), (gk, .inl (d10, 360, .inl fk)), (gi, .inl (d11, 360, .inl (fun _ => 0))), (q2, .inl (cA3, 9, .inl (upd (upd (upd (upd (upd (upd (upd (fun _ => 0) 0 0) 1 6) 2 0) 3 0) 4 0) 5 0) 6 60)))] := hD
      refine lv_dup hx hb dX3_counted_103 rfl ?_
      refine lv_bipush (v := 7) hx hb dX3_counted_104 (by decide) ?_
      refine lv_aload_n hx hb dX3_counted_106 rfl (lv_at hl 0 rfl) ?_
      refine va_get (D := (dC, dI)) (ci := 3) (v := .ref rn) (C := RX3) (T := TX3) (N := 10) hx hb hts (by decide +kernel) hown hK hP 0 rfl rfl 5 (by decide) (hts (.fieldLink RX3 19 "ThatchRoofModel" "rain" "[I") (by decide +kernel)) (fun _ h9 => h9) rfl dX3_counted_107 ?_
      refine lv_aload_n hx hb dX3_counted_110 rfl (lv_at hl 0 rfl) ?_
      refine va_get (D := (dC, dI)) (ci := 3) (v := .ref sm) (C := RX3) (T := TX3) (N := 10) hx hb hts (by decide +kernel) hown hK hP 0 rfl rfl 8 (by decide) (hts (.fieldLink RX3 33 "ThatchRoofModel" "s" "LThatchRoofModel$State;") (by decide +kernel)) (fun _ h9 => h9) rfl dX3_counted_111 ?_
      refine va_getN (D := (dC, dI)) (ci := 2) (v := .int 0) (C := RX2) (T := TX2) (N := 10) hx hb hts (by decide +kernel) hown hK hP 1 rfl rfl 0 (by decide) (va_Nw.use rfl (zN_RX3_128 hZN)) (fun _ h9 => h9) rfl dX3_counted_114 ?_
      refine lv_bipush (v := 12) hx hb dX3_counted_117 (by decide) ?_
      refine lv_irem hx hb dX3_counted_119 (by decide) ?_
      refine W.eq (g2 := F0 m 120 ls [.int 0, .ref rn, .int 7, .ref q2, .ref q2]) rfl ?_
      refine va_iald hx hb hK hP 5 3 rfl rfl (vp_in_nI (n := 0) (by decide) (by decide)) dX3_counted_120 ?_
      refine lv_topi (fun x7 ex7 => ?_)
      obtain rfl : x7 = 4 := ex7.trans (hn 0 (by decide))
      refine va_iast hx hb hK hP hD hS 9 7 rfl rfl (vp_in_nI (n := 7) (by decide) (by decide)) dX3_counted_121 (fun H locs hP hD hS => ?_)
      have hP : va_P (dC, dI) vwCl [(hm, .inr (3, [.int th, .int 6, .ref wi, .ref co, .ref sl, .ref rn, .ref so, .ref bn, .ref sm, .ref ah])), (sm, .inr (2, [.int 0, .ref gr, .ref gt, .ref gw, .ref gk, .ref gi, .ref gp, .ref go, .ref gg, .ref hm])), (wi, .inl (d1, 6, .inl fw)), (co, .inl (d2, 6, .inl fc)), (bn, .inl (d5, 3, .inl (fun _ => 0))), (rn, .inl (d6, 12, .inl fn)), (so, .inl (d7, 12, .inl (fun _ => 0))), (gk, .inl (d10, 360, .inl fk)), (gi, .inl (d11, 360, .inl (fun _ => 0))), (q2, .inl (cA3, 9, .inl (upd (upd (upd (upd (upd (upd (upd (upd (fun _ => 0) 0 0) 1 6) 2 0) 3 0) 4 0) 5 0) 6 60) 7 4)))] H := hP
      have hD : va_D A [(hm, .inr (3, [.int th, .int 6, .ref wi, .ref co, .ref sl, .ref rn, .ref so, .ref bn, .ref sm, .ref ah])), (sm, .inr (2, [.int 0, .ref gr, .ref gt, .ref gw, .ref gk, .ref gi, .ref gp, .ref go, .ref gg, .ref hm])), (wi, .inl (d1, 6, .inl fw)), (co, .inl (d2, 6, .inl fc)), (bn, .inl (d5, 3, .inl (fun _ => 0))), (rn, .inl (d6, 12, .inl fn)), (so, .inl (d7, 12, .inl (fun _ => 0))), (gk, .inl (d10, 360, .inl fk)), (gi, .inl (d11, 360, .inl (fun _ => 0))), (q2, .inl (cA3, 9, .inl (upd (upd (upd (upd (upd (upd (upd (upd (fun _ => 0) 0 0) 1 6) 2 0) 3 0) 4 0) 5 0) 6 60) 7 4)))] := hD
      refine lv_dup hx hb dX3_counted_122 rfl ?_
      refine lv_bipush (v := 8) hx hb dX3_counted_123 (by decide) ?_
      refine lv_aload_n hx hb dX3_counted_125 rfl (lv_at hl 0 rfl) ?_
      refine va_get (D := (dC, dI)) (ci := 3) (v := .ref so) (C := RX3) (T := TX3) (N := 10) hx hb hts (by decide +kernel) hown hK hP 0 rfl rfl 6 (by decide) (hts (.fieldLink RX3 22 "ThatchRoofModel" "storm" "[I") (by decide +kernel)) (fun _ h9 => h9) rfl dX3_counted_126 ?_
      refine lv_aload_n hx hb dX3_counted_129 rfl (lv_at hl 0 rfl) ?_
      refine va_get (D := (dC, dI)) (ci := 3) (v := .ref sm) (C := RX3) (T := TX3) (N := 10) hx hb hts (by decide +kernel) hown hK hP 0 rfl rfl 8 (by decide) (hts (.fieldLink RX3 33 "ThatchRoofModel" "s" "LThatchRoofModel$State;") (by decide +kernel)) (fun _ h9 => h9) rfl dX3_counted_130 ?_
      refine va_getN (D := (dC, dI)) (ci := 2) (v := .int 0) (C := RX2) (T := TX2) (N := 10) hx hb hts (by decide +kernel) hown hK hP 1 rfl rfl 0 (by decide) (va_Nw.use rfl (zN_RX3_128 hZN)) (fun _ h9 => h9) rfl dX3_counted_133 ?_
      refine lv_bipush (v := 12) hx hb dX3_counted_136 (by decide) ?_
      refine lv_irem hx hb dX3_counted_138 (by decide) ?_
      refine W.eq (g2 := F0 m 139 ls [.int 0, .ref so, .int 8, .ref q2, .ref q2]) rfl ?_
      refine va_iald hx hb hK hP 6 4 rfl rfl (vp_in_nI (n := 0) (by decide) (by decide)) dX3_counted_139 ?_
      refine lv_topi (fun x8 ex8 => ?_)
      obtain rfl : x8 = 0 := ex8
      refine va_iast hx hb hK hP hD hS 9 7 rfl rfl (vp_in_nI (n := 8) (by decide) (by decide)) dX3_counted_140 (fun H locs hP hD hS => ?_)
      have hP : va_P (dC, dI) vwCl [(hm, .inr (3, [.int th, .int 6, .ref wi, .ref co, .ref sl, .ref rn, .ref so, .ref bn, .ref sm, .ref ah])), (sm, .inr (2, [.int 0, .ref gr, .ref gt, .ref gw, .ref gk, .ref gi, .ref gp, .ref go, .ref gg, .ref hm])), (wi, .inl (d1, 6, .inl fw)), (co, .inl (d2, 6, .inl fc)), (bn, .inl (d5, 3, .inl (fun _ => 0))), (rn, .inl (d6, 12, .inl fn)), (so, .inl (d7, 12, .inl (fun _ => 0))), (gk, .inl (d10, 360, .inl fk)), (gi, .inl (d11, 360, .inl (fun _ => 0))), (q2, .inl (cA3, 9, .inl (upd (upd (upd (upd (upd (upd (upd (upd (upd (fun _ => 0) 0 0) 1 6) 2 0) 3 0) 4 0) 5 0) 6 60) 7 4) 8 0)))] H := hP
      have hD : va_D A [(hm, .inr (3, [.int th, .int 6, .ref wi, .ref co, .ref sl, .ref rn, .ref so, .ref bn, .ref sm, .ref ah])), (sm, .inr (2, [.int 0, .ref gr, .ref gt, .ref gw, .ref gk, .ref gi, .ref gp, .ref go, .ref gg, .ref hm])), (wi, .inl (d1, 6, .inl fw)), (co, .inl (d2, 6, .inl fc)), (bn, .inl (d5, 3, .inl (fun _ => 0))), (rn, .inl (d6, 12, .inl fn)), (so, .inl (d7, 12, .inl (fun _ => 0))), (gk, .inl (d10, 360, .inl fk)), (gi, .inl (d11, 360, .inl (fun _ => 0))), (q2, .inl (cA3, 9, .inl (upd (upd (upd (upd (upd (upd (upd (upd (upd (fun _ => 0) 0 0) 1 6) 2 0) 3 0) 4 0) 5 0) 6 60) 7 4) 8 0)))] := hD
      refine lv_astore (lv' := [(4, .ref q2), (0, .ref hm), (1, .int 6), (2, .int 0), (3, .int 60)]) hx hb dX3_counted_141 hl (by decide) rfl (fun ls hl => ?_)
      refine lv_aload hx hb dX3_counted_143 (lv_at hl 0 rfl) ?_
      refine lv_iload_n hx hb dX3_counted_145 rfl (lv_at hl 2 rfl) ?_
      refine va_iald hx hb hK hP 9 7 rfl rfl (vp_in_nI (n := 6) (by decide) (by decide)) dX3_counted_146 ?_
      refine lv_topi (fun x9 ex9 => ?_)
      obtain rfl : x9 = 60 := ex9
      have hP9 := hP.sub (ws' := [(hm, .inr (3, [.int th, .int 6, .ref wi, .ref co, .ref sl, .ref rn, .ref so, .ref bn, .ref sm, .ref ah])), (sm, .inr (2, [.int 0, .ref gr, .ref gt, .ref gw, .ref gk, .ref gi, .ref gp, .ref go, .ref gg, .ref hm])), (wi, .inl (d1, 6, .inl fw)), (co, .inl (d2, 6, .inl fc)), (bn, .inl (d5, 3, .inl (fun _ => 0))), (rn, .inl (d6, 12, .inl fn)), (so, .inl (d7, 12, .inl (fun _ => 0))), (gk, .inl (d10, 360, .inl fk)), (gi, .inl (d11, 360, .inl (fun _ => 0)))]) [0, 1, 2, 3, 4, 5, 6, 7, 8] rfl
      have hD9 := hD.sub (ws' := [(hm, .inr (3, [.int th, .int 6, .ref wi, .ref co, .ref sl, .ref rn, .ref so, .ref bn, .ref sm, .ref ah])), (sm, .inr (2, [.int 0, .ref gr, .ref gt, .ref gw, .ref gk, .ref gi, .ref gp, .ref go, .ref gg, .ref hm])), (wi, .inl (d1, 6, .inl fw)), (co, .inl (d2, 6, .inl fc)), (bn, .inl (d5, 3, .inl (fun _ => 0))), (rn, .inl (d6, 12, .inl fn)), (so, .inl (d7, 12, .inl (fun _ => 0))), (gk, .inl (d10, 360, .inl fk)), (gi, .inl (d11, 360, .inl (fun _ => 0)))]) [0, 1, 2, 3, 4, 5, 6, 7, 8] (by decide) rfl
      have hK9 := hK.sub (tys' := []) [] rfl
      refine W.widen (k := 1) (n := 9) (Nat.le_of_ble_eq_true rfl) (Nat.le_of_ble_eq_true rfl) ?_
      have hZ := zz_one hAe hD hP 9 [0, 1, 2, 3, 4, 5, 6, 7, 8] rfl rfl (by decide)
      exact W.iret (v := 60) hx hb hr (fun t ht hW => ⟨⟨60, (), rfl, by (first | rfl | assumption | decide | (simp_all; done) | grind), ⟨by rw [ht]; exact hP9, va_K.moved hW.alike hK9, hD9, by rw [ht]; omega⟩⟩, hS.F ht⟩) hS.2.2 dX3_counted_147
    · have nc1 : i < 6 := Nat.lt_of_not_le (fun q => c1 ((nI_leI (a := 6) (b := i) (by omega) (by omega)).mpr q))
      refine lv_iload_n hx hb dX3_counted_16 rfl (lv_at hl 2 rfl) ?_
      refine lv_aload_n hx hb dX3_counted_17 rfl (lv_at hl 0 rfl) ?_
      refine va_get (D := (dC, dI)) (ci := 3) (v := .ref sm) (C := RX3) (T := TX3) (N := 10) hx hb hts (by decide +kernel) hown hK hP 0 rfl rfl 8 (by decide) (hts (.fieldLink RX3 33 "ThatchRoofModel" "s" "LThatchRoofModel$State;") (by decide +kernel)) (fun _ h9 => h9) rfl dX3_counted_18 ?_
      refine lv_iload hx hb dX3_counted_21 (lv_at hl 4 rfl) ?_
      have hPc := hP.sub (ws' := [(sm, .inr (2, [.int 0, .ref gr, .ref gt, .ref gw, .ref gk, .ref gi, .ref gp, .ref go, .ref gg, .ref hm])), (gk, .inl (d10, 360, .inl fk))]) [1, 7] rfl
      have hKc := hK.sub (tys' := [(d10, .int)]) [5] rfl
      refine vp_callSi (va_runV (As := [.int (nI i)]) (rest := [.int 0]) ⟨hx, hb, hml, hown, hts⟩ (r2_yealms l dC dI sm hm gr gt gw gk gi gp go gg d10 fk i (by first | assumption | decide | omega) (by first | assumption | decide | omega)) (cwV 1 hts gX3_counted_X2_yealms rfl rfl rfl (by decide +kernel) ⟨Nat.le_of_ble_eq_true rfl, Nat.le_of_ble_eq_true rfl⟩) ⟨fun a U g mk q => by obtain ⟨q0, qP, qK⟩ := q; exact ⟨q0, qP, va_K.moved (u := U) (U := U.calling g mk a) (Vm.Alike.refl U.vm) qK⟩, va_recv hKc hPc (ci := 2) (q0 := 0) rfl rfl, fun U hU hW => ⟨rfl, by rw [hU]; exact hPc, va_K.moved hW.alike hKc⟩⟩ rfl rfl hl.1 rfl (lv_room (Nat.le_of_ble_eq_true rfl)) dX3_counted_23 ⟨Nat.le_of_ble_eq_true rfl, Nat.le_of_ble_eq_true rfl⟩).run (fun r10 hr10 => ?_)
      obtain rfl := hr10
      refine lv_iadd hx hb dX3_counted_26 ?_
      refine W.eq (g2 := F0 m 27 ls [.int 0]) rfl ?_
      refine lv_istore_n (lv' := [(2, .int 0), (0, .ref hm), (1, .int 6), (3, .int (nI (10 * i))), (4, .int (nI i))]) hx hb dX3_counted_27 rfl hl (by decide) rfl (fun ls hl => ?_)
      refine lv_iload_n hx hb dX3_counted_28 rfl (lv_at hl 3 rfl) ?_
      refine lv_aload_n hx hb dX3_counted_29 rfl (lv_at hl 1 rfl) ?_
      refine va_get (D := (dC, dI)) (ci := 3) (v := .ref sm) (C := RX3) (T := TX3) (N := 10) hx hb hts (by decide +kernel) hown hK hP 0 rfl rfl 8 (by decide) (hts (.fieldLink RX3 33 "ThatchRoofModel" "s" "LThatchRoofModel$State;") (by decide +kernel)) (fun _ h9 => h9) rfl dX3_counted_30 ?_
      refine lv_iload hx hb dX3_counted_33 (lv_at hl 4 rfl) ?_
      have hPc := hP.sub (ws' := [(sm, .inr (2, [.int 0, .ref gr, .ref gt, .ref gw, .ref gk, .ref gi, .ref gp, .ref go, .ref gg, .ref hm])), (hm, .inr (3, [.int th, .int 6, .ref wi, .ref co, .ref sl, .ref rn, .ref so, .ref bn, .ref sm, .ref ah])), (wi, .inl (d1, 6, .inl fw)), (co, .inl (d2, 6, .inl fc)), (gk, .inl (d10, 360, .inl fk)), (gi, .inl (d11, 360, .inl (fun _ => 0)))]) [1, 0, 2, 3, 7, 8] rfl
      have hKc := hK.sub (tys' := [(d1, .int), (d2, .int), (d10, .int), (d11, .int)]) [0, 1, 5, 6] rfl
      refine vp_callSi (va_runV (As := [.int (nI i)]) (rest := [.int (nI (10 * i))]) ⟨hx, hb, hml, hown, hts⟩ (r2_leaks l dC dI hm wi co sl rn so bn sm ah th gr gt gw gk gi gp go gg d1 d2 d10 d11 fw fc fk i (by first | assumption | decide | omega) (by first | assumption | decide | omega) (by first | assumption | decide | omega) (by first | assumption | decide | omega)) (cwV 1 hts gX3_counted_X2_leaks rfl rfl rfl (by decide +kernel) ⟨Nat.le_of_ble_eq_true rfl, Nat.le_of_ble_eq_true rfl⟩) ⟨fun a U g mk q => by obtain ⟨q0, qP, qK, qN⟩ := q; exact ⟨q0, qP, va_K.moved (u := U) (U := U.calling g mk a) (Vm.Alike.refl U.vm) qK, zNs.calling qN⟩, va_recv hKc hPc (ci := 2) (q0 := 0) rfl rfl, fun U hU hW => ⟨rfl, by rw [hU]; exact hPc, va_K.moved hW.alike hKc, zNs.warm hW hZN⟩⟩ rfl rfl hl.1 rfl (lv_room (Nat.le_of_ble_eq_true rfl)) dX3_counted_35 ⟨Nat.le_of_ble_eq_true rfl, Nat.le_of_ble_eq_true rfl⟩).run (fun r11 hr11 => ?_)
      obtain rfl := hr11
      refine lv_iadd hx hb dX3_counted_38 ?_
      refine lv_topi (fun x12 ex12 => ?_)
      obtain rfl : x12 = nI ((10 * i) + 10) := ex12.trans (nI_add (10 * i) 10)
      refine lv_istore_n (lv' := [(3, .int (nI ((10 * i) + 10))), (2, .int 0), (0, .ref hm), (1, .int 6), (4, .int (nI i))]) hx hb dX3_counted_39 rfl hl (by decide) rfl (fun ls hl => ?_)
      refine lv_iinc (v := nI (i + 1)) (lv' := [(4, .int (nI (i + 1))), (3, .int (nI ((10 * i) + 10))), (2, .int 0), (0, .ref hm), (1, .int 6)]) hx hb dX3_counted_40 hl (k := 4) rfl (by exact nI_1 i) (by decide) rfl (fun ls hl => ?_)
      refine lv_goto (tgt := 7) hx hb dX3_counted_43 (by decide) ?_
      exact ih7 (i + 1) (by omega) (by omega) _ _ (hP.sub [0, 1, 2, 3, 4, 5, 6, 7, 8] rfl) (hD.sub [0, 1, 2, 3, 4, 5, 6, 7, 8] (by decide) rfl) hS _ (lv_sub hl [3, 4, 2, 1, 0] rfl)

set_option maxHeartbeats 4000000 in
set_option maxRecDepth 100000 in
theorem r3_counted7 (l : Launch) (dC : Nat → ClassId) (dI : Nat → Nat → Nat) (sz : Nat) (hm : Nat) (wi : Nat) (co : Nat) (sl : Nat) (rn : Nat) (so : Nat) (bn : Nat) (sm : Nat) (ah : Nat) (th : Int32) (gr : Nat) (gt : Nat) (gw : Nat) (gk : Nat) (gi : Nat) (gp : Nat) (go : Nat) (gg : Nat) (d1 : ClassId) (d2 : ClassId) (d5 : ClassId) (d6 : ClassId) (d7 : ClassId) (d10 : ClassId) (d11 : ClassId) (fw : Nat → Int32) (fc : Nat → Int32) (fn : Nat → Int32) (fk : Nat → Int32) (hk : ∀ j : Nat, j < 360 → fk j = -1) (hw : ∀ j : Nat, j < 6 → fw j = 10) (hc : ∀ j : Nat, j < 6 → fc j = 6) (hn : ∀ j : Nat, j < 12 → fn j = 4) : Met l yX3_counted wsX3_counted ({ frames := 2, cells := 1, slots := 9, locals := 47 }) (va_Pc [.ref hm, .int 7] (fun U => U.heap.size = sz ∧ va_P (dC, dI) vwCl [(hm, .inr (3, [.int th, .int 6, .ref wi, .ref co, .ref sl, .ref rn, .ref so, .ref bn, .ref sm, .ref ah])), (sm, .inr (2, [.int 0, .ref gr, .ref gt, .ref gw, .ref gk, .ref gi, .ref gp, .ref go, .ref gg, .ref hm])), (wi, .inl (d1, 6, .inl fw)), (co, .inl (d2, 6, .inl fc)), (bn, .inl (d5, 3, .inl (fun _ => 0))), (rn, .inl (d6, 12, .inl fn)), (so, .inl (d7, 12, .inl (fun _ => 0))), (gk, .inl (d10, 360, .inl fk)), (gi, .inl (d11, 360, .inl (fun _ => 0)))] U.heap ∧ va_K (dC, dI) vwCl [(d1, .int), (d2, .int), (d5, .int), (d6, .int), (d7, .int), (d10, .int), (d11, .int)] U ∧ va_D (fun _ => True) [(hm, .inr (3, [.int th, .int 6, .ref wi, .ref co, .ref sl, .ref rn, .ref so, .ref bn, .ref sm, .ref ah])), (sm, .inr (2, [.int 0, .ref gr, .ref gt, .ref gw, .ref gk, .ref gi, .ref gp, .ref go, .ref gg, .ref hm])), (wi, .inl (d1, 6, .inl fw)), (co, .inl (d2, 6, .inl fc)), (bn, .inl (d5, 3, .inl (fun _ => 0))), (rn, .inl (d6, 12, .inl fn)), (so, .inl (d7, 12, .inl (fun _ => 0))), (gk, .inl (d10, 360, .inl fk)), (gi, .inl (d11, 360, .inl (fun _ => 0)))] ∧ zNs U)) (va_Qi (fun (r : Int32) (u : Unit) => r = 4) (fun (u : Unit) (t : State) => va_P (dC, dI) vwCl [(hm, .inr (3, [.int th, .int 6, .ref wi, .ref co, .ref sl, .ref rn, .ref so, .ref bn, .ref sm, .ref ah])), (sm, .inr (2, [.int 0, .ref gr, .ref gt, .ref gw, .ref gk, .ref gi, .ref gp, .ref go, .ref gg, .ref hm])), (wi, .inl (d1, 6, .inl fw)), (co, .inl (d2, 6, .inl fc)), (bn, .inl (d5, 3, .inl (fun _ => 0))), (rn, .inl (d6, 12, .inl fn)), (so, .inl (d7, 12, .inl (fun _ => 0))), (gk, .inl (d10, 360, .inl fk)), (gi, .inl (d11, 360, .inl (fun _ => 0)))] t.heap ∧ va_K (dC, dI) vwCl [] t ∧ va_D (va_A [(hm, .inr (3, [.int th, .int 6, .ref wi, .ref co, .ref sl, .ref rn, .ref so, .ref bn, .ref sm, .ref ah])), (sm, .inr (2, [.int 0, .ref gr, .ref gt, .ref gw, .ref gk, .ref gi, .ref gp, .ref go, .ref gg, .ref hm])), (wi, .inl (d1, 6, .inl fw)), (co, .inl (d2, 6, .inl fc)), (bn, .inl (d5, 3, .inl (fun _ => 0))), (rn, .inl (d6, 12, .inl fn)), (so, .inl (d7, 12, .inl (fun _ => 0))), (gk, .inl (d10, 360, .inl fk)), (gi, .inl (d11, 360, .inl (fun _ => 0)))] sz) [(hm, .inr (3, [.int th, .int 6, .ref wi, .ref co, .ref sl, .ref rn, .ref so, .ref bn, .ref sm, .ref ah])), (sm, .inr (2, [.int 0, .ref gr, .ref gt, .ref gw, .ref gk, .ref gi, .ref gp, .ref go, .ref gg, .ref hm])), (wi, .inl (d1, 6, .inl fw)), (co, .inl (d2, 6, .inl fc)), (bn, .inl (d5, 3, .inl (fun _ => 0))), (rn, .inl (d6, 12, .inl fn)), (so, .inl (d7, 12, .inl (fun _ => 0))), (gk, .inl (d10, 360, .inl fk)), (gi, .inl (d11, 360, .inl (fun _ => 0)))] ∧ sz + 1 ≤ t.heap.size) (va_A [(hm, .inr (3, [.int th, .int 6, .ref wi, .ref co, .ref sl, .ref rn, .ref so, .ref bn, .ref sm, .ref ah])), (sm, .inr (2, [.int 0, .ref gr, .ref gt, .ref gw, .ref gk, .ref gi, .ref gp, .ref go, .ref gg, .ref hm])), (wi, .inl (d1, 6, .inl fw)), (co, .inl (d2, 6, .inl fc)), (bn, .inl (d5, 3, .inl (fun _ => 0))), (rn, .inl (d6, 12, .inl fn)), (so, .inl (d7, 12, .inl (fun _ => 0))), (gk, .inl (d10, 360, .inl fk)), (gi, .inl (d11, 360, .inl (fun _ => 0)))] sz)) 1 9 (va_A [(hm, .inr (3, [.int th, .int 6, .ref wi, .ref co, .ref sl, .ref rn, .ref so, .ref bn, .ref sm, .ref ah])), (sm, .inr (2, [.int 0, .ref gr, .ref gt, .ref gw, .ref gk, .ref gi, .ref gp, .ref go, .ref gg, .ref hm])), (wi, .inl (d1, 6, .inl fw)), (co, .inl (d2, 6, .inl fc)), (bn, .inl (d5, 3, .inl (fun _ => 0))), (rn, .inl (d6, 12, .inl fn)), (so, .inl (d7, 12, .inl (fun _ => 0))), (gk, .inl (d10, 360, .inl fk)), (gi, .inl (d11, 360, .inl (fun _ => 0)))] sz) := by
  refine Met.ofW (cc := cX3_counted) (maxL := 5) (ret := (some .int)) (by decide) rfl ?_
  intro p e s m args below meth c s₁ B hml hv
  obtain ⟨rfl, hsz, hP, hK, hD0, hZN⟩ := hv
  have hx := B.exec
  have hb := B.bytes
  have hr := B.returns
  have hts := atoms_spec (ws := wsX3_counted) B.pre
  have hown : s.vm.findClass RX3 = some m.cls := findClass_of_methodNamed B.named
  have hlocks := B.notSynchronized
  subst hsz
  have hD := hD0.self (sz := s.heap.size)
  generalize hAe : va_A [(hm, .inr (3, [.int th, .int 6, .ref wi, .ref co, .ref sl, .ref rn, .ref so, .ref bn, .ref sm, .ref ah])), (sm, .inr (2, [.int 0, .ref gr, .ref gt, .ref gw, .ref gk, .ref gi, .ref gp, .ref go, .ref gg, .ref hm])), (wi, .inl (d1, 6, .inl fw)), (co, .inl (d2, 6, .inl fc)), (bn, .inl (d5, 3, .inl (fun _ => 0))), (rn, .inl (d6, 12, .inl fn)), (so, .inl (d7, 12, .inl (fun _ => 0))), (gk, .inl (d10, 360, .inl fk)), (gi, .inl (d11, 360, .inl (fun _ => 0)))] s.heap.size = A at hD ⊢
  have hA : ∀ q : Nat, s.heap.size ≤ q → A q := fun q h => by rw [← hAe]; exact Or.inr h
  have hS : va_S A s.heap s.heap [] := va_S.rf
  have hP : va_P (dC, dI) vwCl [(hm, .inr (3, [.int th, .int 6, .ref wi, .ref co, .ref sl, .ref rn, .ref so, .ref bn, .ref sm, .ref ah])), (sm, .inr (2, [.int 0, .ref gr, .ref gt, .ref gw, .ref gk, .ref gi, .ref gp, .ref go, .ref gg, .ref hm])), (wi, .inl (d1, 6, .inl fw)), (co, .inl (d2, 6, .inl fc)), (bn, .inl (d5, 3, .inl (fun _ => 0))), (rn, .inl (d6, 12, .inl fn)), (so, .inl (d7, 12, .inl (fun _ => 0))), (gk, .inl (d10, 360, .inl fk)), (gi, .inl (d11, 360, .inl (fun _ => 0)))] s.heap := hP
  have hl := lv_entry ([.ref hm, .int 7]) (n := 5) (Nat.le_of_ble_eq_true rfl)
  rw [lg_entry_eq]
  generalize (lg_sl ([.ref hm, .int 7]) ++ List.replicate (5 - (lg_sl ([.ref hm, .int 7])).length) Slot.unset).toArray = ls at hl ⊢
  have hl : lv_has ls 5 [(0, .ref hm), (1, .int 7)] := hl
  refine lv_iconst (v := 0) hx hb dX3_counted_0 (by decide) ?_
  refine lv_istore_n (lv' := [(2, .int 0), (0, .ref hm), (1, .int 7)]) hx hb dX3_counted_1 rfl hl (by decide) rfl (fun ls hl => ?_)
  refine lv_iconst (v := 0) hx hb dX3_counted_2 (by decide) ?_
  refine lv_istore_n (lv' := [(3, .int 0), (2, .int 0), (0, .ref hm), (1, .int 7)]) hx hb dX3_counted_3 rfl hl (by decide) rfl (fun ls hl => ?_)
  refine lv_iconst (v := 0) hx hb dX3_counted_4 (by decide) ?_
  refine lv_istore (lv' := [(4, .int 0), (3, .int 0), (2, .int 0), (0, .ref hm), (1, .int 7)]) hx hb dX3_counted_5 hl (by decide) rfl (fun ls hl => ?_)
  suffices K7 : ∀ (n : Nat) (i : Nat), (i ≤ 6) → 6 - i < n → ∀ (H : Heap) (locs : List Loc), va_P (dC, dI) vwCl [(hm, .inr (3, [.int th, .int 6, .ref wi, .ref co, .ref sl, .ref rn, .ref so, .ref bn, .ref sm, .ref ah])), (sm, .inr (2, [.int 0, .ref gr, .ref gt, .ref gw, .ref gk, .ref gi, .ref gp, .ref go, .ref gg, .ref hm])), (wi, .inl (d1, 6, .inl fw)), (co, .inl (d2, 6, .inl fc)), (bn, .inl (d5, 3, .inl (fun _ => 0))), (rn, .inl (d6, 12, .inl fn)), (so, .inl (d7, 12, .inl (fun _ => 0))), (gk, .inl (d10, 360, .inl fk)), (gi, .inl (d11, 360, .inl (fun _ => 0)))] H → va_D A [(hm, .inr (3, [.int th, .int 6, .ref wi, .ref co, .ref sl, .ref rn, .ref so, .ref bn, .ref sm, .ref ah])), (sm, .inr (2, [.int 0, .ref gr, .ref gt, .ref gw, .ref gk, .ref gi, .ref gp, .ref go, .ref gg, .ref hm])), (wi, .inl (d1, 6, .inl fw)), (co, .inl (d2, 6, .inl fc)), (bn, .inl (d5, 3, .inl (fun _ => 0))), (rn, .inl (d6, 12, .inl fn)), (so, .inl (d7, 12, .inl (fun _ => 0))), (gk, .inl (d10, 360, .inl fk)), (gi, .inl (d11, 360, .inl (fun _ => 0)))] → va_S A s.heap H locs → ∀ ls : Array Slot, lv_has ls 5 [(0, .ref hm), (1, .int 7), (2, .int 0), (3, .int (nI (10 * i))), (4, .int (nI i))] → W p l e ({ frames := 2, cells := 1, slots := 9, locals := 47 } : Room) s m (([.ref hm, .int 7] : List Value).toArray) below meth c H locs 0 0 (MQ below (va_Qi (fun (r : Int32) (u : Unit) => r = 4) (fun (u : Unit) (t : State) => va_P (dC, dI) vwCl [(hm, .inr (3, [.int th, .int 6, .ref wi, .ref co, .ref sl, .ref rn, .ref so, .ref bn, .ref sm, .ref ah])), (sm, .inr (2, [.int 0, .ref gr, .ref gt, .ref gw, .ref gk, .ref gi, .ref gp, .ref go, .ref gg, .ref hm])), (wi, .inl (d1, 6, .inl fw)), (co, .inl (d2, 6, .inl fc)), (bn, .inl (d5, 3, .inl (fun _ => 0))), (rn, .inl (d6, 12, .inl fn)), (so, .inl (d7, 12, .inl (fun _ => 0))), (gk, .inl (d10, 360, .inl fk)), (gi, .inl (d11, 360, .inl (fun _ => 0)))] t.heap ∧ va_K (dC, dI) vwCl [] t ∧ va_D A [(hm, .inr (3, [.int th, .int 6, .ref wi, .ref co, .ref sl, .ref rn, .ref so, .ref bn, .ref sm, .ref ah])), (sm, .inr (2, [.int 0, .ref gr, .ref gt, .ref gw, .ref gk, .ref gi, .ref gp, .ref go, .ref gg, .ref hm])), (wi, .inl (d1, 6, .inl fw)), (co, .inl (d2, 6, .inl fc)), (bn, .inl (d5, 3, .inl (fun _ => 0))), (rn, .inl (d6, 12, .inl fn)), (so, .inl (d7, 12, .inl (fun _ => 0))), (gk, .inl (d10, 360, .inl fk)), (gi, .inl (d11, 360, .inl (fun _ => 0)))] ∧ s.heap.size + 1 ≤ t.heap.size) A) (([.ref hm, .int 7] : List Value).toArray) s 1 9 A) (F0 m 7 ls []) from
    K7 _ 0 (by decide) (Nat.lt_succ_self _) _ _ hP hD hS _ (lv_sub hl [3, 4, 2, 1, 0] rfl)
  intro n
  induction n with
  | zero =>
    intro i hi hn
    exact absurd hn (Nat.not_lt_zero _)
  | succ n ih7 =>
    intro i hi hn7 H locs hP hD hS ls hl
    refine lv_iload hx hb dX3_counted_7 (lv_at hl 4 rfl) ?_
    refine lv_aload_n hx hb dX3_counted_9 rfl (lv_at hl 0 rfl) ?_
    refine va_get (D := (dC, dI)) (ci := 3) (v := .int 6) (C := RX3) (T := TX3) (N := 10) hx hb hts (by decide +kernel) hown hK hP 0 rfl rfl 1 (by decide) (hts (.fieldLink RX3 44 "ThatchRoofModel" "roofs" "I") (by decide +kernel)) (fun _ h9 => h9) rfl dX3_counted_10 ?_
    refine lv_icmp_ge (tgt := 46) hx hb dX3_counted_13 (by decide) (fun c1 => ?_) (fun c1 => ?_)
    · have nc1 : 6 ≤ i := (nI_leI (a := 6) (b := i) (by omega) (by omega)).mp c1
      have h9 : i = 6 := by omega
      rw [show nI (10 * i) = 60 from by rw [h9]; rfl] at hl
      refine lv_bipush (v := 9) hx hb dX3_counted_46 (by decide) ?_
      refine va_newa (atype := .int) (ty := .int) (N' := 9) (a0 := (9, .inl (fun _ => 0))) hx hb (hts (.arrayClass .int) (by decide +kernel)) rfl hK hP hD hS hA (fun _ => rfl) (by decide) (by decide) (by decide) (Nat.le_of_ble_eq_true rfl) (Nat.le_of_ble_eq_true rfl) dX3_counted_48 (fun q2 cA3 H hK hP hD hS => ?_)
      refine W.widen (k := 1) (n := 9) (Nat.le_of_ble_eq_true rfl) (Nat.le_of_ble_eq_true rfl) ?_
      have hK : va_K (dC, dI) vwCl [(d1, .int), (d2, .int), (d5, .int), (d6, .int), (d7, .int), (d10, .int), (d11, .int), (cA3, .int)] s := hK
      have hP : va_P (dC, dI) vwCl [(hm, .inr (3, [.int th, .int 6, .ref wi, .ref co, .ref sl, .ref rn, .ref so, .ref bn, .ref sm, .ref ah])), (sm, .inr (2, [.int 0, .ref gr, .ref gt, .ref gw, .ref gk, .ref gi, .ref gp, .ref go, .ref gg, .ref hm])), (wi, .inl (d1, 6, .inl fw)), (co, .inl (d2, 6, .inl fc)), (bn, .inl (d5, 3, .inl (fun _ => 0))), (rn, .inl (d6, 12, .inl fn)), (so, .inl (d7, 12, .inl (fun _ => 0))), (gk, .inl (d10, 360, .inl fk)), (gi, .inl (d11, 360, .inl (fun _ => 0))), (q2, .inl (cA3, 9, .inl (fun _ => 0)))] H := hP
      have hD : va_D A [(hm, .inr (3, [.int th, .int 6, .ref wi, .ref co, .ref sl, .ref rn, .ref so, .ref bn, .ref sm, .ref ah])), (sm, .inr (2, [.int 0, .ref gr, .ref gt, .ref gw, .ref gk, .ref gi, .ref gp, .ref go, .ref gg, .ref hm])), (wi, .inl (d1, 6, .inl fw)), (co, .inl (d2, 6, .inl fc)), (bn, .inl (d5, 3, .inl (fun _ => 0))), (rn, .inl (d6, 12, .inl fn)), (so, .inl (d7, 12, .inl (fun _ => 0))), (gk, .inl (d10, 360, .inl fk)), (gi, .inl (d11, 360, .inl (fun _ => 0))), (q2, .inl (cA3, 9, .inl (fun _ => 0)))] := hD
      refine lv_dup hx hb dX3_counted_50 rfl ?_
      refine lv_iconst (v := 0) hx hb dX3_counted_51 (by decide) ?_
      refine lv_aload_n hx hb dX3_counted_52 rfl (lv_at hl 0 rfl) ?_
      refine va_get (D := (dC, dI)) (ci := 3) (v := .ref sm) (C := RX3) (T := TX3) (N := 10) hx hb hts (by decide +kernel) hown hK hP 0 rfl rfl 8 (by decide) (hts (.fieldLink RX3 33 "ThatchRoofModel" "s" "LThatchRoofModel$State;") (by decide +kernel)) (fun _ h9 => h9) rfl dX3_counted_53 ?_
      refine va_getN (D := (dC, dI)) (ci := 2) (v := .int 0) (C := RX2) (T := TX2) (N := 10) hx hb hts (by decide +kernel) hown hK hP 1 rfl rfl 0 (by decide) (va_Nw.use rfl (zN_RX3_128 hZN)) (fun _ h9 => h9) rfl dX3_counted_56 ?_
      refine va_iast hx hb hK hP hD hS 9 7 rfl rfl (vp_in_nI (n := 0) (by decide) (by decide)) dX3_counted_59 (fun H locs hP hD hS => ?_)
      have hP : va_P (dC, dI) vwCl [(hm, .inr (3, [.int th, .int 6, .ref wi, .ref co, .ref sl, .ref rn, .ref so, .ref bn, .ref sm, .ref ah])), (sm, .inr (2, [.int 0, .ref gr, .ref gt, .ref gw, .ref gk, .ref gi, .ref gp, .ref go, .ref gg, .ref hm])), (wi, .inl (d1, 6, .inl fw)), (co, .inl (d2, 6, .inl fc)), (bn, .inl (d5, 3, .inl (fun _ => 0))), (rn, .inl (d6, 12, .inl fn)), (so, .inl (d7, 12, .inl (fun _ => 0))), (gk, .inl (d10, 360, .inl fk)), (gi, .inl (d11, 360, .inl (fun _ => 0))), (q2, .inl (cA3, 9, .inl (upd (fun _ => 0) 0 0)))] H := hP
      have hD : va_D A [(hm, .inr (3, [.int th, .int 6, .ref wi, .ref co, .ref sl, .ref rn, .ref so, .ref bn, .ref sm, .ref ah])), (sm, .inr (2, [.int 0, .ref gr, .ref gt, .ref gw, .ref gk, .ref gi, .ref gp, .ref go, .ref gg, .ref hm])), (wi, .inl (d1, 6, .inl fw)), (co, .inl (d2, 6, .inl fc)), (bn, .inl (d5, 3, .inl (fun _ => 0))), (rn, .inl (d6, 12, .inl fn)), (so, .inl (d7, 12, .inl (fun _ => 0))), (gk, .inl (d10, 360, .inl fk)), (gi, .inl (d11, 360, .inl (fun _ => 0))), (q2, .inl (cA3, 9, .inl (upd (fun _ => 0) 0 0)))] := hD
      refine lv_dup hx hb dX3_counted_60 rfl ?_
      refine lv_iconst (v := 1) hx hb dX3_counted_61 (by decide) ?_
      refine lv_aload_n hx hb dX3_counted_62 rfl (lv_at hl 0 rfl) ?_
      refine va_get (D := (dC, dI)) (ci := 3) (v := .int 6) (C := RX3) (T := TX3) (N := 10) hx hb hts (by decide +kernel) hown hK hP 0 rfl rfl 1 (by decide) (hts (.fieldLink RX3 44 "ThatchRoofModel" "roofs" "I") (by decide +kernel)) (fun _ h9 => h9) rfl dX3_counted_63 ?_
      refine va_iast hx hb hK hP hD hS 9 7 rfl rfl (vp_in_nI (n := 1) (by decide) (by decide)) dX3_counted_66 (fun H locs hP hD hS => ?_)
      have hP : va_P (dC, dI) vwCl [(hm, .inr (3, [.int th, .int 6, .ref wi, .ref co, .ref sl, .ref rn, .ref so, .ref bn, .ref sm, .ref ah])), (sm, .inr (2, [.int 0, .ref gr, .ref gt, .ref gw, .ref gk, .ref gi, .ref gp, .ref go, .ref gg, .ref hm])), (wi, .inl (d1, 6, .inl fw)), (co, .inl (d2, 6, .inl fc)), (bn, .inl (d5, 3, .inl (fun _ => 0))), (rn, .inl (d6, 12, .inl fn)), (so, .inl (d7, 12, .inl (fun _ => 0))), (gk, .inl (d10, 360, .inl fk)), (gi, .inl (d11, 360, .inl (fun _ => 0))), (q2, .inl (cA3, 9, .inl (upd (upd (fun _ => 0) 0 0) 1 6)))] H := hP
      have hD : va_D A [(hm, .inr (3, [.int th, .int 6, .ref wi, .ref co, .ref sl, .ref rn, .ref so, .ref bn, .ref sm, .ref ah])), (sm, .inr (2, [.int 0, .ref gr, .ref gt, .ref gw, .ref gk, .ref gi, .ref gp, .ref go, .ref gg, .ref hm])), (wi, .inl (d1, 6, .inl fw)), (co, .inl (d2, 6, .inl fc)), (bn, .inl (d5, 3, .inl (fun _ => 0))), (rn, .inl (d6, 12, .inl fn)), (so, .inl (d7, 12, .inl (fun _ => 0))), (gk, .inl (d10, 360, .inl fk)), (gi, .inl (d11, 360, .inl (fun _ => 0))), (q2, .inl (cA3, 9, .inl (upd (upd (fun _ => 0) 0 0) 1 6)))] := hD
      refine lv_dup hx hb dX3_counted_67 rfl ?_
      refine lv_iconst (v := 2) hx hb dX3_counted_68 (by decide) ?_
      refine lv_aload_n hx hb dX3_counted_69 rfl (lv_at hl 0 rfl) ?_
      refine va_get (D := (dC, dI)) (ci := 3) (v := .ref bn) (C := RX3) (T := TX3) (N := 10) hx hb hts (by decide +kernel) hown hK hP 0 rfl rfl 7 (by decide) (hts (.fieldLink RX3 25 "ThatchRoofModel" "barn" "[I") (by decide +kernel)) (fun _ h9 => h9) rfl dX3_counted_70 ?_
      refine lv_iconst (v := 0) hx hb dX3_counted_73 (by decide) ?_
      refine va_iald hx hb hK hP 4 2 rfl rfl (vp_in_nI (n := 0) (by decide) (by decide)) dX3_counted_74 ?_
      refine lv_topi (fun x4 ex4 => ?_)
      obtain rfl : x4 = 0 := ex4
      refine va_iast hx hb hK hP hD hS 9 7 rfl rfl (vp_in_nI (n := 2) (by decide) (by decide)) dX3_counted_75 (fun H locs hP hD hS => ?_)
      have hP : va_P (dC, dI) vwCl [(hm, .inr (3, [.int th, .int 6, .ref wi, .ref co, .ref sl, .ref rn, .ref so, .ref bn, .ref sm, .ref ah])), (sm, .inr (2, [.int 0, .ref gr, .ref gt, .ref gw, .ref gk, .ref gi, .ref gp, .ref go, .ref gg, .ref hm])), (wi, .inl (d1, 6, .inl fw)), (co, .inl (d2, 6, .inl fc)), (bn, .inl (d5, 3, .inl (fun _ => 0))), (rn, .inl (d6, 12, .inl fn)), (so, .inl (d7, 12, .inl (fun _ => 0))), (gk, .inl (d10, 360, .inl fk)), (gi, .inl (d11, 360, .inl (fun _ => 0))), (q2, .inl (cA3, 9, .inl (upd (upd (upd (fun _ => 0) 0 0) 1 6) 2 0)))] H := hP
      have hD : va_D A [(hm, .inr (3, [.int th, .int 6, .ref wi, .ref co, .ref sl, .ref rn, .ref so, .ref bn, .ref sm, .ref ah])), (sm, .inr (2, [.int 0, .ref gr, .ref gt, .ref gw, .ref gk, .ref gi, .ref gp, .ref go, .ref gg, .ref hm])), (wi, .inl (d1, 6, .inl fw)), (co, .inl (d2, 6, .inl fc)), (bn, .inl (d5, 3, .inl (fun _ => 0))), (rn, .inl (d6, 12, .inl fn)), (so, .inl (d7, 12, .inl (fun _ => 0))), (gk, .inl (d10, 360, .inl fk)), (gi, .inl (d11, 360, .inl (fun _ => 0))), (q2, .inl (cA3, 9, .inl (upd (upd (upd (fun _ => 0) 0 0) 1 6) 2 0)))] := hD
      refine lv_dup hx hb dX3_counted_76 rfl ?_
      refine lv_iconst (v := 3) hx hb dX3_counted_77 (by decide) ?_
      refine lv_aload_n hx hb dX3_counted_78 rfl (lv_at hl 0 rfl) ?_
      refine va_get (D := (dC, dI)) (ci := 3) (v := .ref bn) (C := RX3) (T := TX3) (N := 10) hx hb hts (by decide +kernel) hown hK hP 0 rfl rfl 7 (by decide) (hts (.fieldLink RX3 25 "ThatchRoofModel" "barn" "[I") (by decide +kernel)) (fun _ h9 => h9) rfl dX3_counted_79 ?_
      refine lv_iconst (v := 1) hx hb dX3_counted_82 (by decide) ?_
      refine va_iald hx hb hK hP 4 2 rfl rfl (vp_in_nI (n := 1) (by decide) (by decide)) dX3_counted_83 ?_
      refine lv_topi (fun x5 ex5 => ?_)
      obtain rfl : x5 = 0 := ex5
      refine va_iast hx hb hK hP hD hS 9 7 rfl rfl (vp_in_nI (n := 3) (by decide) (by decide)) dX3_counted_84 (fun H locs hP hD hS => ?_)
      have hP : va_P (dC, dI) vwCl [(hm, .inr (3, [.int th, .int 6, .ref wi, .ref co, .ref sl, .ref rn, .ref so, .ref bn, .ref sm, .ref ah])), (sm, .inr (2, [.int 0, .ref gr, .ref gt, .ref gw, .ref gk, .ref gi, .ref gp, .ref go, .ref gg, .ref hm])), (wi, .inl (d1, 6, .inl fw)), (co, .inl (d2, 6, .inl fc)), (bn, .inl (d5, 3, .inl (fun _ => 0))), (rn, .inl (d6, 12, .inl fn)), (so, .inl (d7, 12, .inl (fun _ => 0))), (gk, .inl (d10, 360, .inl fk)), (gi, .inl (d11, 360, .inl (fun _ => 0))), (q2, .inl (cA3, 9, .inl (upd (upd (upd (upd (fun _ => 0) 0 0) 1 6) 2 0) 3 0)))] H := hP
      have hD : va_D A [(hm, .inr (3, [.int th, .int 6, .ref wi, .ref co, .ref sl, .ref rn, .ref so, .ref bn, .ref sm, .ref ah])), (sm, .inr (2, [.int 0, .ref gr, .ref gt, .ref gw, .ref gk, .ref gi, .ref gp, .ref go, .ref gg, .ref hm])), (wi, .inl (d1, 6, .inl fw)), (co, .inl (d2, 6, .inl fc)), (bn, .inl (d5, 3, .inl (fun _ => 0))), (rn, .inl (d6, 12, .inl fn)), (so, .inl (d7, 12, .inl (fun _ => 0))), (gk, .inl (d10, 360, .inl fk)), (gi, .inl (d11, 360, .inl (fun _ => 0))), (q2, .inl (cA3, 9, .inl (upd (upd (upd (upd (fun _ => 0) 0 0) 1 6) 2 0) 3 0)))] := hD
      refine lv_dup hx hb dX3_counted_85 rfl ?_
      refine lv_iconst (v := 4) hx hb dX3_counted_86 (by decide) ?_
      refine lv_aload_n hx hb dX3_counted_87 rfl (lv_at hl 0 rfl) ?_
      refine va_get (D := (dC, dI)) (ci := 3) (v := .ref bn) (C := RX3) (T := TX3) (N := 10) hx hb hts (by decide +kernel) hown hK hP 0 rfl rfl 7 (by decide) (hts (.fieldLink RX3 25 "ThatchRoofModel" "barn" "[I") (by decide +kernel)) (fun _ h9 => h9) rfl dX3_counted_88 ?_
      refine lv_iconst (v := 2) hx hb dX3_counted_91 (by decide) ?_
      refine va_iald hx hb hK hP 4 2 rfl rfl (vp_in_nI (n := 2) (by decide) (by decide)) dX3_counted_92 ?_
      refine lv_topi (fun x6 ex6 => ?_)
      obtain rfl : x6 = 0 := ex6
      refine va_iast hx hb hK hP hD hS 9 7 rfl rfl (vp_in_nI (n := 4) (by decide) (by decide)) dX3_counted_93 (fun H locs hP hD hS => ?_)
      have hP : va_P (dC, dI) vwCl [(hm, .inr (3, [.int th, .int 6, .ref wi, .ref co, .ref sl, .ref rn, .ref so, .ref bn, .ref sm, .ref ah])), (sm, .inr (2, [.int 0, .ref gr, .ref gt, .ref gw, .ref gk, .ref gi, .ref gp, .ref go, .ref gg, .ref hm])), (wi, .inl (d1, 6, .inl fw)), (co, .inl (d2, 6, .inl fc)), (bn, .inl (d5, 3, .inl (fun _ => 0))), (rn, .inl (d6, 12, .inl fn)), (so, .inl (d7, 12, .inl (fun _ => 0))), (gk, .inl (d10, 360, .inl fk)), (gi, .inl (d11, 360, .inl (fun _ => 0))), (q2, .inl (cA3, 9, .inl (upd (upd (upd (upd (upd (fun _ => 0) 0 0) 1 6) 2 0) 3 0) 4 0)))] H := hP
      have hD : va_D A [(hm, .inr (3, [.int th, .int 6, .ref wi, .ref co, .ref sl, .ref rn, .ref so, .ref bn, .ref sm, .ref ah])), (sm, .inr (2, [.int 0, .ref gr, .ref gt, .ref gw, .ref gk, .ref gi, .ref gp, .ref go, .ref gg, .ref hm])), (wi, .inl (d1, 6, .inl fw)), (co, .inl (d2, 6, .inl fc)), (bn, .inl (d5, 3, .inl (fun _ => 0))), (rn, .inl (d6, 12, .inl fn)), (so, .inl (d7, 12, .inl (fun _ => 0))), (gk, .inl (d10, 360, .inl fk)), (gi, .inl (d11, 360, .inl (fun _ => 0))), (q2, .inl (cA3, 9, .inl (upd (upd (upd (upd (upd (fun _ => 0) 0 0) 1 6) 2 0) 3 0) 4 0)))] := hD
      refine lv_dup hx hb dX3_counted_94 rfl ?_
      refine lv_iconst (v := 5) hx hb dX3_counted_95 (by decide) ?_
      refine lv_iload_n hx hb dX3_counted_96 rfl (lv_at hl 2 rfl) ?_
      refine va_iast hx hb hK hP hD hS 9 7 rfl rfl (vp_in_nI (n := 5) (by decide) (by decide)) dX3_counted_97 (fun H locs hP hD hS => ?_)
      have hP : va_P (dC, dI) vwCl [(hm, .inr (3, [.int th, .int 6, .ref wi, .ref co, .ref sl, .ref rn, .ref so, .ref bn, .ref sm, .ref ah])), (sm, .inr (2, [.int 0, .ref gr, .ref gt, .ref gw, .ref gk, .ref gi, .ref gp, .ref go, .ref gg, .ref hm])), (wi, .inl (d1, 6, .inl fw)), (co, .inl (d2, 6, .inl fc)), (bn, .inl (d5, 3, .inl (fun _ => 0))), (rn, .inl (d6, 12, .inl fn)), (so, .inl (d7, 12, .inl (fun _ => 0))), (gk, .inl (d10, 360, .inl fk)), (gi, .inl (d11, 360, .inl (fun _ => 0))), (q2, .inl (cA3, 9, .inl (upd (upd (upd (upd (upd (upd (fun _ => 0) 0 0) 1 6) 2 0) 3 0) 4 0) 5 0)))] H := hP
      have hD : va_D A [(hm, .inr (3, [.int th, .int 6, .ref wi, .ref co, .ref sl, .ref rn, .ref so, .ref bn, .ref sm, .ref ah])), (sm, .inr (2, [.int 0, .ref gr, .ref gt, .ref gw, .ref gk, .ref gi, .ref gp, .ref go, .ref gg, .ref hm])), (wi, .inl (d1, 6, .inl fw)), (co, .inl (d2, 6, .inl fc)), (bn, .inl (d5, 3, .inl (fun _ => 0))), (rn, .inl (d6, 12, .inl fn)), (so, .inl (d7, 12, .inl (fun _ => 0))), (gk, .inl (d10, 360, .inl fk)), (gi, .inl (d11, 360, .inl (fun _ => 0))), (q2, .inl (cA3, 9, .inl (upd (upd (upd (upd (upd (upd (fun _ => 0) 0 0) 1 6) 2 0) 3 0) 4 0) 5 0)))] := hD
      refine lv_dup hx hb dX3_counted_98 rfl ?_
      refine lv_bipush (v := 6) hx hb dX3_counted_99 (by decide) ?_
      refine lv_iload_n hx hb dX3_counted_101 rfl (lv_at hl 3 rfl) ?_
      refine va_iast hx hb hK hP hD hS 9 7 rfl rfl (vp_in_nI (n := 6) (by decide) (by decide)) dX3_counted_102 (fun H locs hP hD hS => ?_)
      have hP : va_P (dC, dI) vwCl [(hm, .inr (3, [.int th, .int 6, .ref wi, .ref co, .ref sl, .ref rn, .ref so, .ref bn, .ref sm, .ref ah])), (sm, .inr (2, [.int 0, .ref gr, .ref gt, .ref gw, .ref gk, .ref gi, .ref gp, .ref go, .ref gg, .ref hm])), (wi, .inl (d1, 6, .inl fw)), (co, .inl (d2, 6, .inl fc)), (bn, .inl (d5, 3, .inl (fun _ => 0))), (rn, .inl (d6, 12, .inl fn)), (so, .inl (d7, 12, .inl (fun _ => 0))), (gk, .inl (d10, 360, .inl fk)), (gi, .inl (d11, 360, .inl (fun _ => 0))), (q2, .inl (cA3, 9, .inl (upd (upd (upd (upd (upd (upd (upd (fun _ => 0) 0 0) 1 6) 2 0) 3 0) 4 0) 5 0) 6 60)))] H := hP
      have hD : va_D A [(hm, .inr (3, [.int th, .int 6, .ref wi, .ref co, .ref sl, .ref rn, .ref so, .ref bn, .ref sm, .ref ah])), (sm, .inr (2, [.int 0, .ref gr, .ref gt, .ref gw, .ref gk, .ref gi, .ref gp, .ref go, .ref gg, .ref hm])), (wi, .inl (d1, 6, .inl fw)), (co, .inl (d2, 6, .inl fc)), (bn, .inl (d5, 3, .inl (fun _ => 0))), (rn, .inl (d6, 12, .inl fn)), (so, .inl (d7, 12, .inl (fun _ => 0))), (gk, .inl (d10, 360, .inl fk)), (gi, .inl (d11, 360, .inl (fun _ => 0))), (q2, .inl (cA3, 9, .inl (upd (upd (upd (upd (upd (upd (upd (fun _ => 0) 0 0) 1 6) 2 0) 3 0) 4 0) 5 0) 6 60)))] := hD
      refine lv_dup hx hb dX3_counted_103 rfl ?_
      refine lv_bipush (v := 7) hx hb dX3_counted_104 (by decide) ?_
      refine lv_aload_n hx hb dX3_counted_106 rfl (lv_at hl 0 rfl) ?_
      refine va_get (D := (dC, dI)) (ci := 3) (v := .ref rn) (C := RX3) (T := TX3) (N := 10) hx hb hts (by decide +kernel) hown hK hP 0 rfl rfl 5 (by decide) (hts (.fieldLink RX3 19 "ThatchRoofModel" "rain" "[I") (by decide +kernel)) (fun _ h9 => h9) rfl dX3_counted_107 ?_
      refine lv_aload_n hx hb dX3_counted_110 rfl (lv_at hl 0 rfl) ?_
      refine va_get (D := (dC, dI)) (ci := 3) (v := .ref sm) (C := RX3) (T := TX3) (N := 10) hx hb hts (by decide +kernel) hown hK hP 0 rfl rfl 8 (by decide) (hts (.fieldLink RX3 33 "ThatchRoofModel" "s" "LThatchRoofModel$State;") (by decide +kernel)) (fun _ h9 => h9) rfl dX3_counted_111 ?_
      refine va_getN (D := (dC, dI)) (ci := 2) (v := .int 0) (C := RX2) (T := TX2) (N := 10) hx hb hts (by decide +kernel) hown hK hP 1 rfl rfl 0 (by decide) (va_Nw.use rfl (zN_RX3_128 hZN)) (fun _ h9 => h9) rfl dX3_counted_114 ?_
      refine lv_bipush (v := 12) hx hb dX3_counted_117 (by decide) ?_
      refine lv_irem hx hb dX3_counted_119 (by decide) ?_
      refine W.eq (g2 := F0 m 120 ls [.int 0, .ref rn, .int 7, .ref q2, .ref q2]) rfl ?_
      refine va_iald hx hb hK hP 5 3 rfl rfl (vp_in_nI (n := 0) (by decide) (by decide)) dX3_counted_120 ?_
      refine lv_topi (fun x7 ex7 => ?_)
      obtain rfl : x7 = 4 := ex7.trans (hn 0 (by decide))
      refine va_iast hx hb hK hP hD hS 9 7 rfl rfl (vp_in_nI (n := 7) (by decide) (by decide)) dX3_counted_121 (fun H locs hP hD hS => ?_)
      have hP : va_P (dC, dI) vwCl [(hm, .inr (3, [.int th, .int 6, .ref wi, .ref co, .ref sl, .ref rn, .ref so, .ref bn, .ref sm, .ref ah])), (sm, .inr (2, [.int 0, .ref gr, .ref gt, .ref gw, .ref gk, .ref gi, .ref gp, .ref go, .ref gg, .ref hm])), (wi, .inl (d1, 6, .inl fw)), (co, .inl (d2, 6, .inl fc)), (bn, .inl (d5, 3, .inl (fun _ => 0))), (rn, .inl (d6, 12, .inl fn)), (so, .inl (d7, 12, .inl (fun _ => 0))), (gk, .inl (d10, 360, .inl fk)), (gi, .inl (d11, 360, .inl (fun _ => 0))), (q2, .inl (cA3, 9, .inl (upd (upd (upd (upd (upd (upd (upd (upd (fun _ => 0) 0 0) 1 6) 2 0) 3 0) 4 0) 5 0) 6 60) 7 4)))] H := hP
      have hD : va_D A [(hm, .inr (3, [.int th, .int 6, .ref wi, .ref co, .ref sl, .ref rn, .ref so, .ref bn, .ref sm, .ref ah])), (sm, .inr (2, [.int 0, .ref gr, .ref gt, .ref gw, .ref gk, .ref gi, .ref gp, .ref go, .ref gg, .ref hm])), (wi, .inl (d1, 6, .inl fw)), (co, .inl (d2, 6, .inl fc)), (bn, .inl (d5, 3, .inl (fun _ => 0))), (rn, .inl (d6, 12, .inl fn)), (so, .inl (d7, 12, .inl (fun _ => 0))), (gk, .inl (d10, 360, .inl fk)), (gi, .inl (d11, 360, .inl (fun _ => 0))), (q2, .inl (cA3, 9, .inl (upd (upd (upd (upd (upd (upd (upd (upd (fun _ => 0) 0 0) 1 6) 2 0) 3 0) 4 0) 5 0) 6 60) 7 4)))] := hD
      refine lv_dup hx hb dX3_counted_122 rfl ?_
      refine lv_bipush (v := 8) hx hb dX3_counted_123 (by decide) ?_
      refine lv_aload_n hx hb dX3_counted_125 rfl (lv_at hl 0 rfl) ?_
      refine va_get (D := (dC, dI)) (ci := 3) (v := .ref so) (C := RX3) (T := TX3) (N := 10) hx hb hts (by decide +kernel) hown hK hP 0 rfl rfl 6 (by decide) (hts (.fieldLink RX3 22 "ThatchRoofModel" "storm" "[I") (by decide +kernel)) (fun _ h9 => h9) rfl dX3_counted_126 ?_
      refine lv_aload_n hx hb dX3_counted_129 rfl (lv_at hl 0 rfl) ?_
      refine va_get (D := (dC, dI)) (ci := 3) (v := .ref sm) (C := RX3) (T := TX3) (N := 10) hx hb hts (by decide +kernel) hown hK hP 0 rfl rfl 8 (by decide) (hts (.fieldLink RX3 33 "ThatchRoofModel" "s" "LThatchRoofModel$State;") (by decide +kernel)) (fun _ h9 => h9) rfl dX3_counted_130 ?_
      refine va_getN (D := (dC, dI)) (ci := 2) (v := .int 0) (C := RX2) (T := TX2) (N := 10) hx hb hts (by decide +kernel) hown hK hP 1 rfl rfl 0 (by decide) (va_Nw.use rfl (zN_RX3_128 hZN)) (fun _ h9 => h9) rfl dX3_counted_133 ?_
      refine lv_bipush (v := 12) hx hb dX3_counted_136 (by decide) ?_
      refine lv_irem hx hb dX3_counted_138 (by decide) ?_
      refine W.eq (g2 := F0 m 139 ls [.int 0, .ref so, .int 8, .ref q2, .ref q2]) rfl ?_
      refine va_iald hx hb hK hP 6 4 rfl rfl (vp_in_nI (n := 0) (by decide) (by decide)) dX3_counted_139 ?_
      refine lv_topi (fun x8 ex8 => ?_)
      obtain rfl : x8 = 0 := ex8
      refine va_iast hx hb hK hP hD hS 9 7 rfl rfl (vp_in_nI (n := 8) (by decide) (by decide)) dX3_counted_140 (fun H locs hP hD hS => ?_)
      have hP : va_P (dC, dI) vwCl [(hm, .inr (3, [.int th, .int 6, .ref wi, .ref co, .ref sl, .ref rn, .ref so, .ref bn, .ref sm, .ref ah])), (sm, .inr (2, [.int 0, .ref gr, .ref gt, .ref gw, .ref gk, .ref gi, .ref gp, .ref go, .ref gg, .ref hm])), (wi, .inl (d1, 6, .inl fw)), (co, .inl (d2, 6, .inl fc)), (bn, .inl (d5, 3, .inl (fun _ => 0))), (rn, .inl (d6, 12, .inl fn)), (so, .inl (d7, 12, .inl (fun _ => 0))), (gk, .inl (d10, 360, .inl fk)), (gi, .inl (d11, 360, .inl (fun _ => 0))), (q2, .inl (cA3, 9, .inl (upd (upd (upd (upd (upd (upd (upd (upd (upd (fun _ => 0) 0 0) 1 6) 2 0) 3 0) 4 0) 5 0) 6 60) 7 4) 8 0)))] H := hP
      have hD : va_D A [(hm, .inr (3, [.int th, .int 6, .ref wi, .ref co, .ref sl, .ref rn, .ref so, .ref bn, .ref sm, .ref ah])), (sm, .inr (2, [.int 0, .ref gr, .ref gt, .ref gw, .ref gk, .ref gi, .ref gp, .ref go, .ref gg, .ref hm])), (wi, .inl (d1, 6, .inl fw)), (co, .inl (d2, 6, .inl fc)), (bn, .inl (d5, 3, .inl (fun _ => 0))), (rn, .inl (d6, 12, .inl fn)), (so, .inl (d7, 12, .inl (fun _ => 0))), (gk, .inl (d10, 360, .inl fk)), (gi, .inl (d11, 360, .inl (fun _ => 0))), (q2, .inl (cA3, 9, .inl (upd (upd (upd (upd (upd (upd (upd (upd (upd (fun _ => 0) 0 0) 1 6) 2 0) 3 0) 4 0) 5 0) 6 60) 7 4) 8 0)))] := hD
      refine lv_astore (lv' := [(4, .ref q2), (0, .ref hm), (1, .int 7), (2, .int 0), (3, .int 60)]) hx hb dX3_counted_141 hl (by decide) rfl (fun ls hl => ?_)
      refine lv_aload hx hb dX3_counted_143 (lv_at hl 0 rfl) ?_
      refine lv_iload_n hx hb dX3_counted_145 rfl (lv_at hl 2 rfl) ?_
      refine va_iald hx hb hK hP 9 7 rfl rfl (vp_in_nI (n := 7) (by decide) (by decide)) dX3_counted_146 ?_
      refine lv_topi (fun x9 ex9 => ?_)
      obtain rfl : x9 = 4 := ex9
      have hP9 := hP.sub (ws' := [(hm, .inr (3, [.int th, .int 6, .ref wi, .ref co, .ref sl, .ref rn, .ref so, .ref bn, .ref sm, .ref ah])), (sm, .inr (2, [.int 0, .ref gr, .ref gt, .ref gw, .ref gk, .ref gi, .ref gp, .ref go, .ref gg, .ref hm])), (wi, .inl (d1, 6, .inl fw)), (co, .inl (d2, 6, .inl fc)), (bn, .inl (d5, 3, .inl (fun _ => 0))), (rn, .inl (d6, 12, .inl fn)), (so, .inl (d7, 12, .inl (fun _ => 0))), (gk, .inl (d10, 360, .inl fk)), (gi, .inl (d11, 360, .inl (fun _ => 0)))]) [0, 1, 2, 3, 4, 5, 6, 7, 8] rfl
      have hD9 := hD.sub (ws' := [(hm, .inr (3, [.int th, .int 6, .ref wi, .ref co, .ref sl, .ref rn, .ref so, .ref bn, .ref sm, .ref ah])), (sm, .inr (2, [.int 0, .ref gr, .ref gt, .ref gw, .ref gk, .ref gi, .ref gp, .ref go, .ref gg, .ref hm])), (wi, .inl (d1, 6, .inl fw)), (co, .inl (d2, 6, .inl fc)), (bn, .inl (d5, 3, .inl (fun _ => 0))), (rn, .inl (d6, 12, .inl fn)), (so, .inl (d7, 12, .inl (fun _ => 0))), (gk, .inl (d10, 360, .inl fk)), (gi, .inl (d11, 360, .inl (fun _ => 0)))]) [0, 1, 2, 3, 4, 5, 6, 7, 8] (by decide) rfl
      have hK9 := hK.sub (tys' := []) [] rfl
      refine W.widen (k := 1) (n := 9) (Nat.le_of_ble_eq_true rfl) (Nat.le_of_ble_eq_true rfl) ?_
      have hZ := zz_one hAe hD hP 9 [0, 1, 2, 3, 4, 5, 6, 7, 8] rfl rfl (by decide)
      exact W.iret (v := 4) hx hb hr (fun t ht hW => ⟨⟨4, (), rfl, by (first | rfl | assumption | decide | (simp_all; done) | grind), ⟨by rw [ht]; exact hP9, va_K.moved hW.alike hK9, hD9, by rw [ht]; omega⟩⟩, hS.F ht⟩) hS.2.2 dX3_counted_147
    · have nc1 : i < 6 := Nat.lt_of_not_le (fun q => c1 ((nI_leI (a := 6) (b := i) (by omega) (by omega)).mpr q))
      refine lv_iload_n hx hb dX3_counted_16 rfl (lv_at hl 2 rfl) ?_
      refine lv_aload_n hx hb dX3_counted_17 rfl (lv_at hl 0 rfl) ?_
      refine va_get (D := (dC, dI)) (ci := 3) (v := .ref sm) (C := RX3) (T := TX3) (N := 10) hx hb hts (by decide +kernel) hown hK hP 0 rfl rfl 8 (by decide) (hts (.fieldLink RX3 33 "ThatchRoofModel" "s" "LThatchRoofModel$State;") (by decide +kernel)) (fun _ h9 => h9) rfl dX3_counted_18 ?_
      refine lv_iload hx hb dX3_counted_21 (lv_at hl 4 rfl) ?_
      have hPc := hP.sub (ws' := [(sm, .inr (2, [.int 0, .ref gr, .ref gt, .ref gw, .ref gk, .ref gi, .ref gp, .ref go, .ref gg, .ref hm])), (gk, .inl (d10, 360, .inl fk))]) [1, 7] rfl
      have hKc := hK.sub (tys' := [(d10, .int)]) [5] rfl
      refine vp_callSi (va_runV (As := [.int (nI i)]) (rest := [.int 0]) ⟨hx, hb, hml, hown, hts⟩ (r2_yealms l dC dI sm hm gr gt gw gk gi gp go gg d10 fk i (by first | assumption | decide | omega) (by first | assumption | decide | omega)) (cwV 1 hts gX3_counted_X2_yealms rfl rfl rfl (by decide +kernel) ⟨Nat.le_of_ble_eq_true rfl, Nat.le_of_ble_eq_true rfl⟩) ⟨fun a U g mk q => by obtain ⟨q0, qP, qK⟩ := q; exact ⟨q0, qP, va_K.moved (u := U) (U := U.calling g mk a) (Vm.Alike.refl U.vm) qK⟩, va_recv hKc hPc (ci := 2) (q0 := 0) rfl rfl, fun U hU hW => ⟨rfl, by rw [hU]; exact hPc, va_K.moved hW.alike hKc⟩⟩ rfl rfl hl.1 rfl (lv_room (Nat.le_of_ble_eq_true rfl)) dX3_counted_23 ⟨Nat.le_of_ble_eq_true rfl, Nat.le_of_ble_eq_true rfl⟩).run (fun r10 hr10 => ?_)
      obtain rfl := hr10
      refine lv_iadd hx hb dX3_counted_26 ?_
      refine W.eq (g2 := F0 m 27 ls [.int 0]) rfl ?_
      refine lv_istore_n (lv' := [(2, .int 0), (0, .ref hm), (1, .int 7), (3, .int (nI (10 * i))), (4, .int (nI i))]) hx hb dX3_counted_27 rfl hl (by decide) rfl (fun ls hl => ?_)
      refine lv_iload_n hx hb dX3_counted_28 rfl (lv_at hl 3 rfl) ?_
      refine lv_aload_n hx hb dX3_counted_29 rfl (lv_at hl 1 rfl) ?_
      refine va_get (D := (dC, dI)) (ci := 3) (v := .ref sm) (C := RX3) (T := TX3) (N := 10) hx hb hts (by decide +kernel) hown hK hP 0 rfl rfl 8 (by decide) (hts (.fieldLink RX3 33 "ThatchRoofModel" "s" "LThatchRoofModel$State;") (by decide +kernel)) (fun _ h9 => h9) rfl dX3_counted_30 ?_
      refine lv_iload hx hb dX3_counted_33 (lv_at hl 4 rfl) ?_
      have hPc := hP.sub (ws' := [(sm, .inr (2, [.int 0, .ref gr, .ref gt, .ref gw, .ref gk, .ref gi, .ref gp, .ref go, .ref gg, .ref hm])), (hm, .inr (3, [.int th, .int 6, .ref wi, .ref co, .ref sl, .ref rn, .ref so, .ref bn, .ref sm, .ref ah])), (wi, .inl (d1, 6, .inl fw)), (co, .inl (d2, 6, .inl fc)), (gk, .inl (d10, 360, .inl fk)), (gi, .inl (d11, 360, .inl (fun _ => 0)))]) [1, 0, 2, 3, 7, 8] rfl
      have hKc := hK.sub (tys' := [(d1, .int), (d2, .int), (d10, .int), (d11, .int)]) [0, 1, 5, 6] rfl
      refine vp_callSi (va_runV (As := [.int (nI i)]) (rest := [.int (nI (10 * i))]) ⟨hx, hb, hml, hown, hts⟩ (r2_leaks l dC dI hm wi co sl rn so bn sm ah th gr gt gw gk gi gp go gg d1 d2 d10 d11 fw fc fk i (by first | assumption | decide | omega) (by first | assumption | decide | omega) (by first | assumption | decide | omega) (by first | assumption | decide | omega)) (cwV 1 hts gX3_counted_X2_leaks rfl rfl rfl (by decide +kernel) ⟨Nat.le_of_ble_eq_true rfl, Nat.le_of_ble_eq_true rfl⟩) ⟨fun a U g mk q => by obtain ⟨q0, qP, qK, qN⟩ := q; exact ⟨q0, qP, va_K.moved (u := U) (U := U.calling g mk a) (Vm.Alike.refl U.vm) qK, zNs.calling qN⟩, va_recv hKc hPc (ci := 2) (q0 := 0) rfl rfl, fun U hU hW => ⟨rfl, by rw [hU]; exact hPc, va_K.moved hW.alike hKc, zNs.warm hW hZN⟩⟩ rfl rfl hl.1 rfl (lv_room (Nat.le_of_ble_eq_true rfl)) dX3_counted_35 ⟨Nat.le_of_ble_eq_true rfl, Nat.le_of_ble_eq_true rfl⟩).run (fun r11 hr11 => ?_)
      obtain rfl := hr11
      refine lv_iadd hx hb dX3_counted_38 ?_
      refine lv_topi (fun x12 ex12 => ?_)
      obtain rfl : x12 = nI ((10 * i) + 10) := ex12.trans (nI_add (10 * i) 10)
      refine lv_istore_n (lv' := [(3, .int (nI ((10 * i) + 10))), (2, .int 0), (0, .ref hm), (1, .int 7), (4, .int (nI i))]) hx hb dX3_counted_39 rfl hl (by decide) rfl (fun ls hl => ?_)
      refine lv_iinc (v := nI (i + 1)) (lv' := [(4, .int (nI (i + 1))), (3, .int (nI ((10 * i) + 10))), (2, .int 0), (0, .ref hm), (1, .int 7)]) hx hb dX3_counted_40 hl (k := 4) rfl (by exact nI_1 i) (by decide) rfl (fun ls hl => ?_)
      refine lv_goto (tgt := 7) hx hb dX3_counted_43 (by decide) ?_
      exact ih7 (i + 1) (by omega) (by omega) _ _ (hP.sub [0, 1, 2, 3, 4, 5, 6, 7, 8] rfl) (hD.sub [0, 1, 2, 3, 4, 5, 6, 7, 8] (by decide) rfl) hS _ (lv_sub hl [3, 4, 2, 1, 0] rfl)

set_option maxHeartbeats 4000000 in
set_option maxRecDepth 100000 in
theorem r3_counted8 (l : Launch) (dC : Nat → ClassId) (dI : Nat → Nat → Nat) (sz : Nat) (hm : Nat) (wi : Nat) (co : Nat) (sl : Nat) (rn : Nat) (so : Nat) (bn : Nat) (sm : Nat) (ah : Nat) (th : Int32) (gr : Nat) (gt : Nat) (gw : Nat) (gk : Nat) (gi : Nat) (gp : Nat) (go : Nat) (gg : Nat) (d1 : ClassId) (d2 : ClassId) (d5 : ClassId) (d6 : ClassId) (d7 : ClassId) (d10 : ClassId) (d11 : ClassId) (fw : Nat → Int32) (fc : Nat → Int32) (fn : Nat → Int32) (fk : Nat → Int32) (hk : ∀ j : Nat, j < 360 → fk j = -1) (hw : ∀ j : Nat, j < 6 → fw j = 10) (hc : ∀ j : Nat, j < 6 → fc j = 6) (hn : ∀ j : Nat, j < 12 → fn j = 4) : Met l yX3_counted wsX3_counted ({ frames := 2, cells := 1, slots := 9, locals := 47 }) (va_Pc [.ref hm, .int 8] (fun U => U.heap.size = sz ∧ va_P (dC, dI) vwCl [(hm, .inr (3, [.int th, .int 6, .ref wi, .ref co, .ref sl, .ref rn, .ref so, .ref bn, .ref sm, .ref ah])), (sm, .inr (2, [.int 0, .ref gr, .ref gt, .ref gw, .ref gk, .ref gi, .ref gp, .ref go, .ref gg, .ref hm])), (wi, .inl (d1, 6, .inl fw)), (co, .inl (d2, 6, .inl fc)), (bn, .inl (d5, 3, .inl (fun _ => 0))), (rn, .inl (d6, 12, .inl fn)), (so, .inl (d7, 12, .inl (fun _ => 0))), (gk, .inl (d10, 360, .inl fk)), (gi, .inl (d11, 360, .inl (fun _ => 0)))] U.heap ∧ va_K (dC, dI) vwCl [(d1, .int), (d2, .int), (d5, .int), (d6, .int), (d7, .int), (d10, .int), (d11, .int)] U ∧ va_D (fun _ => True) [(hm, .inr (3, [.int th, .int 6, .ref wi, .ref co, .ref sl, .ref rn, .ref so, .ref bn, .ref sm, .ref ah])), (sm, .inr (2, [.int 0, .ref gr, .ref gt, .ref gw, .ref gk, .ref gi, .ref gp, .ref go, .ref gg, .ref hm])), (wi, .inl (d1, 6, .inl fw)), (co, .inl (d2, 6, .inl fc)), (bn, .inl (d5, 3, .inl (fun _ => 0))), (rn, .inl (d6, 12, .inl fn)), (so, .inl (d7, 12, .inl (fun _ => 0))), (gk, .inl (d10, 360, .inl fk)), (gi, .inl (d11, 360, .inl (fun _ => 0)))] ∧ zNs U)) (va_Qi (fun (r : Int32) (u : Unit) => r = 0) (fun (u : Unit) (t : State) => va_P (dC, dI) vwCl [(hm, .inr (3, [.int th, .int 6, .ref wi, .ref co, .ref sl, .ref rn, .ref so, .ref bn, .ref sm, .ref ah])), (sm, .inr (2, [.int 0, .ref gr, .ref gt, .ref gw, .ref gk, .ref gi, .ref gp, .ref go, .ref gg, .ref hm])), (wi, .inl (d1, 6, .inl fw)), (co, .inl (d2, 6, .inl fc)), (bn, .inl (d5, 3, .inl (fun _ => 0))), (rn, .inl (d6, 12, .inl fn)), (so, .inl (d7, 12, .inl (fun _ => 0))), (gk, .inl (d10, 360, .inl fk)), (gi, .inl (d11, 360, .inl (fun _ => 0)))] t.heap ∧ va_K (dC, dI) vwCl [] t ∧ va_D (va_A [(hm, .inr (3, [.int th, .int 6, .ref wi, .ref co, .ref sl, .ref rn, .ref so, .ref bn, .ref sm, .ref ah])), (sm, .inr (2, [.int 0, .ref gr, .ref gt, .ref gw, .ref gk, .ref gi, .ref gp, .ref go, .ref gg, .ref hm])), (wi, .inl (d1, 6, .inl fw)), (co, .inl (d2, 6, .inl fc)), (bn, .inl (d5, 3, .inl (fun _ => 0))), (rn, .inl (d6, 12, .inl fn)), (so, .inl (d7, 12, .inl (fun _ => 0))), (gk, .inl (d10, 360, .inl fk)), (gi, .inl (d11, 360, .inl (fun _ => 0)))] sz) [(hm, .inr (3, [.int th, .int 6, .ref wi, .ref co, .ref sl, .ref rn, .ref so, .ref bn, .ref sm, .ref ah])), (sm, .inr (2, [.int 0, .ref gr, .ref gt, .ref gw, .ref gk, .ref gi, .ref gp, .ref go, .ref gg, .ref hm])), (wi, .inl (d1, 6, .inl fw)), (co, .inl (d2, 6, .inl fc)), (bn, .inl (d5, 3, .inl (fun _ => 0))), (rn, .inl (d6, 12, .inl fn)), (so, .inl (d7, 12, .inl (fun _ => 0))), (gk, .inl (d10, 360, .inl fk)), (gi, .inl (d11, 360, .inl (fun _ => 0)))] ∧ sz + 1 ≤ t.heap.size) (va_A [(hm, .inr (3, [.int th, .int 6, .ref wi, .ref co, .ref sl, .ref rn, .ref so, .ref bn, .ref sm, .ref ah])), (sm, .inr (2, [.int 0, .ref gr, .ref gt, .ref gw, .ref gk, .ref gi, .ref gp, .ref go, .ref gg, .ref hm])), (wi, .inl (d1, 6, .inl fw)), (co, .inl (d2, 6, .inl fc)), (bn, .inl (d5, 3, .inl (fun _ => 0))), (rn, .inl (d6, 12, .inl fn)), (so, .inl (d7, 12, .inl (fun _ => 0))), (gk, .inl (d10, 360, .inl fk)), (gi, .inl (d11, 360, .inl (fun _ => 0)))] sz)) 1 9 (va_A [(hm, .inr (3, [.int th, .int 6, .ref wi, .ref co, .ref sl, .ref rn, .ref so, .ref bn, .ref sm, .ref ah])), (sm, .inr (2, [.int 0, .ref gr, .ref gt, .ref gw, .ref gk, .ref gi, .ref gp, .ref go, .ref gg, .ref hm])), (wi, .inl (d1, 6, .inl fw)), (co, .inl (d2, 6, .inl fc)), (bn, .inl (d5, 3, .inl (fun _ => 0))), (rn, .inl (d6, 12, .inl fn)), (so, .inl (d7, 12, .inl (fun _ => 0))), (gk, .inl (d10, 360, .inl fk)), (gi, .inl (d11, 360, .inl (fun _ => 0)))] sz) := by
  refine Met.ofW (cc := cX3_counted) (maxL := 5) (ret := (some .int)) (by decide) rfl ?_
  intro p e s m args below meth c s₁ B hml hv
  obtain ⟨rfl, hsz, hP, hK, hD0, hZN⟩ := hv
  have hx := B.exec
  have hb := B.bytes
  have hr := B.returns
  have hts := atoms_spec (ws := wsX3_counted) B.pre
  have hown : s.vm.findClass RX3 = some m.cls := findClass_of_methodNamed B.named
  have hlocks := B.notSynchronized
  subst hsz
  have hD := hD0.self (sz := s.heap.size)
  generalize hAe : va_A [(hm, .inr (3, [.int th, .int 6, .ref wi, .ref co, .ref sl, .ref rn, .ref so, .ref bn, .ref sm, .ref ah])), (sm, .inr (2, [.int 0, .ref gr, .ref gt, .ref gw, .ref gk, .ref gi, .ref gp, .ref go, .ref gg, .ref hm])), (wi, .inl (d1, 6, .inl fw)), (co, .inl (d2, 6, .inl fc)), (bn, .inl (d5, 3, .inl (fun _ => 0))), (rn, .inl (d6, 12, .inl fn)), (so, .inl (d7, 12, .inl (fun _ => 0))), (gk, .inl (d10, 360, .inl fk)), (gi, .inl (d11, 360, .inl (fun _ => 0)))] s.heap.size = A at hD ⊢
  have hA : ∀ q : Nat, s.heap.size ≤ q → A q := fun q h => by rw [← hAe]; exact Or.inr h
  have hS : va_S A s.heap s.heap [] := va_S.rf
  have hP : va_P (dC, dI) vwCl [(hm, .inr (3, [.int th, .int 6, .ref wi, .ref co, .ref sl, .ref rn, .ref so, .ref bn, .ref sm, .ref ah])), (sm, .inr (2, [.int 0, .ref gr, .ref gt, .ref gw, .ref gk, .ref gi, .ref gp, .ref go, .ref gg, .ref hm])), (wi, .inl (d1, 6, .inl fw)), (co, .inl (d2, 6, .inl fc)), (bn, .inl (d5, 3, .inl (fun _ => 0))), (rn, .inl (d6, 12, .inl fn)), (so, .inl (d7, 12, .inl (fun _ => 0))), (gk, .inl (d10, 360, .inl fk)), (gi, .inl (d11, 360, .inl (fun _ => 0)))] s.heap := hP
  have hl := lv_entry ([.ref hm, .int 8]) (n := 5) (Nat.le_of_ble_eq_true rfl)
  rw [lg_entry_eq]
  generalize (lg_sl ([.ref hm, .int 8]) ++ List.replicate (5 - (lg_sl ([.ref hm, .int 8])).length) Slot.unset).toArray = ls at hl ⊢
  have hl : lv_has ls 5 [(0, .ref hm), (1, .int 8)] := hl
  refine lv_iconst (v := 0) hx hb dX3_counted_0 (by decide) ?_
  refine lv_istore_n (lv' := [(2, .int 0), (0, .ref hm), (1, .int 8)]) hx hb dX3_counted_1 rfl hl (by decide) rfl (fun ls hl => ?_)
  refine lv_iconst (v := 0) hx hb dX3_counted_2 (by decide) ?_
  refine lv_istore_n (lv' := [(3, .int 0), (2, .int 0), (0, .ref hm), (1, .int 8)]) hx hb dX3_counted_3 rfl hl (by decide) rfl (fun ls hl => ?_)
  refine lv_iconst (v := 0) hx hb dX3_counted_4 (by decide) ?_
  refine lv_istore (lv' := [(4, .int 0), (3, .int 0), (2, .int 0), (0, .ref hm), (1, .int 8)]) hx hb dX3_counted_5 hl (by decide) rfl (fun ls hl => ?_)
  suffices K7 : ∀ (n : Nat) (i : Nat), (i ≤ 6) → 6 - i < n → ∀ (H : Heap) (locs : List Loc), va_P (dC, dI) vwCl [(hm, .inr (3, [.int th, .int 6, .ref wi, .ref co, .ref sl, .ref rn, .ref so, .ref bn, .ref sm, .ref ah])), (sm, .inr (2, [.int 0, .ref gr, .ref gt, .ref gw, .ref gk, .ref gi, .ref gp, .ref go, .ref gg, .ref hm])), (wi, .inl (d1, 6, .inl fw)), (co, .inl (d2, 6, .inl fc)), (bn, .inl (d5, 3, .inl (fun _ => 0))), (rn, .inl (d6, 12, .inl fn)), (so, .inl (d7, 12, .inl (fun _ => 0))), (gk, .inl (d10, 360, .inl fk)), (gi, .inl (d11, 360, .inl (fun _ => 0)))] H → va_D A [(hm, .inr (3, [.int th, .int 6, .ref wi, .ref co, .ref sl, .ref rn, .ref so, .ref bn, .ref sm, .ref ah])), (sm, .inr (2, [.int 0, .ref gr, .ref gt, .ref gw, .ref gk, .ref gi, .ref gp, .ref go, .ref gg, .ref hm])), (wi, .inl (d1, 6, .inl fw)), (co, .inl (d2, 6, .inl fc)), (bn, .inl (d5, 3, .inl (fun _ => 0))), (rn, .inl (d6, 12, .inl fn)), (so, .inl (d7, 12, .inl (fun _ => 0))), (gk, .inl (d10, 360, .inl fk)), (gi, .inl (d11, 360, .inl (fun _ => 0)))] → va_S A s.heap H locs → ∀ ls : Array Slot, lv_has ls 5 [(0, .ref hm), (1, .int 8), (2, .int 0), (3, .int (nI (10 * i))), (4, .int (nI i))] → W p l e ({ frames := 2, cells := 1, slots := 9, locals := 47 } : Room) s m (([.ref hm, .int 8] : List Value).toArray) below meth c H locs 0 0 (MQ below (va_Qi (fun (r : Int32) (u : Unit) => r = 0) (fun (u : Unit) (t : State) => va_P (dC, dI) vwCl [(hm, .inr (3, [.int th, .int 6, .ref wi, .ref co, .ref sl, .ref rn, .ref so, .ref bn, .ref sm, .ref ah])), (sm, .inr (2, [.int 0, .ref gr, .ref gt, .ref gw, .ref gk, .ref gi, .ref gp, .ref go, .ref gg, .ref hm])), (wi, .inl (d1, 6, .inl fw)), (co, .inl (d2, 6, .inl fc)), (bn, .inl (d5, 3, .inl (fun _ => 0))), (rn, .inl (d6, 12, .inl fn)), (so, .inl (d7, 12, .inl (fun _ => 0))), (gk, .inl (d10, 360, .inl fk)), (gi, .inl (d11, 360, .inl (fun _ => 0)))] t.heap ∧ va_K (dC, dI) vwCl [] t ∧ va_D A [(hm, .inr (3, [.int th, .int 6, .ref wi, .ref co, .ref sl, .ref rn, .ref so, .ref bn, .ref sm, .ref ah])), (sm, .inr (2, [.int 0, .ref gr, .ref gt, .ref gw, .ref gk, .ref gi, .ref gp, .ref go, .ref gg, .ref hm])), (wi, .inl (d1, 6, .inl fw)), (co, .inl (d2, 6, .inl fc)), (bn, .inl (d5, 3, .inl (fun _ => 0))), (rn, .inl (d6, 12, .inl fn)), (so, .inl (d7, 12, .inl (fun _ => 0))), (gk, .inl (d10, 360, .inl fk)), (gi, .inl (d11, 360, .inl (fun _ => 0)))] ∧ s.heap.size + 1 ≤ t.heap.size) A) (([.ref hm, .int 8] : List Value).toArray) s 1 9 A) (F0 m 7 ls []) from
    K7 _ 0 (by decide) (Nat.lt_succ_self _) _ _ hP hD hS _ (lv_sub hl [3, 4, 2, 1, 0] rfl)
  intro n
  induction n with
  | zero =>
    intro i hi hn
    exact absurd hn (Nat.not_lt_zero _)
  | succ n ih7 =>
    intro i hi hn7 H locs hP hD hS ls hl
    refine lv_iload hx hb dX3_counted_7 (lv_at hl 4 rfl) ?_
    refine lv_aload_n hx hb dX3_counted_9 rfl (lv_at hl 0 rfl) ?_
    refine va_get (D := (dC, dI)) (ci := 3) (v := .int 6) (C := RX3) (T := TX3) (N := 10) hx hb hts (by decide +kernel) hown hK hP 0 rfl rfl 1 (by decide) (hts (.fieldLink RX3 44 "ThatchRoofModel" "roofs" "I") (by decide +kernel)) (fun _ h9 => h9) rfl dX3_counted_10 ?_
    refine lv_icmp_ge (tgt := 46) hx hb dX3_counted_13 (by decide) (fun c1 => ?_) (fun c1 => ?_)
    · have nc1 : 6 ≤ i := (nI_leI (a := 6) (b := i) (by omega) (by omega)).mp c1
      have h9 : i = 6 := by omega
      rw [show nI (10 * i) = 60 from by rw [h9]; rfl] at hl
      refine lv_bipush (v := 9) hx hb dX3_counted_46 (by decide) ?_
      refine va_newa (atype := .int) (ty := .int) (N' := 9) (a0 := (9, .inl (fun _ => 0))) hx hb (hts (.arrayClass .int) (by decide +kernel)) rfl hK hP hD hS hA (fun _ => rfl) (by decide) (by decide) (by decide) (Nat.le_of_ble_eq_true rfl) (Nat.le_of_ble_eq_true rfl) dX3_counted_48 (fun q2 cA3 H hK hP hD hS => ?_)
      refine W.widen (k := 1) (n := 9) (Nat.le_of_ble_eq_true rfl) (Nat.le_of_ble_eq_true rfl) ?_
      have hK : va_K (dC, dI) vwCl [(d1, .int), (d2, .int), (d5, .int), (d6, .int), (d7, .int), (d10, .int), (d11, .int), (cA3, .int)] s := hK
      have hP : va_P (dC, dI) vwCl [(hm, .inr (3, [.int th, .int 6, .ref wi, .ref co, .ref sl, .ref rn, .ref so, .ref bn, .ref sm, .ref ah])), (sm, .inr (2, [.int 0, .ref gr, .ref gt, .ref gw, .ref gk, .ref gi, .ref gp, .ref go, .ref gg, .ref hm])), (wi, .inl (d1, 6, .inl fw)), (co, .inl (d2, 6, .inl fc)), (bn, .inl (d5, 3, .inl (fun _ => 0))), (rn, .inl (d6, 12, .inl fn)), (so, .inl (d7, 12, .inl (fun _ => 0))), (gk, .inl (d10, 360, .inl fk)), (gi, .inl (d11, 360, .inl (fun _ => 0))), (q2, .inl (cA3, 9, .inl (fun _ => 0)))] H := hP
      have hD : va_D A [(hm, .inr (3, [.int th, .int 6, .ref wi, .ref co, .ref sl, .ref rn, .ref so, .ref bn, .ref sm, .ref ah])), (sm, .inr (2, [.int 0, .ref gr, .ref gt, .ref gw, .ref gk, .ref gi, .ref gp, .ref go, .ref gg, .ref hm])), (wi, .inl (d1, 6, .inl fw)), (co, .inl (d2, 6, .inl fc)), (bn, .inl (d5, 3, .inl (fun _ => 0))), (rn, .inl (d6, 12, .inl fn)), (so, .inl (d7, 12, .inl (fun _ => 0))), (gk, .inl (d10, 360, .inl fk)), (gi, .inl (d11, 360, .inl (fun _ => 0))), (q2, .inl (cA3, 9, .inl (fun _ => 0)))] := hD
      refine lv_dup hx hb dX3_counted_50 rfl ?_
      refine lv_iconst (v := 0) hx hb dX3_counted_51 (by decide) ?_
      refine lv_aload_n hx hb dX3_counted_52 rfl (lv_at hl 0 rfl) ?_
      refine va_get (D := (dC, dI)) (ci := 3) (v := .ref sm) (C := RX3) (T := TX3) (N := 10) hx hb hts (by decide +kernel) hown hK hP 0 rfl rfl 8 (by decide) (hts (.fieldLink RX3 33 "ThatchRoofModel" "s" "LThatchRoofModel$State;") (by decide +kernel)) (fun _ h9 => h9) rfl dX3_counted_53 ?_
      refine va_getN (D := (dC, dI)) (ci := 2) (v := .int 0) (C := RX2) (T := TX2) (N := 10) hx hb hts (by decide +kernel) hown hK hP 1 rfl rfl 0 (by decide) (va_Nw.use rfl (zN_RX3_128 hZN)) (fun _ h9 => h9) rfl dX3_counted_56 ?_
      refine va_iast hx hb hK hP hD hS 9 7 rfl rfl (vp_in_nI (n := 0) (by decide) (by decide)) dX3_counted_59 (fun H locs hP hD hS => ?_)
      have hP : va_P (dC, dI) vwCl [(hm, .inr (3, [.int th, .int 6, .ref wi, .ref co, .ref sl, .ref rn, .ref so, .ref bn, .ref sm, .ref ah])), (sm, .inr (2, [.int 0, .ref gr, .ref gt, .ref gw, .ref gk, .ref gi, .ref gp, .ref go, .ref gg, .ref hm])), (wi, .inl (d1, 6, .inl fw)), (co, .inl (d2, 6, .inl fc)), (bn, .inl (d5, 3, .inl (fun _ => 0))), (rn, .inl (d6, 12, .inl fn)), (so, .inl (d7, 12, .inl (fun _ => 0))), (gk, .inl (d10, 360, .inl fk)), (gi, .inl (d11, 360, .inl (fun _ => 0))), (q2, .inl (cA3, 9, .inl (upd (fun _ => 0) 0 0)))] H := hP
      have hD : va_D A [(hm, .inr (3, [.int th, .int 6, .ref wi, .ref co, .ref sl, .ref rn, .ref so, .ref bn, .ref sm, .ref ah])), (sm, .inr (2, [.int 0, .ref gr, .ref gt, .ref gw, .ref gk, .ref gi, .ref gp, .ref go, .ref gg, .ref hm])), (wi, .inl (d1, 6, .inl fw)), (co, .inl (d2, 6, .inl fc)), (bn, .inl (d5, 3, .inl (fun _ => 0))), (rn, .inl (d6, 12, .inl fn)), (so, .inl (d7, 12, .inl (fun _ => 0))), (gk, .inl (d10, 360, .inl fk)), (gi, .inl (d11, 360, .inl (fun _ => 0))), (q2, .inl (cA3, 9, .inl (upd (fun _ => 0) 0 0)))] := hD
      refine lv_dup hx hb dX3_counted_60 rfl ?_
      refine lv_iconst (v := 1) hx hb dX3_counted_61 (by decide) ?_
      refine lv_aload_n hx hb dX3_counted_62 rfl (lv_at hl 0 rfl) ?_
      refine va_get (D := (dC, dI)) (ci := 3) (v := .int 6) (C := RX3) (T := TX3) (N := 10) hx hb hts (by decide +kernel) hown hK hP 0 rfl rfl 1 (by decide) (hts (.fieldLink RX3 44 "ThatchRoofModel" "roofs" "I") (by decide +kernel)) (fun _ h9 => h9) rfl dX3_counted_63 ?_
      refine va_iast hx hb hK hP hD hS 9 7 rfl rfl (vp_in_nI (n := 1) (by decide) (by decide)) dX3_counted_66 (fun H locs hP hD hS => ?_)
      have hP : va_P (dC, dI) vwCl [(hm, .inr (3, [.int th, .int 6, .ref wi, .ref co, .ref sl, .ref rn, .ref so, .ref bn, .ref sm, .ref ah])), (sm, .inr (2, [.int 0, .ref gr, .ref gt, .ref gw, .ref gk, .ref gi, .ref gp, .ref go, .ref gg, .ref hm])), (wi, .inl (d1, 6, .inl fw)), (co, .inl (d2, 6, .inl fc)), (bn, .inl (d5, 3, .inl (fun _ => 0))), (rn, .inl (d6, 12, .inl fn)), (so, .inl (d7, 12, .inl (fun _ => 0))), (gk, .inl (d10, 360, .inl fk)), (gi, .inl (d11, 360, .inl (fun _ => 0))), (q2, .inl (cA3, 9, .inl (upd (upd (fun _ => 0) 0 0) 1 6)))] H := hP
      have hD : va_D A [(hm, .inr (3, [.int th, .int 6, .ref wi, .ref co, .ref sl, .ref rn, .ref so, .ref bn, .ref sm, .ref ah])), (sm, .inr (2, [.int 0, .ref gr, .ref gt, .ref gw, .ref gk, .ref gi, .ref gp, .ref go, .ref gg, .ref hm])), (wi, .inl (d1, 6, .inl fw)), (co, .inl (d2, 6, .inl fc)), (bn, .inl (d5, 3, .inl (fun _ => 0))), (rn, .inl (d6, 12, .inl fn)), (so, .inl (d7, 12, .inl (fun _ => 0))), (gk, .inl (d10, 360, .inl fk)), (gi, .inl (d11, 360, .inl (fun _ => 0))), (q2, .inl (cA3, 9, .inl (upd (upd (fun _ => 0) 0 0) 1 6)))] := hD
      refine lv_dup hx hb dX3_counted_67 rfl ?_
      refine lv_iconst (v := 2) hx hb dX3_counted_68 (by decide) ?_
      refine lv_aload_n hx hb dX3_counted_69 rfl (lv_at hl 0 rfl) ?_
      refine va_get (D := (dC, dI)) (ci := 3) (v := .ref bn) (C := RX3) (T := TX3) (N := 10) hx hb hts (by decide +kernel) hown hK hP 0 rfl rfl 7 (by decide) (hts (.fieldLink RX3 25 "ThatchRoofModel" "barn" "[I") (by decide +kernel)) (fun _ h9 => h9) rfl dX3_counted_70 ?_
      refine lv_iconst (v := 0) hx hb dX3_counted_73 (by decide) ?_
      refine va_iald hx hb hK hP 4 2 rfl rfl (vp_in_nI (n := 0) (by decide) (by decide)) dX3_counted_74 ?_
      refine lv_topi (fun x4 ex4 => ?_)
      obtain rfl : x4 = 0 := ex4
      refine va_iast hx hb hK hP hD hS 9 7 rfl rfl (vp_in_nI (n := 2) (by decide) (by decide)) dX3_counted_75 (fun H locs hP hD hS => ?_)
      have hP : va_P (dC, dI) vwCl [(hm, .inr (3, [.int th, .int 6, .ref wi, .ref co, .ref sl, .ref rn, .ref so, .ref bn, .ref sm, .ref ah])), (sm, .inr (2, [.int 0, .ref gr, .ref gt, .ref gw, .ref gk, .ref gi, .ref gp, .ref go, .ref gg, .ref hm])), (wi, .inl (d1, 6, .inl fw)), (co, .inl (d2, 6, .inl fc)), (bn, .inl (d5, 3, .inl (fun _ => 0))), (rn, .inl (d6, 12, .inl fn)), (so, .inl (d7, 12, .inl (fun _ => 0))), (gk, .inl (d10, 360, .inl fk)), (gi, .inl (d11, 360, .inl (fun _ => 0))), (q2, .inl (cA3, 9, .inl (upd (upd (upd (fun _ => 0) 0 0) 1 6) 2 0)))] H := hP
      have hD : va_D A [(hm, .inr (3, [.int th, .int 6, .ref wi, .ref co, .ref sl, .ref rn, .ref so, .ref bn, .ref sm, .ref ah])), (sm, .inr (2, [.int 0, .ref gr, .ref gt, .ref gw, .ref gk, .ref gi, .ref gp, .ref go, .ref gg, .ref hm])), (wi, .inl (d1, 6, .inl fw)), (co, .inl (d2, 6, .inl fc)), (bn, .inl (d5, 3, .inl (fun _ => 0))), (rn, .inl (d6, 12, .inl fn)), (so, .inl (d7, 12, .inl (fun _ => 0))), (gk, .inl (d10, 360, .inl fk)), (gi, .inl (d11, 360, .inl (fun _ => 0))), (q2, .inl (cA3, 9, .inl (upd (upd (upd (fun _ => 0) 0 0) 1 6) 2 0)))] := hD
      refine lv_dup hx hb dX3_counted_76 rfl ?_
      refine lv_iconst (v := 3) hx hb dX3_counted_77 (by decide) ?_
      refine lv_aload_n hx hb dX3_counted_78 rfl (lv_at hl 0 rfl) ?_
      refine va_get (D := (dC, dI)) (ci := 3) (v := .ref bn) (C := RX3) (T := TX3) (N := 10) hx hb hts (by decide +kernel) hown hK hP 0 rfl rfl 7 (by decide) (hts (.fieldLink RX3 25 "ThatchRoofModel" "barn" "[I") (by decide +kernel)) (fun _ h9 => h9) rfl dX3_counted_79 ?_
      refine lv_iconst (v := 1) hx hb dX3_counted_82 (by decide) ?_
      refine va_iald hx hb hK hP 4 2 rfl rfl (vp_in_nI (n := 1) (by decide) (by decide)) dX3_counted_83 ?_
      refine lv_topi (fun x5 ex5 => ?_)
      obtain rfl : x5 = 0 := ex5
      refine va_iast hx hb hK hP hD hS 9 7 rfl rfl (vp_in_nI (n := 3) (by decide) (by decide)) dX3_counted_84 (fun H locs hP hD hS => ?_)
      have hP : va_P (dC, dI) vwCl [(hm, .inr (3, [.int th, .int 6, .ref wi, .ref co, .ref sl, .ref rn, .ref so, .ref bn, .ref sm, .ref ah])), (sm, .inr (2, [.int 0, .ref gr, .ref gt, .ref gw, .ref gk, .ref gi, .ref gp, .ref go, .ref gg, .ref hm])), (wi, .inl (d1, 6, .inl fw)), (co, .inl (d2, 6, .inl fc)), (bn, .inl (d5, 3, .inl (fun _ => 0))), (rn, .inl (d6, 12, .inl fn)), (so, .inl (d7, 12, .inl (fun _ => 0))), (gk, .inl (d10, 360, .inl fk)), (gi, .inl (d11, 360, .inl (fun _ => 0))), (q2, .inl (cA3, 9, .inl (upd (upd (upd (upd (fun _ => 0) 0 0) 1 6) 2 0) 3 0)))] H := hP
      have hD : va_D A [(hm, .inr (3, [.int th, .int 6, .ref wi, .ref co, .ref sl, .ref rn, .ref so, .ref bn, .ref sm, .ref ah])), (sm, .inr (2, [.int 0, .ref gr, .ref gt, .ref gw, .ref gk, .ref gi, .ref gp, .ref go, .ref gg, .ref hm])), (wi, .inl (d1, 6, .inl fw)), (co, .inl (d2, 6, .inl fc)), (bn, .inl (d5, 3, .inl (fun _ => 0))), (rn, .inl (d6, 12, .inl fn)), (so, .inl (d7, 12, .inl (fun _ => 0))), (gk, .inl (d10, 360, .inl fk)), (gi, .inl (d11, 360, .inl (fun _ => 0))), (q2, .inl (cA3, 9, .inl (upd (upd (upd (upd (fun _ => 0) 0 0) 1 6) 2 0) 3 0)))] := hD
      refine lv_dup hx hb dX3_counted_85 rfl ?_
      refine lv_iconst (v := 4) hx hb dX3_counted_86 (by decide) ?_
      refine lv_aload_n hx hb dX3_counted_87 rfl (lv_at hl 0 rfl) ?_
      refine va_get (D := (dC, dI)) (ci := 3) (v := .ref bn) (C := RX3) (T := TX3) (N := 10) hx hb hts (by decide +kernel) hown hK hP 0 rfl rfl 7 (by decide) (hts (.fieldLink RX3 25 "ThatchRoofModel" "barn" "[I") (by decide +kernel)) (fun _ h9 => h9) rfl dX3_counted_88 ?_
      refine lv_iconst (v := 2) hx hb dX3_counted_91 (by decide) ?_
      refine va_iald hx hb hK hP 4 2 rfl rfl (vp_in_nI (n := 2) (by decide) (by decide)) dX3_counted_92 ?_
      refine lv_topi (fun x6 ex6 => ?_)
      obtain rfl : x6 = 0 := ex6
      refine va_iast hx hb hK hP hD hS 9 7 rfl rfl (vp_in_nI (n := 4) (by decide) (by decide)) dX3_counted_93 (fun H locs hP hD hS => ?_)
      have hP : va_P (dC, dI) vwCl [(hm, .inr (3, [.int th, .int 6, .ref wi, .ref co, .ref sl, .ref rn, .ref so, .ref bn, .ref sm, .ref ah])), (sm, .inr (2, [.int 0, .ref gr, .ref gt, .ref gw, .ref gk, .ref gi, .ref gp, .ref go, .ref gg, .ref hm])), (wi, .inl (d1, 6, .inl fw)), (co, .inl (d2, 6, .inl fc)), (bn, .inl (d5, 3, .inl (fun _ => 0))), (rn, .inl (d6, 12, .inl fn)), (so, .inl (d7, 12, .inl (fun _ => 0))), (gk, .inl (d10, 360, .inl fk)), (gi, .inl (d11, 360, .inl (fun _ => 0))), (q2, .inl (cA3, 9, .inl (upd (upd (upd (upd (upd (fun _ => 0) 0 0) 1 6) 2 0) 3 0) 4 0)))] H := hP
      have hD : va_D A [(hm, .inr (3, [.int th, .int 6, .ref wi, .ref co, .ref sl, .ref rn, .ref so, .ref bn, .ref sm, .ref ah])), (sm, .inr (2, [.int 0, .ref gr, .ref gt, .ref gw, .ref gk, .ref gi, .ref gp, .ref go, .ref gg, .ref hm])), (wi, .inl (d1, 6, .inl fw)), (co, .inl (d2, 6, .inl fc)), (bn, .inl (d5, 3, .inl (fun _ => 0))), (rn, .inl (d6, 12, .inl fn)), (so, .inl (d7, 12, .inl (fun _ => 0))), (gk, .inl (d10, 360, .inl fk)), (gi, .inl (d11, 360, .inl (fun _ => 0))), (q2, .inl (cA3, 9, .inl (upd (upd (upd (upd (upd (fun _ => 0) 0 0) 1 6) 2 0) 3 0) 4 0)))] := hD
      refine lv_dup hx hb dX3_counted_94 rfl ?_
      refine lv_iconst (v := 5) hx hb dX3_counted_95 (by decide) ?_
      refine lv_iload_n hx hb dX3_counted_96 rfl (lv_at hl 2 rfl) ?_
      refine va_iast hx hb hK hP hD hS 9 7 rfl rfl (vp_in_nI (n := 5) (by decide) (by decide)) dX3_counted_97 (fun H locs hP hD hS => ?_)
      have hP : va_P (dC, dI) vwCl [(hm, .inr (3, [.int th, .int 6, .ref wi, .ref co, .ref sl, .ref rn, .ref so, .ref bn, .ref sm, .ref ah])), (sm, .inr (2, [.int 0, .ref gr, .ref gt, .ref gw, .ref gk, .ref gi, .ref gp, .ref go, .ref gg, .ref hm])), (wi, .inl (d1, 6, .inl fw)), (co, .inl (d2, 6, .inl fc)), (bn, .inl (d5, 3, .inl (fun _ => 0))), (rn, .inl (d6, 12, .inl fn)), (so, .inl (d7, 12, .inl (fun _ => 0))), (gk, .inl (d10, 360, .inl fk)), (gi, .inl (d11, 360, .inl (fun _ => 0))), (q2, .inl (cA3, 9, .inl (upd (upd (upd (upd (upd (upd (fun _ => 0) 0 0) 1 6) 2 0) 3 0) 4 0) 5 0)))] H := hP
      have hD : va_D A [(hm, .inr (3, [.int th, .int 6, .ref wi, .ref co, .ref sl, .ref rn, .ref so, .ref bn, .ref sm, .ref ah])), (sm, .inr (2, [.int 0, .ref gr, .ref gt, .ref gw, .ref gk, .ref gi, .ref gp, .ref go, .ref gg, .ref hm])), (wi, .inl (d1, 6, .inl fw)), (co, .inl (d2, 6, .inl fc)), (bn, .inl (d5, 3, .inl (fun _ => 0))), (rn, .inl (d6, 12, .inl fn)), (so, .inl (d7, 12, .inl (fun _ => 0))), (gk, .inl (d10, 360, .inl fk)), (gi, .inl (d11, 360, .inl (fun _ => 0))), (q2, .inl (cA3, 9, .inl (upd (upd (upd (upd (upd (upd (fun _ => 0) 0 0) 1 6) 2 0) 3 0) 4 0) 5 0)))] := hD
      refine lv_dup hx hb dX3_counted_98 rfl ?_
      refine lv_bipush (v := 6) hx hb dX3_counted_99 (by decide) ?_
      refine lv_iload_n hx hb dX3_counted_101 rfl (lv_at hl 3 rfl) ?_
      refine va_iast hx hb hK hP hD hS 9 7 rfl rfl (vp_in_nI (n := 6) (by decide) (by decide)) dX3_counted_102 (fun H locs hP hD hS => ?_)
      have hP : va_P (dC, dI) vwCl [(hm, .inr (3, [.int th, .int 6, .ref wi, .ref co, .ref sl, .ref rn, .ref so, .ref bn, .ref sm, .ref ah])), (sm, .inr (2, [.int 0, .ref gr, .ref gt, .ref gw, .ref gk, .ref gi, .ref gp, .ref go, .ref gg, .ref hm])), (wi, .inl (d1, 6, .inl fw)), (co, .inl (d2, 6, .inl fc)), (bn, .inl (d5, 3, .inl (fun _ => 0))), (rn, .inl (d6, 12, .inl fn)), (so, .inl (d7, 12, .inl (fun _ => 0))), (gk, .inl (d10, 360, .inl fk)), (gi, .inl (d11, 360, .inl (fun _ => 0))), (q2, .inl (cA3, 9, .inl (upd (upd (upd (upd (upd (upd (upd (fun _ => 0) 0 0) 1 6) 2 0) 3 0) 4 0) 5 0) 6 60)))] H := hP
      have hD : va_D A [(hm, .inr (3, [.int th, .int 6, .ref wi, .ref co, .ref sl, .ref rn, .ref so, .ref bn, .ref sm, .ref ah])), (sm, .inr (2, [.int 0, .ref gr, .ref gt, .ref gw, .ref gk, .ref gi, .ref gp, .ref go, .ref gg, .ref hm])), (wi, .inl (d1, 6, .inl fw)), (co, .inl (d2, 6, .inl fc)), (bn, .inl (d5, 3, .inl (fun _ => 0))), (rn, .inl (d6, 12, .inl fn)), (so, .inl (d7, 12, .inl (fun _ => 0))), (gk, .inl (d10, 360, .inl fk)), (gi, .inl (d11, 360, .inl (fun _ => 0))), (q2, .inl (cA3, 9, .inl (upd (upd (upd (upd (upd (upd (upd (fun _ => 0) 0 0) 1 6) 2 0) 3 0) 4 0) 5 0) 6 60)))] := hD
      refine lv_dup hx hb dX3_counted_103 rfl ?_
      refine lv_bipush (v := 7) hx hb dX3_counted_104 (by decide) ?_
      refine lv_aload_n hx hb dX3_counted_106 rfl (lv_at hl 0 rfl) ?_
      refine va_get (D := (dC, dI)) (ci := 3) (v := .ref rn) (C := RX3) (T := TX3) (N := 10) hx hb hts (by decide +kernel) hown hK hP 0 rfl rfl 5 (by decide) (hts (.fieldLink RX3 19 "ThatchRoofModel" "rain" "[I") (by decide +kernel)) (fun _ h9 => h9) rfl dX3_counted_107 ?_
      refine lv_aload_n hx hb dX3_counted_110 rfl (lv_at hl 0 rfl) ?_
      refine va_get (D := (dC, dI)) (ci := 3) (v := .ref sm) (C := RX3) (T := TX3) (N := 10) hx hb hts (by decide +kernel) hown hK hP 0 rfl rfl 8 (by decide) (hts (.fieldLink RX3 33 "ThatchRoofModel" "s" "LThatchRoofModel$State;") (by decide +kernel)) (fun _ h9 => h9) rfl dX3_counted_111 ?_
      refine va_getN (D := (dC, dI)) (ci := 2) (v := .int 0) (C := RX2) (T := TX2) (N := 10) hx hb hts (by decide +kernel) hown hK hP 1 rfl rfl 0 (by decide) (va_Nw.use rfl (zN_RX3_128 hZN)) (fun _ h9 => h9) rfl dX3_counted_114 ?_
      refine lv_bipush (v := 12) hx hb dX3_counted_117 (by decide) ?_
      refine lv_irem hx hb dX3_counted_119 (by decide) ?_
      refine W.eq (g2 := F0 m 120 ls [.int 0, .ref rn, .int 7, .ref q2, .ref q2]) rfl ?_
      refine va_iald hx hb hK hP 5 3 rfl rfl (vp_in_nI (n := 0) (by decide) (by decide)) dX3_counted_120 ?_
      refine lv_topi (fun x7 ex7 => ?_)
      obtain rfl : x7 = 4 := ex7.trans (hn 0 (by decide))
      refine va_iast hx hb hK hP hD hS 9 7 rfl rfl (vp_in_nI (n := 7) (by decide) (by decide)) dX3_counted_121 (fun H locs hP hD hS => ?_)
      have hP : va_P (dC, dI) vwCl [(hm, .inr (3, [.int th, .int 6, .ref wi, .ref co, .ref sl, .ref rn, .ref so, .ref bn, .ref sm, .ref ah])), (sm, .inr (2, [.int 0, .ref gr, .ref gt, .ref gw, .ref gk, .ref gi, .ref gp, .ref go, .ref gg, .ref hm])), (wi, .inl (d1, 6, .inl fw)), (co, .inl (d2, 6, .inl fc)), (bn, .inl (d5, 3, .inl (fun _ => 0))), (rn, .inl (d6, 12, .inl fn)), (so, .inl (d7, 12, .inl (fun _ => 0))), (gk, .inl (d10, 360, .inl fk)), (gi, .inl (d11, 360, .inl (fun _ => 0))), (q2, .inl (cA3, 9, .inl (upd (upd (upd (upd (upd (upd (upd (upd (fun _ => 0) 0 0) 1 6) 2 0) 3 0) 4 0) 5 0) 6 60) 7 4)))] H := hP
      have hD : va_D A [(hm, .inr (3, [.int th, .int 6, .ref wi, .ref co, .ref sl, .ref rn, .ref so, .ref bn, .ref sm, .ref ah])), (sm, .inr (2, [.int 0, .ref gr, .ref gt, .ref gw, .ref gk, .ref gi, .ref gp, .ref go, .ref gg, .ref hm])), (wi, .inl (d1, 6, .inl fw)), (co, .inl (d2, 6, .inl fc)), (bn, .inl (d5, 3, .inl (fun _ => 0))), (rn, .inl (d6, 12, .inl fn)), (so, .inl (d7, 12, .inl (fun _ => 0))), (gk, .inl (d10, 360, .inl fk)), (gi, .inl (d11, 360, .inl (fun _ => 0))), (q2, .inl (cA3, 9, .inl (upd (upd (upd (upd (upd (upd (upd (upd (fun _ => 0) 0 0) 1 6) 2 0) 3 0) 4 0) 5 0) 6 60) 7 4)))] := hD
      refine lv_dup hx hb dX3_counted_122 rfl ?_
      refine lv_bipush (v := 8) hx hb dX3_counted_123 (by decide) ?_
      refine lv_aload_n hx hb dX3_counted_125 rfl (lv_at hl 0 rfl) ?_
      refine va_get (D := (dC, dI)) (ci := 3) (v := .ref so) (C := RX3) (T := TX3) (N := 10) hx hb hts (by decide +kernel) hown hK hP 0 rfl rfl 6 (by decide) (hts (.fieldLink RX3 22 "ThatchRoofModel" "storm" "[I") (by decide +kernel)) (fun _ h9 => h9) rfl dX3_counted_126 ?_
      refine lv_aload_n hx hb dX3_counted_129 rfl (lv_at hl 0 rfl) ?_
      refine va_get (D := (dC, dI)) (ci := 3) (v := .ref sm) (C := RX3) (T := TX3) (N := 10) hx hb hts (by decide +kernel) hown hK hP 0 rfl rfl 8 (by decide) (hts (.fieldLink RX3 33 "ThatchRoofModel" "s" "LThatchRoofModel$State;") (by decide +kernel)) (fun _ h9 => h9) rfl dX3_counted_130 ?_
      refine va_getN (D := (dC, dI)) (ci := 2) (v := .int 0) (C := RX2) (T := TX2) (N := 10) hx hb hts (by decide +kernel) hown hK hP 1 rfl rfl 0 (by decide) (va_Nw.use rfl (zN_RX3_128 hZN)) (fun _ h9 => h9) rfl dX3_counted_133 ?_
      refine lv_bipush (v := 12) hx hb dX3_counted_136 (by decide) ?_
      refine lv_irem hx hb dX3_counted_138 (by decide) ?_
      refine W.eq (g2 := F0 m 139 ls [.int 0, .ref so, .int 8, .ref q2, .ref q2]) rfl ?_
      refine va_iald hx hb hK hP 6 4 rfl rfl (vp_in_nI (n := 0) (by decide) (by decide)) dX3_counted_139 ?_
      refine lv_topi (fun x8 ex8 => ?_)
      obtain rfl : x8 = 0 := ex8
      refine va_iast hx hb hK hP hD hS 9 7 rfl rfl (vp_in_nI (n := 8) (by decide) (by decide)) dX3_counted_140 (fun H locs hP hD hS => ?_)
      have hP : va_P (dC, dI) vwCl [(hm, .inr (3, [.int th, .int 6, .ref wi, .ref co, .ref sl, .ref rn, .ref so, .ref bn, .ref sm, .ref ah])), (sm, .inr (2, [.int 0, .ref gr, .ref gt, .ref gw, .ref gk, .ref gi, .ref gp, .ref go, .ref gg, .ref hm])), (wi, .inl (d1, 6, .inl fw)), (co, .inl (d2, 6, .inl fc)), (bn, .inl (d5, 3, .inl (fun _ => 0))), (rn, .inl (d6, 12, .inl fn)), (so, .inl (d7, 12, .inl (fun _ => 0))), (gk, .inl (d10, 360, .inl fk)), (gi, .inl (d11, 360, .inl (fun _ => 0))), (q2, .inl (cA3, 9, .inl (upd (upd (upd (upd (upd (upd (upd (upd (upd (fun _ => 0) 0 0) 1 6) 2 0) 3 0) 4 0) 5 0) 6 60) 7 4) 8 0)))] H := hP
      have hD : va_D A [(hm, .inr (3, [.int th, .int 6, .ref wi, .ref co, .ref sl, .ref rn, .ref so, .ref bn, .ref sm, .ref ah])), (sm, .inr (2, [.int 0, .ref gr, .ref gt, .ref gw, .ref gk, .ref gi, .ref gp, .ref go, .ref gg, .ref hm])), (wi, .inl (d1, 6, .inl fw)), (co, .inl (d2, 6, .inl fc)), (bn, .inl (d5, 3, .inl (fun _ => 0))), (rn, .inl (d6, 12, .inl fn)), (so, .inl (d7, 12, .inl (fun _ => 0))), (gk, .inl (d10, 360, .inl fk)), (gi, .inl (d11, 360, .inl (fun _ => 0))), (q2, .inl (cA3, 9, .inl (upd (upd (upd (upd (upd (upd (upd (upd (upd (fun _ => 0) 0 0) 1 6) 2 0) 3 0) 4 0) 5 0) 6 60) 7 4) 8 0)))] := hD
      refine lv_astore (lv' := [(4, .ref q2), (0, .ref hm), (1, .int 8), (2, .int 0), (3, .int 60)]) hx hb dX3_counted_141 hl (by decide) rfl (fun ls hl => ?_)
      refine lv_aload hx hb dX3_counted_143 (lv_at hl 0 rfl) ?_
      refine lv_iload_n hx hb dX3_counted_145 rfl (lv_at hl 2 rfl) ?_
      refine va_iald hx hb hK hP 9 7 rfl rfl (vp_in_nI (n := 8) (by decide) (by decide)) dX3_counted_146 ?_
      refine lv_topi (fun x9 ex9 => ?_)
      obtain rfl : x9 = 0 := ex9
      have hP9 := hP.sub (ws' := [(hm, .inr (3, [.int th, .int 6, .ref wi, .ref co, .ref sl, .ref rn, .ref so, .ref bn, .ref sm, .ref ah])), (sm, .inr (2, [.int 0, .ref gr, .ref gt, .ref gw, .ref gk, .ref gi, .ref gp, .ref go, .ref gg, .ref hm])), (wi, .inl (d1, 6, .inl fw)), (co, .inl (d2, 6, .inl fc)), (bn, .inl (d5, 3, .inl (fun _ => 0))), (rn, .inl (d6, 12, .inl fn)), (so, .inl (d7, 12, .inl (fun _ => 0))), (gk, .inl (d10, 360, .inl fk)), (gi, .inl (d11, 360, .inl (fun _ => 0)))]) [0, 1, 2, 3, 4, 5, 6, 7, 8] rfl
      have hD9 := hD.sub (ws' := [(hm, .inr (3, [.int th, .int 6, .ref wi, .ref co, .ref sl, .ref rn, .ref so, .ref bn, .ref sm, .ref ah])), (sm, .inr (2, [.int 0, .ref gr, .ref gt, .ref gw, .ref gk, .ref gi, .ref gp, .ref go, .ref gg, .ref hm])), (wi, .inl (d1, 6, .inl fw)), (co, .inl (d2, 6, .inl fc)), (bn, .inl (d5, 3, .inl (fun _ => 0))), (rn, .inl (d6, 12, .inl fn)), (so, .inl (d7, 12, .inl (fun _ => 0))), (gk, .inl (d10, 360, .inl fk)), (gi, .inl (d11, 360, .inl (fun _ => 0)))]) [0, 1, 2, 3, 4, 5, 6, 7, 8] (by decide) rfl
      have hK9 := hK.sub (tys' := []) [] rfl
      refine W.widen (k := 1) (n := 9) (Nat.le_of_ble_eq_true rfl) (Nat.le_of_ble_eq_true rfl) ?_
      have hZ := zz_one hAe hD hP 9 [0, 1, 2, 3, 4, 5, 6, 7, 8] rfl rfl (by decide)
      exact W.iret (v := 0) hx hb hr (fun t ht hW => ⟨⟨0, (), rfl, by (first | rfl | assumption | decide | (simp_all; done) | grind), ⟨by rw [ht]; exact hP9, va_K.moved hW.alike hK9, hD9, by rw [ht]; omega⟩⟩, hS.F ht⟩) hS.2.2 dX3_counted_147
    · have nc1 : i < 6 := Nat.lt_of_not_le (fun q => c1 ((nI_leI (a := 6) (b := i) (by omega) (by omega)).mpr q))
      refine lv_iload_n hx hb dX3_counted_16 rfl (lv_at hl 2 rfl) ?_
      refine lv_aload_n hx hb dX3_counted_17 rfl (lv_at hl 0 rfl) ?_
      refine va_get (D := (dC, dI)) (ci := 3) (v := .ref sm) (C := RX3) (T := TX3) (N := 10) hx hb hts (by decide +kernel) hown hK hP 0 rfl rfl 8 (by decide) (hts (.fieldLink RX3 33 "ThatchRoofModel" "s" "LThatchRoofModel$State;") (by decide +kernel)) (fun _ h9 => h9) rfl dX3_counted_18 ?_
      refine lv_iload hx hb dX3_counted_21 (lv_at hl 4 rfl) ?_
      have hPc := hP.sub (ws' := [(sm, .inr (2, [.int 0, .ref gr, .ref gt, .ref gw, .ref gk, .ref gi, .ref gp, .ref go, .ref gg, .ref hm])), (gk, .inl (d10, 360, .inl fk))]) [1, 7] rfl
      have hKc := hK.sub (tys' := [(d10, .int)]) [5] rfl
      refine vp_callSi (va_runV (As := [.int (nI i)]) (rest := [.int 0]) ⟨hx, hb, hml, hown, hts⟩ (r2_yealms l dC dI sm hm gr gt gw gk gi gp go gg d10 fk i (by first | assumption | decide | omega) (by first | assumption | decide | omega)) (cwV 1 hts gX3_counted_X2_yealms rfl rfl rfl (by decide +kernel) ⟨Nat.le_of_ble_eq_true rfl, Nat.le_of_ble_eq_true rfl⟩) ⟨fun a U g mk q => by obtain ⟨q0, qP, qK⟩ := q; exact ⟨q0, qP, va_K.moved (u := U) (U := U.calling g mk a) (Vm.Alike.refl U.vm) qK⟩, va_recv hKc hPc (ci := 2) (q0 := 0) rfl rfl, fun U hU hW => ⟨rfl, by rw [hU]; exact hPc, va_K.moved hW.alike hKc⟩⟩ rfl rfl hl.1 rfl (lv_room (Nat.le_of_ble_eq_true rfl)) dX3_counted_23 ⟨Nat.le_of_ble_eq_true rfl, Nat.le_of_ble_eq_true rfl⟩).run (fun r10 hr10 => ?_)
      obtain rfl := hr10
      refine lv_iadd hx hb dX3_counted_26 ?_
      refine W.eq (g2 := F0 m 27 ls [.int 0]) rfl ?_
      refine lv_istore_n (lv' := [(2, .int 0), (0, .ref hm), (1, .int 8), (3, .int (nI (10 * i))), (4, .int (nI i))]) hx hb dX3_counted_27 rfl hl (by decide) rfl (fun ls hl => ?_)
      refine lv_iload_n hx hb dX3_counted_28 rfl (lv_at hl 3 rfl) ?_
      refine lv_aload_n hx hb dX3_counted_29 rfl (lv_at hl 1 rfl) ?_
      refine va_get (D := (dC, dI)) (ci := 3) (v := .ref sm) (C := RX3) (T := TX3) (N := 10) hx hb hts (by decide +kernel) hown hK hP 0 rfl rfl 8 (by decide) (hts (.fieldLink RX3 33 "ThatchRoofModel" "s" "LThatchRoofModel$State;") (by decide +kernel)) (fun _ h9 => h9) rfl dX3_counted_30 ?_
      refine lv_iload hx hb dX3_counted_33 (lv_at hl 4 rfl) ?_
      have hPc := hP.sub (ws' := [(sm, .inr (2, [.int 0, .ref gr, .ref gt, .ref gw, .ref gk, .ref gi, .ref gp, .ref go, .ref gg, .ref hm])), (hm, .inr (3, [.int th, .int 6, .ref wi, .ref co, .ref sl, .ref rn, .ref so, .ref bn, .ref sm, .ref ah])), (wi, .inl (d1, 6, .inl fw)), (co, .inl (d2, 6, .inl fc)), (gk, .inl (d10, 360, .inl fk)), (gi, .inl (d11, 360, .inl (fun _ => 0)))]) [1, 0, 2, 3, 7, 8] rfl
      have hKc := hK.sub (tys' := [(d1, .int), (d2, .int), (d10, .int), (d11, .int)]) [0, 1, 5, 6] rfl
      refine vp_callSi (va_runV (As := [.int (nI i)]) (rest := [.int (nI (10 * i))]) ⟨hx, hb, hml, hown, hts⟩ (r2_leaks l dC dI hm wi co sl rn so bn sm ah th gr gt gw gk gi gp go gg d1 d2 d10 d11 fw fc fk i (by first | assumption | decide | omega) (by first | assumption | decide | omega) (by first | assumption | decide | omega) (by first | assumption | decide | omega)) (cwV 1 hts gX3_counted_X2_leaks rfl rfl rfl (by decide +kernel) ⟨Nat.le_of_ble_eq_true rfl, Nat.le_of_ble_eq_true rfl⟩) ⟨fun a U g mk q => by obtain ⟨q0, qP, qK, qN⟩ := q; exact ⟨q0, qP, va_K.moved (u := U) (U := U.calling g mk a) (Vm.Alike.refl U.vm) qK, zNs.calling qN⟩, va_recv hKc hPc (ci := 2) (q0 := 0) rfl rfl, fun U hU hW => ⟨rfl, by rw [hU]; exact hPc, va_K.moved hW.alike hKc, zNs.warm hW hZN⟩⟩ rfl rfl hl.1 rfl (lv_room (Nat.le_of_ble_eq_true rfl)) dX3_counted_35 ⟨Nat.le_of_ble_eq_true rfl, Nat.le_of_ble_eq_true rfl⟩).run (fun r11 hr11 => ?_)
      obtain rfl := hr11
      refine lv_iadd hx hb dX3_counted_38 ?_
      refine lv_topi (fun x12 ex12 => ?_)
      obtain rfl : x12 = nI ((10 * i) + 10) := ex12.trans (nI_add (10 * i) 10)
      refine lv_istore_n (lv' := [(3, .int (nI ((10 * i) + 10))), (2, .int 0), (0, .ref hm), (1, .int 8), (4, .int (nI i))]) hx hb dX3_counted_39 rfl hl (by decide) rfl (fun ls hl => ?_)
      refine lv_iinc (v := nI (i + 1)) (lv' := [(4, .int (nI (i + 1))), (3, .int (nI ((10 * i) + 10))), (2, .int 0), (0, .ref hm), (1, .int 8)]) hx hb dX3_counted_40 hl (k := 4) rfl (by exact nI_1 i) (by decide) rfl (fun ls hl => ?_)
      refine lv_goto (tgt := 7) hx hb dX3_counted_43 (by decide) ?_
      exact ih7 (i + 1) (by omega) (by omega) _ _ (hP.sub [0, 1, 2, 3, 4, 5, 6, 7, 8] rfl) (hD.sub [0, 1, 2, 3, 4, 5, 6, 7, 8] (by decide) rfl) hS _ (lv_sub hl [3, 4, 2, 1, 0] rfl)

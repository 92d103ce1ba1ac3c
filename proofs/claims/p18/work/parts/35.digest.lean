section
set_option maxHeartbeats 4000000 in
set_option maxRecDepth 100000 in
theorem r3_cell (l : Launch) (dC : Nat → ClassId) (dI : Nat → Nat → Nat) (ru : Nat) (cu : Nat) (pl : Nat) : Met l yX3_cell wsX3_cell ({ frames := 0, cells := 0, slots := 0, locals := 0 }) (va_Pc [.int (nI ru), .int (nI cu), .int (nI pl)] (fun _ => True)) (vp_Si (fun r : Int32 => r = nI (60 * ru + 10 * cu + pl))) 0 0 (fun _ => False) := by
  refine Met.ofW (cc := cX3_cell) (maxL := 3) (ret := (some .int)) (by decide) rfl ?_
  intro p e s m args below meth c s₁ B hml hv
  obtain ⟨rfl, -⟩ := hv
  have hx := B.exec
  have hb := B.bytes
  have hr := B.returns
  have hts := atoms_spec (ws := wsX3_cell) B.pre
  have hown : s.vm.findClass RX3 = some m.cls := findClass_of_methodNamed B.named
  have hlocks := B.notSynchronized
  have hl := lv_entry ([.int (nI ru), .int (nI cu), .int (nI pl)]) (n := 3) (Nat.le_of_ble_eq_true rfl)
  rw [lg_entry_eq]
  generalize (lg_sl ([.int (nI ru), .int (nI cu), .int (nI pl)]) ++ List.replicate (3 - (lg_sl ([.int (nI ru), .int (nI cu), .int (nI pl)])).length) Slot.unset).toArray = ls at hl ⊢
  have hl : lv_has ls 3 [(0, .int (nI ru)), (1, .int (nI cu)), (2, .int (nI pl))] := hl
  refine lv_bipush (v := 60) hx hb dX3_cell_0 (by decide) ?_
  refine lv_iload_n hx hb dX3_cell_2 rfl (lv_at hl 0 rfl) ?_
  refine lv_imul hx hb dX3_cell_3 ?_
  refine lv_topi (fun x1 ex1 => ?_)
  obtain rfl : x1 = nI (60 * ru) := ex1.trans (zN_mul 60 ru)
  refine lv_bipush (v := 10) hx hb dX3_cell_4 (by decide) ?_
  refine lv_iload_n hx hb dX3_cell_6 rfl (lv_at hl 1 rfl) ?_
  refine lv_imul hx hb dX3_cell_7 ?_
  refine lv_topi (fun x2 ex2 => ?_)
  obtain rfl : x2 = nI (10 * cu) := ex2.trans (zN_mul 10 cu)
  refine lv_iadd hx hb dX3_cell_8 ?_
  refine lv_topi (fun x3 ex3 => ?_)
  obtain rfl : x3 = nI ((60 * ru) + (10 * cu)) := ex3.trans (nI_add (60 * ru) (10 * cu))
  refine lv_iload_n hx hb dX3_cell_9 rfl (lv_at hl 2 rfl) ?_
  refine lv_iadd hx hb dX3_cell_10 ?_
  refine lv_topi (fun x4 ex4 => ?_)
  obtain rfl : x4 = nI ((((60 * ru) + (10 * cu))) + pl) := ex4.trans (nI_add (((60 * ru) + (10 * cu))) pl)
  exact W.iret (v := nI ((((60 * ru) + (10 * cu))) + pl)) hx hb hr (fun t ht hW => ⟨nI ((((60 * ru) + (10 * cu))) + pl), rfl, by (first | rfl | assumption | decide | (simp_all; done) | grind), ht⟩) (fun _ h => nomatch h) dX3_cell_11

set_option maxHeartbeats 4000000 in
set_option maxRecDepth 100000 in
theorem r2_isThere (l : Launch) (dC : Nat → ClassId) (dI : Nat → Nat → Nat) (sm : Nat) (hm : Nat) (gr : Nat) (gt : Nat) (gw : Nat) (gk : Nat) (gi : Nat) (gp : Nat) (go : Nat) (gg : Nat) (d10 : ClassId) (fk : Nat → Int32) (ru : Nat) (cu : Nat) (pl : Nat) (hk : ∀ j : Nat, j < 360 → fk j = -1) (hru : ru < 6) (hcu : cu < 6) (hpl : pl < 10) : Met l yX2_isThere wsX2_isThere ({ frames := 1, cells := 0, slots := 0, locals := 22 }) (va_Pc [.ref sm, .int (nI ru), .int (nI cu), .int (nI pl)] (fun U => va_P (dC, dI) vwCl [(sm, .inr (2, [.int 0, .ref gr, .ref gt, .ref gw, .ref gk, .ref gi, .ref gp, .ref go, .ref gg, .ref hm])), (gk, .inl (d10, 360, .inl fk))] U.heap ∧ va_K (dC, dI) vwCl [(d10, .int)] U ∧ zNs U)) (vp_Si (fun r : Int32 => r = 0)) 0 0 (fun _ => False) := by
  refine Met.ofW (cc := cX2_isThere) (maxL := 4) (ret := (some .boolean)) (by decide) rfl ?_
  intro p e s m args below meth c s₁ B hml hv
  obtain ⟨rfl, hP, hK, hZN⟩ := hv
  have hx := B.exec
  have hb := B.bytes
  have hr := B.returns
  have hts := atoms_spec (ws := wsX2_isThere) B.pre
  have hown : s.vm.findClass RX2 = some m.cls := findClass_of_methodNamed B.named
  have hlocks := B.notSynchronized
  have hP : va_P (dC, dI) vwCl [(sm, .inr (2, [.int 0, .ref gr, .ref gt, .ref gw, .ref gk, .ref gi, .ref gp, .ref go, .ref gg, .ref hm])), (gk, .inl (d10, 360, .inl fk))] s.heap := hP
  have hl := lv_entry ([.ref sm, .int (nI ru), .int (nI cu), .int (nI pl)]) (n := 4) (Nat.le_of_ble_eq_true rfl)
  rw [lg_entry_eq]
  generalize (lg_sl ([.ref sm, .int (nI ru), .int (nI cu), .int (nI pl)]) ++ List.replicate (4 - (lg_sl ([.ref sm, .int (nI ru), .int (nI cu), .int (nI pl)])).length) Slot.unset).toArray = ls at hl ⊢
  have hl : lv_has ls 4 [(0, .ref sm), (1, .int (nI ru)), (2, .int (nI cu)), (3, .int (nI pl))] := hl
  refine lv_aload_n hx hb dX2_isThere_0 rfl (lv_at hl 0 rfl) ?_
  refine va_get (D := (dC, dI)) (ci := 2) (v := .ref gk) (C := RX2) (T := TX2) (N := 10) hx hb hts (by decide +kernel) hown hK hP 0 rfl rfl 4 (by decide) (hts (.fieldLink RX2 25 "ThatchRoofModel$State" "kind" "[I") (by decide +kernel)) (fun _ h9 => h9) rfl dX2_isThere_1 ?_
  refine lv_iload_n hx hb dX2_isThere_4 rfl (lv_at hl 1 rfl) ?_
  refine lv_iload_n hx hb dX2_isThere_5 rfl (lv_at hl 2 rfl) ?_
  refine lv_iload_n hx hb dX2_isThere_6 rfl (lv_at hl 3 rfl) ?_
  refine vp_callSi (va_runSN (As := [.int (nI ru), .int (nI cu), .int (nI pl)]) (rest := [.ref gk]) ⟨hx, hb, hml, hown, hts⟩ (r3_cell l dC dI ru cu pl ) ⟨va_cnB 3 hts gX2_isThere_X3_cell_n55 rfl rfl rfl (zN_RX2_55 hZN) (hts (.initialized RX3) (by decide +kernel)) (by decide +kernel) ⟨Nat.le_of_ble_eq_true rfl, Nat.le_of_ble_eq_true rfl⟩, hts (.static yX3_cell) (by decide +kernel), trivial⟩ ⟨fun a U g mk q => q, fun U hU hW => ⟨rfl, trivial⟩⟩ rfl rfl hl.1 rfl (lv_room (Nat.le_of_ble_eq_true rfl)) dX2_isThere_7 ⟨Nat.le_of_ble_eq_true rfl, Nat.le_of_ble_eq_true rfl⟩).run (fun r1 hr1 => ?_)
  have evr1_0 := hr1
  rw [evr1_0]
  refine va_iald hx hb hK hP 1 0 rfl rfl (vp_in_nI (by omega) (by omega)) dX2_isThere_10 ?_
  refine lv_topi (fun x2 ex2 => ?_)
  rw [nI_clamp (show (60 * ru + 10 * cu + pl) < 2 ^ 31 by omega)] at ex2
  obtain rfl : x2 = (-1) := ex2.trans (hk _ (by omega))
  refine lv_iconst (v := (-1)) hx hb dX2_isThere_11 (by decide) ?_
  refine lv_icmp_eq (tgt := 19) hx hb dX2_isThere_12 (by decide) (fun c3 => ?_) (fun c3 => absurd c3 (by decide))
  refine lv_iconst (v := 0) hx hb dX2_isThere_19 (by decide) ?_
  exact W.zret (v := 0) hx hb hr (by decide) (fun t ht hW => ⟨0, rfl, by (first | rfl | assumption | decide | (simp_all; done) | grind), ht⟩) (fun _ h => nomatch h) dX2_isThere_20

set_option maxHeartbeats 4000000 in
set_option maxRecDepth 100000 in
theorem r2_isBare (l : Launch) (dC : Nat → ClassId) (dI : Nat → Nat → Nat) (sm : Nat) (hm : Nat) (gr : Nat) (gt : Nat) (gw : Nat) (gk : Nat) (gi : Nat) (gp : Nat) (go : Nat) (gg : Nat) (d10 : ClassId) (fk : Nat → Int32) (ru : Nat) (cu : Nat) (pl : Nat) (hk : ∀ j : Nat, j < 360 → fk j = -1) (hru : ru < 6) (hcu : cu < 6) (hpl : pl < 10) : Met l yX2_isBare wsX2_isBare ({ frames := 2, cells := 0, slots := 0, locals := 45 }) (va_Pc [.ref sm, .int (nI ru), .int (nI cu), .int (nI pl)] (fun U => va_P (dC, dI) vwCl [(sm, .inr (2, [.int 0, .ref gr, .ref gt, .ref gw, .ref gk, .ref gi, .ref gp, .ref go, .ref gg, .ref hm])), (gk, .inl (d10, 360, .inl fk))] U.heap ∧ va_K (dC, dI) vwCl [(d10, .int)] U ∧ zNs U)) (vp_Si (fun r : Int32 => r = 0)) 0 0 (fun _ => False) := by
  refine Met.ofW (cc := cX2_isBare) (maxL := 4) (ret := (some .boolean)) (by decide) rfl ?_
  intro p e s m args below meth c s₁ B hml hv
  obtain ⟨rfl, hP, hK, hZN⟩ := hv
  have hx := B.exec
  have hb := B.bytes
  have hr := B.returns
  have hts := atoms_spec (ws := wsX2_isBare) B.pre
  have hown : s.vm.findClass RX2 = some m.cls := findClass_of_methodNamed B.named
  have hlocks := B.notSynchronized
  have hP : va_P (dC, dI) vwCl [(sm, .inr (2, [.int 0, .ref gr, .ref gt, .ref gw, .ref gk, .ref gi, .ref gp, .ref go, .ref gg, .ref hm])), (gk, .inl (d10, 360, .inl fk))] s.heap := hP
  have hl := lv_entry ([.ref sm, .int (nI ru), .int (nI cu), .int (nI pl)]) (n := 4) (Nat.le_of_ble_eq_true rfl)
  rw [lg_entry_eq]
  generalize (lg_sl ([.ref sm, .int (nI ru), .int (nI cu), .int (nI pl)]) ++ List.replicate (4 - (lg_sl ([.ref sm, .int (nI ru), .int (nI cu), .int (nI pl)])).length) Slot.unset).toArray = ls at hl ⊢
  have hl : lv_has ls 4 [(0, .ref sm), (1, .int (nI ru)), (2, .int (nI cu)), (3, .int (nI pl))] := hl
  refine lv_aload_n hx hb dX2_isBare_0 rfl (lv_at hl 0 rfl) ?_
  refine lv_iload_n hx hb dX2_isBare_1 rfl (lv_at hl 1 rfl) ?_
  refine lv_iload_n hx hb dX2_isBare_2 rfl (lv_at hl 2 rfl) ?_
  refine lv_iload_n hx hb dX2_isBare_3 rfl (lv_at hl 3 rfl) ?_
  have hPc := hP.sub (ws' := [(sm, .inr (2, [.int 0, .ref gr, .ref gt, .ref gw, .ref gk, .ref gi, .ref gp, .ref go, .ref gg, .ref hm])), (gk, .inl (d10, 360, .inl fk))]) [0, 1] rfl
  have hKc := hK.sub (tys' := [(d10, .int)]) [0] rfl
  refine vp_callSi (va_runV (As := [.int (nI ru), .int (nI cu), .int (nI pl)]) (rest := []) ⟨hx, hb, hml, hown, hts⟩ (r2_isThere l dC dI sm hm gr gt gw gk gi gp go gg d10 fk ru cu pl (by first | assumption | decide | omega) (by first | assumption | decide | omega) (by first | assumption | decide | omega) (by first | assumption | decide | omega)) (cwV 3 hts gX2_isBare_X2_isThere rfl rfl rfl (by decide +kernel) ⟨Nat.le_of_ble_eq_true rfl, Nat.le_of_ble_eq_true rfl⟩) ⟨fun a U g mk q => by obtain ⟨q0, qP, qK, qN⟩ := q; exact ⟨q0, qP, va_K.moved (u := U) (U := U.calling g mk a) (Vm.Alike.refl U.vm) qK, zNs.calling qN⟩, va_recv hKc hPc (ci := 2) (q0 := 0) rfl rfl, fun U hU hW => ⟨rfl, by rw [hU]; exact hPc, va_K.moved hW.alike hKc, zNs.warm hW hZN⟩⟩ rfl rfl hl.1 rfl (lv_room (Nat.le_of_ble_eq_true rfl)) dX2_isBare_4 ⟨Nat.le_of_ble_eq_true rfl, Nat.le_of_ble_eq_true rfl⟩).run (fun r1 hr1 => ?_)
  obtain rfl := hr1
  refine lv_if_eq (tgt := 41) hx hb dX2_isBare_7 (by decide) (fun c2 => ?_) (fun c2 => absurd c2 (by decide))
  refine lv_iconst (v := 0) hx hb dX2_isBare_41 (by decide) ?_
  exact W.zret (v := 0) hx hb hr (by decide) (fun t ht hW => ⟨0, rfl, by (first | rfl | assumption | decide | (simp_all; done) | grind), ht⟩) (fun _ h => nomatch h) dX2_isBare_42

set_option maxHeartbeats 4000000 in
set_option maxRecDepth 100000 in
theorem r2_yealms (l : Launch) (dC : Nat → ClassId) (dI : Nat → Nat → Nat) (sm : Nat) (hm : Nat) (gr : Nat) (gt : Nat) (gw : Nat) (gk : Nat) (gi : Nat) (gp : Nat) (go : Nat) (gg : Nat) (d10 : ClassId) (fk : Nat → Int32) (ru : Nat) (hk : ∀ j : Nat, j < 360 → fk j = -1) (hru : ru < 6) : Met l yX2_yealms wsX2_yealms ({ frames := 0, cells := 0, slots := 0, locals := 0 }) (va_Pc [.ref sm, .int (nI ru)] (fun U => va_P (dC, dI) vwCl [(sm, .inr (2, [.int 0, .ref gr, .ref gt, .ref gw, .ref gk, .ref gi, .ref gp, .ref go, .ref gg, .ref hm])), (gk, .inl (d10, 360, .inl fk))] U.heap ∧ va_K (dC, dI) vwCl [(d10, .int)] U)) (vp_Si (fun r : Int32 => r = 0)) 0 0 (fun _ => False) := by
  refine Met.ofW (cc := cX2_yealms) (maxL := 4) (ret := (some .int)) (by decide) rfl ?_
  intro p e s m args below meth c s₁ B hml hv
  obtain ⟨rfl, hP, hK⟩ := hv
  have hx := B.exec
  have hb := B.bytes
  have hr := B.returns
  have hts := atoms_spec (ws := wsX2_yealms) B.pre
  have hown : s.vm.findClass RX2 = some m.cls := findClass_of_methodNamed B.named
  have hlocks := B.notSynchronized
  have hP : va_P (dC, dI) vwCl [(sm, .inr (2, [.int 0, .ref gr, .ref gt, .ref gw, .ref gk, .ref gi, .ref gp, .ref go, .ref gg, .ref hm])), (gk, .inl (d10, 360, .inl fk))] s.heap := hP
  have hl := lv_entry ([.ref sm, .int (nI ru)]) (n := 4) (Nat.le_of_ble_eq_true rfl)
  rw [lg_entry_eq]
  generalize (lg_sl ([.ref sm, .int (nI ru)]) ++ List.replicate (4 - (lg_sl ([.ref sm, .int (nI ru)])).length) Slot.unset).toArray = ls at hl ⊢
  have hl : lv_has ls 4 [(0, .ref sm), (1, .int (nI ru))] := hl
  refine lv_iconst (v := 0) hx hb dX2_yealms_0 (by decide) ?_
  refine lv_istore_n (lv' := [(2, .int 0), (0, .ref sm), (1, .int (nI ru))]) hx hb dX2_yealms_1 rfl hl (by decide) rfl (fun ls hl => ?_)
  refine lv_bipush (v := 60) hx hb dX2_yealms_2 (by decide) ?_
  refine lv_iload_n hx hb dX2_yealms_4 rfl (lv_at hl 2 rfl) ?_
  refine lv_imul hx hb dX2_yealms_5 ?_
  refine lv_topi (fun x1 ex1 => ?_)
  obtain rfl : x1 = nI (60 * ru) := ex1.trans (zN_mul 60 ru)
  refine lv_istore_n (lv' := [(3, .int (nI (60 * ru))), (2, .int 0), (0, .ref sm), (1, .int (nI ru))]) hx hb dX2_yealms_6 rfl hl (by decide) rfl (fun ls hl => ?_)
  suffices K7 : ∀ (n : Nat) (i : Nat), (60 * ru ≤ i) → (i ≤ 60 * ru + 60) → 60 * ru + 60 - i < n → ∀ ls : Array Slot, lv_has ls 4 [(0, .ref sm), (1, .int (nI ru)), (2, .int 0), (3, .int (nI i))] → W p l e ({ frames := 0, cells := 0, slots := 0, locals := 0 } : Room) s m (([.ref sm, .int (nI ru)] : List Value).toArray) below meth c s.heap [] 0 0 (MQ below (vp_Si (fun r : Int32 => r = 0)) (([.ref sm, .int (nI ru)] : List Value).toArray) s 0 0 (fun _ => False)) (F0 m 7 ls []) from
    K7 _ (60 * ru) (by omega) (by omega) (Nat.lt_succ_self _) _ (lv_sub hl [2, 3, 1, 0] rfl)
  intro n
  induction n with
  | zero =>
    intro i hi0 hi hn
    exact absurd hn (Nat.not_lt_zero _)
  | succ n ih7 =>
    intro i hi0 hi hn7 ls hl
    refine lv_iload_n hx hb dX2_yealms_7 rfl (lv_at hl 3 rfl) ?_
    refine lv_bipush (v := 60) hx hb dX2_yealms_8 (by decide) ?_
    refine lv_iload_n hx hb dX2_yealms_10 rfl (lv_at hl 1 rfl) ?_
    refine lv_imul hx hb dX2_yealms_11 ?_
    refine lv_topi (fun x2 ex2 => ?_)
    obtain rfl : x2 = nI (60 * ru) := ex2.trans (zN_mul 60 ru)
    refine lv_bipush (v := 60) hx hb dX2_yealms_12 (by decide) ?_
    refine lv_iadd hx hb dX2_yealms_14 ?_
    refine lv_topi (fun x3 ex3 => ?_)
    obtain rfl : x3 = nI ((60 * ru) + 60) := ex3.trans (nI_add (60 * ru) 60)
    refine lv_icmp_ge (tgt := 42) hx hb dX2_yealms_15 (by decide) (fun c4 => ?_) (fun c4 => ?_)
    · have nc4 : ((60 * ru) + 60) ≤ i := (nI_leI (a := ((60 * ru) + 60)) (b := i) (by omega) (by omega)).mp c4
      refine lv_iload_n hx hb dX2_yealms_42 rfl (lv_at hl 2 rfl) ?_
      exact W.iret (v := 0) hx hb hr (fun t ht hW => ⟨0, rfl, by (first | rfl | assumption | decide | (simp_all; done) | grind), ht⟩) (fun _ h => nomatch h) dX2_yealms_43
    · have nc4 : i < ((60 * ru) + 60) := Nat.lt_of_not_le (fun q => c4 ((nI_leI (a := ((60 * ru) + 60)) (b := i) (by omega) (by omega)).mpr q))
      refine lv_iload_n hx hb dX2_yealms_18 rfl (lv_at hl 2 rfl) ?_
      refine lv_aload_n hx hb dX2_yealms_19 rfl (lv_at hl 0 rfl) ?_
      refine va_get (D := (dC, dI)) (ci := 2) (v := .ref gk) (C := RX2) (T := TX2) (N := 10) hx hb hts (by decide +kernel) hown hK hP 0 rfl rfl 4 (by decide) (hts (.fieldLink RX2 25 "ThatchRoofModel$State" "kind" "[I") (by decide +kernel)) (fun _ h9 => h9) rfl dX2_yealms_20 ?_
      refine lv_iload_n hx hb dX2_yealms_23 rfl (lv_at hl 3 rfl) ?_
      refine va_iald hx hb hK hP 1 0 rfl rfl (vp_in_nI (by omega) (by omega)) dX2_yealms_24 ?_
      refine lv_topi (fun x5 ex5 => ?_)
      rw [nI_clamp (show i < 2 ^ 31 by omega)] at ex5
      obtain rfl : x5 = (-1) := ex5.trans (hk _ (by omega))
      refine lv_iconst (v := (-1)) hx hb dX2_yealms_25 (by decide) ?_
      refine lv_icmp_ne (tgt := 33) hx hb dX2_yealms_26 (by decide) (fun c6 => absurd c6 (by decide)) (fun c6 => ?_)
      refine lv_iconst (v := 0) hx hb dX2_yealms_29 (by decide) ?_
      refine lv_goto (tgt := 34) hx hb dX2_yealms_30 (by decide) ?_
      refine lv_iadd hx hb dX2_yealms_34 ?_
      refine W.eq (g2 := F0 m 35 ls [.int 0]) rfl ?_
      refine lv_istore_n (lv' := [(2, .int 0), (0, .ref sm), (1, .int (nI ru)), (3, .int (nI i))]) hx hb dX2_yealms_35 rfl hl (by decide) rfl (fun ls hl => ?_)
      refine lv_iinc (v := nI (i + 1)) (lv' := [(3, .int (nI (i + 1))), (2, .int 0), (0, .ref sm), (1, .int (nI ru))]) hx hb dX2_yealms_36 hl (k := 3) rfl (by exact nI_1 i) (by decide) rfl (fun ls hl => ?_)
      refine lv_goto (tgt := 7) hx hb dX2_yealms_39 (by decide) ?_
      exact ih7 (i + 1) (by omega) (by omega) (by omega) _ (lv_sub hl [2, 3, 1, 0] rfl)

set_option maxHeartbeats 4000000 in
set_option maxRecDepth 100000 in
theorem r2_thickness (l : Launch) (dC : Nat → ClassId) (dI : Nat → Nat → Nat) (sm : Nat) (hm : Nat) (gr : Nat) (gt : Nat) (gw : Nat) (gk : Nat) (gi : Nat) (gp : Nat) (go : Nat) (gg : Nat) (d11 : ClassId) (ru : Nat) (hru : ru < 6) : Met l yX2_thickness wsX2_thickness ({ frames := 0, cells := 0, slots := 0, locals := 0 }) (va_Pc [.ref sm, .int (nI ru)] (fun U => va_P (dC, dI) vwCl [(sm, .inr (2, [.int 0, .ref gr, .ref gt, .ref gw, .ref gk, .ref gi, .ref gp, .ref go, .ref gg, .ref hm])), (gi, .inl (d11, 360, .inl (fun _ => 0)))] U.heap ∧ va_K (dC, dI) vwCl [(d11, .int)] U)) (vp_Si (fun r : Int32 => r = 0)) 0 0 (fun _ => False) := by
  refine Met.ofW (cc := cX2_thickness) (maxL := 4) (ret := (some .int)) (by decide) rfl ?_
  intro p e s m args below meth c s₁ B hml hv
  obtain ⟨rfl, hP, hK⟩ := hv
  have hx := B.exec
  have hb := B.bytes
  have hr := B.returns
  have hts := atoms_spec (ws := wsX2_thickness) B.pre
  have hown : s.vm.findClass RX2 = some m.cls := findClass_of_methodNamed B.named
  have hlocks := B.notSynchronized
  have hP : va_P (dC, dI) vwCl [(sm, .inr (2, [.int 0, .ref gr, .ref gt, .ref gw, .ref gk, .ref gi, .ref gp, .ref go, .ref gg, .ref hm])), (gi, .inl (d11, 360, .inl (fun _ => 0)))] s.heap := hP
  have hl := lv_entry ([.ref sm, .int (nI ru)]) (n := 4) (Nat.le_of_ble_eq_true rfl)
  rw [lg_entry_eq]
  generalize (lg_sl ([.ref sm, .int (nI ru)]) ++ List.replicate (4 - (lg_sl ([.ref sm, .int (nI ru)])).length) Slot.unset).toArray = ls at hl ⊢
  have hl : lv_has ls 4 [(0, .ref sm), (1, .int (nI ru))] := hl
  refine lv_iconst (v := 0) hx hb dX2_thickness_0 (by decide) ?_
  refine lv_istore_n (lv' := [(2, .int 0), (0, .ref sm), (1, .int (nI ru))]) hx hb dX2_thickness_1 rfl hl (by decide) rfl (fun ls hl => ?_)
  refine lv_bipush (v := 60) hx hb dX2_thickness_2 (by decide) ?_
  refine lv_iload_n hx hb dX2_thickness_4 rfl (lv_at hl 2 rfl) ?_
  refine lv_imul hx hb dX2_thickness_5 ?_
  refine lv_topi (fun x1 ex1 => ?_)
  obtain rfl : x1 = nI (60 * ru) := ex1.trans (zN_mul 60 ru)
  refine lv_istore_n (lv' := [(3, .int (nI (60 * ru))), (2, .int 0), (0, .ref sm), (1, .int (nI ru))]) hx hb dX2_thickness_6 rfl hl (by decide) rfl (fun ls hl => ?_)
  suffices K7 : ∀ (n : Nat) (i : Nat), (60 * ru ≤ i) → (i ≤ 60 * ru + 60) → 60 * ru + 60 - i < n → ∀ ls : Array Slot, lv_has ls 4 [(0, .ref sm), (1, .int (nI ru)), (2, .int 0), (3, .int (nI i))] → W p l e ({ frames := 0, cells := 0, slots := 0, locals := 0 } : Room) s m (([.ref sm, .int (nI ru)] : List Value).toArray) below meth c s.heap [] 0 0 (MQ below (vp_Si (fun r : Int32 => r = 0)) (([.ref sm, .int (nI ru)] : List Value).toArray) s 0 0 (fun _ => False)) (F0 m 7 ls []) from
    K7 _ (60 * ru) (by omega) (by omega) (Nat.lt_succ_self _) _ (lv_sub hl [2, 3, 1, 0] rfl)
  intro n
  induction n with
  | zero =>
    intro i hi0 hi hn
    exact absurd hn (Nat.not_lt_zero _)
  | succ n ih7 =>
    intro i hi0 hi hn7 ls hl
    refine lv_iload_n hx hb dX2_thickness_7 rfl (lv_at hl 3 rfl) ?_
    refine lv_bipush (v := 60) hx hb dX2_thickness_8 (by decide) ?_
    refine lv_iload_n hx hb dX2_thickness_10 rfl (lv_at hl 1 rfl) ?_
    refine lv_imul hx hb dX2_thickness_11 ?_
    refine lv_topi (fun x2 ex2 => ?_)
    obtain rfl : x2 = nI (60 * ru) := ex2.trans (zN_mul 60 ru)
    refine lv_bipush (v := 60) hx hb dX2_thickness_12 (by decide) ?_
    refine lv_iadd hx hb dX2_thickness_14 ?_
    refine lv_topi (fun x3 ex3 => ?_)
    obtain rfl : x3 = nI ((60 * ru) + 60) := ex3.trans (nI_add (60 * ru) 60)
    refine lv_icmp_ge (tgt := 33) hx hb dX2_thickness_15 (by decide) (fun c4 => ?_) (fun c4 => ?_)
    · have nc4 : ((60 * ru) + 60) ≤ i := (nI_leI (a := ((60 * ru) + 60)) (b := i) (by omega) (by omega)).mp c4
      refine lv_iload_n hx hb dX2_thickness_33 rfl (lv_at hl 2 rfl) ?_
      exact W.iret (v := 0) hx hb hr (fun t ht hW => ⟨0, rfl, by (first | rfl | assumption | decide | (simp_all; done) | grind), ht⟩) (fun _ h => nomatch h) dX2_thickness_34
    · have nc4 : i < ((60 * ru) + 60) := Nat.lt_of_not_le (fun q => c4 ((nI_leI (a := ((60 * ru) + 60)) (b := i) (by omega) (by omega)).mpr q))
      refine lv_iload_n hx hb dX2_thickness_18 rfl (lv_at hl 2 rfl) ?_
      refine lv_aload_n hx hb dX2_thickness_19 rfl (lv_at hl 0 rfl) ?_
      refine va_get (D := (dC, dI)) (ci := 2) (v := .ref gi) (C := RX2) (T := TX2) (N := 10) hx hb hts (by decide +kernel) hown hK hP 0 rfl rfl 5 (by decide) (hts (.fieldLink RX2 28 "ThatchRoofModel$State" "thick" "[I") (by decide +kernel)) (fun _ h9 => h9) rfl dX2_thickness_20 ?_
      refine lv_iload_n hx hb dX2_thickness_23 rfl (lv_at hl 3 rfl) ?_
      refine va_iald hx hb hK hP 1 0 rfl rfl (vp_in_nI (by omega) (by omega)) dX2_thickness_24 ?_
      refine lv_topi (fun x5 ex5 => ?_)
      obtain rfl : x5 = 0 := ex5
      refine lv_iadd hx hb dX2_thickness_25 ?_
      refine W.eq (g2 := F0 m 26 ls [.int 0]) rfl ?_
      refine lv_istore_n (lv' := [(2, .int 0), (0, .ref sm), (1, .int (nI ru)), (3, .int (nI i))]) hx hb dX2_thickness_26 rfl hl (by decide) rfl (fun ls hl => ?_)
      refine lv_iinc (v := nI (i + 1)) (lv' := [(3, .int (nI (i + 1))), (2, .int 0), (0, .ref sm), (1, .int (nI ru))]) hx hb dX2_thickness_27 hl (k := 3) rfl (by exact nI_1 i) (by decide) rfl (fun ls hl => ?_)
      refine lv_goto (tgt := 7) hx hb dX2_thickness_30 (by decide) ?_
      exact ih7 (i + 1) (by omega) (by omega) (by omega) _ (lv_sub hl [2, 3, 1, 0] rfl)

set_option maxHeartbeats 4000000 in
set_option maxRecDepth 100000 in
theorem r2_leaks (l : Launch) (dC : Nat → ClassId) (dI : Nat → Nat → Nat) (hm : Nat) (wi : Nat) (co : Nat) (sl : Nat) (rn : Nat) (so : Nat) (bn : Nat) (sm : Nat) (ah : Nat) (th : Int32) (gr : Nat) (gt : Nat) (gw : Nat) (gk : Nat) (gi : Nat) (gp : Nat) (go : Nat) (gg : Nat) (d1 : ClassId) (d2 : ClassId) (d10 : ClassId) (d11 : ClassId) (fw : Nat → Int32) (fc : Nat → Int32) (fk : Nat → Int32) (ru : Nat) (hk : ∀ j : Nat, j < 360 → fk j = -1) (hw : ∀ j : Nat, j < 6 → fw j = 10) (hc : ∀ j : Nat, j < 6 → fc j = 6) (hru : ru < 6) : Met l yX2_leaks wsX2_leaks ({ frames := 1, cells := 0, slots := 0, locals := 22 }) (va_Pc [.ref sm, .int (nI ru)] (fun U => va_P (dC, dI) vwCl [(sm, .inr (2, [.int 0, .ref gr, .ref gt, .ref gw, .ref gk, .ref gi, .ref gp, .ref go, .ref gg, .ref hm])), (hm, .inr (3, [.int th, .int 6, .ref wi, .ref co, .ref sl, .ref rn, .ref so, .ref bn, .ref sm, .ref ah])), (wi, .inl (d1, 6, .inl fw)), (co, .inl (d2, 6, .inl fc)), (gk, .inl (d10, 360, .inl fk)), (gi, .inl (d11, 360, .inl (fun _ => 0)))] U.heap ∧ va_K (dC, dI) vwCl [(d1, .int), (d2, .int), (d10, .int), (d11, .int)] U ∧ zNs U)) (vp_Si (fun r : Int32 => True)) 0 0 (fun _ => False) := by
  refine Met.ofW (cc := cX2_leaks) (maxL := 6) (ret := (some .int)) (by decide) rfl ?_
  intro p e s m args below meth c s₁ B hml hv
  obtain ⟨rfl, hP, hK, hZN⟩ := hv
  have hx := B.exec
  have hb := B.bytes
  have hr := B.returns
  have hts := atoms_spec (ws := wsX2_leaks) B.pre
  have hown : s.vm.findClass RX2 = some m.cls := findClass_of_methodNamed B.named
  have hlocks := B.notSynchronized
  have hP : va_P (dC, dI) vwCl [(sm, .inr (2, [.int 0, .ref gr, .ref gt, .ref gw, .ref gk, .ref gi, .ref gp, .ref go, .ref gg, .ref hm])), (hm, .inr (3, [.int th, .int 6, .ref wi, .ref co, .ref sl, .ref rn, .ref so, .ref bn, .ref sm, .ref ah])), (wi, .inl (d1, 6, .inl fw)), (co, .inl (d2, 6, .inl fc)), (gk, .inl (d10, 360, .inl fk)), (gi, .inl (d11, 360, .inl (fun _ => 0)))] s.heap := hP
  have hl := lv_entry ([.ref sm, .int (nI ru)]) (n := 6) (Nat.le_of_ble_eq_true rfl)
  rw [lg_entry_eq]
  generalize (lg_sl ([.ref sm, .int (nI ru)]) ++ List.replicate (6 - (lg_sl ([.ref sm, .int (nI ru)])).length) Slot.unset).toArray = ls at hl ⊢
  have hl : lv_has ls 6 [(0, .ref sm), (1, .int (nI ru))] := hl
  refine lv_iconst (v := 0) hx hb dX2_leaks_0 (by decide) ?_
  refine lv_istore_n (lv' := [(2, .int 0), (0, .ref sm), (1, .int (nI ru))]) hx hb dX2_leaks_1 rfl hl (by decide) rfl (fun ls hl => ?_)
  refine lv_iconst (v := 0) hx hb dX2_leaks_2 (by decide) ?_
  refine lv_istore_n (lv' := [(3, .int 0), (2, .int 0), (0, .ref sm), (1, .int (nI ru))]) hx hb dX2_leaks_3 rfl hl (by decide) rfl (fun ls hl => ?_)
  suffices K4 : ∀ (n : Nat) (j : Nat), (j ≤ 10) → 10 - j < n → ∀ ls : Array Slot, lv_has ls 6 [(0, .ref sm), (1, .int (nI ru)), (2, .int (nI j)), (3, .int (nI j))] → W p l e ({ frames := 1, cells := 0, slots := 0, locals := 22 } : Room) s m (([.ref sm, .int (nI ru)] : List Value).toArray) below meth c s.heap [] 0 0 (MQ below (vp_Si (fun r : Int32 => True)) (([.ref sm, .int (nI ru)] : List Value).toArray) s 0 0 (fun _ => False)) (F0 m 4 ls []) from
    K4 _ 0 (by decide) (Nat.lt_succ_self _) _ (lv_sub hl [2, 3, 1, 0] rfl)
  intro n
  induction n with
  | zero =>
    intro j hj hn
    exact absurd hn (Nat.not_lt_zero _)
  | succ n ih4 =>
    intro j hj hn4 ls hl
    refine lv_iload_n hx hb dX2_leaks_4 rfl (lv_at hl 3 rfl) ?_
    refine lv_aload_n hx hb dX2_leaks_5 rfl (lv_at hl 0 rfl) ?_
    refine va_get (D := (dC, dI)) (ci := 2) (v := .ref hm) (C := RX2) (T := TX2) (N := 10) hx hb hts (by decide +kernel) hown hK hP 0 rfl rfl 9 (by decide) (hts (.fieldLink RX2 3 "ThatchRoofModel$State" "this$0" "LThatchRoofModel;") (by decide +kernel)) (fun _ h9 => h9) rfl dX2_leaks_6 ?_
    refine va_getN (D := (dC, dI)) (ci := 3) (v := .ref wi) (C := RX3) (T := TX3) (N := 10) hx hb hts (by decide +kernel) hown hK hP 1 rfl rfl 2 (by decide) (va_Nw.use rfl (zN_RX2_78 hZN)) (fun _ h9 => h9) rfl dX2_leaks_9 ?_
    refine lv_iload_n hx hb dX2_leaks_12 rfl (lv_at hl 1 rfl) ?_
    refine va_iald hx hb hK hP 2 0 rfl rfl (vp_in_nI (by omega) (by omega)) dX2_leaks_13 ?_
    refine lv_topi (fun x1 ex1 => ?_)
    rw [nI_clamp (show ru < 2 ^ 31 by omega)] at ex1
    obtain rfl : x1 = 10 := ex1.trans (hw _ (by omega))
    refine lv_icmp_ge (tgt := 111) hx hb dX2_leaks_14 (by decide) (fun c2 => ?_) (fun c2 => ?_)
    · have nc2 : 10 ≤ j := (nI_leI (a := 10) (b := j) (by omega) (by omega)).mp c2
      refine lv_iload_n hx hb dX2_leaks_111 rfl (lv_at hl 2 rfl) ?_
      exact W.iret (v := nI j) hx hb hr (fun t ht hW => ⟨nI j, rfl, by exact trivial, ht⟩) (fun _ h => nomatch h) dX2_leaks_112
    · have nc2 : j < 10 := Nat.lt_of_not_le (fun q => c2 ((nI_leI (a := 10) (b := j) (by omega) (by omega)).mpr q))
      refine lv_iconst (v := 0) hx hb dX2_leaks_17 (by decide) ?_
      refine lv_istore (lv' := [(4, .int 0), (0, .ref sm), (1, .int (nI ru)), (2, .int (nI j)), (3, .int (nI j))]) hx hb dX2_leaks_18 hl (by decide) rfl (fun ls hl => ?_)
      refine lv_iconst (v := 0) hx hb dX2_leaks_20 (by decide) ?_
      refine lv_istore (lv' := [(5, .int 0), (4, .int 0), (0, .ref sm), (1, .int (nI ru)), (2, .int (nI j)), (3, .int (nI j))]) hx hb dX2_leaks_21 hl (by decide) rfl (fun ls hl => ?_)
      suffices K23 : ∀ (n : Nat) (i : Nat), (i ≤ 6) → 6 - i < n → ∀ ls : Array Slot, lv_has ls 6 [(0, .ref sm), (1, .int (nI ru)), (2, .int (nI j)), (3, .int (nI j)), (4, .int 0), (5, .int (nI i))] → W p l e ({ frames := 1, cells := 0, slots := 0, locals := 22 } : Room) s m (([.ref sm, .int (nI ru)] : List Value).toArray) below meth c s.heap [] 0 0 (MQ below (vp_Si (fun r : Int32 => True)) (([.ref sm, .int (nI ru)] : List Value).toArray) s 0 0 (fun _ => False)) (F0 m 23 ls []) from
        K23 _ 0 (by decide) (Nat.lt_succ_self _) _ (lv_sub hl [2, 3, 4, 5, 1, 0] rfl)
      intro n
      induction n with
      | zero =>
        intro i hi hn
        exact absurd hn (Nat.not_lt_zero _)
      | succ n ih23 =>
        intro i hi hn23 ls hl
        refine lv_iload hx hb dX2_leaks_23 (lv_at hl 5 rfl) ?_
        refine lv_aload_n hx hb dX2_leaks_25 rfl (lv_at hl 0 rfl) ?_
        refine va_get (D := (dC, dI)) (ci := 2) (v := .ref hm) (C := RX2) (T := TX2) (N := 10) hx hb hts (by decide +kernel) hown hK hP 0 rfl rfl 9 (by decide) (hts (.fieldLink RX2 3 "ThatchRoofModel$State" "this$0" "LThatchRoofModel;") (by decide +kernel)) (fun _ h9 => h9) rfl dX2_leaks_26 ?_
        refine va_getN (D := (dC, dI)) (ci := 3) (v := .ref co) (C := RX3) (T := TX3) (N := 10) hx hb hts (by decide +kernel) hown hK hP 1 rfl rfl 3 (by decide) (va_Nw.use rfl (zN_RX2_63 hZN)) (fun _ h9 => h9) rfl dX2_leaks_29 ?_
        refine lv_iload_n hx hb dX2_leaks_32 rfl (lv_at hl 1 rfl) ?_
        refine va_iald hx hb hK hP 3 1 rfl rfl (vp_in_nI (by omega) (by omega)) dX2_leaks_33 ?_
        refine lv_topi (fun x3 ex3 => ?_)
        rw [nI_clamp (show ru < 2 ^ 31 by omega)] at ex3
        obtain rfl : x3 = 6 := ex3.trans (hc _ (by omega))
        refine lv_icmp_ge (tgt := 60) hx hb dX2_leaks_34 (by decide) (fun c4 => ?_) (fun c4 => ?_)
        · have nc4 : 6 ≤ i := (nI_leI (a := 6) (b := i) (by omega) (by omega)).mp c4
          refine lv_iload_n hx hb dX2_leaks_60 rfl (lv_at hl 2 rfl) ?_
          refine lv_iload hx hb dX2_leaks_61 (lv_at hl 4 rfl) ?_
          refine lv_bipush (v := 8) hx hb dX2_leaks_63 (by decide) ?_
          refine lv_aload_n hx hb dX2_leaks_65 rfl (lv_at hl 0 rfl) ?_
          refine va_get (D := (dC, dI)) (ci := 2) (v := .ref hm) (C := RX2) (T := TX2) (N := 10) hx hb hts (by decide +kernel) hown hK hP 0 rfl rfl 9 (by decide) (hts (.fieldLink RX2 3 "ThatchRoofModel$State" "this$0" "LThatchRoofModel;") (by decide +kernel)) (fun _ h9 => h9) rfl dX2_leaks_66 ?_
          refine va_getN (D := (dC, dI)) (ci := 3) (v := .ref co) (C := RX3) (T := TX3) (N := 10) hx hb hts (by decide +kernel) hown hK hP 1 rfl rfl 3 (by decide) (va_Nw.use rfl (zN_RX2_63 hZN)) (fun _ h9 => h9) rfl dX2_leaks_69 ?_
          refine lv_iload_n hx hb dX2_leaks_72 rfl (lv_at hl 1 rfl) ?_
          refine va_iald hx hb hK hP 3 1 rfl rfl (vp_in_nI (by omega) (by omega)) dX2_leaks_73 ?_
          refine lv_topi (fun x5 ex5 => ?_)
          rw [nI_clamp (show ru < 2 ^ 31 by omega)] at ex5
          obtain rfl : x5 = 6 := ex5.trans (hc _ (by omega))
          refine lv_imul hx hb dX2_leaks_74 ?_
          refine W.eq (g2 := F0 m 75 ls [.int 48, .int 0, .int (nI j)]) rfl ?_
          refine lv_icmp_lt (tgt := 98) hx hb dX2_leaks_75 (by decide) (fun c6 => ?_) (fun c6 => absurd c6 (by decide))
          refine lv_iconst (v := 1) hx hb dX2_leaks_98 (by decide) ?_
          refine lv_goto (tgt := 103) hx hb dX2_leaks_99 (by decide) ?_
          refine lv_iadd hx hb dX2_leaks_103 ?_
          refine lv_topi (fun x7 ex7 => ?_)
          obtain rfl : x7 = nI (j + 1) := ex7.trans (nI_add j 1)
          refine lv_istore_n (lv' := [(2, .int (nI (j + 1))), (0, .ref sm), (1, .int (nI ru)), (3, .int (nI j)), (4, .int 0), (5, .int (nI i))]) hx hb dX2_leaks_104 rfl hl (by decide) rfl (fun ls hl => ?_)
          refine lv_iinc (v := nI (j + 1)) (lv' := [(3, .int (nI (j + 1))), (2, .int (nI (j + 1))), (0, .ref sm), (1, .int (nI ru)), (4, .int 0), (5, .int (nI i))]) hx hb dX2_leaks_105 hl (k := 3) rfl (by exact nI_1 j) (by decide) rfl (fun ls hl => ?_)
          refine lv_goto (tgt := 4) hx hb dX2_leaks_108 (by decide) ?_
          exact ih4 (j + 1) (by omega) (by omega) _ (lv_sub hl [2, 3, 1, 0] rfl)
        · have nc4 : i < 6 := Nat.lt_of_not_le (fun q => c4 ((nI_leI (a := 6) (b := i) (by omega) (by omega)).mpr q))
          refine lv_iload hx hb dX2_leaks_37 (lv_at hl 4 rfl) ?_
          refine lv_aload_n hx hb dX2_leaks_39 rfl (lv_at hl 0 rfl) ?_
          refine va_get (D := (dC, dI)) (ci := 2) (v := .ref gi) (C := RX2) (T := TX2) (N := 10) hx hb hts (by decide +kernel) hown hK hP 0 rfl rfl 5 (by decide) (hts (.fieldLink RX2 28 "ThatchRoofModel$State" "thick" "[I") (by decide +kernel)) (fun _ h9 => h9) rfl dX2_leaks_40 ?_
          refine lv_iload_n hx hb dX2_leaks_43 rfl (lv_at hl 1 rfl) ?_
          refine lv_iload hx hb dX2_leaks_44 (lv_at hl 5 rfl) ?_
          refine lv_iload_n hx hb dX2_leaks_46 rfl (lv_at hl 3 rfl) ?_
          refine vp_callSi (va_runSN (As := [.int (nI ru), .int (nI i), .int (nI j)]) (rest := [.ref gi, .int 0]) ⟨hx, hb, hml, hown, hts⟩ (r3_cell l dC dI ru i j ) ⟨va_cnB 3 hts gX2_leaks_X3_cell_n55 rfl rfl rfl (zN_RX2_55 hZN) (hts (.initialized RX3) (by decide +kernel)) (by decide +kernel) ⟨Nat.le_of_ble_eq_true rfl, Nat.le_of_ble_eq_true rfl⟩, hts (.static yX3_cell) (by decide +kernel), trivial⟩ ⟨fun a U g mk q => q, fun U hU hW => ⟨rfl, trivial⟩⟩ rfl rfl hl.1 rfl (lv_room (Nat.le_of_ble_eq_true rfl)) dX2_leaks_47 ⟨Nat.le_of_ble_eq_true rfl, Nat.le_of_ble_eq_true rfl⟩).run (fun r8 hr8 => ?_)
          have evr8_0 := hr8
          rw [evr8_0]
          refine va_iald hx hb hK hP 5 3 rfl rfl (vp_in_nI (by omega) (by omega)) dX2_leaks_50 ?_
          refine lv_topi (fun x9 ex9 => ?_)
          obtain rfl : x9 = 0 := ex9
          refine lv_iadd hx hb dX2_leaks_51 ?_
          refine W.eq (g2 := F0 m 52 ls [.int 0]) rfl ?_
          refine lv_istore (lv' := [(4, .int 0), (0, .ref sm), (1, .int (nI ru)), (2, .int (nI j)), (3, .int (nI j)), (5, .int (nI i))]) hx hb dX2_leaks_52 hl (by decide) rfl (fun ls hl => ?_)
          refine lv_iinc (v := nI (i + 1)) (lv' := [(5, .int (nI (i + 1))), (4, .int 0), (0, .ref sm), (1, .int (nI ru)), (2, .int (nI j)), (3, .int (nI j))]) hx hb dX2_leaks_54 hl (k := 5) rfl (by exact nI_1 i) (by decide) rfl (fun ls hl => ?_)
          refine lv_goto (tgt := 23) hx hb dX2_leaks_57 (by decide) ?_
          exact ih23 (i + 1) (by omega) (by omega) _ (lv_sub hl [2, 3, 4, 5, 1, 0] rfl)

set_option maxHeartbeats 4000000 in
set_option maxRecDepth 100000 in
theorem r3_yealmTold (l : Launch) (dC : Nat → ClassId) (dI : Nat → Nat → Nat) (sz : Nat) (hm : Nat) (wi : Nat) (co : Nat) (sl : Nat) (rn : Nat) (so : Nat) (bn : Nat) (sm : Nat) (ah : Nat) (th : Int32) (gr : Nat) (gt : Nat) (gw : Nat) (gk : Nat) (gi : Nat) (gp : Nat) (go : Nat) (gg : Nat) (d10 : ClassId) (d11 : ClassId) (d12 : ClassId) (d13 : ClassId) (fk : Nat → Int32) (fp : Nat → Int32) (fo : Nat → Int32) (ru : Nat) (cu : Nat) (pl : Nat) (w : Int32) (hk : ∀ j : Nat, j < 360 → fk j = -1) (hru : ru < 6) (hcu : cu < 6) (hpl : pl < 10) (hw5 : zIn w 0 5) : Met l yX3_yealmTold wsX3_yealmTold ({ frames := 3, cells := 1, slots := 6, locals := 68 }) (va_Pc [.ref hm, .int (nI ru), .int (nI cu), .int (nI pl), .int w] (fun U => U.heap.size = sz ∧ va_P (dC, dI) vwCl [(hm, .inr (3, [.int th, .int 6, .ref wi, .ref co, .ref sl, .ref rn, .ref so, .ref bn, .ref sm, .ref ah])), (sm, .inr (2, [.int 0, .ref gr, .ref gt, .ref gw, .ref gk, .ref gi, .ref gp, .ref go, .ref gg, .ref hm])), (gk, .inl (d10, 360, .inl fk)), (gi, .inl (d11, 360, .inl (fun _ => 0))), (gp, .inl (d12, 360, .inl fp)), (go, .inl (d13, 360, .inl fo))] U.heap ∧ va_K (dC, dI) vwCl [(d10, .int), (d11, .int), (d12, .int), (d13, .int)] U ∧ va_D (fun _ => True) [(hm, .inr (3, [.int th, .int 6, .ref wi, .ref co, .ref sl, .ref rn, .ref so, .ref bn, .ref sm, .ref ah])), (sm, .inr (2, [.int 0, .ref gr, .ref gt, .ref gw, .ref gk, .ref gi, .ref gp, .ref go, .ref gg, .ref hm])), (gk, .inl (d10, 360, .inl fk)), (gi, .inl (d11, 360, .inl (fun _ => 0))), (gp, .inl (d12, 360, .inl fp)), (go, .inl (d13, 360, .inl fo))] ∧ zNs U)) (va_Qi (fun (r : Int32) (u : Unit) => True) (fun (u : Unit) (t : State) => va_P (dC, dI) vwCl [(hm, .inr (3, [.int th, .int 6, .ref wi, .ref co, .ref sl, .ref rn, .ref so, .ref bn, .ref sm, .ref ah])), (sm, .inr (2, [.int 0, .ref gr, .ref gt, .ref gw, .ref gk, .ref gi, .ref gp, .ref go, .ref gg, .ref hm])), (gk, .inl (d10, 360, .inl fk)), (gi, .inl (d11, 360, .inl (fun _ => 0))), (gp, .inl (d12, 360, .inl fp)), (go, .inl (d13, 360, .inl fo))] t.heap ∧ va_K (dC, dI) vwCl [] t ∧ va_D (va_A [(hm, .inr (3, [.int th, .int 6, .ref wi, .ref co, .ref sl, .ref rn, .ref so, .ref bn, .ref sm, .ref ah])), (sm, .inr (2, [.int 0, .ref gr, .ref gt, .ref gw, .ref gk, .ref gi, .ref gp, .ref go, .ref gg, .ref hm])), (gk, .inl (d10, 360, .inl fk)), (gi, .inl (d11, 360, .inl (fun _ => 0))), (gp, .inl (d12, 360, .inl fp)), (go, .inl (d13, 360, .inl fo))] sz) [(hm, .inr (3, [.int th, .int 6, .ref wi, .ref co, .ref sl, .ref rn, .ref so, .ref bn, .ref sm, .ref ah])), (sm, .inr (2, [.int 0, .ref gr, .ref gt, .ref gw, .ref gk, .ref gi, .ref gp, .ref go, .ref gg, .ref hm])), (gk, .inl (d10, 360, .inl fk)), (gi, .inl (d11, 360, .inl (fun _ => 0))), (gp, .inl (d12, 360, .inl fp)), (go, .inl (d13, 360, .inl fo))] ∧ sz + 1 ≤ t.heap.size) (va_A [(hm, .inr (3, [.int th, .int 6, .ref wi, .ref co, .ref sl, .ref rn, .ref so, .ref bn, .ref sm, .ref ah])), (sm, .inr (2, [.int 0, .ref gr, .ref gt, .ref gw, .ref gk, .ref gi, .ref gp, .ref go, .ref gg, .ref hm])), (gk, .inl (d10, 360, .inl fk)), (gi, .inl (d11, 360, .inl (fun _ => 0))), (gp, .inl (d12, 360, .inl fp)), (go, .inl (d13, 360, .inl fo))] sz)) 1 6 (va_A [(hm, .inr (3, [.int th, .int 6, .ref wi, .ref co, .ref sl, .ref rn, .ref so, .ref bn, .ref sm, .ref ah])), (sm, .inr (2, [.int 0, .ref gr, .ref gt, .ref gw, .ref gk, .ref gi, .ref gp, .ref go, .ref gg, .ref hm])), (gk, .inl (d10, 360, .inl fk)), (gi, .inl (d11, 360, .inl (fun _ => 0))), (gp, .inl (d12, 360, .inl fp)), (go, .inl (d13, 360, .inl fo))] sz) := by
  refine Met.ofW (cc := cX3_yealmTold) (maxL := 7) (ret := (some .int)) (by decide) rfl ?_
  intro p e s m args below meth c s₁ B hml hv
  obtain ⟨rfl, hsz, hP, hK, hD0, hZN⟩ := hv
  have hx := B.exec
  have hb := B.bytes
  have hr := B.returns
  have hts := atoms_spec (ws := wsX3_yealmTold) B.pre
  have hown : s.vm.findClass RX3 = some m.cls := findClass_of_methodNamed B.named
  have hlocks := B.notSynchronized
  subst hsz
  have hD := hD0.self (sz := s.heap.size)
  generalize hAe : va_A [(hm, .inr (3, [.int th, .int 6, .ref wi, .ref co, .ref sl, .ref rn, .ref so, .ref bn, .ref sm, .ref ah])), (sm, .inr (2, [.int 0, .ref gr, .ref gt, .ref gw, .ref gk, .ref gi, .ref gp, .ref go, .ref gg, .ref hm])), (gk, .inl (d10, 360, .inl fk)), (gi, .inl (d11, 360, .inl (fun _ => 0))), (gp, .inl (d12, 360, .inl fp)), (go, .inl (d13, 360, .inl fo))] s.heap.size = A at hD ⊢
  have hA : ∀ q : Nat, s.heap.size ≤ q → A q := fun q h => by rw [← hAe]; exact Or.inr h
  have hS : va_S A s.heap s.heap [] := va_S.rf
  have hP : va_P (dC, dI) vwCl [(hm, .inr (3, [.int th, .int 6, .ref wi, .ref co, .ref sl, .ref rn, .ref so, .ref bn, .ref sm, .ref ah])), (sm, .inr (2, [.int 0, .ref gr, .ref gt, .ref gw, .ref gk, .ref gi, .ref gp, .ref go, .ref gg, .ref hm])), (gk, .inl (d10, 360, .inl fk)), (gi, .inl (d11, 360, .inl (fun _ => 0))), (gp, .inl (d12, 360, .inl fp)), (go, .inl (d13, 360, .inl fo))] s.heap := hP
  have hl := lv_entry ([.ref hm, .int (nI ru), .int (nI cu), .int (nI pl), .int w]) (n := 7) (Nat.le_of_ble_eq_true rfl)
  rw [lg_entry_eq]
  generalize (lg_sl ([.ref hm, .int (nI ru), .int (nI cu), .int (nI pl), .int w]) ++ List.replicate (7 - (lg_sl ([.ref hm, .int (nI ru), .int (nI cu), .int (nI pl), .int w])).length) Slot.unset).toArray = ls at hl ⊢
  have hl : lv_has ls 7 [(0, .ref hm), (1, .int (nI ru)), (2, .int (nI cu)), (3, .int (nI pl)), (4, .int w)] := hl
  refine lv_iload_n hx hb dX3_yealmTold_0 rfl (lv_at hl 1 rfl) ?_
  refine lv_iload_n hx hb dX3_yealmTold_1 rfl (lv_at hl 2 rfl) ?_
  refine lv_iload_n hx hb dX3_yealmTold_2 rfl (lv_at hl 3 rfl) ?_
  refine vp_callSi (va_runS (As := [.int (nI ru), .int (nI cu), .int (nI pl)]) (rest := []) ⟨hx, hb, hml, hown, hts⟩ (r3_cell l dC dI ru cu pl ) (va_cwS 3 hts gX3_yealmTold_X3_cell rfl rfl rfl (by decide +kernel) ⟨Nat.le_of_ble_eq_true rfl, Nat.le_of_ble_eq_true rfl⟩) ⟨fun a U g mk q => q, fun U hU hW => ⟨rfl, trivial⟩⟩ rfl rfl hl.1 rfl (lv_room (Nat.le_of_ble_eq_true rfl)) dX3_yealmTold_3 ⟨Nat.le_of_ble_eq_true rfl, Nat.le_of_ble_eq_true rfl⟩).run (fun r1 hr1 => ?_)
  have evr1_0 := hr1
  rw [evr1_0]
  refine lv_istore (lv' := [(5, .int (nI (60 * ru + 10 * cu + pl))), (0, .ref hm), (1, .int (nI ru)), (2, .int (nI cu)), (3, .int (nI pl)), (4, .int w)]) hx hb dX3_yealmTold_6 hl (by decide) rfl (fun ls hl => ?_)
  refine lv_bipush (v := 6) hx hb dX3_yealmTold_8 (by decide) ?_
  refine va_newa (atype := .int) (ty := .int) (N' := 6) (a0 := (6, .inl (fun _ => 0))) hx hb (hts (.arrayClass .int) (by decide +kernel)) rfl hK hP hD hS hA (fun _ => rfl) (by decide) (by decide) (by decide) (Nat.le_of_ble_eq_true rfl) (Nat.le_of_ble_eq_true rfl) dX3_yealmTold_10 (fun q2 cA3 H hK hP hD hS => ?_)
  refine W.widen (k := 1) (n := 6) (Nat.le_of_ble_eq_true rfl) (Nat.le_of_ble_eq_true rfl) ?_
  have hK : va_K (dC, dI) vwCl [(d10, .int), (d11, .int), (d12, .int), (d13, .int), (cA3, .int)] s := hK
  have hP : va_P (dC, dI) vwCl [(hm, .inr (3, [.int th, .int 6, .ref wi, .ref co, .ref sl, .ref rn, .ref so, .ref bn, .ref sm, .ref ah])), (sm, .inr (2, [.int 0, .ref gr, .ref gt, .ref gw, .ref gk, .ref gi, .ref gp, .ref go, .ref gg, .ref hm])), (gk, .inl (d10, 360, .inl fk)), (gi, .inl (d11, 360, .inl (fun _ => 0))), (gp, .inl (d12, 360, .inl fp)), (go, .inl (d13, 360, .inl fo)), (q2, .inl (cA3, 6, .inl (fun _ => 0)))] H := hP
  have hD : va_D A [(hm, .inr (3, [.int th, .int 6, .ref wi, .ref co, .ref sl, .ref rn, .ref so, .ref bn, .ref sm, .ref ah])), (sm, .inr (2, [.int 0, .ref gr, .ref gt, .ref gw, .ref gk, .ref gi, .ref gp, .ref go, .ref gg, .ref hm])), (gk, .inl (d10, 360, .inl fk)), (gi, .inl (d11, 360, .inl (fun _ => 0))), (gp, .inl (d12, 360, .inl fp)), (go, .inl (d13, 360, .inl fo)), (q2, .inl (cA3, 6, .inl (fun _ => 0)))] := hD
  refine lv_dup hx hb dX3_yealmTold_12 rfl ?_
  refine lv_iconst (v := 0) hx hb dX3_yealmTold_13 (by decide) ?_
  refine lv_aload_n hx hb dX3_yealmTold_14 rfl (lv_at hl 1 rfl) ?_
  refine va_get (D := (dC, dI)) (ci := 3) (v := .ref sm) (C := RX3) (T := TX3) (N := 10) hx hb hts (by decide +kernel) hown hK hP 0 rfl rfl 8 (by decide) (hts (.fieldLink RX3 33 "ThatchRoofModel" "s" "LThatchRoofModel$State;") (by decide +kernel)) (fun _ h9 => h9) rfl dX3_yealmTold_15 ?_
  refine va_getN (D := (dC, dI)) (ci := 2) (v := .ref gk) (C := RX2) (T := TX2) (N := 10) hx hb hts (by decide +kernel) hown hK hP 1 rfl rfl 4 (by decide) (va_Nw.use rfl (zN_RX3_86 hZN)) (fun _ h9 => h9) rfl dX3_yealmTold_18 ?_
  refine lv_iload hx hb dX3_yealmTold_21 (lv_at hl 0 rfl) ?_
  refine va_iald hx hb hK hP 2 0 rfl rfl (vp_in_nI (by omega) (by omega)) dX3_yealmTold_23 ?_
  refine lv_topi (fun x4 ex4 => ?_)
  rw [nI_clamp (show (60 * ru + 10 * cu + pl) < 2 ^ 31 by omega)] at ex4
  obtain rfl : x4 = (-1) := ex4.trans (hk _ (by omega))
  refine lv_iconst (v := (-1)) hx hb dX3_yealmTold_24 (by decide) ?_
  refine lv_icmp_ne (tgt := 32) hx hb dX3_yealmTold_25 (by decide) (fun c5 => absurd c5 (by decide)) (fun c5 => ?_)
  refine lv_iconst (v := 0) hx hb dX3_yealmTold_28 (by decide) ?_
  refine lv_goto (tgt := 33) hx hb dX3_yealmTold_29 (by decide) ?_
  refine va_iast hx hb hK hP hD hS 6 4 rfl rfl (vp_in_nI (n := 0) (by decide) (by decide)) dX3_yealmTold_33 (fun H locs hP hD hS => ?_)
  have hP : va_P (dC, dI) vwCl [(hm, .inr (3, [.int th, .int 6, .ref wi, .ref co, .ref sl, .ref rn, .ref so, .ref bn, .ref sm, .ref ah])), (sm, .inr (2, [.int 0, .ref gr, .ref gt, .ref gw, .ref gk, .ref gi, .ref gp, .ref go, .ref gg, .ref hm])), (gk, .inl (d10, 360, .inl fk)), (gi, .inl (d11, 360, .inl (fun _ => 0))), (gp, .inl (d12, 360, .inl fp)), (go, .inl (d13, 360, .inl fo)), (q2, .inl (cA3, 6, .inl (upd (fun _ => 0) 0 0)))] H := hP
  have hD : va_D A [(hm, .inr (3, [.int th, .int 6, .ref wi, .ref co, .ref sl, .ref rn, .ref so, .ref bn, .ref sm, .ref ah])), (sm, .inr (2, [.int 0, .ref gr, .ref gt, .ref gw, .ref gk, .ref gi, .ref gp, .ref go, .ref gg, .ref hm])), (gk, .inl (d10, 360, .inl fk)), (gi, .inl (d11, 360, .inl (fun _ => 0))), (gp, .inl (d12, 360, .inl fp)), (go, .inl (d13, 360, .inl fo)), (q2, .inl (cA3, 6, .inl (upd (fun _ => 0) 0 0)))] := hD
  refine lv_dup hx hb dX3_yealmTold_34 rfl ?_
  refine lv_iconst (v := 1) hx hb dX3_yealmTold_35 (by decide) ?_
  refine lv_aload_n hx hb dX3_yealmTold_36 rfl (lv_at hl 1 rfl) ?_
  refine va_get (D := (dC, dI)) (ci := 3) (v := .ref sm) (C := RX3) (T := TX3) (N := 10) hx hb hts (by decide +kernel) hown hK hP 0 rfl rfl 8 (by decide) (hts (.fieldLink RX3 33 "ThatchRoofModel" "s" "LThatchRoofModel$State;") (by decide +kernel)) (fun _ h9 => h9) rfl dX3_yealmTold_37 ?_
  refine va_getN (D := (dC, dI)) (ci := 2) (v := .ref gk) (C := RX2) (T := TX2) (N := 10) hx hb hts (by decide +kernel) hown hK hP 1 rfl rfl 4 (by decide) (va_Nw.use rfl (zN_RX3_86 hZN)) (fun _ h9 => h9) rfl dX3_yealmTold_40 ?_
  refine lv_iload hx hb dX3_yealmTold_43 (lv_at hl 0 rfl) ?_
  refine va_iald hx hb hK hP 2 0 rfl rfl (vp_in_nI (by omega) (by omega)) dX3_yealmTold_45 ?_
  refine lv_topi (fun x6 ex6 => ?_)
  rw [nI_clamp (show (60 * ru + 10 * cu + pl) < 2 ^ 31 by omega)] at ex6
  refine va_iast hx hb hK hP hD hS 6 4 rfl rfl (vp_in_nI (n := 1) (by decide) (by decide)) dX3_yealmTold_46 (fun H locs hP hD hS => ?_)
  have hP : va_P (dC, dI) vwCl [(hm, .inr (3, [.int th, .int 6, .ref wi, .ref co, .ref sl, .ref rn, .ref so, .ref bn, .ref sm, .ref ah])), (sm, .inr (2, [.int 0, .ref gr, .ref gt, .ref gw, .ref gk, .ref gi, .ref gp, .ref go, .ref gg, .ref hm])), (gk, .inl (d10, 360, .inl fk)), (gi, .inl (d11, 360, .inl (fun _ => 0))), (gp, .inl (d12, 360, .inl fp)), (go, .inl (d13, 360, .inl fo)), (q2, .inl (cA3, 6, .inl (upd (upd (fun _ => 0) 0 0) 1 x6)))] H := hP
  have hD : va_D A [(hm, .inr (3, [.int th, .int 6, .ref wi, .ref co, .ref sl, .ref rn, .ref so, .ref bn, .ref sm, .ref ah])), (sm, .inr (2, [.int 0, .ref gr, .ref gt, .ref gw, .ref gk, .ref gi, .ref gp, .ref go, .ref gg, .ref hm])), (gk, .inl (d10, 360, .inl fk)), (gi, .inl (d11, 360, .inl (fun _ => 0))), (gp, .inl (d12, 360, .inl fp)), (go, .inl (d13, 360, .inl fo)), (q2, .inl (cA3, 6, .inl (upd (upd (fun _ => 0) 0 0) 1 x6)))] := hD
  refine lv_dup hx hb dX3_yealmTold_47 rfl ?_
  refine lv_iconst (v := 2) hx hb dX3_yealmTold_48 (by decide) ?_
  refine lv_aload_n hx hb dX3_yealmTold_49 rfl (lv_at hl 1 rfl) ?_
  refine va_get (D := (dC, dI)) (ci := 3) (v := .ref sm) (C := RX3) (T := TX3) (N := 10) hx hb hts (by decide +kernel) hown hK hP 0 rfl rfl 8 (by decide) (hts (.fieldLink RX3 33 "ThatchRoofModel" "s" "LThatchRoofModel$State;") (by decide +kernel)) (fun _ h9 => h9) rfl dX3_yealmTold_50 ?_
  refine va_getN (D := (dC, dI)) (ci := 2) (v := .ref gi) (C := RX2) (T := TX2) (N := 10) hx hb hts (by decide +kernel) hown hK hP 1 rfl rfl 5 (by decide) (va_Nw.use rfl (zN_RX3_93 hZN)) (fun _ h9 => h9) rfl dX3_yealmTold_53 ?_
  refine lv_iload hx hb dX3_yealmTold_56 (lv_at hl 0 rfl) ?_
  refine va_iald hx hb hK hP 3 1 rfl rfl (vp_in_nI (by omega) (by omega)) dX3_yealmTold_58 ?_
  refine lv_topi (fun x7 ex7 => ?_)
  refine va_iast hx hb hK hP hD hS 6 4 rfl rfl (vp_in_nI (n := 2) (by decide) (by decide)) dX3_yealmTold_59 (fun H locs hP hD hS => ?_)
  have hP : va_P (dC, dI) vwCl [(hm, .inr (3, [.int th, .int 6, .ref wi, .ref co, .ref sl, .ref rn, .ref so, .ref bn, .ref sm, .ref ah])), (sm, .inr (2, [.int 0, .ref gr, .ref gt, .ref gw, .ref gk, .ref gi, .ref gp, .ref go, .ref gg, .ref hm])), (gk, .inl (d10, 360, .inl fk)), (gi, .inl (d11, 360, .inl (fun _ => 0))), (gp, .inl (d12, 360, .inl fp)), (go, .inl (d13, 360, .inl fo)), (q2, .inl (cA3, 6, .inl (upd (upd (upd (fun _ => 0) 0 0) 1 x6) 2 x7)))] H := hP
  have hD : va_D A [(hm, .inr (3, [.int th, .int 6, .ref wi, .ref co, .ref sl, .ref rn, .ref so, .ref bn, .ref sm, .ref ah])), (sm, .inr (2, [.int 0, .ref gr, .ref gt, .ref gw, .ref gk, .ref gi, .ref gp, .ref go, .ref gg, .ref hm])), (gk, .inl (d10, 360, .inl fk)), (gi, .inl (d11, 360, .inl (fun _ => 0))), (gp, .inl (d12, 360, .inl fp)), (go, .inl (d13, 360, .inl fo)), (q2, .inl (cA3, 6, .inl (upd (upd (upd (fun _ => 0) 0 0) 1 x6) 2 x7)))] := hD
  refine lv_dup hx hb dX3_yealmTold_60 rfl ?_
  refine lv_iconst (v := 3) hx hb dX3_yealmTold_61 (by decide) ?_
  refine lv_aload_n hx hb dX3_yealmTold_62 rfl (lv_at hl 1 rfl) ?_
  refine va_get (D := (dC, dI)) (ci := 3) (v := .ref sm) (C := RX3) (T := TX3) (N := 10) hx hb hts (by decide +kernel) hown hK hP 0 rfl rfl 8 (by decide) (hts (.fieldLink RX3 33 "ThatchRoofModel" "s" "LThatchRoofModel$State;") (by decide +kernel)) (fun _ h9 => h9) rfl dX3_yealmTold_63 ?_
  refine va_getN (D := (dC, dI)) (ci := 2) (v := .ref gp) (C := RX2) (T := TX2) (N := 10) hx hb hts (by decide +kernel) hown hK hP 1 rfl rfl 6 (by decide) (va_Nw.use rfl (zN_RX3_96 hZN)) (fun _ h9 => h9) rfl dX3_yealmTold_66 ?_
  refine lv_iload hx hb dX3_yealmTold_69 (lv_at hl 0 rfl) ?_
  refine va_iald hx hb hK hP 4 2 rfl rfl (vp_in_nI (by omega) (by omega)) dX3_yealmTold_71 ?_
  refine lv_topi (fun x8 ex8 => ?_)
  rw [nI_clamp (show (60 * ru + 10 * cu + pl) < 2 ^ 31 by omega)] at ex8
  refine va_iast hx hb hK hP hD hS 6 4 rfl rfl (vp_in_nI (n := 3) (by decide) (by decide)) dX3_yealmTold_72 (fun H locs hP hD hS => ?_)
  have hP : va_P (dC, dI) vwCl [(hm, .inr (3, [.int th, .int 6, .ref wi, .ref co, .ref sl, .ref rn, .ref so, .ref bn, .ref sm, .ref ah])), (sm, .inr (2, [.int 0, .ref gr, .ref gt, .ref gw, .ref gk, .ref gi, .ref gp, .ref go, .ref gg, .ref hm])), (gk, .inl (d10, 360, .inl fk)), (gi, .inl (d11, 360, .inl (fun _ => 0))), (gp, .inl (d12, 360, .inl fp)), (go, .inl (d13, 360, .inl fo)), (q2, .inl (cA3, 6, .inl (upd (upd (upd (upd (fun _ => 0) 0 0) 1 x6) 2 x7) 3 x8)))] H := hP
  have hD : va_D A [(hm, .inr (3, [.int th, .int 6, .ref wi, .ref co, .ref sl, .ref rn, .ref so, .ref bn, .ref sm, .ref ah])), (sm, .inr (2, [.int 0, .ref gr, .ref gt, .ref gw, .ref gk, .ref gi, .ref gp, .ref go, .ref gg, .ref hm])), (gk, .inl (d10, 360, .inl fk)), (gi, .inl (d11, 360, .inl (fun _ => 0))), (gp, .inl (d12, 360, .inl fp)), (go, .inl (d13, 360, .inl fo)), (q2, .inl (cA3, 6, .inl (upd (upd (upd (upd (fun _ => 0) 0 0) 1 x6) 2 x7) 3 x8)))] := hD
  refine lv_dup hx hb dX3_yealmTold_73 rfl ?_
  refine lv_iconst (v := 4) hx hb dX3_yealmTold_74 (by decide) ?_
  refine lv_aload_n hx hb dX3_yealmTold_75 rfl (lv_at hl 1 rfl) ?_
  refine va_get (D := (dC, dI)) (ci := 3) (v := .ref sm) (C := RX3) (T := TX3) (N := 10) hx hb hts (by decide +kernel) hown hK hP 0 rfl rfl 8 (by decide) (hts (.fieldLink RX3 33 "ThatchRoofModel" "s" "LThatchRoofModel$State;") (by decide +kernel)) (fun _ h9 => h9) rfl dX3_yealmTold_76 ?_
  refine va_getN (D := (dC, dI)) (ci := 2) (v := .ref go) (C := RX2) (T := TX2) (N := 10) hx hb hts (by decide +kernel) hown hK hP 1 rfl rfl 7 (by decide) (va_Nw.use rfl (zN_RX3_99 hZN)) (fun _ h9 => h9) rfl dX3_yealmTold_79 ?_
  refine lv_iload hx hb dX3_yealmTold_82 (lv_at hl 0 rfl) ?_
  refine va_iald hx hb hK hP 5 3 rfl rfl (vp_in_nI (by omega) (by omega)) dX3_yealmTold_84 ?_
  refine lv_topi (fun x9 ex9 => ?_)
  rw [nI_clamp (show (60 * ru + 10 * cu + pl) < 2 ^ 31 by omega)] at ex9
  refine va_iast hx hb hK hP hD hS 6 4 rfl rfl (vp_in_nI (n := 4) (by decide) (by decide)) dX3_yealmTold_85 (fun H locs hP hD hS => ?_)
  have hP : va_P (dC, dI) vwCl [(hm, .inr (3, [.int th, .int 6, .ref wi, .ref co, .ref sl, .ref rn, .ref so, .ref bn, .ref sm, .ref ah])), (sm, .inr (2, [.int 0, .ref gr, .ref gt, .ref gw, .ref gk, .ref gi, .ref gp, .ref go, .ref gg, .ref hm])), (gk, .inl (d10, 360, .inl fk)), (gi, .inl (d11, 360, .inl (fun _ => 0))), (gp, .inl (d12, 360, .inl fp)), (go, .inl (d13, 360, .inl fo)), (q2, .inl (cA3, 6, .inl (upd (upd (upd (upd (upd (fun _ => 0) 0 0) 1 x6) 2 x7) 3 x8) 4 x9)))] H := hP
  have hD : va_D A [(hm, .inr (3, [.int th, .int 6, .ref wi, .ref co, .ref sl, .ref rn, .ref so, .ref bn, .ref sm, .ref ah])), (sm, .inr (2, [.int 0, .ref gr, .ref gt, .ref gw, .ref gk, .ref gi, .ref gp, .ref go, .ref gg, .ref hm])), (gk, .inl (d10, 360, .inl fk)), (gi, .inl (d11, 360, .inl (fun _ => 0))), (gp, .inl (d12, 360, .inl fp)), (go, .inl (d13, 360, .inl fo)), (q2, .inl (cA3, 6, .inl (upd (upd (upd (upd (upd (fun _ => 0) 0 0) 1 x6) 2 x7) 3 x8) 4 x9)))] := hD
  refine lv_dup hx hb dX3_yealmTold_86 rfl ?_
  refine lv_iconst (v := 5) hx hb dX3_yealmTold_87 (by decide) ?_
  refine lv_aload_n hx hb dX3_yealmTold_88 rfl (lv_at hl 1 rfl) ?_
  refine va_get (D := (dC, dI)) (ci := 3) (v := .ref sm) (C := RX3) (T := TX3) (N := 10) hx hb hts (by decide +kernel) hown hK hP 0 rfl rfl 8 (by decide) (hts (.fieldLink RX3 33 "ThatchRoofModel" "s" "LThatchRoofModel$State;") (by decide +kernel)) (fun _ h9 => h9) rfl dX3_yealmTold_89 ?_
  refine lv_iload_n hx hb dX3_yealmTold_92 rfl (lv_at hl 2 rfl) ?_
  refine lv_iload_n hx hb dX3_yealmTold_93 rfl (lv_at hl 3 rfl) ?_
  refine lv_iload_n hx hb dX3_yealmTold_94 rfl (lv_at hl 4 rfl) ?_
  have hPc := hP.sub (ws' := [(sm, .inr (2, [.int 0, .ref gr, .ref gt, .ref gw, .ref gk, .ref gi, .ref gp, .ref go, .ref gg, .ref hm])), (gk, .inl (d10, 360, .inl fk))]) [1, 2] rfl
  have hKc := hK.sub (tys' := [(d10, .int)]) [0] rfl
  refine vp_callSi (va_runV (As := [.int (nI ru), .int (nI cu), .int (nI pl)]) (rest := [.int 5, .ref q2, .ref q2]) ⟨hx, hb, hml, hown, hts⟩ (r2_isBare l dC dI sm hm gr gt gw gk gi gp go gg d10 fk ru cu pl (by first | assumption | decide | omega) (by first | assumption | decide | omega) (by first | assumption | decide | omega) (by first | assumption | decide | omega)) (cwV 3 hts gX3_yealmTold_X2_isBare rfl rfl rfl (by decide +kernel) ⟨Nat.le_of_ble_eq_true rfl, Nat.le_of_ble_eq_true rfl⟩) ⟨fun a U g mk q => by obtain ⟨q0, qP, qK, qN⟩ := q; exact ⟨q0, qP, va_K.moved (u := U) (U := U.calling g mk a) (Vm.Alike.refl U.vm) qK, zNs.calling qN⟩, va_recv hKc hPc (ci := 2) (q0 := 0) rfl rfl, fun U hU hW => ⟨rfl, by rw [hU]; exact hPc, va_K.moved hW.alike hKc, zNs.warm hW hZN⟩⟩ rfl rfl hl.1 rfl (lv_room (Nat.le_of_ble_eq_true rfl)) dX3_yealmTold_95 ⟨Nat.le_of_ble_eq_true rfl, Nat.le_of_ble_eq_true rfl⟩).run (fun r10 hr10 => ?_)
  obtain rfl := hr10
  refine lv_if_eq (tgt := 105) hx hb dX3_yealmTold_98 (by decide) (fun c11 => ?_) (fun c11 => absurd c11 (by decide))
  refine lv_iconst (v := 0) hx hb dX3_yealmTold_105 (by decide) ?_
  refine va_iast hx hb hK hP hD hS 6 4 rfl rfl (vp_in_nI (n := 5) (by decide) (by decide)) dX3_yealmTold_106 (fun H locs hP hD hS => ?_)
  have hP : va_P (dC, dI) vwCl [(hm, .inr (3, [.int th, .int 6, .ref wi, .ref co, .ref sl, .ref rn, .ref so, .ref bn, .ref sm, .ref ah])), (sm, .inr (2, [.int 0, .ref gr, .ref gt, .ref gw, .ref gk, .ref gi, .ref gp, .ref go, .ref gg, .ref hm])), (gk, .inl (d10, 360, .inl fk)), (gi, .inl (d11, 360, .inl (fun _ => 0))), (gp, .inl (d12, 360, .inl fp)), (go, .inl (d13, 360, .inl fo)), (q2, .inl (cA3, 6, .inl (upd (upd (upd (upd (upd (upd (fun _ => 0) 0 0) 1 x6) 2 x7) 3 x8) 4 x9) 5 0)))] H := hP
  have hD : va_D A [(hm, .inr (3, [.int th, .int 6, .ref wi, .ref co, .ref sl, .ref rn, .ref so, .ref bn, .ref sm, .ref ah])), (sm, .inr (2, [.int 0, .ref gr, .ref gt, .ref gw, .ref gk, .ref gi, .ref gp, .ref go, .ref gg, .ref hm])), (gk, .inl (d10, 360, .inl fk)), (gi, .inl (d11, 360, .inl (fun _ => 0))), (gp, .inl (d12, 360, .inl fp)), (go, .inl (d13, 360, .inl fo)), (q2, .inl (cA3, 6, .inl (upd (upd (upd (upd (upd (upd (fun _ => 0) 0 0) 1 x6) 2 x7) 3 x8) 4 x9) 5 0)))] := hD
  refine lv_astore (lv' := [(6, .ref q2), (5, .int (nI (60 * ru + 10 * cu + pl))), (0, .ref hm), (1, .int (nI ru)), (2, .int (nI cu)), (3, .int (nI pl)), (4, .int w)]) hx hb dX3_yealmTold_107 hl (by decide) rfl (fun ls hl => ?_)
  refine lv_aload hx hb dX3_yealmTold_109 (lv_at hl 0 rfl) ?_
  refine lv_iload hx hb dX3_yealmTold_111 (lv_at hl 6 rfl) ?_
  refine va_iald hx hb hK hP 6 4 rfl rfl (zIn_in (hi := 5) hw5 (by decide)) dX3_yealmTold_113 ?_
  refine lv_topi (fun x12 ex12 => ?_)
  have hP9 := hP.sub (ws' := [(hm, .inr (3, [.int th, .int 6, .ref wi, .ref co, .ref sl, .ref rn, .ref so, .ref bn, .ref sm, .ref ah])), (sm, .inr (2, [.int 0, .ref gr, .ref gt, .ref gw, .ref gk, .ref gi, .ref gp, .ref go, .ref gg, .ref hm])), (gk, .inl (d10, 360, .inl fk)), (gi, .inl (d11, 360, .inl (fun _ => 0))), (gp, .inl (d12, 360, .inl fp)), (go, .inl (d13, 360, .inl fo))]) [0, 1, 2, 3, 4, 5] rfl
  have hD9 := hD.sub (ws' := [(hm, .inr (3, [.int th, .int 6, .ref wi, .ref co, .ref sl, .ref rn, .ref so, .ref bn, .ref sm, .ref ah])), (sm, .inr (2, [.int 0, .ref gr, .ref gt, .ref gw, .ref gk, .ref gi, .ref gp, .ref go, .ref gg, .ref hm])), (gk, .inl (d10, 360, .inl fk)), (gi, .inl (d11, 360, .inl (fun _ => 0))), (gp, .inl (d12, 360, .inl fp)), (go, .inl (d13, 360, .inl fo))]) [0, 1, 2, 3, 4, 5] (by decide) rfl
  have hK9 := hK.sub (tys' := []) [] rfl
  refine W.widen (k := 1) (n := 6) (Nat.le_of_ble_eq_true rfl) (Nat.le_of_ble_eq_true rfl) ?_
  have hZ := zz_one hAe hD hP 6 [0, 1, 2, 3, 4, 5] rfl rfl (by decide)
  exact W.iret (v := x12) hx hb hr (fun t ht hW => ⟨⟨x12, (), rfl, by exact trivial, ⟨by rw [ht]; exact hP9, va_K.moved hW.alike hK9, hD9, by rw [ht]; omega⟩⟩, hS.F ht⟩) hS.2.2 dX3_yealmTold_114

set_option maxHeartbeats 4000000 in
set_option maxRecDepth 100000 in
theorem r3_roofTold (l : Launch) (dC : Nat → ClassId) (dI : Nat → Nat → Nat) (sz : Nat) (hm : Nat) (wi : Nat) (co : Nat) (sl : Nat) (rn : Nat) (so : Nat) (bn : Nat) (sm : Nat) (ah : Nat) (th : Int32) (gr : Nat) (gt : Nat) (gw : Nat) (gk : Nat) (gi : Nat) (gp : Nat) (go : Nat) (gg : Nat) (d1 : ClassId) (d2 : ClassId) (d3 : ClassId) (d4 : ClassId) (d8 : ClassId) (d9 : ClassId) (d10 : ClassId) (d11 : ClassId) (fw : Nat → Int32) (fc : Nat → Int32) (fs : Nat → Int32) (fg : Nat → Int32) (ft : Nat → Int32) (fu : Nat → Int32) (fk : Nat → Int32) (ru : Nat) (w : Int32) (hk : ∀ j : Nat, j < 360 → fk j = -1) (hw : ∀ j : Nat, j < 6 → fw j = 10) (hc : ∀ j : Nat, j < 6 → fc j = 6) (hru : ru < 6) (hw8 : zIn w 0 8) : Met l yX3_roofTold wsX3_roofTold ({ frames := 2, cells := 1, slots := 9, locals := 47 }) (va_Pc [.ref hm, .int (nI ru), .int w] (fun U => U.heap.size = sz ∧ va_P (dC, dI) vwCl [(hm, .inr (3, [.int th, .int 6, .ref wi, .ref co, .ref sl, .ref rn, .ref so, .ref bn, .ref sm, .ref ah])), (sm, .inr (2, [.int 0, .ref gr, .ref gt, .ref gw, .ref gk, .ref gi, .ref gp, .ref go, .ref gg, .ref hm])), (wi, .inl (d1, 6, .inl fw)), (co, .inl (d2, 6, .inl fc)), (sl, .inl (d3, 6, .inl fs)), (gr, .inl (d4, 6, .inl fg)), (gt, .inl (d8, 6, .inl ft)), (gw, .inl (d9, 6, .inl fu)), (gk, .inl (d10, 360, .inl fk)), (gi, .inl (d11, 360, .inl (fun _ => 0)))] U.heap ∧ va_K (dC, dI) vwCl [(d1, .int), (d2, .int), (d3, .int), (d4, .int), (d8, .int), (d9, .int), (d10, .int), (d11, .int)] U ∧ va_D (fun _ => True) [(hm, .inr (3, [.int th, .int 6, .ref wi, .ref co, .ref sl, .ref rn, .ref so, .ref bn, .ref sm, .ref ah])), (sm, .inr (2, [.int 0, .ref gr, .ref gt, .ref gw, .ref gk, .ref gi, .ref gp, .ref go, .ref gg, .ref hm])), (wi, .inl (d1, 6, .inl fw)), (co, .inl (d2, 6, .inl fc)), (sl, .inl (d3, 6, .inl fs)), (gr, .inl (d4, 6, .inl fg)), (gt, .inl (d8, 6, .inl ft)), (gw, .inl (d9, 6, .inl fu)), (gk, .inl (d10, 360, .inl fk)), (gi, .inl (d11, 360, .inl (fun _ => 0)))] ∧ zNs U)) (va_Qi (fun (r : Int32) (u : Unit) => True) (fun (u : Unit) (t : State) => va_P (dC, dI) vwCl [(hm, .inr (3, [.int th, .int 6, .ref wi, .ref co, .ref sl, .ref rn, .ref so, .ref bn, .ref sm, .ref ah])), (sm, .inr (2, [.int 0, .ref gr, .ref gt, .ref gw, .ref gk, .ref gi, .ref gp, .ref go, .ref gg, .ref hm])), (wi, .inl (d1, 6, .inl fw)), (co, .inl (d2, 6, .inl fc)), (sl, .inl (d3, 6, .inl fs)), (gr, .inl (d4, 6, .inl fg)), (gt, .inl (d8, 6, .inl ft)), (gw, .inl (d9, 6, .inl fu)), (gk, .inl (d10, 360, .inl fk)), (gi, .inl (d11, 360, .inl (fun _ => 0)))] t.heap ∧ va_K (dC, dI) vwCl [] t ∧ va_D (va_A [(hm, .inr (3, [.int th, .int 6, .ref wi, .ref co, .ref sl, .ref rn, .ref so, .ref bn, .ref sm, .ref ah])), (sm, .inr (2, [.int 0, .ref gr, .ref gt, .ref gw, .ref gk, .ref gi, .ref gp, .ref go, .ref gg, .ref hm])), (wi, .inl (d1, 6, .inl fw)), (co, .inl (d2, 6, .inl fc)), (sl, .inl (d3, 6, .inl fs)), (gr, .inl (d4, 6, .inl fg)), (gt, .inl (d8, 6, .inl ft)), (gw, .inl (d9, 6, .inl fu)), (gk, .inl (d10, 360, .inl fk)), (gi, .inl (d11, 360, .inl (fun _ => 0)))] sz) [(hm, .inr (3, [.int th, .int 6, .ref wi, .ref co, .ref sl, .ref rn, .ref so, .ref bn, .ref sm, .ref ah])), (sm, .inr (2, [.int 0, .ref gr, .ref gt, .ref gw, .ref gk, .ref gi, .ref gp, .ref go, .ref gg, .ref hm])), (wi, .inl (d1, 6, .inl fw)), (co, .inl (d2, 6, .inl fc)), (sl, .inl (d3, 6, .inl fs)), (gr, .inl (d4, 6, .inl fg)), (gt, .inl (d8, 6, .inl ft)), (gw, .inl (d9, 6, .inl fu)), (gk, .inl (d10, 360, .inl fk)), (gi, .inl (d11, 360, .inl (fun _ => 0)))] ∧ sz + 1 ≤ t.heap.size) (va_A [(hm, .inr (3, [.int th, .int 6, .ref wi, .ref co, .ref sl, .ref rn, .ref so, .ref bn, .ref sm, .ref ah])), (sm, .inr (2, [.int 0, .ref gr, .ref gt, .ref gw, .ref gk, .ref gi, .ref gp, .ref go, .ref gg, .ref hm])), (wi, .inl (d1, 6, .inl fw)), (co, .inl (d2, 6, .inl fc)), (sl, .inl (d3, 6, .inl fs)), (gr, .inl (d4, 6, .inl fg)), (gt, .inl (d8, 6, .inl ft)), (gw, .inl (d9, 6, .inl fu)), (gk, .inl (d10, 360, .inl fk)), (gi, .inl (d11, 360, .inl (fun _ => 0)))] sz)) 1 9 (va_A [(hm, .inr (3, [.int th, .int 6, .ref wi, .ref co, .ref sl, .ref rn, .ref so, .ref bn, .ref sm, .ref ah])), (sm, .inr (2, [.int 0, .ref gr, .ref gt, .ref gw, .ref gk, .ref gi, .ref gp, .ref go, .ref gg, .ref hm])), (wi, .inl (d1, 6, .inl fw)), (co, .inl (d2, 6, .inl fc)), (sl, .inl (d3, 6, .inl fs)), (gr, .inl (d4, 6, .inl fg)), (gt, .inl (d8, 6, .inl ft)), (gw, .inl (d9, 6, .inl fu)), (gk, .inl (d10, 360, .inl fk)), (gi, .inl (d11, 360, .inl (fun _ => 0)))] sz) := by
  refine Met.ofW (cc := cX3_roofTold) (maxL := 4) (ret := (some .int)) (by decide) rfl ?_
  intro p e s m args below meth c s₁ B hml hv
  obtain ⟨rfl, hsz, hP, hK, hD0, hZN⟩ := hv
  have hx := B.exec
  have hb := B.bytes
  have hr := B.returns
  have hts := atoms_spec (ws := wsX3_roofTold) B.pre
  have hown : s.vm.findClass RX3 = some m.cls := findClass_of_methodNamed B.named
  have hlocks := B.notSynchronized
  subst hsz
  have hD := hD0.self (sz := s.heap.size)
  generalize hAe : va_A [(hm, .inr (3, [.int th, .int 6, .ref wi, .ref co, .ref sl, .ref rn, .ref so, .ref bn, .ref sm, .ref ah])), (sm, .inr (2, [.int 0, .ref gr, .ref gt, .ref gw, .ref gk, .ref gi, .ref gp, .ref go, .ref gg, .ref hm])), (wi, .inl (d1, 6, .inl fw)), (co, .inl (d2, 6, .inl fc)), (sl, .inl (d3, 6, .inl fs)), (gr, .inl (d4, 6, .inl fg)), (gt, .inl (d8, 6, .inl ft)), (gw, .inl (d9, 6, .inl fu)), (gk, .inl (d10, 360, .inl fk)), (gi, .inl (d11, 360, .inl (fun _ => 0)))] s.heap.size = A at hD ⊢
  have hA : ∀ q : Nat, s.heap.size ≤ q → A q := fun q h => by rw [← hAe]; exact Or.inr h
  have hS : va_S A s.heap s.heap [] := va_S.rf
  have hP : va_P (dC, dI) vwCl [(hm, .inr (3, [.int th, .int 6, .ref wi, .ref co, .ref sl, .ref rn, .ref so, .ref bn, .ref sm, .ref ah])), (sm, .inr (2, [.int 0, .ref gr, .ref gt, .ref gw, .ref gk, .ref gi, .ref gp, .ref go, .ref gg, .ref hm])), (wi, .inl (d1, 6, .inl fw)), (co, .inl (d2, 6, .inl fc)), (sl, .inl (d3, 6, .inl fs)), (gr, .inl (d4, 6, .inl fg)), (gt, .inl (d8, 6, .inl ft)), (gw, .inl (d9, 6, .inl fu)), (gk, .inl (d10, 360, .inl fk)), (gi, .inl (d11, 360, .inl (fun _ => 0)))] s.heap := hP
  have hl := lv_entry ([.ref hm, .int (nI ru), .int w]) (n := 4) (Nat.le_of_ble_eq_true rfl)
  rw [lg_entry_eq]
  generalize (lg_sl ([.ref hm, .int (nI ru), .int w]) ++ List.replicate (4 - (lg_sl ([.ref hm, .int (nI ru), .int w])).length) Slot.unset).toArray = ls at hl ⊢
  have hl : lv_has ls 4 [(0, .ref hm), (1, .int (nI ru)), (2, .int w)] := hl
  refine lv_bipush (v := 9) hx hb dX3_roofTold_0 (by decide) ?_
  refine va_newa (atype := .int) (ty := .int) (N' := 9) (a0 := (9, .inl (fun _ => 0))) hx hb (hts (.arrayClass .int) (by decide +kernel)) rfl hK hP hD hS hA (fun _ => rfl) (by decide) (by decide) (by decide) (Nat.le_of_ble_eq_true rfl) (Nat.le_of_ble_eq_true rfl) dX3_roofTold_2 (fun q1 cA2 H hK hP hD hS => ?_)
  refine W.widen (k := 1) (n := 9) (Nat.le_of_ble_eq_true rfl) (Nat.le_of_ble_eq_true rfl) ?_
  have hK : va_K (dC, dI) vwCl [(d1, .int), (d2, .int), (d3, .int), (d4, .int), (d8, .int), (d9, .int), (d10, .int), (d11, .int), (cA2, .int)] s := hK
  have hP : va_P (dC, dI) vwCl [(hm, .inr (3, [.int th, .int 6, .ref wi, .ref co, .ref sl, .ref rn, .ref so, .ref bn, .ref sm, .ref ah])), (sm, .inr (2, [.int 0, .ref gr, .ref gt, .ref gw, .ref gk, .ref gi, .ref gp, .ref go, .ref gg, .ref hm])), (wi, .inl (d1, 6, .inl fw)), (co, .inl (d2, 6, .inl fc)), (sl, .inl (d3, 6, .inl fs)), (gr, .inl (d4, 6, .inl fg)), (gt, .inl (d8, 6, .inl ft)), (gw, .inl (d9, 6, .inl fu)), (gk, .inl (d10, 360, .inl fk)), (gi, .inl (d11, 360, .inl (fun _ => 0))), (q1, .inl (cA2, 9, .inl (fun _ => 0)))] H := hP
  have hD : va_D A [(hm, .inr (3, [.int th, .int 6, .ref wi, .ref co, .ref sl, .ref rn, .ref so, .ref bn, .ref sm, .ref ah])), (sm, .inr (2, [.int 0, .ref gr, .ref gt, .ref gw, .ref gk, .ref gi, .ref gp, .ref go, .ref gg, .ref hm])), (wi, .inl (d1, 6, .inl fw)), (co, .inl (d2, 6, .inl fc)), (sl, .inl (d3, 6, .inl fs)), (gr, .inl (d4, 6, .inl fg)), (gt, .inl (d8, 6, .inl ft)), (gw, .inl (d9, 6, .inl fu)), (gk, .inl (d10, 360, .inl fk)), (gi, .inl (d11, 360, .inl (fun _ => 0))), (q1, .inl (cA2, 9, .inl (fun _ => 0)))] := hD
  refine lv_dup hx hb dX3_roofTold_4 rfl ?_
  refine lv_iconst (v := 0) hx hb dX3_roofTold_5 (by decide) ?_
  refine lv_aload_n hx hb dX3_roofTold_6 rfl (lv_at hl 0 rfl) ?_
  refine va_get (D := (dC, dI)) (ci := 3) (v := .ref wi) (C := RX3) (T := TX3) (N := 10) hx hb hts (by decide +kernel) hown hK hP 0 rfl rfl 2 (by decide) (hts (.fieldLink RX3 9 "ThatchRoofModel" "width" "[I") (by decide +kernel)) (fun _ h9 => h9) rfl dX3_roofTold_7 ?_
  refine lv_iload_n hx hb dX3_roofTold_10 rfl (lv_at hl 1 rfl) ?_
  refine va_iald hx hb hK hP 2 0 rfl rfl (vp_in_nI (by omega) (by omega)) dX3_roofTold_11 ?_
  refine lv_topi (fun x3 ex3 => ?_)
  rw [nI_clamp (show ru < 2 ^ 31 by omega)] at ex3
  refine va_iast hx hb hK hP hD hS 10 8 rfl rfl (vp_in_nI (n := 0) (by decide) (by decide)) dX3_roofTold_12 (fun H locs hP hD hS => ?_)
  have hP : va_P (dC, dI) vwCl [(hm, .inr (3, [.int th, .int 6, .ref wi, .ref co, .ref sl, .ref rn, .ref so, .ref bn, .ref sm, .ref ah])), (sm, .inr (2, [.int 0, .ref gr, .ref gt, .ref gw, .ref gk, .ref gi, .ref gp, .ref go, .ref gg, .ref hm])), (wi, .inl (d1, 6, .inl fw)), (co, .inl (d2, 6, .inl fc)), (sl, .inl (d3, 6, .inl fs)), (gr, .inl (d4, 6, .inl fg)), (gt, .inl (d8, 6, .inl ft)), (gw, .inl (d9, 6, .inl fu)), (gk, .inl (d10, 360, .inl fk)), (gi, .inl (d11, 360, .inl (fun _ => 0))), (q1, .inl (cA2, 9, .inl (upd (fun _ => 0) 0 x3)))] H := hP
  have hD : va_D A [(hm, .inr (3, [.int th, .int 6, .ref wi, .ref co, .ref sl, .ref rn, .ref so, .ref bn, .ref sm, .ref ah])), (sm, .inr (2, [.int 0, .ref gr, .ref gt, .ref gw, .ref gk, .ref gi, .ref gp, .ref go, .ref gg, .ref hm])), (wi, .inl (d1, 6, .inl fw)), (co, .inl (d2, 6, .inl fc)), (sl, .inl (d3, 6, .inl fs)), (gr, .inl (d4, 6, .inl fg)), (gt, .inl (d8, 6, .inl ft)), (gw, .inl (d9, 6, .inl fu)), (gk, .inl (d10, 360, .inl fk)), (gi, .inl (d11, 360, .inl (fun _ => 0))), (q1, .inl (cA2, 9, .inl (upd (fun _ => 0) 0 x3)))] := hD
  refine lv_dup hx hb dX3_roofTold_13 rfl ?_
  refine lv_iconst (v := 1) hx hb dX3_roofTold_14 (by decide) ?_
  refine lv_aload_n hx hb dX3_roofTold_15 rfl (lv_at hl 0 rfl) ?_
  refine va_get (D := (dC, dI)) (ci := 3) (v := .ref co) (C := RX3) (T := TX3) (N := 10) hx hb hts (by decide +kernel) hown hK hP 0 rfl rfl 3 (by decide) (hts (.fieldLink RX3 13 "ThatchRoofModel" "courses" "[I") (by decide +kernel)) (fun _ h9 => h9) rfl dX3_roofTold_16 ?_
  refine lv_iload_n hx hb dX3_roofTold_19 rfl (lv_at hl 1 rfl) ?_
  refine va_iald hx hb hK hP 3 1 rfl rfl (vp_in_nI (by omega) (by omega)) dX3_roofTold_20 ?_
  refine lv_topi (fun x4 ex4 => ?_)
  rw [nI_clamp (show ru < 2 ^ 31 by omega)] at ex4
  refine va_iast hx hb hK hP hD hS 10 8 rfl rfl (vp_in_nI (n := 1) (by decide) (by decide)) dX3_roofTold_21 (fun H locs hP hD hS => ?_)
  have hP : va_P (dC, dI) vwCl [(hm, .inr (3, [.int th, .int 6, .ref wi, .ref co, .ref sl, .ref rn, .ref so, .ref bn, .ref sm, .ref ah])), (sm, .inr (2, [.int 0, .ref gr, .ref gt, .ref gw, .ref gk, .ref gi, .ref gp, .ref go, .ref gg, .ref hm])), (wi, .inl (d1, 6, .inl fw)), (co, .inl (d2, 6, .inl fc)), (sl, .inl (d3, 6, .inl fs)), (gr, .inl (d4, 6, .inl fg)), (gt, .inl (d8, 6, .inl ft)), (gw, .inl (d9, 6, .inl fu)), (gk, .inl (d10, 360, .inl fk)), (gi, .inl (d11, 360, .inl (fun _ => 0))), (q1, .inl (cA2, 9, .inl (upd (upd (fun _ => 0) 0 x3) 1 x4)))] H := hP
  have hD : va_D A [(hm, .inr (3, [.int th, .int 6, .ref wi, .ref co, .ref sl, .ref rn, .ref so, .ref bn, .ref sm, .ref ah])), (sm, .inr (2, [.int 0, .ref gr, .ref gt, .ref gw, .ref gk, .ref gi, .ref gp, .ref go, .ref gg, .ref hm])), (wi, .inl (d1, 6, .inl fw)), (co, .inl (d2, 6, .inl fc)), (sl, .inl (d3, 6, .inl fs)), (gr, .inl (d4, 6, .inl fg)), (gt, .inl (d8, 6, .inl ft)), (gw, .inl (d9, 6, .inl fu)), (gk, .inl (d10, 360, .inl fk)), (gi, .inl (d11, 360, .inl (fun _ => 0))), (q1, .inl (cA2, 9, .inl (upd (upd (fun _ => 0) 0 x3) 1 x4)))] := hD
  refine lv_dup hx hb dX3_roofTold_22 rfl ?_
  refine lv_iconst (v := 2) hx hb dX3_roofTold_23 (by decide) ?_
  refine lv_aload_n hx hb dX3_roofTold_24 rfl (lv_at hl 0 rfl) ?_
  refine va_get (D := (dC, dI)) (ci := 3) (v := .ref sl) (C := RX3) (T := TX3) (N := 10) hx hb hts (by decide +kernel) hown hK hP 0 rfl rfl 4 (by decide) (hts (.fieldLink RX3 16 "ThatchRoofModel" "slope" "[I") (by decide +kernel)) (fun _ h9 => h9) rfl dX3_roofTold_25 ?_
  refine lv_iload_n hx hb dX3_roofTold_28 rfl (lv_at hl 1 rfl) ?_
  refine va_iald hx hb hK hP 4 2 rfl rfl (vp_in_nI (by omega) (by omega)) dX3_roofTold_29 ?_
  refine lv_topi (fun x5 ex5 => ?_)
  rw [nI_clamp (show ru < 2 ^ 31 by omega)] at ex5
  refine va_iast hx hb hK hP hD hS 10 8 rfl rfl (vp_in_nI (n := 2) (by decide) (by decide)) dX3_roofTold_30 (fun H locs hP hD hS => ?_)
  have hP : va_P (dC, dI) vwCl [(hm, .inr (3, [.int th, .int 6, .ref wi, .ref co, .ref sl, .ref rn, .ref so, .ref bn, .ref sm, .ref ah])), (sm, .inr (2, [.int 0, .ref gr, .ref gt, .ref gw, .ref gk, .ref gi, .ref gp, .ref go, .ref gg, .ref hm])), (wi, .inl (d1, 6, .inl fw)), (co, .inl (d2, 6, .inl fc)), (sl, .inl (d3, 6, .inl fs)), (gr, .inl (d4, 6, .inl fg)), (gt, .inl (d8, 6, .inl ft)), (gw, .inl (d9, 6, .inl fu)), (gk, .inl (d10, 360, .inl fk)), (gi, .inl (d11, 360, .inl (fun _ => 0))), (q1, .inl (cA2, 9, .inl (upd (upd (upd (fun _ => 0) 0 x3) 1 x4) 2 x5)))] H := hP
  have hD : va_D A [(hm, .inr (3, [.int th, .int 6, .ref wi, .ref co, .ref sl, .ref rn, .ref so, .ref bn, .ref sm, .ref ah])), (sm, .inr (2, [.int 0, .ref gr, .ref gt, .ref gw, .ref gk, .ref gi, .ref gp, .ref go, .ref gg, .ref hm])), (wi, .inl (d1, 6, .inl fw)), (co, .inl (d2, 6, .inl fc)), (sl, .inl (d3, 6, .inl fs)), (gr, .inl (d4, 6, .inl fg)), (gt, .inl (d8, 6, .inl ft)), (gw, .inl (d9, 6, .inl fu)), (gk, .inl (d10, 360, .inl fk)), (gi, .inl (d11, 360, .inl (fun _ => 0))), (q1, .inl (cA2, 9, .inl (upd (upd (upd (fun _ => 0) 0 x3) 1 x4) 2 x5)))] := hD
  refine lv_dup hx hb dX3_roofTold_31 rfl ?_
  refine lv_iconst (v := 3) hx hb dX3_roofTold_32 (by decide) ?_
  refine lv_aload_n hx hb dX3_roofTold_33 rfl (lv_at hl 0 rfl) ?_
  refine va_get (D := (dC, dI)) (ci := 3) (v := .ref sm) (C := RX3) (T := TX3) (N := 10) hx hb hts (by decide +kernel) hown hK hP 0 rfl rfl 8 (by decide) (hts (.fieldLink RX3 33 "ThatchRoofModel" "s" "LThatchRoofModel$State;") (by decide +kernel)) (fun _ h9 => h9) rfl dX3_roofTold_34 ?_
  refine va_getN (D := (dC, dI)) (ci := 2) (v := .ref gr) (C := RX2) (T := TX2) (N := 10) hx hb hts (by decide +kernel) hown hK hP 1 rfl rfl 1 (by decide) (va_Nw.use rfl (zN_RX3_63 hZN)) (fun _ h9 => h9) rfl dX3_roofTold_37 ?_
  refine lv_iload_n hx hb dX3_roofTold_40 rfl (lv_at hl 1 rfl) ?_
  refine va_iald hx hb hK hP 5 3 rfl rfl (vp_in_nI (by omega) (by omega)) dX3_roofTold_41 ?_
  refine lv_topi (fun x6 ex6 => ?_)
  rw [nI_clamp (show ru < 2 ^ 31 by omega)] at ex6
  refine va_iast hx hb hK hP hD hS 10 8 rfl rfl (vp_in_nI (n := 3) (by decide) (by decide)) dX3_roofTold_42 (fun H locs hP hD hS => ?_)
  have hP : va_P (dC, dI) vwCl [(hm, .inr (3, [.int th, .int 6, .ref wi, .ref co, .ref sl, .ref rn, .ref so, .ref bn, .ref sm, .ref ah])), (sm, .inr (2, [.int 0, .ref gr, .ref gt, .ref gw, .ref gk, .ref gi, .ref gp, .ref go, .ref gg, .ref hm])), (wi, .inl (d1, 6, .inl fw)), (co, .inl (d2, 6, .inl fc)), (sl, .inl (d3, 6, .inl fs)), (gr, .inl (d4, 6, .inl fg)), (gt, .inl (d8, 6, .inl ft)), (gw, .inl (d9, 6, .inl fu)), (gk, .inl (d10, 360, .inl fk)), (gi, .inl (d11, 360, .inl (fun _ => 0))), (q1, .inl (cA2, 9, .inl (upd (upd (upd (upd (fun _ => 0) 0 x3) 1 x4) 2 x5) 3 x6)))] H := hP
  have hD : va_D A [(hm, .inr (3, [.int th, .int 6, .ref wi, .ref co, .ref sl, .ref rn, .ref so, .ref bn, .ref sm, .ref ah])), (sm, .inr (2, [.int 0, .ref gr, .ref gt, .ref gw, .ref gk, .ref gi, .ref gp, .ref go, .ref gg, .ref hm])), (wi, .inl (d1, 6, .inl fw)), (co, .inl (d2, 6, .inl fc)), (sl, .inl (d3, 6, .inl fs)), (gr, .inl (d4, 6, .inl fg)), (gt, .inl (d8, 6, .inl ft)), (gw, .inl (d9, 6, .inl fu)), (gk, .inl (d10, 360, .inl fk)), (gi, .inl (d11, 360, .inl (fun _ => 0))), (q1, .inl (cA2, 9, .inl (upd (upd (upd (upd (fun _ => 0) 0 x3) 1 x4) 2 x5) 3 x6)))] := hD
  refine lv_dup hx hb dX3_roofTold_43 rfl ?_
  refine lv_iconst (v := 4) hx hb dX3_roofTold_44 (by decide) ?_
  refine lv_aload_n hx hb dX3_roofTold_45 rfl (lv_at hl 0 rfl) ?_
  refine va_get (D := (dC, dI)) (ci := 3) (v := .ref sm) (C := RX3) (T := TX3) (N := 10) hx hb hts (by decide +kernel) hown hK hP 0 rfl rfl 8 (by decide) (hts (.fieldLink RX3 33 "ThatchRoofModel" "s" "LThatchRoofModel$State;") (by decide +kernel)) (fun _ h9 => h9) rfl dX3_roofTold_46 ?_
  refine lv_iload_n hx hb dX3_roofTold_49 rfl (lv_at hl 1 rfl) ?_
  have hPc := hP.sub (ws' := [(sm, .inr (2, [.int 0, .ref gr, .ref gt, .ref gw, .ref gk, .ref gi, .ref gp, .ref go, .ref gg, .ref hm])), (gk, .inl (d10, 360, .inl fk))]) [1, 8] rfl
  have hKc := hK.sub (tys' := [(d10, .int)]) [6] rfl
  refine vp_callSi (va_runV (As := [.int (nI ru)]) (rest := [.int 4, .ref q1, .ref q1]) ⟨hx, hb, hml, hown, hts⟩ (r2_yealms l dC dI sm hm gr gt gw gk gi gp go gg d10 fk ru (by first | assumption | decide | omega) (by first | assumption | decide | omega)) (cwV 1 hts gX3_roofTold_X2_yealms rfl rfl rfl (by decide +kernel) ⟨Nat.le_of_ble_eq_true rfl, Nat.le_of_ble_eq_true rfl⟩) ⟨fun a U g mk q => by obtain ⟨q0, qP, qK⟩ := q; exact ⟨q0, qP, va_K.moved (u := U) (U := U.calling g mk a) (Vm.Alike.refl U.vm) qK⟩, va_recv hKc hPc (ci := 2) (q0 := 0) rfl rfl, fun U hU hW => ⟨rfl, by rw [hU]; exact hPc, va_K.moved hW.alike hKc⟩⟩ rfl rfl hl.1 rfl (lv_room (Nat.le_of_ble_eq_true rfl)) dX3_roofTold_50 ⟨Nat.le_of_ble_eq_true rfl, Nat.le_of_ble_eq_true rfl⟩).run (fun r7 hr7 => ?_)
  obtain rfl := hr7
  refine va_iast hx hb hK hP hD hS 10 8 rfl rfl (vp_in_nI (n := 4) (by decide) (by decide)) dX3_roofTold_53 (fun H locs hP hD hS => ?_)
  have hP : va_P (dC, dI) vwCl [(hm, .inr (3, [.int th, .int 6, .ref wi, .ref co, .ref sl, .ref rn, .ref so, .ref bn, .ref sm, .ref ah])), (sm, .inr (2, [.int 0, .ref gr, .ref gt, .ref gw, .ref gk, .ref gi, .ref gp, .ref go, .ref gg, .ref hm])), (wi, .inl (d1, 6, .inl fw)), (co, .inl (d2, 6, .inl fc)), (sl, .inl (d3, 6, .inl fs)), (gr, .inl (d4, 6, .inl fg)), (gt, .inl (d8, 6, .inl ft)), (gw, .inl (d9, 6, .inl fu)), (gk, .inl (d10, 360, .inl fk)), (gi, .inl (d11, 360, .inl (fun _ => 0))), (q1, .inl (cA2, 9, .inl (upd (upd (upd (upd (upd (fun _ => 0) 0 x3) 1 x4) 2 x5) 3 x6) 4 0)))] H := hP
  have hD : va_D A [(hm, .inr (3, [.int th, .int 6, .ref wi, .ref co, .ref sl, .ref rn, .ref so, .ref bn, .ref sm, .ref ah])), (sm, .inr (2, [.int 0, .ref gr, .ref gt, .ref gw, .ref gk, .ref gi, .ref gp, .ref go, .ref gg, .ref hm])), (wi, .inl (d1, 6, .inl fw)), (co, .inl (d2, 6, .inl fc)), (sl, .inl (d3, 6, .inl fs)), (gr, .inl (d4, 6, .inl fg)), (gt, .inl (d8, 6, .inl ft)), (gw, .inl (d9, 6, .inl fu)), (gk, .inl (d10, 360, .inl fk)), (gi, .inl (d11, 360, .inl (fun _ => 0))), (q1, .inl (cA2, 9, .inl (upd (upd (upd (upd (upd (fun _ => 0) 0 x3) 1 x4) 2 x5) 3 x6) 4 0)))] := hD
  refine lv_dup hx hb dX3_roofTold_54 rfl ?_
  refine lv_iconst (v := 5) hx hb dX3_roofTold_55 (by decide) ?_
  refine lv_aload_n hx hb dX3_roofTold_56 rfl (lv_at hl 0 rfl) ?_
  refine va_get (D := (dC, dI)) (ci := 3) (v := .ref sm) (C := RX3) (T := TX3) (N := 10) hx hb hts (by decide +kernel) hown hK hP 0 rfl rfl 8 (by decide) (hts (.fieldLink RX3 33 "ThatchRoofModel" "s" "LThatchRoofModel$State;") (by decide +kernel)) (fun _ h9 => h9) rfl dX3_roofTold_57 ?_
  refine lv_iload_n hx hb dX3_roofTold_60 rfl (lv_at hl 1 rfl) ?_
  have hPc := hP.sub (ws' := [(sm, .inr (2, [.int 0, .ref gr, .ref gt, .ref gw, .ref gk, .ref gi, .ref gp, .ref go, .ref gg, .ref hm])), (gi, .inl (d11, 360, .inl (fun _ => 0)))]) [1, 9] rfl
  have hKc := hK.sub (tys' := [(d11, .int)]) [7] rfl
  refine vp_callSi (va_runV (As := [.int (nI ru)]) (rest := [.int 5, .ref q1, .ref q1]) ⟨hx, hb, hml, hown, hts⟩ (r2_thickness l dC dI sm hm gr gt gw gk gi gp go gg d11 ru (by first | assumption | decide | omega)) (cwV 1 hts gX3_roofTold_X2_thickness rfl rfl rfl (by decide +kernel) ⟨Nat.le_of_ble_eq_true rfl, Nat.le_of_ble_eq_true rfl⟩) ⟨fun a U g mk q => by obtain ⟨q0, qP, qK⟩ := q; exact ⟨q0, qP, va_K.moved (u := U) (U := U.calling g mk a) (Vm.Alike.refl U.vm) qK⟩, va_recv hKc hPc (ci := 2) (q0 := 0) rfl rfl, fun U hU hW => ⟨rfl, by rw [hU]; exact hPc, va_K.moved hW.alike hKc⟩⟩ rfl rfl hl.1 rfl (lv_room (Nat.le_of_ble_eq_true rfl)) dX3_roofTold_61 ⟨Nat.le_of_ble_eq_true rfl, Nat.le_of_ble_eq_true rfl⟩).run (fun r8 hr8 => ?_)
  obtain rfl := hr8
  refine va_iast hx hb hK hP hD hS 10 8 rfl rfl (vp_in_nI (n := 5) (by decide) (by decide)) dX3_roofTold_64 (fun H locs hP hD hS => ?_)
  have hP : va_P (dC, dI) vwCl [(hm, .inr (3, [.int th, .int 6, .ref wi, .ref co, .ref sl, .ref rn, .ref so, .ref bn, .ref sm, .ref ah])), (sm, .inr (2, [.int 0, .ref gr, .ref gt, .ref gw, .ref gk, .ref gi, .ref gp, .ref go, .ref gg, .ref hm])), (wi, .inl (d1, 6, .inl fw)), (co, .inl (d2, 6, .inl fc)), (sl, .inl (d3, 6, .inl fs)), (gr, .inl (d4, 6, .inl fg)), (gt, .inl (d8, 6, .inl ft)), (gw, .inl (d9, 6, .inl fu)), (gk, .inl (d10, 360, .inl fk)), (gi, .inl (d11, 360, .inl (fun _ => 0))), (q1, .inl (cA2, 9, .inl (upd (upd (upd (upd (upd (upd (fun _ => 0) 0 x3) 1 x4) 2 x5) 3 x6) 4 0) 5 0)))] H := hP
  have hD : va_D A [(hm, .inr (3, [.int th, .int 6, .ref wi, .ref co, .ref sl, .ref rn, .ref so, .ref bn, .ref sm, .ref ah])), (sm, .inr (2, [.int 0, .ref gr, .ref gt, .ref gw, .ref gk, .ref gi, .ref gp, .ref go, .ref gg, .ref hm])), (wi, .inl (d1, 6, .inl fw)), (co, .inl (d2, 6, .inl fc)), (sl, .inl (d3, 6, .inl fs)), (gr, .inl (d4, 6, .inl fg)), (gt, .inl (d8, 6, .inl ft)), (gw, .inl (d9, 6, .inl fu)), (gk, .inl (d10, 360, .inl fk)), (gi, .inl (d11, 360, .inl (fun _ => 0))), (q1, .inl (cA2, 9, .inl (upd (upd (upd (upd (upd (upd (fun _ => 0) 0 x3) 1 x4) 2 x5) 3 x6) 4 0) 5 0)))] := hD
  refine lv_dup hx hb dX3_roofTold_65 rfl ?_
  refine lv_bipush (v := 6) hx hb dX3_roofTold_66 (by decide) ?_
  refine lv_aload_n hx hb dX3_roofTold_68 rfl (lv_at hl 0 rfl) ?_
  refine va_get (D := (dC, dI)) (ci := 3) (v := .ref sm) (C := RX3) (T := TX3) (N := 10) hx hb hts (by decide +kernel) hown hK hP 0 rfl rfl 8 (by decide) (hts (.fieldLink RX3 33 "ThatchRoofModel" "s" "LThatchRoofModel$State;") (by decide +kernel)) (fun _ h9 => h9) rfl dX3_roofTold_69 ?_
  refine lv_iload_n hx hb dX3_roofTold_72 rfl (lv_at hl 1 rfl) ?_
  have hPc := hP.sub (ws' := [(sm, .inr (2, [.int 0, .ref gr, .ref gt, .ref gw, .ref gk, .ref gi, .ref gp, .ref go, .ref gg, .ref hm])), (hm, .inr (3, [.int th, .int 6, .ref wi, .ref co, .ref sl, .ref rn, .ref so, .ref bn, .ref sm, .ref ah])), (wi, .inl (d1, 6, .inl fw)), (co, .inl (d2, 6, .inl fc)), (gk, .inl (d10, 360, .inl fk)), (gi, .inl (d11, 360, .inl (fun _ => 0)))]) [1, 0, 2, 3, 8, 9] rfl
  have hKc := hK.sub (tys' := [(d1, .int), (d2, .int), (d10, .int), (d11, .int)]) [0, 1, 6, 7] rfl
  refine vp_callSi (va_runV (As := [.int (nI ru)]) (rest := [.int 6, .ref q1, .ref q1]) ⟨hx, hb, hml, hown, hts⟩ (r2_leaks l dC dI hm wi co sl rn so bn sm ah th gr gt gw gk gi gp go gg d1 d2 d10 d11 fw fc fk ru (by first | assumption | decide | omega) (by first | assumption | decide | omega) (by first | assumption | decide | omega) (by first | assumption | decide | omega)) (cwV 1 hts gX3_roofTold_X2_leaks rfl rfl rfl (by decide +kernel) ⟨Nat.le_of_ble_eq_true rfl, Nat.le_of_ble_eq_true rfl⟩) ⟨fun a U g mk q => by obtain ⟨q0, qP, qK, qN⟩ := q; exact ⟨q0, qP, va_K.moved (u := U) (U := U.calling g mk a) (Vm.Alike.refl U.vm) qK, zNs.calling qN⟩, va_recv hKc hPc (ci := 2) (q0 := 0) rfl rfl, fun U hU hW => ⟨rfl, by rw [hU]; exact hPc, va_K.moved hW.alike hKc, zNs.warm hW hZN⟩⟩ rfl rfl hl.1 rfl (lv_room (Nat.le_of_ble_eq_true rfl)) dX3_roofTold_73 ⟨Nat.le_of_ble_eq_true rfl, Nat.le_of_ble_eq_true rfl⟩).run (fun r9 hr9 => ?_)
  obtain - := hr9
  refine va_iast hx hb hK hP hD hS 10 8 rfl rfl (vp_in_nI (n := 6) (by decide) (by decide)) dX3_roofTold_76 (fun H locs hP hD hS => ?_)
  have hP : va_P (dC, dI) vwCl [(hm, .inr (3, [.int th, .int 6, .ref wi, .ref co, .ref sl, .ref rn, .ref so, .ref bn, .ref sm, .ref ah])), (sm, .inr (2, [.int 0, .ref gr, .ref gt, .ref gw, .ref gk, .ref gi, .ref gp, .ref go, .ref gg, .ref hm])), (wi, .inl (d1, 6, .inl fw)), (co, .inl (d2, 6, .inl fc)), (sl, .inl (d3, 6, .inl fs)), (gr, .inl (d4, 6, .inl fg)), (gt, .inl (d8, 6, .inl ft)), (gw, .inl (d9, 6, .inl fu)), (gk, .inl (d10, 360, .inl fk)), (gi, .inl (d11, 360, .inl (fun _ => 0))), (q1, .inl (cA2, 9, .inl (upd (upd (upd (upd (upd (upd (upd (fun _ => 0) 0 x3) 1 x4) 2 x5) 3 x6) 4 0) 5 0) 6 r9)))] H := hP
  have hD : va_D A [(hm, .inr (3, [.int th, .int 6, .ref wi, .ref co, .ref sl, .ref rn, .ref so, .ref bn, .ref sm, .ref ah])), (sm, .inr (2, [.int 0, .ref gr, .ref gt, .ref gw, .ref gk, .ref gi, .ref gp, .ref go, .ref gg, .ref hm])), (wi, .inl (d1, 6, .inl fw)), (co, .inl (d2, 6, .inl fc)), (sl, .inl (d3, 6, .inl fs)), (gr, .inl (d4, 6, .inl fg)), (gt, .inl (d8, 6, .inl ft)), (gw, .inl (d9, 6, .inl fu)), (gk, .inl (d10, 360, .inl fk)), (gi, .inl (d11, 360, .inl (fun _ => 0))), (q1, .inl (cA2, 9, .inl (upd (upd (upd (upd (upd (upd (upd (fun _ => 0) 0 x3) 1 x4) 2 x5) 3 x6) 4 0) 5 0) 6 r9)))] := hD
  refine lv_dup hx hb dX3_roofTold_77 rfl ?_
  refine lv_bipush (v := 7) hx hb dX3_roofTold_78 (by decide) ?_
  refine lv_aload_n hx hb dX3_roofTold_80 rfl (lv_at hl 0 rfl) ?_
  refine va_get (D := (dC, dI)) (ci := 3) (v := .ref sm) (C := RX3) (T := TX3) (N := 10) hx hb hts (by decide +kernel) hown hK hP 0 rfl rfl 8 (by decide) (hts (.fieldLink RX3 33 "ThatchRoofModel" "s" "LThatchRoofModel$State;") (by decide +kernel)) (fun _ h9 => h9) rfl dX3_roofTold_81 ?_
  refine va_getN (D := (dC, dI)) (ci := 2) (v := .ref gt) (C := RX2) (T := TX2) (N := 10) hx hb hts (by decide +kernel) hown hK hP 1 rfl rfl 2 (by decide) (va_Nw.use rfl (zN_RX3_118 hZN)) (fun _ h9 => h9) rfl dX3_roofTold_84 ?_
  refine lv_iload_n hx hb dX3_roofTold_87 rfl (lv_at hl 1 rfl) ?_
  refine va_iald hx hb hK hP 6 4 rfl rfl (vp_in_nI (by omega) (by omega)) dX3_roofTold_88 ?_
  refine lv_topi (fun x10 ex10 => ?_)
  rw [nI_clamp (show ru < 2 ^ 31 by omega)] at ex10
  refine va_iast hx hb hK hP hD hS 10 8 rfl rfl (vp_in_nI (n := 7) (by decide) (by decide)) dX3_roofTold_89 (fun H locs hP hD hS => ?_)
  have hP : va_P (dC, dI) vwCl [(hm, .inr (3, [.int th, .int 6, .ref wi, .ref co, .ref sl, .ref rn, .ref so, .ref bn, .ref sm, .ref ah])), (sm, .inr (2, [.int 0, .ref gr, .ref gt, .ref gw, .ref gk, .ref gi, .ref gp, .ref go, .ref gg, .ref hm])), (wi, .inl (d1, 6, .inl fw)), (co, .inl (d2, 6, .inl fc)), (sl, .inl (d3, 6, .inl fs)), (gr, .inl (d4, 6, .inl fg)), (gt, .inl (d8, 6, .inl ft)), (gw, .inl (d9, 6, .inl fu)), (gk, .inl (d10, 360, .inl fk)), (gi, .inl (d11, 360, .inl (fun _ => 0))), (q1, .inl (cA2, 9, .inl (upd (upd (upd (upd (upd (upd (upd (upd (fun _ => 0) 0 x3) 1 x4) 2 x5) 3 x6) 4 0) 5 0) 6 r9) 7 x10)))] H := hP
  have hD : va_D A [(hm, .inr (3, [.int th, .int 6, .ref wi, .ref co, .ref sl, .ref rn, .ref so, .ref bn, .ref sm, .ref ah])), (sm, .inr (2, [.int 0, .ref gr, .ref gt, .ref gw, .ref gk, .ref gi, .ref gp, .ref go, .ref gg, .ref hm])), (wi, .inl (d1, 6, .inl fw)), (co, .inl (d2, 6, .inl fc)), (sl, .inl (d3, 6, .inl fs)), (gr, .inl (d4, 6, .inl fg)), (gt, .inl (d8, 6, .inl ft)), (gw, .inl (d9, 6, .inl fu)), (gk, .inl (d10, 360, .inl fk)), (gi, .inl (d11, 360, .inl (fun _ => 0))), (q1, .inl (cA2, 9, .inl (upd (upd (upd (upd (upd (upd (upd (upd (fun _ => 0) 0 x3) 1 x4) 2 x5) 3 x6) 4 0) 5 0) 6 r9) 7 x10)))] := hD
  refine lv_dup hx hb dX3_roofTold_90 rfl ?_
  refine lv_bipush (v := 8) hx hb dX3_roofTold_91 (by decide) ?_
  refine lv_aload_n hx hb dX3_roofTold_93 rfl (lv_at hl 0 rfl) ?_
  refine va_get (D := (dC, dI)) (ci := 3) (v := .ref sm) (C := RX3) (T := TX3) (N := 10) hx hb hts (by decide +kernel) hown hK hP 0 rfl rfl 8 (by decide) (hts (.fieldLink RX3 33 "ThatchRoofModel" "s" "LThatchRoofModel$State;") (by decide +kernel)) (fun _ h9 => h9) rfl dX3_roofTold_94 ?_
  refine va_getN (D := (dC, dI)) (ci := 2) (v := .ref gw) (C := RX2) (T := TX2) (N := 10) hx hb hts (by decide +kernel) hown hK hP 1 rfl rfl 3 (by decide) (va_Nw.use rfl (zN_RX3_121 hZN)) (fun _ h9 => h9) rfl dX3_roofTold_97 ?_
  refine lv_iload_n hx hb dX3_roofTold_100 rfl (lv_at hl 1 rfl) ?_
  refine va_iald hx hb hK hP 7 5 rfl rfl (vp_in_nI (by omega) (by omega)) dX3_roofTold_101 ?_
  refine lv_topi (fun x11 ex11 => ?_)
  rw [nI_clamp (show ru < 2 ^ 31 by omega)] at ex11
  refine va_iast hx hb hK hP hD hS 10 8 rfl rfl (vp_in_nI (n := 8) (by decide) (by decide)) dX3_roofTold_102 (fun H locs hP hD hS => ?_)
  have hP : va_P (dC, dI) vwCl [(hm, .inr (3, [.int th, .int 6, .ref wi, .ref co, .ref sl, .ref rn, .ref so, .ref bn, .ref sm, .ref ah])), (sm, .inr (2, [.int 0, .ref gr, .ref gt, .ref gw, .ref gk, .ref gi, .ref gp, .ref go, .ref gg, .ref hm])), (wi, .inl (d1, 6, .inl fw)), (co, .inl (d2, 6, .inl fc)), (sl, .inl (d3, 6, .inl fs)), (gr, .inl (d4, 6, .inl fg)), (gt, .inl (d8, 6, .inl ft)), (gw, .inl (d9, 6, .inl fu)), (gk, .inl (d10, 360, .inl fk)), (gi, .inl (d11, 360, .inl (fun _ => 0))), (q1, .inl (cA2, 9, .inl (upd (upd (upd (upd (upd (upd (upd (upd (upd (fun _ => 0) 0 x3) 1 x4) 2 x5) 3 x6) 4 0) 5 0) 6 r9) 7 x10) 8 x11)))] H := hP
  have hD : va_D A [(hm, .inr (3, [.int th, .int 6, .ref wi, .ref co, .ref sl, .ref rn, .ref so, .ref bn, .ref sm, .ref ah])), (sm, .inr (2, [.int 0, .ref gr, .ref gt, .ref gw, .ref gk, .ref gi, .ref gp, .ref go, .ref gg, .ref hm])), (wi, .inl (d1, 6, .inl fw)), (co, .inl (d2, 6, .inl fc)), (sl, .inl (d3, 6, .inl fs)), (gr, .inl (d4, 6, .inl fg)), (gt, .inl (d8, 6, .inl ft)), (gw, .inl (d9, 6, .inl fu)), (gk, .inl (d10, 360, .inl fk)), (gi, .inl (d11, 360, .inl (fun _ => 0))), (q1, .inl (cA2, 9, .inl (upd (upd (upd (upd (upd (upd (upd (upd (upd (fun _ => 0) 0 x3) 1 x4) 2 x5) 3 x6) 4 0) 5 0) 6 r9) 7 x10) 8 x11)))] := hD
  refine lv_astore_n (lv' := [(3, .ref q1), (0, .ref hm), (1, .int (nI ru)), (2, .int w)]) hx hb dX3_roofTold_103 rfl hl (by decide) rfl (fun ls hl => ?_)
  refine lv_aload_n hx hb dX3_roofTold_104 rfl (lv_at hl 0 rfl) ?_
  refine lv_iload_n hx hb dX3_roofTold_105 rfl (lv_at hl 3 rfl) ?_
  refine va_iald hx hb hK hP 10 8 rfl rfl (zIn_in (hi := 8) hw8 (by decide)) dX3_roofTold_106 ?_
  refine lv_topi (fun x12 ex12 => ?_)
  have hP9 := hP.sub (ws' := [(hm, .inr (3, [.int th, .int 6, .ref wi, .ref co, .ref sl, .ref rn, .ref so, .ref bn, .ref sm, .ref ah])), (sm, .inr (2, [.int 0, .ref gr, .ref gt, .ref gw, .ref gk, .ref gi, .ref gp, .ref go, .ref gg, .ref hm])), (wi, .inl (d1, 6, .inl fw)), (co, .inl (d2, 6, .inl fc)), (sl, .inl (d3, 6, .inl fs)), (gr, .inl (d4, 6, .inl fg)), (gt, .inl (d8, 6, .inl ft)), (gw, .inl (d9, 6, .inl fu)), (gk, .inl (d10, 360, .inl fk)), (gi, .inl (d11, 360, .inl (fun _ => 0)))]) [0, 1, 2, 3, 4, 5, 6, 7, 8, 9] rfl
  have hD9 := hD.sub (ws' := [(hm, .inr (3, [.int th, .int 6, .ref wi, .ref co, .ref sl, .ref rn, .ref so, .ref bn, .ref sm, .ref ah])), (sm, .inr (2, [.int 0, .ref gr, .ref gt, .ref gw, .ref gk, .ref gi, .ref gp, .ref go, .ref gg, .ref hm])), (wi, .inl (d1, 6, .inl fw)), (co, .inl (d2, 6, .inl fc)), (sl, .inl (d3, 6, .inl fs)), (gr, .inl (d4, 6, .inl fg)), (gt, .inl (d8, 6, .inl ft)), (gw, .inl (d9, 6, .inl fu)), (gk, .inl (d10, 360, .inl fk)), (gi, .inl (d11, 360, .inl (fun _ => 0)))]) [0, 1, 2, 3, 4, 5, 6, 7, 8, 9] (by decide) rfl
  have hK9 := hK.sub (tys' := []) [] rfl
  refine W.widen (k := 1) (n := 9) (Nat.le_of_ble_eq_true rfl) (Nat.le_of_ble_eq_true rfl) ?_
  have hZ := zz_one hAe hD hP 10 [0, 1, 2, 3, 4, 5, 6, 7, 8, 9] rfl rfl (by decide)
  exact W.iret (v := x12) hx hb hr (fun t ht hW => ⟨⟨x12, (), rfl, by exact trivial, ⟨by rw [ht]; exact hP9, va_K.moved hW.alike hK9, hD9, by rw [ht]; omega⟩⟩, hS.F ht⟩) hS.2.2 dX3_roofTold_107

set_option maxHeartbeats 4000000 in
set_option maxRecDepth 100000 in
theorem r3_counted (l : Launch) (dC : Nat → ClassId) (dI : Nat → Nat → Nat) (sz : Nat) (hm : Nat) (wi : Nat) (co : Nat) (sl : Nat) (rn : Nat) (so : Nat) (bn : Nat) (sm : Nat) (ah : Nat) (th : Int32) (gr : Nat) (gt : Nat) (gw : Nat) (gk : Nat) (gi : Nat) (gp : Nat) (go : Nat) (gg : Nat) (d1 : ClassId) (d2 : ClassId) (d5 : ClassId) (d6 : ClassId) (d7 : ClassId) (d10 : ClassId) (d11 : ClassId) (fw : Nat → Int32) (fc : Nat → Int32) (fb : Nat → Int32) (fn : Nat → Int32) (fz : Nat → Int32) (fk : Nat → Int32) (w : Int32) (hk : ∀ j : Nat, j < 360 → fk j = -1) (hw : ∀ j : Nat, j < 6 → fw j = 10) (hc : ∀ j : Nat, j < 6 → fc j = 6) (hw8 : zIn w 0 8) : Met l yX3_counted wsX3_counted ({ frames := 2, cells := 1, slots := 9, locals := 47 }) (va_Pc [.ref hm, .int w] (fun U => U.heap.size = sz ∧ va_P (dC, dI) vwCl [(hm, .inr (3, [.int th, .int 6, .ref wi, .ref co, .ref sl, .ref rn, .ref so, .ref bn, .ref sm, .ref ah])), (sm, .inr (2, [.int 0, .ref gr, .ref gt, .ref gw, .ref gk, .ref gi, .ref gp, .ref go, .ref gg, .ref hm])), (wi, .inl (d1, 6, .inl fw)), (co, .inl (d2, 6, .inl fc)), (bn, .inl (d5, 3, .inl fb)), (rn, .inl (d6, 12, .inl fn)), (so, .inl (d7, 12, .inl fz)), (gk, .inl (d10, 360, .inl fk)), (gi, .inl (d11, 360, .inl (fun _ => 0)))] U.heap ∧ va_K (dC, dI) vwCl [(d1, .int), (d2, .int), (d5, .int), (d6, .int), (d7, .int), (d10, .int), (d11, .int)] U ∧ va_D (fun _ => True) [(hm, .inr (3, [.int th, .int 6, .ref wi, .ref co, .ref sl, .ref rn, .ref so, .ref bn, .ref sm, .ref ah])), (sm, .inr (2, [.int 0, .ref gr, .ref gt, .ref gw, .ref gk, .ref gi, .ref gp, .ref go, .ref gg, .ref hm])), (wi, .inl (d1, 6, .inl fw)), (co, .inl (d2, 6, .inl fc)), (bn, .inl (d5, 3, .inl fb)), (rn, .inl (d6, 12, .inl fn)), (so, .inl (d7, 12, .inl fz)), (gk, .inl (d10, 360, .inl fk)), (gi, .inl (d11, 360, .inl (fun _ => 0)))] ∧ zNs U)) (va_Qi (fun (r : Int32) (u : Unit) => True) (fun (u : Unit) (t : State) => va_P (dC, dI) vwCl [(hm, .inr (3, [.int th, .int 6, .ref wi, .ref co, .ref sl, .ref rn, .ref so, .ref bn, .ref sm, .ref ah])), (sm, .inr (2, [.int 0, .ref gr, .ref gt, .ref gw, .ref gk, .ref gi, .ref gp, .ref go, .ref gg, .ref hm])), (wi, .inl (d1, 6, .inl fw)), (co, .inl (d2, 6, .inl fc)), (bn, .inl (d5, 3, .inl fb)), (rn, .inl (d6, 12, .inl fn)), (so, .inl (d7, 12, .inl fz)), (gk, .inl (d10, 360, .inl fk)), (gi, .inl (d11, 360, .inl (fun _ => 0)))] t.heap ∧ va_K (dC, dI) vwCl [] t ∧ va_D (va_A [(hm, .inr (3, [.int th, .int 6, .ref wi, .ref co, .ref sl, .ref rn, .ref so, .ref bn, .ref sm, .ref ah])), (sm, .inr (2, [.int 0, .ref gr, .ref gt, .ref gw, .ref gk, .ref gi, .ref gp, .ref go, .ref gg, .ref hm])), (wi, .inl (d1, 6, .inl fw)), (co, .inl (d2, 6, .inl fc)), (bn, .inl (d5, 3, .inl fb)), (rn, .inl (d6, 12, .inl fn)), (so, .inl (d7, 12, .inl fz)), (gk, .inl (d10, 360, .inl fk)), (gi, .inl (d11, 360, .inl (fun _ => 0)))] sz) [(hm, .inr (3, [.int th, .int 6, .ref wi, .ref co, .ref sl, .ref rn, .ref so, .ref bn, .ref sm, .ref ah])), (sm, .inr (2, [.int 0, .ref gr, .ref gt, .ref gw, .ref gk, .ref gi, .ref gp, .ref go, .ref gg, .ref hm])), (wi, .inl (d1, 6, .inl fw)), (co, .inl (d2, 6, .inl fc)), (bn, .inl (d5, 3, .inl fb)), (rn, .inl (d6, 12, .inl fn)), (so, .inl (d7, 12, .inl fz)), (gk, .inl (d10, 360, .inl fk)), (gi, .inl (d11, 360, .inl (fun _ => 0)))] ∧ sz + 1 ≤ t.heap.size) (va_A [(hm, .inr (3, [.int th, .int 6, .ref wi, .ref co, .ref sl, .ref rn, .ref so, .ref bn, .ref sm, .ref ah])), (sm, .inr (2, [.int 0, .ref gr, .ref gt, .ref gw, .ref gk, .ref gi, .ref gp, .ref go, .ref gg, .ref hm])), (wi, .inl (d1, 6, .inl fw)), (co, .inl (d2, 6, .inl fc)), (bn, .inl (d5, 3, .inl fb)), (rn, .inl (d6, 12, .inl fn)), (so, .inl (d7, 12, .inl fz)), (gk, .inl (d10, 360, .inl fk)), (gi, .inl (d11, 360, .inl (fun _ => 0)))] sz)) 1 9 (va_A [(hm, .inr (3, [.int th, .int 6, .ref wi, .ref co, .ref sl, .ref rn, .ref so, .ref bn, .ref sm, .ref ah])), (sm, .inr (2, [.int 0, .ref gr, .ref gt, .ref gw, .ref gk, .ref gi, .ref gp, .ref go, .ref gg, .ref hm])), (wi, .inl (d1, 6, .inl fw)), (co, .inl (d2, 6, .inl fc)), (bn, .inl (d5, 3, .inl fb)), (rn, .inl (d6, 12, .inl fn)), (so, .inl (d7, 12, .inl fz)), (gk, .inl (d10, 360, .inl fk)), (gi, .inl (d11, 360, .inl (fun _ => 0)))] sz) := by
  refine Met.ofW (cc := cX3_counted) (maxL := 5) (ret := (some .int)) (by decide) rfl ?_
  intro p e s m args below meth c s₁ B hml hv
  obtain ⟨rfl, hsz, hP, hK, hD0, hZN⟩ := hv
  have hx := B.exec
  have hb := B.bytes
  have hr := B.returns
  have hts := atoms_spec (ws := wsX3_counted) B.pre
  have hown : s.vm.findClass RX3 = some m.cls := findClass_of_methodNamed B.named
  have hlocks := B.notSynchronized
  subst hsz
  have hD := hD0.self (sz := s.heap.size)
  generalize hAe : va_A [(hm, .inr (3, [.int th, .int 6, .ref wi, .ref co, .ref sl, .ref rn, .ref so, .ref bn, .ref sm, .ref ah])), (sm, .inr (2, [.int 0, .ref gr, .ref gt, .ref gw, .ref gk, .ref gi, .ref gp, .ref go, .ref gg, .ref hm])), (wi, .inl (d1, 6, .inl fw)), (co, .inl (d2, 6, .inl fc)), (bn, .inl (d5, 3, .inl fb)), (rn, .inl (d6, 12, .inl fn)), (so, .inl (d7, 12, .inl fz)), (gk, .inl (d10, 360, .inl fk)), (gi, .inl (d11, 360, .inl (fun _ => 0)))] s.heap.size = A at hD ⊢
  have hA : ∀ q : Nat, s.heap.size ≤ q → A q := fun q h => by rw [← hAe]; exact Or.inr h
  have hS : va_S A s.heap s.heap [] := va_S.rf
  have hP : va_P (dC, dI) vwCl [(hm, .inr (3, [.int th, .int 6, .ref wi, .ref co, .ref sl, .ref rn, .ref so, .ref bn, .ref sm, .ref ah])), (sm, .inr (2, [.int 0, .ref gr, .ref gt, .ref gw, .ref gk, .ref gi, .ref gp, .ref go, .ref gg, .ref hm])), (wi, .inl (d1, 6, .inl fw)), (co, .inl (d2, 6, .inl fc)), (bn, .inl (d5, 3, .inl fb)), (rn, .inl (d6, 12, .inl fn)), (so, .inl (d7, 12, .inl fz)), (gk, .inl (d10, 360, .inl fk)), (gi, .inl (d11, 360, .inl (fun _ => 0)))] s.heap := hP
  have hl := lv_entry ([.ref hm, .int w]) (n := 5) (Nat.le_of_ble_eq_true rfl)
  rw [lg_entry_eq]
  generalize (lg_sl ([.ref hm, .int w]) ++ List.replicate (5 - (lg_sl ([.ref hm, .int w])).length) Slot.unset).toArray = ls at hl ⊢
  have hl : lv_has ls 5 [(0, .ref hm), (1, .int w)] := hl
  refine lv_iconst (v := 0) hx hb dX3_counted_0 (by decide) ?_
  refine lv_istore_n (lv' := [(2, .int 0), (0, .ref hm), (1, .int w)]) hx hb dX3_counted_1 rfl hl (by decide) rfl (fun ls hl => ?_)
  refine lv_iconst (v := 0) hx hb dX3_counted_2 (by decide) ?_
  refine lv_istore_n (lv' := [(3, .int 0), (2, .int 0), (0, .ref hm), (1, .int w)]) hx hb dX3_counted_3 rfl hl (by decide) rfl (fun ls hl => ?_)
  refine lv_iconst (v := 0) hx hb dX3_counted_4 (by decide) ?_
  refine lv_istore (lv' := [(4, .int 0), (3, .int 0), (2, .int 0), (0, .ref hm), (1, .int w)]) hx hb dX3_counted_5 hl (by decide) rfl (fun ls hl => ?_)
  suffices K7 : ∀ (n : Nat) (i : Nat) (lk : Int32), (i ≤ 6) → 6 - i < n → ∀ (H : Heap) (locs : List Loc), va_P (dC, dI) vwCl [(hm, .inr (3, [.int th, .int 6, .ref wi, .ref co, .ref sl, .ref rn, .ref so, .ref bn, .ref sm, .ref ah])), (sm, .inr (2, [.int 0, .ref gr, .ref gt, .ref gw, .ref gk, .ref gi, .ref gp, .ref go, .ref gg, .ref hm])), (wi, .inl (d1, 6, .inl fw)), (co, .inl (d2, 6, .inl fc)), (bn, .inl (d5, 3, .inl fb)), (rn, .inl (d6, 12, .inl fn)), (so, .inl (d7, 12, .inl fz)), (gk, .inl (d10, 360, .inl fk)), (gi, .inl (d11, 360, .inl (fun _ => 0)))] H → va_D A [(hm, .inr (3, [.int th, .int 6, .ref wi, .ref co, .ref sl, .ref rn, .ref so, .ref bn, .ref sm, .ref ah])), (sm, .inr (2, [.int 0, .ref gr, .ref gt, .ref gw, .ref gk, .ref gi, .ref gp, .ref go, .ref gg, .ref hm])), (wi, .inl (d1, 6, .inl fw)), (co, .inl (d2, 6, .inl fc)), (bn, .inl (d5, 3, .inl fb)), (rn, .inl (d6, 12, .inl fn)), (so, .inl (d7, 12, .inl fz)), (gk, .inl (d10, 360, .inl fk)), (gi, .inl (d11, 360, .inl (fun _ => 0)))] → va_S A s.heap H locs → ∀ ls : Array Slot, lv_has ls 5 [(0, .ref hm), (1, .int w), (2, .int 0), (3, .int lk), (4, .int (nI i))] → W p l e ({ frames := 2, cells := 1, slots := 9, locals := 47 } : Room) s m (([.ref hm, .int w] : List Value).toArray) below meth c H locs 0 0 (MQ below (va_Qi (fun (r : Int32) (u : Unit) => True) (fun (u : Unit) (t : State) => va_P (dC, dI) vwCl [(hm, .inr (3, [.int th, .int 6, .ref wi, .ref co, .ref sl, .ref rn, .ref so, .ref bn, .ref sm, .ref ah])), (sm, .inr (2, [.int 0, .ref gr, .ref gt, .ref gw, .ref gk, .ref gi, .ref gp, .ref go, .ref gg, .ref hm])), (wi, .inl (d1, 6, .inl fw)), (co, .inl (d2, 6, .inl fc)), (bn, .inl (d5, 3, .inl fb)), (rn, .inl (d6, 12, .inl fn)), (so, .inl (d7, 12, .inl fz)), (gk, .inl (d10, 360, .inl fk)), (gi, .inl (d11, 360, .inl (fun _ => 0)))] t.heap ∧ va_K (dC, dI) vwCl [] t ∧ va_D A [(hm, .inr (3, [.int th, .int 6, .ref wi, .ref co, .ref sl, .ref rn, .ref so, .ref bn, .ref sm, .ref ah])), (sm, .inr (2, [.int 0, .ref gr, .ref gt, .ref gw, .ref gk, .ref gi, .ref gp, .ref go, .ref gg, .ref hm])), (wi, .inl (d1, 6, .inl fw)), (co, .inl (d2, 6, .inl fc)), (bn, .inl (d5, 3, .inl fb)), (rn, .inl (d6, 12, .inl fn)), (so, .inl (d7, 12, .inl fz)), (gk, .inl (d10, 360, .inl fk)), (gi, .inl (d11, 360, .inl (fun _ => 0)))] ∧ s.heap.size + 1 ≤ t.heap.size) A) (([.ref hm, .int w] : List Value).toArray) s 1 9 A) (F0 m 7 ls []) from
    K7 _ 0 0 (by decide) (Nat.lt_succ_self _) _ _ hP hD hS _ (lv_sub hl [3, 4, 2, 1, 0] rfl)
  intro n
  induction n with
  | zero =>
    intro i lk hi hn
    exact absurd hn (Nat.not_lt_zero _)
  | succ n ih7 =>
    intro i lk hi hn7 H locs hP hD hS ls hl
    refine lv_iload hx hb dX3_counted_7 (lv_at hl 4 rfl) ?_
    refine lv_aload_n hx hb dX3_counted_9 rfl (lv_at hl 0 rfl) ?_
    refine va_get (D := (dC, dI)) (ci := 3) (v := .int 6) (C := RX3) (T := TX3) (N := 10) hx hb hts (by decide +kernel) hown hK hP 0 rfl rfl 1 (by decide) (hts (.fieldLink RX3 44 "ThatchRoofModel" "roofs" "I") (by decide +kernel)) (fun _ h9 => h9) rfl dX3_counted_10 ?_
    refine lv_icmp_ge (tgt := 46) hx hb dX3_counted_13 (by decide) (fun c1 => ?_) (fun c1 => ?_)
    · have nc1 : 6 ≤ i := (nI_leI (a := 6) (b := i) (by omega) (by omega)).mp c1
      refine lv_bipush (v := 9) hx hb dX3_counted_46 (by decide) ?_
      refine va_newa (atype := .int) (ty := .int) (N' := 9) (a0 := (9, .inl (fun _ => 0))) hx hb (hts (.arrayClass .int) (by decide +kernel)) rfl hK hP hD hS hA (fun _ => rfl) (by decide) (by decide) (by decide) (Nat.le_of_ble_eq_true rfl) (Nat.le_of_ble_eq_true rfl) dX3_counted_48 (fun q2 cA3 H hK hP hD hS => ?_)
      refine W.widen (k := 1) (n := 9) (Nat.le_of_ble_eq_true rfl) (Nat.le_of_ble_eq_true rfl) ?_
      have hK : va_K (dC, dI) vwCl [(d1, .int), (d2, .int), (d5, .int), (d6, .int), (d7, .int), (d10, .int), (d11, .int), (cA3, .int)] s := hK
      have hP : va_P (dC, dI) vwCl [(hm, .inr (3, [.int th, .int 6, .ref wi, .ref co, .ref sl, .ref rn, .ref so, .ref bn, .ref sm, .ref ah])), (sm, .inr (2, [.int 0, .ref gr, .ref gt, .ref gw, .ref gk, .ref gi, .ref gp, .ref go, .ref gg, .ref hm])), (wi, .inl (d1, 6, .inl fw)), (co, .inl (d2, 6, .inl fc)), (bn, .inl (d5, 3, .inl fb)), (rn, .inl (d6, 12, .inl fn)), (so, .inl (d7, 12, .inl fz)), (gk, .inl (d10, 360, .inl fk)), (gi, .inl (d11, 360, .inl (fun _ => 0))), (q2, .inl (cA3, 9, .inl (fun _ => 0)))] H := hP
      have hD : va_D A [(hm, .inr (3, [.int th, .int 6, .ref wi, .ref co, .ref sl, .ref rn, .ref so, .ref bn, .ref sm, .ref ah])), (sm, .inr (2, [.int 0, .ref gr, .ref gt, .ref gw, .ref gk, .ref gi, .ref gp, .ref go, .ref gg, .ref hm])), (wi, .inl (d1, 6, .inl fw)), (co, .inl (d2, 6, .inl fc)), (bn, .inl (d5, 3, .inl fb)), (rn, .inl (d6, 12, .inl fn)), (so, .inl (d7, 12, .inl fz)), (gk, .inl (d10, 360, .inl fk)), (gi, .inl (d11, 360, .inl (fun _ => 0))), (q2, .inl (cA3, 9, .inl (fun _ => 0)))] := hD
      refine lv_dup hx hb dX3_counted_50 rfl ?_
      refine lv_iconst (v := 0) hx hb dX3_counted_51 (by decide) ?_
      refine lv_aload_n hx hb dX3_counted_52 rfl (lv_at hl 0 rfl) ?_
      refine va_get (D := (dC, dI)) (ci := 3) (v := .ref sm) (C := RX3) (T := TX3) (N := 10) hx hb hts (by decide +kernel) hown hK hP 0 rfl rfl 8 (by decide) (hts (.fieldLink RX3 33 "ThatchRoofModel" "s" "LThatchRoofModel$State;") (by decide +kernel)) (fun _ h9 => h9) rfl dX3_counted_53 ?_
      refine va_getN (D := (dC, dI)) (ci := 2) (v := .int 0) (C := RX2) (T := TX2) (N := 10) hx hb hts (by decide +kernel) hown hK hP 1 rfl rfl 0 (by decide) (va_Nw.use rfl (zN_RX3_128 hZN)) (fun _ h9 => h9) rfl dX3_counted_56 ?_
      refine va_iast hx hb hK hP hD hS 9 7 rfl rfl (vp_in_nI (n := 0) (by decide) (by decide)) dX3_counted_59 (fun H locs hP hD hS => ?_)
      have hP : va_P (dC, dI) vwCl [(hm, .inr (3, [.int th, .int 6, .ref wi, .ref co, .ref sl, .ref rn, .ref so, .ref bn, .ref sm, .ref ah])), (sm, .inr (2, [.int 0, .ref gr, .ref gt, .ref gw, .ref gk, .ref gi, .ref gp, .ref go, .ref gg, .ref hm])), (wi, .inl (d1, 6, .inl fw)), (co, .inl (d2, 6, .inl fc)), (bn, .inl (d5, 3, .inl fb)), (rn, .inl (d6, 12, .inl fn)), (so, .inl (d7, 12, .inl fz)), (gk, .inl (d10, 360, .inl fk)), (gi, .inl (d11, 360, .inl (fun _ => 0))), (q2, .inl (cA3, 9, .inl (upd (fun _ => 0) 0 0)))] H := hP
      have hD : va_D A [(hm, .inr (3, [.int th, .int 6, .ref wi, .ref co, .ref sl, .ref rn, .ref so, .ref bn, .ref sm, .ref ah])), (sm, .inr (2, [.int 0, .ref gr, .ref gt, .ref gw, .ref gk, .ref gi, .ref gp, .ref go, .ref gg, .ref hm])), (wi, .inl (d1, 6, .inl fw)), (co, .inl (d2, 6, .inl fc)), (bn, .inl (d5, 3, .inl fb)), (rn, .inl (d6, 12, .inl fn)), (so, .inl (d7, 12, .inl fz)), (gk, .inl (d10, 360, .inl fk)), (gi, .inl (d11, 360, .inl (fun _ => 0))), (q2, .inl (cA3, 9, .inl (upd (fun _ => 0) 0 0)))] := hD
      refine lv_dup hx hb dX3_counted_60 rfl ?_
      refine lv_iconst (v := 1) hx hb dX3_counted_61 (by decide) ?_
      refine lv_aload_n hx hb dX3_counted_62 rfl (lv_at hl 0 rfl) ?_
      refine va_get (D := (dC, dI)) (ci := 3) (v := .int 6) (C := RX3) (T := TX3) (N := 10) hx hb hts (by decide +kernel) hown hK hP 0 rfl rfl 1 (by decide) (hts (.fieldLink RX3 44 "ThatchRoofModel" "roofs" "I") (by decide +kernel)) (fun _ h9 => h9) rfl dX3_counted_63 ?_
      refine va_iast hx hb hK hP hD hS 9 7 rfl rfl (vp_in_nI (n := 1) (by decide) (by decide)) dX3_counted_66 (fun H locs hP hD hS => ?_)
      have hP : va_P (dC, dI) vwCl [(hm, .inr (3, [.int th, .int 6, .ref wi, .ref co, .ref sl, .ref rn, .ref so, .ref bn, .ref sm, .ref ah])), (sm, .inr (2, [.int 0, .ref gr, .ref gt, .ref gw, .ref gk, .ref gi, .ref gp, .ref go, .ref gg, .ref hm])), (wi, .inl (d1, 6, .inl fw)), (co, .inl (d2, 6, .inl fc)), (bn, .inl (d5, 3, .inl fb)), (rn, .inl (d6, 12, .inl fn)), (so, .inl (d7, 12, .inl fz)), (gk, .inl (d10, 360, .inl fk)), (gi, .inl (d11, 360, .inl (fun _ => 0))), (q2, .inl (cA3, 9, .inl (upd (upd (fun _ => 0) 0 0) 1 6)))] H := hP
      have hD : va_D A [(hm, .inr (3, [.int th, .int 6, .ref wi, .ref co, .ref sl, .ref rn, .ref so, .ref bn, .ref sm, .ref ah])), (sm, .inr (2, [.int 0, .ref gr, .ref gt, .ref gw, .ref gk, .ref gi, .ref gp, .ref go, .ref gg, .ref hm])), (wi, .inl (d1, 6, .inl fw)), (co, .inl (d2, 6, .inl fc)), (bn, .inl (d5, 3, .inl fb)), (rn, .inl (d6, 12, .inl fn)), (so, .inl (d7, 12, .inl fz)), (gk, .inl (d10, 360, .inl fk)), (gi, .inl (d11, 360, .inl (fun _ => 0))), (q2, .inl (cA3, 9, .inl (upd (upd (fun _ => 0) 0 0) 1 6)))] := hD
      refine lv_dup hx hb dX3_counted_67 rfl ?_
      refine lv_iconst (v := 2) hx hb dX3_counted_68 (by decide) ?_
      refine lv_aload_n hx hb dX3_counted_69 rfl (lv_at hl 0 rfl) ?_
      refine va_get (D := (dC, dI)) (ci := 3) (v := .ref bn) (C := RX3) (T := TX3) (N := 10) hx hb hts (by decide +kernel) hown hK hP 0 rfl rfl 7 (by decide) (hts (.fieldLink RX3 25 "ThatchRoofModel" "barn" "[I") (by decide +kernel)) (fun _ h9 => h9) rfl dX3_counted_70 ?_
      refine lv_iconst (v := 0) hx hb dX3_counted_73 (by decide) ?_
      refine va_iald hx hb hK hP 4 2 rfl rfl (vp_in_nI (n := 0) (by decide) (by decide)) dX3_counted_74 ?_
      refine lv_topi (fun x4 ex4 => ?_)
      refine va_iast hx hb hK hP hD hS 9 7 rfl rfl (vp_in_nI (n := 2) (by decide) (by decide)) dX3_counted_75 (fun H locs hP hD hS => ?_)
      have hP : va_P (dC, dI) vwCl [(hm, .inr (3, [.int th, .int 6, .ref wi, .ref co, .ref sl, .ref rn, .ref so, .ref bn, .ref sm, .ref ah])), (sm, .inr (2, [.int 0, .ref gr, .ref gt, .ref gw, .ref gk, .ref gi, .ref gp, .ref go, .ref gg, .ref hm])), (wi, .inl (d1, 6, .inl fw)), (co, .inl (d2, 6, .inl fc)), (bn, .inl (d5, 3, .inl fb)), (rn, .inl (d6, 12, .inl fn)), (so, .inl (d7, 12, .inl fz)), (gk, .inl (d10, 360, .inl fk)), (gi, .inl (d11, 360, .inl (fun _ => 0))), (q2, .inl (cA3, 9, .inl (upd (upd (upd (fun _ => 0) 0 0) 1 6) 2 x4)))] H := hP
      have hD : va_D A [(hm, .inr (3, [.int th, .int 6, .ref wi, .ref co, .ref sl, .ref rn, .ref so, .ref bn, .ref sm, .ref ah])), (sm, .inr (2, [.int 0, .ref gr, .ref gt, .ref gw, .ref gk, .ref gi, .ref gp, .ref go, .ref gg, .ref hm])), (wi, .inl (d1, 6, .inl fw)), (co, .inl (d2, 6, .inl fc)), (bn, .inl (d5, 3, .inl fb)), (rn, .inl (d6, 12, .inl fn)), (so, .inl (d7, 12, .inl fz)), (gk, .inl (d10, 360, .inl fk)), (gi, .inl (d11, 360, .inl (fun _ => 0))), (q2, .inl (cA3, 9, .inl (upd (upd (upd (fun _ => 0) 0 0) 1 6) 2 x4)))] := hD
      refine lv_dup hx hb dX3_counted_76 rfl ?_
      refine lv_iconst (v := 3) hx hb dX3_counted_77 (by decide) ?_
      refine lv_aload_n hx hb dX3_counted_78 rfl (lv_at hl 0 rfl) ?_
      refine va_get (D := (dC, dI)) (ci := 3) (v := .ref bn) (C := RX3) (T := TX3) (N := 10) hx hb hts (by decide +kernel) hown hK hP 0 rfl rfl 7 (by decide) (hts (.fieldLink RX3 25 "ThatchRoofModel" "barn" "[I") (by decide +kernel)) (fun _ h9 => h9) rfl dX3_counted_79 ?_
      refine lv_iconst (v := 1) hx hb dX3_counted_82 (by decide) ?_
      refine va_iald hx hb hK hP 4 2 rfl rfl (vp_in_nI (n := 1) (by decide) (by decide)) dX3_counted_83 ?_
      refine lv_topi (fun x5 ex5 => ?_)
      refine va_iast hx hb hK hP hD hS 9 7 rfl rfl (vp_in_nI (n := 3) (by decide) (by decide)) dX3_counted_84 (fun H locs hP hD hS => ?_)
      have hP : va_P (dC, dI) vwCl [(hm, .inr (3, [.int th, .int 6, .ref wi, .ref co, .ref sl, .ref rn, .ref so, .ref bn, .ref sm, .ref ah])), (sm, .inr (2, [.int 0, .ref gr, .ref gt, .ref gw, .ref gk, .ref gi, .ref gp, .ref go, .ref gg, .ref hm])), (wi, .inl (d1, 6, .inl fw)), (co, .inl (d2, 6, .inl fc)), (bn, .inl (d5, 3, .inl fb)), (rn, .inl (d6, 12, .inl fn)), (so, .inl (d7, 12, .inl fz)), (gk, .inl (d10, 360, .inl fk)), (gi, .inl (d11, 360, .inl (fun _ => 0))), (q2, .inl (cA3, 9, .inl (upd (upd (upd (upd (fun _ => 0) 0 0) 1 6) 2 x4) 3 x5)))] H := hP
      have hD : va_D A [(hm, .inr (3, [.int th, .int 6, .ref wi, .ref co, .ref sl, .ref rn, .ref so, .ref bn, .ref sm, .ref ah])), (sm, .inr (2, [.int 0, .ref gr, .ref gt, .ref gw, .ref gk, .ref gi, .ref gp, .ref go, .ref gg, .ref hm])), (wi, .inl (d1, 6, .inl fw)), (co, .inl (d2, 6, .inl fc)), (bn, .inl (d5, 3, .inl fb)), (rn, .inl (d6, 12, .inl fn)), (so, .inl (d7, 12, .inl fz)), (gk, .inl (d10, 360, .inl fk)), (gi, .inl (d11, 360, .inl (fun _ => 0))), (q2, .inl (cA3, 9, .inl (upd (upd (upd (upd (fun _ => 0) 0 0) 1 6) 2 x4) 3 x5)))] := hD
      refine lv_dup hx hb dX3_counted_85 rfl ?_
      refine lv_iconst (v := 4) hx hb dX3_counted_86 (by decide) ?_
      refine lv_aload_n hx hb dX3_counted_87 rfl (lv_at hl 0 rfl) ?_
      refine va_get (D := (dC, dI)) (ci := 3) (v := .ref bn) (C := RX3) (T := TX3) (N := 10) hx hb hts (by decide +kernel) hown hK hP 0 rfl rfl 7 (by decide) (hts (.fieldLink RX3 25 "ThatchRoofModel" "barn" "[I") (by decide +kernel)) (fun _ h9 => h9) rfl dX3_counted_88 ?_
      refine lv_iconst (v := 2) hx hb dX3_counted_91 (by decide) ?_
      refine va_iald hx hb hK hP 4 2 rfl rfl (vp_in_nI (n := 2) (by decide) (by decide)) dX3_counted_92 ?_
      refine lv_topi (fun x6 ex6 => ?_)
      refine va_iast hx hb hK hP hD hS 9 7 rfl rfl (vp_in_nI (n := 4) (by decide) (by decide)) dX3_counted_93 (fun H locs hP hD hS => ?_)
      have hP : va_P (dC, dI) vwCl [(hm, .inr (3, [.int th, .int 6, .ref wi, .ref co, .ref sl, .ref rn, .ref so, .ref bn, .ref sm, .ref ah])), (sm, .inr (2, [.int 0, .ref gr, .ref gt, .ref gw, .ref gk, .ref gi, .ref gp, .ref go, .ref gg, .ref hm])), (wi, .inl (d1, 6, .inl fw)), (co, .inl (d2, 6, .inl fc)), (bn, .inl (d5, 3, .inl fb)), (rn, .inl (d6, 12, .inl fn)), (so, .inl (d7, 12, .inl fz)), (gk, .inl (d10, 360, .inl fk)), (gi, .inl (d11, 360, .inl (fun _ => 0))), (q2, .inl (cA3, 9, .inl (upd (upd (upd (upd (upd (fun _ => 0) 0 0) 1 6) 2 x4) 3 x5) 4 x6)))] H := hP
      have hD : va_D A [(hm, .inr (3, [.int th, .int 6, .ref wi, .ref co, .ref sl, .ref rn, .ref so, .ref bn, .ref sm, .ref ah])), (sm, .inr (2, [.int 0, .ref gr, .ref gt, .ref gw, .ref gk, .ref gi, .ref gp, .ref go, .ref gg, .ref hm])), (wi, .inl (d1, 6, .inl fw)), (co, .inl (d2, 6, .inl fc)), (bn, .inl (d5, 3, .inl fb)), (rn, .inl (d6, 12, .inl fn)), (so, .inl (d7, 12, .inl fz)), (gk, .inl (d10, 360, .inl fk)), (gi, .inl (d11, 360, .inl (fun _ => 0))), (q2, .inl (cA3, 9, .inl (upd (upd (upd (upd (upd (fun _ => 0) 0 0) 1 6) 2 x4) 3 x5) 4 x6)))] := hD
      refine lv_dup hx hb dX3_counted_94 rfl ?_
      refine lv_iconst (v := 5) hx hb dX3_counted_95 (by decide) ?_
      refine lv_iload_n hx hb dX3_counted_96 rfl (lv_at hl 2 rfl) ?_
      refine va_iast hx hb hK hP hD hS 9 7 rfl rfl (vp_in_nI (n := 5) (by decide) (by decide)) dX3_counted_97 (fun H locs hP hD hS => ?_)
      have hP : va_P (dC, dI) vwCl [(hm, .inr (3, [.int th, .int 6, .ref wi, .ref co, .ref sl, .ref rn, .ref so, .ref bn, .ref sm, .ref ah])), (sm, .inr (2, [.int 0, .ref gr, .ref gt, .ref gw, .ref gk, .ref gi, .ref gp, .ref go, .ref gg, .ref hm])), (wi, .inl (d1, 6, .inl fw)), (co, .inl (d2, 6, .inl fc)), (bn, .inl (d5, 3, .inl fb)), (rn, .inl (d6, 12, .inl fn)), (so, .inl (d7, 12, .inl fz)), (gk, .inl (d10, 360, .inl fk)), (gi, .inl (d11, 360, .inl (fun _ => 0))), (q2, .inl (cA3, 9, .inl (upd (upd (upd (upd (upd (upd (fun _ => 0) 0 0) 1 6) 2 x4) 3 x5) 4 x6) 5 0)))] H := hP
      have hD : va_D A [(hm, .inr (3, [.int th, .int 6, .ref wi, .ref co, .ref sl, .ref rn, .ref so, .ref bn, .ref sm, .ref ah])), (sm, .inr (2, [.int 0, .ref gr, .ref gt, .ref gw, .ref gk, .ref gi, .ref gp, .ref go, .ref gg, .ref hm])), (wi, .inl (d1, 6, .inl fw)), (co, .inl (d2, 6, .inl fc)), (bn, .inl (d5, 3, .inl fb)), (rn, .inl (d6, 12, .inl fn)), (so, .inl (d7, 12, .inl fz)), (gk, .inl (d10, 360, .inl fk)), (gi, .inl (d11, 360, .inl (fun _ => 0))), (q2, .inl (cA3, 9, .inl (upd (upd (upd (upd (upd (upd (fun _ => 0) 0 0) 1 6) 2 x4) 3 x5) 4 x6) 5 0)))] := hD
      refine lv_dup hx hb dX3_counted_98 rfl ?_
      refine lv_bipush (v := 6) hx hb dX3_counted_99 (by decide) ?_
      refine lv_iload_n hx hb dX3_counted_101 rfl (lv_at hl 3 rfl) ?_
      refine va_iast hx hb hK hP hD hS 9 7 rfl rfl (vp_in_nI (n := 6) (by decide) (by decide)) dX3_counted_102 (fun H locs hP hD hS => ?_)
      have hP : va_P (dC, dI) vwCl [(hm, .inr (3, [.int th, .int 6, .ref wi, .ref co, .ref sl, .ref rn, .ref so, .ref bn, .ref sm, .ref ah])), (sm, .inr (2, [.int 0, .ref gr, .ref gt, .ref gw, .ref gk, .ref gi, .ref gp, .ref go, .ref gg, .ref hm])), (wi, .inl (d1, 6, .inl fw)), (co, .inl (d2, 6, .inl fc)), (bn, .inl (d5, 3, .inl fb)), (rn, .inl (d6, 12, .inl fn)), (so, .inl (d7, 12, .inl fz)), (gk, .inl (d10, 360, .inl fk)), (gi, .inl (d11, 360, .inl (fun _ => 0))), (q2, .inl (cA3, 9, .inl (upd (upd (upd (upd (upd (upd (upd (fun _ => 0) 0 0) 1 6) 2 x4) 3 x5) 4 x6) 5 0) 6 lk)))] H := hP
      have hD : va_D A [(hm, .inr (3, [.int th, .int 6, .ref wi, .ref co, .ref sl, .ref rn, .ref so, .ref bn, .ref sm, .ref ah])), (sm, .inr (2, [.int 0, .ref gr, .ref gt, .ref gw, .ref gk, .ref gi, .ref gp, .ref go, .ref gg, .ref hm])), (wi, .inl (d1, 6, .inl fw)), (co, .inl (d2, 6, .inl fc)), (bn, .inl (d5, 3, .inl fb)), (rn, .inl (d6, 12, .inl fn)), (so, .inl (d7, 12, .inl fz)), (gk, .inl (d10, 360, .inl fk)), (gi, .inl (d11, 360, .inl (fun _ => 0))), (q2, .inl (cA3, 9, .inl (upd (upd (upd (upd (upd (upd (upd (fun _ => 0) 0 0) 1 6) 2 x4) 3 x5) 4 x6) 5 0) 6 lk)))] := hD
      refine lv_dup hx hb dX3_counted_103 rfl ?_
      refine lv_bipush (v := 7) hx hb dX3_counted_104 (by decide) ?_
      refine lv_aload_n hx hb dX3_counted_106 rfl (lv_at hl 0 rfl) ?_
      refine va_get (D := (dC, dI)) (ci := 3) (v := .ref rn) (C := RX3) (T := TX3) (N := 10) hx hb hts (by decide +kernel) hown hK hP 0 rfl rfl 5 (by decide) (hts (.fieldLink RX3 19 "ThatchRoofModel" "rain" "[I") (by decide +kernel)) (fun _ h9 => h9) rfl dX3_counted_107 ?_
      refine lv_aload_n hx hb dX3_counted_110 rfl (lv_at hl 0 rfl) ?_
      refine va_get (D := (dC, dI)) (ci := 3) (v := .ref sm) (C := RX3) (T := TX3) (N := 10) hx hb hts (by decide +kernel) hown hK hP 0 rfl rfl 8 (by decide) (hts (.fieldLink RX3 33 "ThatchRoofModel" "s" "LThatchRoofModel$State;") (by decide +kernel)) (fun _ h9 => h9) rfl dX3_counted_111 ?_
      refine va_getN (D := (dC, dI)) (ci := 2) (v := .int 0) (C := RX2) (T := TX2) (N := 10) hx hb hts (by decide +kernel) hown hK hP 1 rfl rfl 0 (by decide) (va_Nw.use rfl (zN_RX3_128 hZN)) (fun _ h9 => h9) rfl dX3_counted_114 ?_
      refine lv_bipush (v := 12) hx hb dX3_counted_117 (by decide) ?_
      refine lv_irem hx hb dX3_counted_119 (by decide) ?_
      refine W.eq (g2 := F0 m 120 ls [.int 0, .ref rn, .int 7, .ref q2, .ref q2]) rfl ?_
      refine va_iald hx hb hK hP 5 3 rfl rfl (vp_in_nI (n := 0) (by decide) (by decide)) dX3_counted_120 ?_
      refine lv_topi (fun x7 ex7 => ?_)
      refine va_iast hx hb hK hP hD hS 9 7 rfl rfl (vp_in_nI (n := 7) (by decide) (by decide)) dX3_counted_121 (fun H locs hP hD hS => ?_)
      have hP : va_P (dC, dI) vwCl [(hm, .inr (3, [.int th, .int 6, .ref wi, .ref co, .ref sl, .ref rn, .ref so, .ref bn, .ref sm, .ref ah])), (sm, .inr (2, [.int 0, .ref gr, .ref gt, .ref gw, .ref gk, .ref gi, .ref gp, .ref go, .ref gg, .ref hm])), (wi, .inl (d1, 6, .inl fw)), (co, .inl (d2, 6, .inl fc)), (bn, .inl (d5, 3, .inl fb)), (rn, .inl (d6, 12, .inl fn)), (so, .inl (d7, 12, .inl fz)), (gk, .inl (d10, 360, .inl fk)), (gi, .inl (d11, 360, .inl (fun _ => 0))), (q2, .inl (cA3, 9, .inl (upd (upd (upd (upd (upd (upd (upd (upd (fun _ => 0) 0 0) 1 6) 2 x4) 3 x5) 4 x6) 5 0) 6 lk) 7 x7)))] H := hP
      have hD : va_D A [(hm, .inr (3, [.int th, .int 6, .ref wi, .ref co, .ref sl, .ref rn, .ref so, .ref bn, .ref sm, .ref ah])), (sm, .inr (2, [.int 0, .ref gr, .ref gt, .ref gw, .ref gk, .ref gi, .ref gp, .ref go, .ref gg, .ref hm])), (wi, .inl (d1, 6, .inl fw)), (co, .inl (d2, 6, .inl fc)), (bn, .inl (d5, 3, .inl fb)), (rn, .inl (d6, 12, .inl fn)), (so, .inl (d7, 12, .inl fz)), (gk, .inl (d10, 360, .inl fk)), (gi, .inl (d11, 360, .inl (fun _ => 0))), (q2, .inl (cA3, 9, .inl (upd (upd (upd (upd (upd (upd (upd (upd (fun _ => 0) 0 0) 1 6) 2 x4) 3 x5) 4 x6) 5 0) 6 lk) 7 x7)))] := hD
      refine lv_dup hx hb dX3_counted_122 rfl ?_
      refine lv_bipush (v := 8) hx hb dX3_counted_123 (by decide) ?_
      refine lv_aload_n hx hb dX3_counted_125 rfl (lv_at hl 0 rfl) ?_
      refine va_get (D := (dC, dI)) (ci := 3) (v := .ref so) (C := RX3) (T := TX3) (N := 10) hx hb hts (by decide +kernel) hown hK hP 0 rfl rfl 6 (by decide) (hts (.fieldLink RX3 22 "ThatchRoofModel" "storm" "[I") (by decide +kernel)) (fun _ h9 => h9) rfl dX3_counted_126 ?_
      refine lv_aload_n hx hb dX3_counted_129 rfl (lv_at hl 0 rfl) ?_
      refine va_get (D := (dC, dI)) (ci := 3) (v := .ref sm) (C := RX3) (T := TX3) (N := 10) hx hb hts (by decide +kernel) hown hK hP 0 rfl rfl 8 (by decide) (hts (.fieldLink RX3 33 "ThatchRoofModel" "s" "LThatchRoofModel$State;") (by decide +kernel)) (fun _ h9 => h9) rfl dX3_counted_130 ?_
      refine va_getN (D := (dC, dI)) (ci := 2) (v := .int 0) (C := RX2) (T := TX2) (N := 10) hx hb hts (by decide +kernel) hown hK hP 1 rfl rfl 0 (by decide) (va_Nw.use rfl (zN_RX3_128 hZN)) (fun _ h9 => h9) rfl dX3_counted_133 ?_
      refine lv_bipush (v := 12) hx hb dX3_counted_136 (by decide) ?_
      refine lv_irem hx hb dX3_counted_138 (by decide) ?_
      refine W.eq (g2 := F0 m 139 ls [.int 0, .ref so, .int 8, .ref q2, .ref q2]) rfl ?_
      refine va_iald hx hb hK hP 6 4 rfl rfl (vp_in_nI (n := 0) (by decide) (by decide)) dX3_counted_139 ?_
      refine lv_topi (fun x8 ex8 => ?_)
      refine va_iast hx hb hK hP hD hS 9 7 rfl rfl (vp_in_nI (n := 8) (by decide) (by decide)) dX3_counted_140 (fun H locs hP hD hS => ?_)
      have hP : va_P (dC, dI) vwCl [(hm, .inr (3, [.int th, .int 6, .ref wi, .ref co, .ref sl, .ref rn, .ref so, .ref bn, .ref sm, .ref ah])), (sm, .inr (2, [.int 0, .ref gr, .ref gt, .ref gw, .ref gk, .ref gi, .ref gp, .ref go, .ref gg, .ref hm])), (wi, .inl (d1, 6, .inl fw)), (co, .inl (d2, 6, .inl fc)), (bn, .inl (d5, 3, .inl fb)), (rn, .inl (d6, 12, .inl fn)), (so, .inl (d7, 12, .inl fz)), (gk, .inl (d10, 360, .inl fk)), (gi, .inl (d11, 360, .inl (fun _ => 0))), (q2, .inl (cA3, 9, .inl (upd (upd (upd (upd (upd (upd (upd (upd (upd (fun _ => 0) 0 0) 1 6) 2 x4) 3 x5) 4 x6) 5 0) 6 lk) 7 x7) 8 x8)))] H := hP
      have hD : va_D A [(hm, .inr (3, [.int th, .int 6, .ref wi, .ref co, .ref sl, .ref rn, .ref so, .ref bn, .ref sm, .ref ah])), (sm, .inr (2, [.int 0, .ref gr, .ref gt, .ref gw, .ref gk, .ref gi, .ref gp, .ref go, .ref gg, .ref hm])), (wi, .inl (d1, 6, .inl fw)), (co, .inl (d2, 6, .inl fc)), (bn, .inl (d5, 3, .inl fb)), (rn, .inl (d6, 12, .inl fn)), (so, .inl (d7, 12, .inl fz)), (gk, .inl (d10, 360, .inl fk)), (gi, .inl (d11, 360, .inl (fun _ => 0))), (q2, .inl (cA3, 9, .inl (upd (upd (upd (upd (upd (upd (upd (upd (upd (fun _ => 0) 0 0) 1 6) 2 x4) 3 x5) 4 x6) 5 0) 6 lk) 7 x7) 8 x8)))] := hD
      refine lv_astore (lv' := [(4, .ref q2), (0, .ref hm), (1, .int w), (2, .int 0), (3, .int lk)]) hx hb dX3_counted_141 hl (by decide) rfl (fun ls hl => ?_)
      refine lv_aload hx hb dX3_counted_143 (lv_at hl 0 rfl) ?_
      refine lv_iload_n hx hb dX3_counted_145 rfl (lv_at hl 2 rfl) ?_
      refine va_iald hx hb hK hP 9 7 rfl rfl (zIn_in (hi := 8) hw8 (by decide)) dX3_counted_146 ?_
      refine lv_topi (fun x9 ex9 => ?_)
      have hP9 := hP.sub (ws' := [(hm, .inr (3, [.int th, .int 6, .ref wi, .ref co, .ref sl, .ref rn, .ref so, .ref bn, .ref sm, .ref ah])), (sm, .inr (2, [.int 0, .ref gr, .ref gt, .ref gw, .ref gk, .ref gi, .ref gp, .ref go, .ref gg, .ref hm])), (wi, .inl (d1, 6, .inl fw)), (co, .inl (d2, 6, .inl fc)), (bn, .inl (d5, 3, .inl fb)), (rn, .inl (d6, 12, .inl fn)), (so, .inl (d7, 12, .inl fz)), (gk, .inl (d10, 360, .inl fk)), (gi, .inl (d11, 360, .inl (fun _ => 0)))]) [0, 1, 2, 3, 4, 5, 6, 7, 8] rfl
      have hD9 := hD.sub (ws' := [(hm, .inr (3, [.int th, .int 6, .ref wi, .ref co, .ref sl, .ref rn, .ref so, .ref bn, .ref sm, .ref ah])), (sm, .inr (2, [.int 0, .ref gr, .ref gt, .ref gw, .ref gk, .ref gi, .ref gp, .ref go, .ref gg, .ref hm])), (wi, .inl (d1, 6, .inl fw)), (co, .inl (d2, 6, .inl fc)), (bn, .inl (d5, 3, .inl fb)), (rn, .inl (d6, 12, .inl fn)), (so, .inl (d7, 12, .inl fz)), (gk, .inl (d10, 360, .inl fk)), (gi, .inl (d11, 360, .inl (fun _ => 0)))]) [0, 1, 2, 3, 4, 5, 6, 7, 8] (by decide) rfl
      have hK9 := hK.sub (tys' := []) [] rfl
      refine W.widen (k := 1) (n := 9) (Nat.le_of_ble_eq_true rfl) (Nat.le_of_ble_eq_true rfl) ?_
      have hZ := zz_one hAe hD hP 9 [0, 1, 2, 3, 4, 5, 6, 7, 8] rfl rfl (by decide)
      exact W.iret (v := x9) hx hb hr (fun t ht hW => ⟨⟨x9, (), rfl, by exact trivial, ⟨by rw [ht]; exact hP9, va_K.moved hW.alike hK9, hD9, by rw [ht]; omega⟩⟩, hS.F ht⟩) hS.2.2 dX3_counted_147
    · have nc1 : i < 6 := Nat.lt_of_not_le (fun q => c1 ((nI_leI (a := 6) (b := i) (by omega) (by omega)).mpr q))
      refine lv_iload_n hx hb dX3_counted_16 rfl (lv_at hl 2 rfl) ?_
      refine lv_aload_n hx hb dX3_counted_17 rfl (lv_at hl 0 rfl) ?_
      refine va_get (D := (dC, dI)) (ci := 3) (v := .ref sm) (C := RX3) (T := TX3) (N := 10) hx hb hts (by decide +kernel) hown hK hP 0 rfl rfl 8 (by decide) (hts (.fieldLink RX3 33 "ThatchRoofModel" "s" "LThatchRoofModel$State;") (by decide +kernel)) (fun _ h9 => h9) rfl dX3_counted_18 ?_
      refine lv_iload hx hb dX3_counted_21 (lv_at hl 4 rfl) ?_
      have hPc := hP.sub (ws' := [(sm, .inr (2, [.int 0, .ref gr, .ref gt, .ref gw, .ref gk, .ref gi, .ref gp, .ref go, .ref gg, .ref hm])), (gk, .inl (d10, 360, .inl fk))]) [1, 7] rfl
      have hKc := hK.sub (tys' := [(d10, .int)]) [5] rfl
      refine vp_callSi (va_runV (As := [.int (nI i)]) (rest := [.int 0]) ⟨hx, hb, hml, hown, hts⟩ (r2_yealms l dC dI sm hm gr gt gw gk gi gp go gg d10 fk i (by first | assumption | decide | omega) (by first | assumption | decide | omega)) (cwV 1 hts gX3_counted_X2_yealms rfl rfl rfl (by decide +kernel) ⟨Nat.le_of_ble_eq_true rfl, Nat.le_of_ble_eq_true rfl⟩) ⟨fun a U g mk q => by obtain ⟨q0, qP, qK⟩ := q; exact ⟨q0, qP, va_K.moved (u := U) (U := U.calling g mk a) (Vm.Alike.refl U.vm) qK⟩, va_recv hKc hPc (ci := 2) (q0 := 0) rfl rfl, fun U hU hW => ⟨rfl, by rw [hU]; exact hPc, va_K.moved hW.alike hKc⟩⟩ rfl rfl hl.1 rfl (lv_room (Nat.le_of_ble_eq_true rfl)) dX3_counted_23 ⟨Nat.le_of_ble_eq_true rfl, Nat.le_of_ble_eq_true rfl⟩).run (fun r10 hr10 => ?_)
      obtain rfl := hr10
      refine lv_iadd hx hb dX3_counted_26 ?_
      refine W.eq (g2 := F0 m 27 ls [.int 0]) rfl ?_
      refine lv_istore_n (lv' := [(2, .int 0), (0, .ref hm), (1, .int w), (3, .int lk), (4, .int (nI i))]) hx hb dX3_counted_27 rfl hl (by decide) rfl (fun ls hl => ?_)
      refine lv_iload_n hx hb dX3_counted_28 rfl (lv_at hl 3 rfl) ?_
      refine lv_aload_n hx hb dX3_counted_29 rfl (lv_at hl 1 rfl) ?_
      refine va_get (D := (dC, dI)) (ci := 3) (v := .ref sm) (C := RX3) (T := TX3) (N := 10) hx hb hts (by decide +kernel) hown hK hP 0 rfl rfl 8 (by decide) (hts (.fieldLink RX3 33 "ThatchRoofModel" "s" "LThatchRoofModel$State;") (by decide +kernel)) (fun _ h9 => h9) rfl dX3_counted_30 ?_
      refine lv_iload hx hb dX3_counted_33 (lv_at hl 4 rfl) ?_
      have hPc := hP.sub (ws' := [(sm, .inr (2, [.int 0, .ref gr, .ref gt, .ref gw, .ref gk, .ref gi, .ref gp, .ref go, .ref gg, .ref hm])), (hm, .inr (3, [.int th, .int 6, .ref wi, .ref co, .ref sl, .ref rn, .ref so, .ref bn, .ref sm, .ref ah])), (wi, .inl (d1, 6, .inl fw)), (co, .inl (d2, 6, .inl fc)), (gk, .inl (d10, 360, .inl fk)), (gi, .inl (d11, 360, .inl (fun _ => 0)))]) [1, 0, 2, 3, 7, 8] rfl
      have hKc := hK.sub (tys' := [(d1, .int), (d2, .int), (d10, .int), (d11, .int)]) [0, 1, 5, 6] rfl
      refine vp_callSi (va_runV (As := [.int (nI i)]) (rest := [.int lk]) ⟨hx, hb, hml, hown, hts⟩ (r2_leaks l dC dI hm wi co sl rn so bn sm ah th gr gt gw gk gi gp go gg d1 d2 d10 d11 fw fc fk i (by first | assumption | decide | omega) (by first | assumption | decide | omega) (by first | assumption | decide | omega) (by first | assumption | decide | omega)) (cwV 1 hts gX3_counted_X2_leaks rfl rfl rfl (by decide +kernel) ⟨Nat.le_of_ble_eq_true rfl, Nat.le_of_ble_eq_true rfl⟩) ⟨fun a U g mk q => by obtain ⟨q0, qP, qK, qN⟩ := q; exact ⟨q0, qP, va_K.moved (u := U) (U := U.calling g mk a) (Vm.Alike.refl U.vm) qK, zNs.calling qN⟩, va_recv hKc hPc (ci := 2) (q0 := 0) rfl rfl, fun U hU hW => ⟨rfl, by rw [hU]; exact hPc, va_K.moved hW.alike hKc, zNs.warm hW hZN⟩⟩ rfl rfl hl.1 rfl (lv_room (Nat.le_of_ble_eq_true rfl)) dX3_counted_35 ⟨Nat.le_of_ble_eq_true rfl, Nat.le_of_ble_eq_true rfl⟩).run (fun r11 hr11 => ?_)
      obtain - := hr11
      refine lv_iadd hx hb dX3_counted_38 ?_
      refine lv_topi (fun x12 ex12 => ?_)
      refine lv_istore_n (lv' := [(3, .int x12), (2, .int 0), (0, .ref hm), (1, .int w), (4, .int (nI i))]) hx hb dX3_counted_39 rfl hl (by decide) rfl (fun ls hl => ?_)
      refine lv_iinc (v := nI (i + 1)) (lv' := [(4, .int (nI (i + 1))), (3, .int x12), (2, .int 0), (0, .ref hm), (1, .int w)]) hx hb dX3_counted_40 hl (k := 4) rfl (by exact nI_1 i) (by decide) rfl (fun ls hl => ?_)
      refine lv_goto (tgt := 7) hx hb dX3_counted_43 (by decide) ?_
      exact ih7 (i + 1) x12 (by omega) (by omega) _ _ (hP.sub [0, 1, 2, 3, 4, 5, 6, 7, 8] rfl) (hD.sub [0, 1, 2, 3, 4, 5, 6, 7, 8] (by decide) rfl) hS _ (lv_sub hl [3, 4, 2, 1, 0] rfl)
end

section
set_option maxHeartbeats 4000000 in
set_option maxRecDepth 100000 in
theorem r3_digest (l : Launch) (dC : Nat → ClassId) (dI : Nat → Nat → Nat) (sz : Nat) (hm : Nat) (wi : Nat) (co : Nat) (sl : Nat) (rn : Nat) (so : Nat) (bn : Nat) (sm : Nat) (ah : Nat) (th : Int32) (gr : Nat) (gt : Nat) (gw : Nat) (gk : Nat) (gi : Nat) (gp : Nat) (go : Nat) (gg : Nat) (d1 : ClassId) (d2 : ClassId) (d3 : ClassId) (d4 : ClassId) (d5 : ClassId) (d6 : ClassId) (d7 : ClassId) (d8 : ClassId) (d9 : ClassId) (d10 : ClassId) (d11 : ClassId) (d12 : ClassId) (d13 : ClassId) (fw : Nat → Int32) (fc : Nat → Int32) (fs : Nat → Int32) (fg : Nat → Int32) (fb : Nat → Int32) (fn : Nat → Int32) (fz : Nat → Int32) (ft : Nat → Int32) (fu : Nat → Int32) (fk : Nat → Int32) (fp : Nat → Int32) (fo : Nat → Int32) (hk : ∀ j : Nat, j < 360 → fk j = -1) (hw : ∀ j : Nat, j < 6 → fw j = 10) (hc : ∀ j : Nat, j < 6 → fc j = 6) : Met l yX3_digest wsX3_digest ({ frames := 4, cells := 2223, slots := 13527, locals := 94 }) (va_Pc [.ref hm] (fun U => U.heap.size = sz ∧ va_P (dC, dI) vwCl [(hm, .inr (3, [.int th, .int 6, .ref wi, .ref co, .ref sl, .ref rn, .ref so, .ref bn, .ref sm, .ref ah])), (sm, .inr (2, [.int 0, .ref gr, .ref gt, .ref gw, .ref gk, .ref gi, .ref gp, .ref go, .ref gg, .ref hm])), (wi, .inl (d1, 6, .inl fw)), (co, .inl (d2, 6, .inl fc)), (sl, .inl (d3, 6, .inl fs)), (gr, .inl (d4, 6, .inl fg)), (bn, .inl (d5, 3, .inl fb)), (rn, .inl (d6, 12, .inl fn)), (so, .inl (d7, 12, .inl fz)), (gt, .inl (d8, 6, .inl ft)), (gw, .inl (d9, 6, .inl fu)), (gk, .inl (d10, 360, .inl fk)), (gi, .inl (d11, 360, .inl (fun _ => 0))), (gp, .inl (d12, 360, .inl fp)), (go, .inl (d13, 360, .inl fo))] U.heap ∧ va_K (dC, dI) vwCl [(d1, .int), (d2, .int), (d3, .int), (d4, .int), (d5, .int), (d6, .int), (d7, .int), (d8, .int), (d9, .int), (d10, .int), (d11, .int), (d12, .int), (d13, .int)] U ∧ va_D (fun _ => True) [(hm, .inr (3, [.int th, .int 6, .ref wi, .ref co, .ref sl, .ref rn, .ref so, .ref bn, .ref sm, .ref ah])), (sm, .inr (2, [.int 0, .ref gr, .ref gt, .ref gw, .ref gk, .ref gi, .ref gp, .ref go, .ref gg, .ref hm])), (wi, .inl (d1, 6, .inl fw)), (co, .inl (d2, 6, .inl fc)), (sl, .inl (d3, 6, .inl fs)), (gr, .inl (d4, 6, .inl fg)), (bn, .inl (d5, 3, .inl fb)), (rn, .inl (d6, 12, .inl fn)), (so, .inl (d7, 12, .inl fz)), (gt, .inl (d8, 6, .inl ft)), (gw, .inl (d9, 6, .inl fu)), (gk, .inl (d10, 360, .inl fk)), (gi, .inl (d11, 360, .inl (fun _ => 0))), (gp, .inl (d12, 360, .inl fp)), (go, .inl (d13, 360, .inl fo))] ∧ zNs U)) (va_Ql (fun (r : Int64) (u : Unit) => True) (fun (u : Unit) (t : State) => va_P (dC, dI) vwCl [(hm, .inr (3, [.int 0, .int 6, .ref wi, .ref co, .ref sl, .ref rn, .ref so, .ref bn, .ref sm, .ref ah])), (sm, .inr (2, [.int 0, .ref gr, .ref gt, .ref gw, .ref gk, .ref gi, .ref gp, .ref go, .ref gg, .ref hm])), (wi, .inl (d1, 6, .inl fw)), (co, .inl (d2, 6, .inl fc)), (sl, .inl (d3, 6, .inl fs)), (gr, .inl (d4, 6, .inl fg)), (bn, .inl (d5, 3, .inl fb)), (rn, .inl (d6, 12, .inl fn)), (so, .inl (d7, 12, .inl fz)), (gt, .inl (d8, 6, .inl ft)), (gw, .inl (d9, 6, .inl fu)), (gk, .inl (d10, 360, .inl fk)), (gi, .inl (d11, 360, .inl (fun _ => 0))), (gp, .inl (d12, 360, .inl fp)), (go, .inl (d13, 360, .inl fo))] t.heap ∧ va_K (dC, dI) vwCl [] t ∧ va_D (va_A [(hm, .inr (3, [.int th, .int 6, .ref wi, .ref co, .ref sl, .ref rn, .ref so, .ref bn, .ref sm, .ref ah])), (sm, .inr (2, [.int 0, .ref gr, .ref gt, .ref gw, .ref gk, .ref gi, .ref gp, .ref go, .ref gg, .ref hm])), (wi, .inl (d1, 6, .inl fw)), (co, .inl (d2, 6, .inl fc)), (sl, .inl (d3, 6, .inl fs)), (gr, .inl (d4, 6, .inl fg)), (bn, .inl (d5, 3, .inl fb)), (rn, .inl (d6, 12, .inl fn)), (so, .inl (d7, 12, .inl fz)), (gt, .inl (d8, 6, .inl ft)), (gw, .inl (d9, 6, .inl fu)), (gk, .inl (d10, 360, .inl fk)), (gi, .inl (d11, 360, .inl (fun _ => 0))), (gp, .inl (d12, 360, .inl fp)), (go, .inl (d13, 360, .inl fo))] sz) [(hm, .inr (3, [.int 0, .int 6, .ref wi, .ref co, .ref sl, .ref rn, .ref so, .ref bn, .ref sm, .ref ah])), (sm, .inr (2, [.int 0, .ref gr, .ref gt, .ref gw, .ref gk, .ref gi, .ref gp, .ref go, .ref gg, .ref hm])), (wi, .inl (d1, 6, .inl fw)), (co, .inl (d2, 6, .inl fc)), (sl, .inl (d3, 6, .inl fs)), (gr, .inl (d4, 6, .inl fg)), (bn, .inl (d5, 3, .inl fb)), (rn, .inl (d6, 12, .inl fn)), (so, .inl (d7, 12, .inl fz)), (gt, .inl (d8, 6, .inl ft)), (gw, .inl (d9, 6, .inl fu)), (gk, .inl (d10, 360, .inl fk)), (gi, .inl (d11, 360, .inl (fun _ => 0))), (gp, .inl (d12, 360, .inl fp)), (go, .inl (d13, 360, .inl fo))] ∧ sz + 2223 ≤ t.heap.size) (va_A [(hm, .inr (3, [.int th, .int 6, .ref wi, .ref co, .ref sl, .ref rn, .ref so, .ref bn, .ref sm, .ref ah])), (sm, .inr (2, [.int 0, .ref gr, .ref gt, .ref gw, .ref gk, .ref gi, .ref gp, .ref go, .ref gg, .ref hm])), (wi, .inl (d1, 6, .inl fw)), (co, .inl (d2, 6, .inl fc)), (sl, .inl (d3, 6, .inl fs)), (gr, .inl (d4, 6, .inl fg)), (bn, .inl (d5, 3, .inl fb)), (rn, .inl (d6, 12, .inl fn)), (so, .inl (d7, 12, .inl fz)), (gt, .inl (d8, 6, .inl ft)), (gw, .inl (d9, 6, .inl fu)), (gk, .inl (d10, 360, .inl fk)), (gi, .inl (d11, 360, .inl (fun _ => 0))), (gp, .inl (d12, 360, .inl fp)), (go, .inl (d13, 360, .inl fo))] sz)) 2223 13527 (va_A [(hm, .inr (3, [.int th, .int 6, .ref wi, .ref co, .ref sl, .ref rn, .ref so, .ref bn, .ref sm, .ref ah])), (sm, .inr (2, [.int 0, .ref gr, .ref gt, .ref gw, .ref gk, .ref gi, .ref gp, .ref go, .ref gg, .ref hm])), (wi, .inl (d1, 6, .inl fw)), (co, .inl (d2, 6, .inl fc)), (sl, .inl (d3, 6, .inl fs)), (gr, .inl (d4, 6, .inl fg)), (bn, .inl (d5, 3, .inl fb)), (rn, .inl (d6, 12, .inl fn)), (so, .inl (d7, 12, .inl fz)), (gt, .inl (d8, 6, .inl ft)), (gw, .inl (d9, 6, .inl fu)), (gk, .inl (d10, 360, .inl fk)), (gi, .inl (d11, 360, .inl (fun _ => 0))), (gp, .inl (d12, 360, .inl fp)), (go, .inl (d13, 360, .inl fo))] sz) := by
  refine Met.ofW (cc := cX3_digest) (maxL := 7) (ret := (some .long)) (by decide) rfl ?_
  intro p e s m args below meth c s₁ B hml hv
  obtain ⟨rfl, hsz, hP, hK, hD0, hZN⟩ := hv
  have hx := B.exec
  have hb := B.bytes
  have hr := B.returns
  have hts := atoms_spec (ws := wsX3_digest) B.pre
  have hown : s.vm.findClass RX3 = some m.cls := findClass_of_methodNamed B.named
  have hlocks := B.notSynchronized
  subst hsz
  have hD := hD0.self (sz := s.heap.size)
  generalize hAe : va_A [(hm, .inr (3, [.int th, .int 6, .ref wi, .ref co, .ref sl, .ref rn, .ref so, .ref bn, .ref sm, .ref ah])), (sm, .inr (2, [.int 0, .ref gr, .ref gt, .ref gw, .ref gk, .ref gi, .ref gp, .ref go, .ref gg, .ref hm])), (wi, .inl (d1, 6, .inl fw)), (co, .inl (d2, 6, .inl fc)), (sl, .inl (d3, 6, .inl fs)), (gr, .inl (d4, 6, .inl fg)), (bn, .inl (d5, 3, .inl fb)), (rn, .inl (d6, 12, .inl fn)), (so, .inl (d7, 12, .inl fz)), (gt, .inl (d8, 6, .inl ft)), (gw, .inl (d9, 6, .inl fu)), (gk, .inl (d10, 360, .inl fk)), (gi, .inl (d11, 360, .inl (fun _ => 0))), (gp, .inl (d12, 360, .inl fp)), (go, .inl (d13, 360, .inl fo))] s.heap.size = A at hD ⊢
  have hA : ∀ q : Nat, s.heap.size ≤ q → A q := fun q h => by rw [← hAe]; exact Or.inr h
  have hS : va_S A s.heap s.heap [] := va_S.rf
  have hP : va_P (dC, dI) vwCl [(hm, .inr (3, [.int th, .int 6, .ref wi, .ref co, .ref sl, .ref rn, .ref so, .ref bn, .ref sm, .ref ah])), (sm, .inr (2, [.int 0, .ref gr, .ref gt, .ref gw, .ref gk, .ref gi, .ref gp, .ref go, .ref gg, .ref hm])), (wi, .inl (d1, 6, .inl fw)), (co, .inl (d2, 6, .inl fc)), (sl, .inl (d3, 6, .inl fs)), (gr, .inl (d4, 6, .inl fg)), (bn, .inl (d5, 3, .inl fb)), (rn, .inl (d6, 12, .inl fn)), (so, .inl (d7, 12, .inl fz)), (gt, .inl (d8, 6, .inl ft)), (gw, .inl (d9, 6, .inl fu)), (gk, .inl (d10, 360, .inl fk)), (gi, .inl (d11, 360, .inl (fun _ => 0))), (gp, .inl (d12, 360, .inl fp)), (go, .inl (d13, 360, .inl fo))] s.heap := hP
  have hl := lv_entry ([.ref hm]) (n := 7) (Nat.le_of_ble_eq_true rfl)
  rw [lg_entry_eq]
  generalize (lg_sl ([.ref hm]) ++ List.replicate (7 - (lg_sl ([.ref hm])).length) Slot.unset).toArray = ls at hl ⊢
  have hl : lv_has ls 7 [(0, .ref hm)] := hl
  refine lv_aload_n hx hb dX3_digest_0 rfl (lv_at hl 0 rfl) ?_
  refine lv_iconst (v := 0) hx hb dX3_digest_1 (by decide) ?_
  refine va_put (D := (dC, dI)) (ci := 3) (v := .int 0) (ty := .int) (C := RX3) (T := TX3) (N := 10) hx hb hts (by decide +kernel) tyX3 tyX3_ok nmX3 hown hK hP hD hS 0 rfl rfl 0 (by decide) (hts (.fieldLink RX3 40 "ThatchRoofModel" "thrown" "I") (by decide +kernel)) (fun _ h9 => h9) rfl (by decide +kernel) rfl rfl (Nat.le_of_ble_eq_true rfl) dX3_digest_2 (fun H locs hP hD hS => ?_)
  have hP : va_P (dC, dI) vwCl [(hm, .inr (3, [.int 0, .int 6, .ref wi, .ref co, .ref sl, .ref rn, .ref so, .ref bn, .ref sm, .ref ah])), (sm, .inr (2, [.int 0, .ref gr, .ref gt, .ref gw, .ref gk, .ref gi, .ref gp, .ref go, .ref gg, .ref hm])), (wi, .inl (d1, 6, .inl fw)), (co, .inl (d2, 6, .inl fc)), (sl, .inl (d3, 6, .inl fs)), (gr, .inl (d4, 6, .inl fg)), (bn, .inl (d5, 3, .inl fb)), (rn, .inl (d6, 12, .inl fn)), (so, .inl (d7, 12, .inl fz)), (gt, .inl (d8, 6, .inl ft)), (gw, .inl (d9, 6, .inl fu)), (gk, .inl (d10, 360, .inl fk)), (gi, .inl (d11, 360, .inl (fun _ => 0))), (gp, .inl (d12, 360, .inl fp)), (go, .inl (d13, 360, .inl fo))] H := hP
  have hD : va_D A [(hm, .inr (3, [.int 0, .int 6, .ref wi, .ref co, .ref sl, .ref rn, .ref so, .ref bn, .ref sm, .ref ah])), (sm, .inr (2, [.int 0, .ref gr, .ref gt, .ref gw, .ref gk, .ref gi, .ref gp, .ref go, .ref gg, .ref hm])), (wi, .inl (d1, 6, .inl fw)), (co, .inl (d2, 6, .inl fc)), (sl, .inl (d3, 6, .inl fs)), (gr, .inl (d4, 6, .inl fg)), (bn, .inl (d5, 3, .inl fb)), (rn, .inl (d6, 12, .inl fn)), (so, .inl (d7, 12, .inl fz)), (gt, .inl (d8, 6, .inl ft)), (gw, .inl (d9, 6, .inl fu)), (gk, .inl (d10, 360, .inl fk)), (gi, .inl (d11, 360, .inl (fun _ => 0))), (gp, .inl (d12, 360, .inl fp)), (go, .inl (d13, 360, .inl fo))] := hD
  refine lv_ldc2 (v := 739) hx hb hown (hts (.constantLong RX3 149 739) (by decide +kernel)) dX3_digest_5 ?_
  refine lv_lstore_n (lv' := [(1, .long 739), (0, .ref hm)]) hx hb dX3_digest_8 rfl hl (by decide) rfl (fun ls hl => ?_)
  refine lv_iconst (v := 0) hx hb dX3_digest_9 (by decide) ?_
  refine lv_istore_n (lv' := [(3, .int 0), (1, .long 739), (0, .ref hm)]) hx hb dX3_digest_10 rfl hl (by decide) rfl (fun ls hl => ?_)
  refine lv_iload_n hx hb dX3_digest_11 rfl (lv_at hl 0 rfl) ?_
  refine lv_bipush (v := 8) hx hb dX3_digest_12 (by decide) ?_
  refine lv_icmp_gt (tgt := 36) hx hb dX3_digest_14 (by decide) (fun c1 => absurd c1 (by decide)) (fun c1 => ?_)
  refine lv_lload_n hx hb dX3_digest_17 rfl (lv_at hl 1 rfl) ?_
  refine lv_ldc2 (v := 31) hx hb hown (hts (.constantLong RX3 151 31) (by decide +kernel)) dX3_digest_18 ?_
  refine lv_lmul hx hb dX3_digest_21 ?_
  refine W.eq (g2 := F0 m 22 ls [.long 22909]) rfl ?_
  refine lv_aload_n hx hb dX3_digest_22 rfl (lv_at hl 2 rfl) ?_
  refine lv_iload_n hx hb dX3_digest_23 rfl (lv_at hl 0 rfl) ?_
  have hPc := hP.sub (ws' := [(hm, .inr (3, [.int 0, .int 6, .ref wi, .ref co, .ref sl, .ref rn, .ref so, .ref bn, .ref sm, .ref ah])), (sm, .inr (2, [.int 0, .ref gr, .ref gt, .ref gw, .ref gk, .ref gi, .ref gp, .ref go, .ref gg, .ref hm])), (wi, .inl (d1, 6, .inl fw)), (co, .inl (d2, 6, .inl fc)), (bn, .inl (d5, 3, .inl fb)), (rn, .inl (d6, 12, .inl fn)), (so, .inl (d7, 12, .inl fz)), (gk, .inl (d10, 360, .inl fk)), (gi, .inl (d11, 360, .inl (fun _ => 0)))]) [0, 1, 2, 3, 6, 7, 8, 11, 12] rfl
  have hKc := hK.sub (tys' := [(d1, .int), (d2, .int), (d5, .int), (d6, .int), (d7, .int), (d10, .int), (d11, .int)]) [0, 1, 4, 5, 6, 9, 10] rfl
  have hDc := hD.sub (ws' := [(hm, .inr (3, [.int 0, .int 6, .ref wi, .ref co, .ref sl, .ref rn, .ref so, .ref bn, .ref sm, .ref ah])), (sm, .inr (2, [.int 0, .ref gr, .ref gt, .ref gw, .ref gk, .ref gi, .ref gp, .ref go, .ref gg, .ref hm])), (wi, .inl (d1, 6, .inl fw)), (co, .inl (d2, 6, .inl fc)), (bn, .inl (d5, 3, .inl fb)), (rn, .inl (d6, 12, .inl fn)), (so, .inl (d7, 12, .inl fz)), (gk, .inl (d10, 360, .inl fk)), (gi, .inl (d11, 360, .inl (fun _ => 0)))]) [0, 1, 2, 3, 6, 7, 8, 11, 12] (by decide) rfl
  have hFc := va_free (wc := [(hm, .inr (3, [.int 0, .int 6, .ref wi, .ref co, .ref sl, .ref rn, .ref so, .ref bn, .ref sm, .ref ah])), (sm, .inr (2, [.int 0, .ref gr, .ref gt, .ref gw, .ref gk, .ref gi, .ref gp, .ref go, .ref gg, .ref hm])), (wi, .inl (d1, 6, .inl fw)), (co, .inl (d2, 6, .inl fc)), (bn, .inl (d5, 3, .inl fb)), (rn, .inl (d6, 12, .inl fn)), (so, .inl (d7, 12, .inl fz)), (gk, .inl (d10, 360, .inl fk)), (gi, .inl (d11, 360, .inl (fun _ => 0)))]) hD hS hA [0, 1, 2, 3, 6, 7, 8, 11, 12] rfl
  have hZ : s.heap.size + 0 ≤ H.size := hS.1
  refine va_calli (va_runV (As := [.int 0]) (rest := [.long 22909]) ⟨hx, hb, hml, hown, hts⟩ (r3_counted l dC dI H.size hm wi co sl rn so bn sm ah 0 gr gt gw gk gi gp go gg d1 d2 d5 d6 d7 d10 d11 fw fc fb fn fz fk 0 (by first | assumption | decide | omega) (by first | assumption | decide | omega) (by first | assumption | decide | omega) (⟨by decide, by decide⟩)) (cwV 1 hts gX3_digest_X3_counted rfl rfl rfl (by decide +kernel) ⟨Nat.le_of_ble_eq_true rfl, Nat.le_of_ble_eq_true rfl⟩) ⟨fun a U g mk q => by obtain ⟨q0, q1, qP, qK, qD, qN⟩ := q; exact ⟨q0, q1, qP, va_K.moved (u := U) (U := U.calling g mk a) (Vm.Alike.refl U.vm) qK, qD, zNs.calling qN⟩, va_recv hKc hPc (ci := 3) (q0 := 0) rfl rfl, fun U hU hW => ⟨rfl, by rw [hU], by rw [hU]; exact hPc, va_K.moved hW.alike hKc, hDc.weaken (fun _ _ _ _ => trivial), zNs.warm hW hZN⟩⟩ rfl rfl hl.1 rfl (lv_room (Nat.le_of_ble_eq_true rfl)) dX3_digest_24 ⟨Nat.le_of_ble_eq_true rfl, Nat.le_of_ble_eq_true rfl⟩) hS (fun q _ h => hFc q h) hFc (fun r2 u t H1 locs ht hvm hr2 hB hz1 hk1 hS => ?_)
  obtain ⟨hP1, hK1, hD1, hZ1⟩ := hB
  rw [ht] at hP1 hZ1
  have hZ : s.heap.size + 1 ≤ H1.size := by omega
  have hK1 := va_K.moved hvm.symm hK1
  try dsimp only at hr2
  obtain ⟨hP, hD⟩ := va_join (wr := [(sl, .inl (d3, 6, .inl fs)), (gr, .inl (d4, 6, .inl fg)), (gt, .inl (d8, 6, .inl ft)), (gw, .inl (d9, 6, .inl fu)), (gp, .inl (d12, 360, .inl fp)), (go, .inl (d13, 360, .inl fo))]) (w1 := [(hm, .inr (3, [.int 0, .int 6, .ref wi, .ref co, .ref sl, .ref rn, .ref so, .ref bn, .ref sm, .ref ah])), (sm, .inr (2, [.int 0, .ref gr, .ref gt, .ref gw, .ref gk, .ref gi, .ref gp, .ref go, .ref gg, .ref hm])), (wi, .inl (d1, 6, .inl fw)), (co, .inl (d2, 6, .inl fc)), (bn, .inl (d5, 3, .inl fb)), (rn, .inl (d6, 12, .inl fn)), (so, .inl (d7, 12, .inl fz)), (gk, .inl (d10, 360, .inl fk)), (gi, .inl (d11, 360, .inl (fun _ => 0)))]) hP hD [0, 1, 2, 3, 6, 7, 8, 11, 12] [4, 5, 9, 10, 13, 14] rfl rfl (by decide) (by decide) hk1 hFc hP1 hD1
  generalize H1 = H at hP hS hZ ⊢
  have hP : va_P (dC, dI) vwCl [(sl, .inl (d3, 6, .inl fs)), (gr, .inl (d4, 6, .inl fg)), (gt, .inl (d8, 6, .inl ft)), (gw, .inl (d9, 6, .inl fu)), (gp, .inl (d12, 360, .inl fp)), (go, .inl (d13, 360, .inl fo)), (hm, .inr (3, [.int 0, .int 6, .ref wi, .ref co, .ref sl, .ref rn, .ref so, .ref bn, .ref sm, .ref ah])), (sm, .inr (2, [.int 0, .ref gr, .ref gt, .ref gw, .ref gk, .ref gi, .ref gp, .ref go, .ref gg, .ref hm])), (wi, .inl (d1, 6, .inl fw)), (co, .inl (d2, 6, .inl fc)), (bn, .inl (d5, 3, .inl fb)), (rn, .inl (d6, 12, .inl fn)), (so, .inl (d7, 12, .inl fz)), (gk, .inl (d10, 360, .inl fk)), (gi, .inl (d11, 360, .inl (fun _ => 0)))] H := hP
  have hD : va_D A [(sl, .inl (d3, 6, .inl fs)), (gr, .inl (d4, 6, .inl fg)), (gt, .inl (d8, 6, .inl ft)), (gw, .inl (d9, 6, .inl fu)), (gp, .inl (d12, 360, .inl fp)), (go, .inl (d13, 360, .inl fo)), (hm, .inr (3, [.int 0, .int 6, .ref wi, .ref co, .ref sl, .ref rn, .ref so, .ref bn, .ref sm, .ref ah])), (sm, .inr (2, [.int 0, .ref gr, .ref gt, .ref gw, .ref gk, .ref gi, .ref gp, .ref go, .ref gg, .ref hm])), (wi, .inl (d1, 6, .inl fw)), (co, .inl (d2, 6, .inl fc)), (bn, .inl (d5, 3, .inl fb)), (rn, .inl (d6, 12, .inl fn)), (so, .inl (d7, 12, .inl fz)), (gk, .inl (d10, 360, .inl fk)), (gi, .inl (d11, 360, .inl (fun _ => 0)))] := hD
  refine W.widen (k := 1) (n := 9) (Nat.le_of_ble_eq_true rfl) (Nat.le_of_ble_eq_true rfl) ?_
  obtain - := hr2
  refine lv_i2l (v := r2.toInt64) hx hb dX3_digest_27 (by first | rfl | decide) ?_
  refine lv_ladd hx hb dX3_digest_28 ?_
  refine lv_topl (fun w3 ew3 => ?_)
  refine lv_lstore_n (lv' := [(1, .long w3), (3, .int 0), (0, .ref hm)]) hx hb dX3_digest_29 rfl hl (by decide) rfl (fun ls hl => ?_)
  refine lv_iinc (v := 1) (lv' := [(3, .int 1), (1, .long w3), (0, .ref hm)]) hx hb dX3_digest_30 hl (k := 1) rfl (by decide) (by decide) rfl (fun ls hl => ?_)
  refine lv_goto (tgt := 11) hx hb dX3_digest_33 (by decide) ?_
  refine lv_iload_n hx hb dX3_digest_11 rfl (lv_at hl 0 rfl) ?_
  refine lv_bipush (v := 8) hx hb dX3_digest_12 (by decide) ?_
  refine lv_icmp_gt (tgt := 36) hx hb dX3_digest_14 (by decide) (fun c4 => absurd c4 (by decide)) (fun c4 => ?_)
  refine lv_lload_n hx hb dX3_digest_17 rfl (lv_at hl 1 rfl) ?_
  refine lv_ldc2 (v := 31) hx hb hown (hts (.constantLong RX3 151 31) (by decide +kernel)) dX3_digest_18 ?_
  refine lv_lmul hx hb dX3_digest_21 ?_
  refine lv_topl (fun w5 ew5 => ?_)
  refine lv_aload_n hx hb dX3_digest_22 rfl (lv_at hl 2 rfl) ?_
  refine lv_iload_n hx hb dX3_digest_23 rfl (lv_at hl 0 rfl) ?_
  have hPc := hP.sub (ws' := [(hm, .inr (3, [.int 0, .int 6, .ref wi, .ref co, .ref sl, .ref rn, .ref so, .ref bn, .ref sm, .ref ah])), (sm, .inr (2, [.int 0, .ref gr, .ref gt, .ref gw, .ref gk, .ref gi, .ref gp, .ref go, .ref gg, .ref hm])), (wi, .inl (d1, 6, .inl fw)), (co, .inl (d2, 6, .inl fc)), (bn, .inl (d5, 3, .inl fb)), (rn, .inl (d6, 12, .inl fn)), (so, .inl (d7, 12, .inl fz)), (gk, .inl (d10, 360, .inl fk)), (gi, .inl (d11, 360, .inl (fun _ => 0)))]) [6, 7, 8, 9, 10, 11, 12, 13, 14] rfl
  have hKc := hK.sub (tys' := [(d1, .int), (d2, .int), (d5, .int), (d6, .int), (d7, .int), (d10, .int), (d11, .int)]) [0, 1, 4, 5, 6, 9, 10] rfl
  have hDc := hD.sub (ws' := [(hm, .inr (3, [.int 0, .int 6, .ref wi, .ref co, .ref sl, .ref rn, .ref so, .ref bn, .ref sm, .ref ah])), (sm, .inr (2, [.int 0, .ref gr, .ref gt, .ref gw, .ref gk, .ref gi, .ref gp, .ref go, .ref gg, .ref hm])), (wi, .inl (d1, 6, .inl fw)), (co, .inl (d2, 6, .inl fc)), (bn, .inl (d5, 3, .inl fb)), (rn, .inl (d6, 12, .inl fn)), (so, .inl (d7, 12, .inl fz)), (gk, .inl (d10, 360, .inl fk)), (gi, .inl (d11, 360, .inl (fun _ => 0)))]) [6, 7, 8, 9, 10, 11, 12, 13, 14] (by decide) rfl
  have hFc := va_free (wc := [(hm, .inr (3, [.int 0, .int 6, .ref wi, .ref co, .ref sl, .ref rn, .ref so, .ref bn, .ref sm, .ref ah])), (sm, .inr (2, [.int 0, .ref gr, .ref gt, .ref gw, .ref gk, .ref gi, .ref gp, .ref go, .ref gg, .ref hm])), (wi, .inl (d1, 6, .inl fw)), (co, .inl (d2, 6, .inl fc)), (bn, .inl (d5, 3, .inl fb)), (rn, .inl (d6, 12, .inl fn)), (so, .inl (d7, 12, .inl fz)), (gk, .inl (d10, 360, .inl fk)), (gi, .inl (d11, 360, .inl (fun _ => 0)))]) hD hS hA [6, 7, 8, 9, 10, 11, 12, 13, 14] rfl
  refine va_calli (va_runV (As := [.int 1]) (rest := [.long w5]) ⟨hx, hb, hml, hown, hts⟩ (r3_counted l dC dI H.size hm wi co sl rn so bn sm ah 0 gr gt gw gk gi gp go gg d1 d2 d5 d6 d7 d10 d11 fw fc fb fn fz fk 1 (by first | assumption | decide | omega) (by first | assumption | decide | omega) (by first | assumption | decide | omega) (⟨by decide, by decide⟩)) (cwV 1 hts gX3_digest_X3_counted rfl rfl rfl (by decide +kernel) ⟨Nat.le_of_ble_eq_true rfl, Nat.le_of_ble_eq_true rfl⟩) ⟨fun a U g mk q => by obtain ⟨q0, q1, qP, qK, qD, qN⟩ := q; exact ⟨q0, q1, qP, va_K.moved (u := U) (U := U.calling g mk a) (Vm.Alike.refl U.vm) qK, qD, zNs.calling qN⟩, va_recv hKc hPc (ci := 3) (q0 := 0) rfl rfl, fun U hU hW => ⟨rfl, by rw [hU], by rw [hU]; exact hPc, va_K.moved hW.alike hKc, hDc.weaken (fun _ _ _ _ => trivial), zNs.warm hW hZN⟩⟩ rfl rfl hl.1 rfl (lv_room (Nat.le_of_ble_eq_true rfl)) dX3_digest_24 ⟨Nat.le_of_ble_eq_true rfl, Nat.le_of_ble_eq_true rfl⟩) hS (fun q _ h => hFc q h) hFc (fun r6 u t H1 locs ht hvm hr6 hB hz1 hk1 hS => ?_)
  obtain ⟨hP1, hK1, hD1, hZ1⟩ := hB
  rw [ht] at hP1 hZ1
  have hZ : s.heap.size + 2 ≤ H1.size := by omega
  have hK1 := va_K.moved hvm.symm hK1
  try dsimp only at hr6
  obtain ⟨hP, hD⟩ := va_join (wr := [(sl, .inl (d3, 6, .inl fs)), (gr, .inl (d4, 6, .inl fg)), (gt, .inl (d8, 6, .inl ft)), (gw, .inl (d9, 6, .inl fu)), (gp, .inl (d12, 360, .inl fp)), (go, .inl (d13, 360, .inl fo))]) (w1 := [(hm, .inr (3, [.int 0, .int 6, .ref wi, .ref co, .ref sl, .ref rn, .ref so, .ref bn, .ref sm, .ref ah])), (sm, .inr (2, [.int 0, .ref gr, .ref gt, .ref gw, .ref gk, .ref gi, .ref gp, .ref go, .ref gg, .ref hm])), (wi, .inl (d1, 6, .inl fw)), (co, .inl (d2, 6, .inl fc)), (bn, .inl (d5, 3, .inl fb)), (rn, .inl (d6, 12, .inl fn)), (so, .inl (d7, 12, .inl fz)), (gk, .inl (d10, 360, .inl fk)), (gi, .inl (d11, 360, .inl (fun _ => 0)))]) hP hD [6, 7, 8, 9, 10, 11, 12, 13, 14] [0, 1, 2, 3, 4, 5] rfl rfl (by decide) (by decide) hk1 hFc hP1 hD1
  generalize H1 = H at hP hS hZ ⊢
  have hP : va_P (dC, dI) vwCl [(sl, .inl (d3, 6, .inl fs)), (gr, .inl (d4, 6, .inl fg)), (gt, .inl (d8, 6, .inl ft)), (gw, .inl (d9, 6, .inl fu)), (gp, .inl (d12, 360, .inl fp)), (go, .inl (d13, 360, .inl fo)), (hm, .inr (3, [.int 0, .int 6, .ref wi, .ref co, .ref sl, .ref rn, .ref so, .ref bn, .ref sm, .ref ah])), (sm, .inr (2, [.int 0, .ref gr, .ref gt, .ref gw, .ref gk, .ref gi, .ref gp, .ref go, .ref gg, .ref hm])), (wi, .inl (d1, 6, .inl fw)), (co, .inl (d2, 6, .inl fc)), (bn, .inl (d5, 3, .inl fb)), (rn, .inl (d6, 12, .inl fn)), (so, .inl (d7, 12, .inl fz)), (gk, .inl (d10, 360, .inl fk)), (gi, .inl (d11, 360, .inl (fun _ => 0)))] H := hP
  have hD : va_D A [(sl, .inl (d3, 6, .inl fs)), (gr, .inl (d4, 6, .inl fg)), (gt, .inl (d8, 6, .inl ft)), (gw, .inl (d9, 6, .inl fu)), (gp, .inl (d12, 360, .inl fp)), (go, .inl (d13, 360, .inl fo)), (hm, .inr (3, [.int 0, .int 6, .ref wi, .ref co, .ref sl, .ref rn, .ref so, .ref bn, .ref sm, .ref ah])), (sm, .inr (2, [.int 0, .ref gr, .ref gt, .ref gw, .ref gk, .ref gi, .ref gp, .ref go, .ref gg, .ref hm])), (wi, .inl (d1, 6, .inl fw)), (co, .inl (d2, 6, .inl fc)), (bn, .inl (d5, 3, .inl fb)), (rn, .inl (d6, 12, .inl fn)), (so, .inl (d7, 12, .inl fz)), (gk, .inl (d10, 360, .inl fk)), (gi, .inl (d11, 360, .inl (fun _ => 0)))] := hD
  refine W.widen (k := 2) (n := 18) (Nat.le_of_ble_eq_true rfl) (Nat.le_of_ble_eq_true rfl) ?_
  obtain - := hr6
  refine lv_i2l (v := r6.toInt64) hx hb dX3_digest_27 (by first | rfl | decide) ?_
  refine lv_ladd hx hb dX3_digest_28 ?_
  refine lv_topl (fun w7 ew7 => ?_)
  refine lv_lstore_n (lv' := [(1, .long w7), (3, .int 1), (0, .ref hm)]) hx hb dX3_digest_29 rfl hl (by decide) rfl (fun ls hl => ?_)
  refine lv_iinc (v := 2) (lv' := [(3, .int 2), (1, .long w7), (0, .ref hm)]) hx hb dX3_digest_30 hl (k := 1) rfl (by decide) (by decide) rfl (fun ls hl => ?_)
  refine lv_goto (tgt := 11) hx hb dX3_digest_33 (by decide) ?_
  refine lv_iload_n hx hb dX3_digest_11 rfl (lv_at hl 0 rfl) ?_
  refine lv_bipush (v := 8) hx hb dX3_digest_12 (by decide) ?_
  refine lv_icmp_gt (tgt := 36) hx hb dX3_digest_14 (by decide) (fun c8 => absurd c8 (by decide)) (fun c8 => ?_)
  refine lv_lload_n hx hb dX3_digest_17 rfl (lv_at hl 1 rfl) ?_
  refine lv_ldc2 (v := 31) hx hb hown (hts (.constantLong RX3 151 31) (by decide +kernel)) dX3_digest_18 ?_
  refine lv_lmul hx hb dX3_digest_21 ?_
  refine lv_topl (fun w9 ew9 => ?_)
  refine lv_aload_n hx hb dX3_digest_22 rfl (lv_at hl 2 rfl) ?_
  refine lv_iload_n hx hb dX3_digest_23 rfl (lv_at hl 0 rfl) ?_
  have hPc := hP.sub (ws' := [(hm, .inr (3, [.int 0, .int 6, .ref wi, .ref co, .ref sl, .ref rn, .ref so, .ref bn, .ref sm, .ref ah])), (sm, .inr (2, [.int 0, .ref gr, .ref gt, .ref gw, .ref gk, .ref gi, .ref gp, .ref go, .ref gg, .ref hm])), (wi, .inl (d1, 6, .inl fw)), (co, .inl (d2, 6, .inl fc)), (bn, .inl (d5, 3, .inl fb)), (rn, .inl (d6, 12, .inl fn)), (so, .inl (d7, 12, .inl fz)), (gk, .inl (d10, 360, .inl fk)), (gi, .inl (d11, 360, .inl (fun _ => 0)))]) [6, 7, 8, 9, 10, 11, 12, 13, 14] rfl
  have hKc := hK.sub (tys' := [(d1, .int), (d2, .int), (d5, .int), (d6, .int), (d7, .int), (d10, .int), (d11, .int)]) [0, 1, 4, 5, 6, 9, 10] rfl
  have hDc := hD.sub (ws' := [(hm, .inr (3, [.int 0, .int 6, .ref wi, .ref co, .ref sl, .ref rn, .ref so, .ref bn, .ref sm, .ref ah])), (sm, .inr (2, [.int 0, .ref gr, .ref gt, .ref gw, .ref gk, .ref gi, .ref gp, .ref go, .ref gg, .ref hm])), (wi, .inl (d1, 6, .inl fw)), (co, .inl (d2, 6, .inl fc)), (bn, .inl (d5, 3, .inl fb)), (rn, .inl (d6, 12, .inl fn)), (so, .inl (d7, 12, .inl fz)), (gk, .inl (d10, 360, .inl fk)), (gi, .inl (d11, 360, .inl (fun _ => 0)))]) [6, 7, 8, 9, 10, 11, 12, 13, 14] (by decide) rfl
  have hFc := va_free (wc := [(hm, .inr (3, [.int 0, .int 6, .ref wi, .ref co, .ref sl, .ref rn, .ref so, .ref bn, .ref sm, .ref ah])), (sm, .inr (2, [.int 0, .ref gr, .ref gt, .ref gw, .ref gk, .ref gi, .ref gp, .ref go, .ref gg, .ref hm])), (wi, .inl (d1, 6, .inl fw)), (co, .inl (d2, 6, .inl fc)), (bn, .inl (d5, 3, .inl fb)), (rn, .inl (d6, 12, .inl fn)), (so, .inl (d7, 12, .inl fz)), (gk, .inl (d10, 360, .inl fk)), (gi, .inl (d11, 360, .inl (fun _ => 0)))]) hD hS hA [6, 7, 8, 9, 10, 11, 12, 13, 14] rfl
  refine va_calli (va_runV (As := [.int 2]) (rest := [.long w9]) ⟨hx, hb, hml, hown, hts⟩ (r3_counted l dC dI H.size hm wi co sl rn so bn sm ah 0 gr gt gw gk gi gp go gg d1 d2 d5 d6 d7 d10 d11 fw fc fb fn fz fk 2 (by first | assumption | decide | omega) (by first | assumption | decide | omega) (by first | assumption | decide | omega) (⟨by decide, by decide⟩)) (cwV 1 hts gX3_digest_X3_counted rfl rfl rfl (by decide +kernel) ⟨Nat.le_of_ble_eq_true rfl, Nat.le_of_ble_eq_true rfl⟩) ⟨fun a U g mk q => by obtain ⟨q0, q1, qP, qK, qD, qN⟩ := q; exact ⟨q0, q1, qP, va_K.moved (u := U) (U := U.calling g mk a) (Vm.Alike.refl U.vm) qK, qD, zNs.calling qN⟩, va_recv hKc hPc (ci := 3) (q0 := 0) rfl rfl, fun U hU hW => ⟨rfl, by rw [hU], by rw [hU]; exact hPc, va_K.moved hW.alike hKc, hDc.weaken (fun _ _ _ _ => trivial), zNs.warm hW hZN⟩⟩ rfl rfl hl.1 rfl (lv_room (Nat.le_of_ble_eq_true rfl)) dX3_digest_24 ⟨Nat.le_of_ble_eq_true rfl, Nat.le_of_ble_eq_true rfl⟩) hS (fun q _ h => hFc q h) hFc (fun r10 u t H1 locs ht hvm hr10 hB hz1 hk1 hS => ?_)
  obtain ⟨hP1, hK1, hD1, hZ1⟩ := hB
  rw [ht] at hP1 hZ1
  have hZ : s.heap.size + 3 ≤ H1.size := by omega
  have hK1 := va_K.moved hvm.symm hK1
  try dsimp only at hr10
  obtain ⟨hP, hD⟩ := va_join (wr := [(sl, .inl (d3, 6, .inl fs)), (gr, .inl (d4, 6, .inl fg)), (gt, .inl (d8, 6, .inl ft)), (gw, .inl (d9, 6, .inl fu)), (gp, .inl (d12, 360, .inl fp)), (go, .inl (d13, 360, .inl fo))]) (w1 := [(hm, .inr (3, [.int 0, .int 6, .ref wi, .ref co, .ref sl, .ref rn, .ref so, .ref bn, .ref sm, .ref ah])), (sm, .inr (2, [.int 0, .ref gr, .ref gt, .ref gw, .ref gk, .ref gi, .ref gp, .ref go, .ref gg, .ref hm])), (wi, .inl (d1, 6, .inl fw)), (co, .inl (d2, 6, .inl fc)), (bn, .inl (d5, 3, .inl fb)), (rn, .inl (d6, 12, .inl fn)), (so, .inl (d7, 12, .inl fz)), (gk, .inl (d10, 360, .inl fk)), (gi, .inl (d11, 360, .inl (fun _ => 0)))]) hP hD [6, 7, 8, 9, 10, 11, 12, 13, 14] [0, 1, 2, 3, 4, 5] rfl rfl (by decide) (by decide) hk1 hFc hP1 hD1
  generalize H1 = H at hP hS hZ ⊢
  have hP : va_P (dC, dI) vwCl [(sl, .inl (d3, 6, .inl fs)), (gr, .inl (d4, 6, .inl fg)), (gt, .inl (d8, 6, .inl ft)), (gw, .inl (d9, 6, .inl fu)), (gp, .inl (d12, 360, .inl fp)), (go, .inl (d13, 360, .inl fo)), (hm, .inr (3, [.int 0, .int 6, .ref wi, .ref co, .ref sl, .ref rn, .ref so, .ref bn, .ref sm, .ref ah])), (sm, .inr (2, [.int 0, .ref gr, .ref gt, .ref gw, .ref gk, .ref gi, .ref gp, .ref go, .ref gg, .ref hm])), (wi, .inl (d1, 6, .inl fw)), (co, .inl (d2, 6, .inl fc)), (bn, .inl (d5, 3, .inl fb)), (rn, .inl (d6, 12, .inl fn)), (so, .inl (d7, 12, .inl fz)), (gk, .inl (d10, 360, .inl fk)), (gi, .inl (d11, 360, .inl (fun _ => 0)))] H := hP
  have hD : va_D A [(sl, .inl (d3, 6, .inl fs)), (gr, .inl (d4, 6, .inl fg)), (gt, .inl (d8, 6, .inl ft)), (gw, .inl (d9, 6, .inl fu)), (gp, .inl (d12, 360, .inl fp)), (go, .inl (d13, 360, .inl fo)), (hm, .inr (3, [.int 0, .int 6, .ref wi, .ref co, .ref sl, .ref rn, .ref so, .ref bn, .ref sm, .ref ah])), (sm, .inr (2, [.int 0, .ref gr, .ref gt, .ref gw, .ref gk, .ref gi, .ref gp, .ref go, .ref gg, .ref hm])), (wi, .inl (d1, 6, .inl fw)), (co, .inl (d2, 6, .inl fc)), (bn, .inl (d5, 3, .inl fb)), (rn, .inl (d6, 12, .inl fn)), (so, .inl (d7, 12, .inl fz)), (gk, .inl (d10, 360, .inl fk)), (gi, .inl (d11, 360, .inl (fun _ => 0)))] := hD
  refine W.widen (k := 3) (n := 27) (Nat.le_of_ble_eq_true rfl) (Nat.le_of_ble_eq_true rfl) ?_
  obtain - := hr10
  refine lv_i2l (v := r10.toInt64) hx hb dX3_digest_27 (by first | rfl | decide) ?_
  refine lv_ladd hx hb dX3_digest_28 ?_
  refine lv_topl (fun w11 ew11 => ?_)
  refine lv_lstore_n (lv' := [(1, .long w11), (3, .int 2), (0, .ref hm)]) hx hb dX3_digest_29 rfl hl (by decide) rfl (fun ls hl => ?_)
  refine lv_iinc (v := 3) (lv' := [(3, .int 3), (1, .long w11), (0, .ref hm)]) hx hb dX3_digest_30 hl (k := 1) rfl (by decide) (by decide) rfl (fun ls hl => ?_)
  refine lv_goto (tgt := 11) hx hb dX3_digest_33 (by decide) ?_
  refine lv_iload_n hx hb dX3_digest_11 rfl (lv_at hl 0 rfl) ?_
  refine lv_bipush (v := 8) hx hb dX3_digest_12 (by decide) ?_
  refine lv_icmp_gt (tgt := 36) hx hb dX3_digest_14 (by decide) (fun c12 => absurd c12 (by decide)) (fun c12 => ?_)
  refine lv_lload_n hx hb dX3_digest_17 rfl (lv_at hl 1 rfl) ?_
  refine lv_ldc2 (v := 31) hx hb hown (hts (.constantLong RX3 151 31) (by decide +kernel)) dX3_digest_18 ?_
  refine lv_lmul hx hb dX3_digest_21 ?_
  refine lv_topl (fun w13 ew13 => ?_)
  refine lv_aload_n hx hb dX3_digest_22 rfl (lv_at hl 2 rfl) ?_
  refine lv_iload_n hx hb dX3_digest_23 rfl (lv_at hl 0 rfl) ?_
  have hPc := hP.sub (ws' := [(hm, .inr (3, [.int 0, .int 6, .ref wi, .ref co, .ref sl, .ref rn, .ref so, .ref bn, .ref sm, .ref ah])), (sm, .inr (2, [.int 0, .ref gr, .ref gt, .ref gw, .ref gk, .ref gi, .ref gp, .ref go, .ref gg, .ref hm])), (wi, .inl (d1, 6, .inl fw)), (co, .inl (d2, 6, .inl fc)), (bn, .inl (d5, 3, .inl fb)), (rn, .inl (d6, 12, .inl fn)), (so, .inl (d7, 12, .inl fz)), (gk, .inl (d10, 360, .inl fk)), (gi, .inl (d11, 360, .inl (fun _ => 0)))]) [6, 7, 8, 9, 10, 11, 12, 13, 14] rfl
  have hKc := hK.sub (tys' := [(d1, .int), (d2, .int), (d5, .int), (d6, .int), (d7, .int), (d10, .int), (d11, .int)]) [0, 1, 4, 5, 6, 9, 10] rfl
  have hDc := hD.sub (ws' := [(hm, .inr (3, [.int 0, .int 6, .ref wi, .ref co, .ref sl, .ref rn, .ref so, .ref bn, .ref sm, .ref ah])), (sm, .inr (2, [.int 0, .ref gr, .ref gt, .ref gw, .ref gk, .ref gi, .ref gp, .ref go, .ref gg, .ref hm])), (wi, .inl (d1, 6, .inl fw)), (co, .inl (d2, 6, .inl fc)), (bn, .inl (d5, 3, .inl fb)), (rn, .inl (d6, 12, .inl fn)), (so, .inl (d7, 12, .inl fz)), (gk, .inl (d10, 360, .inl fk)), (gi, .inl (d11, 360, .inl (fun _ => 0)))]) [6, 7, 8, 9, 10, 11, 12, 13, 14] (by decide) rfl
  have hFc := va_free (wc := [(hm, .inr (3, [.int 0, .int 6, .ref wi, .ref co, .ref sl, .ref rn, .ref so, .ref bn, .ref sm, .ref ah])), (sm, .inr (2, [.int 0, .ref gr, .ref gt, .ref gw, .ref gk, .ref gi, .ref gp, .ref go, .ref gg, .ref hm])), (wi, .inl (d1, 6, .inl fw)), (co, .inl (d2, 6, .inl fc)), (bn, .inl (d5, 3, .inl fb)), (rn, .inl (d6, 12, .inl fn)), (so, .inl (d7, 12, .inl fz)), (gk, .inl (d10, 360, .inl fk)), (gi, .inl (d11, 360, .inl (fun _ => 0)))]) hD hS hA [6, 7, 8, 9, 10, 11, 12, 13, 14] rfl
  refine va_calli (va_runV (As := [.int 3]) (rest := [.long w13]) ⟨hx, hb, hml, hown, hts⟩ (r3_counted l dC dI H.size hm wi co sl rn so bn sm ah 0 gr gt gw gk gi gp go gg d1 d2 d5 d6 d7 d10 d11 fw fc fb fn fz fk 3 (by first | assumption | decide | omega) (by first | assumption | decide | omega) (by first | assumption | decide | omega) (⟨by decide, by decide⟩)) (cwV 1 hts gX3_digest_X3_counted rfl rfl rfl (by decide +kernel) ⟨Nat.le_of_ble_eq_true rfl, Nat.le_of_ble_eq_true rfl⟩) ⟨fun a U g mk q => by obtain ⟨q0, q1, qP, qK, qD, qN⟩ := q; exact ⟨q0, q1, qP, va_K.moved (u := U) (U := U.calling g mk a) (Vm.Alike.refl U.vm) qK, qD, zNs.calling qN⟩, va_recv hKc hPc (ci := 3) (q0 := 0) rfl rfl, fun U hU hW => ⟨rfl, by rw [hU], by rw [hU]; exact hPc, va_K.moved hW.alike hKc, hDc.weaken (fun _ _ _ _ => trivial), zNs.warm hW hZN⟩⟩ rfl rfl hl.1 rfl (lv_room (Nat.le_of_ble_eq_true rfl)) dX3_digest_24 ⟨Nat.le_of_ble_eq_true rfl, Nat.le_of_ble_eq_true rfl⟩) hS (fun q _ h => hFc q h) hFc (fun r14 u t H1 locs ht hvm hr14 hB hz1 hk1 hS => ?_)
  obtain ⟨hP1, hK1, hD1, hZ1⟩ := hB
  rw [ht] at hP1 hZ1
  have hZ : s.heap.size + 4 ≤ H1.size := by omega
  have hK1 := va_K.moved hvm.symm hK1
  try dsimp only at hr14
  obtain ⟨hP, hD⟩ := va_join (wr := [(sl, .inl (d3, 6, .inl fs)), (gr, .inl (d4, 6, .inl fg)), (gt, .inl (d8, 6, .inl ft)), (gw, .inl (d9, 6, .inl fu)), (gp, .inl (d12, 360, .inl fp)), (go, .inl (d13, 360, .inl fo))]) (w1 := [(hm, .inr (3, [.int 0, .int 6, .ref wi, .ref co, .ref sl, .ref rn, .ref so, .ref bn, .ref sm, .ref ah])), (sm, .inr (2, [.int 0, .ref gr, .ref gt, .ref gw, .ref gk, .ref gi, .ref gp, .ref go, .ref gg, .ref hm])), (wi, .inl (d1, 6, .inl fw)), (co, .inl (d2, 6, .inl fc)), (bn, .inl (d5, 3, .inl fb)), (rn, .inl (d6, 12, .inl fn)), (so, .inl (d7, 12, .inl fz)), (gk, .inl (d10, 360, .inl fk)), (gi, .inl (d11, 360, .inl (fun _ => 0)))]) hP hD [6, 7, 8, 9, 10, 11, 12, 13, 14] [0, 1, 2, 3, 4, 5] rfl rfl (by decide) (by decide) hk1 hFc hP1 hD1
  generalize H1 = H at hP hS hZ ⊢
  have hP : va_P (dC, dI) vwCl [(sl, .inl (d3, 6, .inl fs)), (gr, .inl (d4, 6, .inl fg)), (gt, .inl (d8, 6, .inl ft)), (gw, .inl (d9, 6, .inl fu)), (gp, .inl (d12, 360, .inl fp)), (go, .inl (d13, 360, .inl fo)), (hm, .inr (3, [.int 0, .int 6, .ref wi, .ref co, .ref sl, .ref rn, .ref so, .ref bn, .ref sm, .ref ah])), (sm, .inr (2, [.int 0, .ref gr, .ref gt, .ref gw, .ref gk, .ref gi, .ref gp, .ref go, .ref gg, .ref hm])), (wi, .inl (d1, 6, .inl fw)), (co, .inl (d2, 6, .inl fc)), (bn, .inl (d5, 3, .inl fb)), (rn, .inl (d6, 12, .inl fn)), (so, .inl (d7, 12, .inl fz)), (gk, .inl (d10, 360, .inl fk)), (gi, .inl (d11, 360, .inl (fun _ => 0)))] H := hP
  have hD : va_D A [(sl, .inl (d3, 6, .inl fs)), (gr, .inl (d4, 6, .inl fg)), (gt, .inl (d8, 6, .inl ft)), (gw, .inl (d9, 6, .inl fu)), (gp, .inl (d12, 360, .inl fp)), (go, .inl (d13, 360, .inl fo)), (hm, .inr (3, [.int 0, .int 6, .ref wi, .ref co, .ref sl, .ref rn, .ref so, .ref bn, .ref sm, .ref ah])), (sm, .inr (2, [.int 0, .ref gr, .ref gt, .ref gw, .ref gk, .ref gi, .ref gp, .ref go, .ref gg, .ref hm])), (wi, .inl (d1, 6, .inl fw)), (co, .inl (d2, 6, .inl fc)), (bn, .inl (d5, 3, .inl fb)), (rn, .inl (d6, 12, .inl fn)), (so, .inl (d7, 12, .inl fz)), (gk, .inl (d10, 360, .inl fk)), (gi, .inl (d11, 360, .inl (fun _ => 0)))] := hD
  refine W.widen (k := 4) (n := 36) (Nat.le_of_ble_eq_true rfl) (Nat.le_of_ble_eq_true rfl) ?_
  obtain - := hr14
  refine lv_i2l (v := r14.toInt64) hx hb dX3_digest_27 (by first | rfl | decide) ?_
  refine lv_ladd hx hb dX3_digest_28 ?_
  refine lv_topl (fun w15 ew15 => ?_)
  refine lv_lstore_n (lv' := [(1, .long w15), (3, .int 3), (0, .ref hm)]) hx hb dX3_digest_29 rfl hl (by decide) rfl (fun ls hl => ?_)
  refine lv_iinc (v := 4) (lv' := [(3, .int 4), (1, .long w15), (0, .ref hm)]) hx hb dX3_digest_30 hl (k := 1) rfl (by decide) (by decide) rfl (fun ls hl => ?_)
  refine lv_goto (tgt := 11) hx hb dX3_digest_33 (by decide) ?_
  refine lv_iload_n hx hb dX3_digest_11 rfl (lv_at hl 0 rfl) ?_
  refine lv_bipush (v := 8) hx hb dX3_digest_12 (by decide) ?_
  refine lv_icmp_gt (tgt := 36) hx hb dX3_digest_14 (by decide) (fun c16 => absurd c16 (by decide)) (fun c16 => ?_)
  refine lv_lload_n hx hb dX3_digest_17 rfl (lv_at hl 1 rfl) ?_
  refine lv_ldc2 (v := 31) hx hb hown (hts (.constantLong RX3 151 31) (by decide +kernel)) dX3_digest_18 ?_
  refine lv_lmul hx hb dX3_digest_21 ?_
  refine lv_topl (fun w17 ew17 => ?_)
  refine lv_aload_n hx hb dX3_digest_22 rfl (lv_at hl 2 rfl) ?_
  refine lv_iload_n hx hb dX3_digest_23 rfl (lv_at hl 0 rfl) ?_
  have hPc := hP.sub (ws' := [(hm, .inr (3, [.int 0, .int 6, .ref wi, .ref co, .ref sl, .ref rn, .ref so, .ref bn, .ref sm, .ref ah])), (sm, .inr (2, [.int 0, .ref gr, .ref gt, .ref gw, .ref gk, .ref gi, .ref gp, .ref go, .ref gg, .ref hm])), (wi, .inl (d1, 6, .inl fw)), (co, .inl (d2, 6, .inl fc)), (bn, .inl (d5, 3, .inl fb)), (rn, .inl (d6, 12, .inl fn)), (so, .inl (d7, 12, .inl fz)), (gk, .inl (d10, 360, .inl fk)), (gi, .inl (d11, 360, .inl (fun _ => 0)))]) [6, 7, 8, 9, 10, 11, 12, 13, 14] rfl
  have hKc := hK.sub (tys' := [(d1, .int), (d2, .int), (d5, .int), (d6, .int), (d7, .int), (d10, .int), (d11, .int)]) [0, 1, 4, 5, 6, 9, 10] rfl
  have hDc := hD.sub (ws' := [(hm, .inr (3, [.int 0, .int 6, .ref wi, .ref co, .ref sl, .ref rn, .ref so, .ref bn, .ref sm, .ref ah])), (sm, .inr (2, [.int 0, .ref gr, .ref gt, .ref gw, .ref gk, .ref gi, .ref gp, .ref go, .ref gg, .ref hm])), (wi, .inl (d1, 6, .inl fw)), (co, .inl (d2, 6, .inl fc)), (bn, .inl (d5, 3, .inl fb)), (rn, .inl (d6, 12, .inl fn)), (so, .inl (d7, 12, .inl fz)), (gk, .inl (d10, 360, .inl fk)), (gi, .inl (d11, 360, .inl (fun _ => 0)))]) [6, 7, 8, 9, 10, 11, 12, 13, 14] (by decide) rfl
  have hFc := va_free (wc := [(hm, .inr (3, [.int 0, .int 6, .ref wi, .ref co, .ref sl, .ref rn, .ref so, .ref bn, .ref sm, .ref ah])), (sm, .inr (2, [.int 0, .ref gr, .ref gt, .ref gw, .ref gk, .ref gi, .ref gp, .ref go, .ref gg, .ref hm])), (wi, .inl (d1, 6, .inl fw)), (co, .inl (d2, 6, .inl fc)), (bn, .inl (d5, 3, .inl fb)), (rn, .inl (d6, 12, .inl fn)), (so, .inl (d7, 12, .inl fz)), (gk, .inl (d10, 360, .inl fk)), (gi, .inl (d11, 360, .inl (fun _ => 0)))]) hD hS hA [6, 7, 8, 9, 10, 11, 12, 13, 14] rfl
  refine va_calli (va_runV (As := [.int 4]) (rest := [.long w17]) ⟨hx, hb, hml, hown, hts⟩ (r3_counted l dC dI H.size hm wi co sl rn so bn sm ah 0 gr gt gw gk gi gp go gg d1 d2 d5 d6 d7 d10 d11 fw fc fb fn fz fk 4 (by first | assumption | decide | omega) (by first | assumption | decide | omega) (by first | assumption | decide | omega) (⟨by decide, by decide⟩)) (cwV 1 hts gX3_digest_X3_counted rfl rfl rfl (by decide +kernel) ⟨Nat.le_of_ble_eq_true rfl, Nat.le_of_ble_eq_true rfl⟩) ⟨fun a U g mk q => by obtain ⟨q0, q1, qP, qK, qD, qN⟩ := q; exact ⟨q0, q1, qP, va_K.moved (u := U) (U := U.calling g mk a) (Vm.Alike.refl U.vm) qK, qD, zNs.calling qN⟩, va_recv hKc hPc (ci := 3) (q0 := 0) rfl rfl, fun U hU hW => ⟨rfl, by rw [hU], by rw [hU]; exact hPc, va_K.moved hW.alike hKc, hDc.weaken (fun _ _ _ _ => trivial), zNs.warm hW hZN⟩⟩ rfl rfl hl.1 rfl (lv_room (Nat.le_of_ble_eq_true rfl)) dX3_digest_24 ⟨Nat.le_of_ble_eq_true rfl, Nat.le_of_ble_eq_true rfl⟩) hS (fun q _ h => hFc q h) hFc (fun r18 u t H1 locs ht hvm hr18 hB hz1 hk1 hS => ?_)
  obtain ⟨hP1, hK1, hD1, hZ1⟩ := hB
  rw [ht] at hP1 hZ1
  have hZ : s.heap.size + 5 ≤ H1.size := by omega
  have hK1 := va_K.moved hvm.symm hK1
  try dsimp only at hr18
  obtain ⟨hP, hD⟩ := va_join (wr := [(sl, .inl (d3, 6, .inl fs)), (gr, .inl (d4, 6, .inl fg)), (gt, .inl (d8, 6, .inl ft)), (gw, .inl (d9, 6, .inl fu)), (gp, .inl (d12, 360, .inl fp)), (go, .inl (d13, 360, .inl fo))]) (w1 := [(hm, .inr (3, [.int 0, .int 6, .ref wi, .ref co, .ref sl, .ref rn, .ref so, .ref bn, .ref sm, .ref ah])), (sm, .inr (2, [.int 0, .ref gr, .ref gt, .ref gw, .ref gk, .ref gi, .ref gp, .ref go, .ref gg, .ref hm])), (wi, .inl (d1, 6, .inl fw)), (co, .inl (d2, 6, .inl fc)), (bn, .inl (d5, 3, .inl fb)), (rn, .inl (d6, 12, .inl fn)), (so, .inl (d7, 12, .inl fz)), (gk, .inl (d10, 360, .inl fk)), (gi, .inl (d11, 360, .inl (fun _ => 0)))]) hP hD [6, 7, 8, 9, 10, 11, 12, 13, 14] [0, 1, 2, 3, 4, 5] rfl rfl (by decide) (by decide) hk1 hFc hP1 hD1
  generalize H1 = H at hP hS hZ ⊢
  have hP : va_P (dC, dI) vwCl [(sl, .inl (d3, 6, .inl fs)), (gr, .inl (d4, 6, .inl fg)), (gt, .inl (d8, 6, .inl ft)), (gw, .inl (d9, 6, .inl fu)), (gp, .inl (d12, 360, .inl fp)), (go, .inl (d13, 360, .inl fo)), (hm, .inr (3, [.int 0, .int 6, .ref wi, .ref co, .ref sl, .ref rn, .ref so, .ref bn, .ref sm, .ref ah])), (sm, .inr (2, [.int 0, .ref gr, .ref gt, .ref gw, .ref gk, .ref gi, .ref gp, .ref go, .ref gg, .ref hm])), (wi, .inl (d1, 6, .inl fw)), (co, .inl (d2, 6, .inl fc)), (bn, .inl (d5, 3, .inl fb)), (rn, .inl (d6, 12, .inl fn)), (so, .inl (d7, 12, .inl fz)), (gk, .inl (d10, 360, .inl fk)), (gi, .inl (d11, 360, .inl (fun _ => 0)))] H := hP
  have hD : va_D A [(sl, .inl (d3, 6, .inl fs)), (gr, .inl (d4, 6, .inl fg)), (gt, .inl (d8, 6, .inl ft)), (gw, .inl (d9, 6, .inl fu)), (gp, .inl (d12, 360, .inl fp)), (go, .inl (d13, 360, .inl fo)), (hm, .inr (3, [.int 0, .int 6, .ref wi, .ref co, .ref sl, .ref rn, .ref so, .ref bn, .ref sm, .ref ah])), (sm, .inr (2, [.int 0, .ref gr, .ref gt, .ref gw, .ref gk, .ref gi, .ref gp, .ref go, .ref gg, .ref hm])), (wi, .inl (d1, 6, .inl fw)), (co, .inl (d2, 6, .inl fc)), (bn, .inl (d5, 3, .inl fb)), (rn, .inl (d6, 12, .inl fn)), (so, .inl (d7, 12, .inl fz)), (gk, .inl (d10, 360, .inl fk)), (gi, .inl (d11, 360, .inl (fun _ => 0)))] := hD
  refine W.widen (k := 5) (n := 45) (Nat.le_of_ble_eq_true rfl) (Nat.le_of_ble_eq_true rfl) ?_
  obtain - := hr18
  refine lv_i2l (v := r18.toInt64) hx hb dX3_digest_27 (by first | rfl | decide) ?_
  refine lv_ladd hx hb dX3_digest_28 ?_
  refine lv_topl (fun w19 ew19 => ?_)
  refine lv_lstore_n (lv' := [(1, .long w19), (3, .int 4), (0, .ref hm)]) hx hb dX3_digest_29 rfl hl (by decide) rfl (fun ls hl => ?_)
  refine lv_iinc (v := 5) (lv' := [(3, .int 5), (1, .long w19), (0, .ref hm)]) hx hb dX3_digest_30 hl (k := 1) rfl (by decide) (by decide) rfl (fun ls hl => ?_)
  refine lv_goto (tgt := 11) hx hb dX3_digest_33 (by decide) ?_
  refine lv_iload_n hx hb dX3_digest_11 rfl (lv_at hl 0 rfl) ?_
  refine lv_bipush (v := 8) hx hb dX3_digest_12 (by decide) ?_
  refine lv_icmp_gt (tgt := 36) hx hb dX3_digest_14 (by decide) (fun c20 => absurd c20 (by decide)) (fun c20 => ?_)
  refine lv_lload_n hx hb dX3_digest_17 rfl (lv_at hl 1 rfl) ?_
  refine lv_ldc2 (v := 31) hx hb hown (hts (.constantLong RX3 151 31) (by decide +kernel)) dX3_digest_18 ?_
  refine lv_lmul hx hb dX3_digest_21 ?_
  refine lv_topl (fun w21 ew21 => ?_)
  refine lv_aload_n hx hb dX3_digest_22 rfl (lv_at hl 2 rfl) ?_
  refine lv_iload_n hx hb dX3_digest_23 rfl (lv_at hl 0 rfl) ?_
  have hPc := hP.sub (ws' := [(hm, .inr (3, [.int 0, .int 6, .ref wi, .ref co, .ref sl, .ref rn, .ref so, .ref bn, .ref sm, .ref ah])), (sm, .inr (2, [.int 0, .ref gr, .ref gt, .ref gw, .ref gk, .ref gi, .ref gp, .ref go, .ref gg, .ref hm])), (wi, .inl (d1, 6, .inl fw)), (co, .inl (d2, 6, .inl fc)), (bn, .inl (d5, 3, .inl fb)), (rn, .inl (d6, 12, .inl fn)), (so, .inl (d7, 12, .inl fz)), (gk, .inl (d10, 360, .inl fk)), (gi, .inl (d11, 360, .inl (fun _ => 0)))]) [6, 7, 8, 9, 10, 11, 12, 13, 14] rfl
  have hKc := hK.sub (tys' := [(d1, .int), (d2, .int), (d5, .int), (d6, .int), (d7, .int), (d10, .int), (d11, .int)]) [0, 1, 4, 5, 6, 9, 10] rfl
  have hDc := hD.sub (ws' := [(hm, .inr (3, [.int 0, .int 6, .ref wi, .ref co, .ref sl, .ref rn, .ref so, .ref bn, .ref sm, .ref ah])), (sm, .inr (2, [.int 0, .ref gr, .ref gt, .ref gw, .ref gk, .ref gi, .ref gp, .ref go, .ref gg, .ref hm])), (wi, .inl (d1, 6, .inl fw)), (co, .inl (d2, 6, .inl fc)), (bn, .inl (d5, 3, .inl fb)), (rn, .inl (d6, 12, .inl fn)), (so, .inl (d7, 12, .inl fz)), (gk, .inl (d10, 360, .inl fk)), (gi, .inl (d11, 360, .inl (fun _ => 0)))]) [6, 7, 8, 9, 10, 11, 12, 13, 14] (by decide) rfl
  have hFc := va_free (wc := [(hm, .inr (3, [.int 0, .int 6, .ref wi, .ref co, .ref sl, .ref rn, .ref so, .ref bn, .ref sm, .ref ah])), (sm, .inr (2, [.int 0, .ref gr, .ref gt, .ref gw, .ref gk, .ref gi, .ref gp, .ref go, .ref gg, .ref hm])), (wi, .inl (d1, 6, .inl fw)), (co, .inl (d2, 6, .inl fc)), (bn, .inl (d5, 3, .inl fb)), (rn, .inl (d6, 12, .inl fn)), (so, .inl (d7, 12, .inl fz)), (gk, .inl (d10, 360, .inl fk)), (gi, .inl (d11, 360, .inl (fun _ => 0)))]) hD hS hA [6, 7, 8, 9, 10, 11, 12, 13, 14] rfl
  refine va_calli (va_runV (As := [.int 5]) (rest := [.long w21]) ⟨hx, hb, hml, hown, hts⟩ (r3_counted l dC dI H.size hm wi co sl rn so bn sm ah 0 gr gt gw gk gi gp go gg d1 d2 d5 d6 d7 d10 d11 fw fc fb fn fz fk 5 (by first | assumption | decide | omega) (by first | assumption | decide | omega) (by first | assumption | decide | omega) (⟨by decide, by decide⟩)) (cwV 1 hts gX3_digest_X3_counted rfl rfl rfl (by decide +kernel) ⟨Nat.le_of_ble_eq_true rfl, Nat.le_of_ble_eq_true rfl⟩) ⟨fun a U g mk q => by obtain ⟨q0, q1, qP, qK, qD, qN⟩ := q; exact ⟨q0, q1, qP, va_K.moved (u := U) (U := U.calling g mk a) (Vm.Alike.refl U.vm) qK, qD, zNs.calling qN⟩, va_recv hKc hPc (ci := 3) (q0 := 0) rfl rfl, fun U hU hW => ⟨rfl, by rw [hU], by rw [hU]; exact hPc, va_K.moved hW.alike hKc, hDc.weaken (fun _ _ _ _ => trivial), zNs.warm hW hZN⟩⟩ rfl rfl hl.1 rfl (lv_room (Nat.le_of_ble_eq_true rfl)) dX3_digest_24 ⟨Nat.le_of_ble_eq_true rfl, Nat.le_of_ble_eq_true rfl⟩) hS (fun q _ h => hFc q h) hFc (fun r22 u t H1 locs ht hvm hr22 hB hz1 hk1 hS => ?_)
  obtain ⟨hP1, hK1, hD1, hZ1⟩ := hB
  rw [ht] at hP1 hZ1
  have hZ : s.heap.size + 6 ≤ H1.size := by omega
  have hK1 := va_K.moved hvm.symm hK1
  try dsimp only at hr22
  obtain ⟨hP, hD⟩ := va_join (wr := [(sl, .inl (d3, 6, .inl fs)), (gr, .inl (d4, 6, .inl fg)), (gt, .inl (d8, 6, .inl ft)), (gw, .inl (d9, 6, .inl fu)), (gp, .inl (d12, 360, .inl fp)), (go, .inl (d13, 360, .inl fo))]) (w1 := [(hm, .inr (3, [.int 0, .int 6, .ref wi, .ref co, .ref sl, .ref rn, .ref so, .ref bn, .ref sm, .ref ah])), (sm, .inr (2, [.int 0, .ref gr, .ref gt, .ref gw, .ref gk, .ref gi, .ref gp, .ref go, .ref gg, .ref hm])), (wi, .inl (d1, 6, .inl fw)), (co, .inl (d2, 6, .inl fc)), (bn, .inl (d5, 3, .inl fb)), (rn, .inl (d6, 12, .inl fn)), (so, .inl (d7, 12, .inl fz)), (gk, .inl (d10, 360, .inl fk)), (gi, .inl (d11, 360, .inl (fun _ => 0)))]) hP hD [6, 7, 8, 9, 10, 11, 12, 13, 14] [0, 1, 2, 3, 4, 5] rfl rfl (by decide) (by decide) hk1 hFc hP1 hD1
  generalize H1 = H at hP hS hZ ⊢
  have hP : va_P (dC, dI) vwCl [(sl, .inl (d3, 6, .inl fs)), (gr, .inl (d4, 6, .inl fg)), (gt, .inl (d8, 6, .inl ft)), (gw, .inl (d9, 6, .inl fu)), (gp, .inl (d12, 360, .inl fp)), (go, .inl (d13, 360, .inl fo)), (hm, .inr (3, [.int 0, .int 6, .ref wi, .ref co, .ref sl, .ref rn, .ref so, .ref bn, .ref sm, .ref ah])), (sm, .inr (2, [.int 0, .ref gr, .ref gt, .ref gw, .ref gk, .ref gi, .ref gp, .ref go, .ref gg, .ref hm])), (wi, .inl (d1, 6, .inl fw)), (co, .inl (d2, 6, .inl fc)), (bn, .inl (d5, 3, .inl fb)), (rn, .inl (d6, 12, .inl fn)), (so, .inl (d7, 12, .inl fz)), (gk, .inl (d10, 360, .inl fk)), (gi, .inl (d11, 360, .inl (fun _ => 0)))] H := hP
  have hD : va_D A [(sl, .inl (d3, 6, .inl fs)), (gr, .inl (d4, 6, .inl fg)), (gt, .inl (d8, 6, .inl ft)), (gw, .inl (d9, 6, .inl fu)), (gp, .inl (d12, 360, .inl fp)), (go, .inl (d13, 360, .inl fo)), (hm, .inr (3, [.int 0, .int 6, .ref wi, .ref co, .ref sl, .ref rn, .ref so, .ref bn, .ref sm, .ref ah])), (sm, .inr (2, [.int 0, .ref gr, .ref gt, .ref gw, .ref gk, .ref gi, .ref gp, .ref go, .ref gg, .ref hm])), (wi, .inl (d1, 6, .inl fw)), (co, .inl (d2, 6, .inl fc)), (bn, .inl (d5, 3, .inl fb)), (rn, .inl (d6, 12, .inl fn)), (so, .inl (d7, 12, .inl fz)), (gk, .inl (d10, 360, .inl fk)), (gi, .inl (d11, 360, .inl (fun _ => 0)))] := hD
  refine W.widen (k := 6) (n := 54) (Nat.le_of_ble_eq_true rfl) (Nat.le_of_ble_eq_true rfl) ?_
  obtain - := hr22
  refine lv_i2l (v := r22.toInt64) hx hb dX3_digest_27 (by first | rfl | decide) ?_
  refine lv_ladd hx hb dX3_digest_28 ?_
  refine lv_topl (fun w23 ew23 => ?_)
  refine lv_lstore_n (lv' := [(1, .long w23), (3, .int 5), (0, .ref hm)]) hx hb dX3_digest_29 rfl hl (by decide) rfl (fun ls hl => ?_)
  refine lv_iinc (v := 6) (lv' := [(3, .int 6), (1, .long w23), (0, .ref hm)]) hx hb dX3_digest_30 hl (k := 1) rfl (by decide) (by decide) rfl (fun ls hl => ?_)
  refine lv_goto (tgt := 11) hx hb dX3_digest_33 (by decide) ?_
  refine lv_iload_n hx hb dX3_digest_11 rfl (lv_at hl 0 rfl) ?_
  refine lv_bipush (v := 8) hx hb dX3_digest_12 (by decide) ?_
  refine lv_icmp_gt (tgt := 36) hx hb dX3_digest_14 (by decide) (fun c24 => absurd c24 (by decide)) (fun c24 => ?_)
  refine lv_lload_n hx hb dX3_digest_17 rfl (lv_at hl 1 rfl) ?_
  refine lv_ldc2 (v := 31) hx hb hown (hts (.constantLong RX3 151 31) (by decide +kernel)) dX3_digest_18 ?_
  refine lv_lmul hx hb dX3_digest_21 ?_
  refine lv_topl (fun w25 ew25 => ?_)
  refine lv_aload_n hx hb dX3_digest_22 rfl (lv_at hl 2 rfl) ?_
  refine lv_iload_n hx hb dX3_digest_23 rfl (lv_at hl 0 rfl) ?_
  have hPc := hP.sub (ws' := [(hm, .inr (3, [.int 0, .int 6, .ref wi, .ref co, .ref sl, .ref rn, .ref so, .ref bn, .ref sm, .ref ah])), (sm, .inr (2, [.int 0, .ref gr, .ref gt, .ref gw, .ref gk, .ref gi, .ref gp, .ref go, .ref gg, .ref hm])), (wi, .inl (d1, 6, .inl fw)), (co, .inl (d2, 6, .inl fc)), (bn, .inl (d5, 3, .inl fb)), (rn, .inl (d6, 12, .inl fn)), (so, .inl (d7, 12, .inl fz)), (gk, .inl (d10, 360, .inl fk)), (gi, .inl (d11, 360, .inl (fun _ => 0)))]) [6, 7, 8, 9, 10, 11, 12, 13, 14] rfl
  have hKc := hK.sub (tys' := [(d1, .int), (d2, .int), (d5, .int), (d6, .int), (d7, .int), (d10, .int), (d11, .int)]) [0, 1, 4, 5, 6, 9, 10] rfl
  have hDc := hD.sub (ws' := [(hm, .inr (3, [.int 0, .int 6, .ref wi, .ref co, .ref sl, .ref rn, .ref so, .ref bn, .ref sm, .ref ah])), (sm, .inr (2, [.int 0, .ref gr, .ref gt, .ref gw, .ref gk, .ref gi, .ref gp, .ref go, .ref gg, .ref hm])), (wi, .inl (d1, 6, .inl fw)), (co, .inl (d2, 6, .inl fc)), (bn, .inl (d5, 3, .inl fb)), (rn, .inl (d6, 12, .inl fn)), (so, .inl (d7, 12, .inl fz)), (gk, .inl (d10, 360, .inl fk)), (gi, .inl (d11, 360, .inl (fun _ => 0)))]) [6, 7, 8, 9, 10, 11, 12, 13, 14] (by decide) rfl
  have hFc := va_free (wc := [(hm, .inr (3, [.int 0, .int 6, .ref wi, .ref co, .ref sl, .ref rn, .ref so, .ref bn, .ref sm, .ref ah])), (sm, .inr (2, [.int 0, .ref gr, .ref gt, .ref gw, .ref gk, .ref gi, .ref gp, .ref go, .ref gg, .ref hm])), (wi, .inl (d1, 6, .inl fw)), (co, .inl (d2, 6, .inl fc)), (bn, .inl (d5, 3, .inl fb)), (rn, .inl (d6, 12, .inl fn)), (so, .inl (d7, 12, .inl fz)), (gk, .inl (d10, 360, .inl fk)), (gi, .inl (d11, 360, .inl (fun _ => 0)))]) hD hS hA [6, 7, 8, 9, 10, 11, 12, 13, 14] rfl
  refine va_calli (va_runV (As := [.int 6]) (rest := [.long w25]) ⟨hx, hb, hml, hown, hts⟩ (r3_counted l dC dI H.size hm wi co sl rn so bn sm ah 0 gr gt gw gk gi gp go gg d1 d2 d5 d6 d7 d10 d11 fw fc fb fn fz fk 6 (by first | assumption | decide | omega) (by first | assumption | decide | omega) (by first | assumption | decide | omega) (⟨by decide, by decide⟩)) (cwV 1 hts gX3_digest_X3_counted rfl rfl rfl (by decide +kernel) ⟨Nat.le_of_ble_eq_true rfl, Nat.le_of_ble_eq_true rfl⟩) ⟨fun a U g mk q => by obtain ⟨q0, q1, qP, qK, qD, qN⟩ := q; exact ⟨q0, q1, qP, va_K.moved (u := U) (U := U.calling g mk a) (Vm.Alike.refl U.vm) qK, qD, zNs.calling qN⟩, va_recv hKc hPc (ci := 3) (q0 := 0) rfl rfl, fun U hU hW => ⟨rfl, by rw [hU], by rw [hU]; exact hPc, va_K.moved hW.alike hKc, hDc.weaken (fun _ _ _ _ => trivial), zNs.warm hW hZN⟩⟩ rfl rfl hl.1 rfl (lv_room (Nat.le_of_ble_eq_true rfl)) dX3_digest_24 ⟨Nat.le_of_ble_eq_true rfl, Nat.le_of_ble_eq_true rfl⟩) hS (fun q _ h => hFc q h) hFc (fun r26 u t H1 locs ht hvm hr26 hB hz1 hk1 hS => ?_)
  obtain ⟨hP1, hK1, hD1, hZ1⟩ := hB
  rw [ht] at hP1 hZ1
  have hZ : s.heap.size + 7 ≤ H1.size := by omega
  have hK1 := va_K.moved hvm.symm hK1
  try dsimp only at hr26
  obtain ⟨hP, hD⟩ := va_join (wr := [(sl, .inl (d3, 6, .inl fs)), (gr, .inl (d4, 6, .inl fg)), (gt, .inl (d8, 6, .inl ft)), (gw, .inl (d9, 6, .inl fu)), (gp, .inl (d12, 360, .inl fp)), (go, .inl (d13, 360, .inl fo))]) (w1 := [(hm, .inr (3, [.int 0, .int 6, .ref wi, .ref co, .ref sl, .ref rn, .ref so, .ref bn, .ref sm, .ref ah])), (sm, .inr (2, [.int 0, .ref gr, .ref gt, .ref gw, .ref gk, .ref gi, .ref gp, .ref go, .ref gg, .ref hm])), (wi, .inl (d1, 6, .inl fw)), (co, .inl (d2, 6, .inl fc)), (bn, .inl (d5, 3, .inl fb)), (rn, .inl (d6, 12, .inl fn)), (so, .inl (d7, 12, .inl fz)), (gk, .inl (d10, 360, .inl fk)), (gi, .inl (d11, 360, .inl (fun _ => 0)))]) hP hD [6, 7, 8, 9, 10, 11, 12, 13, 14] [0, 1, 2, 3, 4, 5] rfl rfl (by decide) (by decide) hk1 hFc hP1 hD1
  generalize H1 = H at hP hS hZ ⊢
  have hP : va_P (dC, dI) vwCl [(sl, .inl (d3, 6, .inl fs)), (gr, .inl (d4, 6, .inl fg)), (gt, .inl (d8, 6, .inl ft)), (gw, .inl (d9, 6, .inl fu)), (gp, .inl (d12, 360, .inl fp)), (go, .inl (d13, 360, .inl fo)), (hm, .inr (3, [.int 0, .int 6, .ref wi, .ref co, .ref sl, .ref rn, .ref so, .ref bn, .ref sm, .ref ah])), (sm, .inr (2, [.int 0, .ref gr, .ref gt, .ref gw, .ref gk, .ref gi, .ref gp, .ref go, .ref gg, .ref hm])), (wi, .inl (d1, 6, .inl fw)), (co, .inl (d2, 6, .inl fc)), (bn, .inl (d5, 3, .inl fb)), (rn, .inl (d6, 12, .inl fn)), (so, .inl (d7, 12, .inl fz)), (gk, .inl (d10, 360, .inl fk)), (gi, .inl (d11, 360, .inl (fun _ => 0)))] H := hP
  have hD : va_D A [(sl, .inl (d3, 6, .inl fs)), (gr, .inl (d4, 6, .inl fg)), (gt, .inl (d8, 6, .inl ft)), (gw, .inl (d9, 6, .inl fu)), (gp, .inl (d12, 360, .inl fp)), (go, .inl (d13, 360, .inl fo)), (hm, .inr (3, [.int 0, .int 6, .ref wi, .ref co, .ref sl, .ref rn, .ref so, .ref bn, .ref sm, .ref ah])), (sm, .inr (2, [.int 0, .ref gr, .ref gt, .ref gw, .ref gk, .ref gi, .ref gp, .ref go, .ref gg, .ref hm])), (wi, .inl (d1, 6, .inl fw)), (co, .inl (d2, 6, .inl fc)), (bn, .inl (d5, 3, .inl fb)), (rn, .inl (d6, 12, .inl fn)), (so, .inl (d7, 12, .inl fz)), (gk, .inl (d10, 360, .inl fk)), (gi, .inl (d11, 360, .inl (fun _ => 0)))] := hD
  refine W.widen (k := 7) (n := 63) (Nat.le_of_ble_eq_true rfl) (Nat.le_of_ble_eq_true rfl) ?_
  obtain - := hr26
  refine lv_i2l (v := r26.toInt64) hx hb dX3_digest_27 (by first | rfl | decide) ?_
  refine lv_ladd hx hb dX3_digest_28 ?_
  refine lv_topl (fun w27 ew27 => ?_)
  refine lv_lstore_n (lv' := [(1, .long w27), (3, .int 6), (0, .ref hm)]) hx hb dX3_digest_29 rfl hl (by decide) rfl (fun ls hl => ?_)
  refine lv_iinc (v := 7) (lv' := [(3, .int 7), (1, .long w27), (0, .ref hm)]) hx hb dX3_digest_30 hl (k := 1) rfl (by decide) (by decide) rfl (fun ls hl => ?_)
  refine lv_goto (tgt := 11) hx hb dX3_digest_33 (by decide) ?_
  refine lv_iload_n hx hb dX3_digest_11 rfl (lv_at hl 0 rfl) ?_
  refine lv_bipush (v := 8) hx hb dX3_digest_12 (by decide) ?_
  refine lv_icmp_gt (tgt := 36) hx hb dX3_digest_14 (by decide) (fun c28 => absurd c28 (by decide)) (fun c28 => ?_)
  refine lv_lload_n hx hb dX3_digest_17 rfl (lv_at hl 1 rfl) ?_
  refine lv_ldc2 (v := 31) hx hb hown (hts (.constantLong RX3 151 31) (by decide +kernel)) dX3_digest_18 ?_
  refine lv_lmul hx hb dX3_digest_21 ?_
  refine lv_topl (fun w29 ew29 => ?_)
  refine lv_aload_n hx hb dX3_digest_22 rfl (lv_at hl 2 rfl) ?_
  refine lv_iload_n hx hb dX3_digest_23 rfl (lv_at hl 0 rfl) ?_
  have hPc := hP.sub (ws' := [(hm, .inr (3, [.int 0, .int 6, .ref wi, .ref co, .ref sl, .ref rn, .ref so, .ref bn, .ref sm, .ref ah])), (sm, .inr (2, [.int 0, .ref gr, .ref gt, .ref gw, .ref gk, .ref gi, .ref gp, .ref go, .ref gg, .ref hm])), (wi, .inl (d1, 6, .inl fw)), (co, .inl (d2, 6, .inl fc)), (bn, .inl (d5, 3, .inl fb)), (rn, .inl (d6, 12, .inl fn)), (so, .inl (d7, 12, .inl fz)), (gk, .inl (d10, 360, .inl fk)), (gi, .inl (d11, 360, .inl (fun _ => 0)))]) [6, 7, 8, 9, 10, 11, 12, 13, 14] rfl
  have hKc := hK.sub (tys' := [(d1, .int), (d2, .int), (d5, .int), (d6, .int), (d7, .int), (d10, .int), (d11, .int)]) [0, 1, 4, 5, 6, 9, 10] rfl
  have hDc := hD.sub (ws' := [(hm, .inr (3, [.int 0, .int 6, .ref wi, .ref co, .ref sl, .ref rn, .ref so, .ref bn, .ref sm, .ref ah])), (sm, .inr (2, [.int 0, .ref gr, .ref gt, .ref gw, .ref gk, .ref gi, .ref gp, .ref go, .ref gg, .ref hm])), (wi, .inl (d1, 6, .inl fw)), (co, .inl (d2, 6, .inl fc)), (bn, .inl (d5, 3, .inl fb)), (rn, .inl (d6, 12, .inl fn)), (so, .inl (d7, 12, .inl fz)), (gk, .inl (d10, 360, .inl fk)), (gi, .inl (d11, 360, .inl (fun _ => 0)))]) [6, 7, 8, 9, 10, 11, 12, 13, 14] (by decide) rfl
  have hFc := va_free (wc := [(hm, .inr (3, [.int 0, .int 6, .ref wi, .ref co, .ref sl, .ref rn, .ref so, .ref bn, .ref sm, .ref ah])), (sm, .inr (2, [.int 0, .ref gr, .ref gt, .ref gw, .ref gk, .ref gi, .ref gp, .ref go, .ref gg, .ref hm])), (wi, .inl (d1, 6, .inl fw)), (co, .inl (d2, 6, .inl fc)), (bn, .inl (d5, 3, .inl fb)), (rn, .inl (d6, 12, .inl fn)), (so, .inl (d7, 12, .inl fz)), (gk, .inl (d10, 360, .inl fk)), (gi, .inl (d11, 360, .inl (fun _ => 0)))]) hD hS hA [6, 7, 8, 9, 10, 11, 12, 13, 14] rfl
  refine va_calli (va_runV (As := [.int 7]) (rest := [.long w29]) ⟨hx, hb, hml, hown, hts⟩ (r3_counted l dC dI H.size hm wi co sl rn so bn sm ah 0 gr gt gw gk gi gp go gg d1 d2 d5 d6 d7 d10 d11 fw fc fb fn fz fk 7 (by first | assumption | decide | omega) (by first | assumption | decide | omega) (by first | assumption | decide | omega) (⟨by decide, by decide⟩)) (cwV 1 hts gX3_digest_X3_counted rfl rfl rfl (by decide +kernel) ⟨Nat.le_of_ble_eq_true rfl, Nat.le_of_ble_eq_true rfl⟩) ⟨fun a U g mk q => by obtain ⟨q0, q1, qP, qK, qD, qN⟩ := q; exact ⟨q0, q1, qP, va_K.moved (u := U) (U := U.calling g mk a) (Vm.Alike.refl U.vm) qK, qD, zNs.calling qN⟩, va_recv hKc hPc (ci := 3) (q0 := 0) rfl rfl, fun U hU hW => ⟨rfl, by rw [hU], by rw [hU]; exact hPc, va_K.moved hW.alike hKc, hDc.weaken (fun _ _ _ _ => trivial), zNs.warm hW hZN⟩⟩ rfl rfl hl.1 rfl (lv_room (Nat.le_of_ble_eq_true rfl)) dX3_digest_24 ⟨Nat.le_of_ble_eq_true rfl, Nat.le_of_ble_eq_true rfl⟩) hS (fun q _ h => hFc q h) hFc (fun r30 u t H1 locs ht hvm hr30 hB hz1 hk1 hS => ?_)
  obtain ⟨hP1, hK1, hD1, hZ1⟩ := hB
  rw [ht] at hP1 hZ1
  have hZ : s.heap.size + 8 ≤ H1.size := by omega
  have hK1 := va_K.moved hvm.symm hK1
  try dsimp only at hr30
  obtain ⟨hP, hD⟩ := va_join (wr := [(sl, .inl (d3, 6, .inl fs)), (gr, .inl (d4, 6, .inl fg)), (gt, .inl (d8, 6, .inl ft)), (gw, .inl (d9, 6, .inl fu)), (gp, .inl (d12, 360, .inl fp)), (go, .inl (d13, 360, .inl fo))]) (w1 := [(hm, .inr (3, [.int 0, .int 6, .ref wi, .ref co, .ref sl, .ref rn, .ref so, .ref bn, .ref sm, .ref ah])), (sm, .inr (2, [.int 0, .ref gr, .ref gt, .ref gw, .ref gk, .ref gi, .ref gp, .ref go, .ref gg, .ref hm])), (wi, .inl (d1, 6, .inl fw)), (co, .inl (d2, 6, .inl fc)), (bn, .inl (d5, 3, .inl fb)), (rn, .inl (d6, 12, .inl fn)), (so, .inl (d7, 12, .inl fz)), (gk, .inl (d10, 360, .inl fk)), (gi, .inl (d11, 360, .inl (fun _ => 0)))]) hP hD [6, 7, 8, 9, 10, 11, 12, 13, 14] [0, 1, 2, 3, 4, 5] rfl rfl (by decide) (by decide) hk1 hFc hP1 hD1
  generalize H1 = H at hP hS hZ ⊢
  have hP : va_P (dC, dI) vwCl [(sl, .inl (d3, 6, .inl fs)), (gr, .inl (d4, 6, .inl fg)), (gt, .inl (d8, 6, .inl ft)), (gw, .inl (d9, 6, .inl fu)), (gp, .inl (d12, 360, .inl fp)), (go, .inl (d13, 360, .inl fo)), (hm, .inr (3, [.int 0, .int 6, .ref wi, .ref co, .ref sl, .ref rn, .ref so, .ref bn, .ref sm, .ref ah])), (sm, .inr (2, [.int 0, .ref gr, .ref gt, .ref gw, .ref gk, .ref gi, .ref gp, .ref go, .ref gg, .ref hm])), (wi, .inl (d1, 6, .inl fw)), (co, .inl (d2, 6, .inl fc)), (bn, .inl (d5, 3, .inl fb)), (rn, .inl (d6, 12, .inl fn)), (so, .inl (d7, 12, .inl fz)), (gk, .inl (d10, 360, .inl fk)), (gi, .inl (d11, 360, .inl (fun _ => 0)))] H := hP
  have hD : va_D A [(sl, .inl (d3, 6, .inl fs)), (gr, .inl (d4, 6, .inl fg)), (gt, .inl (d8, 6, .inl ft)), (gw, .inl (d9, 6, .inl fu)), (gp, .inl (d12, 360, .inl fp)), (go, .inl (d13, 360, .inl fo)), (hm, .inr (3, [.int 0, .int 6, .ref wi, .ref co, .ref sl, .ref rn, .ref so, .ref bn, .ref sm, .ref ah])), (sm, .inr (2, [.int 0, .ref gr, .ref gt, .ref gw, .ref gk, .ref gi, .ref gp, .ref go, .ref gg, .ref hm])), (wi, .inl (d1, 6, .inl fw)), (co, .inl (d2, 6, .inl fc)), (bn, .inl (d5, 3, .inl fb)), (rn, .inl (d6, 12, .inl fn)), (so, .inl (d7, 12, .inl fz)), (gk, .inl (d10, 360, .inl fk)), (gi, .inl (d11, 360, .inl (fun _ => 0)))] := hD
  refine W.widen (k := 8) (n := 72) (Nat.le_of_ble_eq_true rfl) (Nat.le_of_ble_eq_true rfl) ?_
  obtain - := hr30
  refine lv_i2l (v := r30.toInt64) hx hb dX3_digest_27 (by first | rfl | decide) ?_
  refine lv_ladd hx hb dX3_digest_28 ?_
  refine lv_topl (fun w31 ew31 => ?_)
  refine lv_lstore_n (lv' := [(1, .long w31), (3, .int 7), (0, .ref hm)]) hx hb dX3_digest_29 rfl hl (by decide) rfl (fun ls hl => ?_)
  refine lv_iinc (v := 8) (lv' := [(3, .int 8), (1, .long w31), (0, .ref hm)]) hx hb dX3_digest_30 hl (k := 1) rfl (by decide) (by decide) rfl (fun ls hl => ?_)
  refine lv_goto (tgt := 11) hx hb dX3_digest_33 (by decide) ?_
  refine lv_iload_n hx hb dX3_digest_11 rfl (lv_at hl 0 rfl) ?_
  refine lv_bipush (v := 8) hx hb dX3_digest_12 (by decide) ?_
  refine lv_icmp_gt (tgt := 36) hx hb dX3_digest_14 (by decide) (fun c32 => absurd c32 (by decide)) (fun c32 => ?_)
  refine lv_lload_n hx hb dX3_digest_17 rfl (lv_at hl 1 rfl) ?_
  refine lv_ldc2 (v := 31) hx hb hown (hts (.constantLong RX3 151 31) (by decide +kernel)) dX3_digest_18 ?_
  refine lv_lmul hx hb dX3_digest_21 ?_
  refine lv_topl (fun w33 ew33 => ?_)
  refine lv_aload_n hx hb dX3_digest_22 rfl (lv_at hl 2 rfl) ?_
  refine lv_iload_n hx hb dX3_digest_23 rfl (lv_at hl 0 rfl) ?_
  have hPc := hP.sub (ws' := [(hm, .inr (3, [.int 0, .int 6, .ref wi, .ref co, .ref sl, .ref rn, .ref so, .ref bn, .ref sm, .ref ah])), (sm, .inr (2, [.int 0, .ref gr, .ref gt, .ref gw, .ref gk, .ref gi, .ref gp, .ref go, .ref gg, .ref hm])), (wi, .inl (d1, 6, .inl fw)), (co, .inl (d2, 6, .inl fc)), (bn, .inl (d5, 3, .inl fb)), (rn, .inl (d6, 12, .inl fn)), (so, .inl (d7, 12, .inl fz)), (gk, .inl (d10, 360, .inl fk)), (gi, .inl (d11, 360, .inl (fun _ => 0)))]) [6, 7, 8, 9, 10, 11, 12, 13, 14] rfl
  have hKc := hK.sub (tys' := [(d1, .int), (d2, .int), (d5, .int), (d6, .int), (d7, .int), (d10, .int), (d11, .int)]) [0, 1, 4, 5, 6, 9, 10] rfl
  have hDc := hD.sub (ws' := [(hm, .inr (3, [.int 0, .int 6, .ref wi, .ref co, .ref sl, .ref rn, .ref so, .ref bn, .ref sm, .ref ah])), (sm, .inr (2, [.int 0, .ref gr, .ref gt, .ref gw, .ref gk, .ref gi, .ref gp, .ref go, .ref gg, .ref hm])), (wi, .inl (d1, 6, .inl fw)), (co, .inl (d2, 6, .inl fc)), (bn, .inl (d5, 3, .inl fb)), (rn, .inl (d6, 12, .inl fn)), (so, .inl (d7, 12, .inl fz)), (gk, .inl (d10, 360, .inl fk)), (gi, .inl (d11, 360, .inl (fun _ => 0)))]) [6, 7, 8, 9, 10, 11, 12, 13, 14] (by decide) rfl
  have hFc := va_free (wc := [(hm, .inr (3, [.int 0, .int 6, .ref wi, .ref co, .ref sl, .ref rn, .ref so, .ref bn, .ref sm, .ref ah])), (sm, .inr (2, [.int 0, .ref gr, .ref gt, .ref gw, .ref gk, .ref gi, .ref gp, .ref go, .ref gg, .ref hm])), (wi, .inl (d1, 6, .inl fw)), (co, .inl (d2, 6, .inl fc)), (bn, .inl (d5, 3, .inl fb)), (rn, .inl (d6, 12, .inl fn)), (so, .inl (d7, 12, .inl fz)), (gk, .inl (d10, 360, .inl fk)), (gi, .inl (d11, 360, .inl (fun _ => 0)))]) hD hS hA [6, 7, 8, 9, 10, 11, 12, 13, 14] rfl
  refine va_calli (va_runV (As := [.int 8]) (rest := [.long w33]) ⟨hx, hb, hml, hown, hts⟩ (r3_counted l dC dI H.size hm wi co sl rn so bn sm ah 0 gr gt gw gk gi gp go gg d1 d2 d5 d6 d7 d10 d11 fw fc fb fn fz fk 8 (by first | assumption | decide | omega) (by first | assumption | decide | omega) (by first | assumption | decide | omega) (⟨by decide, by decide⟩)) (cwV 1 hts gX3_digest_X3_counted rfl rfl rfl (by decide +kernel) ⟨Nat.le_of_ble_eq_true rfl, Nat.le_of_ble_eq_true rfl⟩) ⟨fun a U g mk q => by obtain ⟨q0, q1, qP, qK, qD, qN⟩ := q; exact ⟨q0, q1, qP, va_K.moved (u := U) (U := U.calling g mk a) (Vm.Alike.refl U.vm) qK, qD, zNs.calling qN⟩, va_recv hKc hPc (ci := 3) (q0 := 0) rfl rfl, fun U hU hW => ⟨rfl, by rw [hU], by rw [hU]; exact hPc, va_K.moved hW.alike hKc, hDc.weaken (fun _ _ _ _ => trivial), zNs.warm hW hZN⟩⟩ rfl rfl hl.1 rfl (lv_room (Nat.le_of_ble_eq_true rfl)) dX3_digest_24 ⟨Nat.le_of_ble_eq_true rfl, Nat.le_of_ble_eq_true rfl⟩) hS (fun q _ h => hFc q h) hFc (fun r34 u t H1 locs ht hvm hr34 hB hz1 hk1 hS => ?_)
  obtain ⟨hP1, hK1, hD1, hZ1⟩ := hB
  rw [ht] at hP1 hZ1
  have hZ : s.heap.size + 9 ≤ H1.size := by omega
  have hK1 := va_K.moved hvm.symm hK1
  try dsimp only at hr34
  obtain ⟨hP, hD⟩ := va_join (wr := [(sl, .inl (d3, 6, .inl fs)), (gr, .inl (d4, 6, .inl fg)), (gt, .inl (d8, 6, .inl ft)), (gw, .inl (d9, 6, .inl fu)), (gp, .inl (d12, 360, .inl fp)), (go, .inl (d13, 360, .inl fo))]) (w1 := [(hm, .inr (3, [.int 0, .int 6, .ref wi, .ref co, .ref sl, .ref rn, .ref so, .ref bn, .ref sm, .ref ah])), (sm, .inr (2, [.int 0, .ref gr, .ref gt, .ref gw, .ref gk, .ref gi, .ref gp, .ref go, .ref gg, .ref hm])), (wi, .inl (d1, 6, .inl fw)), (co, .inl (d2, 6, .inl fc)), (bn, .inl (d5, 3, .inl fb)), (rn, .inl (d6, 12, .inl fn)), (so, .inl (d7, 12, .inl fz)), (gk, .inl (d10, 360, .inl fk)), (gi, .inl (d11, 360, .inl (fun _ => 0)))]) hP hD [6, 7, 8, 9, 10, 11, 12, 13, 14] [0, 1, 2, 3, 4, 5] rfl rfl (by decide) (by decide) hk1 hFc hP1 hD1
  generalize H1 = H at hP hS hZ ⊢
  have hP : va_P (dC, dI) vwCl [(sl, .inl (d3, 6, .inl fs)), (gr, .inl (d4, 6, .inl fg)), (gt, .inl (d8, 6, .inl ft)), (gw, .inl (d9, 6, .inl fu)), (gp, .inl (d12, 360, .inl fp)), (go, .inl (d13, 360, .inl fo)), (hm, .inr (3, [.int 0, .int 6, .ref wi, .ref co, .ref sl, .ref rn, .ref so, .ref bn, .ref sm, .ref ah])), (sm, .inr (2, [.int 0, .ref gr, .ref gt, .ref gw, .ref gk, .ref gi, .ref gp, .ref go, .ref gg, .ref hm])), (wi, .inl (d1, 6, .inl fw)), (co, .inl (d2, 6, .inl fc)), (bn, .inl (d5, 3, .inl fb)), (rn, .inl (d6, 12, .inl fn)), (so, .inl (d7, 12, .inl fz)), (gk, .inl (d10, 360, .inl fk)), (gi, .inl (d11, 360, .inl (fun _ => 0)))] H := hP
  have hD : va_D A [(sl, .inl (d3, 6, .inl fs)), (gr, .inl (d4, 6, .inl fg)), (gt, .inl (d8, 6, .inl ft)), (gw, .inl (d9, 6, .inl fu)), (gp, .inl (d12, 360, .inl fp)), (go, .inl (d13, 360, .inl fo)), (hm, .inr (3, [.int 0, .int 6, .ref wi, .ref co, .ref sl, .ref rn, .ref so, .ref bn, .ref sm, .ref ah])), (sm, .inr (2, [.int 0, .ref gr, .ref gt, .ref gw, .ref gk, .ref gi, .ref gp, .ref go, .ref gg, .ref hm])), (wi, .inl (d1, 6, .inl fw)), (co, .inl (d2, 6, .inl fc)), (bn, .inl (d5, 3, .inl fb)), (rn, .inl (d6, 12, .inl fn)), (so, .inl (d7, 12, .inl fz)), (gk, .inl (d10, 360, .inl fk)), (gi, .inl (d11, 360, .inl (fun _ => 0)))] := hD
  refine W.widen (k := 9) (n := 81) (Nat.le_of_ble_eq_true rfl) (Nat.le_of_ble_eq_true rfl) ?_
  obtain - := hr34
  refine lv_i2l (v := r34.toInt64) hx hb dX3_digest_27 (by first | rfl | decide) ?_
  refine lv_ladd hx hb dX3_digest_28 ?_
  refine lv_topl (fun w35 ew35 => ?_)
  refine lv_lstore_n (lv' := [(1, .long w35), (3, .int 8), (0, .ref hm)]) hx hb dX3_digest_29 rfl hl (by decide) rfl (fun ls hl => ?_)
  refine lv_iinc (v := 9) (lv' := [(3, .int 9), (1, .long w35), (0, .ref hm)]) hx hb dX3_digest_30 hl (k := 1) rfl (by decide) (by decide) rfl (fun ls hl => ?_)
  refine lv_goto (tgt := 11) hx hb dX3_digest_33 (by decide) ?_
  refine lv_iload_n hx hb dX3_digest_11 rfl (lv_at hl 0 rfl) ?_
  refine lv_bipush (v := 8) hx hb dX3_digest_12 (by decide) ?_
  refine lv_icmp_gt (tgt := 36) hx hb dX3_digest_14 (by decide) (fun c36 => ?_) (fun c36 => absurd c36 (by decide))
  refine lv_iconst (v := 0) hx hb dX3_digest_36 (by decide) ?_
  refine lv_istore_n (lv' := [(3, .int 0), (1, .long w35), (0, .ref hm)]) hx hb dX3_digest_37 rfl hl (by decide) rfl (fun ls hl => ?_)
  refine lv_iload_n hx hb dX3_digest_38 rfl (lv_at hl 0 rfl) ?_
  refine lv_bipush (v := 12) hx hb dX3_digest_39 (by decide) ?_
  refine lv_icmp_ge (tgt := 75) hx hb dX3_digest_41 (by decide) (fun c37 => absurd c37 (by decide)) (fun c37 => ?_)
  refine lv_lload_n hx hb dX3_digest_44 rfl (lv_at hl 1 rfl) ?_
  refine lv_ldc2 (v := 31) hx hb hown (hts (.constantLong RX3 151 31) (by decide +kernel)) dX3_digest_45 ?_
  refine lv_lmul hx hb dX3_digest_48 ?_
  refine lv_topl (fun w38 ew38 => ?_)
  refine lv_bipush (v := 10) hx hb dX3_digest_49 (by decide) ?_
  refine lv_aload_n hx hb dX3_digest_51 rfl (lv_at hl 2 rfl) ?_
  refine va_get (D := (dC, dI)) (ci := 3) (v := .ref rn) (C := RX3) (T := TX3) (N := 10) hx hb hts (by decide +kernel) hown hK hP 6 rfl rfl 5 (by decide) (hts (.fieldLink RX3 19 "ThatchRoofModel" "rain" "[I") (by decide +kernel)) (fun _ h9 => h9) rfl dX3_digest_52 ?_
  refine lv_iload_n hx hb dX3_digest_55 rfl (lv_at hl 0 rfl) ?_
  refine va_iald hx hb hK hP 11 5 rfl rfl (vp_in_nI (n := 0) (by decide) (by decide)) dX3_digest_56 ?_
  refine lv_topi (fun x39 ex39 => ?_)
  refine lv_imul hx hb dX3_digest_57 ?_
  refine lv_topi (fun x40 ex40 => ?_)
  refine lv_i2l (v := x40.toInt64) hx hb dX3_digest_58 (by first | rfl | decide) ?_
  refine lv_ladd hx hb dX3_digest_59 ?_
  refine lv_topl (fun w41 ew41 => ?_)
  refine lv_aload_n hx hb dX3_digest_60 rfl (lv_at hl 2 rfl) ?_
  refine va_get (D := (dC, dI)) (ci := 3) (v := .ref so) (C := RX3) (T := TX3) (N := 10) hx hb hts (by decide +kernel) hown hK hP 6 rfl rfl 6 (by decide) (hts (.fieldLink RX3 22 "ThatchRoofModel" "storm" "[I") (by decide +kernel)) (fun _ h9 => h9) rfl dX3_digest_61 ?_
  refine lv_iload_n hx hb dX3_digest_64 rfl (lv_at hl 0 rfl) ?_
  refine va_iald hx hb hK hP 12 6 rfl rfl (vp_in_nI (n := 0) (by decide) (by decide)) dX3_digest_65 ?_
  refine lv_topi (fun x42 ex42 => ?_)
  refine lv_i2l (v := x42.toInt64) hx hb dX3_digest_66 (by first | rfl | decide) ?_
  refine lv_ladd hx hb dX3_digest_67 ?_
  refine lv_topl (fun w43 ew43 => ?_)
  refine lv_lstore_n (lv' := [(1, .long w43), (3, .int 0), (0, .ref hm)]) hx hb dX3_digest_68 rfl hl (by decide) rfl (fun ls hl => ?_)
  refine lv_iinc (v := 1) (lv' := [(3, .int 1), (1, .long w43), (0, .ref hm)]) hx hb dX3_digest_69 hl (k := 1) rfl (by decide) (by decide) rfl (fun ls hl => ?_)
  refine lv_goto (tgt := 38) hx hb dX3_digest_72 (by decide) ?_
  refine lv_iload_n hx hb dX3_digest_38 rfl (lv_at hl 0 rfl) ?_
  refine lv_bipush (v := 12) hx hb dX3_digest_39 (by decide) ?_
  refine lv_icmp_ge (tgt := 75) hx hb dX3_digest_41 (by decide) (fun c44 => absurd c44 (by decide)) (fun c44 => ?_)
  refine lv_lload_n hx hb dX3_digest_44 rfl (lv_at hl 1 rfl) ?_
  refine lv_ldc2 (v := 31) hx hb hown (hts (.constantLong RX3 151 31) (by decide +kernel)) dX3_digest_45 ?_
  refine lv_lmul hx hb dX3_digest_48 ?_
  refine lv_topl (fun w45 ew45 => ?_)
  refine lv_bipush (v := 10) hx hb dX3_digest_49 (by decide) ?_
  refine lv_aload_n hx hb dX3_digest_51 rfl (lv_at hl 2 rfl) ?_
  refine va_get (D := (dC, dI)) (ci := 3) (v := .ref rn) (C := RX3) (T := TX3) (N := 10) hx hb hts (by decide +kernel) hown hK hP 6 rfl rfl 5 (by decide) (hts (.fieldLink RX3 19 "ThatchRoofModel" "rain" "[I") (by decide +kernel)) (fun _ h9 => h9) rfl dX3_digest_52 ?_
  refine lv_iload_n hx hb dX3_digest_55 rfl (lv_at hl 0 rfl) ?_
  refine va_iald hx hb hK hP 11 5 rfl rfl (vp_in_nI (n := 1) (by decide) (by decide)) dX3_digest_56 ?_
  refine lv_topi (fun x46 ex46 => ?_)
  refine lv_imul hx hb dX3_digest_57 ?_
  refine lv_topi (fun x47 ex47 => ?_)
  refine lv_i2l (v := x47.toInt64) hx hb dX3_digest_58 (by first | rfl | decide) ?_
  refine lv_ladd hx hb dX3_digest_59 ?_
  refine lv_topl (fun w48 ew48 => ?_)
  refine lv_aload_n hx hb dX3_digest_60 rfl (lv_at hl 2 rfl) ?_
  refine va_get (D := (dC, dI)) (ci := 3) (v := .ref so) (C := RX3) (T := TX3) (N := 10) hx hb hts (by decide +kernel) hown hK hP 6 rfl rfl 6 (by decide) (hts (.fieldLink RX3 22 "ThatchRoofModel" "storm" "[I") (by decide +kernel)) (fun _ h9 => h9) rfl dX3_digest_61 ?_
  refine lv_iload_n hx hb dX3_digest_64 rfl (lv_at hl 0 rfl) ?_
  refine va_iald hx hb hK hP 12 6 rfl rfl (vp_in_nI (n := 1) (by decide) (by decide)) dX3_digest_65 ?_
  refine lv_topi (fun x49 ex49 => ?_)
  refine lv_i2l (v := x49.toInt64) hx hb dX3_digest_66 (by first | rfl | decide) ?_
  refine lv_ladd hx hb dX3_digest_67 ?_
  refine lv_topl (fun w50 ew50 => ?_)
  refine lv_lstore_n (lv' := [(1, .long w50), (3, .int 1), (0, .ref hm)]) hx hb dX3_digest_68 rfl hl (by decide) rfl (fun ls hl => ?_)
  refine lv_iinc (v := 2) (lv' := [(3, .int 2), (1, .long w50), (0, .ref hm)]) hx hb dX3_digest_69 hl (k := 1) rfl (by decide) (by decide) rfl (fun ls hl => ?_)
  refine lv_goto (tgt := 38) hx hb dX3_digest_72 (by decide) ?_
  refine lv_iload_n hx hb dX3_digest_38 rfl (lv_at hl 0 rfl) ?_
  refine lv_bipush (v := 12) hx hb dX3_digest_39 (by decide) ?_
  refine lv_icmp_ge (tgt := 75) hx hb dX3_digest_41 (by decide) (fun c51 => absurd c51 (by decide)) (fun c51 => ?_)
  refine lv_lload_n hx hb dX3_digest_44 rfl (lv_at hl 1 rfl) ?_
  refine lv_ldc2 (v := 31) hx hb hown (hts (.constantLong RX3 151 31) (by decide +kernel)) dX3_digest_45 ?_
  refine lv_lmul hx hb dX3_digest_48 ?_
  refine lv_topl (fun w52 ew52 => ?_)
  refine lv_bipush (v := 10) hx hb dX3_digest_49 (by decide) ?_
  refine lv_aload_n hx hb dX3_digest_51 rfl (lv_at hl 2 rfl) ?_
  refine va_get (D := (dC, dI)) (ci := 3) (v := .ref rn) (C := RX3) (T := TX3) (N := 10) hx hb hts (by decide +kernel) hown hK hP 6 rfl rfl 5 (by decide) (hts (.fieldLink RX3 19 "ThatchRoofModel" "rain" "[I") (by decide +kernel)) (fun _ h9 => h9) rfl dX3_digest_52 ?_
  refine lv_iload_n hx hb dX3_digest_55 rfl (lv_at hl 0 rfl) ?_
  refine va_iald hx hb hK hP 11 5 rfl rfl (vp_in_nI (n := 2) (by decide) (by decide)) dX3_digest_56 ?_
  refine lv_topi (fun x53 ex53 => ?_)
  refine lv_imul hx hb dX3_digest_57 ?_
  refine lv_topi (fun x54 ex54 => ?_)
  refine lv_i2l (v := x54.toInt64) hx hb dX3_digest_58 (by first | rfl | decide) ?_
  refine lv_ladd hx hb dX3_digest_59 ?_
  refine lv_topl (fun w55 ew55 => ?_)
  refine lv_aload_n hx hb dX3_digest_60 rfl (lv_at hl 2 rfl) ?_
  refine va_get (D := (dC, dI)) (ci := 3) (v := .ref so) (C := RX3) (T := TX3) (N := 10) hx hb hts (by decide +kernel) hown hK hP 6 rfl rfl 6 (by decide) (hts (.fieldLink RX3 22 "ThatchRoofModel" "storm" "[I") (by decide +kernel)) (fun _ h9 => h9) rfl dX3_digest_61 ?_
  refine lv_iload_n hx hb dX3_digest_64 rfl (lv_at hl 0 rfl) ?_
  refine va_iald hx hb hK hP 12 6 rfl rfl (vp_in_nI (n := 2) (by decide) (by decide)) dX3_digest_65 ?_
  refine lv_topi (fun x56 ex56 => ?_)
  refine lv_i2l (v := x56.toInt64) hx hb dX3_digest_66 (by first | rfl | decide) ?_
  refine lv_ladd hx hb dX3_digest_67 ?_
  refine lv_topl (fun w57 ew57 => ?_)
  refine lv_lstore_n (lv' := [(1, .long w57), (3, .int 2), (0, .ref hm)]) hx hb dX3_digest_68 rfl hl (by decide) rfl (fun ls hl => ?_)
  refine lv_iinc (v := 3) (lv' := [(3, .int 3), (1, .long w57), (0, .ref hm)]) hx hb dX3_digest_69 hl (k := 1) rfl (by decide) (by decide) rfl (fun ls hl => ?_)
  refine lv_goto (tgt := 38) hx hb dX3_digest_72 (by decide) ?_
  refine lv_iload_n hx hb dX3_digest_38 rfl (lv_at hl 0 rfl) ?_
  refine lv_bipush (v := 12) hx hb dX3_digest_39 (by decide) ?_
  refine lv_icmp_ge (tgt := 75) hx hb dX3_digest_41 (by decide) (fun c58 => absurd c58 (by decide)) (fun c58 => ?_)
  refine lv_lload_n hx hb dX3_digest_44 rfl (lv_at hl 1 rfl) ?_
  refine lv_ldc2 (v := 31) hx hb hown (hts (.constantLong RX3 151 31) (by decide +kernel)) dX3_digest_45 ?_
  refine lv_lmul hx hb dX3_digest_48 ?_
  refine lv_topl (fun w59 ew59 => ?_)
  refine lv_bipush (v := 10) hx hb dX3_digest_49 (by decide) ?_
  refine lv_aload_n hx hb dX3_digest_51 rfl (lv_at hl 2 rfl) ?_
  refine va_get (D := (dC, dI)) (ci := 3) (v := .ref rn) (C := RX3) (T := TX3) (N := 10) hx hb hts (by decide +kernel) hown hK hP 6 rfl rfl 5 (by decide) (hts (.fieldLink RX3 19 "ThatchRoofModel" "rain" "[I") (by decide +kernel)) (fun _ h9 => h9) rfl dX3_digest_52 ?_
  refine lv_iload_n hx hb dX3_digest_55 rfl (lv_at hl 0 rfl) ?_
  refine va_iald hx hb hK hP 11 5 rfl rfl (vp_in_nI (n := 3) (by decide) (by decide)) dX3_digest_56 ?_
  refine lv_topi (fun x60 ex60 => ?_)
  refine lv_imul hx hb dX3_digest_57 ?_
  refine lv_topi (fun x61 ex61 => ?_)
  refine lv_i2l (v := x61.toInt64) hx hb dX3_digest_58 (by first | rfl | decide) ?_
  refine lv_ladd hx hb dX3_digest_59 ?_
  refine lv_topl (fun w62 ew62 => ?_)
  refine lv_aload_n hx hb dX3_digest_60 rfl (lv_at hl 2 rfl) ?_
  refine va_get (D := (dC, dI)) (ci := 3) (v := .ref so) (C := RX3) (T := TX3) (N := 10) hx hb hts (by decide +kernel) hown hK hP 6 rfl rfl 6 (by decide) (hts (.fieldLink RX3 22 "ThatchRoofModel" "storm" "[I") (by decide +kernel)) (fun _ h9 => h9) rfl dX3_digest_61 ?_
  refine lv_iload_n hx hb dX3_digest_64 rfl (lv_at hl 0 rfl) ?_
  refine va_iald hx hb hK hP 12 6 rfl rfl (vp_in_nI (n := 3) (by decide) (by decide)) dX3_digest_65 ?_
  refine lv_topi (fun x63 ex63 => ?_)
  refine lv_i2l (v := x63.toInt64) hx hb dX3_digest_66 (by first | rfl | decide) ?_
  refine lv_ladd hx hb dX3_digest_67 ?_
  refine lv_topl (fun w64 ew64 => ?_)
  refine lv_lstore_n (lv' := [(1, .long w64), (3, .int 3), (0, .ref hm)]) hx hb dX3_digest_68 rfl hl (by decide) rfl (fun ls hl => ?_)
  refine lv_iinc (v := 4) (lv' := [(3, .int 4), (1, .long w64), (0, .ref hm)]) hx hb dX3_digest_69 hl (k := 1) rfl (by decide) (by decide) rfl (fun ls hl => ?_)
  refine lv_goto (tgt := 38) hx hb dX3_digest_72 (by decide) ?_
  refine lv_iload_n hx hb dX3_digest_38 rfl (lv_at hl 0 rfl) ?_
  refine lv_bipush (v := 12) hx hb dX3_digest_39 (by decide) ?_
  refine lv_icmp_ge (tgt := 75) hx hb dX3_digest_41 (by decide) (fun c65 => absurd c65 (by decide)) (fun c65 => ?_)
  refine lv_lload_n hx hb dX3_digest_44 rfl (lv_at hl 1 rfl) ?_
  refine lv_ldc2 (v := 31) hx hb hown (hts (.constantLong RX3 151 31) (by decide +kernel)) dX3_digest_45 ?_
  refine lv_lmul hx hb dX3_digest_48 ?_
  refine lv_topl (fun w66 ew66 => ?_)
  refine lv_bipush (v := 10) hx hb dX3_digest_49 (by decide) ?_
  refine lv_aload_n hx hb dX3_digest_51 rfl (lv_at hl 2 rfl) ?_
  refine va_get (D := (dC, dI)) (ci := 3) (v := .ref rn) (C := RX3) (T := TX3) (N := 10) hx hb hts (by decide +kernel) hown hK hP 6 rfl rfl 5 (by decide) (hts (.fieldLink RX3 19 "ThatchRoofModel" "rain" "[I") (by decide +kernel)) (fun _ h9 => h9) rfl dX3_digest_52 ?_
  refine lv_iload_n hx hb dX3_digest_55 rfl (lv_at hl 0 rfl) ?_
  refine va_iald hx hb hK hP 11 5 rfl rfl (vp_in_nI (n := 4) (by decide) (by decide)) dX3_digest_56 ?_
  refine lv_topi (fun x67 ex67 => ?_)
  refine lv_imul hx hb dX3_digest_57 ?_
  refine lv_topi (fun x68 ex68 => ?_)
  refine lv_i2l (v := x68.toInt64) hx hb dX3_digest_58 (by first | rfl | decide) ?_
  refine lv_ladd hx hb dX3_digest_59 ?_
  refine lv_topl (fun w69 ew69 => ?_)
  refine lv_aload_n hx hb dX3_digest_60 rfl (lv_at hl 2 rfl) ?_
  refine va_get (D := (dC, dI)) (ci := 3) (v := .ref so) (C := RX3) (T := TX3) (N := 10) hx hb hts (by decide +kernel) hown hK hP 6 rfl rfl 6 (by decide) (hts (.fieldLink RX3 22 "ThatchRoofModel" "storm" "[I") (by decide +kernel)) (fun _ h9 => h9) rfl dX3_digest_61 ?_
  refine lv_iload_n hx hb dX3_digest_64 rfl (lv_at hl 0 rfl) ?_
  refine va_iald hx hb hK hP 12 6 rfl rfl (vp_in_nI (n := 4) (by decide) (by decide)) dX3_digest_65 ?_
  refine lv_topi (fun x70 ex70 => ?_)
  refine lv_i2l (v := x70.toInt64) hx hb dX3_digest_66 (by first | rfl | decide) ?_
  refine lv_ladd hx hb dX3_digest_67 ?_
  refine lv_topl (fun w71 ew71 => ?_)
  refine lv_lstore_n (lv' := [(1, .long w71), (3, .int 4), (0, .ref hm)]) hx hb dX3_digest_68 rfl hl (by decide) rfl (fun ls hl => ?_)
  refine lv_iinc (v := 5) (lv' := [(3, .int 5), (1, .long w71), (0, .ref hm)]) hx hb dX3_digest_69 hl (k := 1) rfl (by decide) (by decide) rfl (fun ls hl => ?_)
  refine lv_goto (tgt := 38) hx hb dX3_digest_72 (by decide) ?_
  refine lv_iload_n hx hb dX3_digest_38 rfl (lv_at hl 0 rfl) ?_
  refine lv_bipush (v := 12) hx hb dX3_digest_39 (by decide) ?_
  refine lv_icmp_ge (tgt := 75) hx hb dX3_digest_41 (by decide) (fun c72 => absurd c72 (by decide)) (fun c72 => ?_)
  refine lv_lload_n hx hb dX3_digest_44 rfl (lv_at hl 1 rfl) ?_
  refine lv_ldc2 (v := 31) hx hb hown (hts (.constantLong RX3 151 31) (by decide +kernel)) dX3_digest_45 ?_
  refine lv_lmul hx hb dX3_digest_48 ?_
  refine lv_topl (fun w73 ew73 => ?_)
  refine lv_bipush (v := 10) hx hb dX3_digest_49 (by decide) ?_
  refine lv_aload_n hx hb dX3_digest_51 rfl (lv_at hl 2 rfl) ?_
  refine va_get (D := (dC, dI)) (ci := 3) (v := .ref rn) (C := RX3) (T := TX3) (N := 10) hx hb hts (by decide +kernel) hown hK hP 6 rfl rfl 5 (by decide) (hts (.fieldLink RX3 19 "ThatchRoofModel" "rain" "[I") (by decide +kernel)) (fun _ h9 => h9) rfl dX3_digest_52 ?_
  refine lv_iload_n hx hb dX3_digest_55 rfl (lv_at hl 0 rfl) ?_
  refine va_iald hx hb hK hP 11 5 rfl rfl (vp_in_nI (n := 5) (by decide) (by decide)) dX3_digest_56 ?_
  refine lv_topi (fun x74 ex74 => ?_)
  refine lv_imul hx hb dX3_digest_57 ?_
  refine lv_topi (fun x75 ex75 => ?_)
  refine lv_i2l (v := x75.toInt64) hx hb dX3_digest_58 (by first | rfl | decide) ?_
  refine lv_ladd hx hb dX3_digest_59 ?_
  refine lv_topl (fun w76 ew76 => ?_)
  refine lv_aload_n hx hb dX3_digest_60 rfl (lv_at hl 2 rfl) ?_
  refine va_get (D := (dC, dI)) (ci := 3) (v := .ref so) (C := RX3) (T := TX3) (N := 10) hx hb hts (by decide +kernel) hown hK hP 6 rfl rfl 6 (by decide) (hts (.fieldLink RX3 22 "ThatchRoofModel" "storm" "[I") (by decide +kernel)) (fun _ h9 => h9) rfl dX3_digest_61 ?_
  refine lv_iload_n hx hb dX3_digest_64 rfl (lv_at hl 0 rfl) ?_
  refine va_iald hx hb hK hP 12 6 rfl rfl (vp_in_nI (n := 5) (by decide) (by decide)) dX3_digest_65 ?_
  refine lv_topi (fun x77 ex77 => ?_)
  refine lv_i2l (v := x77.toInt64) hx hb dX3_digest_66 (by first | rfl | decide) ?_
  refine lv_ladd hx hb dX3_digest_67 ?_
  refine lv_topl (fun w78 ew78 => ?_)
  refine lv_lstore_n (lv' := [(1, .long w78), (3, .int 5), (0, .ref hm)]) hx hb dX3_digest_68 rfl hl (by decide) rfl (fun ls hl => ?_)
  refine lv_iinc (v := 6) (lv' := [(3, .int 6), (1, .long w78), (0, .ref hm)]) hx hb dX3_digest_69 hl (k := 1) rfl (by decide) (by decide) rfl (fun ls hl => ?_)
  refine lv_goto (tgt := 38) hx hb dX3_digest_72 (by decide) ?_
  refine lv_iload_n hx hb dX3_digest_38 rfl (lv_at hl 0 rfl) ?_
  refine lv_bipush (v := 12) hx hb dX3_digest_39 (by decide) ?_
  refine lv_icmp_ge (tgt := 75) hx hb dX3_digest_41 (by decide) (fun c79 => absurd c79 (by decide)) (fun c79 => ?_)
  refine lv_lload_n hx hb dX3_digest_44 rfl (lv_at hl 1 rfl) ?_
  refine lv_ldc2 (v := 31) hx hb hown (hts (.constantLong RX3 151 31) (by decide +kernel)) dX3_digest_45 ?_
  refine lv_lmul hx hb dX3_digest_48 ?_
  refine lv_topl (fun w80 ew80 => ?_)
  refine lv_bipush (v := 10) hx hb dX3_digest_49 (by decide) ?_
  refine lv_aload_n hx hb dX3_digest_51 rfl (lv_at hl 2 rfl) ?_
  refine va_get (D := (dC, dI)) (ci := 3) (v := .ref rn) (C := RX3) (T := TX3) (N := 10) hx hb hts (by decide +kernel) hown hK hP 6 rfl rfl 5 (by decide) (hts (.fieldLink RX3 19 "ThatchRoofModel" "rain" "[I") (by decide +kernel)) (fun _ h9 => h9) rfl dX3_digest_52 ?_
  refine lv_iload_n hx hb dX3_digest_55 rfl (lv_at hl 0 rfl) ?_
  refine va_iald hx hb hK hP 11 5 rfl rfl (vp_in_nI (n := 6) (by decide) (by decide)) dX3_digest_56 ?_
  refine lv_topi (fun x81 ex81 => ?_)
  refine lv_imul hx hb dX3_digest_57 ?_
  refine lv_topi (fun x82 ex82 => ?_)
  refine lv_i2l (v := x82.toInt64) hx hb dX3_digest_58 (by first | rfl | decide) ?_
  refine lv_ladd hx hb dX3_digest_59 ?_
  refine lv_topl (fun w83 ew83 => ?_)
  refine lv_aload_n hx hb dX3_digest_60 rfl (lv_at hl 2 rfl) ?_
  refine va_get (D := (dC, dI)) (ci := 3) (v := .ref so) (C := RX3) (T := TX3) (N := 10) hx hb hts (by decide +kernel) hown hK hP 6 rfl rfl 6 (by decide) (hts (.fieldLink RX3 22 "ThatchRoofModel" "storm" "[I") (by decide +kernel)) (fun _ h9 => h9) rfl dX3_digest_61 ?_
  refine lv_iload_n hx hb dX3_digest_64 rfl (lv_at hl 0 rfl) ?_
  refine va_iald hx hb hK hP 12 6 rfl rfl (vp_in_nI (n := 6) (by decide) (by decide)) dX3_digest_65 ?_
  refine lv_topi (fun x84 ex84 => ?_)
  refine lv_i2l (v := x84.toInt64) hx hb dX3_digest_66 (by first | rfl | decide) ?_
  refine lv_ladd hx hb dX3_digest_67 ?_
  refine lv_topl (fun w85 ew85 => ?_)
  refine lv_lstore_n (lv' := [(1, .long w85), (3, .int 6), (0, .ref hm)]) hx hb dX3_digest_68 rfl hl (by decide) rfl (fun ls hl => ?_)
  refine lv_iinc (v := 7) (lv' := [(3, .int 7), (1, .long w85), (0, .ref hm)]) hx hb dX3_digest_69 hl (k := 1) rfl (by decide) (by decide) rfl (fun ls hl => ?_)
  refine lv_goto (tgt := 38) hx hb dX3_digest_72 (by decide) ?_
  refine lv_iload_n hx hb dX3_digest_38 rfl (lv_at hl 0 rfl) ?_
  refine lv_bipush (v := 12) hx hb dX3_digest_39 (by decide) ?_
  refine lv_icmp_ge (tgt := 75) hx hb dX3_digest_41 (by decide) (fun c86 => absurd c86 (by decide)) (fun c86 => ?_)
  refine lv_lload_n hx hb dX3_digest_44 rfl (lv_at hl 1 rfl) ?_
  refine lv_ldc2 (v := 31) hx hb hown (hts (.constantLong RX3 151 31) (by decide +kernel)) dX3_digest_45 ?_
  refine lv_lmul hx hb dX3_digest_48 ?_
  refine lv_topl (fun w87 ew87 => ?_)
  refine lv_bipush (v := 10) hx hb dX3_digest_49 (by decide) ?_
  refine lv_aload_n hx hb dX3_digest_51 rfl (lv_at hl 2 rfl) ?_
  refine va_get (D := (dC, dI)) (ci := 3) (v := .ref rn) (C := RX3) (T := TX3) (N := 10) hx hb hts (by decide +kernel) hown hK hP 6 rfl rfl 5 (by decide) (hts (.fieldLink RX3 19 "ThatchRoofModel" "rain" "[I") (by decide +kernel)) (fun _ h9 => h9) rfl dX3_digest_52 ?_
  refine lv_iload_n hx hb dX3_digest_55 rfl (lv_at hl 0 rfl) ?_
  refine va_iald hx hb hK hP 11 5 rfl rfl (vp_in_nI (n := 7) (by decide) (by decide)) dX3_digest_56 ?_
  refine lv_topi (fun x88 ex88 => ?_)
  refine lv_imul hx hb dX3_digest_57 ?_
  refine lv_topi (fun x89 ex89 => ?_)
  refine lv_i2l (v := x89.toInt64) hx hb dX3_digest_58 (by first | rfl | decide) ?_
  refine lv_ladd hx hb dX3_digest_59 ?_
  refine lv_topl (fun w90 ew90 => ?_)
  refine lv_aload_n hx hb dX3_digest_60 rfl (lv_at hl 2 rfl) ?_
  refine va_get (D := (dC, dI)) (ci := 3) (v := .ref so) (C := RX3) (T := TX3) (N := 10) hx hb hts (by decide +kernel) hown hK hP 6 rfl rfl 6 (by decide) (hts (.fieldLink RX3 22 "ThatchRoofModel" "storm" "[I") (by decide +kernel)) (fun _ h9 => h9) rfl dX3_digest_61 ?_
  refine lv_iload_n hx hb dX3_digest_64 rfl (lv_at hl 0 rfl) ?_
  refine va_iald hx hb hK hP 12 6 rfl rfl (vp_in_nI (n := 7) (by decide) (by decide)) dX3_digest_65 ?_
  refine lv_topi (fun x91 ex91 => ?_)
  refine lv_i2l (v := x91.toInt64) hx hb dX3_digest_66 (by first | rfl | decide) ?_
  refine lv_ladd hx hb dX3_digest_67 ?_
  refine lv_topl (fun w92 ew92 => ?_)
  refine lv_lstore_n (lv' := [(1, .long w92), (3, .int 7), (0, .ref hm)]) hx hb dX3_digest_68 rfl hl (by decide) rfl (fun ls hl => ?_)
  refine lv_iinc (v := 8) (lv' := [(3, .int 8), (1, .long w92), (0, .ref hm)]) hx hb dX3_digest_69 hl (k := 1) rfl (by decide) (by decide) rfl (fun ls hl => ?_)
  refine lv_goto (tgt := 38) hx hb dX3_digest_72 (by decide) ?_
  refine lv_iload_n hx hb dX3_digest_38 rfl (lv_at hl 0 rfl) ?_
  refine lv_bipush (v := 12) hx hb dX3_digest_39 (by decide) ?_
  refine lv_icmp_ge (tgt := 75) hx hb dX3_digest_41 (by decide) (fun c93 => absurd c93 (by decide)) (fun c93 => ?_)
  refine lv_lload_n hx hb dX3_digest_44 rfl (lv_at hl 1 rfl) ?_
  refine lv_ldc2 (v := 31) hx hb hown (hts (.constantLong RX3 151 31) (by decide +kernel)) dX3_digest_45 ?_
  refine lv_lmul hx hb dX3_digest_48 ?_
  refine lv_topl (fun w94 ew94 => ?_)
  refine lv_bipush (v := 10) hx hb dX3_digest_49 (by decide) ?_
  refine lv_aload_n hx hb dX3_digest_51 rfl (lv_at hl 2 rfl) ?_
  refine va_get (D := (dC, dI)) (ci := 3) (v := .ref rn) (C := RX3) (T := TX3) (N := 10) hx hb hts (by decide +kernel) hown hK hP 6 rfl rfl 5 (by decide) (hts (.fieldLink RX3 19 "ThatchRoofModel" "rain" "[I") (by decide +kernel)) (fun _ h9 => h9) rfl dX3_digest_52 ?_
  refine lv_iload_n hx hb dX3_digest_55 rfl (lv_at hl 0 rfl) ?_
  refine va_iald hx hb hK hP 11 5 rfl rfl (vp_in_nI (n := 8) (by decide) (by decide)) dX3_digest_56 ?_
  refine lv_topi (fun x95 ex95 => ?_)
  refine lv_imul hx hb dX3_digest_57 ?_
  refine lv_topi (fun x96 ex96 => ?_)
  refine lv_i2l (v := x96.toInt64) hx hb dX3_digest_58 (by first | rfl | decide) ?_
  refine lv_ladd hx hb dX3_digest_59 ?_
  refine lv_topl (fun w97 ew97 => ?_)
  refine lv_aload_n hx hb dX3_digest_60 rfl (lv_at hl 2 rfl) ?_
  refine va_get (D := (dC, dI)) (ci := 3) (v := .ref so) (C := RX3) (T := TX3) (N := 10) hx hb hts (by decide +kernel) hown hK hP 6 rfl rfl 6 (by decide) (hts (.fieldLink RX3 22 "ThatchRoofModel" "storm" "[I") (by decide +kernel)) (fun _ h9 => h9) rfl dX3_digest_61 ?_
  refine lv_iload_n hx hb dX3_digest_64 rfl (lv_at hl 0 rfl) ?_
  refine va_iald hx hb hK hP 12 6 rfl rfl (vp_in_nI (n := 8) (by decide) (by decide)) dX3_digest_65 ?_
  refine lv_topi (fun x98 ex98 => ?_)
  refine lv_i2l (v := x98.toInt64) hx hb dX3_digest_66 (by first | rfl | decide) ?_
  refine lv_ladd hx hb dX3_digest_67 ?_
  refine lv_topl (fun w99 ew99 => ?_)
  refine lv_lstore_n (lv' := [(1, .long w99), (3, .int 8), (0, .ref hm)]) hx hb dX3_digest_68 rfl hl (by decide) rfl (fun ls hl => ?_)
  refine lv_iinc (v := 9) (lv' := [(3, .int 9), (1, .long w99), (0, .ref hm)]) hx hb dX3_digest_69 hl (k := 1) rfl (by decide) (by decide) rfl (fun ls hl => ?_)
  refine lv_goto (tgt := 38) hx hb dX3_digest_72 (by decide) ?_
  refine lv_iload_n hx hb dX3_digest_38 rfl (lv_at hl 0 rfl) ?_
  refine lv_bipush (v := 12) hx hb dX3_digest_39 (by decide) ?_
  refine lv_icmp_ge (tgt := 75) hx hb dX3_digest_41 (by decide) (fun c100 => absurd c100 (by decide)) (fun c100 => ?_)
  refine lv_lload_n hx hb dX3_digest_44 rfl (lv_at hl 1 rfl) ?_
  refine lv_ldc2 (v := 31) hx hb hown (hts (.constantLong RX3 151 31) (by decide +kernel)) dX3_digest_45 ?_
  refine lv_lmul hx hb dX3_digest_48 ?_
  refine lv_topl (fun w101 ew101 => ?_)
  refine lv_bipush (v := 10) hx hb dX3_digest_49 (by decide) ?_
  refine lv_aload_n hx hb dX3_digest_51 rfl (lv_at hl 2 rfl) ?_
  refine va_get (D := (dC, dI)) (ci := 3) (v := .ref rn) (C := RX3) (T := TX3) (N := 10) hx hb hts (by decide +kernel) hown hK hP 6 rfl rfl 5 (by decide) (hts (.fieldLink RX3 19 "ThatchRoofModel" "rain" "[I") (by decide +kernel)) (fun _ h9 => h9) rfl dX3_digest_52 ?_
  refine lv_iload_n hx hb dX3_digest_55 rfl (lv_at hl 0 rfl) ?_
  refine va_iald hx hb hK hP 11 5 rfl rfl (vp_in_nI (n := 9) (by decide) (by decide)) dX3_digest_56 ?_
  refine lv_topi (fun x102 ex102 => ?_)
  refine lv_imul hx hb dX3_digest_57 ?_
  refine lv_topi (fun x103 ex103 => ?_)
  refine lv_i2l (v := x103.toInt64) hx hb dX3_digest_58 (by first | rfl | decide) ?_
  refine lv_ladd hx hb dX3_digest_59 ?_
  refine lv_topl (fun w104 ew104 => ?_)
  refine lv_aload_n hx hb dX3_digest_60 rfl (lv_at hl 2 rfl) ?_
  refine va_get (D := (dC, dI)) (ci := 3) (v := .ref so) (C := RX3) (T := TX3) (N := 10) hx hb hts (by decide +kernel) hown hK hP 6 rfl rfl 6 (by decide) (hts (.fieldLink RX3 22 "ThatchRoofModel" "storm" "[I") (by decide +kernel)) (fun _ h9 => h9) rfl dX3_digest_61 ?_
  refine lv_iload_n hx hb dX3_digest_64 rfl (lv_at hl 0 rfl) ?_
  refine va_iald hx hb hK hP 12 6 rfl rfl (vp_in_nI (n := 9) (by decide) (by decide)) dX3_digest_65 ?_
  refine lv_topi (fun x105 ex105 => ?_)
  refine lv_i2l (v := x105.toInt64) hx hb dX3_digest_66 (by first | rfl | decide) ?_
  refine lv_ladd hx hb dX3_digest_67 ?_
  refine lv_topl (fun w106 ew106 => ?_)
  refine lv_lstore_n (lv' := [(1, .long w106), (3, .int 9), (0, .ref hm)]) hx hb dX3_digest_68 rfl hl (by decide) rfl (fun ls hl => ?_)
  refine lv_iinc (v := 10) (lv' := [(3, .int 10), (1, .long w106), (0, .ref hm)]) hx hb dX3_digest_69 hl (k := 1) rfl (by decide) (by decide) rfl (fun ls hl => ?_)
  refine lv_goto (tgt := 38) hx hb dX3_digest_72 (by decide) ?_
  refine lv_iload_n hx hb dX3_digest_38 rfl (lv_at hl 0 rfl) ?_
  refine lv_bipush (v := 12) hx hb dX3_digest_39 (by decide) ?_
  refine lv_icmp_ge (tgt := 75) hx hb dX3_digest_41 (by decide) (fun c107 => absurd c107 (by decide)) (fun c107 => ?_)
  refine lv_lload_n hx hb dX3_digest_44 rfl (lv_at hl 1 rfl) ?_
  refine lv_ldc2 (v := 31) hx hb hown (hts (.constantLong RX3 151 31) (by decide +kernel)) dX3_digest_45 ?_
  refine lv_lmul hx hb dX3_digest_48 ?_
  refine lv_topl (fun w108 ew108 => ?_)
  refine lv_bipush (v := 10) hx hb dX3_digest_49 (by decide) ?_
  refine lv_aload_n hx hb dX3_digest_51 rfl (lv_at hl 2 rfl) ?_
  refine va_get (D := (dC, dI)) (ci := 3) (v := .ref rn) (C := RX3) (T := TX3) (N := 10) hx hb hts (by decide +kernel) hown hK hP 6 rfl rfl 5 (by decide) (hts (.fieldLink RX3 19 "ThatchRoofModel" "rain" "[I") (by decide +kernel)) (fun _ h9 => h9) rfl dX3_digest_52 ?_
  refine lv_iload_n hx hb dX3_digest_55 rfl (lv_at hl 0 rfl) ?_
  refine va_iald hx hb hK hP 11 5 rfl rfl (vp_in_nI (n := 10) (by decide) (by decide)) dX3_digest_56 ?_
  refine lv_topi (fun x109 ex109 => ?_)
  refine lv_imul hx hb dX3_digest_57 ?_
  refine lv_topi (fun x110 ex110 => ?_)
  refine lv_i2l (v := x110.toInt64) hx hb dX3_digest_58 (by first | rfl | decide) ?_
  refine lv_ladd hx hb dX3_digest_59 ?_
  refine lv_topl (fun w111 ew111 => ?_)
  refine lv_aload_n hx hb dX3_digest_60 rfl (lv_at hl 2 rfl) ?_
  refine va_get (D := (dC, dI)) (ci := 3) (v := .ref so) (C := RX3) (T := TX3) (N := 10) hx hb hts (by decide +kernel) hown hK hP 6 rfl rfl 6 (by decide) (hts (.fieldLink RX3 22 "ThatchRoofModel" "storm" "[I") (by decide +kernel)) (fun _ h9 => h9) rfl dX3_digest_61 ?_
  refine lv_iload_n hx hb dX3_digest_64 rfl (lv_at hl 0 rfl) ?_
  refine va_iald hx hb hK hP 12 6 rfl rfl (vp_in_nI (n := 10) (by decide) (by decide)) dX3_digest_65 ?_
  refine lv_topi (fun x112 ex112 => ?_)
  refine lv_i2l (v := x112.toInt64) hx hb dX3_digest_66 (by first | rfl | decide) ?_
  refine lv_ladd hx hb dX3_digest_67 ?_
  refine lv_topl (fun w113 ew113 => ?_)
  refine lv_lstore_n (lv' := [(1, .long w113), (3, .int 10), (0, .ref hm)]) hx hb dX3_digest_68 rfl hl (by decide) rfl (fun ls hl => ?_)
  refine lv_iinc (v := 11) (lv' := [(3, .int 11), (1, .long w113), (0, .ref hm)]) hx hb dX3_digest_69 hl (k := 1) rfl (by decide) (by decide) rfl (fun ls hl => ?_)
  refine lv_goto (tgt := 38) hx hb dX3_digest_72 (by decide) ?_
  refine lv_iload_n hx hb dX3_digest_38 rfl (lv_at hl 0 rfl) ?_
  refine lv_bipush (v := 12) hx hb dX3_digest_39 (by decide) ?_
  refine lv_icmp_ge (tgt := 75) hx hb dX3_digest_41 (by decide) (fun c114 => absurd c114 (by decide)) (fun c114 => ?_)
  refine lv_lload_n hx hb dX3_digest_44 rfl (lv_at hl 1 rfl) ?_
  refine lv_ldc2 (v := 31) hx hb hown (hts (.constantLong RX3 151 31) (by decide +kernel)) dX3_digest_45 ?_
  refine lv_lmul hx hb dX3_digest_48 ?_
  refine lv_topl (fun w115 ew115 => ?_)
  refine lv_bipush (v := 10) hx hb dX3_digest_49 (by decide) ?_
  refine lv_aload_n hx hb dX3_digest_51 rfl (lv_at hl 2 rfl) ?_
  refine va_get (D := (dC, dI)) (ci := 3) (v := .ref rn) (C := RX3) (T := TX3) (N := 10) hx hb hts (by decide +kernel) hown hK hP 6 rfl rfl 5 (by decide) (hts (.fieldLink RX3 19 "ThatchRoofModel" "rain" "[I") (by decide +kernel)) (fun _ h9 => h9) rfl dX3_digest_52 ?_
  refine lv_iload_n hx hb dX3_digest_55 rfl (lv_at hl 0 rfl) ?_
  refine va_iald hx hb hK hP 11 5 rfl rfl (vp_in_nI (n := 11) (by decide) (by decide)) dX3_digest_56 ?_
  refine lv_topi (fun x116 ex116 => ?_)
  refine lv_imul hx hb dX3_digest_57 ?_
  refine lv_topi (fun x117 ex117 => ?_)
  refine lv_i2l (v := x117.toInt64) hx hb dX3_digest_58 (by first | rfl | decide) ?_
  refine lv_ladd hx hb dX3_digest_59 ?_
  refine lv_topl (fun w118 ew118 => ?_)
  refine lv_aload_n hx hb dX3_digest_60 rfl (lv_at hl 2 rfl) ?_
  refine va_get (D := (dC, dI)) (ci := 3) (v := .ref so) (C := RX3) (T := TX3) (N := 10) hx hb hts (by decide +kernel) hown hK hP 6 rfl rfl 6 (by decide) (hts (.fieldLink RX3 22 "ThatchRoofModel" "storm" "[I") (by decide +kernel)) (fun _ h9 => h9) rfl dX3_digest_61 ?_
  refine lv_iload_n hx hb dX3_digest_64 rfl (lv_at hl 0 rfl) ?_
  refine va_iald hx hb hK hP 12 6 rfl rfl (vp_in_nI (n := 11) (by decide) (by decide)) dX3_digest_65 ?_
  refine lv_topi (fun x119 ex119 => ?_)
  refine lv_i2l (v := x119.toInt64) hx hb dX3_digest_66 (by first | rfl | decide) ?_
  refine lv_ladd hx hb dX3_digest_67 ?_
  refine lv_topl (fun w120 ew120 => ?_)
  refine lv_lstore_n (lv' := [(1, .long w120), (3, .int 11), (0, .ref hm)]) hx hb dX3_digest_68 rfl hl (by decide) rfl (fun ls hl => ?_)
  refine lv_iinc (v := 12) (lv' := [(3, .int 12), (1, .long w120), (0, .ref hm)]) hx hb dX3_digest_69 hl (k := 1) rfl (by decide) (by decide) rfl (fun ls hl => ?_)
  refine lv_goto (tgt := 38) hx hb dX3_digest_72 (by decide) ?_
  refine lv_iload_n hx hb dX3_digest_38 rfl (lv_at hl 0 rfl) ?_
  refine lv_bipush (v := 12) hx hb dX3_digest_39 (by decide) ?_
  refine lv_icmp_ge (tgt := 75) hx hb dX3_digest_41 (by decide) (fun c121 => ?_) (fun c121 => absurd c121 (by decide))
  refine lv_iconst (v := 0) hx hb dX3_digest_75 (by decide) ?_
  refine lv_istore_n (lv' := [(3, .int 0), (1, .long w120), (0, .ref hm)]) hx hb dX3_digest_76 rfl hl (by decide) rfl (fun ls hl => ?_)
  suffices K77 : ∀ (n : Nat) (cc77 ss77 dd77 : Nat) (i : Nat) (da : Int64), (cc77 = 9 + 369 * i) → (ss77 = 81 + 2241 * i) → (dd77 = 9 + 369 * i) → (i ≤ 6) → 6 - i < n → ∀ (H : Heap) (locs : List Loc), va_P (dC, dI) vwCl [(sl, .inl (d3, 6, .inl fs)), (gr, .inl (d4, 6, .inl fg)), (gt, .inl (d8, 6, .inl ft)), (gw, .inl (d9, 6, .inl fu)), (gp, .inl (d12, 360, .inl fp)), (go, .inl (d13, 360, .inl fo)), (hm, .inr (3, [.int 0, .int 6, .ref wi, .ref co, .ref sl, .ref rn, .ref so, .ref bn, .ref sm, .ref ah])), (sm, .inr (2, [.int 0, .ref gr, .ref gt, .ref gw, .ref gk, .ref gi, .ref gp, .ref go, .ref gg, .ref hm])), (wi, .inl (d1, 6, .inl fw)), (co, .inl (d2, 6, .inl fc)), (bn, .inl (d5, 3, .inl fb)), (rn, .inl (d6, 12, .inl fn)), (so, .inl (d7, 12, .inl fz)), (gk, .inl (d10, 360, .inl fk)), (gi, .inl (d11, 360, .inl (fun _ => 0)))] H → va_D A [(sl, .inl (d3, 6, .inl fs)), (gr, .inl (d4, 6, .inl fg)), (gt, .inl (d8, 6, .inl ft)), (gw, .inl (d9, 6, .inl fu)), (gp, .inl (d12, 360, .inl fp)), (go, .inl (d13, 360, .inl fo)), (hm, .inr (3, [.int 0, .int 6, .ref wi, .ref co, .ref sl, .ref rn, .ref so, .ref bn, .ref sm, .ref ah])), (sm, .inr (2, [.int 0, .ref gr, .ref gt, .ref gw, .ref gk, .ref gi, .ref gp, .ref go, .ref gg, .ref hm])), (wi, .inl (d1, 6, .inl fw)), (co, .inl (d2, 6, .inl fc)), (bn, .inl (d5, 3, .inl fb)), (rn, .inl (d6, 12, .inl fn)), (so, .inl (d7, 12, .inl fz)), (gk, .inl (d10, 360, .inl fk)), (gi, .inl (d11, 360, .inl (fun _ => 0)))] → va_S A s.heap H locs → s.heap.size + dd77 ≤ H.size → ∀ ls : Array Slot, lv_has ls 7 [(0, .ref hm), (1, .long da), (3, .int (nI i))] → W p l e ({ frames := 4, cells := 2223, slots := 13527, locals := 94 } : Room) s m (([.ref hm] : List Value).toArray) below meth c H locs cc77 ss77 (MQ below (va_Ql (fun (r : Int64) (u : Unit) => True) (fun (u : Unit) (t : State) => va_P (dC, dI) vwCl [(hm, .inr (3, [.int 0, .int 6, .ref wi, .ref co, .ref sl, .ref rn, .ref so, .ref bn, .ref sm, .ref ah])), (sm, .inr (2, [.int 0, .ref gr, .ref gt, .ref gw, .ref gk, .ref gi, .ref gp, .ref go, .ref gg, .ref hm])), (wi, .inl (d1, 6, .inl fw)), (co, .inl (d2, 6, .inl fc)), (sl, .inl (d3, 6, .inl fs)), (gr, .inl (d4, 6, .inl fg)), (bn, .inl (d5, 3, .inl fb)), (rn, .inl (d6, 12, .inl fn)), (so, .inl (d7, 12, .inl fz)), (gt, .inl (d8, 6, .inl ft)), (gw, .inl (d9, 6, .inl fu)), (gk, .inl (d10, 360, .inl fk)), (gi, .inl (d11, 360, .inl (fun _ => 0))), (gp, .inl (d12, 360, .inl fp)), (go, .inl (d13, 360, .inl fo))] t.heap ∧ va_K (dC, dI) vwCl [] t ∧ va_D A [(hm, .inr (3, [.int 0, .int 6, .ref wi, .ref co, .ref sl, .ref rn, .ref so, .ref bn, .ref sm, .ref ah])), (sm, .inr (2, [.int 0, .ref gr, .ref gt, .ref gw, .ref gk, .ref gi, .ref gp, .ref go, .ref gg, .ref hm])), (wi, .inl (d1, 6, .inl fw)), (co, .inl (d2, 6, .inl fc)), (sl, .inl (d3, 6, .inl fs)), (gr, .inl (d4, 6, .inl fg)), (bn, .inl (d5, 3, .inl fb)), (rn, .inl (d6, 12, .inl fn)), (so, .inl (d7, 12, .inl fz)), (gt, .inl (d8, 6, .inl ft)), (gw, .inl (d9, 6, .inl fu)), (gk, .inl (d10, 360, .inl fk)), (gi, .inl (d11, 360, .inl (fun _ => 0))), (gp, .inl (d12, 360, .inl fp)), (go, .inl (d13, 360, .inl fo))] ∧ s.heap.size + 2223 ≤ t.heap.size) A) (([.ref hm] : List Value).toArray) s 2223 13527 A) (F0 m 77 ls []) from
    K77 _ 9 81 9 0 w120 (by omega) (by omega) (by omega) (by decide) (Nat.lt_succ_self _) _ _ hP hD hS hZ _ (lv_sub hl [2, 1, 0] rfl)
  intro n
  induction n with
  | zero =>
    intro cc77 ss77 dd77 i da hcc77 hss77 hdd77 hi hn
    exact absurd hn (Nat.not_lt_zero _)
  | succ n ih77 =>
    intro cc77 ss77 dd77 i da hcc77 hss77 hdd77 hi hn77 H locs hP hD hS hZ ls hl
    refine lv_iload_n hx hb dX3_digest_77 rfl (lv_at hl 2 rfl) ?_
    refine lv_aload_n hx hb dX3_digest_78 rfl (lv_at hl 0 rfl) ?_
    refine va_get (D := (dC, dI)) (ci := 3) (v := .int 6) (C := RX3) (T := TX3) (N := 10) hx hb hts (by decide +kernel) hown hK hP 6 rfl rfl 1 (by decide) (hts (.fieldLink RX3 44 "ThatchRoofModel" "roofs" "I") (by decide +kernel)) (fun _ h9 => h9) rfl dX3_digest_79 ?_
    refine lv_icmp_ge (tgt := 196) hx hb dX3_digest_82 (by decide) (fun c122 => ?_) (fun c122 => ?_)
    · have nc122 : 6 ≤ i := (nI_leI (a := 6) (b := i) (by omega) (by omega)).mp c122
      refine lv_lload_n hx hb dX3_digest_196 rfl (lv_at hl 1 rfl) ?_
      have hP9 := hP.sub (ws' := [(hm, .inr (3, [.int 0, .int 6, .ref wi, .ref co, .ref sl, .ref rn, .ref so, .ref bn, .ref sm, .ref ah])), (sm, .inr (2, [.int 0, .ref gr, .ref gt, .ref gw, .ref gk, .ref gi, .ref gp, .ref go, .ref gg, .ref hm])), (wi, .inl (d1, 6, .inl fw)), (co, .inl (d2, 6, .inl fc)), (sl, .inl (d3, 6, .inl fs)), (gr, .inl (d4, 6, .inl fg)), (bn, .inl (d5, 3, .inl fb)), (rn, .inl (d6, 12, .inl fn)), (so, .inl (d7, 12, .inl fz)), (gt, .inl (d8, 6, .inl ft)), (gw, .inl (d9, 6, .inl fu)), (gk, .inl (d10, 360, .inl fk)), (gi, .inl (d11, 360, .inl (fun _ => 0))), (gp, .inl (d12, 360, .inl fp)), (go, .inl (d13, 360, .inl fo))]) [6, 7, 8, 9, 0, 1, 10, 11, 12, 2, 3, 13, 14, 4, 5] rfl
      have hD9 := hD.sub (ws' := [(hm, .inr (3, [.int 0, .int 6, .ref wi, .ref co, .ref sl, .ref rn, .ref so, .ref bn, .ref sm, .ref ah])), (sm, .inr (2, [.int 0, .ref gr, .ref gt, .ref gw, .ref gk, .ref gi, .ref gp, .ref go, .ref gg, .ref hm])), (wi, .inl (d1, 6, .inl fw)), (co, .inl (d2, 6, .inl fc)), (sl, .inl (d3, 6, .inl fs)), (gr, .inl (d4, 6, .inl fg)), (bn, .inl (d5, 3, .inl fb)), (rn, .inl (d6, 12, .inl fn)), (so, .inl (d7, 12, .inl fz)), (gt, .inl (d8, 6, .inl ft)), (gw, .inl (d9, 6, .inl fu)), (gk, .inl (d10, 360, .inl fk)), (gi, .inl (d11, 360, .inl (fun _ => 0))), (gp, .inl (d12, 360, .inl fp)), (go, .inl (d13, 360, .inl fo))]) [6, 7, 8, 9, 0, 1, 10, 11, 12, 2, 3, 13, 14, 4, 5] (by decide) rfl
      have hK9 := hK.sub (tys' := []) [] rfl
      refine W.widen (k := 2223) (n := 13527) (by omega) (by omega) ?_
      exact W.lret (v := da) hx hb hr (fun t ht hW => ⟨⟨da, (), rfl, by exact trivial, ⟨by rw [ht]; exact hP9, va_K.moved hW.alike hK9, hD9, by rw [ht]; omega⟩⟩, hS.F ht⟩) hS.2.2 dX3_digest_197
    · have nc122 : i < 6 := Nat.lt_of_not_le (fun q => c122 ((nI_leI (a := 6) (b := i) (by omega) (by omega)).mpr q))
      refine lv_iconst (v := 0) hx hb dX3_digest_85 (by decide) ?_
      refine lv_istore (lv' := [(4, .int 0), (0, .ref hm), (1, .long da), (3, .int (nI i))]) hx hb dX3_digest_86 hl (by decide) rfl (fun ls hl => ?_)
      refine lv_iload hx hb dX3_digest_88 (lv_at hl 0 rfl) ?_
      refine lv_bipush (v := 8) hx hb dX3_digest_90 (by decide) ?_
      refine lv_icmp_gt (tgt := 116) hx hb dX3_digest_92 (by decide) (fun c123 => absurd c123 (by decide)) (fun c123 => ?_)
      refine lv_lload_n hx hb dX3_digest_95 rfl (lv_at hl 2 rfl) ?_
      refine lv_ldc2 (v := 31) hx hb hown (hts (.constantLong RX3 151 31) (by decide +kernel)) dX3_digest_96 ?_
      refine lv_lmul hx hb dX3_digest_99 ?_
      refine lv_topl (fun w124 ew124 => ?_)
      refine lv_aload_n hx hb dX3_digest_100 rfl (lv_at hl 1 rfl) ?_
      refine lv_iload_n hx hb dX3_digest_101 rfl (lv_at hl 3 rfl) ?_
      refine lv_iload hx hb dX3_digest_102 (lv_at hl 0 rfl) ?_
      have hPc := hP.sub (ws' := [(hm, .inr (3, [.int 0, .int 6, .ref wi, .ref co, .ref sl, .ref rn, .ref so, .ref bn, .ref sm, .ref ah])), (sm, .inr (2, [.int 0, .ref gr, .ref gt, .ref gw, .ref gk, .ref gi, .ref gp, .ref go, .ref gg, .ref hm])), (wi, .inl (d1, 6, .inl fw)), (co, .inl (d2, 6, .inl fc)), (sl, .inl (d3, 6, .inl fs)), (gr, .inl (d4, 6, .inl fg)), (gt, .inl (d8, 6, .inl ft)), (gw, .inl (d9, 6, .inl fu)), (gk, .inl (d10, 360, .inl fk)), (gi, .inl (d11, 360, .inl (fun _ => 0)))]) [6, 7, 8, 9, 0, 1, 2, 3, 13, 14] rfl
      have hKc := hK.sub (tys' := [(d1, .int), (d2, .int), (d3, .int), (d4, .int), (d8, .int), (d9, .int), (d10, .int), (d11, .int)]) [0, 1, 2, 3, 7, 8, 9, 10] rfl
      have hDc := hD.sub (ws' := [(hm, .inr (3, [.int 0, .int 6, .ref wi, .ref co, .ref sl, .ref rn, .ref so, .ref bn, .ref sm, .ref ah])), (sm, .inr (2, [.int 0, .ref gr, .ref gt, .ref gw, .ref gk, .ref gi, .ref gp, .ref go, .ref gg, .ref hm])), (wi, .inl (d1, 6, .inl fw)), (co, .inl (d2, 6, .inl fc)), (sl, .inl (d3, 6, .inl fs)), (gr, .inl (d4, 6, .inl fg)), (gt, .inl (d8, 6, .inl ft)), (gw, .inl (d9, 6, .inl fu)), (gk, .inl (d10, 360, .inl fk)), (gi, .inl (d11, 360, .inl (fun _ => 0)))]) [6, 7, 8, 9, 0, 1, 2, 3, 13, 14] (by decide) rfl
      have hFc := va_free (wc := [(hm, .inr (3, [.int 0, .int 6, .ref wi, .ref co, .ref sl, .ref rn, .ref so, .ref bn, .ref sm, .ref ah])), (sm, .inr (2, [.int 0, .ref gr, .ref gt, .ref gw, .ref gk, .ref gi, .ref gp, .ref go, .ref gg, .ref hm])), (wi, .inl (d1, 6, .inl fw)), (co, .inl (d2, 6, .inl fc)), (sl, .inl (d3, 6, .inl fs)), (gr, .inl (d4, 6, .inl fg)), (gt, .inl (d8, 6, .inl ft)), (gw, .inl (d9, 6, .inl fu)), (gk, .inl (d10, 360, .inl fk)), (gi, .inl (d11, 360, .inl (fun _ => 0)))]) hD hS hA [6, 7, 8, 9, 0, 1, 2, 3, 13, 14] rfl
      refine va_calli (va_runV (As := [.int (nI i), .int 0]) (rest := [.long w124]) ⟨hx, hb, hml, hown, hts⟩ (r3_roofTold l dC dI H.size hm wi co sl rn so bn sm ah 0 gr gt gw gk gi gp go gg d1 d2 d3 d4 d8 d9 d10 d11 fw fc fs fg ft fu fk i 0 (by first | assumption | decide | omega) (by first | assumption | decide | omega) (by first | assumption | decide | omega) (by first | assumption | decide | omega) (⟨by decide, by decide⟩)) (cwV 2 hts gX3_digest_X3_roofTold rfl rfl rfl (by decide +kernel) ⟨Nat.le_of_ble_eq_true rfl, Nat.le_of_ble_eq_true rfl⟩) ⟨fun a U g mk q => by obtain ⟨q0, q1, qP, qK, qD, qN⟩ := q; exact ⟨q0, q1, qP, va_K.moved (u := U) (U := U.calling g mk a) (Vm.Alike.refl U.vm) qK, qD, zNs.calling qN⟩, va_recv hKc hPc (ci := 3) (q0 := 0) rfl rfl, fun U hU hW => ⟨rfl, by rw [hU], by rw [hU]; exact hPc, va_K.moved hW.alike hKc, hDc.weaken (fun _ _ _ _ => trivial), zNs.warm hW hZN⟩⟩ rfl rfl hl.1 rfl (lv_room (Nat.le_of_ble_eq_true rfl)) dX3_digest_104 ⟨by show _ ≤ 2223; omega, by show _ ≤ 13527; omega⟩) hS (fun q _ h => hFc q h) hFc (fun r125 u t H1 locs ht hvm hr125 hB hz1 hk1 hS => ?_)
      obtain ⟨hP1, hK1, hD1, hZ1⟩ := hB
      rw [ht] at hP1 hZ1
      have hZ : s.heap.size + (dd77 + 1) ≤ H1.size := by omega
      have hK1 := va_K.moved hvm.symm hK1
      try dsimp only at hr125
      obtain ⟨hP, hD⟩ := va_join (wr := [(gp, .inl (d12, 360, .inl fp)), (go, .inl (d13, 360, .inl fo)), (bn, .inl (d5, 3, .inl fb)), (rn, .inl (d6, 12, .inl fn)), (so, .inl (d7, 12, .inl fz))]) (w1 := [(hm, .inr (3, [.int 0, .int 6, .ref wi, .ref co, .ref sl, .ref rn, .ref so, .ref bn, .ref sm, .ref ah])), (sm, .inr (2, [.int 0, .ref gr, .ref gt, .ref gw, .ref gk, .ref gi, .ref gp, .ref go, .ref gg, .ref hm])), (wi, .inl (d1, 6, .inl fw)), (co, .inl (d2, 6, .inl fc)), (sl, .inl (d3, 6, .inl fs)), (gr, .inl (d4, 6, .inl fg)), (gt, .inl (d8, 6, .inl ft)), (gw, .inl (d9, 6, .inl fu)), (gk, .inl (d10, 360, .inl fk)), (gi, .inl (d11, 360, .inl (fun _ => 0)))]) hP hD [6, 7, 8, 9, 0, 1, 2, 3, 13, 14] [4, 5, 10, 11, 12] rfl rfl (by decide) (by decide) hk1 hFc hP1 hD1
      generalize H1 = H at hP hS hZ ⊢
      have hP : va_P (dC, dI) vwCl [(gp, .inl (d12, 360, .inl fp)), (go, .inl (d13, 360, .inl fo)), (bn, .inl (d5, 3, .inl fb)), (rn, .inl (d6, 12, .inl fn)), (so, .inl (d7, 12, .inl fz)), (hm, .inr (3, [.int 0, .int 6, .ref wi, .ref co, .ref sl, .ref rn, .ref so, .ref bn, .ref sm, .ref ah])), (sm, .inr (2, [.int 0, .ref gr, .ref gt, .ref gw, .ref gk, .ref gi, .ref gp, .ref go, .ref gg, .ref hm])), (wi, .inl (d1, 6, .inl fw)), (co, .inl (d2, 6, .inl fc)), (sl, .inl (d3, 6, .inl fs)), (gr, .inl (d4, 6, .inl fg)), (gt, .inl (d8, 6, .inl ft)), (gw, .inl (d9, 6, .inl fu)), (gk, .inl (d10, 360, .inl fk)), (gi, .inl (d11, 360, .inl (fun _ => 0)))] H := hP
      have hD : va_D A [(gp, .inl (d12, 360, .inl fp)), (go, .inl (d13, 360, .inl fo)), (bn, .inl (d5, 3, .inl fb)), (rn, .inl (d6, 12, .inl fn)), (so, .inl (d7, 12, .inl fz)), (hm, .inr (3, [.int 0, .int 6, .ref wi, .ref co, .ref sl, .ref rn, .ref so, .ref bn, .ref sm, .ref ah])), (sm, .inr (2, [.int 0, .ref gr, .ref gt, .ref gw, .ref gk, .ref gi, .ref gp, .ref go, .ref gg, .ref hm])), (wi, .inl (d1, 6, .inl fw)), (co, .inl (d2, 6, .inl fc)), (sl, .inl (d3, 6, .inl fs)), (gr, .inl (d4, 6, .inl fg)), (gt, .inl (d8, 6, .inl ft)), (gw, .inl (d9, 6, .inl fu)), (gk, .inl (d10, 360, .inl fk)), (gi, .inl (d11, 360, .inl (fun _ => 0)))] := hD
      refine W.widen (k := (cc77 + 1)) (n := (ss77 + 9)) (by omega) (by omega) ?_
      obtain - := hr125
      refine lv_i2l (v := r125.toInt64) hx hb dX3_digest_107 (by first | rfl | decide) ?_
      refine lv_ladd hx hb dX3_digest_108 ?_
      refine lv_topl (fun w126 ew126 => ?_)
      refine lv_lstore_n (lv' := [(1, .long w126), (4, .int 0), (0, .ref hm), (3, .int (nI i))]) hx hb dX3_digest_109 rfl hl (by decide) rfl (fun ls hl => ?_)
      refine lv_iinc (v := 1) (lv' := [(4, .int 1), (1, .long w126), (0, .ref hm), (3, .int (nI i))]) hx hb dX3_digest_110 hl (k := 1) rfl (by decide) (by decide) rfl (fun ls hl => ?_)
      refine lv_goto (tgt := 88) hx hb dX3_digest_113 (by decide) ?_
      refine lv_iload hx hb dX3_digest_88 (lv_at hl 0 rfl) ?_
      refine lv_bipush (v := 8) hx hb dX3_digest_90 (by decide) ?_
      refine lv_icmp_gt (tgt := 116) hx hb dX3_digest_92 (by decide) (fun c127 => absurd c127 (by decide)) (fun c127 => ?_)
      refine lv_lload_n hx hb dX3_digest_95 rfl (lv_at hl 1 rfl) ?_
      refine lv_ldc2 (v := 31) hx hb hown (hts (.constantLong RX3 151 31) (by decide +kernel)) dX3_digest_96 ?_
      refine lv_lmul hx hb dX3_digest_99 ?_
      refine lv_topl (fun w128 ew128 => ?_)
      refine lv_aload_n hx hb dX3_digest_100 rfl (lv_at hl 2 rfl) ?_
      refine lv_iload_n hx hb dX3_digest_101 rfl (lv_at hl 3 rfl) ?_
      refine lv_iload hx hb dX3_digest_102 (lv_at hl 0 rfl) ?_
      have hPc := hP.sub (ws' := [(hm, .inr (3, [.int 0, .int 6, .ref wi, .ref co, .ref sl, .ref rn, .ref so, .ref bn, .ref sm, .ref ah])), (sm, .inr (2, [.int 0, .ref gr, .ref gt, .ref gw, .ref gk, .ref gi, .ref gp, .ref go, .ref gg, .ref hm])), (wi, .inl (d1, 6, .inl fw)), (co, .inl (d2, 6, .inl fc)), (sl, .inl (d3, 6, .inl fs)), (gr, .inl (d4, 6, .inl fg)), (gt, .inl (d8, 6, .inl ft)), (gw, .inl (d9, 6, .inl fu)), (gk, .inl (d10, 360, .inl fk)), (gi, .inl (d11, 360, .inl (fun _ => 0)))]) [5, 6, 7, 8, 9, 10, 11, 12, 13, 14] rfl
      have hKc := hK.sub (tys' := [(d1, .int), (d2, .int), (d3, .int), (d4, .int), (d8, .int), (d9, .int), (d10, .int), (d11, .int)]) [0, 1, 2, 3, 7, 8, 9, 10] rfl
      have hDc := hD.sub (ws' := [(hm, .inr (3, [.int 0, .int 6, .ref wi, .ref co, .ref sl, .ref rn, .ref so, .ref bn, .ref sm, .ref ah])), (sm, .inr (2, [.int 0, .ref gr, .ref gt, .ref gw, .ref gk, .ref gi, .ref gp, .ref go, .ref gg, .ref hm])), (wi, .inl (d1, 6, .inl fw)), (co, .inl (d2, 6, .inl fc)), (sl, .inl (d3, 6, .inl fs)), (gr, .inl (d4, 6, .inl fg)), (gt, .inl (d8, 6, .inl ft)), (gw, .inl (d9, 6, .inl fu)), (gk, .inl (d10, 360, .inl fk)), (gi, .inl (d11, 360, .inl (fun _ => 0)))]) [5, 6, 7, 8, 9, 10, 11, 12, 13, 14] (by decide) rfl
      have hFc := va_free (wc := [(hm, .inr (3, [.int 0, .int 6, .ref wi, .ref co, .ref sl, .ref rn, .ref so, .ref bn, .ref sm, .ref ah])), (sm, .inr (2, [.int 0, .ref gr, .ref gt, .ref gw, .ref gk, .ref gi, .ref gp, .ref go, .ref gg, .ref hm])), (wi, .inl (d1, 6, .inl fw)), (co, .inl (d2, 6, .inl fc)), (sl, .inl (d3, 6, .inl fs)), (gr, .inl (d4, 6, .inl fg)), (gt, .inl (d8, 6, .inl ft)), (gw, .inl (d9, 6, .inl fu)), (gk, .inl (d10, 360, .inl fk)), (gi, .inl (d11, 360, .inl (fun _ => 0)))]) hD hS hA [5, 6, 7, 8, 9, 10, 11, 12, 13, 14] rfl
      refine va_calli (va_runV (As := [.int (nI i), .int 1]) (rest := [.long w128]) ⟨hx, hb, hml, hown, hts⟩ (r3_roofTold l dC dI H.size hm wi co sl rn so bn sm ah 0 gr gt gw gk gi gp go gg d1 d2 d3 d4 d8 d9 d10 d11 fw fc fs fg ft fu fk i 1 (by first | assumption | decide | omega) (by first | assumption | decide | omega) (by first | assumption | decide | omega) (by first | assumption | decide | omega) (⟨by decide, by decide⟩)) (cwV 2 hts gX3_digest_X3_roofTold rfl rfl rfl (by decide +kernel) ⟨Nat.le_of_ble_eq_true rfl, Nat.le_of_ble_eq_true rfl⟩) ⟨fun a U g mk q => by obtain ⟨q0, q1, qP, qK, qD, qN⟩ := q; exact ⟨q0, q1, qP, va_K.moved (u := U) (U := U.calling g mk a) (Vm.Alike.refl U.vm) qK, qD, zNs.calling qN⟩, va_recv hKc hPc (ci := 3) (q0 := 0) rfl rfl, fun U hU hW => ⟨rfl, by rw [hU], by rw [hU]; exact hPc, va_K.moved hW.alike hKc, hDc.weaken (fun _ _ _ _ => trivial), zNs.warm hW hZN⟩⟩ rfl rfl hl.1 rfl (lv_room (Nat.le_of_ble_eq_true rfl)) dX3_digest_104 ⟨by show _ ≤ 2223; omega, by show _ ≤ 13527; omega⟩) hS (fun q _ h => hFc q h) hFc (fun r129 u t H1 locs ht hvm hr129 hB hz1 hk1 hS => ?_)
      obtain ⟨hP1, hK1, hD1, hZ1⟩ := hB
      rw [ht] at hP1 hZ1
      have hZ : s.heap.size + (dd77 + 2) ≤ H1.size := by omega
      have hK1 := va_K.moved hvm.symm hK1
      try dsimp only at hr129
      obtain ⟨hP, hD⟩ := va_join (wr := [(gp, .inl (d12, 360, .inl fp)), (go, .inl (d13, 360, .inl fo)), (bn, .inl (d5, 3, .inl fb)), (rn, .inl (d6, 12, .inl fn)), (so, .inl (d7, 12, .inl fz))]) (w1 := [(hm, .inr (3, [.int 0, .int 6, .ref wi, .ref co, .ref sl, .ref rn, .ref so, .ref bn, .ref sm, .ref ah])), (sm, .inr (2, [.int 0, .ref gr, .ref gt, .ref gw, .ref gk, .ref gi, .ref gp, .ref go, .ref gg, .ref hm])), (wi, .inl (d1, 6, .inl fw)), (co, .inl (d2, 6, .inl fc)), (sl, .inl (d3, 6, .inl fs)), (gr, .inl (d4, 6, .inl fg)), (gt, .inl (d8, 6, .inl ft)), (gw, .inl (d9, 6, .inl fu)), (gk, .inl (d10, 360, .inl fk)), (gi, .inl (d11, 360, .inl (fun _ => 0)))]) hP hD [5, 6, 7, 8, 9, 10, 11, 12, 13, 14] [0, 1, 2, 3, 4] rfl rfl (by decide) (by decide) hk1 hFc hP1 hD1
      generalize H1 = H at hP hS hZ ⊢
      have hP : va_P (dC, dI) vwCl [(gp, .inl (d12, 360, .inl fp)), (go, .inl (d13, 360, .inl fo)), (bn, .inl (d5, 3, .inl fb)), (rn, .inl (d6, 12, .inl fn)), (so, .inl (d7, 12, .inl fz)), (hm, .inr (3, [.int 0, .int 6, .ref wi, .ref co, .ref sl, .ref rn, .ref so, .ref bn, .ref sm, .ref ah])), (sm, .inr (2, [.int 0, .ref gr, .ref gt, .ref gw, .ref gk, .ref gi, .ref gp, .ref go, .ref gg, .ref hm])), (wi, .inl (d1, 6, .inl fw)), (co, .inl (d2, 6, .inl fc)), (sl, .inl (d3, 6, .inl fs)), (gr, .inl (d4, 6, .inl fg)), (gt, .inl (d8, 6, .inl ft)), (gw, .inl (d9, 6, .inl fu)), (gk, .inl (d10, 360, .inl fk)), (gi, .inl (d11, 360, .inl (fun _ => 0)))] H := hP
      have hD : va_D A [(gp, .inl (d12, 360, .inl fp)), (go, .inl (d13, 360, .inl fo)), (bn, .inl (d5, 3, .inl fb)), (rn, .inl (d6, 12, .inl fn)), (so, .inl (d7, 12, .inl fz)), (hm, .inr (3, [.int 0, .int 6, .ref wi, .ref co, .ref sl, .ref rn, .ref so, .ref bn, .ref sm, .ref ah])), (sm, .inr (2, [.int 0, .ref gr, .ref gt, .ref gw, .ref gk, .ref gi, .ref gp, .ref go, .ref gg, .ref hm])), (wi, .inl (d1, 6, .inl fw)), (co, .inl (d2, 6, .inl fc)), (sl, .inl (d3, 6, .inl fs)), (gr, .inl (d4, 6, .inl fg)), (gt, .inl (d8, 6, .inl ft)), (gw, .inl (d9, 6, .inl fu)), (gk, .inl (d10, 360, .inl fk)), (gi, .inl (d11, 360, .inl (fun _ => 0)))] := hD
      refine W.widen (k := (cc77 + 2)) (n := (ss77 + 18)) (by omega) (by omega) ?_
      obtain - := hr129
      refine lv_i2l (v := r129.toInt64) hx hb dX3_digest_107 (by first | rfl | decide) ?_
      refine lv_ladd hx hb dX3_digest_108 ?_
      refine lv_topl (fun w130 ew130 => ?_)
      refine lv_lstore_n (lv' := [(1, .long w130), (4, .int 1), (0, .ref hm), (3, .int (nI i))]) hx hb dX3_digest_109 rfl hl (by decide) rfl (fun ls hl => ?_)
      refine lv_iinc (v := 2) (lv' := [(4, .int 2), (1, .long w130), (0, .ref hm), (3, .int (nI i))]) hx hb dX3_digest_110 hl (k := 1) rfl (by decide) (by decide) rfl (fun ls hl => ?_)
      refine lv_goto (tgt := 88) hx hb dX3_digest_113 (by decide) ?_
      refine lv_iload hx hb dX3_digest_88 (lv_at hl 0 rfl) ?_
      refine lv_bipush (v := 8) hx hb dX3_digest_90 (by decide) ?_
      refine lv_icmp_gt (tgt := 116) hx hb dX3_digest_92 (by decide) (fun c131 => absurd c131 (by decide)) (fun c131 => ?_)
      refine lv_lload_n hx hb dX3_digest_95 rfl (lv_at hl 1 rfl) ?_
      refine lv_ldc2 (v := 31) hx hb hown (hts (.constantLong RX3 151 31) (by decide +kernel)) dX3_digest_96 ?_
      refine lv_lmul hx hb dX3_digest_99 ?_
      refine lv_topl (fun w132 ew132 => ?_)
      refine lv_aload_n hx hb dX3_digest_100 rfl (lv_at hl 2 rfl) ?_
      refine lv_iload_n hx hb dX3_digest_101 rfl (lv_at hl 3 rfl) ?_
      refine lv_iload hx hb dX3_digest_102 (lv_at hl 0 rfl) ?_
      have hPc := hP.sub (ws' := [(hm, .inr (3, [.int 0, .int 6, .ref wi, .ref co, .ref sl, .ref rn, .ref so, .ref bn, .ref sm, .ref ah])), (sm, .inr (2, [.int 0, .ref gr, .ref gt, .ref gw, .ref gk, .ref gi, .ref gp, .ref go, .ref gg, .ref hm])), (wi, .inl (d1, 6, .inl fw)), (co, .inl (d2, 6, .inl fc)), (sl, .inl (d3, 6, .inl fs)), (gr, .inl (d4, 6, .inl fg)), (gt, .inl (d8, 6, .inl ft)), (gw, .inl (d9, 6, .inl fu)), (gk, .inl (d10, 360, .inl fk)), (gi, .inl (d11, 360, .inl (fun _ => 0)))]) [5, 6, 7, 8, 9, 10, 11, 12, 13, 14] rfl
      have hKc := hK.sub (tys' := [(d1, .int), (d2, .int), (d3, .int), (d4, .int), (d8, .int), (d9, .int), (d10, .int), (d11, .int)]) [0, 1, 2, 3, 7, 8, 9, 10] rfl
      have hDc := hD.sub (ws' := [(hm, .inr (3, [.int 0, .int 6, .ref wi, .ref co, .ref sl, .ref rn, .ref so, .ref bn, .ref sm, .ref ah])), (sm, .inr (2, [.int 0, .ref gr, .ref gt, .ref gw, .ref gk, .ref gi, .ref gp, .ref go, .ref gg, .ref hm])), (wi, .inl (d1, 6, .inl fw)), (co, .inl (d2, 6, .inl fc)), (sl, .inl (d3, 6, .inl fs)), (gr, .inl (d4, 6, .inl fg)), (gt, .inl (d8, 6, .inl ft)), (gw, .inl (d9, 6, .inl fu)), (gk, .inl (d10, 360, .inl fk)), (gi, .inl (d11, 360, .inl (fun _ => 0)))]) [5, 6, 7, 8, 9, 10, 11, 12, 13, 14] (by decide) rfl
      have hFc := va_free (wc := [(hm, .inr (3, [.int 0, .int 6, .ref wi, .ref co, .ref sl, .ref rn, .ref so, .ref bn, .ref sm, .ref ah])), (sm, .inr (2, [.int 0, .ref gr, .ref gt, .ref gw, .ref gk, .ref gi, .ref gp, .ref go, .ref gg, .ref hm])), (wi, .inl (d1, 6, .inl fw)), (co, .inl (d2, 6, .inl fc)), (sl, .inl (d3, 6, .inl fs)), (gr, .inl (d4, 6, .inl fg)), (gt, .inl (d8, 6, .inl ft)), (gw, .inl (d9, 6, .inl fu)), (gk, .inl (d10, 360, .inl fk)), (gi, .inl (d11, 360, .inl (fun _ => 0)))]) hD hS hA [5, 6, 7, 8, 9, 10, 11, 12, 13, 14] rfl
      refine va_calli (va_runV (As := [.int (nI i), .int 2]) (rest := [.long w132]) ⟨hx, hb, hml, hown, hts⟩ (r3_roofTold l dC dI H.size hm wi co sl rn so bn sm ah 0 gr gt gw gk gi gp go gg d1 d2 d3 d4 d8 d9 d10 d11 fw fc fs fg ft fu fk i 2 (by first | assumption | decide | omega) (by first | assumption | decide | omega) (by first | assumption | decide | omega) (by first | assumption | decide | omega) (⟨by decide, by decide⟩)) (cwV 2 hts gX3_digest_X3_roofTold rfl rfl rfl (by decide +kernel) ⟨Nat.le_of_ble_eq_true rfl, Nat.le_of_ble_eq_true rfl⟩) ⟨fun a U g mk q => by obtain ⟨q0, q1, qP, qK, qD, qN⟩ := q; exact ⟨q0, q1, qP, va_K.moved (u := U) (U := U.calling g mk a) (Vm.Alike.refl U.vm) qK, qD, zNs.calling qN⟩, va_recv hKc hPc (ci := 3) (q0 := 0) rfl rfl, fun U hU hW => ⟨rfl, by rw [hU], by rw [hU]; exact hPc, va_K.moved hW.alike hKc, hDc.weaken (fun _ _ _ _ => trivial), zNs.warm hW hZN⟩⟩ rfl rfl hl.1 rfl (lv_room (Nat.le_of_ble_eq_true rfl)) dX3_digest_104 ⟨by show _ ≤ 2223; omega, by show _ ≤ 13527; omega⟩) hS (fun q _ h => hFc q h) hFc (fun r133 u t H1 locs ht hvm hr133 hB hz1 hk1 hS => ?_)
      obtain ⟨hP1, hK1, hD1, hZ1⟩ := hB
      rw [ht] at hP1 hZ1
      have hZ : s.heap.size + (dd77 + 3) ≤ H1.size := by omega
      have hK1 := va_K.moved hvm.symm hK1
      try dsimp only at hr133
      obtain ⟨hP, hD⟩ := va_join (wr := [(gp, .inl (d12, 360, .inl fp)), (go, .inl (d13, 360, .inl fo)), (bn, .inl (d5, 3, .inl fb)), (rn, .inl (d6, 12, .inl fn)), (so, .inl (d7, 12, .inl fz))]) (w1 := [(hm, .inr (3, [.int 0, .int 6, .ref wi, .ref co, .ref sl, .ref rn, .ref so, .ref bn, .ref sm, .ref ah])), (sm, .inr (2, [.int 0, .ref gr, .ref gt, .ref gw, .ref gk, .ref gi, .ref gp, .ref go, .ref gg, .ref hm])), (wi, .inl (d1, 6, .inl fw)), (co, .inl (d2, 6, .inl fc)), (sl, .inl (d3, 6, .inl fs)), (gr, .inl (d4, 6, .inl fg)), (gt, .inl (d8, 6, .inl ft)), (gw, .inl (d9, 6, .inl fu)), (gk, .inl (d10, 360, .inl fk)), (gi, .inl (d11, 360, .inl (fun _ => 0)))]) hP hD [5, 6, 7, 8, 9, 10, 11, 12, 13, 14] [0, 1, 2, 3, 4] rfl rfl (by decide) (by decide) hk1 hFc hP1 hD1
      generalize H1 = H at hP hS hZ ⊢
      have hP : va_P (dC, dI) vwCl [(gp, .inl (d12, 360, .inl fp)), (go, .inl (d13, 360, .inl fo)), (bn, .inl (d5, 3, .inl fb)), (rn, .inl (d6, 12, .inl fn)), (so, .inl (d7, 12, .inl fz)), (hm, .inr (3, [.int 0, .int 6, .ref wi, .ref co, .ref sl, .ref rn, .ref so, .ref bn, .ref sm, .ref ah])), (sm, .inr (2, [.int 0, .ref gr, .ref gt, .ref gw, .ref gk, .ref gi, .ref gp, .ref go, .ref gg, .ref hm])), (wi, .inl (d1, 6, .inl fw)), (co, .inl (d2, 6, .inl fc)), (sl, .inl (d3, 6, .inl fs)), (gr, .inl (d4, 6, .inl fg)), (gt, .inl (d8, 6, .inl ft)), (gw, .inl (d9, 6, .inl fu)), (gk, .inl (d10, 360, .inl fk)), (gi, .inl (d11, 360, .inl (fun _ => 0)))] H := hP
      have hD : va_D A [(gp, .inl (d12, 360, .inl fp)), (go, .inl (d13, 360, .inl fo)), (bn, .inl (d5, 3, .inl fb)), (rn, .inl (d6, 12, .inl fn)), (so, .inl (d7, 12, .inl fz)), (hm, .inr (3, [.int 0, .int 6, .ref wi, .ref co, .ref sl, .ref rn, .ref so, .ref bn, .ref sm, .ref ah])), (sm, .inr (2, [.int 0, .ref gr, .ref gt, .ref gw, .ref gk, .ref gi, .ref gp, .ref go, .ref gg, .ref hm])), (wi, .inl (d1, 6, .inl fw)), (co, .inl (d2, 6, .inl fc)), (sl, .inl (d3, 6, .inl fs)), (gr, .inl (d4, 6, .inl fg)), (gt, .inl (d8, 6, .inl ft)), (gw, .inl (d9, 6, .inl fu)), (gk, .inl (d10, 360, .inl fk)), (gi, .inl (d11, 360, .inl (fun _ => 0)))] := hD
      refine W.widen (k := (cc77 + 3)) (n := (ss77 + 27)) (by omega) (by omega) ?_
      obtain - := hr133
      refine lv_i2l (v := r133.toInt64) hx hb dX3_digest_107 (by first | rfl | decide) ?_
      refine lv_ladd hx hb dX3_digest_108 ?_
      refine lv_topl (fun w134 ew134 => ?_)
      refine lv_lstore_n (lv' := [(1, .long w134), (4, .int 2), (0, .ref hm), (3, .int (nI i))]) hx hb dX3_digest_109 rfl hl (by decide) rfl (fun ls hl => ?_)
      refine lv_iinc (v := 3) (lv' := [(4, .int 3), (1, .long w134), (0, .ref hm), (3, .int (nI i))]) hx hb dX3_digest_110 hl (k := 1) rfl (by decide) (by decide) rfl (fun ls hl => ?_)
      refine lv_goto (tgt := 88) hx hb dX3_digest_113 (by decide) ?_
      refine lv_iload hx hb dX3_digest_88 (lv_at hl 0 rfl) ?_
      refine lv_bipush (v := 8) hx hb dX3_digest_90 (by decide) ?_
      refine lv_icmp_gt (tgt := 116) hx hb dX3_digest_92 (by decide) (fun c135 => absurd c135 (by decide)) (fun c135 => ?_)
      refine lv_lload_n hx hb dX3_digest_95 rfl (lv_at hl 1 rfl) ?_
      refine lv_ldc2 (v := 31) hx hb hown (hts (.constantLong RX3 151 31) (by decide +kernel)) dX3_digest_96 ?_
      refine lv_lmul hx hb dX3_digest_99 ?_
      refine lv_topl (fun w136 ew136 => ?_)
      refine lv_aload_n hx hb dX3_digest_100 rfl (lv_at hl 2 rfl) ?_
      refine lv_iload_n hx hb dX3_digest_101 rfl (lv_at hl 3 rfl) ?_
      refine lv_iload hx hb dX3_digest_102 (lv_at hl 0 rfl) ?_
      have hPc := hP.sub (ws' := [(hm, .inr (3, [.int 0, .int 6, .ref wi, .ref co, .ref sl, .ref rn, .ref so, .ref bn, .ref sm, .ref ah])), (sm, .inr (2, [.int 0, .ref gr, .ref gt, .ref gw, .ref gk, .ref gi, .ref gp, .ref go, .ref gg, .ref hm])), (wi, .inl (d1, 6, .inl fw)), (co, .inl (d2, 6, .inl fc)), (sl, .inl (d3, 6, .inl fs)), (gr, .inl (d4, 6, .inl fg)), (gt, .inl (d8, 6, .inl ft)), (gw, .inl (d9, 6, .inl fu)), (gk, .inl (d10, 360, .inl fk)), (gi, .inl (d11, 360, .inl (fun _ => 0)))]) [5, 6, 7, 8, 9, 10, 11, 12, 13, 14] rfl
      have hKc := hK.sub (tys' := [(d1, .int), (d2, .int), (d3, .int), (d4, .int), (d8, .int), (d9, .int), (d10, .int), (d11, .int)]) [0, 1, 2, 3, 7, 8, 9, 10] rfl
      have hDc := hD.sub (ws' := [(hm, .inr (3, [.int 0, .int 6, .ref wi, .ref co, .ref sl, .ref rn, .ref so, .ref bn, .ref sm, .ref ah])), (sm, .inr (2, [.int 0, .ref gr, .ref gt, .ref gw, .ref gk, .ref gi, .ref gp, .ref go, .ref gg, .ref hm])), (wi, .inl (d1, 6, .inl fw)), (co, .inl (d2, 6, .inl fc)), (sl, .inl (d3, 6, .inl fs)), (gr, .inl (d4, 6, .inl fg)), (gt, .inl (d8, 6, .inl ft)), (gw, .inl (d9, 6, .inl fu)), (gk, .inl (d10, 360, .inl fk)), (gi, .inl (d11, 360, .inl (fun _ => 0)))]) [5, 6, 7, 8, 9, 10, 11, 12, 13, 14] (by decide) rfl
      have hFc := va_free (wc := [(hm, .inr (3, [.int 0, .int 6, .ref wi, .ref co, .ref sl, .ref rn, .ref so, .ref bn, .ref sm, .ref ah])), (sm, .inr (2, [.int 0, .ref gr, .ref gt, .ref gw, .ref gk, .ref gi, .ref gp, .ref go, .ref gg, .ref hm])), (wi, .inl (d1, 6, .inl fw)), (co, .inl (d2, 6, .inl fc)), (sl, .inl (d3, 6, .inl fs)), (gr, .inl (d4, 6, .inl fg)), (gt, .inl (d8, 6, .inl ft)), (gw, .inl (d9, 6, .inl fu)), (gk, .inl (d10, 360, .inl fk)), (gi, .inl (d11, 360, .inl (fun _ => 0)))]) hD hS hA [5, 6, 7, 8, 9, 10, 11, 12, 13, 14] rfl
      refine va_calli (va_runV (As := [.int (nI i), .int 3]) (rest := [.long w136]) ⟨hx, hb, hml, hown, hts⟩ (r3_roofTold l dC dI H.size hm wi co sl rn so bn sm ah 0 gr gt gw gk gi gp go gg d1 d2 d3 d4 d8 d9 d10 d11 fw fc fs fg ft fu fk i 3 (by first | assumption | decide | omega) (by first | assumption | decide | omega) (by first | assumption | decide | omega) (by first | assumption | decide | omega) (⟨by decide, by decide⟩)) (cwV 2 hts gX3_digest_X3_roofTold rfl rfl rfl (by decide +kernel) ⟨Nat.le_of_ble_eq_true rfl, Nat.le_of_ble_eq_true rfl⟩) ⟨fun a U g mk q => by obtain ⟨q0, q1, qP, qK, qD, qN⟩ := q; exact ⟨q0, q1, qP, va_K.moved (u := U) (U := U.calling g mk a) (Vm.Alike.refl U.vm) qK, qD, zNs.calling qN⟩, va_recv hKc hPc (ci := 3) (q0 := 0) rfl rfl, fun U hU hW => ⟨rfl, by rw [hU], by rw [hU]; exact hPc, va_K.moved hW.alike hKc, hDc.weaken (fun _ _ _ _ => trivial), zNs.warm hW hZN⟩⟩ rfl rfl hl.1 rfl (lv_room (Nat.le_of_ble_eq_true rfl)) dX3_digest_104 ⟨by show _ ≤ 2223; omega, by show _ ≤ 13527; omega⟩) hS (fun q _ h => hFc q h) hFc (fun r137 u t H1 locs ht hvm hr137 hB hz1 hk1 hS => ?_)
      obtain ⟨hP1, hK1, hD1, hZ1⟩ := hB
      rw [ht] at hP1 hZ1
      have hZ : s.heap.size + (dd77 + 4) ≤ H1.size := by omega
      have hK1 := va_K.moved hvm.symm hK1
      try dsimp only at hr137
      obtain ⟨hP, hD⟩ := va_join (wr := [(gp, .inl (d12, 360, .inl fp)), (go, .inl (d13, 360, .inl fo)), (bn, .inl (d5, 3, .inl fb)), (rn, .inl (d6, 12, .inl fn)), (so, .inl (d7, 12, .inl fz))]) (w1 := [(hm, .inr (3, [.int 0, .int 6, .ref wi, .ref co, .ref sl, .ref rn, .ref so, .ref bn, .ref sm, .ref ah])), (sm, .inr (2, [.int 0, .ref gr, .ref gt, .ref gw, .ref gk, .ref gi, .ref gp, .ref go, .ref gg, .ref hm])), (wi, .inl (d1, 6, .inl fw)), (co, .inl (d2, 6, .inl fc)), (sl, .inl (d3, 6, .inl fs)), (gr, .inl (d4, 6, .inl fg)), (gt, .inl (d8, 6, .inl ft)), (gw, .inl (d9, 6, .inl fu)), (gk, .inl (d10, 360, .inl fk)), (gi, .inl (d11, 360, .inl (fun _ => 0)))]) hP hD [5, 6, 7, 8, 9, 10, 11, 12, 13, 14] [0, 1, 2, 3, 4] rfl rfl (by decide) (by decide) hk1 hFc hP1 hD1
      generalize H1 = H at hP hS hZ ⊢
      have hP : va_P (dC, dI) vwCl [(gp, .inl (d12, 360, .inl fp)), (go, .inl (d13, 360, .inl fo)), (bn, .inl (d5, 3, .inl fb)), (rn, .inl (d6, 12, .inl fn)), (so, .inl (d7, 12, .inl fz)), (hm, .inr (3, [.int 0, .int 6, .ref wi, .ref co, .ref sl, .ref rn, .ref so, .ref bn, .ref sm, .ref ah])), (sm, .inr (2, [.int 0, .ref gr, .ref gt, .ref gw, .ref gk, .ref gi, .ref gp, .ref go, .ref gg, .ref hm])), (wi, .inl (d1, 6, .inl fw)), (co, .inl (d2, 6, .inl fc)), (sl, .inl (d3, 6, .inl fs)), (gr, .inl (d4, 6, .inl fg)), (gt, .inl (d8, 6, .inl ft)), (gw, .inl (d9, 6, .inl fu)), (gk, .inl (d10, 360, .inl fk)), (gi, .inl (d11, 360, .inl (fun _ => 0)))] H := hP
      have hD : va_D A [(gp, .inl (d12, 360, .inl fp)), (go, .inl (d13, 360, .inl fo)), (bn, .inl (d5, 3, .inl fb)), (rn, .inl (d6, 12, .inl fn)), (so, .inl (d7, 12, .inl fz)), (hm, .inr (3, [.int 0, .int 6, .ref wi, .ref co, .ref sl, .ref rn, .ref so, .ref bn, .ref sm, .ref ah])), (sm, .inr (2, [.int 0, .ref gr, .ref gt, .ref gw, .ref gk, .ref gi, .ref gp, .ref go, .ref gg, .ref hm])), (wi, .inl (d1, 6, .inl fw)), (co, .inl (d2, 6, .inl fc)), (sl, .inl (d3, 6, .inl fs)), (gr, .inl (d4, 6, .inl fg)), (gt, .inl (d8, 6, .inl ft)), (gw, .inl (d9, 6, .inl fu)), (gk, .inl (d10, 360, .inl fk)), (gi, .inl (d11, 360, .inl (fun _ => 0)))] := hD
      refine W.widen (k := (cc77 + 4)) (n := (ss77 + 36)) (by omega) (by omega) ?_
      obtain - := hr137
      refine lv_i2l (v := r137.toInt64) hx hb dX3_digest_107 (by first | rfl | decide) ?_
      refine lv_ladd hx hb dX3_digest_108 ?_
      refine lv_topl (fun w138 ew138 => ?_)
      refine lv_lstore_n (lv' := [(1, .long w138), (4, .int 3), (0, .ref hm), (3, .int (nI i))]) hx hb dX3_digest_109 rfl hl (by decide) rfl (fun ls hl => ?_)
      refine lv_iinc (v := 4) (lv' := [(4, .int 4), (1, .long w138), (0, .ref hm), (3, .int (nI i))]) hx hb dX3_digest_110 hl (k := 1) rfl (by decide) (by decide) rfl (fun ls hl => ?_)
      refine lv_goto (tgt := 88) hx hb dX3_digest_113 (by decide) ?_
      refine lv_iload hx hb dX3_digest_88 (lv_at hl 0 rfl) ?_
      refine lv_bipush (v := 8) hx hb dX3_digest_90 (by decide) ?_
      refine lv_icmp_gt (tgt := 116) hx hb dX3_digest_92 (by decide) (fun c139 => absurd c139 (by decide)) (fun c139 => ?_)
      refine lv_lload_n hx hb dX3_digest_95 rfl (lv_at hl 1 rfl) ?_
      refine lv_ldc2 (v := 31) hx hb hown (hts (.constantLong RX3 151 31) (by decide +kernel)) dX3_digest_96 ?_
      refine lv_lmul hx hb dX3_digest_99 ?_
      refine lv_topl (fun w140 ew140 => ?_)
      refine lv_aload_n hx hb dX3_digest_100 rfl (lv_at hl 2 rfl) ?_
      refine lv_iload_n hx hb dX3_digest_101 rfl (lv_at hl 3 rfl) ?_
      refine lv_iload hx hb dX3_digest_102 (lv_at hl 0 rfl) ?_
      have hPc := hP.sub (ws' := [(hm, .inr (3, [.int 0, .int 6, .ref wi, .ref co, .ref sl, .ref rn, .ref so, .ref bn, .ref sm, .ref ah])), (sm, .inr (2, [.int 0, .ref gr, .ref gt, .ref gw, .ref gk, .ref gi, .ref gp, .ref go, .ref gg, .ref hm])), (wi, .inl (d1, 6, .inl fw)), (co, .inl (d2, 6, .inl fc)), (sl, .inl (d3, 6, .inl fs)), (gr, .inl (d4, 6, .inl fg)), (gt, .inl (d8, 6, .inl ft)), (gw, .inl (d9, 6, .inl fu)), (gk, .inl (d10, 360, .inl fk)), (gi, .inl (d11, 360, .inl (fun _ => 0)))]) [5, 6, 7, 8, 9, 10, 11, 12, 13, 14] rfl
      have hKc := hK.sub (tys' := [(d1, .int), (d2, .int), (d3, .int), (d4, .int), (d8, .int), (d9, .int), (d10, .int), (d11, .int)]) [0, 1, 2, 3, 7, 8, 9, 10] rfl
      have hDc := hD.sub (ws' := [(hm, .inr (3, [.int 0, .int 6, .ref wi, .ref co, .ref sl, .ref rn, .ref so, .ref bn, .ref sm, .ref ah])), (sm, .inr (2, [.int 0, .ref gr, .ref gt, .ref gw, .ref gk, .ref gi, .ref gp, .ref go, .ref gg, .ref hm])), (wi, .inl (d1, 6, .inl fw)), (co, .inl (d2, 6, .inl fc)), (sl, .inl (d3, 6, .inl fs)), (gr, .inl (d4, 6, .inl fg)), (gt, .inl (d8, 6, .inl ft)), (gw, .inl (d9, 6, .inl fu)), (gk, .inl (d10, 360, .inl fk)), (gi, .inl (d11, 360, .inl (fun _ => 0)))]) [5, 6, 7, 8, 9, 10, 11, 12, 13, 14] (by decide) rfl
      have hFc := va_free (wc := [(hm, .inr (3, [.int 0, .int 6, .ref wi, .ref co, .ref sl, .ref rn, .ref so, .ref bn, .ref sm, .ref ah])), (sm, .inr (2, [.int 0, .ref gr, .ref gt, .ref gw, .ref gk, .ref gi, .ref gp, .ref go, .ref gg, .ref hm])), (wi, .inl (d1, 6, .inl fw)), (co, .inl (d2, 6, .inl fc)), (sl, .inl (d3, 6, .inl fs)), (gr, .inl (d4, 6, .inl fg)), (gt, .inl (d8, 6, .inl ft)), (gw, .inl (d9, 6, .inl fu)), (gk, .inl (d10, 360, .inl fk)), (gi, .inl (d11, 360, .inl (fun _ => 0)))]) hD hS hA [5, 6, 7, 8, 9, 10, 11, 12, 13, 14] rfl
      refine va_calli (va_runV (As := [.int (nI i), .int 4]) (rest := [.long w140]) ⟨hx, hb, hml, hown, hts⟩ (r3_roofTold l dC dI H.size hm wi co sl rn so bn sm ah 0 gr gt gw gk gi gp go gg d1 d2 d3 d4 d8 d9 d10 d11 fw fc fs fg ft fu fk i 4 (by first | assumption | decide | omega) (by first | assumption | decide | omega) (by first | assumption | decide | omega) (by first | assumption | decide | omega) (⟨by decide, by decide⟩)) (cwV 2 hts gX3_digest_X3_roofTold rfl rfl rfl (by decide +kernel) ⟨Nat.le_of_ble_eq_true rfl, Nat.le_of_ble_eq_true rfl⟩) ⟨fun a U g mk q => by obtain ⟨q0, q1, qP, qK, qD, qN⟩ := q; exact ⟨q0, q1, qP, va_K.moved (u := U) (U := U.calling g mk a) (Vm.Alike.refl U.vm) qK, qD, zNs.calling qN⟩, va_recv hKc hPc (ci := 3) (q0 := 0) rfl rfl, fun U hU hW => ⟨rfl, by rw [hU], by rw [hU]; exact hPc, va_K.moved hW.alike hKc, hDc.weaken (fun _ _ _ _ => trivial), zNs.warm hW hZN⟩⟩ rfl rfl hl.1 rfl (lv_room (Nat.le_of_ble_eq_true rfl)) dX3_digest_104 ⟨by show _ ≤ 2223; omega, by show _ ≤ 13527; omega⟩) hS (fun q _ h => hFc q h) hFc (fun r141 u t H1 locs ht hvm hr141 hB hz1 hk1 hS => ?_)
      obtain ⟨hP1, hK1, hD1, hZ1⟩ := hB
      rw [ht] at hP1 hZ1
      have hZ : s.heap.size + (dd77 + 5) ≤ H1.size := by omega
      have hK1 := va_K.moved hvm.symm hK1
      try dsimp only at hr141
      obtain ⟨hP, hD⟩ := va_join (wr := [(gp, .inl (d12, 360, .inl fp)), (go, .inl (d13, 360, .inl fo)), (bn, .inl (d5, 3, .inl fb)), (rn, .inl (d6, 12, .inl fn)), (so, .inl (d7, 12, .inl fz))]) (w1 := [(hm, .inr (3, [.int 0, .int 6, .ref wi, .ref co, .ref sl, .ref rn, .ref so, .ref bn, .ref sm, .ref ah])), (sm, .inr (2, [.int 0, .ref gr, .ref gt, .ref gw, .ref gk, .ref gi, .ref gp, .ref go, .ref gg, .ref hm])), (wi, .inl (d1, 6, .inl fw)), (co, .inl (d2, 6, .inl fc)), (sl, .inl (d3, 6, .inl fs)), (gr, .inl (d4, 6, .inl fg)), (gt, .inl (d8, 6, .inl ft)), (gw, .inl (d9, 6, .inl fu)), (gk, .inl (d10, 360, .inl fk)), (gi, .inl (d11, 360, .inl (fun _ => 0)))]) hP hD [5, 6, 7, 8, 9, 10, 11, 12, 13, 14] [0, 1, 2, 3, 4] rfl rfl (by decide) (by decide) hk1 hFc hP1 hD1
      generalize H1 = H at hP hS hZ ⊢
      have hP : va_P (dC, dI) vwCl [(gp, .inl (d12, 360, .inl fp)), (go, .inl (d13, 360, .inl fo)), (bn, .inl (d5, 3, .inl fb)), (rn, .inl (d6, 12, .inl fn)), (so, .inl (d7, 12, .inl fz)), (hm, .inr (3, [.int 0, .int 6, .ref wi, .ref co, .ref sl, .ref rn, .ref so, .ref bn, .ref sm, .ref ah])), (sm, .inr (2, [.int 0, .ref gr, .ref gt, .ref gw, .ref gk, .ref gi, .ref gp, .ref go, .ref gg, .ref hm])), (wi, .inl (d1, 6, .inl fw)), (co, .inl (d2, 6, .inl fc)), (sl, .inl (d3, 6, .inl fs)), (gr, .inl (d4, 6, .inl fg)), (gt, .inl (d8, 6, .inl ft)), (gw, .inl (d9, 6, .inl fu)), (gk, .inl (d10, 360, .inl fk)), (gi, .inl (d11, 360, .inl (fun _ => 0)))] H := hP
      have hD : va_D A [(gp, .inl (d12, 360, .inl fp)), (go, .inl (d13, 360, .inl fo)), (bn, .inl (d5, 3, .inl fb)), (rn, .inl (d6, 12, .inl fn)), (so, .inl (d7, 12, .inl fz)), (hm, .inr (3, [.int 0, .int 6, .ref wi, .ref co, .ref sl, .ref rn, .ref so, .ref bn, .ref sm, .ref ah])), (sm, .inr (2, [.int 0, .ref gr, .ref gt, .ref gw, .ref gk, .ref gi, .ref gp, .ref go, .ref gg, .ref hm])), (wi, .inl (d1, 6, .inl fw)), (co, .inl (d2, 6, .inl fc)), (sl, .inl (d3, 6, .inl fs)), (gr, .inl (d4, 6, .inl fg)), (gt, .inl (d8, 6, .inl ft)), (gw, .inl (d9, 6, .inl fu)), (gk, .inl (d10, 360, .inl fk)), (gi, .inl (d11, 360, .inl (fun _ => 0)))] := hD
      refine W.widen (k := (cc77 + 5)) (n := (ss77 + 45)) (by omega) (by omega) ?_
      obtain - := hr141
      refine lv_i2l (v := r141.toInt64) hx hb dX3_digest_107 (by first | rfl | decide) ?_
      refine lv_ladd hx hb dX3_digest_108 ?_
      refine lv_topl (fun w142 ew142 => ?_)
      refine lv_lstore_n (lv' := [(1, .long w142), (4, .int 4), (0, .ref hm), (3, .int (nI i))]) hx hb dX3_digest_109 rfl hl (by decide) rfl (fun ls hl => ?_)
      refine lv_iinc (v := 5) (lv' := [(4, .int 5), (1, .long w142), (0, .ref hm), (3, .int (nI i))]) hx hb dX3_digest_110 hl (k := 1) rfl (by decide) (by decide) rfl (fun ls hl => ?_)
      refine lv_goto (tgt := 88) hx hb dX3_digest_113 (by decide) ?_
      refine lv_iload hx hb dX3_digest_88 (lv_at hl 0 rfl) ?_
      refine lv_bipush (v := 8) hx hb dX3_digest_90 (by decide) ?_
      refine lv_icmp_gt (tgt := 116) hx hb dX3_digest_92 (by decide) (fun c143 => absurd c143 (by decide)) (fun c143 => ?_)
      refine lv_lload_n hx hb dX3_digest_95 rfl (lv_at hl 1 rfl) ?_
      refine lv_ldc2 (v := 31) hx hb hown (hts (.constantLong RX3 151 31) (by decide +kernel)) dX3_digest_96 ?_
      refine lv_lmul hx hb dX3_digest_99 ?_
      refine lv_topl (fun w144 ew144 => ?_)
      refine lv_aload_n hx hb dX3_digest_100 rfl (lv_at hl 2 rfl) ?_
      refine lv_iload_n hx hb dX3_digest_101 rfl (lv_at hl 3 rfl) ?_
      refine lv_iload hx hb dX3_digest_102 (lv_at hl 0 rfl) ?_
      have hPc := hP.sub (ws' := [(hm, .inr (3, [.int 0, .int 6, .ref wi, .ref co, .ref sl, .ref rn, .ref so, .ref bn, .ref sm, .ref ah])), (sm, .inr (2, [.int 0, .ref gr, .ref gt, .ref gw, .ref gk, .ref gi, .ref gp, .ref go, .ref gg, .ref hm])), (wi, .inl (d1, 6, .inl fw)), (co, .inl (d2, 6, .inl fc)), (sl, .inl (d3, 6, .inl fs)), (gr, .inl (d4, 6, .inl fg)), (gt, .inl (d8, 6, .inl ft)), (gw, .inl (d9, 6, .inl fu)), (gk, .inl (d10, 360, .inl fk)), (gi, .inl (d11, 360, .inl (fun _ => 0)))]) [5, 6, 7, 8, 9, 10, 11, 12, 13, 14] rfl
      have hKc := hK.sub (tys' := [(d1, .int), (d2, .int), (d3, .int), (d4, .int), (d8, .int), (d9, .int), (d10, .int), (d11, .int)]) [0, 1, 2, 3, 7, 8, 9, 10] rfl
      have hDc := hD.sub (ws' := [(hm, .inr (3, [.int 0, .int 6, .ref wi, .ref co, .ref sl, .ref rn, .ref so, .ref bn, .ref sm, .ref ah])), (sm, .inr (2, [.int 0, .ref gr, .ref gt, .ref gw, .ref gk, .ref gi, .ref gp, .ref go, .ref gg, .ref hm])), (wi, .inl (d1, 6, .inl fw)), (co, .inl (d2, 6, .inl fc)), (sl, .inl (d3, 6, .inl fs)), (gr, .inl (d4, 6, .inl fg)), (gt, .inl (d8, 6, .inl ft)), (gw, .inl (d9, 6, .inl fu)), (gk, .inl (d10, 360, .inl fk)), (gi, .inl (d11, 360, .inl (fun _ => 0)))]) [5, 6, 7, 8, 9, 10, 11, 12, 13, 14] (by decide) rfl
      have hFc := va_free (wc := [(hm, .inr (3, [.int 0, .int 6, .ref wi, .ref co, .ref sl, .ref rn, .ref so, .ref bn, .ref sm, .ref ah])), (sm, .inr (2, [.int 0, .ref gr, .ref gt, .ref gw, .ref gk, .ref gi, .ref gp, .ref go, .ref gg, .ref hm])), (wi, .inl (d1, 6, .inl fw)), (co, .inl (d2, 6, .inl fc)), (sl, .inl (d3, 6, .inl fs)), (gr, .inl (d4, 6, .inl fg)), (gt, .inl (d8, 6, .inl ft)), (gw, .inl (d9, 6, .inl fu)), (gk, .inl (d10, 360, .inl fk)), (gi, .inl (d11, 360, .inl (fun _ => 0)))]) hD hS hA [5, 6, 7, 8, 9, 10, 11, 12, 13, 14] rfl
      refine va_calli (va_runV (As := [.int (nI i), .int 5]) (rest := [.long w144]) ⟨hx, hb, hml, hown, hts⟩ (r3_roofTold l dC dI H.size hm wi co sl rn so bn sm ah 0 gr gt gw gk gi gp go gg d1 d2 d3 d4 d8 d9 d10 d11 fw fc fs fg ft fu fk i 5 (by first | assumption | decide | omega) (by first | assumption | decide | omega) (by first | assumption | decide | omega) (by first | assumption | decide | omega) (⟨by decide, by decide⟩)) (cwV 2 hts gX3_digest_X3_roofTold rfl rfl rfl (by decide +kernel) ⟨Nat.le_of_ble_eq_true rfl, Nat.le_of_ble_eq_true rfl⟩) ⟨fun a U g mk q => by obtain ⟨q0, q1, qP, qK, qD, qN⟩ := q; exact ⟨q0, q1, qP, va_K.moved (u := U) (U := U.calling g mk a) (Vm.Alike.refl U.vm) qK, qD, zNs.calling qN⟩, va_recv hKc hPc (ci := 3) (q0 := 0) rfl rfl, fun U hU hW => ⟨rfl, by rw [hU], by rw [hU]; exact hPc, va_K.moved hW.alike hKc, hDc.weaken (fun _ _ _ _ => trivial), zNs.warm hW hZN⟩⟩ rfl rfl hl.1 rfl (lv_room (Nat.le_of_ble_eq_true rfl)) dX3_digest_104 ⟨by show _ ≤ 2223; omega, by show _ ≤ 13527; omega⟩) hS (fun q _ h => hFc q h) hFc (fun r145 u t H1 locs ht hvm hr145 hB hz1 hk1 hS => ?_)
      obtain ⟨hP1, hK1, hD1, hZ1⟩ := hB
      rw [ht] at hP1 hZ1
      have hZ : s.heap.size + (dd77 + 6) ≤ H1.size := by omega
      have hK1 := va_K.moved hvm.symm hK1
      try dsimp only at hr145
      obtain ⟨hP, hD⟩ := va_join (wr := [(gp, .inl (d12, 360, .inl fp)), (go, .inl (d13, 360, .inl fo)), (bn, .inl (d5, 3, .inl fb)), (rn, .inl (d6, 12, .inl fn)), (so, .inl (d7, 12, .inl fz))]) (w1 := [(hm, .inr (3, [.int 0, .int 6, .ref wi, .ref co, .ref sl, .ref rn, .ref so, .ref bn, .ref sm, .ref ah])), (sm, .inr (2, [.int 0, .ref gr, .ref gt, .ref gw, .ref gk, .ref gi, .ref gp, .ref go, .ref gg, .ref hm])), (wi, .inl (d1, 6, .inl fw)), (co, .inl (d2, 6, .inl fc)), (sl, .inl (d3, 6, .inl fs)), (gr, .inl (d4, 6, .inl fg)), (gt, .inl (d8, 6, .inl ft)), (gw, .inl (d9, 6, .inl fu)), (gk, .inl (d10, 360, .inl fk)), (gi, .inl (d11, 360, .inl (fun _ => 0)))]) hP hD [5, 6, 7, 8, 9, 10, 11, 12, 13, 14] [0, 1, 2, 3, 4] rfl rfl (by decide) (by decide) hk1 hFc hP1 hD1
      generalize H1 = H at hP hS hZ ⊢
      have hP : va_P (dC, dI) vwCl [(gp, .inl (d12, 360, .inl fp)), (go, .inl (d13, 360, .inl fo)), (bn, .inl (d5, 3, .inl fb)), (rn, .inl (d6, 12, .inl fn)), (so, .inl (d7, 12, .inl fz)), (hm, .inr (3, [.int 0, .int 6, .ref wi, .ref co, .ref sl, .ref rn, .ref so, .ref bn, .ref sm, .ref ah])), (sm, .inr (2, [.int 0, .ref gr, .ref gt, .ref gw, .ref gk, .ref gi, .ref gp, .ref go, .ref gg, .ref hm])), (wi, .inl (d1, 6, .inl fw)), (co, .inl (d2, 6, .inl fc)), (sl, .inl (d3, 6, .inl fs)), (gr, .inl (d4, 6, .inl fg)), (gt, .inl (d8, 6, .inl ft)), (gw, .inl (d9, 6, .inl fu)), (gk, .inl (d10, 360, .inl fk)), (gi, .inl (d11, 360, .inl (fun _ => 0)))] H := hP
      have hD : va_D A [(gp, .inl (d12, 360, .inl fp)), (go, .inl (d13, 360, .inl fo)), (bn, .inl (d5, 3, .inl fb)), (rn, .inl (d6, 12, .inl fn)), (so, .inl (d7, 12, .inl fz)), (hm, .inr (3, [.int 0, .int 6, .ref wi, .ref co, .ref sl, .ref rn, .ref so, .ref bn, .ref sm, .ref ah])), (sm, .inr (2, [.int 0, .ref gr, .ref gt, .ref gw, .ref gk, .ref gi, .ref gp, .ref go, .ref gg, .ref hm])), (wi, .inl (d1, 6, .inl fw)), (co, .inl (d2, 6, .inl fc)), (sl, .inl (d3, 6, .inl fs)), (gr, .inl (d4, 6, .inl fg)), (gt, .inl (d8, 6, .inl ft)), (gw, .inl (d9, 6, .inl fu)), (gk, .inl (d10, 360, .inl fk)), (gi, .inl (d11, 360, .inl (fun _ => 0)))] := hD
      refine W.widen (k := (cc77 + 6)) (n := (ss77 + 54)) (by omega) (by omega) ?_
      obtain - := hr145
      refine lv_i2l (v := r145.toInt64) hx hb dX3_digest_107 (by first | rfl | decide) ?_
      refine lv_ladd hx hb dX3_digest_108 ?_
      refine lv_topl (fun w146 ew146 => ?_)
      refine lv_lstore_n (lv' := [(1, .long w146), (4, .int 5), (0, .ref hm), (3, .int (nI i))]) hx hb dX3_digest_109 rfl hl (by decide) rfl (fun ls hl => ?_)
      refine lv_iinc (v := 6) (lv' := [(4, .int 6), (1, .long w146), (0, .ref hm), (3, .int (nI i))]) hx hb dX3_digest_110 hl (k := 1) rfl (by decide) (by decide) rfl (fun ls hl => ?_)
      refine lv_goto (tgt := 88) hx hb dX3_digest_113 (by decide) ?_
      refine lv_iload hx hb dX3_digest_88 (lv_at hl 0 rfl) ?_
      refine lv_bipush (v := 8) hx hb dX3_digest_90 (by decide) ?_
      refine lv_icmp_gt (tgt := 116) hx hb dX3_digest_92 (by decide) (fun c147 => absurd c147 (by decide)) (fun c147 => ?_)
      refine lv_lload_n hx hb dX3_digest_95 rfl (lv_at hl 1 rfl) ?_
      refine lv_ldc2 (v := 31) hx hb hown (hts (.constantLong RX3 151 31) (by decide +kernel)) dX3_digest_96 ?_
      refine lv_lmul hx hb dX3_digest_99 ?_
      refine lv_topl (fun w148 ew148 => ?_)
      refine lv_aload_n hx hb dX3_digest_100 rfl (lv_at hl 2 rfl) ?_
      refine lv_iload_n hx hb dX3_digest_101 rfl (lv_at hl 3 rfl) ?_
      refine lv_iload hx hb dX3_digest_102 (lv_at hl 0 rfl) ?_
      have hPc := hP.sub (ws' := [(hm, .inr (3, [.int 0, .int 6, .ref wi, .ref co, .ref sl, .ref rn, .ref so, .ref bn, .ref sm, .ref ah])), (sm, .inr (2, [.int 0, .ref gr, .ref gt, .ref gw, .ref gk, .ref gi, .ref gp, .ref go, .ref gg, .ref hm])), (wi, .inl (d1, 6, .inl fw)), (co, .inl (d2, 6, .inl fc)), (sl, .inl (d3, 6, .inl fs)), (gr, .inl (d4, 6, .inl fg)), (gt, .inl (d8, 6, .inl ft)), (gw, .inl (d9, 6, .inl fu)), (gk, .inl (d10, 360, .inl fk)), (gi, .inl (d11, 360, .inl (fun _ => 0)))]) [5, 6, 7, 8, 9, 10, 11, 12, 13, 14] rfl
      have hKc := hK.sub (tys' := [(d1, .int), (d2, .int), (d3, .int), (d4, .int), (d8, .int), (d9, .int), (d10, .int), (d11, .int)]) [0, 1, 2, 3, 7, 8, 9, 10] rfl
      have hDc := hD.sub (ws' := [(hm, .inr (3, [.int 0, .int 6, .ref wi, .ref co, .ref sl, .ref rn, .ref so, .ref bn, .ref sm, .ref ah])), (sm, .inr (2, [.int 0, .ref gr, .ref gt, .ref gw, .ref gk, .ref gi, .ref gp, .ref go, .ref gg, .ref hm])), (wi, .inl (d1, 6, .inl fw)), (co, .inl (d2, 6, .inl fc)), (sl, .inl (d3, 6, .inl fs)), (gr, .inl (d4, 6, .inl fg)), (gt, .inl (d8, 6, .inl ft)), (gw, .inl (d9, 6, .inl fu)), (gk, .inl (d10, 360, .inl fk)), (gi, .inl (d11, 360, .inl (fun _ => 0)))]) [5, 6, 7, 8, 9, 10, 11, 12, 13, 14] (by decide) rfl
      have hFc := va_free (wc := [(hm, .inr (3, [.int 0, .int 6, .ref wi, .ref co, .ref sl, .ref rn, .ref so, .ref bn, .ref sm, .ref ah])), (sm, .inr (2, [.int 0, .ref gr, .ref gt, .ref gw, .ref gk, .ref gi, .ref gp, .ref go, .ref gg, .ref hm])), (wi, .inl (d1, 6, .inl fw)), (co, .inl (d2, 6, .inl fc)), (sl, .inl (d3, 6, .inl fs)), (gr, .inl (d4, 6, .inl fg)), (gt, .inl (d8, 6, .inl ft)), (gw, .inl (d9, 6, .inl fu)), (gk, .inl (d10, 360, .inl fk)), (gi, .inl (d11, 360, .inl (fun _ => 0)))]) hD hS hA [5, 6, 7, 8, 9, 10, 11, 12, 13, 14] rfl
      refine va_calli (va_runV (As := [.int (nI i), .int 6]) (rest := [.long w148]) ⟨hx, hb, hml, hown, hts⟩ (r3_roofTold l dC dI H.size hm wi co sl rn so bn sm ah 0 gr gt gw gk gi gp go gg d1 d2 d3 d4 d8 d9 d10 d11 fw fc fs fg ft fu fk i 6 (by first | assumption | decide | omega) (by first | assumption | decide | omega) (by first | assumption | decide | omega) (by first | assumption | decide | omega) (⟨by decide, by decide⟩)) (cwV 2 hts gX3_digest_X3_roofTold rfl rfl rfl (by decide +kernel) ⟨Nat.le_of_ble_eq_true rfl, Nat.le_of_ble_eq_true rfl⟩) ⟨fun a U g mk q => by obtain ⟨q0, q1, qP, qK, qD, qN⟩ := q; exact ⟨q0, q1, qP, va_K.moved (u := U) (U := U.calling g mk a) (Vm.Alike.refl U.vm) qK, qD, zNs.calling qN⟩, va_recv hKc hPc (ci := 3) (q0 := 0) rfl rfl, fun U hU hW => ⟨rfl, by rw [hU], by rw [hU]; exact hPc, va_K.moved hW.alike hKc, hDc.weaken (fun _ _ _ _ => trivial), zNs.warm hW hZN⟩⟩ rfl rfl hl.1 rfl (lv_room (Nat.le_of_ble_eq_true rfl)) dX3_digest_104 ⟨by show _ ≤ 2223; omega, by show _ ≤ 13527; omega⟩) hS (fun q _ h => hFc q h) hFc (fun r149 u t H1 locs ht hvm hr149 hB hz1 hk1 hS => ?_)
      obtain ⟨hP1, hK1, hD1, hZ1⟩ := hB
      rw [ht] at hP1 hZ1
      have hZ : s.heap.size + (dd77 + 7) ≤ H1.size := by omega
      have hK1 := va_K.moved hvm.symm hK1
      try dsimp only at hr149
      obtain ⟨hP, hD⟩ := va_join (wr := [(gp, .inl (d12, 360, .inl fp)), (go, .inl (d13, 360, .inl fo)), (bn, .inl (d5, 3, .inl fb)), (rn, .inl (d6, 12, .inl fn)), (so, .inl (d7, 12, .inl fz))]) (w1 := [(hm, .inr (3, [.int 0, .int 6, .ref wi, .ref co, .ref sl, .ref rn, .ref so, .ref bn, .ref sm, .ref ah])), (sm, .inr (2, [.int 0, .ref gr, .ref gt, .ref gw, .ref gk, .ref gi, .ref gp, .ref go, .ref gg, .ref hm])), (wi, .inl (d1, 6, .inl fw)), (co, .inl (d2, 6, .inl fc)), (sl, .inl (d3, 6, .inl fs)), (gr, .inl (d4, 6, .inl fg)), (gt, .inl (d8, 6, .inl ft)), (gw, .inl (d9, 6, .inl fu)), (gk, .inl (d10, 360, .inl fk)), (gi, .inl (d11, 360, .inl (fun _ => 0)))]) hP hD [5, 6, 7, 8, 9, 10, 11, 12, 13, 14] [0, 1, 2, 3, 4] rfl rfl (by decide) (by decide) hk1 hFc hP1 hD1
      generalize H1 = H at hP hS hZ ⊢
      have hP : va_P (dC, dI) vwCl [(gp, .inl (d12, 360, .inl fp)), (go, .inl (d13, 360, .inl fo)), (bn, .inl (d5, 3, .inl fb)), (rn, .inl (d6, 12, .inl fn)), (so, .inl (d7, 12, .inl fz)), (hm, .inr (3, [.int 0, .int 6, .ref wi, .ref co, .ref sl, .ref rn, .ref so, .ref bn, .ref sm, .ref ah])), (sm, .inr (2, [.int 0, .ref gr, .ref gt, .ref gw, .ref gk, .ref gi, .ref gp, .ref go, .ref gg, .ref hm])), (wi, .inl (d1, 6, .inl fw)), (co, .inl (d2, 6, .inl fc)), (sl, .inl (d3, 6, .inl fs)), (gr, .inl (d4, 6, .inl fg)), (gt, .inl (d8, 6, .inl ft)), (gw, .inl (d9, 6, .inl fu)), (gk, .inl (d10, 360, .inl fk)), (gi, .inl (d11, 360, .inl (fun _ => 0)))] H := hP
      have hD : va_D A [(gp, .inl (d12, 360, .inl fp)), (go, .inl (d13, 360, .inl fo)), (bn, .inl (d5, 3, .inl fb)), (rn, .inl (d6, 12, .inl fn)), (so, .inl (d7, 12, .inl fz)), (hm, .inr (3, [.int 0, .int 6, .ref wi, .ref co, .ref sl, .ref rn, .ref so, .ref bn, .ref sm, .ref ah])), (sm, .inr (2, [.int 0, .ref gr, .ref gt, .ref gw, .ref gk, .ref gi, .ref gp, .ref go, .ref gg, .ref hm])), (wi, .inl (d1, 6, .inl fw)), (co, .inl (d2, 6, .inl fc)), (sl, .inl (d3, 6, .inl fs)), (gr, .inl (d4, 6, .inl fg)), (gt, .inl (d8, 6, .inl ft)), (gw, .inl (d9, 6, .inl fu)), (gk, .inl (d10, 360, .inl fk)), (gi, .inl (d11, 360, .inl (fun _ => 0)))] := hD
      refine W.widen (k := (cc77 + 7)) (n := (ss77 + 63)) (by omega) (by omega) ?_
      obtain - := hr149
      refine lv_i2l (v := r149.toInt64) hx hb dX3_digest_107 (by first | rfl | decide) ?_
      refine lv_ladd hx hb dX3_digest_108 ?_
      refine lv_topl (fun w150 ew150 => ?_)
      refine lv_lstore_n (lv' := [(1, .long w150), (4, .int 6), (0, .ref hm), (3, .int (nI i))]) hx hb dX3_digest_109 rfl hl (by decide) rfl (fun ls hl => ?_)
      refine lv_iinc (v := 7) (lv' := [(4, .int 7), (1, .long w150), (0, .ref hm), (3, .int (nI i))]) hx hb dX3_digest_110 hl (k := 1) rfl (by decide) (by decide) rfl (fun ls hl => ?_)
      refine lv_goto (tgt := 88) hx hb dX3_digest_113 (by decide) ?_
      refine lv_iload hx hb dX3_digest_88 (lv_at hl 0 rfl) ?_
      refine lv_bipush (v := 8) hx hb dX3_digest_90 (by decide) ?_
      refine lv_icmp_gt (tgt := 116) hx hb dX3_digest_92 (by decide) (fun c151 => absurd c151 (by decide)) (fun c151 => ?_)
      refine lv_lload_n hx hb dX3_digest_95 rfl (lv_at hl 1 rfl) ?_
      refine lv_ldc2 (v := 31) hx hb hown (hts (.constantLong RX3 151 31) (by decide +kernel)) dX3_digest_96 ?_
      refine lv_lmul hx hb dX3_digest_99 ?_
      refine lv_topl (fun w152 ew152 => ?_)
      refine lv_aload_n hx hb dX3_digest_100 rfl (lv_at hl 2 rfl) ?_
      refine lv_iload_n hx hb dX3_digest_101 rfl (lv_at hl 3 rfl) ?_
      refine lv_iload hx hb dX3_digest_102 (lv_at hl 0 rfl) ?_
      have hPc := hP.sub (ws' := [(hm, .inr (3, [.int 0, .int 6, .ref wi, .ref co, .ref sl, .ref rn, .ref so, .ref bn, .ref sm, .ref ah])), (sm, .inr (2, [.int 0, .ref gr, .ref gt, .ref gw, .ref gk, .ref gi, .ref gp, .ref go, .ref gg, .ref hm])), (wi, .inl (d1, 6, .inl fw)), (co, .inl (d2, 6, .inl fc)), (sl, .inl (d3, 6, .inl fs)), (gr, .inl (d4, 6, .inl fg)), (gt, .inl (d8, 6, .inl ft)), (gw, .inl (d9, 6, .inl fu)), (gk, .inl (d10, 360, .inl fk)), (gi, .inl (d11, 360, .inl (fun _ => 0)))]) [5, 6, 7, 8, 9, 10, 11, 12, 13, 14] rfl
      have hKc := hK.sub (tys' := [(d1, .int), (d2, .int), (d3, .int), (d4, .int), (d8, .int), (d9, .int), (d10, .int), (d11, .int)]) [0, 1, 2, 3, 7, 8, 9, 10] rfl
      have hDc := hD.sub (ws' := [(hm, .inr (3, [.int 0, .int 6, .ref wi, .ref co, .ref sl, .ref rn, .ref so, .ref bn, .ref sm, .ref ah])), (sm, .inr (2, [.int 0, .ref gr, .ref gt, .ref gw, .ref gk, .ref gi, .ref gp, .ref go, .ref gg, .ref hm])), (wi, .inl (d1, 6, .inl fw)), (co, .inl (d2, 6, .inl fc)), (sl, .inl (d3, 6, .inl fs)), (gr, .inl (d4, 6, .inl fg)), (gt, .inl (d8, 6, .inl ft)), (gw, .inl (d9, 6, .inl fu)), (gk, .inl (d10, 360, .inl fk)), (gi, .inl (d11, 360, .inl (fun _ => 0)))]) [5, 6, 7, 8, 9, 10, 11, 12, 13, 14] (by decide) rfl
      have hFc := va_free (wc := [(hm, .inr (3, [.int 0, .int 6, .ref wi, .ref co, .ref sl, .ref rn, .ref so, .ref bn, .ref sm, .ref ah])), (sm, .inr (2, [.int 0, .ref gr, .ref gt, .ref gw, .ref gk, .ref gi, .ref gp, .ref go, .ref gg, .ref hm])), (wi, .inl (d1, 6, .inl fw)), (co, .inl (d2, 6, .inl fc)), (sl, .inl (d3, 6, .inl fs)), (gr, .inl (d4, 6, .inl fg)), (gt, .inl (d8, 6, .inl ft)), (gw, .inl (d9, 6, .inl fu)), (gk, .inl (d10, 360, .inl fk)), (gi, .inl (d11, 360, .inl (fun _ => 0)))]) hD hS hA [5, 6, 7, 8, 9, 10, 11, 12, 13, 14] rfl
      refine va_calli (va_runV (As := [.int (nI i), .int 7]) (rest := [.long w152]) ⟨hx, hb, hml, hown, hts⟩ (r3_roofTold l dC dI H.size hm wi co sl rn so bn sm ah 0 gr gt gw gk gi gp go gg d1 d2 d3 d4 d8 d9 d10 d11 fw fc fs fg ft fu fk i 7 (by first | assumption | decide | omega) (by first | assumption | decide | omega) (by first | assumption | decide | omega) (by first | assumption | decide | omega) (⟨by decide, by decide⟩)) (cwV 2 hts gX3_digest_X3_roofTold rfl rfl rfl (by decide +kernel) ⟨Nat.le_of_ble_eq_true rfl, Nat.le_of_ble_eq_true rfl⟩) ⟨fun a U g mk q => by obtain ⟨q0, q1, qP, qK, qD, qN⟩ := q; exact ⟨q0, q1, qP, va_K.moved (u := U) (U := U.calling g mk a) (Vm.Alike.refl U.vm) qK, qD, zNs.calling qN⟩, va_recv hKc hPc (ci := 3) (q0 := 0) rfl rfl, fun U hU hW => ⟨rfl, by rw [hU], by rw [hU]; exact hPc, va_K.moved hW.alike hKc, hDc.weaken (fun _ _ _ _ => trivial), zNs.warm hW hZN⟩⟩ rfl rfl hl.1 rfl (lv_room (Nat.le_of_ble_eq_true rfl)) dX3_digest_104 ⟨by show _ ≤ 2223; omega, by show _ ≤ 13527; omega⟩) hS (fun q _ h => hFc q h) hFc (fun r153 u t H1 locs ht hvm hr153 hB hz1 hk1 hS => ?_)
      obtain ⟨hP1, hK1, hD1, hZ1⟩ := hB
      rw [ht] at hP1 hZ1
      have hZ : s.heap.size + (dd77 + 8) ≤ H1.size := by omega
      have hK1 := va_K.moved hvm.symm hK1
      try dsimp only at hr153
      obtain ⟨hP, hD⟩ := va_join (wr := [(gp, .inl (d12, 360, .inl fp)), (go, .inl (d13, 360, .inl fo)), (bn, .inl (d5, 3, .inl fb)), (rn, .inl (d6, 12, .inl fn)), (so, .inl (d7, 12, .inl fz))]) (w1 := [(hm, .inr (3, [.int 0, .int 6, .ref wi, .ref co, .ref sl, .ref rn, .ref so, .ref bn, .ref sm, .ref ah])), (sm, .inr (2, [.int 0, .ref gr, .ref gt, .ref gw, .ref gk, .ref gi, .ref gp, .ref go, .ref gg, .ref hm])), (wi, .inl (d1, 6, .inl fw)), (co, .inl (d2, 6, .inl fc)), (sl, .inl (d3, 6, .inl fs)), (gr, .inl (d4, 6, .inl fg)), (gt, .inl (d8, 6, .inl ft)), (gw, .inl (d9, 6, .inl fu)), (gk, .inl (d10, 360, .inl fk)), (gi, .inl (d11, 360, .inl (fun _ => 0)))]) hP hD [5, 6, 7, 8, 9, 10, 11, 12, 13, 14] [0, 1, 2, 3, 4] rfl rfl (by decide) (by decide) hk1 hFc hP1 hD1
      generalize H1 = H at hP hS hZ ⊢
      have hP : va_P (dC, dI) vwCl [(gp, .inl (d12, 360, .inl fp)), (go, .inl (d13, 360, .inl fo)), (bn, .inl (d5, 3, .inl fb)), (rn, .inl (d6, 12, .inl fn)), (so, .inl (d7, 12, .inl fz)), (hm, .inr (3, [.int 0, .int 6, .ref wi, .ref co, .ref sl, .ref rn, .ref so, .ref bn, .ref sm, .ref ah])), (sm, .inr (2, [.int 0, .ref gr, .ref gt, .ref gw, .ref gk, .ref gi, .ref gp, .ref go, .ref gg, .ref hm])), (wi, .inl (d1, 6, .inl fw)), (co, .inl (d2, 6, .inl fc)), (sl, .inl (d3, 6, .inl fs)), (gr, .inl (d4, 6, .inl fg)), (gt, .inl (d8, 6, .inl ft)), (gw, .inl (d9, 6, .inl fu)), (gk, .inl (d10, 360, .inl fk)), (gi, .inl (d11, 360, .inl (fun _ => 0)))] H := hP
      have hD : va_D A [(gp, .inl (d12, 360, .inl fp)), (go, .inl (d13, 360, .inl fo)), (bn, .inl (d5, 3, .inl fb)), (rn, .inl (d6, 12, .inl fn)), (so, .inl (d7, 12, .inl fz)), (hm, .inr (3, [.int 0, .int 6, .ref wi, .ref co, .ref sl, .ref rn, .ref so, .ref bn, .ref sm, .ref ah])), (sm, .inr (2, [.int 0, .ref gr, .ref gt, .ref gw, .ref gk, .ref gi, .ref gp, .ref go, .ref gg, .ref hm])), (wi, .inl (d1, 6, .inl fw)), (co, .inl (d2, 6, .inl fc)), (sl, .inl (d3, 6, .inl fs)), (gr, .inl (d4, 6, .inl fg)), (gt, .inl (d8, 6, .inl ft)), (gw, .inl (d9, 6, .inl fu)), (gk, .inl (d10, 360, .inl fk)), (gi, .inl (d11, 360, .inl (fun _ => 0)))] := hD
      refine W.widen (k := (cc77 + 8)) (n := (ss77 + 72)) (by omega) (by omega) ?_
      obtain - := hr153
      refine lv_i2l (v := r153.toInt64) hx hb dX3_digest_107 (by first | rfl | decide) ?_
      refine lv_ladd hx hb dX3_digest_108 ?_
      refine lv_topl (fun w154 ew154 => ?_)
      refine lv_lstore_n (lv' := [(1, .long w154), (4, .int 7), (0, .ref hm), (3, .int (nI i))]) hx hb dX3_digest_109 rfl hl (by decide) rfl (fun ls hl => ?_)
      refine lv_iinc (v := 8) (lv' := [(4, .int 8), (1, .long w154), (0, .ref hm), (3, .int (nI i))]) hx hb dX3_digest_110 hl (k := 1) rfl (by decide) (by decide) rfl (fun ls hl => ?_)
      refine lv_goto (tgt := 88) hx hb dX3_digest_113 (by decide) ?_
      refine lv_iload hx hb dX3_digest_88 (lv_at hl 0 rfl) ?_
      refine lv_bipush (v := 8) hx hb dX3_digest_90 (by decide) ?_
      refine lv_icmp_gt (tgt := 116) hx hb dX3_digest_92 (by decide) (fun c155 => absurd c155 (by decide)) (fun c155 => ?_)
      refine lv_lload_n hx hb dX3_digest_95 rfl (lv_at hl 1 rfl) ?_
      refine lv_ldc2 (v := 31) hx hb hown (hts (.constantLong RX3 151 31) (by decide +kernel)) dX3_digest_96 ?_
      refine lv_lmul hx hb dX3_digest_99 ?_
      refine lv_topl (fun w156 ew156 => ?_)
      refine lv_aload_n hx hb dX3_digest_100 rfl (lv_at hl 2 rfl) ?_
      refine lv_iload_n hx hb dX3_digest_101 rfl (lv_at hl 3 rfl) ?_
      refine lv_iload hx hb dX3_digest_102 (lv_at hl 0 rfl) ?_
      have hPc := hP.sub (ws' := [(hm, .inr (3, [.int 0, .int 6, .ref wi, .ref co, .ref sl, .ref rn, .ref so, .ref bn, .ref sm, .ref ah])), (sm, .inr (2, [.int 0, .ref gr, .ref gt, .ref gw, .ref gk, .ref gi, .ref gp, .ref go, .ref gg, .ref hm])), (wi, .inl (d1, 6, .inl fw)), (co, .inl (d2, 6, .inl fc)), (sl, .inl (d3, 6, .inl fs)), (gr, .inl (d4, 6, .inl fg)), (gt, .inl (d8, 6, .inl ft)), (gw, .inl (d9, 6, .inl fu)), (gk, .inl (d10, 360, .inl fk)), (gi, .inl (d11, 360, .inl (fun _ => 0)))]) [5, 6, 7, 8, 9, 10, 11, 12, 13, 14] rfl
      have hKc := hK.sub (tys' := [(d1, .int), (d2, .int), (d3, .int), (d4, .int), (d8, .int), (d9, .int), (d10, .int), (d11, .int)]) [0, 1, 2, 3, 7, 8, 9, 10] rfl
      have hDc := hD.sub (ws' := [(hm, .inr (3, [.int 0, .int 6, .ref wi, .ref co, .ref sl, .ref rn, .ref so, .ref bn, .ref sm, .ref ah])), (sm, .inr (2, [.int 0, .ref gr, .ref gt, .ref gw, .ref gk, .ref gi, .ref gp, .ref go, .ref gg, .ref hm])), (wi, .inl (d1, 6, .inl fw)), (co, .inl (d2, 6, .inl fc)), (sl, .inl (d3, 6, .inl fs)), (gr, .inl (d4, 6, .inl fg)), (gt, .inl (d8, 6, .inl ft)), (gw, .inl (d9, 6, .inl fu)), (gk, .inl (d10, 360, .inl fk)), (gi, .inl (d11, 360, .inl (fun _ => 0)))]) [5, 6, 7, 8, 9, 10, 11, 12, 13, 14] (by decide) rfl
      have hFc := va_free (wc := [(hm, .inr (3, [.int 0, .int 6, .ref wi, .ref co, .ref sl, .ref rn, .ref so, .ref bn, .ref sm, .ref ah])), (sm, .inr (2, [.int 0, .ref gr, .ref gt, .ref gw, .ref gk, .ref gi, .ref gp, .ref go, .ref gg, .ref hm])), (wi, .inl (d1, 6, .inl fw)), (co, .inl (d2, 6, .inl fc)), (sl, .inl (d3, 6, .inl fs)), (gr, .inl (d4, 6, .inl fg)), (gt, .inl (d8, 6, .inl ft)), (gw, .inl (d9, 6, .inl fu)), (gk, .inl (d10, 360, .inl fk)), (gi, .inl (d11, 360, .inl (fun _ => 0)))]) hD hS hA [5, 6, 7, 8, 9, 10, 11, 12, 13, 14] rfl
      refine va_calli (va_runV (As := [.int (nI i), .int 8]) (rest := [.long w156]) ⟨hx, hb, hml, hown, hts⟩ (r3_roofTold l dC dI H.size hm wi co sl rn so bn sm ah 0 gr gt gw gk gi gp go gg d1 d2 d3 d4 d8 d9 d10 d11 fw fc fs fg ft fu fk i 8 (by first | assumption | decide | omega) (by first | assumption | decide | omega) (by first | assumption | decide | omega) (by first | assumption | decide | omega) (⟨by decide, by decide⟩)) (cwV 2 hts gX3_digest_X3_roofTold rfl rfl rfl (by decide +kernel) ⟨Nat.le_of_ble_eq_true rfl, Nat.le_of_ble_eq_true rfl⟩) ⟨fun a U g mk q => by obtain ⟨q0, q1, qP, qK, qD, qN⟩ := q; exact ⟨q0, q1, qP, va_K.moved (u := U) (U := U.calling g mk a) (Vm.Alike.refl U.vm) qK, qD, zNs.calling qN⟩, va_recv hKc hPc (ci := 3) (q0 := 0) rfl rfl, fun U hU hW => ⟨rfl, by rw [hU], by rw [hU]; exact hPc, va_K.moved hW.alike hKc, hDc.weaken (fun _ _ _ _ => trivial), zNs.warm hW hZN⟩⟩ rfl rfl hl.1 rfl (lv_room (Nat.le_of_ble_eq_true rfl)) dX3_digest_104 ⟨by show _ ≤ 2223; omega, by show _ ≤ 13527; omega⟩) hS (fun q _ h => hFc q h) hFc (fun r157 u t H1 locs ht hvm hr157 hB hz1 hk1 hS => ?_)
      obtain ⟨hP1, hK1, hD1, hZ1⟩ := hB
      rw [ht] at hP1 hZ1
      have hZ : s.heap.size + (dd77 + 9) ≤ H1.size := by omega
      have hK1 := va_K.moved hvm.symm hK1
      try dsimp only at hr157
      obtain ⟨hP, hD⟩ := va_join (wr := [(gp, .inl (d12, 360, .inl fp)), (go, .inl (d13, 360, .inl fo)), (bn, .inl (d5, 3, .inl fb)), (rn, .inl (d6, 12, .inl fn)), (so, .inl (d7, 12, .inl fz))]) (w1 := [(hm, .inr (3, [.int 0, .int 6, .ref wi, .ref co, .ref sl, .ref rn, .ref so, .ref bn, .ref sm, .ref ah])), (sm, .inr (2, [.int 0, .ref gr, .ref gt, .ref gw, .ref gk, .ref gi, .ref gp, .ref go, .ref gg, .ref hm])), (wi, .inl (d1, 6, .inl fw)), (co, .inl (d2, 6, .inl fc)), (sl, .inl (d3, 6, .inl fs)), (gr, .inl (d4, 6, .inl fg)), (gt, .inl (d8, 6, .inl ft)), (gw, .inl (d9, 6, .inl fu)), (gk, .inl (d10, 360, .inl fk)), (gi, .inl (d11, 360, .inl (fun _ => 0)))]) hP hD [5, 6, 7, 8, 9, 10, 11, 12, 13, 14] [0, 1, 2, 3, 4] rfl rfl (by decide) (by decide) hk1 hFc hP1 hD1
      generalize H1 = H at hP hS hZ ⊢
      have hP : va_P (dC, dI) vwCl [(gp, .inl (d12, 360, .inl fp)), (go, .inl (d13, 360, .inl fo)), (bn, .inl (d5, 3, .inl fb)), (rn, .inl (d6, 12, .inl fn)), (so, .inl (d7, 12, .inl fz)), (hm, .inr (3, [.int 0, .int 6, .ref wi, .ref co, .ref sl, .ref rn, .ref so, .ref bn, .ref sm, .ref ah])), (sm, .inr (2, [.int 0, .ref gr, .ref gt, .ref gw, .ref gk, .ref gi, .ref gp, .ref go, .ref gg, .ref hm])), (wi, .inl (d1, 6, .inl fw)), (co, .inl (d2, 6, .inl fc)), (sl, .inl (d3, 6, .inl fs)), (gr, .inl (d4, 6, .inl fg)), (gt, .inl (d8, 6, .inl ft)), (gw, .inl (d9, 6, .inl fu)), (gk, .inl (d10, 360, .inl fk)), (gi, .inl (d11, 360, .inl (fun _ => 0)))] H := hP
      have hD : va_D A [(gp, .inl (d12, 360, .inl fp)), (go, .inl (d13, 360, .inl fo)), (bn, .inl (d5, 3, .inl fb)), (rn, .inl (d6, 12, .inl fn)), (so, .inl (d7, 12, .inl fz)), (hm, .inr (3, [.int 0, .int 6, .ref wi, .ref co, .ref sl, .ref rn, .ref so, .ref bn, .ref sm, .ref ah])), (sm, .inr (2, [.int 0, .ref gr, .ref gt, .ref gw, .ref gk, .ref gi, .ref gp, .ref go, .ref gg, .ref hm])), (wi, .inl (d1, 6, .inl fw)), (co, .inl (d2, 6, .inl fc)), (sl, .inl (d3, 6, .inl fs)), (gr, .inl (d4, 6, .inl fg)), (gt, .inl (d8, 6, .inl ft)), (gw, .inl (d9, 6, .inl fu)), (gk, .inl (d10, 360, .inl fk)), (gi, .inl (d11, 360, .inl (fun _ => 0)))] := hD
      refine W.widen (k := (cc77 + 9)) (n := (ss77 + 81)) (by omega) (by omega) ?_
      obtain - := hr157
      refine lv_i2l (v := r157.toInt64) hx hb dX3_digest_107 (by first | rfl | decide) ?_
      refine lv_ladd hx hb dX3_digest_108 ?_
      refine lv_topl (fun w158 ew158 => ?_)
      refine lv_lstore_n (lv' := [(1, .long w158), (4, .int 8), (0, .ref hm), (3, .int (nI i))]) hx hb dX3_digest_109 rfl hl (by decide) rfl (fun ls hl => ?_)
      refine lv_iinc (v := 9) (lv' := [(4, .int 9), (1, .long w158), (0, .ref hm), (3, .int (nI i))]) hx hb dX3_digest_110 hl (k := 1) rfl (by decide) (by decide) rfl (fun ls hl => ?_)
      refine lv_goto (tgt := 88) hx hb dX3_digest_113 (by decide) ?_
      refine lv_iload hx hb dX3_digest_88 (lv_at hl 0 rfl) ?_
      refine lv_bipush (v := 8) hx hb dX3_digest_90 (by decide) ?_
      refine lv_icmp_gt (tgt := 116) hx hb dX3_digest_92 (by decide) (fun c159 => ?_) (fun c159 => absurd c159 (by decide))
      refine lv_iconst (v := 0) hx hb dX3_digest_116 (by decide) ?_
      refine lv_istore (lv' := [(4, .int 0), (1, .long w158), (0, .ref hm), (3, .int (nI i))]) hx hb dX3_digest_117 hl (by decide) rfl (fun ls hl => ?_)
      suffices K119 : ∀ (n : Nat) (cc119 ss119 dd119 : Nat) (j : Nat) (db : Int64), (cc119 = 18 + 369 * i + 60 * j) → (ss119 = 162 + 2241 * i + 360 * j) → (dd119 = 18 + 369 * i + 60 * j) → (j ≤ 6) → 6 - j < n → ∀ (H : Heap) (locs : List Loc), va_P (dC, dI) vwCl [(gp, .inl (d12, 360, .inl fp)), (go, .inl (d13, 360, .inl fo)), (bn, .inl (d5, 3, .inl fb)), (rn, .inl (d6, 12, .inl fn)), (so, .inl (d7, 12, .inl fz)), (hm, .inr (3, [.int 0, .int 6, .ref wi, .ref co, .ref sl, .ref rn, .ref so, .ref bn, .ref sm, .ref ah])), (sm, .inr (2, [.int 0, .ref gr, .ref gt, .ref gw, .ref gk, .ref gi, .ref gp, .ref go, .ref gg, .ref hm])), (wi, .inl (d1, 6, .inl fw)), (co, .inl (d2, 6, .inl fc)), (sl, .inl (d3, 6, .inl fs)), (gr, .inl (d4, 6, .inl fg)), (gt, .inl (d8, 6, .inl ft)), (gw, .inl (d9, 6, .inl fu)), (gk, .inl (d10, 360, .inl fk)), (gi, .inl (d11, 360, .inl (fun _ => 0)))] H → va_D A [(gp, .inl (d12, 360, .inl fp)), (go, .inl (d13, 360, .inl fo)), (bn, .inl (d5, 3, .inl fb)), (rn, .inl (d6, 12, .inl fn)), (so, .inl (d7, 12, .inl fz)), (hm, .inr (3, [.int 0, .int 6, .ref wi, .ref co, .ref sl, .ref rn, .ref so, .ref bn, .ref sm, .ref ah])), (sm, .inr (2, [.int 0, .ref gr, .ref gt, .ref gw, .ref gk, .ref gi, .ref gp, .ref go, .ref gg, .ref hm])), (wi, .inl (d1, 6, .inl fw)), (co, .inl (d2, 6, .inl fc)), (sl, .inl (d3, 6, .inl fs)), (gr, .inl (d4, 6, .inl fg)), (gt, .inl (d8, 6, .inl ft)), (gw, .inl (d9, 6, .inl fu)), (gk, .inl (d10, 360, .inl fk)), (gi, .inl (d11, 360, .inl (fun _ => 0)))] → va_S A s.heap H locs → s.heap.size + dd119 ≤ H.size → ∀ ls : Array Slot, lv_has ls 7 [(0, .ref hm), (1, .long db), (3, .int (nI i)), (4, .int (nI j))] → W p l e ({ frames := 4, cells := 2223, slots := 13527, locals := 94 } : Room) s m (([.ref hm] : List Value).toArray) below meth c H locs cc119 ss119 (MQ below (va_Ql (fun (r : Int64) (u : Unit) => True) (fun (u : Unit) (t : State) => va_P (dC, dI) vwCl [(hm, .inr (3, [.int 0, .int 6, .ref wi, .ref co, .ref sl, .ref rn, .ref so, .ref bn, .ref sm, .ref ah])), (sm, .inr (2, [.int 0, .ref gr, .ref gt, .ref gw, .ref gk, .ref gi, .ref gp, .ref go, .ref gg, .ref hm])), (wi, .inl (d1, 6, .inl fw)), (co, .inl (d2, 6, .inl fc)), (sl, .inl (d3, 6, .inl fs)), (gr, .inl (d4, 6, .inl fg)), (bn, .inl (d5, 3, .inl fb)), (rn, .inl (d6, 12, .inl fn)), (so, .inl (d7, 12, .inl fz)), (gt, .inl (d8, 6, .inl ft)), (gw, .inl (d9, 6, .inl fu)), (gk, .inl (d10, 360, .inl fk)), (gi, .inl (d11, 360, .inl (fun _ => 0))), (gp, .inl (d12, 360, .inl fp)), (go, .inl (d13, 360, .inl fo))] t.heap ∧ va_K (dC, dI) vwCl [] t ∧ va_D A [(hm, .inr (3, [.int 0, .int 6, .ref wi, .ref co, .ref sl, .ref rn, .ref so, .ref bn, .ref sm, .ref ah])), (sm, .inr (2, [.int 0, .ref gr, .ref gt, .ref gw, .ref gk, .ref gi, .ref gp, .ref go, .ref gg, .ref hm])), (wi, .inl (d1, 6, .inl fw)), (co, .inl (d2, 6, .inl fc)), (sl, .inl (d3, 6, .inl fs)), (gr, .inl (d4, 6, .inl fg)), (bn, .inl (d5, 3, .inl fb)), (rn, .inl (d6, 12, .inl fn)), (so, .inl (d7, 12, .inl fz)), (gt, .inl (d8, 6, .inl ft)), (gw, .inl (d9, 6, .inl fu)), (gk, .inl (d10, 360, .inl fk)), (gi, .inl (d11, 360, .inl (fun _ => 0))), (gp, .inl (d12, 360, .inl fp)), (go, .inl (d13, 360, .inl fo))] ∧ s.heap.size + 2223 ≤ t.heap.size) A) (([.ref hm] : List Value).toArray) s 2223 13527 A) (F0 m 119 ls []) from
        K119 _ (cc77 + 9) (ss77 + 81) (dd77 + 9) 0 w158 (by omega) (by omega) (by omega) (by decide) (Nat.lt_succ_self _) _ _ hP hD hS hZ _ (lv_sub hl [2, 1, 3, 0] rfl)
      intro n
      induction n with
      | zero =>
        intro cc119 ss119 dd119 j db hcc119 hss119 hdd119 hj hn
        exact absurd hn (Nat.not_lt_zero _)
      | succ n ih119 =>
        intro cc119 ss119 dd119 j db hcc119 hss119 hdd119 hj hn119 H locs hP hD hS hZ ls hl
        refine lv_iload hx hb dX3_digest_119 (lv_at hl 3 rfl) ?_
        refine lv_aload_n hx hb dX3_digest_121 rfl (lv_at hl 0 rfl) ?_
        refine va_get (D := (dC, dI)) (ci := 3) (v := .ref co) (C := RX3) (T := TX3) (N := 10) hx hb hts (by decide +kernel) hown hK hP 5 rfl rfl 3 (by decide) (hts (.fieldLink RX3 13 "ThatchRoofModel" "courses" "[I") (by decide +kernel)) (fun _ h9 => h9) rfl dX3_digest_122 ?_
        refine lv_iload_n hx hb dX3_digest_125 rfl (lv_at hl 2 rfl) ?_
        refine va_iald hx hb hK hP 8 1 rfl rfl (vp_in_nI (by omega) (by omega)) dX3_digest_126 ?_
        refine lv_topi (fun x160 ex160 => ?_)
        rw [nI_clamp (show i < 2 ^ 31 by omega)] at ex160
        obtain rfl : x160 = 6 := ex160.trans (hc _ (by omega))
        refine lv_icmp_ge (tgt := 190) hx hb dX3_digest_127 (by decide) (fun c161 => ?_) (fun c161 => ?_)
        · have nc161 : 6 ≤ j := (nI_leI (a := 6) (b := j) (by omega) (by omega)).mp c161
          refine lv_iinc (v := nI (i + 1)) (lv' := [(3, .int (nI (i + 1))), (0, .ref hm), (1, .long db), (4, .int (nI j))]) hx hb dX3_digest_190 hl (k := 2) rfl (by exact nI_1 i) (by decide) rfl (fun ls hl => ?_)
          refine lv_goto (tgt := 77) hx hb dX3_digest_193 (by decide) ?_
          exact ih77 _ _ _ (i + 1) db (by omega) (by omega) (by omega) (by omega) (by omega) _ _ (hP.sub [9, 10, 11, 12, 0, 1, 5, 6, 7, 8, 2, 3, 4, 13, 14] rfl) (hD.sub [9, 10, 11, 12, 0, 1, 5, 6, 7, 8, 2, 3, 4, 13, 14] (by decide) rfl) hS hZ _ (lv_sub hl [1, 2, 0] rfl)
        · have nc161 : j < 6 := Nat.lt_of_not_le (fun q => c161 ((nI_leI (a := 6) (b := j) (by omega) (by omega)).mpr q))
          refine lv_iconst (v := 0) hx hb dX3_digest_130 (by decide) ?_
          refine lv_istore (lv' := [(5, .int 0), (0, .ref hm), (1, .long db), (3, .int (nI i)), (4, .int (nI j))]) hx hb dX3_digest_131 hl (by decide) rfl (fun ls hl => ?_)
          suffices K133 : ∀ (n : Nat) (cc133 ss133 dd133 : Nat) (k : Nat) (dc : Int64), (cc133 = 18 + 369 * i + 60 * j + 6 * k) → (ss133 = 162 + 2241 * i + 360 * j + 36 * k) → (dd133 = 18 + 369 * i + 60 * j + 6 * k) → (k ≤ 10) → 10 - k < n → ∀ (H : Heap) (locs : List Loc), va_P (dC, dI) vwCl [(gp, .inl (d12, 360, .inl fp)), (go, .inl (d13, 360, .inl fo)), (bn, .inl (d5, 3, .inl fb)), (rn, .inl (d6, 12, .inl fn)), (so, .inl (d7, 12, .inl fz)), (hm, .inr (3, [.int 0, .int 6, .ref wi, .ref co, .ref sl, .ref rn, .ref so, .ref bn, .ref sm, .ref ah])), (sm, .inr (2, [.int 0, .ref gr, .ref gt, .ref gw, .ref gk, .ref gi, .ref gp, .ref go, .ref gg, .ref hm])), (wi, .inl (d1, 6, .inl fw)), (co, .inl (d2, 6, .inl fc)), (sl, .inl (d3, 6, .inl fs)), (gr, .inl (d4, 6, .inl fg)), (gt, .inl (d8, 6, .inl ft)), (gw, .inl (d9, 6, .inl fu)), (gk, .inl (d10, 360, .inl fk)), (gi, .inl (d11, 360, .inl (fun _ => 0)))] H → va_D A [(gp, .inl (d12, 360, .inl fp)), (go, .inl (d13, 360, .inl fo)), (bn, .inl (d5, 3, .inl fb)), (rn, .inl (d6, 12, .inl fn)), (so, .inl (d7, 12, .inl fz)), (hm, .inr (3, [.int 0, .int 6, .ref wi, .ref co, .ref sl, .ref rn, .ref so, .ref bn, .ref sm, .ref ah])), (sm, .inr (2, [.int 0, .ref gr, .ref gt, .ref gw, .ref gk, .ref gi, .ref gp, .ref go, .ref gg, .ref hm])), (wi, .inl (d1, 6, .inl fw)), (co, .inl (d2, 6, .inl fc)), (sl, .inl (d3, 6, .inl fs)), (gr, .inl (d4, 6, .inl fg)), (gt, .inl (d8, 6, .inl ft)), (gw, .inl (d9, 6, .inl fu)), (gk, .inl (d10, 360, .inl fk)), (gi, .inl (d11, 360, .inl (fun _ => 0)))] → va_S A s.heap H locs → s.heap.size + dd133 ≤ H.size → ∀ ls : Array Slot, lv_has ls 7 [(0, .ref hm), (1, .long dc), (3, .int (nI i)), (4, .int (nI j)), (5, .int (nI k))] → W p l e ({ frames := 4, cells := 2223, slots := 13527, locals := 94 } : Room) s m (([.ref hm] : List Value).toArray) below meth c H locs cc133 ss133 (MQ below (va_Ql (fun (r : Int64) (u : Unit) => True) (fun (u : Unit) (t : State) => va_P (dC, dI) vwCl [(hm, .inr (3, [.int 0, .int 6, .ref wi, .ref co, .ref sl, .ref rn, .ref so, .ref bn, .ref sm, .ref ah])), (sm, .inr (2, [.int 0, .ref gr, .ref gt, .ref gw, .ref gk, .ref gi, .ref gp, .ref go, .ref gg, .ref hm])), (wi, .inl (d1, 6, .inl fw)), (co, .inl (d2, 6, .inl fc)), (sl, .inl (d3, 6, .inl fs)), (gr, .inl (d4, 6, .inl fg)), (bn, .inl (d5, 3, .inl fb)), (rn, .inl (d6, 12, .inl fn)), (so, .inl (d7, 12, .inl fz)), (gt, .inl (d8, 6, .inl ft)), (gw, .inl (d9, 6, .inl fu)), (gk, .inl (d10, 360, .inl fk)), (gi, .inl (d11, 360, .inl (fun _ => 0))), (gp, .inl (d12, 360, .inl fp)), (go, .inl (d13, 360, .inl fo))] t.heap ∧ va_K (dC, dI) vwCl [] t ∧ va_D A [(hm, .inr (3, [.int 0, .int 6, .ref wi, .ref co, .ref sl, .ref rn, .ref so, .ref bn, .ref sm, .ref ah])), (sm, .inr (2, [.int 0, .ref gr, .ref gt, .ref gw, .ref gk, .ref gi, .ref gp, .ref go, .ref gg, .ref hm])), (wi, .inl (d1, 6, .inl fw)), (co, .inl (d2, 6, .inl fc)), (sl, .inl (d3, 6, .inl fs)), (gr, .inl (d4, 6, .inl fg)), (bn, .inl (d5, 3, .inl fb)), (rn, .inl (d6, 12, .inl fn)), (so, .inl (d7, 12, .inl fz)), (gt, .inl (d8, 6, .inl ft)), (gw, .inl (d9, 6, .inl fu)), (gk, .inl (d10, 360, .inl fk)), (gi, .inl (d11, 360, .inl (fun _ => 0))), (gp, .inl (d12, 360, .inl fp)), (go, .inl (d13, 360, .inl fo))] ∧ s.heap.size + 2223 ≤ t.heap.size) A) (([.ref hm] : List Value).toArray) s 2223 13527 A) (F0 m 133 ls []) from
            K133 _ cc119 ss119 dd119 0 db (by omega) (by omega) (by omega) (by decide) (Nat.lt_succ_self _) _ _ hP hD hS hZ _ (lv_sub hl [1, 2, 3, 4, 0] rfl)
          intro n
          induction n with
          | zero =>
            intro cc133 ss133 dd133 k dc hcc133 hss133 hdd133 hk hn
            exact absurd hn (Nat.not_lt_zero _)
          | succ n ih133 =>
            intro cc133 ss133 dd133 k dc hcc133 hss133 hdd133 hk hn133 H locs hP hD hS hZ ls hl
            refine lv_iload hx hb dX3_digest_133 (lv_at hl 4 rfl) ?_
            refine lv_aload_n hx hb dX3_digest_135 rfl (lv_at hl 0 rfl) ?_
            refine va_get (D := (dC, dI)) (ci := 3) (v := .ref wi) (C := RX3) (T := TX3) (N := 10) hx hb hts (by decide +kernel) hown hK hP 5 rfl rfl 2 (by decide) (hts (.fieldLink RX3 9 "ThatchRoofModel" "width" "[I") (by decide +kernel)) (fun _ h9 => h9) rfl dX3_digest_136 ?_
            refine lv_iload_n hx hb dX3_digest_139 rfl (lv_at hl 2 rfl) ?_
            refine va_iald hx hb hK hP 7 0 rfl rfl (vp_in_nI (by omega) (by omega)) dX3_digest_140 ?_
            refine lv_topi (fun x162 ex162 => ?_)
            rw [nI_clamp (show i < 2 ^ 31 by omega)] at ex162
            obtain rfl : x162 = 10 := ex162.trans (hw _ (by omega))
            refine lv_icmp_ge (tgt := 184) hx hb dX3_digest_141 (by decide) (fun c163 => ?_) (fun c163 => ?_)
            · have nc163 : 10 ≤ k := (nI_leI (a := 10) (b := k) (by omega) (by omega)).mp c163
              refine lv_iinc (v := nI (j + 1)) (lv' := [(4, .int (nI (j + 1))), (0, .ref hm), (1, .long dc), (3, .int (nI i)), (5, .int (nI k))]) hx hb dX3_digest_184 hl (k := 3) rfl (by exact nI_1 j) (by decide) rfl (fun ls hl => ?_)
              refine lv_goto (tgt := 119) hx hb dX3_digest_187 (by decide) ?_
              exact ih119 _ _ _ (j + 1) dc (by omega) (by omega) (by omega) (by omega) (by omega) _ _ (hP.sub [0, 1, 2, 3, 4, 5, 6, 7, 8, 9, 10, 11, 12, 13, 14] rfl) (hD.sub [0, 1, 2, 3, 4, 5, 6, 7, 8, 9, 10, 11, 12, 13, 14] (by decide) rfl) hS hZ _ (lv_sub hl [1, 2, 3, 0] rfl)
            · have nc163 : k < 10 := Nat.lt_of_not_le (fun q => c163 ((nI_leI (a := 10) (b := k) (by omega) (by omega)).mpr q))
              refine lv_iconst (v := 0) hx hb dX3_digest_144 (by decide) ?_
              refine lv_istore (lv' := [(6, .int 0), (0, .ref hm), (1, .long dc), (3, .int (nI i)), (4, .int (nI j)), (5, .int (nI k))]) hx hb dX3_digest_145 hl (by decide) rfl (fun ls hl => ?_)
              refine lv_iload hx hb dX3_digest_147 (lv_at hl 0 rfl) ?_
              refine lv_iconst (v := 5) hx hb dX3_digest_149 (by decide) ?_
              refine lv_icmp_gt (tgt := 178) hx hb dX3_digest_150 (by decide) (fun c164 => absurd c164 (by decide)) (fun c164 => ?_)
              refine lv_lload_n hx hb dX3_digest_153 rfl (lv_at hl 2 rfl) ?_
              refine lv_ldc2 (v := 31) hx hb hown (hts (.constantLong RX3 151 31) (by decide +kernel)) dX3_digest_154 ?_
              refine lv_lmul hx hb dX3_digest_157 ?_
              refine lv_topl (fun w165 ew165 => ?_)
              refine lv_aload_n hx hb dX3_digest_158 rfl (lv_at hl 1 rfl) ?_
              refine lv_iload_n hx hb dX3_digest_159 rfl (lv_at hl 3 rfl) ?_
              refine lv_iload hx hb dX3_digest_160 (lv_at hl 4 rfl) ?_
              refine lv_iload hx hb dX3_digest_162 (lv_at hl 5 rfl) ?_
              refine lv_iload hx hb dX3_digest_164 (lv_at hl 0 rfl) ?_
              have hPc := hP.sub (ws' := [(hm, .inr (3, [.int 0, .int 6, .ref wi, .ref co, .ref sl, .ref rn, .ref so, .ref bn, .ref sm, .ref ah])), (sm, .inr (2, [.int 0, .ref gr, .ref gt, .ref gw, .ref gk, .ref gi, .ref gp, .ref go, .ref gg, .ref hm])), (gk, .inl (d10, 360, .inl fk)), (gi, .inl (d11, 360, .inl (fun _ => 0))), (gp, .inl (d12, 360, .inl fp)), (go, .inl (d13, 360, .inl fo))]) [5, 6, 13, 14, 0, 1] rfl
              have hKc := hK.sub (tys' := [(d10, .int), (d11, .int), (d12, .int), (d13, .int)]) [9, 10, 11, 12] rfl
              have hDc := hD.sub (ws' := [(hm, .inr (3, [.int 0, .int 6, .ref wi, .ref co, .ref sl, .ref rn, .ref so, .ref bn, .ref sm, .ref ah])), (sm, .inr (2, [.int 0, .ref gr, .ref gt, .ref gw, .ref gk, .ref gi, .ref gp, .ref go, .ref gg, .ref hm])), (gk, .inl (d10, 360, .inl fk)), (gi, .inl (d11, 360, .inl (fun _ => 0))), (gp, .inl (d12, 360, .inl fp)), (go, .inl (d13, 360, .inl fo))]) [5, 6, 13, 14, 0, 1] (by decide) rfl
              have hFc := va_free (wc := [(hm, .inr (3, [.int 0, .int 6, .ref wi, .ref co, .ref sl, .ref rn, .ref so, .ref bn, .ref sm, .ref ah])), (sm, .inr (2, [.int 0, .ref gr, .ref gt, .ref gw, .ref gk, .ref gi, .ref gp, .ref go, .ref gg, .ref hm])), (gk, .inl (d10, 360, .inl fk)), (gi, .inl (d11, 360, .inl (fun _ => 0))), (gp, .inl (d12, 360, .inl fp)), (go, .inl (d13, 360, .inl fo))]) hD hS hA [5, 6, 13, 14, 0, 1] rfl
              refine va_calli (va_runV (As := [.int (nI i), .int (nI j), .int (nI k), .int 0]) (rest := [.long w165]) ⟨hx, hb, hml, hown, hts⟩ (r3_yealmTold l dC dI H.size hm wi co sl rn so bn sm ah 0 gr gt gw gk gi gp go gg d10 d11 d12 d13 fk fp fo i j k 0 (by first | assumption | decide | omega) (by first | assumption | decide | omega) (by first | assumption | decide | omega) (by first | assumption | decide | omega) (⟨by decide, by decide⟩)) (cwV 4 hts gX3_digest_X3_yealmTold rfl rfl rfl (by decide +kernel) ⟨Nat.le_of_ble_eq_true rfl, Nat.le_of_ble_eq_true rfl⟩) ⟨fun a U g mk q => by obtain ⟨q0, q1, qP, qK, qD, qN⟩ := q; exact ⟨q0, q1, qP, va_K.moved (u := U) (U := U.calling g mk a) (Vm.Alike.refl U.vm) qK, qD, zNs.calling qN⟩, va_recv hKc hPc (ci := 3) (q0 := 0) rfl rfl, fun U hU hW => ⟨rfl, by rw [hU], by rw [hU]; exact hPc, va_K.moved hW.alike hKc, hDc.weaken (fun _ _ _ _ => trivial), zNs.warm hW hZN⟩⟩ rfl rfl hl.1 rfl (lv_room (Nat.le_of_ble_eq_true rfl)) dX3_digest_166 ⟨by show _ ≤ 2223; omega, by show _ ≤ 13527; omega⟩) hS (fun q _ h => hFc q h) hFc (fun r166 u t H1 locs ht hvm hr166 hB hz1 hk1 hS => ?_)
              obtain ⟨hP1, hK1, hD1, hZ1⟩ := hB
              rw [ht] at hP1 hZ1
              have hZ : s.heap.size + (dd133 + 1) ≤ H1.size := by omega
              have hK1 := va_K.moved hvm.symm hK1
              try dsimp only at hr166
              obtain ⟨hP, hD⟩ := va_join (wr := [(bn, .inl (d5, 3, .inl fb)), (rn, .inl (d6, 12, .inl fn)), (so, .inl (d7, 12, .inl fz)), (wi, .inl (d1, 6, .inl fw)), (co, .inl (d2, 6, .inl fc)), (sl, .inl (d3, 6, .inl fs)), (gr, .inl (d4, 6, .inl fg)), (gt, .inl (d8, 6, .inl ft)), (gw, .inl (d9, 6, .inl fu))]) (w1 := [(hm, .inr (3, [.int 0, .int 6, .ref wi, .ref co, .ref sl, .ref rn, .ref so, .ref bn, .ref sm, .ref ah])), (sm, .inr (2, [.int 0, .ref gr, .ref gt, .ref gw, .ref gk, .ref gi, .ref gp, .ref go, .ref gg, .ref hm])), (gk, .inl (d10, 360, .inl fk)), (gi, .inl (d11, 360, .inl (fun _ => 0))), (gp, .inl (d12, 360, .inl fp)), (go, .inl (d13, 360, .inl fo))]) hP hD [5, 6, 13, 14, 0, 1] [2, 3, 4, 7, 8, 9, 10, 11, 12] rfl rfl (by decide) (by decide) hk1 hFc hP1 hD1
              generalize H1 = H at hP hS hZ ⊢
              have hP : va_P (dC, dI) vwCl [(bn, .inl (d5, 3, .inl fb)), (rn, .inl (d6, 12, .inl fn)), (so, .inl (d7, 12, .inl fz)), (wi, .inl (d1, 6, .inl fw)), (co, .inl (d2, 6, .inl fc)), (sl, .inl (d3, 6, .inl fs)), (gr, .inl (d4, 6, .inl fg)), (gt, .inl (d8, 6, .inl ft)), (gw, .inl (d9, 6, .inl fu)), (hm, .inr (3, [.int 0, .int 6, .ref wi, .ref co, .ref sl, .ref rn, .ref so, .ref bn, .ref sm, .ref ah])), (sm, .inr (2, [.int 0, .ref gr, .ref gt, .ref gw, .ref gk, .ref gi, .ref gp, .ref go, .ref gg, .ref hm])), (gk, .inl (d10, 360, .inl fk)), (gi, .inl (d11, 360, .inl (fun _ => 0))), (gp, .inl (d12, 360, .inl fp)), (go, .inl (d13, 360, .inl fo))] H := hP
              have hD : va_D A [(bn, .inl (d5, 3, .inl fb)), (rn, .inl (d6, 12, .inl fn)), (so, .inl (d7, 12, .inl fz)), (wi, .inl (d1, 6, .inl fw)), (co, .inl (d2, 6, .inl fc)), (sl, .inl (d3, 6, .inl fs)), (gr, .inl (d4, 6, .inl fg)), (gt, .inl (d8, 6, .inl ft)), (gw, .inl (d9, 6, .inl fu)), (hm, .inr (3, [.int 0, .int 6, .ref wi, .ref co, .ref sl, .ref rn, .ref so, .ref bn, .ref sm, .ref ah])), (sm, .inr (2, [.int 0, .ref gr, .ref gt, .ref gw, .ref gk, .ref gi, .ref gp, .ref go, .ref gg, .ref hm])), (gk, .inl (d10, 360, .inl fk)), (gi, .inl (d11, 360, .inl (fun _ => 0))), (gp, .inl (d12, 360, .inl fp)), (go, .inl (d13, 360, .inl fo))] := hD
              refine W.widen (k := (cc133 + 1)) (n := (ss133 + 6)) (by omega) (by omega) ?_
              obtain - := hr166
              refine lv_i2l (v := r166.toInt64) hx hb dX3_digest_169 (by first | rfl | decide) ?_
              refine lv_ladd hx hb dX3_digest_170 ?_
              refine lv_topl (fun w167 ew167 => ?_)
              refine lv_lstore_n (lv' := [(1, .long w167), (6, .int 0), (0, .ref hm), (3, .int (nI i)), (4, .int (nI j)), (5, .int (nI k))]) hx hb dX3_digest_171 rfl hl (by decide) rfl (fun ls hl => ?_)
              refine lv_iinc (v := 1) (lv' := [(6, .int 1), (1, .long w167), (0, .ref hm), (3, .int (nI i)), (4, .int (nI j)), (5, .int (nI k))]) hx hb dX3_digest_172 hl (k := 1) rfl (by decide) (by decide) rfl (fun ls hl => ?_)
              refine lv_goto (tgt := 147) hx hb dX3_digest_175 (by decide) ?_
              refine lv_iload hx hb dX3_digest_147 (lv_at hl 0 rfl) ?_
              refine lv_iconst (v := 5) hx hb dX3_digest_149 (by decide) ?_
              refine lv_icmp_gt (tgt := 178) hx hb dX3_digest_150 (by decide) (fun c168 => absurd c168 (by decide)) (fun c168 => ?_)
              refine lv_lload_n hx hb dX3_digest_153 rfl (lv_at hl 1 rfl) ?_
              refine lv_ldc2 (v := 31) hx hb hown (hts (.constantLong RX3 151 31) (by decide +kernel)) dX3_digest_154 ?_
              refine lv_lmul hx hb dX3_digest_157 ?_
              refine lv_topl (fun w169 ew169 => ?_)
              refine lv_aload_n hx hb dX3_digest_158 rfl (lv_at hl 2 rfl) ?_
              refine lv_iload_n hx hb dX3_digest_159 rfl (lv_at hl 3 rfl) ?_
              refine lv_iload hx hb dX3_digest_160 (lv_at hl 4 rfl) ?_
              refine lv_iload hx hb dX3_digest_162 (lv_at hl 5 rfl) ?_
              refine lv_iload hx hb dX3_digest_164 (lv_at hl 0 rfl) ?_
              have hPc := hP.sub (ws' := [(hm, .inr (3, [.int 0, .int 6, .ref wi, .ref co, .ref sl, .ref rn, .ref so, .ref bn, .ref sm, .ref ah])), (sm, .inr (2, [.int 0, .ref gr, .ref gt, .ref gw, .ref gk, .ref gi, .ref gp, .ref go, .ref gg, .ref hm])), (gk, .inl (d10, 360, .inl fk)), (gi, .inl (d11, 360, .inl (fun _ => 0))), (gp, .inl (d12, 360, .inl fp)), (go, .inl (d13, 360, .inl fo))]) [9, 10, 11, 12, 13, 14] rfl
              have hKc := hK.sub (tys' := [(d10, .int), (d11, .int), (d12, .int), (d13, .int)]) [9, 10, 11, 12] rfl
              have hDc := hD.sub (ws' := [(hm, .inr (3, [.int 0, .int 6, .ref wi, .ref co, .ref sl, .ref rn, .ref so, .ref bn, .ref sm, .ref ah])), (sm, .inr (2, [.int 0, .ref gr, .ref gt, .ref gw, .ref gk, .ref gi, .ref gp, .ref go, .ref gg, .ref hm])), (gk, .inl (d10, 360, .inl fk)), (gi, .inl (d11, 360, .inl (fun _ => 0))), (gp, .inl (d12, 360, .inl fp)), (go, .inl (d13, 360, .inl fo))]) [9, 10, 11, 12, 13, 14] (by decide) rfl
              have hFc := va_free (wc := [(hm, .inr (3, [.int 0, .int 6, .ref wi, .ref co, .ref sl, .ref rn, .ref so, .ref bn, .ref sm, .ref ah])), (sm, .inr (2, [.int 0, .ref gr, .ref gt, .ref gw, .ref gk, .ref gi, .ref gp, .ref go, .ref gg, .ref hm])), (gk, .inl (d10, 360, .inl fk)), (gi, .inl (d11, 360, .inl (fun _ => 0))), (gp, .inl (d12, 360, .inl fp)), (go, .inl (d13, 360, .inl fo))]) hD hS hA [9, 10, 11, 12, 13, 14] rfl
              refine va_calli (va_runV (As := [.int (nI i), .int (nI j), .int (nI k), .int 1]) (rest := [.long w169]) ⟨hx, hb, hml, hown, hts⟩ (r3_yealmTold l dC dI H.size hm wi co sl rn so bn sm ah 0 gr gt gw gk gi gp go gg d10 d11 d12 d13 fk fp fo i j k 1 (by first | assumption | decide | omega) (by first | assumption | decide | omega) (by first | assumption | decide | omega) (by first | assumption | decide | omega) (⟨by decide, by decide⟩)) (cwV 4 hts gX3_digest_X3_yealmTold rfl rfl rfl (by decide +kernel) ⟨Nat.le_of_ble_eq_true rfl, Nat.le_of_ble_eq_true rfl⟩) ⟨fun a U g mk q => by obtain ⟨q0, q1, qP, qK, qD, qN⟩ := q; exact ⟨q0, q1, qP, va_K.moved (u := U) (U := U.calling g mk a) (Vm.Alike.refl U.vm) qK, qD, zNs.calling qN⟩, va_recv hKc hPc (ci := 3) (q0 := 0) rfl rfl, fun U hU hW => ⟨rfl, by rw [hU], by rw [hU]; exact hPc, va_K.moved hW.alike hKc, hDc.weaken (fun _ _ _ _ => trivial), zNs.warm hW hZN⟩⟩ rfl rfl hl.1 rfl (lv_room (Nat.le_of_ble_eq_true rfl)) dX3_digest_166 ⟨by show _ ≤ 2223; omega, by show _ ≤ 13527; omega⟩) hS (fun q _ h => hFc q h) hFc (fun r170 u t H1 locs ht hvm hr170 hB hz1 hk1 hS => ?_)
              obtain ⟨hP1, hK1, hD1, hZ1⟩ := hB
              rw [ht] at hP1 hZ1
              have hZ : s.heap.size + (dd133 + 2) ≤ H1.size := by omega
              have hK1 := va_K.moved hvm.symm hK1
              try dsimp only at hr170
              obtain ⟨hP, hD⟩ := va_join (wr := [(bn, .inl (d5, 3, .inl fb)), (rn, .inl (d6, 12, .inl fn)), (so, .inl (d7, 12, .inl fz)), (wi, .inl (d1, 6, .inl fw)), (co, .inl (d2, 6, .inl fc)), (sl, .inl (d3, 6, .inl fs)), (gr, .inl (d4, 6, .inl fg)), (gt, .inl (d8, 6, .inl ft)), (gw, .inl (d9, 6, .inl fu))]) (w1 := [(hm, .inr (3, [.int 0, .int 6, .ref wi, .ref co, .ref sl, .ref rn, .ref so, .ref bn, .ref sm, .ref ah])), (sm, .inr (2, [.int 0, .ref gr, .ref gt, .ref gw, .ref gk, .ref gi, .ref gp, .ref go, .ref gg, .ref hm])), (gk, .inl (d10, 360, .inl fk)), (gi, .inl (d11, 360, .inl (fun _ => 0))), (gp, .inl (d12, 360, .inl fp)), (go, .inl (d13, 360, .inl fo))]) hP hD [9, 10, 11, 12, 13, 14] [0, 1, 2, 3, 4, 5, 6, 7, 8] rfl rfl (by decide) (by decide) hk1 hFc hP1 hD1
              generalize H1 = H at hP hS hZ ⊢
              have hP : va_P (dC, dI) vwCl [(bn, .inl (d5, 3, .inl fb)), (rn, .inl (d6, 12, .inl fn)), (so, .inl (d7, 12, .inl fz)), (wi, .inl (d1, 6, .inl fw)), (co, .inl (d2, 6, .inl fc)), (sl, .inl (d3, 6, .inl fs)), (gr, .inl (d4, 6, .inl fg)), (gt, .inl (d8, 6, .inl ft)), (gw, .inl (d9, 6, .inl fu)), (hm, .inr (3, [.int 0, .int 6, .ref wi, .ref co, .ref sl, .ref rn, .ref so, .ref bn, .ref sm, .ref ah])), (sm, .inr (2, [.int 0, .ref gr, .ref gt, .ref gw, .ref gk, .ref gi, .ref gp, .ref go, .ref gg, .ref hm])), (gk, .inl (d10, 360, .inl fk)), (gi, .inl (d11, 360, .inl (fun _ => 0))), (gp, .inl (d12, 360, .inl fp)), (go, .inl (d13, 360, .inl fo))] H := hP
              have hD : va_D A [(bn, .inl (d5, 3, .inl fb)), (rn, .inl (d6, 12, .inl fn)), (so, .inl (d7, 12, .inl fz)), (wi, .inl (d1, 6, .inl fw)), (co, .inl (d2, 6, .inl fc)), (sl, .inl (d3, 6, .inl fs)), (gr, .inl (d4, 6, .inl fg)), (gt, .inl (d8, 6, .inl ft)), (gw, .inl (d9, 6, .inl fu)), (hm, .inr (3, [.int 0, .int 6, .ref wi, .ref co, .ref sl, .ref rn, .ref so, .ref bn, .ref sm, .ref ah])), (sm, .inr (2, [.int 0, .ref gr, .ref gt, .ref gw, .ref gk, .ref gi, .ref gp, .ref go, .ref gg, .ref hm])), (gk, .inl (d10, 360, .inl fk)), (gi, .inl (d11, 360, .inl (fun _ => 0))), (gp, .inl (d12, 360, .inl fp)), (go, .inl (d13, 360, .inl fo))] := hD
              refine W.widen (k := (cc133 + 2)) (n := (ss133 + 12)) (by omega) (by omega) ?_
              obtain - := hr170
              refine lv_i2l (v := r170.toInt64) hx hb dX3_digest_169 (by first | rfl | decide) ?_
              refine lv_ladd hx hb dX3_digest_170 ?_
              refine lv_topl (fun w171 ew171 => ?_)
              refine lv_lstore_n (lv' := [(1, .long w171), (6, .int 1), (0, .ref hm), (3, .int (nI i)), (4, .int (nI j)), (5, .int (nI k))]) hx hb dX3_digest_171 rfl hl (by decide) rfl (fun ls hl => ?_)
              refine lv_iinc (v := 2) (lv' := [(6, .int 2), (1, .long w171), (0, .ref hm), (3, .int (nI i)), (4, .int (nI j)), (5, .int (nI k))]) hx hb dX3_digest_172 hl (k := 1) rfl (by decide) (by decide) rfl (fun ls hl => ?_)
              refine lv_goto (tgt := 147) hx hb dX3_digest_175 (by decide) ?_
              refine lv_iload hx hb dX3_digest_147 (lv_at hl 0 rfl) ?_
              refine lv_iconst (v := 5) hx hb dX3_digest_149 (by decide) ?_
              refine lv_icmp_gt (tgt := 178) hx hb dX3_digest_150 (by decide) (fun c172 => absurd c172 (by decide)) (fun c172 => ?_)
              refine lv_lload_n hx hb dX3_digest_153 rfl (lv_at hl 1 rfl) ?_
              refine lv_ldc2 (v := 31) hx hb hown (hts (.constantLong RX3 151 31) (by decide +kernel)) dX3_digest_154 ?_
              refine lv_lmul hx hb dX3_digest_157 ?_
              refine lv_topl (fun w173 ew173 => ?_)
              refine lv_aload_n hx hb dX3_digest_158 rfl (lv_at hl 2 rfl) ?_
              refine lv_iload_n hx hb dX3_digest_159 rfl (lv_at hl 3 rfl) ?_
              refine lv_iload hx hb dX3_digest_160 (lv_at hl 4 rfl) ?_
              refine lv_iload hx hb dX3_digest_162 (lv_at hl 5 rfl) ?_
              refine lv_iload hx hb dX3_digest_164 (lv_at hl 0 rfl) ?_
              have hPc := hP.sub (ws' := [(hm, .inr (3, [.int 0, .int 6, .ref wi, .ref co, .ref sl, .ref rn, .ref so, .ref bn, .ref sm, .ref ah])), (sm, .inr (2, [.int 0, .ref gr, .ref gt, .ref gw, .ref gk, .ref gi, .ref gp, .ref go, .ref gg, .ref hm])), (gk, .inl (d10, 360, .inl fk)), (gi, .inl (d11, 360, .inl (fun _ => 0))), (gp, .inl (d12, 360, .inl fp)), (go, .inl (d13, 360, .inl fo))]) [9, 10, 11, 12, 13, 14] rfl
              have hKc := hK.sub (tys' := [(d10, .int), (d11, .int), (d12, .int), (d13, .int)]) [9, 10, 11, 12] rfl
              have hDc := hD.sub (ws' := [(hm, .inr (3, [.int 0, .int 6, .ref wi, .ref co, .ref sl, .ref rn, .ref so, .ref bn, .ref sm, .ref ah])), (sm, .inr (2, [.int 0, .ref gr, .ref gt, .ref gw, .ref gk, .ref gi, .ref gp, .ref go, .ref gg, .ref hm])), (gk, .inl (d10, 360, .inl fk)), (gi, .inl (d11, 360, .inl (fun _ => 0))), (gp, .inl (d12, 360, .inl fp)), (go, .inl (d13, 360, .inl fo))]) [9, 10, 11, 12, 13, 14] (by decide) rfl
              have hFc := va_free (wc := [(hm, .inr (3, [.int 0, .int 6, .ref wi, .ref co, .ref sl, .ref rn, .ref so, .ref bn, .ref sm, .ref ah])), (sm, .inr (2, [.int 0, .ref gr, .ref gt, .ref gw, .ref gk, .ref gi, .ref gp, .ref go, .ref gg, .ref hm])), (gk, .inl (d10, 360, .inl fk)), (gi, .inl (d11, 360, .inl (fun _ => 0))), (gp, .inl (d12, 360, .inl fp)), (go, .inl (d13, 360, .inl fo))]) hD hS hA [9, 10, 11, 12, 13, 14] rfl
              refine va_calli (va_runV (As := [.int (nI i), .int (nI j), .int (nI k), .int 2]) (rest := [.long w173]) ⟨hx, hb, hml, hown, hts⟩ (r3_yealmTold l dC dI H.size hm wi co sl rn so bn sm ah 0 gr gt gw gk gi gp go gg d10 d11 d12 d13 fk fp fo i j k 2 (by first | assumption | decide | omega) (by first | assumption | decide | omega) (by first | assumption | decide | omega) (by first | assumption | decide | omega) (⟨by decide, by decide⟩)) (cwV 4 hts gX3_digest_X3_yealmTold rfl rfl rfl (by decide +kernel) ⟨Nat.le_of_ble_eq_true rfl, Nat.le_of_ble_eq_true rfl⟩) ⟨fun a U g mk q => by obtain ⟨q0, q1, qP, qK, qD, qN⟩ := q; exact ⟨q0, q1, qP, va_K.moved (u := U) (U := U.calling g mk a) (Vm.Alike.refl U.vm) qK, qD, zNs.calling qN⟩, va_recv hKc hPc (ci := 3) (q0 := 0) rfl rfl, fun U hU hW => ⟨rfl, by rw [hU], by rw [hU]; exact hPc, va_K.moved hW.alike hKc, hDc.weaken (fun _ _ _ _ => trivial), zNs.warm hW hZN⟩⟩ rfl rfl hl.1 rfl (lv_room (Nat.le_of_ble_eq_true rfl)) dX3_digest_166 ⟨by show _ ≤ 2223; omega, by show _ ≤ 13527; omega⟩) hS (fun q _ h => hFc q h) hFc (fun r174 u t H1 locs ht hvm hr174 hB hz1 hk1 hS => ?_)
              obtain ⟨hP1, hK1, hD1, hZ1⟩ := hB
              rw [ht] at hP1 hZ1
              have hZ : s.heap.size + (dd133 + 3) ≤ H1.size := by omega
              have hK1 := va_K.moved hvm.symm hK1
              try dsimp only at hr174
              obtain ⟨hP, hD⟩ := va_join (wr := [(bn, .inl (d5, 3, .inl fb)), (rn, .inl (d6, 12, .inl fn)), (so, .inl (d7, 12, .inl fz)), (wi, .inl (d1, 6, .inl fw)), (co, .inl (d2, 6, .inl fc)), (sl, .inl (d3, 6, .inl fs)), (gr, .inl (d4, 6, .inl fg)), (gt, .inl (d8, 6, .inl ft)), (gw, .inl (d9, 6, .inl fu))]) (w1 := [(hm, .inr (3, [.int 0, .int 6, .ref wi, .ref co, .ref sl, .ref rn, .ref so, .ref bn, .ref sm, .ref ah])), (sm, .inr (2, [.int 0, .ref gr, .ref gt, .ref gw, .ref gk, .ref gi, .ref gp, .ref go, .ref gg, .ref hm])), (gk, .inl (d10, 360, .inl fk)), (gi, .inl (d11, 360, .inl (fun _ => 0))), (gp, .inl (d12, 360, .inl fp)), (go, .inl (d13, 360, .inl fo))]) hP hD [9, 10, 11, 12, 13, 14] [0, 1, 2, 3, 4, 5, 6, 7, 8] rfl rfl (by decide) (by decide) hk1 hFc hP1 hD1
              generalize H1 = H at hP hS hZ ⊢
              have hP : va_P (dC, dI) vwCl [(bn, .inl (d5, 3, .inl fb)), (rn, .inl (d6, 12, .inl fn)), (so, .inl (d7, 12, .inl fz)), (wi, .inl (d1, 6, .inl fw)), (co, .inl (d2, 6, .inl fc)), (sl, .inl (d3, 6, .inl fs)), (gr, .inl (d4, 6, .inl fg)), (gt, .inl (d8, 6, .inl ft)), (gw, .inl (d9, 6, .inl fu)), (hm, .inr (3, [.int 0, .int 6, .ref wi, .ref co, .ref sl, .ref rn, .ref so, .ref bn, .ref sm, .ref ah])), (sm, .inr (2, [.int 0, .ref gr, .ref gt, .ref gw, .ref gk, .ref gi, .ref gp, .ref go, .ref gg, .ref hm])), (gk, .inl (d10, 360, .inl fk)), (gi, .inl (d11, 360, .inl (fun _ => 0))), (gp, .inl (d12, 360, .inl fp)), (go, .inl (d13, 360, .inl fo))] H := hP
              have hD : va_D A [(bn, .inl (d5, 3, .inl fb)), (rn, .inl (d6, 12, .inl fn)), (so, .inl (d7, 12, .inl fz)), (wi, .inl (d1, 6, .inl fw)), (co, .inl (d2, 6, .inl fc)), (sl, .inl (d3, 6, .inl fs)), (gr, .inl (d4, 6, .inl fg)), (gt, .inl (d8, 6, .inl ft)), (gw, .inl (d9, 6, .inl fu)), (hm, .inr (3, [.int 0, .int 6, .ref wi, .ref co, .ref sl, .ref rn, .ref so, .ref bn, .ref sm, .ref ah])), (sm, .inr (2, [.int 0, .ref gr, .ref gt, .ref gw, .ref gk, .ref gi, .ref gp, .ref go, .ref gg, .ref hm])), (gk, .inl (d10, 360, .inl fk)), (gi, .inl (d11, 360, .inl (fun _ => 0))), (gp, .inl (d12, 360, .inl fp)), (go, .inl (d13, 360, .inl fo))] := hD
              refine W.widen (k := (cc133 + 3)) (n := (ss133 + 18)) (by omega) (by omega) ?_
              obtain - := hr174
              refine lv_i2l (v := r174.toInt64) hx hb dX3_digest_169 (by first | rfl | decide) ?_
              refine lv_ladd hx hb dX3_digest_170 ?_
              refine lv_topl (fun w175 ew175 => ?_)
              refine lv_lstore_n (lv' := [(1, .long w175), (6, .int 2), (0, .ref hm), (3, .int (nI i)), (4, .int (nI j)), (5, .int (nI k))]) hx hb dX3_digest_171 rfl hl (by decide) rfl (fun ls hl => ?_)
              refine lv_iinc (v := 3) (lv' := [(6, .int 3), (1, .long w175), (0, .ref hm), (3, .int (nI i)), (4, .int (nI j)), (5, .int (nI k))]) hx hb dX3_digest_172 hl (k := 1) rfl (by decide) (by decide) rfl (fun ls hl => ?_)
              refine lv_goto (tgt := 147) hx hb dX3_digest_175 (by decide) ?_
              refine lv_iload hx hb dX3_digest_147 (lv_at hl 0 rfl) ?_
              refine lv_iconst (v := 5) hx hb dX3_digest_149 (by decide) ?_
              refine lv_icmp_gt (tgt := 178) hx hb dX3_digest_150 (by decide) (fun c176 => absurd c176 (by decide)) (fun c176 => ?_)
              refine lv_lload_n hx hb dX3_digest_153 rfl (lv_at hl 1 rfl) ?_
              refine lv_ldc2 (v := 31) hx hb hown (hts (.constantLong RX3 151 31) (by decide +kernel)) dX3_digest_154 ?_
              refine lv_lmul hx hb dX3_digest_157 ?_
              refine lv_topl (fun w177 ew177 => ?_)
              refine lv_aload_n hx hb dX3_digest_158 rfl (lv_at hl 2 rfl) ?_
              refine lv_iload_n hx hb dX3_digest_159 rfl (lv_at hl 3 rfl) ?_
              refine lv_iload hx hb dX3_digest_160 (lv_at hl 4 rfl) ?_
              refine lv_iload hx hb dX3_digest_162 (lv_at hl 5 rfl) ?_
              refine lv_iload hx hb dX3_digest_164 (lv_at hl 0 rfl) ?_
              have hPc := hP.sub (ws' := [(hm, .inr (3, [.int 0, .int 6, .ref wi, .ref co, .ref sl, .ref rn, .ref so, .ref bn, .ref sm, .ref ah])), (sm, .inr (2, [.int 0, .ref gr, .ref gt, .ref gw, .ref gk, .ref gi, .ref gp, .ref go, .ref gg, .ref hm])), (gk, .inl (d10, 360, .inl fk)), (gi, .inl (d11, 360, .inl (fun _ => 0))), (gp, .inl (d12, 360, .inl fp)), (go, .inl (d13, 360, .inl fo))]) [9, 10, 11, 12, 13, 14] rfl
              have hKc := hK.sub (tys' := [(d10, .int), (d11, .int), (d12, .int), (d13, .int)]) [9, 10, 11, 12] rfl
              have hDc := hD.sub (ws' := [(hm, .inr (3, [.int 0, .int 6, .ref wi, .ref co, .ref sl, .ref rn, .ref so, .ref bn, .ref sm, .ref ah])), (sm, .inr (2, [.int 0, .ref gr, .ref gt, .ref gw, .ref gk, .ref gi, .ref gp, .ref go, .ref gg, .ref hm])), (gk, .inl (d10, 360, .inl fk)), (gi, .inl (d11, 360, .inl (fun _ => 0))), (gp, .inl (d12, 360, .inl fp)), (go, .inl (d13, 360, .inl fo))]) [9, 10, 11, 12, 13, 14] (by decide) rfl
              have hFc := va_free (wc := [(hm, .inr (3, [.int 0, .int 6, .ref wi, .ref co, .ref sl, .ref rn, .ref so, .ref bn, .ref sm, .ref ah])), (sm, .inr (2, [.int 0, .ref gr, .ref gt, .ref gw, .ref gk, .ref gi, .ref gp, .ref go, .ref gg, .ref hm])), (gk, .inl (d10, 360, .inl fk)), (gi, .inl (d11, 360, .inl (fun _ => 0))), (gp, .inl (d12, 360, .inl fp)), (go, .inl (d13, 360, .inl fo))]) hD hS hA [9, 10, 11, 12, 13, 14] rfl
              refine va_calli (va_runV (As := [.int (nI i), .int (nI j), .int (nI k), .int 3]) (rest := [.long w177]) ⟨hx, hb, hml, hown, hts⟩ (r3_yealmTold l dC dI H.size hm wi co sl rn so bn sm ah 0 gr gt gw gk gi gp go gg d10 d11 d12 d13 fk fp fo i j k 3 (by first | assumption | decide | omega) (by first | assumption | decide | omega) (by first | assumption | decide | omega) (by first | assumption | decide | omega) (⟨by decide, by decide⟩)) (cwV 4 hts gX3_digest_X3_yealmTold rfl rfl rfl (by decide +kernel) ⟨Nat.le_of_ble_eq_true rfl, Nat.le_of_ble_eq_true rfl⟩) ⟨fun a U g mk q => by obtain ⟨q0, q1, qP, qK, qD, qN⟩ := q; exact ⟨q0, q1, qP, va_K.moved (u := U) (U := U.calling g mk a) (Vm.Alike.refl U.vm) qK, qD, zNs.calling qN⟩, va_recv hKc hPc (ci := 3) (q0 := 0) rfl rfl, fun U hU hW => ⟨rfl, by rw [hU], by rw [hU]; exact hPc, va_K.moved hW.alike hKc, hDc.weaken (fun _ _ _ _ => trivial), zNs.warm hW hZN⟩⟩ rfl rfl hl.1 rfl (lv_room (Nat.le_of_ble_eq_true rfl)) dX3_digest_166 ⟨by show _ ≤ 2223; omega, by show _ ≤ 13527; omega⟩) hS (fun q _ h => hFc q h) hFc (fun r178 u t H1 locs ht hvm hr178 hB hz1 hk1 hS => ?_)
              obtain ⟨hP1, hK1, hD1, hZ1⟩ := hB
              rw [ht] at hP1 hZ1
              have hZ : s.heap.size + (dd133 + 4) ≤ H1.size := by omega
              have hK1 := va_K.moved hvm.symm hK1
              try dsimp only at hr178
              obtain ⟨hP, hD⟩ := va_join (wr := [(bn, .inl (d5, 3, .inl fb)), (rn, .inl (d6, 12, .inl fn)), (so, .inl (d7, 12, .inl fz)), (wi, .inl (d1, 6, .inl fw)), (co, .inl (d2, 6, .inl fc)), (sl, .inl (d3, 6, .inl fs)), (gr, .inl (d4, 6, .inl fg)), (gt, .inl (d8, 6, .inl ft)), (gw, .inl (d9, 6, .inl fu))]) (w1 := [(hm, .inr (3, [.int 0, .int 6, .ref wi, .ref co, .ref sl, .ref rn, .ref so, .ref bn, .ref sm, .ref ah])), (sm, .inr (2, [.int 0, .ref gr, .ref gt, .ref gw, .ref gk, .ref gi, .ref gp, .ref go, .ref gg, .ref hm])), (gk, .inl (d10, 360, .inl fk)), (gi, .inl (d11, 360, .inl (fun _ => 0))), (gp, .inl (d12, 360, .inl fp)), (go, .inl (d13, 360, .inl fo))]) hP hD [9, 10, 11, 12, 13, 14] [0, 1, 2, 3, 4, 5, 6, 7, 8] rfl rfl (by decide) (by decide) hk1 hFc hP1 hD1
              generalize H1 = H at hP hS hZ ⊢
              have hP : va_P (dC, dI) vwCl [(bn, .inl (d5, 3, .inl fb)), (rn, .inl (d6, 12, .inl fn)), (so, .inl (d7, 12, .inl fz)), (wi, .inl (d1, 6, .inl fw)), (co, .inl (d2, 6, .inl fc)), (sl, .inl (d3, 6, .inl fs)), (gr, .inl (d4, 6, .inl fg)), (gt, .inl (d8, 6, .inl ft)), (gw, .inl (d9, 6, .inl fu)), (hm, .inr (3, [.int 0, .int 6, .ref wi, .ref co, .ref sl, .ref rn, .ref so, .ref bn, .ref sm, .ref ah])), (sm, .inr (2, [.int 0, .ref gr, .ref gt, .ref gw, .ref gk, .ref gi, .ref gp, .ref go, .ref gg, .ref hm])), (gk, .inl (d10, 360, .inl fk)), (gi, .inl (d11, 360, .inl (fun _ => 0))), (gp, .inl (d12, 360, .inl fp)), (go, .inl (d13, 360, .inl fo))] H := hP
              have hD : va_D A [(bn, .inl (d5, 3, .inl fb)), (rn, .inl (d6, 12, .inl fn)), (so, .inl (d7, 12, .inl fz)), (wi, .inl (d1, 6, .inl fw)), (co, .inl (d2, 6, .inl fc)), (sl, .inl (d3, 6, .inl fs)), (gr, .inl (d4, 6, .inl fg)), (gt, .inl (d8, 6, .inl ft)), (gw, .inl (d9, 6, .inl fu)), (hm, .inr (3, [.int 0, .int 6, .ref wi, .ref co, .ref sl, .ref rn, .ref so, .ref bn, .ref sm, .ref ah])), (sm, .inr (2, [.int 0, .ref gr, .ref gt, .ref gw, .ref gk, .ref gi, .ref gp, .ref go, .ref gg, .ref hm])), (gk, .inl (d10, 360, .inl fk)), (gi, .inl (d11, 360, .inl (fun _ => 0))), (gp, .inl (d12, 360, .inl fp)), (go, .inl (d13, 360, .inl fo))] := hD
              refine W.widen (k := (cc133 + 4)) (n := (ss133 + 24)) (by omega) (by omega) ?_
              obtain - := hr178
              refine lv_i2l (v := r178.toInt64) hx hb dX3_digest_169 (by first | rfl | decide) ?_
              refine lv_ladd hx hb dX3_digest_170 ?_
              refine lv_topl (fun w179 ew179 => ?_)
              refine lv_lstore_n (lv' := [(1, .long w179), (6, .int 3), (0, .ref hm), (3, .int (nI i)), (4, .int (nI j)), (5, .int (nI k))]) hx hb dX3_digest_171 rfl hl (by decide) rfl (fun ls hl => ?_)
              refine lv_iinc (v := 4) (lv' := [(6, .int 4), (1, .long w179), (0, .ref hm), (3, .int (nI i)), (4, .int (nI j)), (5, .int (nI k))]) hx hb dX3_digest_172 hl (k := 1) rfl (by decide) (by decide) rfl (fun ls hl => ?_)
              refine lv_goto (tgt := 147) hx hb dX3_digest_175 (by decide) ?_
              refine lv_iload hx hb dX3_digest_147 (lv_at hl 0 rfl) ?_
              refine lv_iconst (v := 5) hx hb dX3_digest_149 (by decide) ?_
              refine lv_icmp_gt (tgt := 178) hx hb dX3_digest_150 (by decide) (fun c180 => absurd c180 (by decide)) (fun c180 => ?_)
              refine lv_lload_n hx hb dX3_digest_153 rfl (lv_at hl 1 rfl) ?_
              refine lv_ldc2 (v := 31) hx hb hown (hts (.constantLong RX3 151 31) (by decide +kernel)) dX3_digest_154 ?_
              refine lv_lmul hx hb dX3_digest_157 ?_
              refine lv_topl (fun w181 ew181 => ?_)
              refine lv_aload_n hx hb dX3_digest_158 rfl (lv_at hl 2 rfl) ?_
              refine lv_iload_n hx hb dX3_digest_159 rfl (lv_at hl 3 rfl) ?_
              refine lv_iload hx hb dX3_digest_160 (lv_at hl 4 rfl) ?_
              refine lv_iload hx hb dX3_digest_162 (lv_at hl 5 rfl) ?_
              refine lv_iload hx hb dX3_digest_164 (lv_at hl 0 rfl) ?_
              have hPc := hP.sub (ws' := [(hm, .inr (3, [.int 0, .int 6, .ref wi, .ref co, .ref sl, .ref rn, .ref so, .ref bn, .ref sm, .ref ah])), (sm, .inr (2, [.int 0, .ref gr, .ref gt, .ref gw, .ref gk, .ref gi, .ref gp, .ref go, .ref gg, .ref hm])), (gk, .inl (d10, 360, .inl fk)), (gi, .inl (d11, 360, .inl (fun _ => 0))), (gp, .inl (d12, 360, .inl fp)), (go, .inl (d13, 360, .inl fo))]) [9, 10, 11, 12, 13, 14] rfl
              have hKc := hK.sub (tys' := [(d10, .int), (d11, .int), (d12, .int), (d13, .int)]) [9, 10, 11, 12] rfl
              have hDc := hD.sub (ws' := [(hm, .inr (3, [.int 0, .int 6, .ref wi, .ref co, .ref sl, .ref rn, .ref so, .ref bn, .ref sm, .ref ah])), (sm, .inr (2, [.int 0, .ref gr, .ref gt, .ref gw, .ref gk, .ref gi, .ref gp, .ref go, .ref gg, .ref hm])), (gk, .inl (d10, 360, .inl fk)), (gi, .inl (d11, 360, .inl (fun _ => 0))), (gp, .inl (d12, 360, .inl fp)), (go, .inl (d13, 360, .inl fo))]) [9, 10, 11, 12, 13, 14] (by decide) rfl
              have hFc := va_free (wc := [(hm, .inr (3, [.int 0, .int 6, .ref wi, .ref co, .ref sl, .ref rn, .ref so, .ref bn, .ref sm, .ref ah])), (sm, .inr (2, [.int 0, .ref gr, .ref gt, .ref gw, .ref gk, .ref gi, .ref gp, .ref go, .ref gg, .ref hm])), (gk, .inl (d10, 360, .inl fk)), (gi, .inl (d11, 360, .inl (fun _ => 0))), (gp, .inl (d12, 360, .inl fp)), (go, .inl (d13, 360, .inl fo))]) hD hS hA [9, 10, 11, 12, 13, 14] rfl
              refine va_calli (va_runV (As := [.int (nI i), .int (nI j), .int (nI k), .int 4]) (rest := [.long w181]) ⟨hx, hb, hml, hown, hts⟩ (r3_yealmTold l dC dI H.size hm wi co sl rn so bn sm ah 0 gr gt gw gk gi gp go gg d10 d11 d12 d13 fk fp fo i j k 4 (by first | assumption | decide | omega) (by first | assumption | decide | omega) (by first | assumption | decide | omega) (by first | assumption | decide | omega) (⟨by decide, by decide⟩)) (cwV 4 hts gX3_digest_X3_yealmTold rfl rfl rfl (by decide +kernel) ⟨Nat.le_of_ble_eq_true rfl, Nat.le_of_ble_eq_true rfl⟩) ⟨fun a U g mk q => by obtain ⟨q0, q1, qP, qK, qD, qN⟩ := q; exact ⟨q0, q1, qP, va_K.moved (u := U) (U := U.calling g mk a) (Vm.Alike.refl U.vm) qK, qD, zNs.calling qN⟩, va_recv hKc hPc (ci := 3) (q0 := 0) rfl rfl, fun U hU hW => ⟨rfl, by rw [hU], by rw [hU]; exact hPc, va_K.moved hW.alike hKc, hDc.weaken (fun _ _ _ _ => trivial), zNs.warm hW hZN⟩⟩ rfl rfl hl.1 rfl (lv_room (Nat.le_of_ble_eq_true rfl)) dX3_digest_166 ⟨by show _ ≤ 2223; omega, by show _ ≤ 13527; omega⟩) hS (fun q _ h => hFc q h) hFc (fun r182 u t H1 locs ht hvm hr182 hB hz1 hk1 hS => ?_)
              obtain ⟨hP1, hK1, hD1, hZ1⟩ := hB
              rw [ht] at hP1 hZ1
              have hZ : s.heap.size + (dd133 + 5) ≤ H1.size := by omega
              have hK1 := va_K.moved hvm.symm hK1
              try dsimp only at hr182
              obtain ⟨hP, hD⟩ := va_join (wr := [(bn, .inl (d5, 3, .inl fb)), (rn, .inl (d6, 12, .inl fn)), (so, .inl (d7, 12, .inl fz)), (wi, .inl (d1, 6, .inl fw)), (co, .inl (d2, 6, .inl fc)), (sl, .inl (d3, 6, .inl fs)), (gr, .inl (d4, 6, .inl fg)), (gt, .inl (d8, 6, .inl ft)), (gw, .inl (d9, 6, .inl fu))]) (w1 := [(hm, .inr (3, [.int 0, .int 6, .ref wi, .ref co, .ref sl, .ref rn, .ref so, .ref bn, .ref sm, .ref ah])), (sm, .inr (2, [.int 0, .ref gr, .ref gt, .ref gw, .ref gk, .ref gi, .ref gp, .ref go, .ref gg, .ref hm])), (gk, .inl (d10, 360, .inl fk)), (gi, .inl (d11, 360, .inl (fun _ => 0))), (gp, .inl (d12, 360, .inl fp)), (go, .inl (d13, 360, .inl fo))]) hP hD [9, 10, 11, 12, 13, 14] [0, 1, 2, 3, 4, 5, 6, 7, 8] rfl rfl (by decide) (by decide) hk1 hFc hP1 hD1
              generalize H1 = H at hP hS hZ ⊢
              have hP : va_P (dC, dI) vwCl [(bn, .inl (d5, 3, .inl fb)), (rn, .inl (d6, 12, .inl fn)), (so, .inl (d7, 12, .inl fz)), (wi, .inl (d1, 6, .inl fw)), (co, .inl (d2, 6, .inl fc)), (sl, .inl (d3, 6, .inl fs)), (gr, .inl (d4, 6, .inl fg)), (gt, .inl (d8, 6, .inl ft)), (gw, .inl (d9, 6, .inl fu)), (hm, .inr (3, [.int 0, .int 6, .ref wi, .ref co, .ref sl, .ref rn, .ref so, .ref bn, .ref sm, .ref ah])), (sm, .inr (2, [.int 0, .ref gr, .ref gt, .ref gw, .ref gk, .ref gi, .ref gp, .ref go, .ref gg, .ref hm])), (gk, .inl (d10, 360, .inl fk)), (gi, .inl (d11, 360, .inl (fun _ => 0))), (gp, .inl (d12, 360, .inl fp)), (go, .inl (d13, 360, .inl fo))] H := hP
              have hD : va_D A [(bn, .inl (d5, 3, .inl fb)), (rn, .inl (d6, 12, .inl fn)), (so, .inl (d7, 12, .inl fz)), (wi, .inl (d1, 6, .inl fw)), (co, .inl (d2, 6, .inl fc)), (sl, .inl (d3, 6, .inl fs)), (gr, .inl (d4, 6, .inl fg)), (gt, .inl (d8, 6, .inl ft)), (gw, .inl (d9, 6, .inl fu)), (hm, .inr (3, [.int 0, .int 6, .ref wi, .ref co, .ref sl, .ref rn, .ref so, .ref bn, .ref sm, .ref ah])), (sm, .inr (2, [.int 0, .ref gr, .ref gt, .ref gw, .ref gk, .ref gi, .ref gp, .ref go, .ref gg, .ref hm])), (gk, .inl (d10, 360, .inl fk)), (gi, .inl (d11, 360, .inl (fun _ => 0))), (gp, .inl (d12, 360, .inl fp)), (go, .inl (d13, 360, .inl fo))] := hD
              refine W.widen (k := (cc133 + 5)) (n := (ss133 + 30)) (by omega) (by omega) ?_
              obtain - := hr182
              refine lv_i2l (v := r182.toInt64) hx hb dX3_digest_169 (by first | rfl | decide) ?_
              refine lv_ladd hx hb dX3_digest_170 ?_
              refine lv_topl (fun w183 ew183 => ?_)
              refine lv_lstore_n (lv' := [(1, .long w183), (6, .int 4), (0, .ref hm), (3, .int (nI i)), (4, .int (nI j)), (5, .int (nI k))]) hx hb dX3_digest_171 rfl hl (by decide) rfl (fun ls hl => ?_)
              refine lv_iinc (v := 5) (lv' := [(6, .int 5), (1, .long w183), (0, .ref hm), (3, .int (nI i)), (4, .int (nI j)), (5, .int (nI k))]) hx hb dX3_digest_172 hl (k := 1) rfl (by decide) (by decide) rfl (fun ls hl => ?_)
              refine lv_goto (tgt := 147) hx hb dX3_digest_175 (by decide) ?_
              refine lv_iload hx hb dX3_digest_147 (lv_at hl 0 rfl) ?_
              refine lv_iconst (v := 5) hx hb dX3_digest_149 (by decide) ?_
              refine lv_icmp_gt (tgt := 178) hx hb dX3_digest_150 (by decide) (fun c184 => absurd c184 (by decide)) (fun c184 => ?_)
              refine lv_lload_n hx hb dX3_digest_153 rfl (lv_at hl 1 rfl) ?_
              refine lv_ldc2 (v := 31) hx hb hown (hts (.constantLong RX3 151 31) (by decide +kernel)) dX3_digest_154 ?_
              refine lv_lmul hx hb dX3_digest_157 ?_
              refine lv_topl (fun w185 ew185 => ?_)
              refine lv_aload_n hx hb dX3_digest_158 rfl (lv_at hl 2 rfl) ?_
              refine lv_iload_n hx hb dX3_digest_159 rfl (lv_at hl 3 rfl) ?_
              refine lv_iload hx hb dX3_digest_160 (lv_at hl 4 rfl) ?_
              refine lv_iload hx hb dX3_digest_162 (lv_at hl 5 rfl) ?_
              refine lv_iload hx hb dX3_digest_164 (lv_at hl 0 rfl) ?_
              have hPc := hP.sub (ws' := [(hm, .inr (3, [.int 0, .int 6, .ref wi, .ref co, .ref sl, .ref rn, .ref so, .ref bn, .ref sm, .ref ah])), (sm, .inr (2, [.int 0, .ref gr, .ref gt, .ref gw, .ref gk, .ref gi, .ref gp, .ref go, .ref gg, .ref hm])), (gk, .inl (d10, 360, .inl fk)), (gi, .inl (d11, 360, .inl (fun _ => 0))), (gp, .inl (d12, 360, .inl fp)), (go, .inl (d13, 360, .inl fo))]) [9, 10, 11, 12, 13, 14] rfl
              have hKc := hK.sub (tys' := [(d10, .int), (d11, .int), (d12, .int), (d13, .int)]) [9, 10, 11, 12] rfl
              have hDc := hD.sub (ws' := [(hm, .inr (3, [.int 0, .int 6, .ref wi, .ref co, .ref sl, .ref rn, .ref so, .ref bn, .ref sm, .ref ah])), (sm, .inr (2, [.int 0, .ref gr, .ref gt, .ref gw, .ref gk, .ref gi, .ref gp, .ref go, .ref gg, .ref hm])), (gk, .inl (d10, 360, .inl fk)), (gi, .inl (d11, 360, .inl (fun _ => 0))), (gp, .inl (d12, 360, .inl fp)), (go, .inl (d13, 360, .inl fo))]) [9, 10, 11, 12, 13, 14] (by decide) rfl
              have hFc := va_free (wc := [(hm, .inr (3, [.int 0, .int 6, .ref wi, .ref co, .ref sl, .ref rn, .ref so, .ref bn, .ref sm, .ref ah])), (sm, .inr (2, [.int 0, .ref gr, .ref gt, .ref gw, .ref gk, .ref gi, .ref gp, .ref go, .ref gg, .ref hm])), (gk, .inl (d10, 360, .inl fk)), (gi, .inl (d11, 360, .inl (fun _ => 0))), (gp, .inl (d12, 360, .inl fp)), (go, .inl (d13, 360, .inl fo))]) hD hS hA [9, 10, 11, 12, 13, 14] rfl
              refine va_calli (va_runV (As := [.int (nI i), .int (nI j), .int (nI k), .int 5]) (rest := [.long w185]) ⟨hx, hb, hml, hown, hts⟩ (r3_yealmTold l dC dI H.size hm wi co sl rn so bn sm ah 0 gr gt gw gk gi gp go gg d10 d11 d12 d13 fk fp fo i j k 5 (by first | assumption | decide | omega) (by first | assumption | decide | omega) (by first | assumption | decide | omega) (by first | assumption | decide | omega) (⟨by decide, by decide⟩)) (cwV 4 hts gX3_digest_X3_yealmTold rfl rfl rfl (by decide +kernel) ⟨Nat.le_of_ble_eq_true rfl, Nat.le_of_ble_eq_true rfl⟩) ⟨fun a U g mk q => by obtain ⟨q0, q1, qP, qK, qD, qN⟩ := q; exact ⟨q0, q1, qP, va_K.moved (u := U) (U := U.calling g mk a) (Vm.Alike.refl U.vm) qK, qD, zNs.calling qN⟩, va_recv hKc hPc (ci := 3) (q0 := 0) rfl rfl, fun U hU hW => ⟨rfl, by rw [hU], by rw [hU]; exact hPc, va_K.moved hW.alike hKc, hDc.weaken (fun _ _ _ _ => trivial), zNs.warm hW hZN⟩⟩ rfl rfl hl.1 rfl (lv_room (Nat.le_of_ble_eq_true rfl)) dX3_digest_166 ⟨by show _ ≤ 2223; omega, by show _ ≤ 13527; omega⟩) hS (fun q _ h => hFc q h) hFc (fun r186 u t H1 locs ht hvm hr186 hB hz1 hk1 hS => ?_)
              obtain ⟨hP1, hK1, hD1, hZ1⟩ := hB
              rw [ht] at hP1 hZ1
              have hZ : s.heap.size + (dd133 + 6) ≤ H1.size := by omega
              have hK1 := va_K.moved hvm.symm hK1
              try dsimp only at hr186
              obtain ⟨hP, hD⟩ := va_join (wr := [(bn, .inl (d5, 3, .inl fb)), (rn, .inl (d6, 12, .inl fn)), (so, .inl (d7, 12, .inl fz)), (wi, .inl (d1, 6, .inl fw)), (co, .inl (d2, 6, .inl fc)), (sl, .inl (d3, 6, .inl fs)), (gr, .inl (d4, 6, .inl fg)), (gt, .inl (d8, 6, .inl ft)), (gw, .inl (d9, 6, .inl fu))]) (w1 := [(hm, .inr (3, [.int 0, .int 6, .ref wi, .ref co, .ref sl, .ref rn, .ref so, .ref bn, .ref sm, .ref ah])), (sm, .inr (2, [.int 0, .ref gr, .ref gt, .ref gw, .ref gk, .ref gi, .ref gp, .ref go, .ref gg, .ref hm])), (gk, .inl (d10, 360, .inl fk)), (gi, .inl (d11, 360, .inl (fun _ => 0))), (gp, .inl (d12, 360, .inl fp)), (go, .inl (d13, 360, .inl fo))]) hP hD [9, 10, 11, 12, 13, 14] [0, 1, 2, 3, 4, 5, 6, 7, 8] rfl rfl (by decide) (by decide) hk1 hFc hP1 hD1
              generalize H1 = H at hP hS hZ ⊢
              have hP : va_P (dC, dI) vwCl [(bn, .inl (d5, 3, .inl fb)), (rn, .inl (d6, 12, .inl fn)), (so, .inl (d7, 12, .inl fz)), (wi, .inl (d1, 6, .inl fw)), (co, .inl (d2, 6, .inl fc)), (sl, .inl (d3, 6, .inl fs)), (gr, .inl (d4, 6, .inl fg)), (gt, .inl (d8, 6, .inl ft)), (gw, .inl (d9, 6, .inl fu)), (hm, .inr (3, [.int 0, .int 6, .ref wi, .ref co, .ref sl, .ref rn, .ref so, .ref bn, .ref sm, .ref ah])), (sm, .inr (2, [.int 0, .ref gr, .ref gt, .ref gw, .ref gk, .ref gi, .ref gp, .ref go, .ref gg, .ref hm])), (gk, .inl (d10, 360, .inl fk)), (gi, .inl (d11, 360, .inl (fun _ => 0))), (gp, .inl (d12, 360, .inl fp)), (go, .inl (d13, 360, .inl fo))] H := hP
              have hD : va_D A [(bn, .inl (d5, 3, .inl fb)), (rn, .inl (d6, 12, .inl fn)), (so, .inl (d7, 12, .inl fz)), (wi, .inl (d1, 6, .inl fw)), (co, .inl (d2, 6, .inl fc)), (sl, .inl (d3, 6, .inl fs)), (gr, .inl (d4, 6, .inl fg)), (gt, .inl (d8, 6, .inl ft)), (gw, .inl (d9, 6, .inl fu)), (hm, .inr (3, [.int 0, .int 6, .ref wi, .ref co, .ref sl, .ref rn, .ref so, .ref bn, .ref sm, .ref ah])), (sm, .inr (2, [.int 0, .ref gr, .ref gt, .ref gw, .ref gk, .ref gi, .ref gp, .ref go, .ref gg, .ref hm])), (gk, .inl (d10, 360, .inl fk)), (gi, .inl (d11, 360, .inl (fun _ => 0))), (gp, .inl (d12, 360, .inl fp)), (go, .inl (d13, 360, .inl fo))] := hD
              refine W.widen (k := (cc133 + 6)) (n := (ss133 + 36)) (by omega) (by omega) ?_
              obtain - := hr186
              refine lv_i2l (v := r186.toInt64) hx hb dX3_digest_169 (by first | rfl | decide) ?_
              refine lv_ladd hx hb dX3_digest_170 ?_
              refine lv_topl (fun w187 ew187 => ?_)
              refine lv_lstore_n (lv' := [(1, .long w187), (6, .int 5), (0, .ref hm), (3, .int (nI i)), (4, .int (nI j)), (5, .int (nI k))]) hx hb dX3_digest_171 rfl hl (by decide) rfl (fun ls hl => ?_)
              refine lv_iinc (v := 6) (lv' := [(6, .int 6), (1, .long w187), (0, .ref hm), (3, .int (nI i)), (4, .int (nI j)), (5, .int (nI k))]) hx hb dX3_digest_172 hl (k := 1) rfl (by decide) (by decide) rfl (fun ls hl => ?_)
              refine lv_goto (tgt := 147) hx hb dX3_digest_175 (by decide) ?_
              refine lv_iload hx hb dX3_digest_147 (lv_at hl 0 rfl) ?_
              refine lv_iconst (v := 5) hx hb dX3_digest_149 (by decide) ?_
              refine lv_icmp_gt (tgt := 178) hx hb dX3_digest_150 (by decide) (fun c188 => ?_) (fun c188 => absurd c188 (by decide))
              refine lv_iinc (v := nI (k + 1)) (lv' := [(5, .int (nI (k + 1))), (6, .int 6), (1, .long w187), (0, .ref hm), (3, .int (nI i)), (4, .int (nI j))]) hx hb dX3_digest_178 hl (k := 5) rfl (by exact nI_1 k) (by decide) rfl (fun ls hl => ?_)
              refine lv_goto (tgt := 133) hx hb dX3_digest_181 (by decide) ?_
              exact ih133 _ _ _ (k + 1) w187 (by omega) (by omega) (by omega) (by omega) (by omega) _ _ (hP.sub [13, 14, 0, 1, 2, 9, 10, 3, 4, 5, 6, 7, 8, 11, 12] rfl) (hD.sub [13, 14, 0, 1, 2, 9, 10, 3, 4, 5, 6, 7, 8, 11, 12] (by decide) rfl) hS hZ _ (lv_sub hl [3, 2, 4, 5, 0] rfl)
end

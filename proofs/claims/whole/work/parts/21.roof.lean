/-- the digest over one place without a yealm, over a roof's nine numbers, over so many places, over a roof, over so many roofs -/
def zz_y (d : Int64) : Int64 := ((((((d * 31 + 0) * 31 + (-1)) * 31 + 0) * 31 + 0) * 31 + 0) * 31 + 0)
def zz_r9 (d : Int64) : Int64 := (((((((((d * 31 + 10) * 31 + 6) * 31 + 30) * 31 + 100) * 31 + 0) * 31 + 0) * 31 + 10) * 31 + 0) * 31 + 0)
def zz_it : Nat → Int64 → Int64
  | 0, d => d
  | n + 1, d => zz_y (zz_it n d)
def zz_rf (d : Int64) : Int64 := zz_it 60 (zz_r9 d)
def zz_itr : Nat → Int64 → Int64
  | 0, d => d
  | n + 1, d => zz_rf (zz_itr n d)
theorem zz_6 (d : Int64) : zz_rf (zz_rf (zz_rf (zz_rf (zz_rf (zz_rf d))))) = zz_itr 6 d := by simp only [zz_itr]
theorem zN_mul (a b : Nat) : nI a * nI b = nI (a * b) := (Int32.ofNat_mul a b).symm
/-- a method that made a cell which its world still holds: the heap has grown -/
theorem zz_one {A : Nat → Prop} {ws w1 : va_W} {sz : Nat} {D : va_G} {cl : List vw_C} {H : Heap} (hAe : va_A ws sz = A) (hD : va_D A w1) (hP : va_P D cl w1 H) (i : Nat) (js : List Nat) {q : Nat × va_E} (hq : w1[i]? = some q)
    (hj : js.map (fun j => (w1[j]?).map Prod.fst) = ws.map (fun x => some x.1)) (hn : i ∉ js) : sz + 1 ≤ H.size := by
  have h1 : A q.1 := hD.2 i q hq
  rw [← hAe] at h1
  have h2 : q.1 < H.size := (hP i q hq).lt
  rcases h1 with ⟨k, e, hk⟩ | h1
  · have h3 : (js.map (fun j => (w1[j]?).map Prod.fst))[k]? = some (some q.1) := by rw [hj, List.getElem?_map, hk]; rfl
    rw [List.getElem?_map] at h3
    cases hi : js[k]? with
    | none => rw [hi] at h3; cases h3
    | some j =>
      rw [hi] at h3
      have h4 : (w1[j]?).map Prod.fst = some q.1 := Option.some.inj h3
      cases hw : w1[j]? with
      | none => rw [hw] at h4; cases h4
      | some y =>
        rw [hw] at h4
        have h5 : y.1 = q.1 := Option.some.inj h4
        have h6 := hD.1 j i y q hw hq h5
        subst h6
        exact absurd (List.mem_of_getElem? hi) hn
  · omega

set_option maxHeartbeats 4000000 in
set_option maxRecDepth 100000 in
theorem r0_thicknessAt (l : Launch) (dC : Nat → ClassId) (dI : Nat → Nat → Nat) (rh : Nat) (rk : Nat) (rt : Nat) (rp : Nat) (rm : Nat) (cT : ClassId) (cu : Nat) (pl : Nat) (hcu : cu < 6) (hpl : pl < 10) : Met l yX0_thicknessAt wsX0_thicknessAt ({ frames := 0, cells := 0, slots := 0, locals := 0 }) (va_Pc [.ref rh, .int (nI cu), .int (nI pl)] (fun U => va_P (dC, dI) vwCl [(rh, .inr (0, [.int 10, .int 6, .int 30, .int 100, .int 0, .int 0, .ref rk, .ref rt, .ref rp, .ref rm])), (rt, .inl (cT, 60, .inl (fun _ => 0)))] U.heap ∧ va_K (dC, dI) vwCl [(cT, .int)] U)) (vp_Si (fun r : Int32 => r = 0)) 0 0 (fun _ => False) := by
  refine Met.ofW (cc := cX0_thicknessAt) (maxL := 3) (ret := (some .int)) (by decide) rfl ?_
  intro p e s m args below meth c s₁ B hml hv
  obtain ⟨rfl, hP, hK⟩ := hv
  have hx := B.exec
  have hb := B.bytes
  have hr := B.returns
  have hts := atoms_spec (ws := wsX0_thicknessAt) B.pre
  have hown : s.vm.findClass RX0 = some m.cls := findClass_of_methodNamed B.named
  have hlocks := B.notSynchronized
  have hP : va_P (dC, dI) vwCl [(rh, .inr (0, [.int 10, .int 6, .int 30, .int 100, .int 0, .int 0, .ref rk, .ref rt, .ref rp, .ref rm])), (rt, .inl (cT, 60, .inl (fun _ => 0)))] s.heap := hP
  have hl := lv_entry ([.ref rh, .int (nI cu), .int (nI pl)]) (n := 3) (Nat.le_of_ble_eq_true rfl)
  rw [lg_entry_eq]
  generalize (lg_sl ([.ref rh, .int (nI cu), .int (nI pl)]) ++ List.replicate (3 - (lg_sl ([.ref rh, .int (nI cu), .int (nI pl)])).length) Slot.unset).toArray = ls at hl ⊢
  have hl : lv_has ls 3 [(0, .ref rh), (1, .int (nI cu)), (2, .int (nI pl))] := hl
  refine lv_iload_n hx hb dX0_thicknessAt_0 rfl (lv_at hl 1 rfl) ?_
  refine lv_if_lt (tgt := 24) hx hb dX0_thicknessAt_1 (by decide) (fun c1 => ?_) (fun c1 => ?_)
  · have nc1 : cu < 0 := (nI_ltI (a := cu) (b := 0) (by omega) (by omega)).mp c1
    refine lv_iconst (v := 0) hx hb dX0_thicknessAt_24 (by decide) ?_
    exact W.iret (v := 0) hx hb hr (fun t ht hW => ⟨0, rfl, by (first | rfl | assumption | decide | (simp_all; done) | grind), ht⟩) (fun _ h => nomatch h) dX0_thicknessAt_25
  · have nc1 : 0 ≤ cu := Nat.le_of_not_lt (fun q => c1 ((nI_ltI (a := cu) (b := 0) (by omega) (by omega)).mpr q))
    refine lv_iload_n hx hb dX0_thicknessAt_4 rfl (lv_at hl 1 rfl) ?_
    refine lv_aload_n hx hb dX0_thicknessAt_5 rfl (lv_at hl 0 rfl) ?_
    refine va_get (D := (dC, dI)) (ci := 0) (v := .int 6) (C := RX0) (T := TX0) (N := 10) hx hb hts (by decide +kernel) hown hK hP 0 rfl rfl 1 (by decide) (hts (.fieldLink RX0 28 "ThatchRoof$Roof" "courses" "I") (by decide +kernel)) (fun _ h9 => h9) rfl dX0_thicknessAt_6 ?_
    refine lv_icmp_ge (tgt := 24) hx hb dX0_thicknessAt_9 (by decide) (fun c2 => ?_) (fun c2 => ?_)
    · have nc2 : 6 ≤ cu := (nI_leI (a := 6) (b := cu) (by omega) (by omega)).mp c2
      refine lv_iconst (v := 0) hx hb dX0_thicknessAt_24 (by decide) ?_
      exact W.iret (v := 0) hx hb hr (fun t ht hW => ⟨0, rfl, by (first | rfl | assumption | decide | (simp_all; done) | grind), ht⟩) (fun _ h => nomatch h) dX0_thicknessAt_25
    · have nc2 : cu < 6 := Nat.lt_of_not_le (fun q => c2 ((nI_leI (a := 6) (b := cu) (by omega) (by omega)).mpr q))
      refine lv_iload_n hx hb dX0_thicknessAt_12 rfl (lv_at hl 2 rfl) ?_
      refine lv_if_lt (tgt := 24) hx hb dX0_thicknessAt_13 (by decide) (fun c3 => ?_) (fun c3 => ?_)
      · have nc3 : pl < 0 := (nI_ltI (a := pl) (b := 0) (by omega) (by omega)).mp c3
        refine lv_iconst (v := 0) hx hb dX0_thicknessAt_24 (by decide) ?_
        exact W.iret (v := 0) hx hb hr (fun t ht hW => ⟨0, rfl, by (first | rfl | assumption | decide | (simp_all; done) | grind), ht⟩) (fun _ h => nomatch h) dX0_thicknessAt_25
      · have nc3 : 0 ≤ pl := Nat.le_of_not_lt (fun q => c3 ((nI_ltI (a := pl) (b := 0) (by omega) (by omega)).mpr q))
        refine lv_iload_n hx hb dX0_thicknessAt_16 rfl (lv_at hl 2 rfl) ?_
        refine lv_aload_n hx hb dX0_thicknessAt_17 rfl (lv_at hl 0 rfl) ?_
        refine va_get (D := (dC, dI)) (ci := 0) (v := .int 10) (C := RX0) (T := TX0) (N := 10) hx hb hts (by decide +kernel) hown hK hP 0 rfl rfl 0 (by decide) (hts (.fieldLink RX0 24 "ThatchRoof$Roof" "width" "I") (by decide +kernel)) (fun _ h9 => h9) rfl dX0_thicknessAt_18 ?_
        refine lv_icmp_lt (tgt := 26) hx hb dX0_thicknessAt_21 (by decide) (fun c4 => ?_) (fun c4 => ?_)
        · have nc4 : pl < 10 := (nI_ltI (a := pl) (b := 10) (by omega) (by omega)).mp c4
          refine lv_aload_n hx hb dX0_thicknessAt_26 rfl (lv_at hl 0 rfl) ?_
          refine va_get (D := (dC, dI)) (ci := 0) (v := .ref rt) (C := RX0) (T := TX0) (N := 10) hx hb hts (by decide +kernel) hown hK hP 0 rfl rfl 7 (by decide) (hts (.fieldLink RX0 15 "ThatchRoof$Roof" "thicknesses" "[I") (by decide +kernel)) (fun _ h9 => h9) rfl dX0_thicknessAt_27 ?_
          refine lv_iload_n hx hb dX0_thicknessAt_30 rfl (lv_at hl 1 rfl) ?_
          refine lv_aload_n hx hb dX0_thicknessAt_31 rfl (lv_at hl 0 rfl) ?_
          refine va_get (D := (dC, dI)) (ci := 0) (v := .int 10) (C := RX0) (T := TX0) (N := 10) hx hb hts (by decide +kernel) hown hK hP 0 rfl rfl 0 (by decide) (hts (.fieldLink RX0 24 "ThatchRoof$Roof" "width" "I") (by decide +kernel)) (fun _ h9 => h9) rfl dX0_thicknessAt_32 ?_
          refine lv_imul hx hb dX0_thicknessAt_35 ?_
          refine lv_topi (fun x5 ex5 => ?_)
          obtain rfl : x5 = nI (cu * 10) := ex5.trans (zN_mul cu 10)
          refine lv_iload_n hx hb dX0_thicknessAt_36 rfl (lv_at hl 2 rfl) ?_
          refine lv_iadd hx hb dX0_thicknessAt_37 ?_
          refine lv_topi (fun x6 ex6 => ?_)
          obtain rfl : x6 = nI ((cu * 10) + pl) := ex6.trans (nI_add (cu * 10) pl)
          refine va_iald hx hb hK hP 1 0 rfl rfl (vp_in_nI (by omega) (by omega)) dX0_thicknessAt_38 ?_
          refine lv_topi (fun x7 ex7 => ?_)
          obtain rfl : x7 = 0 := ex7
          exact W.iret (v := 0) hx hb hr (fun t ht hW => ⟨0, rfl, by (first | rfl | assumption | decide | (simp_all; done) | grind), ht⟩) (fun _ h => nomatch h) dX0_thicknessAt_39
        · have nc4 : 10 ≤ pl := Nat.le_of_not_lt (fun q => c4 ((nI_ltI (a := pl) (b := 10) (by omega) (by omega)).mpr q))
          refine lv_iconst (v := 0) hx hb dX0_thicknessAt_24 (by decide) ?_
          exact W.iret (v := 0) hx hb hr (fun t ht hW => ⟨0, rfl, by (first | rfl | assumption | decide | (simp_all; done) | grind), ht⟩) (fun _ h => nomatch h) dX0_thicknessAt_25

set_option maxHeartbeats 4000000 in
set_option maxRecDepth 100000 in
theorem r0_hasYealm (l : Launch) (dC : Nat → ClassId) (dI : Nat → Nat → Nat) (rh : Nat) (rk : Nat) (rt : Nat) (rp : Nat) (rm : Nat) (cT : ClassId) (cu : Nat) (pl : Nat) (hcu : cu < 6) (hpl : pl < 10) : Met l yX0_hasYealm wsX0_hasYealm ({ frames := 1, cells := 0, slots := 0, locals := 22 }) (va_Pc [.ref rh, .int (nI cu), .int (nI pl)] (fun U => va_P (dC, dI) vwCl [(rh, .inr (0, [.int 10, .int 6, .int 30, .int 100, .int 0, .int 0, .ref rk, .ref rt, .ref rp, .ref rm])), (rt, .inl (cT, 60, .inl (fun _ => 0)))] U.heap ∧ va_K (dC, dI) vwCl [(cT, .int)] U)) (vp_Si (fun r : Int32 => r = 0)) 0 0 (fun _ => False) := by
  refine Met.ofW (cc := cX0_hasYealm) (maxL := 3) (ret := (some .boolean)) (by decide) rfl ?_
  intro p e s m args below meth c s₁ B hml hv
  obtain ⟨rfl, hP, hK⟩ := hv
  have hx := B.exec
  have hb := B.bytes
  have hr := B.returns
  have hts := atoms_spec (ws := wsX0_hasYealm) B.pre
  have hown : s.vm.findClass RX0 = some m.cls := findClass_of_methodNamed B.named
  have hlocks := B.notSynchronized
  have hP : va_P (dC, dI) vwCl [(rh, .inr (0, [.int 10, .int 6, .int 30, .int 100, .int 0, .int 0, .ref rk, .ref rt, .ref rp, .ref rm])), (rt, .inl (cT, 60, .inl (fun _ => 0)))] s.heap := hP
  have hl := lv_entry ([.ref rh, .int (nI cu), .int (nI pl)]) (n := 3) (Nat.le_of_ble_eq_true rfl)
  rw [lg_entry_eq]
  generalize (lg_sl ([.ref rh, .int (nI cu), .int (nI pl)]) ++ List.replicate (3 - (lg_sl ([.ref rh, .int (nI cu), .int (nI pl)])).length) Slot.unset).toArray = ls at hl ⊢
  have hl : lv_has ls 3 [(0, .ref rh), (1, .int (nI cu)), (2, .int (nI pl))] := hl
  refine lv_aload_n hx hb dX0_hasYealm_0 rfl (lv_at hl 0 rfl) ?_
  refine lv_iload_n hx hb dX0_hasYealm_1 rfl (lv_at hl 1 rfl) ?_
  refine lv_iload_n hx hb dX0_hasYealm_2 rfl (lv_at hl 2 rfl) ?_
  have hPc := hP.sub (ws' := [(rh, .inr (0, [.int 10, .int 6, .int 30, .int 100, .int 0, .int 0, .ref rk, .ref rt, .ref rp, .ref rm])), (rt, .inl (cT, 60, .inl (fun _ => 0)))]) [0, 1] rfl
  have hKc := hK.sub (tys' := [(cT, .int)]) [0] rfl
  refine vp_callSi (va_runV (As := [.int (nI cu), .int (nI pl)]) (rest := []) ⟨hx, hb, hml, hown, hts⟩ (r0_thicknessAt l dC dI rh rk rt rp rm cT cu pl (by first | assumption | decide | omega) (by first | assumption | decide | omega)) (cwV 2 hts gX0_hasYealm_X0_thicknessAt rfl rfl rfl (by decide +kernel) ⟨Nat.le_of_ble_eq_true rfl, Nat.le_of_ble_eq_true rfl⟩) ⟨fun a U g mk q => by obtain ⟨q0, qP, qK⟩ := q; exact ⟨q0, qP, va_K.moved (u := U) (U := U.calling g mk a) (Vm.Alike.refl U.vm) qK⟩, va_recv hKc hPc (ci := 0) (q0 := 0) rfl rfl, fun U hU hW => ⟨rfl, by rw [hU]; exact hPc, va_K.moved hW.alike hKc⟩⟩ rfl rfl hl.1 rfl (lv_room (Nat.le_of_ble_eq_true rfl)) dX0_hasYealm_3 ⟨Nat.le_of_ble_eq_true rfl, Nat.le_of_ble_eq_true rfl⟩).run (fun r1 hr1 => ?_)
  obtain rfl := hr1
  refine lv_if_le (tgt := 13) hx hb dX0_hasYealm_6 (by decide) (fun c2 => ?_) (fun c2 => absurd c2 (by decide))
  refine lv_iconst (v := 0) hx hb dX0_hasYealm_13 (by decide) ?_
  exact W.zret (v := 0) hx hb hr (by decide) (fun t ht hW => ⟨0, rfl, by (first | rfl | assumption | decide | (simp_all; done) | grind), ht⟩) (fun _ h => nomatch h) dX0_hasYealm_14

set_option maxHeartbeats 4000000 in
set_option maxRecDepth 100000 in
theorem r0_yealms (l : Launch) (dC : Nat → ClassId) (dI : Nat → Nat → Nat) (rh : Nat) (rk : Nat) (rt : Nat) (rp : Nat) (rm : Nat) (cT : ClassId) : Met l yX0_yealms wsX0_yealms ({ frames := 2, cells := 0, slots := 0, locals := 44 }) (va_Pc [.ref rh] (fun U => va_P (dC, dI) vwCl [(rh, .inr (0, [.int 10, .int 6, .int 30, .int 100, .int 0, .int 0, .ref rk, .ref rt, .ref rp, .ref rm])), (rt, .inl (cT, 60, .inl (fun _ => 0)))] U.heap ∧ va_K (dC, dI) vwCl [(cT, .int)] U)) (vp_Si (fun r : Int32 => r = 0)) 0 0 (fun _ => False) := by
  refine Met.ofW (cc := cX0_yealms) (maxL := 4) (ret := (some .int)) (by decide) rfl ?_
  intro p e s m args below meth c s₁ B hml hv
  obtain ⟨rfl, hP, hK⟩ := hv
  have hx := B.exec
  have hb := B.bytes
  have hr := B.returns
  have hts := atoms_spec (ws := wsX0_yealms) B.pre
  have hown : s.vm.findClass RX0 = some m.cls := findClass_of_methodNamed B.named
  have hlocks := B.notSynchronized
  have hP : va_P (dC, dI) vwCl [(rh, .inr (0, [.int 10, .int 6, .int 30, .int 100, .int 0, .int 0, .ref rk, .ref rt, .ref rp, .ref rm])), (rt, .inl (cT, 60, .inl (fun _ => 0)))] s.heap := hP
  have hl := lv_entry ([.ref rh]) (n := 4) (Nat.le_of_ble_eq_true rfl)
  rw [lg_entry_eq]
  generalize (lg_sl ([.ref rh]) ++ List.replicate (4 - (lg_sl ([.ref rh])).length) Slot.unset).toArray = ls at hl ⊢
  have hl : lv_has ls 4 [(0, .ref rh)] := hl
  refine lv_iconst (v := 0) hx hb dX0_yealms_0 (by decide) ?_
  refine lv_istore_n (lv' := [(1, .int 0), (0, .ref rh)]) hx hb dX0_yealms_1 rfl hl (by decide) rfl (fun ls hl => ?_)
  refine lv_iconst (v := 0) hx hb dX0_yealms_2 (by decide) ?_
  refine lv_istore_n (lv' := [(2, .int 0), (1, .int 0), (0, .ref rh)]) hx hb dX0_yealms_3 rfl hl (by decide) rfl (fun ls hl => ?_)
  suffices K4 : ∀ (n : Nat) (i : Nat), (i ≤ 6) → 6 - i < n → ∀ ls : Array Slot, lv_has ls 4 [(0, .ref rh), (1, .int 0), (2, .int (nI i))] → W p l e ({ frames := 2, cells := 0, slots := 0, locals := 44 } : Room) s m (([.ref rh] : List Value).toArray) below meth c s.heap [] 0 0 (MQ below (vp_Si (fun r : Int32 => r = 0)) (([.ref rh] : List Value).toArray) s 0 0 (fun _ => False)) (F0 m 4 ls []) from
    K4 _ 0 (by decide) (Nat.lt_succ_self _) _ (lv_sub hl [2, 1, 0] rfl)
  intro n
  induction n with
  | zero =>
    intro i hi hn
    exact absurd hn (Nat.not_lt_zero _)
  | succ n ih4 =>
    intro i hi hn4 ls hl
    refine lv_iload_n hx hb dX0_yealms_4 rfl (lv_at hl 2 rfl) ?_
    refine lv_aload_n hx hb dX0_yealms_5 rfl (lv_at hl 0 rfl) ?_
    refine va_get (D := (dC, dI)) (ci := 0) (v := .int 6) (C := RX0) (T := TX0) (N := 10) hx hb hts (by decide +kernel) hown hK hP 0 rfl rfl 1 (by decide) (hts (.fieldLink RX0 28 "ThatchRoof$Roof" "courses" "I") (by decide +kernel)) (fun _ h9 => h9) rfl dX0_yealms_6 ?_
    refine lv_icmp_ge (tgt := 46) hx hb dX0_yealms_9 (by decide) (fun c1 => ?_) (fun c1 => ?_)
    · have nc1 : 6 ≤ i := (nI_leI (a := 6) (b := i) (by omega) (by omega)).mp c1
      refine lv_iload_n hx hb dX0_yealms_46 rfl (lv_at hl 1 rfl) ?_
      exact W.iret (v := 0) hx hb hr (fun t ht hW => ⟨0, rfl, by (first | rfl | assumption | decide | (simp_all; done) | grind), ht⟩) (fun _ h => nomatch h) dX0_yealms_47
    · have nc1 : i < 6 := Nat.lt_of_not_le (fun q => c1 ((nI_leI (a := 6) (b := i) (by omega) (by omega)).mpr q))
      refine lv_iconst (v := 0) hx hb dX0_yealms_12 (by decide) ?_
      refine lv_istore_n (lv' := [(3, .int 0), (0, .ref rh), (1, .int 0), (2, .int (nI i))]) hx hb dX0_yealms_13 rfl hl (by decide) rfl (fun ls hl => ?_)
      suffices K14 : ∀ (n : Nat) (j : Nat), (j ≤ 10) → 10 - j < n → ∀ ls : Array Slot, lv_has ls 4 [(0, .ref rh), (1, .int 0), (2, .int (nI i)), (3, .int (nI j))] → W p l e ({ frames := 2, cells := 0, slots := 0, locals := 44 } : Room) s m (([.ref rh] : List Value).toArray) below meth c s.heap [] 0 0 (MQ below (vp_Si (fun r : Int32 => r = 0)) (([.ref rh] : List Value).toArray) s 0 0 (fun _ => False)) (F0 m 14 ls []) from
        K14 _ 0 (by decide) (Nat.lt_succ_self _) _ (lv_sub hl [1, 2, 3, 0] rfl)
      intro n
      induction n with
      | zero =>
        intro j hj hn
        exact absurd hn (Nat.not_lt_zero _)
      | succ n ih14 =>
        intro j hj hn14 ls hl
        refine lv_iload_n hx hb dX0_yealms_14 rfl (lv_at hl 3 rfl) ?_
        refine lv_aload_n hx hb dX0_yealms_15 rfl (lv_at hl 0 rfl) ?_
        refine va_get (D := (dC, dI)) (ci := 0) (v := .int 10) (C := RX0) (T := TX0) (N := 10) hx hb hts (by decide +kernel) hown hK hP 0 rfl rfl 0 (by decide) (hts (.fieldLink RX0 24 "ThatchRoof$Roof" "width" "I") (by decide +kernel)) (fun _ h9 => h9) rfl dX0_yealms_16 ?_
        refine lv_icmp_ge (tgt := 40) hx hb dX0_yealms_19 (by decide) (fun c2 => ?_) (fun c2 => ?_)
        · have nc2 : 10 ≤ j := (nI_leI (a := 10) (b := j) (by omega) (by omega)).mp c2
          refine lv_iinc (v := nI (i + 1)) (lv' := [(2, .int (nI (i + 1))), (0, .ref rh), (1, .int 0), (3, .int (nI j))]) hx hb dX0_yealms_40 hl (k := 2) rfl (by exact nI_1 i) (by decide) rfl (fun ls hl => ?_)
          refine lv_goto (tgt := 4) hx hb dX0_yealms_43 (by decide) ?_
          exact ih4 (i + 1) (by omega) (by omega) _ (lv_sub hl [1, 2, 0] rfl)
        · have nc2 : j < 10 := Nat.lt_of_not_le (fun q => c2 ((nI_leI (a := 10) (b := j) (by omega) (by omega)).mpr q))
          refine lv_aload_n hx hb dX0_yealms_22 rfl (lv_at hl 0 rfl) ?_
          refine lv_iload_n hx hb dX0_yealms_23 rfl (lv_at hl 2 rfl) ?_
          refine lv_iload_n hx hb dX0_yealms_24 rfl (lv_at hl 3 rfl) ?_
          have hPc := hP.sub (ws' := [(rh, .inr (0, [.int 10, .int 6, .int 30, .int 100, .int 0, .int 0, .ref rk, .ref rt, .ref rp, .ref rm])), (rt, .inl (cT, 60, .inl (fun _ => 0)))]) [0, 1] rfl
          have hKc := hK.sub (tys' := [(cT, .int)]) [0] rfl
          refine vp_callSi (va_runV (As := [.int (nI i), .int (nI j)]) (rest := []) ⟨hx, hb, hml, hown, hts⟩ (r0_hasYealm l dC dI rh rk rt rp rm cT i j (by first | assumption | decide | omega) (by first | assumption | decide | omega)) (cwV 2 hts gX0_yealms_X0_hasYealm rfl rfl rfl (by decide +kernel) ⟨Nat.le_of_ble_eq_true rfl, Nat.le_of_ble_eq_true rfl⟩) ⟨fun a U g mk q => by obtain ⟨q0, qP, qK⟩ := q; exact ⟨q0, qP, va_K.moved (u := U) (U := U.calling g mk a) (Vm.Alike.refl U.vm) qK⟩, va_recv hKc hPc (ci := 0) (q0 := 0) rfl rfl, fun U hU hW => ⟨rfl, by rw [hU]; exact hPc, va_K.moved hW.alike hKc⟩⟩ rfl rfl hl.1 rfl (lv_room (Nat.le_of_ble_eq_true rfl)) dX0_yealms_25 ⟨Nat.le_of_ble_eq_true rfl, Nat.le_of_ble_eq_true rfl⟩).run (fun r3 hr3 => ?_)
          obtain rfl := hr3
          refine lv_if_eq (tgt := 34) hx hb dX0_yealms_28 (by decide) (fun c4 => ?_) (fun c4 => absurd c4 (by decide))
          refine lv_iinc (v := nI (j + 1)) (lv' := [(3, .int (nI (j + 1))), (0, .ref rh), (1, .int 0), (2, .int (nI i))]) hx hb dX0_yealms_34 hl (k := 3) rfl (by exact nI_1 j) (by decide) rfl (fun ls hl => ?_)
          refine lv_goto (tgt := 14) hx hb dX0_yealms_37 (by decide) ?_
          exact ih14 (j + 1) (by omega) (by omega) _ (lv_sub hl [1, 2, 3, 0] rfl)

set_option maxHeartbeats 4000000 in
set_option maxRecDepth 100000 in
theorem r0_thicknessOver (l : Launch) (dC : Nat → ClassId) (dI : Nat → Nat → Nat) (rh : Nat) (rk : Nat) (rt : Nat) (rp : Nat) (rm : Nat) (cT : ClassId) (pl : Nat) (hpl : pl < 10) : Met l yX0_thicknessOver wsX0_thicknessOver ({ frames := 1, cells := 0, slots := 0, locals := 22 }) (va_Pc [.ref rh, .int (nI pl)] (fun U => va_P (dC, dI) vwCl [(rh, .inr (0, [.int 10, .int 6, .int 30, .int 100, .int 0, .int 0, .ref rk, .ref rt, .ref rp, .ref rm])), (rt, .inl (cT, 60, .inl (fun _ => 0)))] U.heap ∧ va_K (dC, dI) vwCl [(cT, .int)] U)) (vp_Si (fun r : Int32 => r = 0)) 0 0 (fun _ => False) := by
  refine Met.ofW (cc := cX0_thicknessOver) (maxL := 4) (ret := (some .int)) (by decide) rfl ?_
  intro p e s m args below meth c s₁ B hml hv
  obtain ⟨rfl, hP, hK⟩ := hv
  have hx := B.exec
  have hb := B.bytes
  have hr := B.returns
  have hts := atoms_spec (ws := wsX0_thicknessOver) B.pre
  have hown : s.vm.findClass RX0 = some m.cls := findClass_of_methodNamed B.named
  have hlocks := B.notSynchronized
  have hP : va_P (dC, dI) vwCl [(rh, .inr (0, [.int 10, .int 6, .int 30, .int 100, .int 0, .int 0, .ref rk, .ref rt, .ref rp, .ref rm])), (rt, .inl (cT, 60, .inl (fun _ => 0)))] s.heap := hP
  have hl := lv_entry ([.ref rh, .int (nI pl)]) (n := 4) (Nat.le_of_ble_eq_true rfl)
  rw [lg_entry_eq]
  generalize (lg_sl ([.ref rh, .int (nI pl)]) ++ List.replicate (4 - (lg_sl ([.ref rh, .int (nI pl)])).length) Slot.unset).toArray = ls at hl ⊢
  have hl : lv_has ls 4 [(0, .ref rh), (1, .int (nI pl))] := hl
  refine lv_iconst (v := 0) hx hb dX0_thicknessOver_0 (by decide) ?_
  refine lv_istore_n (lv' := [(2, .int 0), (0, .ref rh), (1, .int (nI pl))]) hx hb dX0_thicknessOver_1 rfl hl (by decide) rfl (fun ls hl => ?_)
  refine lv_iconst (v := 0) hx hb dX0_thicknessOver_2 (by decide) ?_
  refine lv_istore_n (lv' := [(3, .int 0), (2, .int 0), (0, .ref rh), (1, .int (nI pl))]) hx hb dX0_thicknessOver_3 rfl hl (by decide) rfl (fun ls hl => ?_)
  suffices K4 : ∀ (n : Nat) (i : Nat), (i ≤ 6) → 6 - i < n → ∀ ls : Array Slot, lv_has ls 4 [(0, .ref rh), (1, .int (nI pl)), (2, .int 0), (3, .int (nI i))] → W p l e ({ frames := 1, cells := 0, slots := 0, locals := 22 } : Room) s m (([.ref rh, .int (nI pl)] : List Value).toArray) below meth c s.heap [] 0 0 (MQ below (vp_Si (fun r : Int32 => r = 0)) (([.ref rh, .int (nI pl)] : List Value).toArray) s 0 0 (fun _ => False)) (F0 m 4 ls []) from
    K4 _ 0 (by decide) (Nat.lt_succ_self _) _ (lv_sub hl [2, 3, 1, 0] rfl)
  intro n
  induction n with
  | zero =>
    intro i hi hn
    exact absurd hn (Nat.not_lt_zero _)
  | succ n ih4 =>
    intro i hi hn4 ls hl
    refine lv_iload_n hx hb dX0_thicknessOver_4 rfl (lv_at hl 3 rfl) ?_
    refine lv_aload_n hx hb dX0_thicknessOver_5 rfl (lv_at hl 0 rfl) ?_
    refine va_get (D := (dC, dI)) (ci := 0) (v := .int 6) (C := RX0) (T := TX0) (N := 10) hx hb hts (by decide +kernel) hown hK hP 0 rfl rfl 1 (by decide) (hts (.fieldLink RX0 28 "ThatchRoof$Roof" "courses" "I") (by decide +kernel)) (fun _ h9 => h9) rfl dX0_thicknessOver_6 ?_
    refine lv_icmp_ge (tgt := 27) hx hb dX0_thicknessOver_9 (by decide) (fun c1 => ?_) (fun c1 => ?_)
    · have nc1 : 6 ≤ i := (nI_leI (a := 6) (b := i) (by omega) (by omega)).mp c1
      refine lv_iload_n hx hb dX0_thicknessOver_27 rfl (lv_at hl 2 rfl) ?_
      exact W.iret (v := 0) hx hb hr (fun t ht hW => ⟨0, rfl, by (first | rfl | assumption | decide | (simp_all; done) | grind), ht⟩) (fun _ h => nomatch h) dX0_thicknessOver_28
    · have nc1 : i < 6 := Nat.lt_of_not_le (fun q => c1 ((nI_leI (a := 6) (b := i) (by omega) (by omega)).mpr q))
      refine lv_iload_n hx hb dX0_thicknessOver_12 rfl (lv_at hl 2 rfl) ?_
      refine lv_aload_n hx hb dX0_thicknessOver_13 rfl (lv_at hl 0 rfl) ?_
      refine lv_iload_n hx hb dX0_thicknessOver_14 rfl (lv_at hl 3 rfl) ?_
      refine lv_iload_n hx hb dX0_thicknessOver_15 rfl (lv_at hl 1 rfl) ?_
      have hPc := hP.sub (ws' := [(rh, .inr (0, [.int 10, .int 6, .int 30, .int 100, .int 0, .int 0, .ref rk, .ref rt, .ref rp, .ref rm])), (rt, .inl (cT, 60, .inl (fun _ => 0)))]) [0, 1] rfl
      have hKc := hK.sub (tys' := [(cT, .int)]) [0] rfl
      refine vp_callSi (va_runV (As := [.int (nI i), .int (nI pl)]) (rest := [.int 0]) ⟨hx, hb, hml, hown, hts⟩ (r0_thicknessAt l dC dI rh rk rt rp rm cT i pl (by first | assumption | decide | omega) (by first | assumption | decide | omega)) (cwV 2 hts gX0_thicknessOver_X0_thicknessAt rfl rfl rfl (by decide +kernel) ⟨Nat.le_of_ble_eq_true rfl, Nat.le_of_ble_eq_true rfl⟩) ⟨fun a U g mk q => by obtain ⟨q0, qP, qK⟩ := q; exact ⟨q0, qP, va_K.moved (u := U) (U := U.calling g mk a) (Vm.Alike.refl U.vm) qK⟩, va_recv hKc hPc (ci := 0) (q0 := 0) rfl rfl, fun U hU hW => ⟨rfl, by rw [hU]; exact hPc, va_K.moved hW.alike hKc⟩⟩ rfl rfl hl.1 rfl (lv_room (Nat.le_of_ble_eq_true rfl)) dX0_thicknessOver_16 ⟨Nat.le_of_ble_eq_true rfl, Nat.le_of_ble_eq_true rfl⟩).run (fun r2 hr2 => ?_)
      obtain rfl := hr2
      refine lv_iadd hx hb dX0_thicknessOver_19 ?_
      refine W.eq (g2 := F0 m 20 ls [.int 0]) rfl ?_
      refine lv_istore_n (lv' := [(2, .int 0), (0, .ref rh), (1, .int (nI pl)), (3, .int (nI i))]) hx hb dX0_thicknessOver_20 rfl hl (by decide) rfl (fun ls hl => ?_)
      refine lv_iinc (v := nI (i + 1)) (lv' := [(3, .int (nI (i + 1))), (2, .int 0), (0, .ref rh), (1, .int (nI pl))]) hx hb dX0_thicknessOver_21 hl (k := 3) rfl (by exact nI_1 i) (by decide) rfl (fun ls hl => ?_)
      refine lv_goto (tgt := 4) hx hb dX0_thicknessOver_24 (by decide) ?_
      exact ih4 (i + 1) (by omega) (by omega) _ (lv_sub hl [2, 3, 1, 0] rfl)

set_option maxHeartbeats 4000000 in
set_option maxRecDepth 100000 in
theorem r0_thicknessInAll (l : Launch) (dC : Nat → ClassId) (dI : Nat → Nat → Nat) (rh : Nat) (rk : Nat) (rt : Nat) (rp : Nat) (rm : Nat) (cT : ClassId) : Met l yX0_thicknessInAll wsX0_thicknessInAll ({ frames := 2, cells := 0, slots := 0, locals := 45 }) (va_Pc [.ref rh] (fun U => va_P (dC, dI) vwCl [(rh, .inr (0, [.int 10, .int 6, .int 30, .int 100, .int 0, .int 0, .ref rk, .ref rt, .ref rp, .ref rm])), (rt, .inl (cT, 60, .inl (fun _ => 0)))] U.heap ∧ va_K (dC, dI) vwCl [(cT, .int)] U)) (vp_Si (fun r : Int32 => r = 0)) 0 0 (fun _ => False) := by
  refine Met.ofW (cc := cX0_thicknessInAll) (maxL := 3) (ret := (some .int)) (by decide) rfl ?_
  intro p e s m args below meth c s₁ B hml hv
  obtain ⟨rfl, hP, hK⟩ := hv
  have hx := B.exec
  have hb := B.bytes
  have hr := B.returns
  have hts := atoms_spec (ws := wsX0_thicknessInAll) B.pre
  have hown : s.vm.findClass RX0 = some m.cls := findClass_of_methodNamed B.named
  have hlocks := B.notSynchronized
  have hP : va_P (dC, dI) vwCl [(rh, .inr (0, [.int 10, .int 6, .int 30, .int 100, .int 0, .int 0, .ref rk, .ref rt, .ref rp, .ref rm])), (rt, .inl (cT, 60, .inl (fun _ => 0)))] s.heap := hP
  have hl := lv_entry ([.ref rh]) (n := 3) (Nat.le_of_ble_eq_true rfl)
  rw [lg_entry_eq]
  generalize (lg_sl ([.ref rh]) ++ List.replicate (3 - (lg_sl ([.ref rh])).length) Slot.unset).toArray = ls at hl ⊢
  have hl : lv_has ls 3 [(0, .ref rh)] := hl
  refine lv_iconst (v := 0) hx hb dX0_thicknessInAll_0 (by decide) ?_
  refine lv_istore_n (lv' := [(1, .int 0), (0, .ref rh)]) hx hb dX0_thicknessInAll_1 rfl hl (by decide) rfl (fun ls hl => ?_)
  refine lv_iconst (v := 0) hx hb dX0_thicknessInAll_2 (by decide) ?_
  refine lv_istore_n (lv' := [(2, .int 0), (1, .int 0), (0, .ref rh)]) hx hb dX0_thicknessInAll_3 rfl hl (by decide) rfl (fun ls hl => ?_)
  suffices K4 : ∀ (n : Nat) (j : Nat), (j ≤ 10) → 10 - j < n → ∀ ls : Array Slot, lv_has ls 3 [(0, .ref rh), (1, .int 0), (2, .int (nI j))] → W p l e ({ frames := 2, cells := 0, slots := 0, locals := 45 } : Room) s m (([.ref rh] : List Value).toArray) below meth c s.heap [] 0 0 (MQ below (vp_Si (fun r : Int32 => r = 0)) (([.ref rh] : List Value).toArray) s 0 0 (fun _ => False)) (F0 m 4 ls []) from
    K4 _ 0 (by decide) (Nat.lt_succ_self _) _ (lv_sub hl [2, 1, 0] rfl)
  intro n
  induction n with
  | zero =>
    intro j hj hn
    exact absurd hn (Nat.not_lt_zero _)
  | succ n ih4 =>
    intro j hj hn4 ls hl
    refine lv_iload_n hx hb dX0_thicknessInAll_4 rfl (lv_at hl 2 rfl) ?_
    refine lv_aload_n hx hb dX0_thicknessInAll_5 rfl (lv_at hl 0 rfl) ?_
    refine va_get (D := (dC, dI)) (ci := 0) (v := .int 10) (C := RX0) (T := TX0) (N := 10) hx hb hts (by decide +kernel) hown hK hP 0 rfl rfl 0 (by decide) (hts (.fieldLink RX0 24 "ThatchRoof$Roof" "width" "I") (by decide +kernel)) (fun _ h9 => h9) rfl dX0_thicknessInAll_6 ?_
    refine lv_icmp_ge (tgt := 26) hx hb dX0_thicknessInAll_9 (by decide) (fun c1 => ?_) (fun c1 => ?_)
    · have nc1 : 10 ≤ j := (nI_leI (a := 10) (b := j) (by omega) (by omega)).mp c1
      refine lv_iload_n hx hb dX0_thicknessInAll_26 rfl (lv_at hl 1 rfl) ?_
      exact W.iret (v := 0) hx hb hr (fun t ht hW => ⟨0, rfl, by (first | rfl | assumption | decide | (simp_all; done) | grind), ht⟩) (fun _ h => nomatch h) dX0_thicknessInAll_27
    · have nc1 : j < 10 := Nat.lt_of_not_le (fun q => c1 ((nI_leI (a := 10) (b := j) (by omega) (by omega)).mpr q))
      refine lv_iload_n hx hb dX0_thicknessInAll_12 rfl (lv_at hl 1 rfl) ?_
      refine lv_aload_n hx hb dX0_thicknessInAll_13 rfl (lv_at hl 0 rfl) ?_
      refine lv_iload_n hx hb dX0_thicknessInAll_14 rfl (lv_at hl 2 rfl) ?_
      have hPc := hP.sub (ws' := [(rh, .inr (0, [.int 10, .int 6, .int 30, .int 100, .int 0, .int 0, .ref rk, .ref rt, .ref rp, .ref rm])), (rt, .inl (cT, 60, .inl (fun _ => 0)))]) [0, 1] rfl
      have hKc := hK.sub (tys' := [(cT, .int)]) [0] rfl
      refine vp_callSi (va_runV (As := [.int (nI j)]) (rest := [.int 0]) ⟨hx, hb, hml, hown, hts⟩ (r0_thicknessOver l dC dI rh rk rt rp rm cT j (by first | assumption | decide | omega)) (cwV 1 hts gX0_thicknessInAll_X0_thicknessOver rfl rfl rfl (by decide +kernel) ⟨Nat.le_of_ble_eq_true rfl, Nat.le_of_ble_eq_true rfl⟩) ⟨fun a U g mk q => by obtain ⟨q0, qP, qK⟩ := q; exact ⟨q0, qP, va_K.moved (u := U) (U := U.calling g mk a) (Vm.Alike.refl U.vm) qK⟩, va_recv hKc hPc (ci := 0) (q0 := 0) rfl rfl, fun U hU hW => ⟨rfl, by rw [hU]; exact hPc, va_K.moved hW.alike hKc⟩⟩ rfl rfl hl.1 rfl (lv_room (Nat.le_of_ble_eq_true rfl)) dX0_thicknessInAll_15 ⟨Nat.le_of_ble_eq_true rfl, Nat.le_of_ble_eq_true rfl⟩).run (fun r2 hr2 => ?_)
      obtain rfl := hr2
      refine lv_iadd hx hb dX0_thicknessInAll_18 ?_
      refine W.eq (g2 := F0 m 19 ls [.int 0]) rfl ?_
      refine lv_istore_n (lv' := [(1, .int 0), (0, .ref rh), (2, .int (nI j))]) hx hb dX0_thicknessInAll_19 rfl hl (by decide) rfl (fun ls hl => ?_)
      refine lv_iinc (v := nI (j + 1)) (lv' := [(2, .int (nI (j + 1))), (1, .int 0), (0, .ref rh)]) hx hb dX0_thicknessInAll_20 hl (k := 2) rfl (by exact nI_1 j) (by decide) rfl (fun ls hl => ?_)
      refine lv_goto (tgt := 4) hx hb dX0_thicknessInAll_23 (by decide) ?_
      exact ih4 (j + 1) (by omega) (by omega) _ (lv_sub hl [2, 1, 0] rfl)

set_option maxHeartbeats 4000000 in
set_option maxRecDepth 100000 in
theorem r0_leaks (l : Launch) (dC : Nat → ClassId) (dI : Nat → Nat → Nat) (rh : Nat) (rk : Nat) (rt : Nat) (rp : Nat) (rm : Nat) (cT : ClassId) : Met l yX0_leaks wsX0_leaks ({ frames := 2, cells := 0, slots := 0, locals := 45 }) (va_Pc [.ref rh] (fun U => va_P (dC, dI) vwCl [(rh, .inr (0, [.int 10, .int 6, .int 30, .int 100, .int 0, .int 0, .ref rk, .ref rt, .ref rp, .ref rm])), (rt, .inl (cT, 60, .inl (fun _ => 0)))] U.heap ∧ va_K (dC, dI) vwCl [(cT, .int)] U)) (vp_Si (fun r : Int32 => r = 10)) 0 0 (fun _ => False) := by
  refine Met.ofW (cc := cX0_leaks) (maxL := 3) (ret := (some .int)) (by decide) rfl ?_
  intro p e s m args below meth c s₁ B hml hv
  obtain ⟨rfl, hP, hK⟩ := hv
  have hx := B.exec
  have hb := B.bytes
  have hr := B.returns
  have hts := atoms_spec (ws := wsX0_leaks) B.pre
  have hown : s.vm.findClass RX0 = some m.cls := findClass_of_methodNamed B.named
  have hlocks := B.notSynchronized
  have hP : va_P (dC, dI) vwCl [(rh, .inr (0, [.int 10, .int 6, .int 30, .int 100, .int 0, .int 0, .ref rk, .ref rt, .ref rp, .ref rm])), (rt, .inl (cT, 60, .inl (fun _ => 0)))] s.heap := hP
  have hl := lv_entry ([.ref rh]) (n := 3) (Nat.le_of_ble_eq_true rfl)
  rw [lg_entry_eq]
  generalize (lg_sl ([.ref rh]) ++ List.replicate (3 - (lg_sl ([.ref rh])).length) Slot.unset).toArray = ls at hl ⊢
  have hl : lv_has ls 3 [(0, .ref rh)] := hl
  refine lv_iconst (v := 0) hx hb dX0_leaks_0 (by decide) ?_
  refine lv_istore_n (lv' := [(1, .int 0), (0, .ref rh)]) hx hb dX0_leaks_1 rfl hl (by decide) rfl (fun ls hl => ?_)
  refine lv_iconst (v := 0) hx hb dX0_leaks_2 (by decide) ?_
  refine lv_istore_n (lv' := [(2, .int 0), (1, .int 0), (0, .ref rh)]) hx hb dX0_leaks_3 rfl hl (by decide) rfl (fun ls hl => ?_)
  suffices K4 : ∀ (n : Nat) (j : Nat), (j ≤ 10) → 10 - j < n → ∀ ls : Array Slot, lv_has ls 3 [(0, .ref rh), (1, .int (nI j)), (2, .int (nI j))] → W p l e ({ frames := 2, cells := 0, slots := 0, locals := 45 } : Room) s m (([.ref rh] : List Value).toArray) below meth c s.heap [] 0 0 (MQ below (vp_Si (fun r : Int32 => r = 10)) (([.ref rh] : List Value).toArray) s 0 0 (fun _ => False)) (F0 m 4 ls []) from
    K4 _ 0 (by decide) (Nat.lt_succ_self _) _ (lv_sub hl [2, 1, 0] rfl)
  intro n
  induction n with
  | zero =>
    intro j hj hn
    exact absurd hn (Nat.not_lt_zero _)
  | succ n ih4 =>
    intro j hj hn4 ls hl
    refine lv_iload_n hx hb dX0_leaks_4 rfl (lv_at hl 2 rfl) ?_
    refine lv_aload_n hx hb dX0_leaks_5 rfl (lv_at hl 0 rfl) ?_
    refine va_get (D := (dC, dI)) (ci := 0) (v := .int 10) (C := RX0) (T := TX0) (N := 10) hx hb hts (by decide +kernel) hown hK hP 0 rfl rfl 0 (by decide) (hts (.fieldLink RX0 24 "ThatchRoof$Roof" "width" "I") (by decide +kernel)) (fun _ h9 => h9) rfl dX0_leaks_6 ?_
    refine lv_icmp_ge (tgt := 50) hx hb dX0_leaks_9 (by decide) (fun c1 => ?_) (fun c1 => ?_)
    · have nc1 : 10 ≤ j := (nI_leI (a := 10) (b := j) (by omega) (by omega)).mp c1
      refine lv_iload_n hx hb dX0_leaks_50 rfl (lv_at hl 1 rfl) ?_
      exact W.iret (v := nI j) hx hb hr (fun t ht hW => ⟨nI j, rfl, by have h9 : j = 10 := (by omega); subst h9; rfl, ht⟩) (fun _ h => nomatch h) dX0_leaks_51
    · have nc1 : j < 10 := Nat.lt_of_not_le (fun q => c1 ((nI_leI (a := 10) (b := j) (by omega) (by omega)).mpr q))
      refine lv_aload_n hx hb dX0_leaks_12 rfl (lv_at hl 0 rfl) ?_
      refine lv_iload_n hx hb dX0_leaks_13 rfl (lv_at hl 2 rfl) ?_
      have hPc := hP.sub (ws' := [(rh, .inr (0, [.int 10, .int 6, .int 30, .int 100, .int 0, .int 0, .ref rk, .ref rt, .ref rp, .ref rm])), (rt, .inl (cT, 60, .inl (fun _ => 0)))]) [0, 1] rfl
      have hKc := hK.sub (tys' := [(cT, .int)]) [0] rfl
      refine vp_callSi (va_runV (As := [.int (nI j)]) (rest := []) ⟨hx, hb, hml, hown, hts⟩ (r0_thicknessOver l dC dI rh rk rt rp rm cT j (by first | assumption | decide | omega)) (cwV 1 hts gX0_leaks_X0_thicknessOver rfl rfl rfl (by decide +kernel) ⟨Nat.le_of_ble_eq_true rfl, Nat.le_of_ble_eq_true rfl⟩) ⟨fun a U g mk q => by obtain ⟨q0, qP, qK⟩ := q; exact ⟨q0, qP, va_K.moved (u := U) (U := U.calling g mk a) (Vm.Alike.refl U.vm) qK⟩, va_recv hKc hPc (ci := 0) (q0 := 0) rfl rfl, fun U hU hW => ⟨rfl, by rw [hU]; exact hPc, va_K.moved hW.alike hKc⟩⟩ rfl rfl hl.1 rfl (lv_room (Nat.le_of_ble_eq_true rfl)) dX0_leaks_14 ⟨Nat.le_of_ble_eq_true rfl, Nat.le_of_ble_eq_true rfl⟩).run (fun r2 hr2 => ?_)
      obtain rfl := hr2
      refine lv_bipush (v := 8) hx hb dX0_leaks_17 (by decide) ?_
      refine lv_aload_n hx hb dX0_leaks_19 rfl (lv_at hl 0 rfl) ?_
      refine va_get (D := (dC, dI)) (ci := 0) (v := .int 6) (C := RX0) (T := TX0) (N := 10) hx hb hts (by decide +kernel) hown hK hP 0 rfl rfl 1 (by decide) (hts (.fieldLink RX0 28 "ThatchRoof$Roof" "courses" "I") (by decide +kernel)) (fun _ h9 => h9) rfl dX0_leaks_20 ?_
      refine lv_imul hx hb dX0_leaks_23 ?_
      refine W.eq (g2 := F0 m 24 ls [.int 48, .int 0]) rfl ?_
      refine lv_icmp_lt (tgt := 41) hx hb dX0_leaks_24 (by decide) (fun c3 => ?_) (fun c3 => absurd c3 (by decide))
      refine lv_iinc (v := nI (j + 1)) (lv' := [(1, .int (nI (j + 1))), (0, .ref rh), (2, .int (nI j))]) hx hb dX0_leaks_41 hl (k := 1) rfl (by exact nI_1 j) (by decide) rfl (fun ls hl => ?_)
      refine lv_iinc (v := nI (j + 1)) (lv' := [(2, .int (nI (j + 1))), (1, .int (nI (j + 1))), (0, .ref rh)]) hx hb dX0_leaks_44 hl (k := 2) rfl (by exact nI_1 j) (by decide) rfl (fun ls hl => ?_)
      refine lv_goto (tgt := 4) hx hb dX0_leaks_47 (by decide) ?_
      exact ih4 (j + 1) (by omega) (by omega) _ (lv_sub hl [2, 1, 0] rfl)

set_option maxHeartbeats 4000000 in
set_option maxRecDepth 100000 in
theorem r0_tell0 (l : Launch) (dC : Nat → ClassId) (dI : Nat → Nat → Nat) (rh : Nat) (rk : Nat) (rt : Nat) (rp : Nat) (rm : Nat) (cT : ClassId) : Met l yX0_tell wsX0_tell ({ frames := 0, cells := 0, slots := 0, locals := 0 }) (va_Pc [.ref rh, .int 0] (fun U => va_P (dC, dI) vwCl [(rh, .inr (0, [.int 10, .int 6, .int 30, .int 100, .int 0, .int 0, .ref rk, .ref rt, .ref rp, .ref rm])), (rt, .inl (cT, 60, .inl (fun _ => 0)))] U.heap ∧ va_K (dC, dI) vwCl [(cT, .int)] U)) (vp_Si (fun r : Int32 => r = 10)) 0 0 (fun _ => False) := by
  refine Met.ofW (cc := cX0_tell) (maxL := 2) (ret := (some .int)) (by decide) rfl ?_
  intro p e s m args below meth c s₁ B hml hv
  obtain ⟨rfl, hP, hK⟩ := hv
  have hx := B.exec
  have hb := B.bytes
  have hr := B.returns
  have hts := atoms_spec (ws := wsX0_tell) B.pre
  have hown : s.vm.findClass RX0 = some m.cls := findClass_of_methodNamed B.named
  have hlocks := B.notSynchronized
  have hP : va_P (dC, dI) vwCl [(rh, .inr (0, [.int 10, .int 6, .int 30, .int 100, .int 0, .int 0, .ref rk, .ref rt, .ref rp, .ref rm])), (rt, .inl (cT, 60, .inl (fun _ => 0)))] s.heap := hP
  have hl := lv_entry ([.ref rh, .int 0]) (n := 2) (Nat.le_of_ble_eq_true rfl)
  rw [lg_entry_eq]
  generalize (lg_sl ([.ref rh, .int 0]) ++ List.replicate (2 - (lg_sl ([.ref rh, .int 0])).length) Slot.unset).toArray = ls at hl ⊢
  have hl : lv_has ls 2 [(0, .ref rh), (1, .int 0)] := hl
  refine lv_iload_n hx hb dX0_tell_0 rfl (lv_at hl 1 rfl) ?_
  refine lv_tableIn (off := 47) (tgt := 48) hx hb dX0_tell_1 (by decide) (by decide) (by rfl) (by decide) ?_
  refine lv_aload_n hx hb dX0_tell_48 rfl (lv_at hl 0 rfl) ?_
  refine va_get (D := (dC, dI)) (ci := 0) (v := .int 10) (C := RX0) (T := TX0) (N := 10) hx hb hts (by decide +kernel) hown hK hP 0 rfl rfl 0 (by decide) (hts (.fieldLink RX0 24 "ThatchRoof$Roof" "width" "I") (by decide +kernel)) (fun _ h9 => h9) rfl dX0_tell_49 ?_
  exact W.iret (v := 10) hx hb hr (fun t ht hW => ⟨10, rfl, by (first | rfl | assumption | decide | (simp_all; done) | grind), ht⟩) (fun _ h => nomatch h) dX0_tell_52

set_option maxHeartbeats 4000000 in
set_option maxRecDepth 100000 in
theorem r0_tell1 (l : Launch) (dC : Nat → ClassId) (dI : Nat → Nat → Nat) (rh : Nat) (rk : Nat) (rt : Nat) (rp : Nat) (rm : Nat) (cT : ClassId) : Met l yX0_tell wsX0_tell ({ frames := 0, cells := 0, slots := 0, locals := 0 }) (va_Pc [.ref rh, .int 1] (fun U => va_P (dC, dI) vwCl [(rh, .inr (0, [.int 10, .int 6, .int 30, .int 100, .int 0, .int 0, .ref rk, .ref rt, .ref rp, .ref rm])), (rt, .inl (cT, 60, .inl (fun _ => 0)))] U.heap ∧ va_K (dC, dI) vwCl [(cT, .int)] U)) (vp_Si (fun r : Int32 => r = 6)) 0 0 (fun _ => False) := by
  refine Met.ofW (cc := cX0_tell) (maxL := 2) (ret := (some .int)) (by decide) rfl ?_
  intro p e s m args below meth c s₁ B hml hv
  obtain ⟨rfl, hP, hK⟩ := hv
  have hx := B.exec
  have hb := B.bytes
  have hr := B.returns
  have hts := atoms_spec (ws := wsX0_tell) B.pre
  have hown : s.vm.findClass RX0 = some m.cls := findClass_of_methodNamed B.named
  have hlocks := B.notSynchronized
  have hP : va_P (dC, dI) vwCl [(rh, .inr (0, [.int 10, .int 6, .int 30, .int 100, .int 0, .int 0, .ref rk, .ref rt, .ref rp, .ref rm])), (rt, .inl (cT, 60, .inl (fun _ => 0)))] s.heap := hP
  have hl := lv_entry ([.ref rh, .int 1]) (n := 2) (Nat.le_of_ble_eq_true rfl)
  rw [lg_entry_eq]
  generalize (lg_sl ([.ref rh, .int 1]) ++ List.replicate (2 - (lg_sl ([.ref rh, .int 1])).length) Slot.unset).toArray = ls at hl ⊢
  have hl : lv_has ls 2 [(0, .ref rh), (1, .int 1)] := hl
  refine lv_iload_n hx hb dX0_tell_0 rfl (lv_at hl 1 rfl) ?_
  refine lv_tableIn (off := 52) (tgt := 53) hx hb dX0_tell_1 (by decide) (by decide) (by rfl) (by decide) ?_
  refine lv_aload_n hx hb dX0_tell_53 rfl (lv_at hl 0 rfl) ?_
  refine va_get (D := (dC, dI)) (ci := 0) (v := .int 6) (C := RX0) (T := TX0) (N := 10) hx hb hts (by decide +kernel) hown hK hP 0 rfl rfl 1 (by decide) (hts (.fieldLink RX0 28 "ThatchRoof$Roof" "courses" "I") (by decide +kernel)) (fun _ h9 => h9) rfl dX0_tell_54 ?_
  exact W.iret (v := 6) hx hb hr (fun t ht hW => ⟨6, rfl, by (first | rfl | assumption | decide | (simp_all; done) | grind), ht⟩) (fun _ h => nomatch h) dX0_tell_57

set_option maxHeartbeats 4000000 in
set_option maxRecDepth 100000 in
theorem r0_tell2 (l : Launch) (dC : Nat → ClassId) (dI : Nat → Nat → Nat) (rh : Nat) (rk : Nat) (rt : Nat) (rp : Nat) (rm : Nat) (cT : ClassId) : Met l yX0_tell wsX0_tell ({ frames := 0, cells := 0, slots := 0, locals := 0 }) (va_Pc [.ref rh, .int 2] (fun U => va_P (dC, dI) vwCl [(rh, .inr (0, [.int 10, .int 6, .int 30, .int 100, .int 0, .int 0, .ref rk, .ref rt, .ref rp, .ref rm])), (rt, .inl (cT, 60, .inl (fun _ => 0)))] U.heap ∧ va_K (dC, dI) vwCl [(cT, .int)] U)) (vp_Si (fun r : Int32 => r = 30)) 0 0 (fun _ => False) := by
  refine Met.ofW (cc := cX0_tell) (maxL := 2) (ret := (some .int)) (by decide) rfl ?_
  intro p e s m args below meth c s₁ B hml hv
  obtain ⟨rfl, hP, hK⟩ := hv
  have hx := B.exec
  have hb := B.bytes
  have hr := B.returns
  have hts := atoms_spec (ws := wsX0_tell) B.pre
  have hown : s.vm.findClass RX0 = some m.cls := findClass_of_methodNamed B.named
  have hlocks := B.notSynchronized
  have hP : va_P (dC, dI) vwCl [(rh, .inr (0, [.int 10, .int 6, .int 30, .int 100, .int 0, .int 0, .ref rk, .ref rt, .ref rp, .ref rm])), (rt, .inl (cT, 60, .inl (fun _ => 0)))] s.heap := hP
  have hl := lv_entry ([.ref rh, .int 2]) (n := 2) (Nat.le_of_ble_eq_true rfl)
  rw [lg_entry_eq]
  generalize (lg_sl ([.ref rh, .int 2]) ++ List.replicate (2 - (lg_sl ([.ref rh, .int 2])).length) Slot.unset).toArray = ls at hl ⊢
  have hl : lv_has ls 2 [(0, .ref rh), (1, .int 2)] := hl
  refine lv_iload_n hx hb dX0_tell_0 rfl (lv_at hl 1 rfl) ?_
  refine lv_tableIn (off := 57) (tgt := 58) hx hb dX0_tell_1 (by decide) (by decide) (by rfl) (by decide) ?_
  refine lv_aload_n hx hb dX0_tell_58 rfl (lv_at hl 0 rfl) ?_
  refine va_get (D := (dC, dI)) (ci := 0) (v := .int 30) (C := RX0) (T := TX0) (N := 10) hx hb hts (by decide +kernel) hown hK hP 0 rfl rfl 2 (by decide) (hts (.fieldLink RX0 31 "ThatchRoof$Roof" "slope" "I") (by decide +kernel)) (fun _ h9 => h9) rfl dX0_tell_59 ?_
  exact W.iret (v := 30) hx hb hr (fun t ht hW => ⟨30, rfl, by (first | rfl | assumption | decide | (simp_all; done) | grind), ht⟩) (fun _ h => nomatch h) dX0_tell_62

set_option maxHeartbeats 4000000 in
set_option maxRecDepth 100000 in
theorem r0_tell3 (l : Launch) (dC : Nat → ClassId) (dI : Nat → Nat → Nat) (rh : Nat) (rk : Nat) (rt : Nat) (rp : Nat) (rm : Nat) (cT : ClassId) : Met l yX0_tell wsX0_tell ({ frames := 0, cells := 0, slots := 0, locals := 0 }) (va_Pc [.ref rh, .int 3] (fun U => va_P (dC, dI) vwCl [(rh, .inr (0, [.int 10, .int 6, .int 30, .int 100, .int 0, .int 0, .ref rk, .ref rt, .ref rp, .ref rm])), (rt, .inl (cT, 60, .inl (fun _ => 0)))] U.heap ∧ va_K (dC, dI) vwCl [(cT, .int)] U)) (vp_Si (fun r : Int32 => r = 100)) 0 0 (fun _ => False) := by
  refine Met.ofW (cc := cX0_tell) (maxL := 2) (ret := (some .int)) (by decide) rfl ?_
  intro p e s m args below meth c s₁ B hml hv
  obtain ⟨rfl, hP, hK⟩ := hv
  have hx := B.exec
  have hb := B.bytes
  have hr := B.returns
  have hts := atoms_spec (ws := wsX0_tell) B.pre
  have hown : s.vm.findClass RX0 = some m.cls := findClass_of_methodNamed B.named
  have hlocks := B.notSynchronized
  have hP : va_P (dC, dI) vwCl [(rh, .inr (0, [.int 10, .int 6, .int 30, .int 100, .int 0, .int 0, .ref rk, .ref rt, .ref rp, .ref rm])), (rt, .inl (cT, 60, .inl (fun _ => 0)))] s.heap := hP
  have hl := lv_entry ([.ref rh, .int 3]) (n := 2) (Nat.le_of_ble_eq_true rfl)
  rw [lg_entry_eq]
  generalize (lg_sl ([.ref rh, .int 3]) ++ List.replicate (2 - (lg_sl ([.ref rh, .int 3])).length) Slot.unset).toArray = ls at hl ⊢
  have hl : lv_has ls 2 [(0, .ref rh), (1, .int 3)] := hl
  refine lv_iload_n hx hb dX0_tell_0 rfl (lv_at hl 1 rfl) ?_
  refine lv_tableIn (off := 62) (tgt := 63) hx hb dX0_tell_1 (by decide) (by decide) (by rfl) (by decide) ?_
  refine lv_aload_n hx hb dX0_tell_63 rfl (lv_at hl 0 rfl) ?_
  refine va_get (D := (dC, dI)) (ci := 0) (v := .int 100) (C := RX0) (T := TX0) (N := 10) hx hb hts (by decide +kernel) hown hK hP 0 rfl rfl 3 (by decide) (hts (.fieldLink RX0 34 "ThatchRoof$Roof" "ridge" "I") (by decide +kernel)) (fun _ h9 => h9) rfl dX0_tell_64 ?_
  exact W.iret (v := 100) hx hb hr (fun t ht hW => ⟨100, rfl, by (first | rfl | assumption | decide | (simp_all; done) | grind), ht⟩) (fun _ h => nomatch h) dX0_tell_67

set_option maxHeartbeats 4000000 in
set_option maxRecDepth 100000 in
theorem r0_tell4 (l : Launch) (dC : Nat → ClassId) (dI : Nat → Nat → Nat) (rh : Nat) (rk : Nat) (rt : Nat) (rp : Nat) (rm : Nat) (cT : ClassId) : Met l yX0_tell wsX0_tell ({ frames := 3, cells := 0, slots := 0, locals := 67 }) (va_Pc [.ref rh, .int 4] (fun U => va_P (dC, dI) vwCl [(rh, .inr (0, [.int 10, .int 6, .int 30, .int 100, .int 0, .int 0, .ref rk, .ref rt, .ref rp, .ref rm])), (rt, .inl (cT, 60, .inl (fun _ => 0)))] U.heap ∧ va_K (dC, dI) vwCl [(cT, .int)] U)) (vp_Si (fun r : Int32 => r = 0)) 0 0 (fun _ => False) := by
  refine Met.ofW (cc := cX0_tell) (maxL := 2) (ret := (some .int)) (by decide) rfl ?_
  intro p e s m args below meth c s₁ B hml hv
  obtain ⟨rfl, hP, hK⟩ := hv
  have hx := B.exec
  have hb := B.bytes
  have hr := B.returns
  have hts := atoms_spec (ws := wsX0_tell) B.pre
  have hown : s.vm.findClass RX0 = some m.cls := findClass_of_methodNamed B.named
  have hlocks := B.notSynchronized
  have hP : va_P (dC, dI) vwCl [(rh, .inr (0, [.int 10, .int 6, .int 30, .int 100, .int 0, .int 0, .ref rk, .ref rt, .ref rp, .ref rm])), (rt, .inl (cT, 60, .inl (fun _ => 0)))] s.heap := hP
  have hl := lv_entry ([.ref rh, .int 4]) (n := 2) (Nat.le_of_ble_eq_true rfl)
  rw [lg_entry_eq]
  generalize (lg_sl ([.ref rh, .int 4]) ++ List.replicate (2 - (lg_sl ([.ref rh, .int 4])).length) Slot.unset).toArray = ls at hl ⊢
  have hl : lv_has ls 2 [(0, .ref rh), (1, .int 4)] := hl
  refine lv_iload_n hx hb dX0_tell_0 rfl (lv_at hl 1 rfl) ?_
  refine lv_tableIn (off := 67) (tgt := 68) hx hb dX0_tell_1 (by decide) (by decide) (by rfl) (by decide) ?_
  refine lv_aload_n hx hb dX0_tell_68 rfl (lv_at hl 0 rfl) ?_
  have hPc := hP.sub (ws' := [(rh, .inr (0, [.int 10, .int 6, .int 30, .int 100, .int 0, .int 0, .ref rk, .ref rt, .ref rp, .ref rm])), (rt, .inl (cT, 60, .inl (fun _ => 0)))]) [0, 1] rfl
  have hKc := hK.sub (tys' := [(cT, .int)]) [0] rfl
  refine vp_callSi (va_runV (As := []) (rest := []) ⟨hx, hb, hml, hown, hts⟩ (r0_yealms l dC dI rh rk rt rp rm cT ) (cwV 0 hts gX0_tell_X0_yealms rfl rfl rfl (by decide +kernel) ⟨Nat.le_of_ble_eq_true rfl, Nat.le_of_ble_eq_true rfl⟩) ⟨fun a U g mk q => by obtain ⟨q0, qP, qK⟩ := q; exact ⟨q0, qP, va_K.moved (u := U) (U := U.calling g mk a) (Vm.Alike.refl U.vm) qK⟩, va_recv hKc hPc (ci := 0) (q0 := 0) rfl rfl, fun U hU hW => ⟨rfl, by rw [hU]; exact hPc, va_K.moved hW.alike hKc⟩⟩ rfl rfl hl.1 rfl (lv_room (Nat.le_of_ble_eq_true rfl)) dX0_tell_69 ⟨Nat.le_of_ble_eq_true rfl, Nat.le_of_ble_eq_true rfl⟩).run (fun r1 hr1 => ?_)
  obtain rfl := hr1
  exact W.iret (v := 0) hx hb hr (fun t ht hW => ⟨0, rfl, by (first | rfl | assumption | decide | (simp_all; done) | grind), ht⟩) (fun _ h => nomatch h) dX0_tell_72

set_option maxHeartbeats 4000000 in
set_option maxRecDepth 100000 in
theorem r0_tell5 (l : Launch) (dC : Nat → ClassId) (dI : Nat → Nat → Nat) (rh : Nat) (rk : Nat) (rt : Nat) (rp : Nat) (rm : Nat) (cT : ClassId) : Met l yX0_tell wsX0_tell ({ frames := 3, cells := 0, slots := 0, locals := 67 }) (va_Pc [.ref rh, .int 5] (fun U => va_P (dC, dI) vwCl [(rh, .inr (0, [.int 10, .int 6, .int 30, .int 100, .int 0, .int 0, .ref rk, .ref rt, .ref rp, .ref rm])), (rt, .inl (cT, 60, .inl (fun _ => 0)))] U.heap ∧ va_K (dC, dI) vwCl [(cT, .int)] U)) (vp_Si (fun r : Int32 => r = 0)) 0 0 (fun _ => False) := by
  refine Met.ofW (cc := cX0_tell) (maxL := 2) (ret := (some .int)) (by decide) rfl ?_
  intro p e s m args below meth c s₁ B hml hv
  obtain ⟨rfl, hP, hK⟩ := hv
  have hx := B.exec
  have hb := B.bytes
  have hr := B.returns
  have hts := atoms_spec (ws := wsX0_tell) B.pre
  have hown : s.vm.findClass RX0 = some m.cls := findClass_of_methodNamed B.named
  have hlocks := B.notSynchronized
  have hP : va_P (dC, dI) vwCl [(rh, .inr (0, [.int 10, .int 6, .int 30, .int 100, .int 0, .int 0, .ref rk, .ref rt, .ref rp, .ref rm])), (rt, .inl (cT, 60, .inl (fun _ => 0)))] s.heap := hP
  have hl := lv_entry ([.ref rh, .int 5]) (n := 2) (Nat.le_of_ble_eq_true rfl)
  rw [lg_entry_eq]
  generalize (lg_sl ([.ref rh, .int 5]) ++ List.replicate (2 - (lg_sl ([.ref rh, .int 5])).length) Slot.unset).toArray = ls at hl ⊢
  have hl : lv_has ls 2 [(0, .ref rh), (1, .int 5)] := hl
  refine lv_iload_n hx hb dX0_tell_0 rfl (lv_at hl 1 rfl) ?_
  refine lv_tableIn (off := 72) (tgt := 73) hx hb dX0_tell_1 (by decide) (by decide) (by rfl) (by decide) ?_
  refine lv_aload_n hx hb dX0_tell_73 rfl (lv_at hl 0 rfl) ?_
  have hPc := hP.sub (ws' := [(rh, .inr (0, [.int 10, .int 6, .int 30, .int 100, .int 0, .int 0, .ref rk, .ref rt, .ref rp, .ref rm])), (rt, .inl (cT, 60, .inl (fun _ => 0)))]) [0, 1] rfl
  have hKc := hK.sub (tys' := [(cT, .int)]) [0] rfl
  refine vp_callSi (va_runV (As := []) (rest := []) ⟨hx, hb, hml, hown, hts⟩ (r0_thicknessInAll l dC dI rh rk rt rp rm cT ) (cwV 0 hts gX0_tell_X0_thicknessInAll rfl rfl rfl (by decide +kernel) ⟨Nat.le_of_ble_eq_true rfl, Nat.le_of_ble_eq_true rfl⟩) ⟨fun a U g mk q => by obtain ⟨q0, qP, qK⟩ := q; exact ⟨q0, qP, va_K.moved (u := U) (U := U.calling g mk a) (Vm.Alike.refl U.vm) qK⟩, va_recv hKc hPc (ci := 0) (q0 := 0) rfl rfl, fun U hU hW => ⟨rfl, by rw [hU]; exact hPc, va_K.moved hW.alike hKc⟩⟩ rfl rfl hl.1 rfl (lv_room (Nat.le_of_ble_eq_true rfl)) dX0_tell_74 ⟨Nat.le_of_ble_eq_true rfl, Nat.le_of_ble_eq_true rfl⟩).run (fun r1 hr1 => ?_)
  obtain rfl := hr1
  exact W.iret (v := 0) hx hb hr (fun t ht hW => ⟨0, rfl, by (first | rfl | assumption | decide | (simp_all; done) | grind), ht⟩) (fun _ h => nomatch h) dX0_tell_77

set_option maxHeartbeats 4000000 in
set_option maxRecDepth 100000 in
theorem r0_tell6 (l : Launch) (dC : Nat → ClassId) (dI : Nat → Nat → Nat) (rh : Nat) (rk : Nat) (rt : Nat) (rp : Nat) (rm : Nat) (cT : ClassId) : Met l yX0_tell wsX0_tell ({ frames := 3, cells := 0, slots := 0, locals := 67 }) (va_Pc [.ref rh, .int 6] (fun U => va_P (dC, dI) vwCl [(rh, .inr (0, [.int 10, .int 6, .int 30, .int 100, .int 0, .int 0, .ref rk, .ref rt, .ref rp, .ref rm])), (rt, .inl (cT, 60, .inl (fun _ => 0)))] U.heap ∧ va_K (dC, dI) vwCl [(cT, .int)] U)) (vp_Si (fun r : Int32 => r = 10)) 0 0 (fun _ => False) := by
  refine Met.ofW (cc := cX0_tell) (maxL := 2) (ret := (some .int)) (by decide) rfl ?_
  intro p e s m args below meth c s₁ B hml hv
  obtain ⟨rfl, hP, hK⟩ := hv
  have hx := B.exec
  have hb := B.bytes
  have hr := B.returns
  have hts := atoms_spec (ws := wsX0_tell) B.pre
  have hown : s.vm.findClass RX0 = some m.cls := findClass_of_methodNamed B.named
  have hlocks := B.notSynchronized
  have hP : va_P (dC, dI) vwCl [(rh, .inr (0, [.int 10, .int 6, .int 30, .int 100, .int 0, .int 0, .ref rk, .ref rt, .ref rp, .ref rm])), (rt, .inl (cT, 60, .inl (fun _ => 0)))] s.heap := hP
  have hl := lv_entry ([.ref rh, .int 6]) (n := 2) (Nat.le_of_ble_eq_true rfl)
  rw [lg_entry_eq]
  generalize (lg_sl ([.ref rh, .int 6]) ++ List.replicate (2 - (lg_sl ([.ref rh, .int 6])).length) Slot.unset).toArray = ls at hl ⊢
  have hl : lv_has ls 2 [(0, .ref rh), (1, .int 6)] := hl
  refine lv_iload_n hx hb dX0_tell_0 rfl (lv_at hl 1 rfl) ?_
  refine lv_tableIn (off := 77) (tgt := 78) hx hb dX0_tell_1 (by decide) (by decide) (by rfl) (by decide) ?_
  refine lv_aload_n hx hb dX0_tell_78 rfl (lv_at hl 0 rfl) ?_
  have hPc := hP.sub (ws' := [(rh, .inr (0, [.int 10, .int 6, .int 30, .int 100, .int 0, .int 0, .ref rk, .ref rt, .ref rp, .ref rm])), (rt, .inl (cT, 60, .inl (fun _ => 0)))]) [0, 1] rfl
  have hKc := hK.sub (tys' := [(cT, .int)]) [0] rfl
  refine vp_callSi (va_runV (As := []) (rest := []) ⟨hx, hb, hml, hown, hts⟩ (r0_leaks l dC dI rh rk rt rp rm cT ) (cwV 0 hts gX0_tell_X0_leaks rfl rfl rfl (by decide +kernel) ⟨Nat.le_of_ble_eq_true rfl, Nat.le_of_ble_eq_true rfl⟩) ⟨fun a U g mk q => by obtain ⟨q0, qP, qK⟩ := q; exact ⟨q0, qP, va_K.moved (u := U) (U := U.calling g mk a) (Vm.Alike.refl U.vm) qK⟩, va_recv hKc hPc (ci := 0) (q0 := 0) rfl rfl, fun U hU hW => ⟨rfl, by rw [hU]; exact hPc, va_K.moved hW.alike hKc⟩⟩ rfl rfl hl.1 rfl (lv_room (Nat.le_of_ble_eq_true rfl)) dX0_tell_79 ⟨Nat.le_of_ble_eq_true rfl, Nat.le_of_ble_eq_true rfl⟩).run (fun r1 hr1 => ?_)
  obtain rfl := hr1
  exact W.iret (v := 10) hx hb hr (fun t ht hW => ⟨10, rfl, by (first | rfl | assumption | decide | (simp_all; done) | grind), ht⟩) (fun _ h => nomatch h) dX0_tell_82

set_option maxHeartbeats 4000000 in
set_option maxRecDepth 100000 in
theorem r0_tell7 (l : Launch) (dC : Nat → ClassId) (dI : Nat → Nat → Nat) (rh : Nat) (rk : Nat) (rt : Nat) (rp : Nat) (rm : Nat) (cT : ClassId) : Met l yX0_tell wsX0_tell ({ frames := 0, cells := 0, slots := 0, locals := 0 }) (va_Pc [.ref rh, .int 7] (fun U => va_P (dC, dI) vwCl [(rh, .inr (0, [.int 10, .int 6, .int 30, .int 100, .int 0, .int 0, .ref rk, .ref rt, .ref rp, .ref rm])), (rt, .inl (cT, 60, .inl (fun _ => 0)))] U.heap ∧ va_K (dC, dI) vwCl [(cT, .int)] U)) (vp_Si (fun r : Int32 => r = 0)) 0 0 (fun _ => False) := by
  refine Met.ofW (cc := cX0_tell) (maxL := 2) (ret := (some .int)) (by decide) rfl ?_
  intro p e s m args below meth c s₁ B hml hv
  obtain ⟨rfl, hP, hK⟩ := hv
  have hx := B.exec
  have hb := B.bytes
  have hr := B.returns
  have hts := atoms_spec (ws := wsX0_tell) B.pre
  have hown : s.vm.findClass RX0 = some m.cls := findClass_of_methodNamed B.named
  have hlocks := B.notSynchronized
  have hP : va_P (dC, dI) vwCl [(rh, .inr (0, [.int 10, .int 6, .int 30, .int 100, .int 0, .int 0, .ref rk, .ref rt, .ref rp, .ref rm])), (rt, .inl (cT, 60, .inl (fun _ => 0)))] s.heap := hP
  have hl := lv_entry ([.ref rh, .int 7]) (n := 2) (Nat.le_of_ble_eq_true rfl)
  rw [lg_entry_eq]
  generalize (lg_sl ([.ref rh, .int 7]) ++ List.replicate (2 - (lg_sl ([.ref rh, .int 7])).length) Slot.unset).toArray = ls at hl ⊢
  have hl : lv_has ls 2 [(0, .ref rh), (1, .int 7)] := hl
  refine lv_iload_n hx hb dX0_tell_0 rfl (lv_at hl 1 rfl) ?_
  refine lv_tableIn (off := 82) (tgt := 83) hx hb dX0_tell_1 (by decide) (by decide) (by rfl) (by decide) ?_
  refine lv_aload_n hx hb dX0_tell_83 rfl (lv_at hl 0 rfl) ?_
  refine va_get (D := (dC, dI)) (ci := 0) (v := .int 0) (C := RX0) (T := TX0) (N := 10) hx hb hts (by decide +kernel) hown hK hP 0 rfl rfl 4 (by decide) (hts (.fieldLink RX0 82 "ThatchRoof$Roof" "torn" "I") (by decide +kernel)) (fun _ h9 => h9) rfl dX0_tell_84 ?_
  exact W.iret (v := 0) hx hb hr (fun t ht hW => ⟨0, rfl, by (first | rfl | assumption | decide | (simp_all; done) | grind), ht⟩) (fun _ h => nomatch h) dX0_tell_87

set_option maxHeartbeats 4000000 in
set_option maxRecDepth 100000 in
theorem r0_tell8 (l : Launch) (dC : Nat → ClassId) (dI : Nat → Nat → Nat) (rh : Nat) (rk : Nat) (rt : Nat) (rp : Nat) (rm : Nat) (cT : ClassId) : Met l yX0_tell wsX0_tell ({ frames := 0, cells := 0, slots := 0, locals := 0 }) (va_Pc [.ref rh, .int 8] (fun U => va_P (dC, dI) vwCl [(rh, .inr (0, [.int 10, .int 6, .int 30, .int 100, .int 0, .int 0, .ref rk, .ref rt, .ref rp, .ref rm])), (rt, .inl (cT, 60, .inl (fun _ => 0)))] U.heap ∧ va_K (dC, dI) vwCl [(cT, .int)] U)) (vp_Si (fun r : Int32 => r = 0)) 0 0 (fun _ => False) := by
  refine Met.ofW (cc := cX0_tell) (maxL := 2) (ret := (some .int)) (by decide) rfl ?_
  intro p e s m args below meth c s₁ B hml hv
  obtain ⟨rfl, hP, hK⟩ := hv
  have hx := B.exec
  have hb := B.bytes
  have hr := B.returns
  have hts := atoms_spec (ws := wsX0_tell) B.pre
  have hown : s.vm.findClass RX0 = some m.cls := findClass_of_methodNamed B.named
  have hlocks := B.notSynchronized
  have hP : va_P (dC, dI) vwCl [(rh, .inr (0, [.int 10, .int 6, .int 30, .int 100, .int 0, .int 0, .ref rk, .ref rt, .ref rp, .ref rm])), (rt, .inl (cT, 60, .inl (fun _ => 0)))] s.heap := hP
  have hl := lv_entry ([.ref rh, .int 8]) (n := 2) (Nat.le_of_ble_eq_true rfl)
  rw [lg_entry_eq]
  generalize (lg_sl ([.ref rh, .int 8]) ++ List.replicate (2 - (lg_sl ([.ref rh, .int 8])).length) Slot.unset).toArray = ls at hl ⊢
  have hl : lv_has ls 2 [(0, .ref rh), (1, .int 8)] := hl
  refine lv_iload_n hx hb dX0_tell_0 rfl (lv_at hl 1 rfl) ?_
  refine lv_tableOut (tgt := 88) hx hb dX0_tell_1 (by decide) (by decide) ?_
  refine lv_aload_n hx hb dX0_tell_88 rfl (lv_at hl 0 rfl) ?_
  refine va_get (D := (dC, dI)) (ci := 0) (v := .int 0) (C := RX0) (T := TX0) (N := 10) hx hb hts (by decide +kernel) hown hK hP 0 rfl rfl 5 (by decide) (hts (.fieldLink RX0 85 "ThatchRoof$Roof" "worn" "I") (by decide +kernel)) (fun _ h9 => h9) rfl dX0_tell_89 ?_
  exact W.iret (v := 0) hx hb hr (fun t ht hW => ⟨0, rfl, by (first | rfl | assumption | decide | (simp_all; done) | grind), ht⟩) (fun _ h => nomatch h) dX0_tell_92

set_option maxHeartbeats 4000000 in
set_option maxRecDepth 100000 in
theorem r0_wide (l : Launch) (dC : Nat → ClassId) (dI : Nat → Nat → Nat) (rh : Nat) (rk : Nat) (rt : Nat) (rp : Nat) (rm : Nat) : Met l yX0_wide wsX0_wide ({ frames := 0, cells := 0, slots := 0, locals := 0 }) (va_Pc [.ref rh] (fun U => va_P (dC, dI) vwCl [(rh, .inr (0, [.int 10, .int 6, .int 30, .int 100, .int 0, .int 0, .ref rk, .ref rt, .ref rp, .ref rm]))] U.heap ∧ va_K (dC, dI) vwCl [] U)) (vp_Si (fun r : Int32 => r = 10)) 0 0 (fun _ => False) := by
  refine Met.ofW (cc := cX0_wide) (maxL := 1) (ret := (some .int)) (by decide) rfl ?_
  intro p e s m args below meth c s₁ B hml hv
  obtain ⟨rfl, hP, hK⟩ := hv
  have hx := B.exec
  have hb := B.bytes
  have hr := B.returns
  have hts := atoms_spec (ws := wsX0_wide) B.pre
  have hown : s.vm.findClass RX0 = some m.cls := findClass_of_methodNamed B.named
  have hlocks := B.notSynchronized
  have hP : va_P (dC, dI) vwCl [(rh, .inr (0, [.int 10, .int 6, .int 30, .int 100, .int 0, .int 0, .ref rk, .ref rt, .ref rp, .ref rm]))] s.heap := hP
  have hl := lv_entry ([.ref rh]) (n := 1) (Nat.le_of_ble_eq_true rfl)
  rw [lg_entry_eq]
  generalize (lg_sl ([.ref rh]) ++ List.replicate (1 - (lg_sl ([.ref rh])).length) Slot.unset).toArray = ls at hl ⊢
  have hl : lv_has ls 1 [(0, .ref rh)] := hl
  refine lv_aload_n hx hb dX0_wide_0 rfl (lv_at hl 0 rfl) ?_
  refine va_get (D := (dC, dI)) (ci := 0) (v := .int 10) (C := RX0) (T := TX0) (N := 10) hx hb hts (by decide +kernel) hown hK hP 0 rfl rfl 0 (by decide) (hts (.fieldLink RX0 24 "ThatchRoof$Roof" "width" "I") (by decide +kernel)) (fun _ h9 => h9) rfl dX0_wide_1 ?_
  exact W.iret (v := 10) hx hb hr (fun t ht hW => ⟨10, rfl, by (first | rfl | assumption | decide | (simp_all; done) | grind), ht⟩) (fun _ h => nomatch h) dX0_wide_4

set_option maxHeartbeats 4000000 in
set_option maxRecDepth 100000 in
theorem r0_high (l : Launch) (dC : Nat → ClassId) (dI : Nat → Nat → Nat) (rh : Nat) (rk : Nat) (rt : Nat) (rp : Nat) (rm : Nat) : Met l yX0_high wsX0_high ({ frames := 0, cells := 0, slots := 0, locals := 0 }) (va_Pc [.ref rh] (fun U => va_P (dC, dI) vwCl [(rh, .inr (0, [.int 10, .int 6, .int 30, .int 100, .int 0, .int 0, .ref rk, .ref rt, .ref rp, .ref rm]))] U.heap ∧ va_K (dC, dI) vwCl [] U)) (vp_Si (fun r : Int32 => r = 6)) 0 0 (fun _ => False) := by
  refine Met.ofW (cc := cX0_high) (maxL := 1) (ret := (some .int)) (by decide) rfl ?_
  intro p e s m args below meth c s₁ B hml hv
  obtain ⟨rfl, hP, hK⟩ := hv
  have hx := B.exec
  have hb := B.bytes
  have hr := B.returns
  have hts := atoms_spec (ws := wsX0_high) B.pre
  have hown : s.vm.findClass RX0 = some m.cls := findClass_of_methodNamed B.named
  have hlocks := B.notSynchronized
  have hP : va_P (dC, dI) vwCl [(rh, .inr (0, [.int 10, .int 6, .int 30, .int 100, .int 0, .int 0, .ref rk, .ref rt, .ref rp, .ref rm]))] s.heap := hP
  have hl := lv_entry ([.ref rh]) (n := 1) (Nat.le_of_ble_eq_true rfl)
  rw [lg_entry_eq]
  generalize (lg_sl ([.ref rh]) ++ List.replicate (1 - (lg_sl ([.ref rh])).length) Slot.unset).toArray = ls at hl ⊢
  have hl : lv_has ls 1 [(0, .ref rh)] := hl
  refine lv_aload_n hx hb dX0_high_0 rfl (lv_at hl 0 rfl) ?_
  refine va_get (D := (dC, dI)) (ci := 0) (v := .int 6) (C := RX0) (T := TX0) (N := 10) hx hb hts (by decide +kernel) hown hK hP 0 rfl rfl 1 (by decide) (hts (.fieldLink RX0 28 "ThatchRoof$Roof" "courses" "I") (by decide +kernel)) (fun _ h9 => h9) rfl dX0_high_1 ?_
  exact W.iret (v := 6) hx hb hr (fun t ht hW => ⟨6, rfl, by (first | rfl | assumption | decide | (simp_all; done) | grind), ht⟩) (fun _ h => nomatch h) dX0_high_4

set_option maxHeartbeats 4000000 in
set_option maxRecDepth 100000 in
theorem r0_tellYealm0 (l : Launch) (dC : Nat → ClassId) (dI : Nat → Nat → Nat) (rh : Nat) (rk : Nat) (rt : Nat) (rp : Nat) (rm : Nat) (cT : ClassId) (cu : Nat) (pl : Nat) (hcu : cu < 6) (hpl : pl < 10) : Met l yX0_tellYealm wsX0_tellYealm ({ frames := 2, cells := 0, slots := 0, locals := 44 }) (va_Pc [.ref rh, .int (nI cu), .int (nI pl), .int 0] (fun U => va_P (dC, dI) vwCl [(rh, .inr (0, [.int 10, .int 6, .int 30, .int 100, .int 0, .int 0, .ref rk, .ref rt, .ref rp, .ref rm])), (rt, .inl (cT, 60, .inl (fun _ => 0)))] U.heap ∧ va_K (dC, dI) vwCl [(cT, .int)] U)) (vp_Si (fun r : Int32 => r = 0)) 0 0 (fun _ => False) := by
  refine Met.ofW (cc := cX0_tellYealm) (maxL := 5) (ret := (some .int)) (by decide) rfl ?_
  intro p e s m args below meth c s₁ B hml hv
  obtain ⟨rfl, hP, hK⟩ := hv
  have hx := B.exec
  have hb := B.bytes
  have hr := B.returns
  have hts := atoms_spec (ws := wsX0_tellYealm) B.pre
  have hown : s.vm.findClass RX0 = some m.cls := findClass_of_methodNamed B.named
  have hlocks := B.notSynchronized
  have hP : va_P (dC, dI) vwCl [(rh, .inr (0, [.int 10, .int 6, .int 30, .int 100, .int 0, .int 0, .ref rk, .ref rt, .ref rp, .ref rm])), (rt, .inl (cT, 60, .inl (fun _ => 0)))] s.heap := hP
  have hl := lv_entry ([.ref rh, .int (nI cu), .int (nI pl), .int 0]) (n := 5) (Nat.le_of_ble_eq_true rfl)
  rw [lg_entry_eq]
  generalize (lg_sl ([.ref rh, .int (nI cu), .int (nI pl), .int 0]) ++ List.replicate (5 - (lg_sl ([.ref rh, .int (nI cu), .int (nI pl), .int 0])).length) Slot.unset).toArray = ls at hl ⊢
  have hl : lv_has ls 5 [(0, .ref rh), (1, .int (nI cu)), (2, .int (nI pl)), (3, .int 0)] := hl
  refine lv_aload_n hx hb dX0_tellYealm_0 rfl (lv_at hl 0 rfl) ?_
  refine lv_iload_n hx hb dX0_tellYealm_1 rfl (lv_at hl 1 rfl) ?_
  refine lv_iload_n hx hb dX0_tellYealm_2 rfl (lv_at hl 2 rfl) ?_
  have hPc := hP.sub (ws' := [(rh, .inr (0, [.int 10, .int 6, .int 30, .int 100, .int 0, .int 0, .ref rk, .ref rt, .ref rp, .ref rm])), (rt, .inl (cT, 60, .inl (fun _ => 0)))]) [0, 1] rfl
  have hKc := hK.sub (tys' := [(cT, .int)]) [0] rfl
  refine vp_callSi (va_runV (As := [.int (nI cu), .int (nI pl)]) (rest := []) ⟨hx, hb, hml, hown, hts⟩ (r0_hasYealm l dC dI rh rk rt rp rm cT cu pl (by first | assumption | decide | omega) (by first | assumption | decide | omega)) (cwV 2 hts gX0_tellYealm_X0_hasYealm rfl rfl rfl (by decide +kernel) ⟨Nat.le_of_ble_eq_true rfl, Nat.le_of_ble_eq_true rfl⟩) ⟨fun a U g mk q => by obtain ⟨q0, qP, qK⟩ := q; exact ⟨q0, qP, va_K.moved (u := U) (U := U.calling g mk a) (Vm.Alike.refl U.vm) qK⟩, va_recv hKc hPc (ci := 0) (q0 := 0) rfl rfl, fun U hU hW => ⟨rfl, by rw [hU]; exact hPc, va_K.moved hW.alike hKc⟩⟩ rfl rfl hl.1 rfl (lv_room (Nat.le_of_ble_eq_true rfl)) dX0_tellYealm_3 ⟨Nat.le_of_ble_eq_true rfl, Nat.le_of_ble_eq_true rfl⟩).run (fun r1 hr1 => ?_)
  obtain rfl := hr1
  refine lv_if_ne (tgt := 20) hx hb dX0_tellYealm_6 (by decide) (fun c2 => absurd c2 (by decide)) (fun c2 => ?_)
  refine lv_iload_n hx hb dX0_tellYealm_9 rfl (lv_at hl 3 rfl) ?_
  refine lv_iconst (v := 1) hx hb dX0_tellYealm_10 (by decide) ?_
  refine lv_icmp_ne (tgt := 18) hx hb dX0_tellYealm_11 (by decide) (fun c3 => ?_) (fun c3 => absurd c3 (by decide))
  refine lv_iconst (v := 0) hx hb dX0_tellYealm_18 (by decide) ?_
  exact W.iret (v := 0) hx hb hr (fun t ht hW => ⟨0, rfl, by (first | rfl | assumption | decide | (simp_all; done) | grind), ht⟩) (fun _ h => nomatch h) dX0_tellYealm_19

set_option maxHeartbeats 4000000 in
set_option maxRecDepth 100000 in
theorem r0_tellYealm1 (l : Launch) (dC : Nat → ClassId) (dI : Nat → Nat → Nat) (rh : Nat) (rk : Nat) (rt : Nat) (rp : Nat) (rm : Nat) (cT : ClassId) (cu : Nat) (pl : Nat) (hcu : cu < 6) (hpl : pl < 10) : Met l yX0_tellYealm wsX0_tellYealm ({ frames := 2, cells := 0, slots := 0, locals := 44 }) (va_Pc [.ref rh, .int (nI cu), .int (nI pl), .int 1] (fun U => va_P (dC, dI) vwCl [(rh, .inr (0, [.int 10, .int 6, .int 30, .int 100, .int 0, .int 0, .ref rk, .ref rt, .ref rp, .ref rm])), (rt, .inl (cT, 60, .inl (fun _ => 0)))] U.heap ∧ va_K (dC, dI) vwCl [(cT, .int)] U)) (vp_Si (fun r : Int32 => r = (-1))) 0 0 (fun _ => False) := by
  refine Met.ofW (cc := cX0_tellYealm) (maxL := 5) (ret := (some .int)) (by decide) rfl ?_
  intro p e s m args below meth c s₁ B hml hv
  obtain ⟨rfl, hP, hK⟩ := hv
  have hx := B.exec
  have hb := B.bytes
  have hr := B.returns
  have hts := atoms_spec (ws := wsX0_tellYealm) B.pre
  have hown : s.vm.findClass RX0 = some m.cls := findClass_of_methodNamed B.named
  have hlocks := B.notSynchronized
  have hP : va_P (dC, dI) vwCl [(rh, .inr (0, [.int 10, .int 6, .int 30, .int 100, .int 0, .int 0, .ref rk, .ref rt, .ref rp, .ref rm])), (rt, .inl (cT, 60, .inl (fun _ => 0)))] s.heap := hP
  have hl := lv_entry ([.ref rh, .int (nI cu), .int (nI pl), .int 1]) (n := 5) (Nat.le_of_ble_eq_true rfl)
  rw [lg_entry_eq]
  generalize (lg_sl ([.ref rh, .int (nI cu), .int (nI pl), .int 1]) ++ List.replicate (5 - (lg_sl ([.ref rh, .int (nI cu), .int (nI pl), .int 1])).length) Slot.unset).toArray = ls at hl ⊢
  have hl : lv_has ls 5 [(0, .ref rh), (1, .int (nI cu)), (2, .int (nI pl)), (3, .int 1)] := hl
  refine lv_aload_n hx hb dX0_tellYealm_0 rfl (lv_at hl 0 rfl) ?_
  refine lv_iload_n hx hb dX0_tellYealm_1 rfl (lv_at hl 1 rfl) ?_
  refine lv_iload_n hx hb dX0_tellYealm_2 rfl (lv_at hl 2 rfl) ?_
  have hPc := hP.sub (ws' := [(rh, .inr (0, [.int 10, .int 6, .int 30, .int 100, .int 0, .int 0, .ref rk, .ref rt, .ref rp, .ref rm])), (rt, .inl (cT, 60, .inl (fun _ => 0)))]) [0, 1] rfl
  have hKc := hK.sub (tys' := [(cT, .int)]) [0] rfl
  refine vp_callSi (va_runV (As := [.int (nI cu), .int (nI pl)]) (rest := []) ⟨hx, hb, hml, hown, hts⟩ (r0_hasYealm l dC dI rh rk rt rp rm cT cu pl (by first | assumption | decide | omega) (by first | assumption | decide | omega)) (cwV 2 hts gX0_tellYealm_X0_hasYealm rfl rfl rfl (by decide +kernel) ⟨Nat.le_of_ble_eq_true rfl, Nat.le_of_ble_eq_true rfl⟩) ⟨fun a U g mk q => by obtain ⟨q0, qP, qK⟩ := q; exact ⟨q0, qP, va_K.moved (u := U) (U := U.calling g mk a) (Vm.Alike.refl U.vm) qK⟩, va_recv hKc hPc (ci := 0) (q0 := 0) rfl rfl, fun U hU hW => ⟨rfl, by rw [hU]; exact hPc, va_K.moved hW.alike hKc⟩⟩ rfl rfl hl.1 rfl (lv_room (Nat.le_of_ble_eq_true rfl)) dX0_tellYealm_3 ⟨Nat.le_of_ble_eq_true rfl, Nat.le_of_ble_eq_true rfl⟩).run (fun r1 hr1 => ?_)
  obtain rfl := hr1
  refine lv_if_ne (tgt := 20) hx hb dX0_tellYealm_6 (by decide) (fun c2 => absurd c2 (by decide)) (fun c2 => ?_)
  refine lv_iload_n hx hb dX0_tellYealm_9 rfl (lv_at hl 3 rfl) ?_
  refine lv_iconst (v := 1) hx hb dX0_tellYealm_10 (by decide) ?_
  refine lv_icmp_ne (tgt := 18) hx hb dX0_tellYealm_11 (by decide) (fun c3 => absurd c3 (by decide)) (fun c3 => ?_)
  refine lv_iconst (v := (-1)) hx hb dX0_tellYealm_14 (by decide) ?_
  refine lv_goto (tgt := 19) hx hb dX0_tellYealm_15 (by decide) ?_
  exact W.iret (v := (-1)) hx hb hr (fun t ht hW => ⟨(-1), rfl, by (first | rfl | assumption | decide | (simp_all; done) | grind), ht⟩) (fun _ h => nomatch h) dX0_tellYealm_19

set_option maxHeartbeats 4000000 in
set_option maxRecDepth 100000 in
theorem r0_tellYealm2 (l : Launch) (dC : Nat → ClassId) (dI : Nat → Nat → Nat) (rh : Nat) (rk : Nat) (rt : Nat) (rp : Nat) (rm : Nat) (cT : ClassId) (cu : Nat) (pl : Nat) (hcu : cu < 6) (hpl : pl < 10) : Met l yX0_tellYealm wsX0_tellYealm ({ frames := 2, cells := 0, slots := 0, locals := 44 }) (va_Pc [.ref rh, .int (nI cu), .int (nI pl), .int 2] (fun U => va_P (dC, dI) vwCl [(rh, .inr (0, [.int 10, .int 6, .int 30, .int 100, .int 0, .int 0, .ref rk, .ref rt, .ref rp, .ref rm])), (rt, .inl (cT, 60, .inl (fun _ => 0)))] U.heap ∧ va_K (dC, dI) vwCl [(cT, .int)] U)) (vp_Si (fun r : Int32 => r = 0)) 0 0 (fun _ => False) := by
  refine Met.ofW (cc := cX0_tellYealm) (maxL := 5) (ret := (some .int)) (by decide) rfl ?_
  intro p e s m args below meth c s₁ B hml hv
  obtain ⟨rfl, hP, hK⟩ := hv
  have hx := B.exec
  have hb := B.bytes
  have hr := B.returns
  have hts := atoms_spec (ws := wsX0_tellYealm) B.pre
  have hown : s.vm.findClass RX0 = some m.cls := findClass_of_methodNamed B.named
  have hlocks := B.notSynchronized
  have hP : va_P (dC, dI) vwCl [(rh, .inr (0, [.int 10, .int 6, .int 30, .int 100, .int 0, .int 0, .ref rk, .ref rt, .ref rp, .ref rm])), (rt, .inl (cT, 60, .inl (fun _ => 0)))] s.heap := hP
  have hl := lv_entry ([.ref rh, .int (nI cu), .int (nI pl), .int 2]) (n := 5) (Nat.le_of_ble_eq_true rfl)
  rw [lg_entry_eq]
  generalize (lg_sl ([.ref rh, .int (nI cu), .int (nI pl), .int 2]) ++ List.replicate (5 - (lg_sl ([.ref rh, .int (nI cu), .int (nI pl), .int 2])).length) Slot.unset).toArray = ls at hl ⊢
  have hl : lv_has ls 5 [(0, .ref rh), (1, .int (nI cu)), (2, .int (nI pl)), (3, .int 2)] := hl
  refine lv_aload_n hx hb dX0_tellYealm_0 rfl (lv_at hl 0 rfl) ?_
  refine lv_iload_n hx hb dX0_tellYealm_1 rfl (lv_at hl 1 rfl) ?_
  refine lv_iload_n hx hb dX0_tellYealm_2 rfl (lv_at hl 2 rfl) ?_
  have hPc := hP.sub (ws' := [(rh, .inr (0, [.int 10, .int 6, .int 30, .int 100, .int 0, .int 0, .ref rk, .ref rt, .ref rp, .ref rm])), (rt, .inl (cT, 60, .inl (fun _ => 0)))]) [0, 1] rfl
  have hKc := hK.sub (tys' := [(cT, .int)]) [0] rfl
  refine vp_callSi (va_runV (As := [.int (nI cu), .int (nI pl)]) (rest := []) ⟨hx, hb, hml, hown, hts⟩ (r0_hasYealm l dC dI rh rk rt rp rm cT cu pl (by first | assumption | decide | omega) (by first | assumption | decide | omega)) (cwV 2 hts gX0_tellYealm_X0_hasYealm rfl rfl rfl (by decide +kernel) ⟨Nat.le_of_ble_eq_true rfl, Nat.le_of_ble_eq_true rfl⟩) ⟨fun a U g mk q => by obtain ⟨q0, qP, qK⟩ := q; exact ⟨q0, qP, va_K.moved (u := U) (U := U.calling g mk a) (Vm.Alike.refl U.vm) qK⟩, va_recv hKc hPc (ci := 0) (q0 := 0) rfl rfl, fun U hU hW => ⟨rfl, by rw [hU]; exact hPc, va_K.moved hW.alike hKc⟩⟩ rfl rfl hl.1 rfl (lv_room (Nat.le_of_ble_eq_true rfl)) dX0_tellYealm_3 ⟨Nat.le_of_ble_eq_true rfl, Nat.le_of_ble_eq_true rfl⟩).run (fun r1 hr1 => ?_)
  obtain rfl := hr1
  refine lv_if_ne (tgt := 20) hx hb dX0_tellYealm_6 (by decide) (fun c2 => absurd c2 (by decide)) (fun c2 => ?_)
  refine lv_iload_n hx hb dX0_tellYealm_9 rfl (lv_at hl 3 rfl) ?_
  refine lv_iconst (v := 1) hx hb dX0_tellYealm_10 (by decide) ?_
  refine lv_icmp_ne (tgt := 18) hx hb dX0_tellYealm_11 (by decide) (fun c3 => ?_) (fun c3 => absurd c3 (by decide))
  refine lv_iconst (v := 0) hx hb dX0_tellYealm_18 (by decide) ?_
  exact W.iret (v := 0) hx hb hr (fun t ht hW => ⟨0, rfl, by (first | rfl | assumption | decide | (simp_all; done) | grind), ht⟩) (fun _ h => nomatch h) dX0_tellYealm_19

set_option maxHeartbeats 4000000 in
set_option maxRecDepth 100000 in
theorem r0_tellYealm3 (l : Launch) (dC : Nat → ClassId) (dI : Nat → Nat → Nat) (rh : Nat) (rk : Nat) (rt : Nat) (rp : Nat) (rm : Nat) (cT : ClassId) (cu : Nat) (pl : Nat) (hcu : cu < 6) (hpl : pl < 10) : Met l yX0_tellYealm wsX0_tellYealm ({ frames := 2, cells := 0, slots := 0, locals := 44 }) (va_Pc [.ref rh, .int (nI cu), .int (nI pl), .int 3] (fun U => va_P (dC, dI) vwCl [(rh, .inr (0, [.int 10, .int 6, .int 30, .int 100, .int 0, .int 0, .ref rk, .ref rt, .ref rp, .ref rm])), (rt, .inl (cT, 60, .inl (fun _ => 0)))] U.heap ∧ va_K (dC, dI) vwCl [(cT, .int)] U)) (vp_Si (fun r : Int32 => r = 0)) 0 0 (fun _ => False) := by
  refine Met.ofW (cc := cX0_tellYealm) (maxL := 5) (ret := (some .int)) (by decide) rfl ?_
  intro p e s m args below meth c s₁ B hml hv
  obtain ⟨rfl, hP, hK⟩ := hv
  have hx := B.exec
  have hb := B.bytes
  have hr := B.returns
  have hts := atoms_spec (ws := wsX0_tellYealm) B.pre
  have hown : s.vm.findClass RX0 = some m.cls := findClass_of_methodNamed B.named
  have hlocks := B.notSynchronized
  have hP : va_P (dC, dI) vwCl [(rh, .inr (0, [.int 10, .int 6, .int 30, .int 100, .int 0, .int 0, .ref rk, .ref rt, .ref rp, .ref rm])), (rt, .inl (cT, 60, .inl (fun _ => 0)))] s.heap := hP
  have hl := lv_entry ([.ref rh, .int (nI cu), .int (nI pl), .int 3]) (n := 5) (Nat.le_of_ble_eq_true rfl)
  rw [lg_entry_eq]
  generalize (lg_sl ([.ref rh, .int (nI cu), .int (nI pl), .int 3]) ++ List.replicate (5 - (lg_sl ([.ref rh, .int (nI cu), .int (nI pl), .int 3])).length) Slot.unset).toArray = ls at hl ⊢
  have hl : lv_has ls 5 [(0, .ref rh), (1, .int (nI cu)), (2, .int (nI pl)), (3, .int 3)] := hl
  refine lv_aload_n hx hb dX0_tellYealm_0 rfl (lv_at hl 0 rfl) ?_
  refine lv_iload_n hx hb dX0_tellYealm_1 rfl (lv_at hl 1 rfl) ?_
  refine lv_iload_n hx hb dX0_tellYealm_2 rfl (lv_at hl 2 rfl) ?_
  have hPc := hP.sub (ws' := [(rh, .inr (0, [.int 10, .int 6, .int 30, .int 100, .int 0, .int 0, .ref rk, .ref rt, .ref rp, .ref rm])), (rt, .inl (cT, 60, .inl (fun _ => 0)))]) [0, 1] rfl
  have hKc := hK.sub (tys' := [(cT, .int)]) [0] rfl
  refine vp_callSi (va_runV (As := [.int (nI cu), .int (nI pl)]) (rest := []) ⟨hx, hb, hml, hown, hts⟩ (r0_hasYealm l dC dI rh rk rt rp rm cT cu pl (by first | assumption | decide | omega) (by first | assumption | decide | omega)) (cwV 2 hts gX0_tellYealm_X0_hasYealm rfl rfl rfl (by decide +kernel) ⟨Nat.le_of_ble_eq_true rfl, Nat.le_of_ble_eq_true rfl⟩) ⟨fun a U g mk q => by obtain ⟨q0, qP, qK⟩ := q; exact ⟨q0, qP, va_K.moved (u := U) (U := U.calling g mk a) (Vm.Alike.refl U.vm) qK⟩, va_recv hKc hPc (ci := 0) (q0 := 0) rfl rfl, fun U hU hW => ⟨rfl, by rw [hU]; exact hPc, va_K.moved hW.alike hKc⟩⟩ rfl rfl hl.1 rfl (lv_room (Nat.le_of_ble_eq_true rfl)) dX0_tellYealm_3 ⟨Nat.le_of_ble_eq_true rfl, Nat.le_of_ble_eq_true rfl⟩).run (fun r1 hr1 => ?_)
  obtain rfl := hr1
  refine lv_if_ne (tgt := 20) hx hb dX0_tellYealm_6 (by decide) (fun c2 => absurd c2 (by decide)) (fun c2 => ?_)
  refine lv_iload_n hx hb dX0_tellYealm_9 rfl (lv_at hl 3 rfl) ?_
  refine lv_iconst (v := 1) hx hb dX0_tellYealm_10 (by decide) ?_
  refine lv_icmp_ne (tgt := 18) hx hb dX0_tellYealm_11 (by decide) (fun c3 => ?_) (fun c3 => absurd c3 (by decide))
  refine lv_iconst (v := 0) hx hb dX0_tellYealm_18 (by decide) ?_
  exact W.iret (v := 0) hx hb hr (fun t ht hW => ⟨0, rfl, by (first | rfl | assumption | decide | (simp_all; done) | grind), ht⟩) (fun _ h => nomatch h) dX0_tellYealm_19

set_option maxHeartbeats 4000000 in
set_option maxRecDepth 100000 in
theorem r0_tellYealm4 (l : Launch) (dC : Nat → ClassId) (dI : Nat → Nat → Nat) (rh : Nat) (rk : Nat) (rt : Nat) (rp : Nat) (rm : Nat) (cT : ClassId) (cu : Nat) (pl : Nat) (hcu : cu < 6) (hpl : pl < 10) : Met l yX0_tellYealm wsX0_tellYealm ({ frames := 2, cells := 0, slots := 0, locals := 44 }) (va_Pc [.ref rh, .int (nI cu), .int (nI pl), .int 4] (fun U => va_P (dC, dI) vwCl [(rh, .inr (0, [.int 10, .int 6, .int 30, .int 100, .int 0, .int 0, .ref rk, .ref rt, .ref rp, .ref rm])), (rt, .inl (cT, 60, .inl (fun _ => 0)))] U.heap ∧ va_K (dC, dI) vwCl [(cT, .int)] U)) (vp_Si (fun r : Int32 => r = 0)) 0 0 (fun _ => False) := by
  refine Met.ofW (cc := cX0_tellYealm) (maxL := 5) (ret := (some .int)) (by decide) rfl ?_
  intro p e s m args below meth c s₁ B hml hv
  obtain ⟨rfl, hP, hK⟩ := hv
  have hx := B.exec
  have hb := B.bytes
  have hr := B.returns
  have hts := atoms_spec (ws := wsX0_tellYealm) B.pre
  have hown : s.vm.findClass RX0 = some m.cls := findClass_of_methodNamed B.named
  have hlocks := B.notSynchronized
  have hP : va_P (dC, dI) vwCl [(rh, .inr (0, [.int 10, .int 6, .int 30, .int 100, .int 0, .int 0, .ref rk, .ref rt, .ref rp, .ref rm])), (rt, .inl (cT, 60, .inl (fun _ => 0)))] s.heap := hP
  have hl := lv_entry ([.ref rh, .int (nI cu), .int (nI pl), .int 4]) (n := 5) (Nat.le_of_ble_eq_true rfl)
  rw [lg_entry_eq]
  generalize (lg_sl ([.ref rh, .int (nI cu), .int (nI pl), .int 4]) ++ List.replicate (5 - (lg_sl ([.ref rh, .int (nI cu), .int (nI pl), .int 4])).length) Slot.unset).toArray = ls at hl ⊢
  have hl : lv_has ls 5 [(0, .ref rh), (1, .int (nI cu)), (2, .int (nI pl)), (3, .int 4)] := hl
  refine lv_aload_n hx hb dX0_tellYealm_0 rfl (lv_at hl 0 rfl) ?_
  refine lv_iload_n hx hb dX0_tellYealm_1 rfl (lv_at hl 1 rfl) ?_
  refine lv_iload_n hx hb dX0_tellYealm_2 rfl (lv_at hl 2 rfl) ?_
  have hPc := hP.sub (ws' := [(rh, .inr (0, [.int 10, .int 6, .int 30, .int 100, .int 0, .int 0, .ref rk, .ref rt, .ref rp, .ref rm])), (rt, .inl (cT, 60, .inl (fun _ => 0)))]) [0, 1] rfl
  have hKc := hK.sub (tys' := [(cT, .int)]) [0] rfl
  refine vp_callSi (va_runV (As := [.int (nI cu), .int (nI pl)]) (rest := []) ⟨hx, hb, hml, hown, hts⟩ (r0_hasYealm l dC dI rh rk rt rp rm cT cu pl (by first | assumption | decide | omega) (by first | assumption | decide | omega)) (cwV 2 hts gX0_tellYealm_X0_hasYealm rfl rfl rfl (by decide +kernel) ⟨Nat.le_of_ble_eq_true rfl, Nat.le_of_ble_eq_true rfl⟩) ⟨fun a U g mk q => by obtain ⟨q0, qP, qK⟩ := q; exact ⟨q0, qP, va_K.moved (u := U) (U := U.calling g mk a) (Vm.Alike.refl U.vm) qK⟩, va_recv hKc hPc (ci := 0) (q0 := 0) rfl rfl, fun U hU hW => ⟨rfl, by rw [hU]; exact hPc, va_K.moved hW.alike hKc⟩⟩ rfl rfl hl.1 rfl (lv_room (Nat.le_of_ble_eq_true rfl)) dX0_tellYealm_3 ⟨Nat.le_of_ble_eq_true rfl, Nat.le_of_ble_eq_true rfl⟩).run (fun r1 hr1 => ?_)
  obtain rfl := hr1
  refine lv_if_ne (tgt := 20) hx hb dX0_tellYealm_6 (by decide) (fun c2 => absurd c2 (by decide)) (fun c2 => ?_)
  refine lv_iload_n hx hb dX0_tellYealm_9 rfl (lv_at hl 3 rfl) ?_
  refine lv_iconst (v := 1) hx hb dX0_tellYealm_10 (by decide) ?_
  refine lv_icmp_ne (tgt := 18) hx hb dX0_tellYealm_11 (by decide) (fun c3 => ?_) (fun c3 => absurd c3 (by decide))
  refine lv_iconst (v := 0) hx hb dX0_tellYealm_18 (by decide) ?_
  exact W.iret (v := 0) hx hb hr (fun t ht hW => ⟨0, rfl, by (first | rfl | assumption | decide | (simp_all; done) | grind), ht⟩) (fun _ h => nomatch h) dX0_tellYealm_19

set_option maxHeartbeats 4000000 in
set_option maxRecDepth 100000 in
theorem r0_tellYealm5 (l : Launch) (dC : Nat → ClassId) (dI : Nat → Nat → Nat) (rh : Nat) (rk : Nat) (rt : Nat) (rp : Nat) (rm : Nat) (cT : ClassId) (cu : Nat) (pl : Nat) (hcu : cu < 6) (hpl : pl < 10) : Met l yX0_tellYealm wsX0_tellYealm ({ frames := 2, cells := 0, slots := 0, locals := 44 }) (va_Pc [.ref rh, .int (nI cu), .int (nI pl), .int 5] (fun U => va_P (dC, dI) vwCl [(rh, .inr (0, [.int 10, .int 6, .int 30, .int 100, .int 0, .int 0, .ref rk, .ref rt, .ref rp, .ref rm])), (rt, .inl (cT, 60, .inl (fun _ => 0)))] U.heap ∧ va_K (dC, dI) vwCl [(cT, .int)] U)) (vp_Si (fun r : Int32 => r = 0)) 0 0 (fun _ => False) := by
  refine Met.ofW (cc := cX0_tellYealm) (maxL := 5) (ret := (some .int)) (by decide) rfl ?_
  intro p e s m args below meth c s₁ B hml hv
  obtain ⟨rfl, hP, hK⟩ := hv
  have hx := B.exec
  have hb := B.bytes
  have hr := B.returns
  have hts := atoms_spec (ws := wsX0_tellYealm) B.pre
  have hown : s.vm.findClass RX0 = some m.cls := findClass_of_methodNamed B.named
  have hlocks := B.notSynchronized
  have hP : va_P (dC, dI) vwCl [(rh, .inr (0, [.int 10, .int 6, .int 30, .int 100, .int 0, .int 0, .ref rk, .ref rt, .ref rp, .ref rm])), (rt, .inl (cT, 60, .inl (fun _ => 0)))] s.heap := hP
  have hl := lv_entry ([.ref rh, .int (nI cu), .int (nI pl), .int 5]) (n := 5) (Nat.le_of_ble_eq_true rfl)
  rw [lg_entry_eq]
  generalize (lg_sl ([.ref rh, .int (nI cu), .int (nI pl), .int 5]) ++ List.replicate (5 - (lg_sl ([.ref rh, .int (nI cu), .int (nI pl), .int 5])).length) Slot.unset).toArray = ls at hl ⊢
  have hl : lv_has ls 5 [(0, .ref rh), (1, .int (nI cu)), (2, .int (nI pl)), (3, .int 5)] := hl
  refine lv_aload_n hx hb dX0_tellYealm_0 rfl (lv_at hl 0 rfl) ?_
  refine lv_iload_n hx hb dX0_tellYealm_1 rfl (lv_at hl 1 rfl) ?_
  refine lv_iload_n hx hb dX0_tellYealm_2 rfl (lv_at hl 2 rfl) ?_
  have hPc := hP.sub (ws' := [(rh, .inr (0, [.int 10, .int 6, .int 30, .int 100, .int 0, .int 0, .ref rk, .ref rt, .ref rp, .ref rm])), (rt, .inl (cT, 60, .inl (fun _ => 0)))]) [0, 1] rfl
  have hKc := hK.sub (tys' := [(cT, .int)]) [0] rfl
  refine vp_callSi (va_runV (As := [.int (nI cu), .int (nI pl)]) (rest := []) ⟨hx, hb, hml, hown, hts⟩ (r0_hasYealm l dC dI rh rk rt rp rm cT cu pl (by first | assumption | decide | omega) (by first | assumption | decide | omega)) (cwV 2 hts gX0_tellYealm_X0_hasYealm rfl rfl rfl (by decide +kernel) ⟨Nat.le_of_ble_eq_true rfl, Nat.le_of_ble_eq_true rfl⟩) ⟨fun a U g mk q => by obtain ⟨q0, qP, qK⟩ := q; exact ⟨q0, qP, va_K.moved (u := U) (U := U.calling g mk a) (Vm.Alike.refl U.vm) qK⟩, va_recv hKc hPc (ci := 0) (q0 := 0) rfl rfl, fun U hU hW => ⟨rfl, by rw [hU]; exact hPc, va_K.moved hW.alike hKc⟩⟩ rfl rfl hl.1 rfl (lv_room (Nat.le_of_ble_eq_true rfl)) dX0_tellYealm_3 ⟨Nat.le_of_ble_eq_true rfl, Nat.le_of_ble_eq_true rfl⟩).run (fun r1 hr1 => ?_)
  obtain rfl := hr1
  refine lv_if_ne (tgt := 20) hx hb dX0_tellYealm_6 (by decide) (fun c2 => absurd c2 (by decide)) (fun c2 => ?_)
  refine lv_iload_n hx hb dX0_tellYealm_9 rfl (lv_at hl 3 rfl) ?_
  refine lv_iconst (v := 1) hx hb dX0_tellYealm_10 (by decide) ?_
  refine lv_icmp_ne (tgt := 18) hx hb dX0_tellYealm_11 (by decide) (fun c3 => ?_) (fun c3 => absurd c3 (by decide))
  refine lv_iconst (v := 0) hx hb dX0_tellYealm_18 (by decide) ?_
  exact W.iret (v := 0) hx hb hr (fun t ht hW => ⟨0, rfl, by (first | rfl | assumption | decide | (simp_all; done) | grind), ht⟩) (fun _ h => nomatch h) dX0_tellYealm_19

section
/-- the digest over one place without a yealm, over a roof's nine numbers, over so many places, over a roof, over so many roofs -/
def zz_y (d : Int64) : Int64 := ((((((d * 31 + 0) * 31 + (-1)) * 31 + 0) * 31 + 0) * 31 + 0) * 31 + 0)
def zz_r9 (d : Int64) : Int64 := (((((((((d * 31 + 10) * 31 + 6) * 31 + 30) * 31 + 100) * 31 + 0) * 31 + 0) * 31 + 10) * 31 + 0) * 31 + 0)
def zz_it : Nat → Int64 → Int64
  | 0, d => d
  | n + 1, d => zz_y (zz_it n d)
def zz_rf (d : Int64) : Int64 := zz_it 60 (zz_r9 d)
def zz_itr : Nat → Int64 → Int64
  | 0, d => d
  | n + 1, d => zz_rf (zz_itr n d)
theorem zz_6 (d : Int64) : zz_rf (zz_rf (zz_rf (zz_rf (zz_rf (zz_rf d))))) = zz_itr 6 d := by simp only [zz_itr]
theorem zN_mul (a b : Nat) : nI a * nI b = nI (a * b) := (Int32.ofNat_mul a b).symm
/-- a method that made a cell which its world still holds: the heap has grown -/
theorem zz_one {A : Nat → Prop} {ws w1 : va_W} {sz : Nat} {D : va_G} {cl : List vw_C} {H : Heap} (hAe : va_A ws sz = A) (hD : va_D A w1) (hP : va_P D cl w1 H) (i : Nat) (js : List Nat) {q : Nat × va_E} (hq : w1[i]? = some q)
    (hj : js.map (fun j => (w1[j]?).map Prod.fst) = ws.map (fun x => some x.1)) (hn : i ∉ js) : sz + 1 ≤ H.size := by
  have h1 : A q.1 := hD.2 i q hq
  rw [← hAe] at h1
  have h2 : q.1 < H.size := (hP i q hq).lt
  rcases h1 with ⟨k, e, hk⟩ | h1
  · have h3 : (js.map (fun j => (w1[j]?).map Prod.fst))[k]? = some (some q.1) := by rw [hj, List.getElem?_map, hk]; rfl
    rw [List.getElem?_map] at h3
    cases hi : js[k]? with
    | none => rw [hi] at h3; cases h3
    | some j =>
      rw [hi] at h3
      have h4 : (w1[j]?).map Prod.fst = some q.1 := Option.some.inj h3
      cases hw : w1[j]? with
      | none => rw [hw] at h4; cases h4
      | some y =>
        rw [hw] at h4
        have h5 : y.1 = q.1 := Option.some.inj h4
        have h6 := hD.1 j i y q hw hq h5
        subst h6
        exact absurd (List.mem_of_getElem? hi) hn
  · omega

set_option maxHeartbeats 4000000 in
set_option maxRecDepth 100000 in
theorem r0_thicknessAt (l : Launch) (dC : Nat → ClassId) (dI : Nat → Nat → Nat) (rh : Nat) (rk : Nat) (rt : Nat) (rp : Nat) (rm : Nat) (cT : ClassId) (cu : Nat) (pl : Nat) (hcu : cu < 6) (hpl : pl < 10) : Met l yX0_thicknessAt wsX0_thicknessAt ({ frames := 0, cells := 0, slots := 0, locals := 0 }) (va_Pc [.ref rh, .int (nI cu), .int (nI pl)] (fun U => va_P (dC, dI) vwCl [(rh, .inr (0, [.int 10, .int 6, .int 30, .int 100, .int 0, .int 0, .ref rk, .ref rt, .ref rp, .ref rm])), (rt, .inl (cT, 60, .inl (fun _ => 0)))] U.heap ∧ va_K (dC, dI) vwCl [(cT, .int)] U)) (vp_Si (fun r : Int32 => r = 0)) 0 0 (fun _ => False) := by
  refine Met.ofW (cc := cX0_thicknessAt) (maxL := 3) (ret := (some .int)) (by decide) rfl ?_
  intro p e s m args below meth c s₁ B hml hv
  obtain ⟨rfl, hP, hK⟩ := hv
  have hx := B.exec
  have hb := B.bytes
  have hr := B.returns
  have hts := atoms_spec (ws := wsX0_thicknessAt) B.pre
  have hown : s.vm.findClass RX0 = some m.cls := findClass_of_methodNamed B.named
  have hlocks := B.notSynchronized
  have hP : va_P (dC, dI) vwCl [(rh, .inr (0, [.int 10, .int 6, .int 30, .int 100, .int 0, .int 0, .ref rk, .ref rt, .ref rp, .ref rm])), (rt, .inl (cT, 60, .inl (fun _ => 0)))] s.heap := hP
  have hl := lv_entry ([.ref rh, .int (nI cu), .int (nI pl)]) (n := 3) (Nat.le_of_ble_eq_true rfl)
  rw [lg_entry_eq]
  generalize (lg_sl ([.ref rh, .int (nI cu), .int (nI pl)]) ++ List.replicate (3 - (lg_sl ([.ref rh, .int (nI cu), .int (nI pl)])).length) Slot.unset).toArray = ls at hl ⊢
  have hl : lv_has ls 3 [(0, .ref rh), (1, .int (nI cu)), (2, .int (nI pl))] := hl
  refine lv_iload_n hx hb dX0_thicknessAt_0 rfl (lv_at hl 1 rfl) ?_
  refine lv_if_lt (tgt := 24) hx hb dX0_thicknessAt_1 (by decide) (fun c1 => ?_) (fun c1 => ?_)
  · have nc1 : cu < 0 := (nI_ltI (a := cu) (b := 0) (by omega) (by omega)).mp c1
    refine lv_iconst (v := 0) hx hb dX0_thicknessAt_24 (by decide) ?_
    exact W.iret (v := 0) hx hb hr (fun t ht hW => ⟨0, rfl, by (first | rfl | assumption | decide | (simp_all; done) | grind), ht⟩) (fun _ h => nomatch h) dX0_thicknessAt_25
  · have nc1 : 0 ≤ cu := Nat.le_of_not_lt (fun q => c1 ((nI_ltI (a := cu) (b := 0) (by omega) (by omega)).mpr q))
    refine lv_iload_n hx hb dX0_thicknessAt_4 rfl (lv_at hl 1 rfl) ?_
    refine lv_aload_n hx hb dX0_thicknessAt_5 rfl (lv_at hl 0 rfl) ?_
    refine va_get (D := (dC, dI)) (ci := 0) (v := .int 6) (C := RX0) (T := TX0) (N := 10) hx hb hts (by decide +kernel) hown hK hP 0 rfl rfl 1 (by decide) (hts (.fieldLink RX0 28 "ThatchRoof$Roof" "courses" "I") (by decide +kernel)) (fun _ h9 => h9) rfl dX0_thicknessAt_6 ?_
    refine lv_icmp_ge (tgt := 24) hx hb dX0_thicknessAt_9 (by decide) (fun c2 => ?_) (fun c2 => ?_)
    · have nc2 : 6 ≤ cu := (nI_leI (a := 6) (b := cu) (by omega) (by omega)).mp c2
      refine lv_iconst (v := 0) hx hb dX0_thicknessAt_24 (by decide) ?_
      exact W.iret (v := 0) hx hb hr (fun t ht hW => ⟨0, rfl, by (first | rfl | assumption | decide | (simp_all; done) | grind), ht⟩) (fun _ h => nomatch h) dX0_thicknessAt_25
    · have nc2 : cu < 6 := Nat.lt_of_not_le (fun q => c2 ((nI_leI (a := 6) (b := cu) (by omega) (by omega)).mpr q))
      refine lv_iload_n hx hb dX0_thicknessAt_12 rfl (lv_at hl 2 rfl) ?_
      refine lv_if_lt (tgt := 24) hx hb dX0_thicknessAt_13 (by decide) (fun c3 => ?_) (fun c3 => ?_)
      · have nc3 : pl < 0 := (nI_ltI (a := pl) (b := 0) (by omega) (by omega)).mp c3
        refine lv_iconst (v := 0) hx hb dX0_thicknessAt_24 (by decide) ?_
        exact W.iret (v := 0) hx hb hr (fun t ht hW => ⟨0, rfl, by (first | rfl | assumption | decide | (simp_all; done) | grind), ht⟩) (fun _ h => nomatch h) dX0_thicknessAt_25
      · have nc3 : 0 ≤ pl := Nat.le_of_not_lt (fun q => c3 ((nI_ltI (a := pl) (b := 0) (by omega) (by omega)).mpr q))
        refine lv_iload_n hx hb dX0_thicknessAt_16 rfl (lv_at hl 2 rfl) ?_
        refine lv_aload_n hx hb dX0_thicknessAt_17 rfl (lv_at hl 0 rfl) ?_
        refine va_get (D := (dC, dI)) (ci := 0) (v := .int 10) (C := RX0) (T := TX0) (N := 10) hx hb hts (by decide +kernel) hown hK hP 0 rfl rfl 0 (by decide) (hts (.fieldLink RX0 24 "ThatchRoof$Roof" "width" "I") (by decide +kernel)) (fun _ h9 => h9) rfl dX0_thicknessAt_18 ?_
        refine lv_icmp_lt (tgt := 26) hx hb dX0_thicknessAt_21 (by decide) (fun c4 => ?_) (fun c4 => ?_)
        · have nc4 : pl < 10 := (nI_ltI (a := pl) (b := 10) (by omega) (by omega)).mp c4
          refine lv_aload_n hx hb dX0_thicknessAt_26 rfl (lv_at hl 0 rfl) ?_
          refine va_get (D := (dC, dI)) (ci := 0) (v := .ref rt) (C := RX0) (T := TX0) (N := 10) hx hb hts (by decide +kernel) hown hK hP 0 rfl rfl 7 (by decide) (hts (.fieldLink RX0 15 "ThatchRoof$Roof" "thicknesses" "[I") (by decide +kernel)) (fun _ h9 => h9) rfl dX0_thicknessAt_27 ?_
          refine lv_iload_n hx hb dX0_thicknessAt_30 rfl (lv_at hl 1 rfl) ?_
          refine lv_aload_n hx hb dX0_thicknessAt_31 rfl (lv_at hl 0 rfl) ?_
          refine va_get (D := (dC, dI)) (ci := 0) (v := .int 10) (C := RX0) (T := TX0) (N := 10) hx hb hts (by decide +kernel) hown hK hP 0 rfl rfl 0 (by decide) (hts (.fieldLink RX0 24 "ThatchRoof$Roof" "width" "I") (by decide +kernel)) (fun _ h9 => h9) rfl dX0_thicknessAt_32 ?_
          refine lv_imul hx hb dX0_thicknessAt_35 ?_
          refine lv_topi (fun x5 ex5 => ?_)
          obtain rfl : x5 = nI (cu * 10) := ex5.trans (zN_mul cu 10)
          refine lv_iload_n hx hb dX0_thicknessAt_36 rfl (lv_at hl 2 rfl) ?_
          refine lv_iadd hx hb dX0_thicknessAt_37 ?_
          refine lv_topi (fun x6 ex6 => ?_)
          obtain rfl : x6 = nI ((cu * 10) + pl) := ex6.trans (nI_add (cu * 10) pl)
          refine va_iald hx hb hK hP 1 0 rfl rfl (vp_in_nI (by omega) (by omega)) dX0_thicknessAt_38 ?_
          refine lv_topi (fun x7 ex7 => ?_)
          obtain rfl : x7 = 0 := ex7
          exact W.iret (v := 0) hx hb hr (fun t ht hW => ⟨0, rfl, by (first | rfl | assumption | decide | (simp_all; done) | grind), ht⟩) (fun _ h => nomatch h) dX0_thicknessAt_39
        · have nc4 : 10 ≤ pl := Nat.le_of_not_lt (fun q => c4 ((nI_ltI (a := pl) (b := 10) (by omega) (by omega)).mpr q))
          refine lv_iconst (v := 0) hx hb dX0_thicknessAt_24 (by decide) ?_
          exact W.iret (v := 0) hx hb hr (fun t ht hW => ⟨0, rfl, by (first | rfl | assumption | decide | (simp_all; done) | grind), ht⟩) (fun _ h => nomatch h) dX0_thicknessAt_25

set_option maxHeartbeats 4000000 in
set_option maxRecDepth 100000 in
theorem r0_hasYealm (l : Launch) (dC : Nat → ClassId) (dI : Nat → Nat → Nat) (rh : Nat) (rk : Nat) (rt : Nat) (rp : Nat) (rm : Nat) (cT : ClassId) (cu : Nat) (pl : Nat) (hcu : cu < 6) (hpl : pl < 10) : Met l yX0_hasYealm wsX0_hasYealm ({ frames := 1, cells := 0, slots := 0, locals := 22 }) (va_Pc [.ref rh, .int (nI cu), .int (nI pl)] (fun U => va_P (dC, dI) vwCl [(rh, .inr (0, [.int 10, .int 6, .int 30, .int 100, .int 0, .int 0, .ref rk, .ref rt, .ref rp, .ref rm])), (rt, .inl (cT, 60, .inl (fun _ => 0)))] U.heap ∧ va_K (dC, dI) vwCl [(cT, .int)] U)) (vp_Si (fun r : Int32 => r = 0)) 0 0 (fun _ => False) := by
  refine Met.ofW (cc := cX0_hasYealm) (maxL := 3) (ret := (some .boolean)) (by decide) rfl ?_
  intro p e s m args below meth c s₁ B hml hv
  obtain ⟨rfl, hP, hK⟩ := hv
  have hx := B.exec
  have hb := B.bytes
  have hr := B.returns
  have hts := atoms_spec (ws := wsX0_hasYealm) B.pre
  have hown : s.vm.findClass RX0 = some m.cls := findClass_of_methodNamed B.named
  have hlocks := B.notSynchronized
  have hP : va_P (dC, dI) vwCl [(rh, .inr (0, [.int 10, .int 6, .int 30, .int 100, .int 0, .int 0, .ref rk, .ref rt, .ref rp, .ref rm])), (rt, .inl (cT, 60, .inl (fun _ => 0)))] s.heap := hP
  have hl := lv_entry ([.ref rh, .int (nI cu), .int (nI pl)]) (n := 3) (Nat.le_of_ble_eq_true rfl)
  rw [lg_entry_eq]
  generalize (lg_sl ([.ref rh, .int (nI cu), .int (nI pl)]) ++ List.replicate (3 - (lg_sl ([.ref rh, .int (nI cu), .int (nI pl)])).length) Slot.unset).toArray = ls at hl ⊢
  have hl : lv_has ls 3 [(0, .ref rh), (1, .int (nI cu)), (2, .int (nI pl))] := hl
  refine lv_aload_n hx hb dX0_hasYealm_0 rfl (lv_at hl 0 rfl) ?_
  refine lv_iload_n hx hb dX0_hasYealm_1 rfl (lv_at hl 1 rfl) ?_
  refine lv_iload_n hx hb dX0_hasYealm_2 rfl (lv_at hl 2 rfl) ?_
  have hPc := hP.sub (ws' := [(rh, .inr (0, [.int 10, .int 6, .int 30, .int 100, .int 0, .int 0, .ref rk, .ref rt, .ref rp, .ref rm])), (rt, .inl (cT, 60, .inl (fun _ => 0)))]) [0, 1] rfl
  have hKc := hK.sub (tys' := [(cT, .int)]) [0] rfl
  refine vp_callSi (va_runV (As := [.int (nI cu), .int (nI pl)]) (rest := []) ⟨hx, hb, hml, hown, hts⟩ (r0_thicknessAt l dC dI rh rk rt rp rm cT cu pl (by first | assumption | decide | omega) (by first | assumption | decide | omega)) (cwV 2 hts gX0_hasYealm_X0_thicknessAt rfl rfl rfl (by decide +kernel) ⟨Nat.le_of_ble_eq_true rfl, Nat.le_of_ble_eq_true rfl⟩) ⟨fun a U g mk q => by obtain ⟨q0, qP, qK⟩ := q; exact ⟨q0, qP, va_K.moved (u := U) (U := U.calling g mk a) (Vm.Alike.refl U.vm) qK⟩, va_recv hKc hPc (ci := 0) (q0 := 0) rfl rfl, fun U hU hW => ⟨rfl, by rw [hU]; exact hPc, va_K.moved hW.alike hKc⟩⟩ rfl rfl hl.1 rfl (lv_room (Nat.le_of_ble_eq_true rfl)) dX0_hasYealm_3 ⟨Nat.le_of_ble_eq_true rfl, Nat.le_of_ble_eq_true rfl⟩).run (fun r1 hr1 => ?_)
  obtain rfl := hr1
  refine lv_if_le (tgt := 13) hx hb dX0_hasYealm_6 (by decide) (fun c2 => ?_) (fun c2 => absurd c2 (by decide))
  refine lv_iconst (v := 0) hx hb dX0_hasYealm_13 (by decide) ?_
  exact W.zret (v := 0) hx hb hr (by decide) (fun t ht hW => ⟨0, rfl, by (first | rfl | assumption | decide | (simp_all; done) | grind), ht⟩) (fun _ h => nomatch h) dX0_hasYealm_14

set_option maxHeartbeats 4000000 in
set_option maxRecDepth 100000 in
theorem r0_yealms (l : Launch) (dC : Nat → ClassId) (dI : Nat → Nat → Nat) (rh : Nat) (rk : Nat) (rt : Nat) (rp : Nat) (rm : Nat) (cT : ClassId) : Met l yX0_yealms wsX0_yealms ({ frames := 2, cells := 0, slots := 0, locals := 44 }) (va_Pc [.ref rh] (fun U => va_P (dC, dI) vwCl [(rh, .inr (0, [.int 10, .int 6, .int 30, .int 100, .int 0, .int 0, .ref rk, .ref rt, .ref rp, .ref rm])), (rt, .inl (cT, 60, .inl (fun _ => 0)))] U.heap ∧ va_K (dC, dI) vwCl [(cT, .int)] U)) (vp_Si (fun r : Int32 => r = 0)) 0 0 (fun _ => False) := by
  refine Met.ofW (cc := cX0_yealms) (maxL := 4) (ret := (some .int)) (by decide) rfl ?_
  intro p e s m args below meth c s₁ B hml hv
  obtain ⟨rfl, hP, hK⟩ := hv
  have hx := B.exec
  have hb := B.bytes
  have hr := B.returns
  have hts := atoms_spec (ws := wsX0_yealms) B.pre
  have hown : s.vm.findClass RX0 = some m.cls := findClass_of_methodNamed B.named
  have hlocks := B.notSynchronized
  have hP : va_P (dC, dI) vwCl [(rh, .inr (0, [.int 10, .int 6, .int 30, .int 100, .int 0, .int 0, .ref rk, .ref rt, .ref rp, .ref rm])), (rt, .inl (cT, 60, .inl (fun _ => 0)))] s.heap := hP
  have hl := lv_entry ([.ref rh]) (n := 4) (Nat.le_of_ble_eq_true rfl)
  rw [lg_entry_eq]
  generalize (lg_sl ([.ref rh]) ++ List.replicate (4 - (lg_sl ([.ref rh])).length) Slot.unset).toArray = ls at hl ⊢
  have hl : lv_has ls 4 [(0, .ref rh)] := hl
  refine lv_iconst (v := 0) hx hb dX0_yealms_0 (by decide) ?_
  refine lv_istore_n (lv' := [(1, .int 0), (0, .ref rh)]) hx hb dX0_yealms_1 rfl hl (by decide) rfl (fun ls hl => ?_)
  refine lv_iconst (v := 0) hx hb dX0_yealms_2 (by decide) ?_
  refine lv_istore_n (lv' := [(2, .int 0), (1, .int 0), (0, .ref rh)]) hx hb dX0_yealms_3 rfl hl (by decide) rfl (fun ls hl => ?_)
  suffices K4 : ∀ (n : Nat) (i : Nat), (i ≤ 6) → 6 - i < n → ∀ ls : Array Slot, lv_has ls 4 [(0, .ref rh), (1, .int 0), (2, .int (nI i))] → W p l e ({ frames := 2, cells := 0, slots := 0, locals := 44 } : Room) s m (([.ref rh] : List Value).toArray) below meth c s.heap [] 0 0 (MQ below (vp_Si (fun r : Int32 => r = 0)) (([.ref rh] : List Value).toArray) s 0 0 (fun _ => False)) (F0 m 4 ls []) from
    K4 _ 0 (by decide) (Nat.lt_succ_self _) _ (lv_sub hl [2, 1, 0] rfl)
  intro n
  induction n with
  | zero =>
    intro i hi hn
    exact absurd hn (Nat.not_lt_zero _)
  | succ n ih4 =>
    intro i hi hn4 ls hl
    refine lv_iload_n hx hb dX0_yealms_4 rfl (lv_at hl 2 rfl) ?_
    refine lv_aload_n hx hb dX0_yealms_5 rfl (lv_at hl 0 rfl) ?_
    refine va_get (D := (dC, dI)) (ci := 0) (v := .int 6) (C := RX0) (T := TX0) (N := 10) hx hb hts (by decide +kernel) hown hK hP 0 rfl rfl 1 (by decide) (hts (.fieldLink RX0 28 "ThatchRoof$Roof" "courses" "I") (by decide +kernel)) (fun _ h9 => h9) rfl dX0_yealms_6 ?_
    refine lv_icmp_ge (tgt := 46) hx hb dX0_yealms_9 (by decide) (fun c1 => ?_) (fun c1 => ?_)
    · have nc1 : 6 ≤ i := (nI_leI (a := 6) (b := i) (by omega) (by omega)).mp c1
      refine lv_iload_n hx hb dX0_yealms_46 rfl (lv_at hl 1 rfl) ?_
      exact W.iret (v := 0) hx hb hr (fun t ht hW => ⟨0, rfl, by (first | rfl | assumption | decide | (simp_all; done) | grind), ht⟩) (fun _ h => nomatch h) dX0_yealms_47
    · have nc1 : i < 6 := Nat.lt_of_not_le (fun q => c1 ((nI_leI (a := 6) (b := i) (by omega) (by omega)).mpr q))
      refine lv_iconst (v := 0) hx hb dX0_yealms_12 (by decide) ?_
      refine lv_istore_n (lv' := [(3, .int 0), (0, .ref rh), (1, .int 0), (2, .int (nI i))]) hx hb dX0_yealms_13 rfl hl (by decide) rfl (fun ls hl => ?_)
      suffices K14 : ∀ (n : Nat) (j : Nat), (j ≤ 10) → 10 - j < n → ∀ ls : Array Slot, lv_has ls 4 [(0, .ref rh), (1, .int 0), (2, .int (nI i)), (3, .int (nI j))] → W p l e ({ frames := 2, cells := 0, slots := 0, locals := 44 } : Room) s m (([.ref rh] : List Value).toArray) below meth c s.heap [] 0 0 (MQ below (vp_Si (fun r : Int32 => r = 0)) (([.ref rh] : List Value).toArray) s 0 0 (fun _ => False)) (F0 m 14 ls []) from
        K14 _ 0 (by decide) (Nat.lt_succ_self _) _ (lv_sub hl [1, 2, 3, 0] rfl)
      intro n
      induction n with
      | zero =>
        intro j hj hn
        exact absurd hn (Nat.not_lt_zero _)
      | succ n ih14 =>
        intro j hj hn14 ls hl
        refine lv_iload_n hx hb dX0_yealms_14 rfl (lv_at hl 3 rfl) ?_
        refine lv_aload_n hx hb dX0_yealms_15 rfl (lv_at hl 0 rfl) ?_
        refine va_get (D := (dC, dI)) (ci := 0) (v := .int 10) (C := RX0) (T := TX0) (N := 10) hx hb hts (by decide +kernel) hown hK hP 0 rfl rfl 0 (by decide) (hts (.fieldLink RX0 24 "ThatchRoof$Roof" "width" "I") (by decide +kernel)) (fun _ h9 => h9) rfl dX0_yealms_16 ?_
        refine lv_icmp_ge (tgt := 40) hx hb dX0_yealms_19 (by decide) (fun c2 => ?_) (fun c2 => ?_)
        · have nc2 : 10 ≤ j := (nI_leI (a := 10) (b := j) (by omega) (by omega)).mp c2
          refine lv_iinc (v := nI (i + 1)) (lv' := [(2, .int (nI (i + 1))), (0, .ref rh), (1, .int 0), (3, .int (nI j))]) hx hb dX0_yealms_40 hl (k := 2) rfl (by exact nI_1 i) (by decide) rfl (fun ls hl => ?_)
          refine lv_goto (tgt := 4) hx hb dX0_yealms_43 (by decide) ?_
          exact ih4 (i + 1) (by omega) (by omega) _ (lv_sub hl [1, 2, 0] rfl)
        · have nc2 : j < 10 := Nat.lt_of_not_le (fun q => c2 ((nI_leI (a := 10) (b := j) (by omega) (by omega)).mpr q))
          refine lv_aload_n hx hb dX0_yealms_22 rfl (lv_at hl 0 rfl) ?_
          refine lv_iload_n hx hb dX0_yealms_23 rfl (lv_at hl 2 rfl) ?_
          refine lv_iload_n hx hb dX0_yealms_24 rfl (lv_at hl 3 rfl) ?_
          have hPc := hP.sub (ws' := [(rh, .inr (0, [.int 10, .int 6, .int 30, .int 100, .int 0, .int 0, .ref rk, .ref rt, .ref rp, .ref rm])), (rt, .inl (cT, 60, .inl (fun _ => 0)))]) [0, 1] rfl
          have hKc := hK.sub (tys' := [(cT, .int)]) [0] rfl
          refine vp_callSi (va_runV (As := [.int (nI i), .int (nI j)]) (rest := []) ⟨hx, hb, hml, hown, hts⟩ (r0_hasYealm l dC dI rh rk rt rp rm cT i j (by first | assumption | decide | omega) (by first | assumption | decide | omega)) (cwV 2 hts gX0_yealms_X0_hasYealm rfl rfl rfl (by decide +kernel) ⟨Nat.le_of_ble_eq_true rfl, Nat.le_of_ble_eq_true rfl⟩) ⟨fun a U g mk q => by obtain ⟨q0, qP, qK⟩ := q; exact ⟨q0, qP, va_K.moved (u := U) (U := U.calling g mk a) (Vm.Alike.refl U.vm) qK⟩, va_recv hKc hPc (ci := 0) (q0 := 0) rfl rfl, fun U hU hW => ⟨rfl, by rw [hU]; exact hPc, va_K.moved hW.alike hKc⟩⟩ rfl rfl hl.1 rfl (lv_room (Nat.le_of_ble_eq_true rfl)) dX0_yealms_25 ⟨Nat.le_of_ble_eq_true rfl, Nat.le_of_ble_eq_true rfl⟩).run (fun r3 hr3 => ?_)
          obtain rfl := hr3
          refine lv_if_eq (tgt := 34) hx hb dX0_yealms_28 (by decide) (fun c4 => ?_) (fun c4 => absurd c4 (by decide))
          refine lv_iinc (v := nI (j + 1)) (lv' := [(3, .int (nI (j + 1))), (0, .ref rh), (1, .int 0), (2, .int (nI i))]) hx hb dX0_yealms_34 hl (k := 3) rfl (by exact nI_1 j) (by decide) rfl (fun ls hl => ?_)
          refine lv_goto (tgt := 14) hx hb dX0_yealms_37 (by decide) ?_
          exact ih14 (j + 1) (by omega) (by omega) _ (lv_sub hl [1, 2, 3, 0] rfl)

set_option maxHeartbeats 4000000 in
set_option maxRecDepth 100000 in
theorem r0_thicknessOver (l : Launch) (dC : Nat → ClassId) (dI : Nat → Nat → Nat) (rh : Nat) (rk : Nat) (rt : Nat) (rp : Nat) (rm : Nat) (cT : ClassId) (pl : Nat) (hpl : pl < 10) : Met l yX0_thicknessOver wsX0_thicknessOver ({ frames := 1, cells := 0, slots := 0, locals := 22 }) (va_Pc [.ref rh, .int (nI pl)] (fun U => va_P (dC, dI) vwCl [(rh, .inr (0, [.int 10, .int 6, .int 30, .int 100, .int 0, .int 0, .ref rk, .ref rt, .ref rp, .ref rm])), (rt, .inl (cT, 60, .inl (fun _ => 0)))] U.heap ∧ va_K (dC, dI) vwCl [(cT, .int)] U)) (vp_Si (fun r : Int32 => r = 0)) 0 0 (fun _ => False) := by
  refine Met.ofW (cc := cX0_thicknessOver) (maxL := 4) (ret := (some .int)) (by decide) rfl ?_
  intro p e s m args below meth c s₁ B hml hv
  obtain ⟨rfl, hP, hK⟩ := hv
  have hx := B.exec
  have hb := B.bytes
  have hr := B.returns
  have hts := atoms_spec (ws := wsX0_thicknessOver) B.pre
  have hown : s.vm.findClass RX0 = some m.cls := findClass_of_methodNamed B.named
  have hlocks := B.notSynchronized
  have hP : va_P (dC, dI) vwCl [(rh, .inr (0, [.int 10, .int 6, .int 30, .int 100, .int 0, .int 0, .ref rk, .ref rt, .ref rp, .ref rm])), (rt, .inl (cT, 60, .inl (fun _ => 0)))] s.heap := hP
  have hl := lv_entry ([.ref rh, .int (nI pl)]) (n := 4) (Nat.le_of_ble_eq_true rfl)
  rw [lg_entry_eq]
  generalize (lg_sl ([.ref rh, .int (nI pl)]) ++ List.replicate (4 - (lg_sl ([.ref rh, .int (nI pl)])).length) Slot.unset).toArray = ls at hl ⊢
  have hl : lv_has ls 4 [(0, .ref rh), (1, .int (nI pl))] := hl
  refine lv_iconst (v := 0) hx hb dX0_thicknessOver_0 (by decide) ?_
  refine lv_istore_n (lv' := [(2, .int 0), (0, .ref rh), (1, .int (nI pl))]) hx hb dX0_thicknessOver_1 rfl hl (by decide) rfl (fun ls hl => ?_)
  refine lv_iconst (v := 0) hx hb dX0_thicknessOver_2 (by decide) ?_
  refine lv_istore_n (lv' := [(3, .int 0), (2, .int 0), (0, .ref rh), (1, .int (nI pl))]) hx hb dX0_thicknessOver_3 rfl hl (by decide) rfl (fun ls hl => ?_)
  suffices K4 : ∀ (n : Nat) (i : Nat), (i ≤ 6) → 6 - i < n → ∀ ls : Array Slot, lv_has ls 4 [(0, .ref rh), (1, .int (nI pl)), (2, .int 0), (3, .int (nI i))] → W p l e ({ frames := 1, cells := 0, slots := 0, locals := 22 } : Room) s m (([.ref rh, .int (nI pl)] : List Value).toArray) below meth c s.heap [] 0 0 (MQ below (vp_Si (fun r : Int32 => r = 0)) (([.ref rh, .int (nI pl)] : List Value).toArray) s 0 0 (fun _ => False)) (F0 m 4 ls []) from
    K4 _ 0 (by decide) (Nat.lt_succ_self _) _ (lv_sub hl [2, 3, 1, 0] rfl)
  intro n
  induction n with
  | zero =>
    intro i hi hn
    exact absurd hn (Nat.not_lt_zero _)
  | succ n ih4 =>
    intro i hi hn4 ls hl
    refine lv_iload_n hx hb dX0_thicknessOver_4 rfl (lv_at hl 3 rfl) ?_
    refine lv_aload_n hx hb dX0_thicknessOver_5 rfl (lv_at hl 0 rfl) ?_
    refine va_get (D := (dC, dI)) (ci := 0) (v := .int 6) (C := RX0) (T := TX0) (N := 10) hx hb hts (by decide +kernel) hown hK hP 0 rfl rfl 1 (by decide) (hts (.fieldLink RX0 28 "ThatchRoof$Roof" "courses" "I") (by decide +kernel)) (fun _ h9 => h9) rfl dX0_thicknessOver_6 ?_
    refine lv_icmp_ge (tgt := 27) hx hb dX0_thicknessOver_9 (by decide) (fun c1 => ?_) (fun c1 => ?_)
    · have nc1 : 6 ≤ i := (nI_leI (a := 6) (b := i) (by omega) (by omega)).mp c1
      refine lv_iload_n hx hb dX0_thicknessOver_27 rfl (lv_at hl 2 rfl) ?_
      exact W.iret (v := 0) hx hb hr (fun t ht hW => ⟨0, rfl, by (first | rfl | assumption | decide | (simp_all; done) | grind), ht⟩) (fun _ h => nomatch h) dX0_thicknessOver_28
    · have nc1 : i < 6 := Nat.lt_of_not_le (fun q => c1 ((nI_leI (a := 6) (b := i) (by omega) (by omega)).mpr q))
      refine lv_iload_n hx hb dX0_thicknessOver_12 rfl (lv_at hl 2 rfl) ?_
      refine lv_aload_n hx hb dX0_thicknessOver_13 rfl (lv_at hl 0 rfl) ?_
      refine lv_iload_n hx hb dX0_thicknessOver_14 rfl (lv_at hl 3 rfl) ?_
      refine lv_iload_n hx hb dX0_thicknessOver_15 rfl (lv_at hl 1 rfl) ?_
      have hPc := hP.sub (ws' := [(rh, .inr (0, [.int 10, .int 6, .int 30, .int 100, .int 0, .int 0, .ref rk, .ref rt, .ref rp, .ref rm])), (rt, .inl (cT, 60, .inl (fun _ => 0)))]) [0, 1] rfl
      have hKc := hK.sub (tys' := [(cT, .int)]) [0] rfl
      refine vp_callSi (va_runV (As := [.int (nI i), .int (nI pl)]) (rest := [.int 0]) ⟨hx, hb, hml, hown, hts⟩ (r0_thicknessAt l dC dI rh rk rt rp rm cT i pl (by first | assumption | decide | omega) (by first | assumption | decide | omega)) (cwV 2 hts gX0_thicknessOver_X0_thicknessAt rfl rfl rfl (by decide +kernel) ⟨Nat.le_of_ble_eq_true rfl, Nat.le_of_ble_eq_true rfl⟩) ⟨fun a U g mk q => by obtain ⟨q0, qP, qK⟩ := q; exact ⟨q0, qP, va_K.moved (u := U) (U := U.calling g mk a) (Vm.Alike.refl U.vm) qK⟩, va_recv hKc hPc (ci := 0) (q0 := 0) rfl rfl, fun U hU hW => ⟨rfl, by rw [hU]; exact hPc, va_K.moved hW.alike hKc⟩⟩ rfl rfl hl.1 rfl (lv_room (Nat.le_of_ble_eq_true rfl)) dX0_thicknessOver_16 ⟨Nat.le_of_ble_eq_true rfl, Nat.le_of_ble_eq_true rfl⟩).run (fun r2 hr2 => ?_)
      obtain rfl := hr2
      refine lv_iadd hx hb dX0_thicknessOver_19 ?_
      refine W.eq (g2 := F0 m 20 ls [.int 0]) rfl ?_
      refine lv_istore_n (lv' := [(2, .int 0), (0, .ref rh), (1, .int (nI pl)), (3, .int (nI i))]) hx hb dX0_thicknessOver_20 rfl hl (by decide) rfl (fun ls hl => ?_)
      refine lv_iinc (v := nI (i + 1)) (lv' := [(3, .int (nI (i + 1))), (2, .int 0), (0, .ref rh), (1, .int (nI pl))]) hx hb dX0_thicknessOver_21 hl (k := 3) rfl (by exact nI_1 i) (by decide) rfl (fun ls hl => ?_)
      refine lv_goto (tgt := 4) hx hb dX0_thicknessOver_24 (by decide) ?_
      exact ih4 (i + 1) (by omega) (by omega) _ (lv_sub hl [2, 3, 1, 0] rfl)

set_option maxHeartbeats 4000000 in
set_option maxRecDepth 100000 in
theorem r0_thicknessInAll (l : Launch) (dC : Nat → ClassId) (dI : Nat → Nat → Nat) (rh : Nat) (rk : Nat) (rt : Nat) (rp : Nat) (rm : Nat) (cT : ClassId) : Met l yX0_thicknessInAll wsX0_thicknessInAll ({ frames := 2, cells := 0, slots := 0, locals := 45 }) (va_Pc [.ref rh] (fun U => va_P (dC, dI) vwCl [(rh, .inr (0, [.int 10, .int 6, .int 30, .int 100, .int 0, .int 0, .ref rk, .ref rt, .ref rp, .ref rm])), (rt, .inl (cT, 60, .inl (fun _ => 0)))] U.heap ∧ va_K (dC, dI) vwCl [(cT, .int)] U)) (vp_Si (fun r : Int32 => r = 0)) 0 0 (fun _ => False) := by
  refine Met.ofW (cc := cX0_thicknessInAll) (maxL := 3) (ret := (some .int)) (by decide) rfl ?_
  intro p e s m args below meth c s₁ B hml hv
  obtain ⟨rfl, hP, hK⟩ := hv
  have hx := B.exec
  have hb := B.bytes
  have hr := B.returns
  have hts := atoms_spec (ws := wsX0_thicknessInAll) B.pre
  have hown : s.vm.findClass RX0 = some m.cls := findClass_of_methodNamed B.named
  have hlocks := B.notSynchronized
  have hP : va_P (dC, dI) vwCl [(rh, .inr (0, [.int 10, .int 6, .int 30, .int 100, .int 0, .int 0, .ref rk, .ref rt, .ref rp, .ref rm])), (rt, .inl (cT, 60, .inl (fun _ => 0)))] s.heap := hP
  have hl := lv_entry ([.ref rh]) (n := 3) (Nat.le_of_ble_eq_true rfl)
  rw [lg_entry_eq]
  generalize (lg_sl ([.ref rh]) ++ List.replicate (3 - (lg_sl ([.ref rh])).length) Slot.unset).toArray = ls at hl ⊢
  have hl : lv_has ls 3 [(0, .ref rh)] := hl
  refine lv_iconst (v := 0) hx hb dX0_thicknessInAll_0 (by decide) ?_
  refine lv_istore_n (lv' := [(1, .int 0), (0, .ref rh)]) hx hb dX0_thicknessInAll_1 rfl hl (by decide) rfl (fun ls hl => ?_)
  refine lv_iconst (v := 0) hx hb dX0_thicknessInAll_2 (by decide) ?_
  refine lv_istore_n (lv' := [(2, .int 0), (1, .int 0), (0, .ref rh)]) hx hb dX0_thicknessInAll_3 rfl hl (by decide) rfl (fun ls hl => ?_)
  suffices K4 : ∀ (n : Nat) (j : Nat), (j ≤ 10) → 10 - j < n → ∀ ls : Array Slot, lv_has ls 3 [(0, .ref rh), (1, .int 0), (2, .int (nI j))] → W p l e ({ frames := 2, cells := 0, slots := 0, locals := 45 } : Room) s m (([.ref rh] : List Value).toArray) below meth c s.heap [] 0 0 (MQ below (vp_Si (fun r : Int32 => r = 0)) (([.ref rh] : List Value).toArray) s 0 0 (fun _ => False)) (F0 m 4 ls []) from
    K4 _ 0 (by decide) (Nat.lt_succ_self _) _ (lv_sub hl [2, 1, 0] rfl)
  intro n
  induction n with
  | zero =>
    intro j hj hn
    exact absurd hn (Nat.not_lt_zero _)
  | succ n ih4 =>
    intro j hj hn4 ls hl
    refine lv_iload_n hx hb dX0_thicknessInAll_4 rfl (lv_at hl 2 rfl) ?_
    refine lv_aload_n hx hb dX0_thicknessInAll_5 rfl (lv_at hl 0 rfl) ?_
    refine va_get (D := (dC, dI)) (ci := 0) (v := .int 10) (C := RX0) (T := TX0) (N := 10) hx hb hts (by decide +kernel) hown hK hP 0 rfl rfl 0 (by decide) (hts (.fieldLink RX0 24 "ThatchRoof$Roof" "width" "I") (by decide +kernel)) (fun _ h9 => h9) rfl dX0_thicknessInAll_6 ?_
    refine lv_icmp_ge (tgt := 26) hx hb dX0_thicknessInAll_9 (by decide) (fun c1 => ?_) (fun c1 => ?_)
    · have nc1 : 10 ≤ j := (nI_leI (a := 10) (b := j) (by omega) (by omega)).mp c1
      refine lv_iload_n hx hb dX0_thicknessInAll_26 rfl (lv_at hl 1 rfl) ?_
      exact W.iret (v := 0) hx hb hr (fun t ht hW => ⟨0, rfl, by (first | rfl | assumption | decide | (simp_all; done) | grind), ht⟩) (fun _ h => nomatch h) dX0_thicknessInAll_27
    · have nc1 : j < 10 := Nat.lt_of_not_le (fun q => c1 ((nI_leI (a := 10) (b := j) (by omega) (by omega)).mpr q))
      refine lv_iload_n hx hb dX0_thicknessInAll_12 rfl (lv_at hl 1 rfl) ?_
      refine lv_aload_n hx hb dX0_thicknessInAll_13 rfl (lv_at hl 0 rfl) ?_
      refine lv_iload_n hx hb dX0_thicknessInAll_14 rfl (lv_at hl 2 rfl) ?_
      have hPc := hP.sub (ws' := [(rh, .inr (0, [.int 10, .int 6, .int 30, .int 100, .int 0, .int 0, .ref rk, .ref rt, .ref rp, .ref rm])), (rt, .inl (cT, 60, .inl (fun _ => 0)))]) [0, 1] rfl
      have hKc := hK.sub (tys' := [(cT, .int)]) [0] rfl
      refine vp_callSi (va_runV (As := [.int (nI j)]) (rest := [.int 0]) ⟨hx, hb, hml, hown, hts⟩ (r0_thicknessOver l dC dI rh rk rt rp rm cT j (by first | assumption | decide | omega)) (cwV 1 hts gX0_thicknessInAll_X0_thicknessOver rfl rfl rfl (by decide +kernel) ⟨Nat.le_of_ble_eq_true rfl, Nat.le_of_ble_eq_true rfl⟩) ⟨fun a U g mk q => by obtain ⟨q0, qP, qK⟩ := q; exact ⟨q0, qP, va_K.moved (u := U) (U := U.calling g mk a) (Vm.Alike.refl U.vm) qK⟩, va_recv hKc hPc (ci := 0) (q0 := 0) rfl rfl, fun U hU hW => ⟨rfl, by rw [hU]; exact hPc, va_K.moved hW.alike hKc⟩⟩ rfl rfl hl.1 rfl (lv_room (Nat.le_of_ble_eq_true rfl)) dX0_thicknessInAll_15 ⟨Nat.le_of_ble_eq_true rfl, Nat.le_of_ble_eq_true rfl⟩).run (fun r2 hr2 => ?_)
      obtain rfl := hr2
      refine lv_iadd hx hb dX0_thicknessInAll_18 ?_
      refine W.eq (g2 := F0 m 19 ls [.int 0]) rfl ?_
      refine lv_istore_n (lv' := [(1, .int 0), (0, .ref rh), (2, .int (nI j))]) hx hb dX0_thicknessInAll_19 rfl hl (by decide) rfl (fun ls hl => ?_)
      refine lv_iinc (v := nI (j + 1)) (lv' := [(2, .int (nI (j + 1))), (1, .int 0), (0, .ref rh)]) hx hb dX0_thicknessInAll_20 hl (k := 2) rfl (by exact nI_1 j) (by decide) rfl (fun ls hl => ?_)
      refine lv_goto (tgt := 4) hx hb dX0_thicknessInAll_23 (by decide) ?_
      exact ih4 (j + 1) (by omega) (by omega) _ (lv_sub hl [2, 1, 0] rfl)

set_option maxHeartbeats 4000000 in
set_option maxRecDepth 100000 in
theorem r0_leaks (l : Launch) (dC : Nat → ClassId) (dI : Nat → Nat → Nat) (rh : Nat) (rk : Nat) (rt : Nat) (rp : Nat) (rm : Nat) (cT : ClassId) : Met l yX0_leaks wsX0_leaks ({ frames := 2, cells := 0, slots := 0, locals := 45 }) (va_Pc [.ref rh] (fun U => va_P (dC, dI) vwCl [(rh, .inr (0, [.int 10, .int 6, .int 30, .int 100, .int 0, .int 0, .ref rk, .ref rt, .ref rp, .ref rm])), (rt, .inl (cT, 60, .inl (fun _ => 0)))] U.heap ∧ va_K (dC, dI) vwCl [(cT, .int)] U)) (vp_Si (fun r : Int32 => r = 10)) 0 0 (fun _ => False) := by
  refine Met.ofW (cc := cX0_leaks) (maxL := 3) (ret := (some .int)) (by decide) rfl ?_
  intro p e s m args below meth c s₁ B hml hv
  obtain ⟨rfl, hP, hK⟩ := hv
  have hx := B.exec
  have hb := B.bytes
  have hr := B.returns
  have hts := atoms_spec (ws := wsX0_leaks) B.pre
  have hown : s.vm.findClass RX0 = some m.cls := findClass_of_methodNamed B.named
  have hlocks := B.notSynchronized
  have hP : va_P (dC, dI) vwCl [(rh, .inr (0, [.int 10, .int 6, .int 30, .int 100, .int 0, .int 0, .ref rk, .ref rt, .ref rp, .ref rm])), (rt, .inl (cT, 60, .inl (fun _ => 0)))] s.heap := hP
  have hl := lv_entry ([.ref rh]) (n := 3) (Nat.le_of_ble_eq_true rfl)
  rw [lg_entry_eq]
  generalize (lg_sl ([.ref rh]) ++ List.replicate (3 - (lg_sl ([.ref rh])).length) Slot.unset).toArray = ls at hl ⊢
  have hl : lv_has ls 3 [(0, .ref rh)] := hl
  refine lv_iconst (v := 0) hx hb dX0_leaks_0 (by decide) ?_
  refine lv_istore_n (lv' := [(1, .int 0), (0, .ref rh)]) hx hb dX0_leaks_1 rfl hl (by decide) rfl (fun ls hl => ?_)
  refine lv_iconst (v := 0) hx hb dX0_leaks_2 (by decide) ?_
  refine lv_istore_n (lv' := [(2, .int 0), (1, .int 0), (0, .ref rh)]) hx hb dX0_leaks_3 rfl hl (by decide) rfl (fun ls hl => ?_)
  suffices K4 : ∀ (n : Nat) (j : Nat), (j ≤ 10) → 10 - j < n → ∀ ls : Array Slot, lv_has ls 3 [(0, .ref rh), (1, .int (nI j)), (2, .int (nI j))] → W p l e ({ frames := 2, cells := 0, slots := 0, locals := 45 } : Room) s m (([.ref rh] : List Value).toArray) below meth c s.heap [] 0 0 (MQ below (vp_Si (fun r : Int32 => r = 10)) (([.ref rh] : List Value).toArray) s 0 0 (fun _ => False)) (F0 m 4 ls []) from
    K4 _ 0 (by decide) (Nat.lt_succ_self _) _ (lv_sub hl [2, 1, 0] rfl)
  intro n
  induction n with
  | zero =>
    intro j hj hn
    exact absurd hn (Nat.not_lt_zero _)
  | succ n ih4 =>
    intro j hj hn4 ls hl
    refine lv_iload_n hx hb dX0_leaks_4 rfl (lv_at hl 2 rfl) ?_
    refine lv_aload_n hx hb dX0_leaks_5 rfl (lv_at hl 0 rfl) ?_
    refine va_get (D := (dC, dI)) (ci := 0) (v := .int 10) (C := RX0) (T := TX0) (N := 10) hx hb hts (by decide +kernel) hown hK hP 0 rfl rfl 0 (by decide) (hts (.fieldLink RX0 24 "ThatchRoof$Roof" "width" "I") (by decide +kernel)) (fun _ h9 => h9) rfl dX0_leaks_6 ?_
    refine lv_icmp_ge (tgt := 50) hx hb dX0_leaks_9 (by decide) (fun c1 => ?_) (fun c1 => ?_)
    · have nc1 : 10 ≤ j := (nI_leI (a := 10) (b := j) (by omega) (by omega)).mp c1
      refine lv_iload_n hx hb dX0_leaks_50 rfl (lv_at hl 1 rfl) ?_
      exact W.iret (v := nI j) hx hb hr (fun t ht hW => ⟨nI j, rfl, by have h9 : j = 10 := (by omega); subst h9; rfl, ht⟩) (fun _ h => nomatch h) dX0_leaks_51
    · have nc1 : j < 10 := Nat.lt_of_not_le (fun q => c1 ((nI_leI (a := 10) (b := j) (by omega) (by omega)).mpr q))
      refine lv_aload_n hx hb dX0_leaks_12 rfl (lv_at hl 0 rfl) ?_
      refine lv_iload_n hx hb dX0_leaks_13 rfl (lv_at hl 2 rfl) ?_
      have hPc := hP.sub (ws' := [(rh, .inr (0, [.int 10, .int 6, .int 30, .int 100, .int 0, .int 0, .ref rk, .ref rt, .ref rp, .ref rm])), (rt, .inl (cT, 60, .inl (fun _ => 0)))]) [0, 1] rfl
      have hKc := hK.sub (tys' := [(cT, .int)]) [0] rfl
      refine vp_callSi (va_runV (As := [.int (nI j)]) (rest := []) ⟨hx, hb, hml, hown, hts⟩ (r0_thicknessOver l dC dI rh rk rt rp rm cT j (by first | assumption | decide | omega)) (cwV 1 hts gX0_leaks_X0_thicknessOver rfl rfl rfl (by decide +kernel) ⟨Nat.le_of_ble_eq_true rfl, Nat.le_of_ble_eq_true rfl⟩) ⟨fun a U g mk q => by obtain ⟨q0, qP, qK⟩ := q; exact ⟨q0, qP, va_K.moved (u := U) (U := U.calling g mk a) (Vm.Alike.refl U.vm) qK⟩, va_recv hKc hPc (ci := 0) (q0 := 0) rfl rfl, fun U hU hW => ⟨rfl, by rw [hU]; exact hPc, va_K.moved hW.alike hKc⟩⟩ rfl rfl hl.1 rfl (lv_room (Nat.le_of_ble_eq_true rfl)) dX0_leaks_14 ⟨Nat.le_of_ble_eq_true rfl, Nat.le_of_ble_eq_true rfl⟩).run (fun r2 hr2 => ?_)
      obtain rfl := hr2
      refine lv_bipush (v := 8) hx hb dX0_leaks_17 (by decide) ?_
      refine lv_aload_n hx hb dX0_leaks_19 rfl (lv_at hl 0 rfl) ?_
      refine va_get (D := (dC, dI)) (ci := 0) (v := .int 6) (C := RX0) (T := TX0) (N := 10) hx hb hts (by decide +kernel) hown hK hP 0 rfl rfl 1 (by decide) (hts (.fieldLink RX0 28 "ThatchRoof$Roof" "courses" "I") (by decide +kernel)) (fun _ h9 => h9) rfl dX0_leaks_20 ?_
      refine lv_imul hx hb dX0_leaks_23 ?_
      refine W.eq (g2 := F0 m 24 ls [.int 48, .int 0]) rfl ?_
      refine lv_icmp_lt (tgt := 41) hx hb dX0_leaks_24 (by decide) (fun c3 => ?_) (fun c3 => absurd c3 (by decide))
      refine lv_iinc (v := nI (j + 1)) (lv' := [(1, .int (nI (j + 1))), (0, .ref rh), (2, .int (nI j))]) hx hb dX0_leaks_41 hl (k := 1) rfl (by exact nI_1 j) (by decide) rfl (fun ls hl => ?_)
      refine lv_iinc (v := nI (j + 1)) (lv' := [(2, .int (nI (j + 1))), (1, .int (nI (j + 1))), (0, .ref rh)]) hx hb dX0_leaks_44 hl (k := 2) rfl (by exact nI_1 j) (by decide) rfl (fun ls hl => ?_)
      refine lv_goto (tgt := 4) hx hb dX0_leaks_47 (by decide) ?_
      exact ih4 (j + 1) (by omega) (by omega) _ (lv_sub hl [2, 1, 0] rfl)

set_option maxHeartbeats 4000000 in
set_option maxRecDepth 100000 in
theorem r0_tell0 (l : Launch) (dC : Nat → ClassId) (dI : Nat → Nat → Nat) (rh : Nat) (rk : Nat) (rt : Nat) (rp : Nat) (rm : Nat) (cT : ClassId) : Met l yX0_tell wsX0_tell ({ frames := 0, cells := 0, slots := 0, locals := 0 }) (va_Pc [.ref rh, .int 0] (fun U => va_P (dC, dI) vwCl [(rh, .inr (0, [.int 10, .int 6, .int 30, .int 100, .int 0, .int 0, .ref rk, .ref rt, .ref rp, .ref rm])), (rt, .inl (cT, 60, .inl (fun _ => 0)))] U.heap ∧ va_K (dC, dI) vwCl [(cT, .int)] U)) (vp_Si (fun r : Int32 => r = 10)) 0 0 (fun _ => False) := by
  refine Met.ofW (cc := cX0_tell) (maxL := 2) (ret := (some .int)) (by decide) rfl ?_
  intro p e s m args below meth c s₁ B hml hv
  obtain ⟨rfl, hP, hK⟩ := hv
  have hx := B.exec
  have hb := B.bytes
  have hr := B.returns
  have hts := atoms_spec (ws := wsX0_tell) B.pre
  have hown : s.vm.findClass RX0 = some m.cls := findClass_of_methodNamed B.named
  have hlocks := B.notSynchronized
  have hP : va_P (dC, dI) vwCl [(rh, .inr (0, [.int 10, .int 6, .int 30, .int 100, .int 0, .int 0, .ref rk, .ref rt, .ref rp, .ref rm])), (rt, .inl (cT, 60, .inl (fun _ => 0)))] s.heap := hP
  have hl := lv_entry ([.ref rh, .int 0]) (n := 2) (Nat.le_of_ble_eq_true rfl)
  rw [lg_entry_eq]
  generalize (lg_sl ([.ref rh, .int 0]) ++ List.replicate (2 - (lg_sl ([.ref rh, .int 0])).length) Slot.unset).toArray = ls at hl ⊢
  have hl : lv_has ls 2 [(0, .ref rh), (1, .int 0)] := hl
  refine lv_iload_n hx hb dX0_tell_0 rfl (lv_at hl 1 rfl) ?_
  refine lv_tableIn (off := 47) (tgt := 48) hx hb dX0_tell_1 (by decide) (by decide) (by rfl) (by decide) ?_
  refine lv_aload_n hx hb dX0_tell_48 rfl (lv_at hl 0 rfl) ?_
  refine va_get (D := (dC, dI)) (ci := 0) (v := .int 10) (C := RX0) (T := TX0) (N := 10) hx hb hts (by decide +kernel) hown hK hP 0 rfl rfl 0 (by decide) (hts (.fieldLink RX0 24 "ThatchRoof$Roof" "width" "I") (by decide +kernel)) (fun _ h9 => h9) rfl dX0_tell_49 ?_
  exact W.iret (v := 10) hx hb hr (fun t ht hW => ⟨10, rfl, by (first | rfl | assumption | decide | (simp_all; done) | grind), ht⟩) (fun _ h => nomatch h) dX0_tell_52

set_option maxHeartbeats 4000000 in
set_option maxRecDepth 100000 in
theorem r0_tell1 (l : Launch) (dC : Nat → ClassId) (dI : Nat → Nat → Nat) (rh : Nat) (rk : Nat) (rt : Nat) (rp : Nat) (rm : Nat) (cT : ClassId) : Met l yX0_tell wsX0_tell ({ frames := 0, cells := 0, slots := 0, locals := 0 }) (va_Pc [.ref rh, .int 1] (fun U => va_P (dC, dI) vwCl [(rh, .inr (0, [.int 10, .int 6, .int 30, .int 100, .int 0, .int 0, .ref rk, .ref rt, .ref rp, .ref rm])), (rt, .inl (cT, 60, .inl (fun _ => 0)))] U.heap ∧ va_K (dC, dI) vwCl [(cT, .int)] U)) (vp_Si (fun r : Int32 => r = 6)) 0 0 (fun _ => False) := by
  refine Met.ofW (cc := cX0_tell) (maxL := 2) (ret := (some .int)) (by decide) rfl ?_
  intro p e s m args below meth c s₁ B hml hv
  obtain ⟨rfl, hP, hK⟩ := hv
  have hx := B.exec
  have hb := B.bytes
  have hr := B.returns
  have hts := atoms_spec (ws := wsX0_tell) B.pre
  have hown : s.vm.findClass RX0 = some m.cls := findClass_of_methodNamed B.named
  have hlocks := B.notSynchronized
  have hP : va_P (dC, dI) vwCl [(rh, .inr (0, [.int 10, .int 6, .int 30, .int 100, .int 0, .int 0, .ref rk, .ref rt, .ref rp, .ref rm])), (rt, .inl (cT, 60, .inl (fun _ => 0)))] s.heap := hP
  have hl := lv_entry ([.ref rh, .int 1]) (n := 2) (Nat.le_of_ble_eq_true rfl)
  rw [lg_entry_eq]
  generalize (lg_sl ([.ref rh, .int 1]) ++ List.replicate (2 - (lg_sl ([.ref rh, .int 1])).length) Slot.unset).toArray = ls at hl ⊢
  have hl : lv_has ls 2 [(0, .ref rh), (1, .int 1)] := hl
  refine lv_iload_n hx hb dX0_tell_0 rfl (lv_at hl 1 rfl) ?_
  refine lv_tableIn (off := 52) (tgt := 53) hx hb dX0_tell_1 (by decide) (by decide) (by rfl) (by decide) ?_
  refine lv_aload_n hx hb dX0_tell_53 rfl (lv_at hl 0 rfl) ?_
  refine va_get (D := (dC, dI)) (ci := 0) (v := .int 6) (C := RX0) (T := TX0) (N := 10) hx hb hts (by decide +kernel) hown hK hP 0 rfl rfl 1 (by decide) (hts (.fieldLink RX0 28 "ThatchRoof$Roof" "courses" "I") (by decide +kernel)) (fun _ h9 => h9) rfl dX0_tell_54 ?_
  exact W.iret (v := 6) hx hb hr (fun t ht hW => ⟨6, rfl, by (first | rfl | assumption | decide | (simp_all; done) | grind), ht⟩) (fun _ h => nomatch h) dX0_tell_57

set_option maxHeartbeats 4000000 in
set_option maxRecDepth 100000 in
theorem r0_tell2 (l : Launch) (dC : Nat → ClassId) (dI : Nat → Nat → Nat) (rh : Nat) (rk : Nat) (rt : Nat) (rp : Nat) (rm : Nat) (cT : ClassId) : Met l yX0_tell wsX0_tell ({ frames := 0, cells := 0, slots := 0, locals := 0 }) (va_Pc [.ref rh, .int 2] (fun U => va_P (dC, dI) vwCl [(rh, .inr (0, [.int 10, .int 6, .int 30, .int 100, .int 0, .int 0, .ref rk, .ref rt, .ref rp, .ref rm])), (rt, .inl (cT, 60, .inl (fun _ => 0)))] U.heap ∧ va_K (dC, dI) vwCl [(cT, .int)] U)) (vp_Si (fun r : Int32 => r = 30)) 0 0 (fun _ => False) := by
  refine Met.ofW (cc := cX0_tell) (maxL := 2) (ret := (some .int)) (by decide) rfl ?_
  intro p e s m args below meth c s₁ B hml hv
  obtain ⟨rfl, hP, hK⟩ := hv
  have hx := B.exec
  have hb := B.bytes
  have hr := B.returns
  have hts := atoms_spec (ws := wsX0_tell) B.pre
  have hown : s.vm.findClass RX0 = some m.cls := findClass_of_methodNamed B.named
  have hlocks := B.notSynchronized
  have hP : va_P (dC, dI) vwCl [(rh, .inr (0, [.int 10, .int 6, .int 30, .int 100, .int 0, .int 0, .ref rk, .ref rt, .ref rp, .ref rm])), (rt, .inl (cT, 60, .inl (fun _ => 0)))] s.heap := hP
  have hl := lv_entry ([.ref rh, .int 2]) (n := 2) (Nat.le_of_ble_eq_true rfl)
  rw [lg_entry_eq]
  generalize (lg_sl ([.ref rh, .int 2]) ++ List.replicate (2 - (lg_sl ([.ref rh, .int 2])).length) Slot.unset).toArray = ls at hl ⊢
  have hl : lv_has ls 2 [(0, .ref rh), (1, .int 2)] := hl
  refine lv_iload_n hx hb dX0_tell_0 rfl (lv_at hl 1 rfl) ?_
  refine lv_tableIn (off := 57) (tgt := 58) hx hb dX0_tell_1 (by decide) (by decide) (by rfl) (by decide) ?_
  refine lv_aload_n hx hb dX0_tell_58 rfl (lv_at hl 0 rfl) ?_
  refine va_get (D := (dC, dI)) (ci := 0) (v := .int 30) (C := RX0) (T := TX0) (N := 10) hx hb hts (by decide +kernel) hown hK hP 0 rfl rfl 2 (by decide) (hts (.fieldLink RX0 31 "ThatchRoof$Roof" "slope" "I") (by decide +kernel)) (fun _ h9 => h9) rfl dX0_tell_59 ?_
  exact W.iret (v := 30) hx hb hr (fun t ht hW => ⟨30, rfl, by (first | rfl | assumption | decide | (simp_all; done) | grind), ht⟩) (fun _ h => nomatch h) dX0_tell_62

set_option maxHeartbeats 4000000 in
set_option maxRecDepth 100000 in
theorem r0_tell3 (l : Launch) (dC : Nat → ClassId) (dI : Nat → Nat → Nat) (rh : Nat) (rk : Nat) (rt : Nat) (rp : Nat) (rm : Nat) (cT : ClassId) : Met l yX0_tell wsX0_tell ({ frames := 0, cells := 0, slots := 0, locals := 0 }) (va_Pc [.ref rh, .int 3] (fun U => va_P (dC, dI) vwCl [(rh, .inr (0, [.int 10, .int 6, .int 30, .int 100, .int 0, .int 0, .ref rk, .ref rt, .ref rp, .ref rm])), (rt, .inl (cT, 60, .inl (fun _ => 0)))] U.heap ∧ va_K (dC, dI) vwCl [(cT, .int)] U)) (vp_Si (fun r : Int32 => r = 100)) 0 0 (fun _ => False) := by
  refine Met.ofW (cc := cX0_tell) (maxL := 2) (ret := (some .int)) (by decide) rfl ?_
  intro p e s m args below meth c s₁ B hml hv
  obtain ⟨rfl, hP, hK⟩ := hv
  have hx := B.exec
  have hb := B.bytes
  have hr := B.returns
  have hts := atoms_spec (ws := wsX0_tell) B.pre
  have hown : s.vm.findClass RX0 = some m.cls := findClass_of_methodNamed B.named
  have hlocks := B.notSynchronized
  have hP : va_P (dC, dI) vwCl [(rh, .inr (0, [.int 10, .int 6, .int 30, .int 100, .int 0, .int 0, .ref rk, .ref rt, .ref rp, .ref rm])), (rt, .inl (cT, 60, .inl (fun _ => 0)))] s.heap := hP
  have hl := lv_entry ([.ref rh, .int 3]) (n := 2) (Nat.le_of_ble_eq_true rfl)
  rw [lg_entry_eq]
  generalize (lg_sl ([.ref rh, .int 3]) ++ List.replicate (2 - (lg_sl ([.ref rh, .int 3])).length) Slot.unset).toArray = ls at hl ⊢
  have hl : lv_has ls 2 [(0, .ref rh), (1, .int 3)] := hl
  refine lv_iload_n hx hb dX0_tell_0 rfl (lv_at hl 1 rfl) ?_
  refine lv_tableIn (off := 62) (tgt := 63) hx hb dX0_tell_1 (by decide) (by decide) (by rfl) (by decide) ?_
  refine lv_aload_n hx hb dX0_tell_63 rfl (lv_at hl 0 rfl) ?_
  refine va_get (D := (dC, dI)) (ci := 0) (v := .int 100) (C := RX0) (T := TX0) (N := 10) hx hb hts (by decide +kernel) hown hK hP 0 rfl rfl 3 (by decide) (hts (.fieldLink RX0 34 "ThatchRoof$Roof" "ridge" "I") (by decide +kernel)) (fun _ h9 => h9) rfl dX0_tell_64 ?_
  exact W.iret (v := 100) hx hb hr (fun t ht hW => ⟨100, rfl, by (first | rfl | assumption | decide | (simp_all; done) | grind), ht⟩) (fun _ h => nomatch h) dX0_tell_67

set_option maxHeartbeats 4000000 in
set_option maxRecDepth 100000 in
theorem r0_tell4 (l : Launch) (dC : Nat → ClassId) (dI : Nat → Nat → Nat) (rh : Nat) (rk : Nat) (rt : Nat) (rp : Nat) (rm : Nat) (cT : ClassId) : Met l yX0_tell wsX0_tell ({ frames := 3, cells := 0, slots := 0, locals := 67 }) (va_Pc [.ref rh, .int 4] (fun U => va_P (dC, dI) vwCl [(rh, .inr (0, [.int 10, .int 6, .int 30, .int 100, .int 0, .int 0, .ref rk, .ref rt, .ref rp, .ref rm])), (rt, .inl (cT, 60, .inl (fun _ => 0)))] U.heap ∧ va_K (dC, dI) vwCl [(cT, .int)] U)) (vp_Si (fun r : Int32 => r = 0)) 0 0 (fun _ => False) := by
  refine Met.ofW (cc := cX0_tell) (maxL := 2) (ret := (some .int)) (by decide) rfl ?_
  intro p e s m args below meth c s₁ B hml hv
  obtain ⟨rfl, hP, hK⟩ := hv
  have hx := B.exec
  have hb := B.bytes
  have hr := B.returns
  have hts := atoms_spec (ws := wsX0_tell) B.pre
  have hown : s.vm.findClass RX0 = some m.cls := findClass_of_methodNamed B.named
  have hlocks := B.notSynchronized
  have hP : va_P (dC, dI) vwCl [(rh, .inr (0, [.int 10, .int 6, .int 30, .int 100, .int 0, .int 0, .ref rk, .ref rt, .ref rp, .ref rm])), (rt, .inl (cT, 60, .inl (fun _ => 0)))] s.heap := hP
  have hl := lv_entry ([.ref rh, .int 4]) (n := 2) (Nat.le_of_ble_eq_true rfl)
  rw [lg_entry_eq]
  generalize (lg_sl ([.ref rh, .int 4]) ++ List.replicate (2 - (lg_sl ([.ref rh, .int 4])).length) Slot.unset).toArray = ls at hl ⊢
  have hl : lv_has ls 2 [(0, .ref rh), (1, .int 4)] := hl
  refine lv_iload_n hx hb dX0_tell_0 rfl (lv_at hl 1 rfl) ?_
  refine lv_tableIn (off := 67) (tgt := 68) hx hb dX0_tell_1 (by decide) (by decide) (by rfl) (by decide) ?_
  refine lv_aload_n hx hb dX0_tell_68 rfl (lv_at hl 0 rfl) ?_
  have hPc := hP.sub (ws' := [(rh, .inr (0, [.int 10, .int 6, .int 30, .int 100, .int 0, .int 0, .ref rk, .ref rt, .ref rp, .ref rm])), (rt, .inl (cT, 60, .inl (fun _ => 0)))]) [0, 1] rfl
  have hKc := hK.sub (tys' := [(cT, .int)]) [0] rfl
  refine vp_callSi (va_runV (As := []) (rest := []) ⟨hx, hb, hml, hown, hts⟩ (r0_yealms l dC dI rh rk rt rp rm cT ) (cwV 0 hts gX0_tell_X0_yealms rfl rfl rfl (by decide +kernel) ⟨Nat.le_of_ble_eq_true rfl, Nat.le_of_ble_eq_true rfl⟩) ⟨fun a U g mk q => by obtain ⟨q0, qP, qK⟩ := q; exact ⟨q0, qP, va_K.moved (u := U) (U := U.calling g mk a) (Vm.Alike.refl U.vm) qK⟩, va_recv hKc hPc (ci := 0) (q0 := 0) rfl rfl, fun U hU hW => ⟨rfl, by rw [hU]; exact hPc, va_K.moved hW.alike hKc⟩⟩ rfl rfl hl.1 rfl (lv_room (Nat.le_of_ble_eq_true rfl)) dX0_tell_69 ⟨Nat.le_of_ble_eq_true rfl, Nat.le_of_ble_eq_true rfl⟩).run (fun r1 hr1 => ?_)
  obtain rfl := hr1
  exact W.iret (v := 0) hx hb hr (fun t ht hW => ⟨0, rfl, by (first | rfl | assumption | decide | (simp_all; done) | grind), ht⟩) (fun _ h => nomatch h) dX0_tell_72

set_option maxHeartbeats 4000000 in
set_option maxRecDepth 100000 in
theorem r0_tell5 (l : Launch) (dC : Nat → ClassId) (dI : Nat → Nat → Nat) (rh : Nat) (rk : Nat) (rt : Nat) (rp : Nat) (rm : Nat) (cT : ClassId) : Met l yX0_tell wsX0_tell ({ frames := 3, cells := 0, slots := 0, locals := 67 }) (va_Pc [.ref rh, .int 5] (fun U => va_P (dC, dI) vwCl [(rh, .inr (0, [.int 10, .int 6, .int 30, .int 100, .int 0, .int 0, .ref rk, .ref rt, .ref rp, .ref rm])), (rt, .inl (cT, 60, .inl (fun _ => 0)))] U.heap ∧ va_K (dC, dI) vwCl [(cT, .int)] U)) (vp_Si (fun r : Int32 => r = 0)) 0 0 (fun _ => False) := by
  refine Met.ofW (cc := cX0_tell) (maxL := 2) (ret := (some .int)) (by decide) rfl ?_
  intro p e s m args below meth c s₁ B hml hv
  obtain ⟨rfl, hP, hK⟩ := hv
  have hx := B.exec
  have hb := B.bytes
  have hr := B.returns
  have hts := atoms_spec (ws := wsX0_tell) B.pre
  have hown : s.vm.findClass RX0 = some m.cls := findClass_of_methodNamed B.named
  have hlocks := B.notSynchronized
  have hP : va_P (dC, dI) vwCl [(rh, .inr (0, [.int 10, .int 6, .int 30, .int 100, .int 0, .int 0, .ref rk, .ref rt, .ref rp, .ref rm])), (rt, .inl (cT, 60, .inl (fun _ => 0)))] s.heap := hP
  have hl := lv_entry ([.ref rh, .int 5]) (n := 2) (Nat.le_of_ble_eq_true rfl)
  rw [lg_entry_eq]
  generalize (lg_sl ([.ref rh, .int 5]) ++ List.replicate (2 - (lg_sl ([.ref rh, .int 5])).length) Slot.unset).toArray = ls at hl ⊢
  have hl : lv_has ls 2 [(0, .ref rh), (1, .int 5)] := hl
  refine lv_iload_n hx hb dX0_tell_0 rfl (lv_at hl 1 rfl) ?_
  refine lv_tableIn (off := 72) (tgt := 73) hx hb dX0_tell_1 (by decide) (by decide) (by rfl) (by decide) ?_
  refine lv_aload_n hx hb dX0_tell_73 rfl (lv_at hl 0 rfl) ?_
  have hPc := hP.sub (ws' := [(rh, .inr (0, [.int 10, .int 6, .int 30, .int 100, .int 0, .int 0, .ref rk, .ref rt, .ref rp, .ref rm])), (rt, .inl (cT, 60, .inl (fun _ => 0)))]) [0, 1] rfl
  have hKc := hK.sub (tys' := [(cT, .int)]) [0] rfl
  refine vp_callSi (va_runV (As := []) (rest := []) ⟨hx, hb, hml, hown, hts⟩ (r0_thicknessInAll l dC dI rh rk rt rp rm cT ) (cwV 0 hts gX0_tell_X0_thicknessInAll rfl rfl rfl (by decide +kernel) ⟨Nat.le_of_ble_eq_true rfl, Nat.le_of_ble_eq_true rfl⟩) ⟨fun a U g mk q => by obtain ⟨q0, qP, qK⟩ := q; exact ⟨q0, qP, va_K.moved (u := U) (U := U.calling g mk a) (Vm.Alike.refl U.vm) qK⟩, va_recv hKc hPc (ci := 0) (q0 := 0) rfl rfl, fun U hU hW => ⟨rfl, by rw [hU]; exact hPc, va_K.moved hW.alike hKc⟩⟩ rfl rfl hl.1 rfl (lv_room (Nat.le_of_ble_eq_true rfl)) dX0_tell_74 ⟨Nat.le_of_ble_eq_true rfl, Nat.le_of_ble_eq_true rfl⟩).run (fun r1 hr1 => ?_)
  obtain rfl := hr1
  exact W.iret (v := 0) hx hb hr (fun t ht hW => ⟨0, rfl, by (first | rfl | assumption | decide | (simp_all; done) | grind), ht⟩) (fun _ h => nomatch h) dX0_tell_77

set_option maxHeartbeats 4000000 in
set_option maxRecDepth 100000 in
theorem r0_tell6 (l : Launch) (dC : Nat → ClassId) (dI : Nat → Nat → Nat) (rh : Nat) (rk : Nat) (rt : Nat) (rp : Nat) (rm : Nat) (cT : ClassId) : Met l yX0_tell wsX0_tell ({ frames := 3, cells := 0, slots := 0, locals := 67 }) (va_Pc [.ref rh, .int 6] (fun U => va_P (dC, dI) vwCl [(rh, .inr (0, [.int 10, .int 6, .int 30, .int 100, .int 0, .int 0, .ref rk, .ref rt, .ref rp, .ref rm])), (rt, .inl (cT, 60, .inl (fun _ => 0)))] U.heap ∧ va_K (dC, dI) vwCl [(cT, .int)] U)) (vp_Si (fun r : Int32 => r = 10)) 0 0 (fun _ => False) := by
  refine Met.ofW (cc := cX0_tell) (maxL := 2) (ret := (some .int)) (by decide) rfl ?_
  intro p e s m args below meth c s₁ B hml hv
  obtain ⟨rfl, hP, hK⟩ := hv
  have hx := B.exec
  have hb := B.bytes
  have hr := B.returns
  have hts := atoms_spec (ws := wsX0_tell) B.pre
  have hown : s.vm.findClass RX0 = some m.cls := findClass_of_methodNamed B.named
  have hlocks := B.notSynchronized
  have hP : va_P (dC, dI) vwCl [(rh, .inr (0, [.int 10, .int 6, .int 30, .int 100, .int 0, .int 0, .ref rk, .ref rt, .ref rp, .ref rm])), (rt, .inl (cT, 60, .inl (fun _ => 0)))] s.heap := hP
  have hl := lv_entry ([.ref rh, .int 6]) (n := 2) (Nat.le_of_ble_eq_true rfl)
  rw [lg_entry_eq]
  generalize (lg_sl ([.ref rh, .int 6]) ++ List.replicate (2 - (lg_sl ([.ref rh, .int 6])).length) Slot.unset).toArray = ls at hl ⊢
  have hl : lv_has ls 2 [(0, .ref rh), (1, .int 6)] := hl
  refine lv_iload_n hx hb dX0_tell_0 rfl (lv_at hl 1 rfl) ?_
  refine lv_tableIn (off := 77) (tgt := 78) hx hb dX0_tell_1 (by decide) (by decide) (by rfl) (by decide) ?_
  refine lv_aload_n hx hb dX0_tell_78 rfl (lv_at hl 0 rfl) ?_
  have hPc := hP.sub (ws' := [(rh, .inr (0, [.int 10, .int 6, .int 30, .int 100, .int 0, .int 0, .ref rk, .ref rt, .ref rp, .ref rm])), (rt, .inl (cT, 60, .inl (fun _ => 0)))]) [0, 1] rfl
  have hKc := hK.sub (tys' := [(cT, .int)]) [0] rfl
  refine vp_callSi (va_runV (As := []) (rest := []) ⟨hx, hb, hml, hown, hts⟩ (r0_leaks l dC dI rh rk rt rp rm cT ) (cwV 0 hts gX0_tell_X0_leaks rfl rfl rfl (by decide +kernel) ⟨Nat.le_of_ble_eq_true rfl, Nat.le_of_ble_eq_true rfl⟩) ⟨fun a U g mk q => by obtain ⟨q0, qP, qK⟩ := q; exact ⟨q0, qP, va_K.moved (u := U) (U := U.calling g mk a) (Vm.Alike.refl U.vm) qK⟩, va_recv hKc hPc (ci := 0) (q0 := 0) rfl rfl, fun U hU hW => ⟨rfl, by rw [hU]; exact hPc, va_K.moved hW.alike hKc⟩⟩ rfl rfl hl.1 rfl (lv_room (Nat.le_of_ble_eq_true rfl)) dX0_tell_79 ⟨Nat.le_of_ble_eq_true rfl, Nat.le_of_ble_eq_true rfl⟩).run (fun r1 hr1 => ?_)
  obtain rfl := hr1
  exact W.iret (v := 10) hx hb hr (fun t ht hW => ⟨10, rfl, by (first | rfl | assumption | decide | (simp_all; done) | grind), ht⟩) (fun _ h => nomatch h) dX0_tell_82

set_option maxHeartbeats 4000000 in
set_option maxRecDepth 100000 in
theorem r0_tell7 (l : Launch) (dC : Nat → ClassId) (dI : Nat → Nat → Nat) (rh : Nat) (rk : Nat) (rt : Nat) (rp : Nat) (rm : Nat) (cT : ClassId) : Met l yX0_tell wsX0_tell ({ frames := 0, cells := 0, slots := 0, locals := 0 }) (va_Pc [.ref rh, .int 7] (fun U => va_P (dC, dI) vwCl [(rh, .inr (0, [.int 10, .int 6, .int 30, .int 100, .int 0, .int 0, .ref rk, .ref rt, .ref rp, .ref rm])), (rt, .inl (cT, 60, .inl (fun _ => 0)))] U.heap ∧ va_K (dC, dI) vwCl [(cT, .int)] U)) (vp_Si (fun r : Int32 => r = 0)) 0 0 (fun _ => False) := by
  refine Met.ofW (cc := cX0_tell) (maxL := 2) (ret := (some .int)) (by decide) rfl ?_
  intro p e s m args below meth c s₁ B hml hv
  obtain ⟨rfl, hP, hK⟩ := hv
  have hx := B.exec
  have hb := B.bytes
  have hr := B.returns
  have hts := atoms_spec (ws := wsX0_tell) B.pre
  have hown : s.vm.findClass RX0 = some m.cls := findClass_of_methodNamed B.named
  have hlocks := B.notSynchronized
  have hP : va_P (dC, dI) vwCl [(rh, .inr (0, [.int 10, .int 6, .int 30, .int 100, .int 0, .int 0, .ref rk, .ref rt, .ref rp, .ref rm])), (rt, .inl (cT, 60, .inl (fun _ => 0)))] s.heap := hP
  have hl := lv_entry ([.ref rh, .int 7]) (n := 2) (Nat.le_of_ble_eq_true rfl)
  rw [lg_entry_eq]
  generalize (lg_sl ([.ref rh, .int 7]) ++ List.replicate (2 - (lg_sl ([.ref rh, .int 7])).length) Slot.unset).toArray = ls at hl ⊢
  have hl : lv_has ls 2 [(0, .ref rh), (1, .int 7)] := hl
  refine lv_iload_n hx hb dX0_tell_0 rfl (lv_at hl 1 rfl) ?_
  refine lv_tableIn (off := 82) (tgt := 83) hx hb dX0_tell_1 (by decide) (by decide) (by rfl) (by decide) ?_
  refine lv_aload_n hx hb dX0_tell_83 rfl (lv_at hl 0 rfl) ?_
  refine va_get (D := (dC, dI)) (ci := 0) (v := .int 0) (C := RX0) (T := TX0) (N := 10) hx hb hts (by decide +kernel) hown hK hP 0 rfl rfl 4 (by decide) (hts (.fieldLink RX0 82 "ThatchRoof$Roof" "torn" "I") (by decide +kernel)) (fun _ h9 => h9) rfl dX0_tell_84 ?_
  exact W.iret (v := 0) hx hb hr (fun t ht hW => ⟨0, rfl, by (first | rfl | assumption | decide | (simp_all; done) | grind), ht⟩) (fun _ h => nomatch h) dX0_tell_87

set_option maxHeartbeats 4000000 in
set_option maxRecDepth 100000 in
theorem r0_tell8 (l : Launch) (dC : Nat → ClassId) (dI : Nat → Nat → Nat) (rh : Nat) (rk : Nat) (rt : Nat) (rp : Nat) (rm : Nat) (cT : ClassId) : Met l yX0_tell wsX0_tell ({ frames := 0, cells := 0, slots := 0, locals := 0 }) (va_Pc [.ref rh, .int 8] (fun U => va_P (dC, dI) vwCl [(rh, .inr (0, [.int 10, .int 6, .int 30, .int 100, .int 0, .int 0, .ref rk, .ref rt, .ref rp, .ref rm])), (rt, .inl (cT, 60, .inl (fun _ => 0)))] U.heap ∧ va_K (dC, dI) vwCl [(cT, .int)] U)) (vp_Si (fun r : Int32 => r = 0)) 0 0 (fun _ => False) := by
  refine Met.ofW (cc := cX0_tell) (maxL := 2) (ret := (some .int)) (by decide) rfl ?_
  intro p e s m args below meth c s₁ B hml hv
  obtain ⟨rfl, hP, hK⟩ := hv
  have hx := B.exec
  have hb := B.bytes
  have hr := B.returns
  have hts := atoms_spec (ws := wsX0_tell) B.pre
  have hown : s.vm.findClass RX0 = some m.cls := findClass_of_methodNamed B.named
  have hlocks := B.notSynchronized
  have hP : va_P (dC, dI) vwCl [(rh, .inr (0, [.int 10, .int 6, .int 30, .int 100, .int 0, .int 0, .ref rk, .ref rt, .ref rp, .ref rm])), (rt, .inl (cT, 60, .inl (fun _ => 0)))] s.heap := hP
  have hl := lv_entry ([.ref rh, .int 8]) (n := 2) (Nat.le_of_ble_eq_true rfl)
  rw [lg_entry_eq]
  generalize (lg_sl ([.ref rh, .int 8]) ++ List.replicate (2 - (lg_sl ([.ref rh, .int 8])).length) Slot.unset).toArray = ls at hl ⊢
  have hl : lv_has ls 2 [(0, .ref rh), (1, .int 8)] := hl
  refine lv_iload_n hx hb dX0_tell_0 rfl (lv_at hl 1 rfl) ?_
  refine lv_tableOut (tgt := 88) hx hb dX0_tell_1 (by decide) (by decide) ?_
  refine lv_aload_n hx hb dX0_tell_88 rfl (lv_at hl 0 rfl) ?_
  refine va_get (D := (dC, dI)) (ci := 0) (v := .int 0) (C := RX0) (T := TX0) (N := 10) hx hb hts (by decide +kernel) hown hK hP 0 rfl rfl 5 (by decide) (hts (.fieldLink RX0 85 "ThatchRoof$Roof" "worn" "I") (by decide +kernel)) (fun _ h9 => h9) rfl dX0_tell_89 ?_
  exact W.iret (v := 0) hx hb hr (fun t ht hW => ⟨0, rfl, by (first | rfl | assumption | decide | (simp_all; done) | grind), ht⟩) (fun _ h => nomatch h) dX0_tell_92

set_option maxHeartbeats 4000000 in
set_option maxRecDepth 100000 in
theorem r0_wide (l : Launch) (dC : Nat → ClassId) (dI : Nat → Nat → Nat) (rh : Nat) (rk : Nat) (rt : Nat) (rp : Nat) (rm : Nat) : Met l yX0_wide wsX0_wide ({ frames := 0, cells := 0, slots := 0, locals := 0 }) (va_Pc [.ref rh] (fun U => va_P (dC, dI) vwCl [(rh, .inr (0, [.int 10, .int 6, .int 30, .int 100, .int 0, .int 0, .ref rk, .ref rt, .ref rp, .ref rm]))] U.heap ∧ va_K (dC, dI) vwCl [] U)) (vp_Si (fun r : Int32 => r = 10)) 0 0 (fun _ => False) := by
  refine Met.ofW (cc := cX0_wide) (maxL := 1) (ret := (some .int)) (by decide) rfl ?_
  intro p e s m args below meth c s₁ B hml hv
  obtain ⟨rfl, hP, hK⟩ := hv
  have hx := B.exec
  have hb := B.bytes
  have hr := B.returns
  have hts := atoms_spec (ws := wsX0_wide) B.pre
  have hown : s.vm.findClass RX0 = some m.cls := findClass_of_methodNamed B.named
  have hlocks := B.notSynchronized
  have hP : va_P (dC, dI) vwCl [(rh, .inr (0, [.int 10, .int 6, .int 30, .int 100, .int 0, .int 0, .ref rk, .ref rt, .ref rp, .ref rm]))] s.heap := hP
  have hl := lv_entry ([.ref rh]) (n := 1) (Nat.le_of_ble_eq_true rfl)
  rw [lg_entry_eq]
  generalize (lg_sl ([.ref rh]) ++ List.replicate (1 - (lg_sl ([.ref rh])).length) Slot.unset).toArray = ls at hl ⊢
  have hl : lv_has ls 1 [(0, .ref rh)] := hl
  refine lv_aload_n hx hb dX0_wide_0 rfl (lv_at hl 0 rfl) ?_
  refine va_get (D := (dC, dI)) (ci := 0) (v := .int 10) (C := RX0) (T := TX0) (N := 10) hx hb hts (by decide +kernel) hown hK hP 0 rfl rfl 0 (by decide) (hts (.fieldLink RX0 24 "ThatchRoof$Roof" "width" "I") (by decide +kernel)) (fun _ h9 => h9) rfl dX0_wide_1 ?_
  exact W.iret (v := 10) hx hb hr (fun t ht hW => ⟨10, rfl, by (first | rfl | assumption | decide | (simp_all; done) | grind), ht⟩) (fun _ h => nomatch h) dX0_wide_4

set_option maxHeartbeats 4000000 in
set_option maxRecDepth 100000 in
theorem r0_high (l : Launch) (dC : Nat → ClassId) (dI : Nat → Nat → Nat) (rh : Nat) (rk : Nat) (rt : Nat) (rp : Nat) (rm : Nat) : Met l yX0_high wsX0_high ({ frames := 0, cells := 0, slots := 0, locals := 0 }) (va_Pc [.ref rh] (fun U => va_P (dC, dI) vwCl [(rh, .inr (0, [.int 10, .int 6, .int 30, .int 100, .int 0, .int 0, .ref rk, .ref rt, .ref rp, .ref rm]))] U.heap ∧ va_K (dC, dI) vwCl [] U)) (vp_Si (fun r : Int32 => r = 6)) 0 0 (fun _ => False) := by
  refine Met.ofW (cc := cX0_high) (maxL := 1) (ret := (some .int)) (by decide) rfl ?_
  intro p e s m args below meth c s₁ B hml hv
  obtain ⟨rfl, hP, hK⟩ := hv
  have hx := B.exec
  have hb := B.bytes
  have hr := B.returns
  have hts := atoms_spec (ws := wsX0_high) B.pre
  have hown : s.vm.findClass RX0 = some m.cls := findClass_of_methodNamed B.named
  have hlocks := B.notSynchronized
  have hP : va_P (dC, dI) vwCl [(rh, .inr (0, [.int 10, .int 6, .int 30, .int 100, .int 0, .int 0, .ref rk, .ref rt, .ref rp, .ref rm]))] s.heap := hP
  have hl := lv_entry ([.ref rh]) (n := 1) (Nat.le_of_ble_eq_true rfl)
  rw [lg_entry_eq]
  generalize (lg_sl ([.ref rh]) ++ List.replicate (1 - (lg_sl ([.ref rh])).length) Slot.unset).toArray = ls at hl ⊢
  have hl : lv_has ls 1 [(0, .ref rh)] := hl
  refine lv_aload_n hx hb dX0_high_0 rfl (lv_at hl 0 rfl) ?_
  refine va_get (D := (dC, dI)) (ci := 0) (v := .int 6) (C := RX0) (T := TX0) (N := 10) hx hb hts (by decide +kernel) hown hK hP 0 rfl rfl 1 (by decide) (hts (.fieldLink RX0 28 "ThatchRoof$Roof" "courses" "I") (by decide +kernel)) (fun _ h9 => h9) rfl dX0_high_1 ?_
  exact W.iret (v := 6) hx hb hr (fun t ht hW => ⟨6, rfl, by (first | rfl | assumption | decide | (simp_all; done) | grind), ht⟩) (fun _ h => nomatch h) dX0_high_4

set_option maxHeartbeats 4000000 in
set_option maxRecDepth 100000 in
theorem r0_tellYealm0 (l : Launch) (dC : Nat → ClassId) (dI : Nat → Nat → Nat) (rh : Nat) (rk : Nat) (rt : Nat) (rp : Nat) (rm : Nat) (cT : ClassId) (cu : Nat) (pl : Nat) (hcu : cu < 6) (hpl : pl < 10) : Met l yX0_tellYealm wsX0_tellYealm ({ frames := 2, cells := 0, slots := 0, locals := 44 }) (va_Pc [.ref rh, .int (nI cu), .int (nI pl), .int 0] (fun U => va_P (dC, dI) vwCl [(rh, .inr (0, [.int 10, .int 6, .int 30, .int 100, .int 0, .int 0, .ref rk, .ref rt, .ref rp, .ref rm])), (rt, .inl (cT, 60, .inl (fun _ => 0)))] U.heap ∧ va_K (dC, dI) vwCl [(cT, .int)] U)) (vp_Si (fun r : Int32 => r = 0)) 0 0 (fun _ => False) := by
  refine Met.ofW (cc := cX0_tellYealm) (maxL := 5) (ret := (some .int)) (by decide) rfl ?_
  intro p e s m args below meth c s₁ B hml hv
  obtain ⟨rfl, hP, hK⟩ := hv
  have hx := B.exec
  have hb := B.bytes
  have hr := B.returns
  have hts := atoms_spec (ws := wsX0_tellYealm) B.pre
  have hown : s.vm.findClass RX0 = some m.cls := findClass_of_methodNamed B.named
  have hlocks := B.notSynchronized
  have hP : va_P (dC, dI) vwCl [(rh, .inr (0, [.int 10, .int 6, .int 30, .int 100, .int 0, .int 0, .ref rk, .ref rt, .ref rp, .ref rm])), (rt, .inl (cT, 60, .inl (fun _ => 0)))] s.heap := hP
  have hl := lv_entry ([.ref rh, .int (nI cu), .int (nI pl), .int 0]) (n := 5) (Nat.le_of_ble_eq_true rfl)
  rw [lg_entry_eq]
  generalize (lg_sl ([.ref rh, .int (nI cu), .int (nI pl), .int 0]) ++ List.replicate (5 - (lg_sl ([.ref rh, .int (nI cu), .int (nI pl), .int 0])).length) Slot.unset).toArray = ls at hl ⊢
  have hl : lv_has ls 5 [(0, .ref rh), (1, .int (nI cu)), (2, .int (nI pl)), (3, .int 0)] := hl
  refine lv_aload_n hx hb dX0_tellYealm_0 rfl (lv_at hl 0 rfl) ?_
  refine lv_iload_n hx hb dX0_tellYealm_1 rfl (lv_at hl 1 rfl) ?_
  refine lv_iload_n hx hb dX0_tellYealm_2 rfl (lv_at hl 2 rfl) ?_
  have hPc := hP.sub (ws' := [(rh, .inr (0, [.int 10, .int 6, .int 30, .int 100, .int 0, .int 0, .ref rk, .ref rt, .ref rp, .ref rm])), (rt, .inl (cT, 60, .inl (fun _ => 0)))]) [0, 1] rfl
  have hKc := hK.sub (tys' := [(cT, .int)]) [0] rfl
  refine vp_callSi (va_runV (As := [.int (nI cu), .int (nI pl)]) (rest := []) ⟨hx, hb, hml, hown, hts⟩ (r0_hasYealm l dC dI rh rk rt rp rm cT cu pl (by first | assumption | decide | omega) (by first | assumption | decide | omega)) (cwV 2 hts gX0_tellYealm_X0_hasYealm rfl rfl rfl (by decide +kernel) ⟨Nat.le_of_ble_eq_true rfl, Nat.le_of_ble_eq_true rfl⟩) ⟨fun a U g mk q => by obtain ⟨q0, qP, qK⟩ := q; exact ⟨q0, qP, va_K.moved (u := U) (U := U.calling g mk a) (Vm.Alike.refl U.vm) qK⟩, va_recv hKc hPc (ci := 0) (q0 := 0) rfl rfl, fun U hU hW => ⟨rfl, by rw [hU]; exact hPc, va_K.moved hW.alike hKc⟩⟩ rfl rfl hl.1 rfl (lv_room (Nat.le_of_ble_eq_true rfl)) dX0_tellYealm_3 ⟨Nat.le_of_ble_eq_true rfl, Nat.le_of_ble_eq_true rfl⟩).run (fun r1 hr1 => ?_)
  obtain rfl := hr1
  refine lv_if_ne (tgt := 20) hx hb dX0_tellYealm_6 (by decide) (fun c2 => absurd c2 (by decide)) (fun c2 => ?_)
  refine lv_iload_n hx hb dX0_tellYealm_9 rfl (lv_at hl 3 rfl) ?_
  refine lv_iconst (v := 1) hx hb dX0_tellYealm_10 (by decide) ?_
  refine lv_icmp_ne (tgt := 18) hx hb dX0_tellYealm_11 (by decide) (fun c3 => ?_) (fun c3 => absurd c3 (by decide))
  refine lv_iconst (v := 0) hx hb dX0_tellYealm_18 (by decide) ?_
  exact W.iret (v := 0) hx hb hr (fun t ht hW => ⟨0, rfl, by (first | rfl | assumption | decide | (simp_all; done) | grind), ht⟩) (fun _ h => nomatch h) dX0_tellYealm_19

set_option maxHeartbeats 4000000 in
set_option maxRecDepth 100000 in
theorem r0_tellYealm1 (l : Launch) (dC : Nat → ClassId) (dI : Nat → Nat → Nat) (rh : Nat) (rk : Nat) (rt : Nat) (rp : Nat) (rm : Nat) (cT : ClassId) (cu : Nat) (pl : Nat) (hcu : cu < 6) (hpl : pl < 10) : Met l yX0_tellYealm wsX0_tellYealm ({ frames := 2, cells := 0, slots := 0, locals := 44 }) (va_Pc [.ref rh, .int (nI cu), .int (nI pl), .int 1] (fun U => va_P (dC, dI) vwCl [(rh, .inr (0, [.int 10, .int 6, .int 30, .int 100, .int 0, .int 0, .ref rk, .ref rt, .ref rp, .ref rm])), (rt, .inl (cT, 60, .inl (fun _ => 0)))] U.heap ∧ va_K (dC, dI) vwCl [(cT, .int)] U)) (vp_Si (fun r : Int32 => r = (-1))) 0 0 (fun _ => False) := by
  refine Met.ofW (cc := cX0_tellYealm) (maxL := 5) (ret := (some .int)) (by decide) rfl ?_
  intro p e s m args below meth c s₁ B hml hv
  obtain ⟨rfl, hP, hK⟩ := hv
  have hx := B.exec
  have hb := B.bytes
  have hr := B.returns
  have hts := atoms_spec (ws := wsX0_tellYealm) B.pre
  have hown : s.vm.findClass RX0 = some m.cls := findClass_of_methodNamed B.named
  have hlocks := B.notSynchronized
  have hP : va_P (dC, dI) vwCl [(rh, .inr (0, [.int 10, .int 6, .int 30, .int 100, .int 0, .int 0, .ref rk, .ref rt, .ref rp, .ref rm])), (rt, .inl (cT, 60, .inl (fun _ => 0)))] s.heap := hP
  have hl := lv_entry ([.ref rh, .int (nI cu), .int (nI pl), .int 1]) (n := 5) (Nat.le_of_ble_eq_true rfl)
  rw [lg_entry_eq]
  generalize (lg_sl ([.ref rh, .int (nI cu), .int (nI pl), .int 1]) ++ List.replicate (5 - (lg_sl ([.ref rh, .int (nI cu), .int (nI pl), .int 1])).length) Slot.unset).toArray = ls at hl ⊢
  have hl : lv_has ls 5 [(0, .ref rh), (1, .int (nI cu)), (2, .int (nI pl)), (3, .int 1)] := hl
  refine lv_aload_n hx hb dX0_tellYealm_0 rfl (lv_at hl 0 rfl) ?_
  refine lv_iload_n hx hb dX0_tellYealm_1 rfl (lv_at hl 1 rfl) ?_
  refine lv_iload_n hx hb dX0_tellYealm_2 rfl (lv_at hl 2 rfl) ?_
  have hPc := hP.sub (ws' := [(rh, .inr (0, [.int 10, .int 6, .int 30, .int 100, .int 0, .int 0, .ref rk, .ref rt, .ref rp, .ref rm])), (rt, .inl (cT, 60, .inl (fun _ => 0)))]) [0, 1] rfl
  have hKc := hK.sub (tys' := [(cT, .int)]) [0] rfl
  refine vp_callSi (va_runV (As := [.int (nI cu), .int (nI pl)]) (rest := []) ⟨hx, hb, hml, hown, hts⟩ (r0_hasYealm l dC dI rh rk rt rp rm cT cu pl (by first | assumption | decide | omega) (by first | assumption | decide | omega)) (cwV 2 hts gX0_tellYealm_X0_hasYealm rfl rfl rfl (by decide +kernel) ⟨Nat.le_of_ble_eq_true rfl, Nat.le_of_ble_eq_true rfl⟩) ⟨fun a U g mk q => by obtain ⟨q0, qP, qK⟩ := q; exact ⟨q0, qP, va_K.moved (u := U) (U := U.calling g mk a) (Vm.Alike.refl U.vm) qK⟩, va_recv hKc hPc (ci := 0) (q0 := 0) rfl rfl, fun U hU hW => ⟨rfl, by rw [hU]; exact hPc, va_K.moved hW.alike hKc⟩⟩ rfl rfl hl.1 rfl (lv_room (Nat.le_of_ble_eq_true rfl)) dX0_tellYealm_3 ⟨Nat.le_of_ble_eq_true rfl, Nat.le_of_ble_eq_true rfl⟩).run (fun r1 hr1 => ?_)
  obtain rfl := hr1
  refine lv_if_ne (tgt := 20) hx hb dX0_tellYealm_6 (by decide) (fun c2 => absurd c2 (by decide)) (fun c2 => ?_)
  refine lv_iload_n hx hb dX0_tellYealm_9 rfl (lv_at hl 3 rfl) ?_
  refine lv_iconst (v := 1) hx hb dX0_tellYealm_10 (by decide) ?_
  refine lv_icmp_ne (tgt := 18) hx hb dX0_tellYealm_11 (by decide) (fun c3 => absurd c3 (by decide)) (fun c3 => ?_)
  refine lv_iconst (v := (-1)) hx hb dX0_tellYealm_14 (by decide) ?_
  refine lv_goto (tgt := 19) hx hb dX0_tellYealm_15 (by decide) ?_
  exact W.iret (v := (-1)) hx hb hr (fun t ht hW => ⟨(-1), rfl, by (first | rfl | assumption | decide | (simp_all; done) | grind), ht⟩) (fun _ h => nomatch h) dX0_tellYealm_19

set_option maxHeartbeats 4000000 in
set_option maxRecDepth 100000 in
theorem r0_tellYealm2 (l : Launch) (dC : Nat → ClassId) (dI : Nat → Nat → Nat) (rh : Nat) (rk : Nat) (rt : Nat) (rp : Nat) (rm : Nat) (cT : ClassId) (cu : Nat) (pl : Nat) (hcu : cu < 6) (hpl : pl < 10) : Met l yX0_tellYealm wsX0_tellYealm ({ frames := 2, cells := 0, slots := 0, locals := 44 }) (va_Pc [.ref rh, .int (nI cu), .int (nI pl), .int 2] (fun U => va_P (dC, dI) vwCl [(rh, .inr (0, [.int 10, .int 6, .int 30, .int 100, .int 0, .int 0, .ref rk, .ref rt, .ref rp, .ref rm])), (rt, .inl (cT, 60, .inl (fun _ => 0)))] U.heap ∧ va_K (dC, dI) vwCl [(cT, .int)] U)) (vp_Si (fun r : Int32 => r = 0)) 0 0 (fun _ => False) := by
  refine Met.ofW (cc := cX0_tellYealm) (maxL := 5) (ret := (some .int)) (by decide) rfl ?_
  intro p e s m args below meth c s₁ B hml hv
  obtain ⟨rfl, hP, hK⟩ := hv
  have hx := B.exec
  have hb := B.bytes
  have hr := B.returns
  have hts := atoms_spec (ws := wsX0_tellYealm) B.pre
  have hown : s.vm.findClass RX0 = some m.cls := findClass_of_methodNamed B.named
  have hlocks := B.notSynchronized
  have hP : va_P (dC, dI) vwCl [(rh, .inr (0, [.int 10, .int 6, .int 30, .int 100, .int 0, .int 0, .ref rk, .ref rt, .ref rp, .ref rm])), (rt, .inl (cT, 60, .inl (fun _ => 0)))] s.heap := hP
  have hl := lv_entry ([.ref rh, .int (nI cu), .int (nI pl), .int 2]) (n := 5) (Nat.le_of_ble_eq_true rfl)
  rw [lg_entry_eq]
  generalize (lg_sl ([.ref rh, .int (nI cu), .int (nI pl), .int 2]) ++ List.replicate (5 - (lg_sl ([.ref rh, .int (nI cu), .int (nI pl), .int 2])).length) Slot.unset).toArray = ls at hl ⊢
  have hl : lv_has ls 5 [(0, .ref rh), (1, .int (nI cu)), (2, .int (nI pl)), (3, .int 2)] := hl
  refine lv_aload_n hx hb dX0_tellYealm_0 rfl (lv_at hl 0 rfl) ?_
  refine lv_iload_n hx hb dX0_tellYealm_1 rfl (lv_at hl 1 rfl) ?_
  refine lv_iload_n hx hb dX0_tellYealm_2 rfl (lv_at hl 2 rfl) ?_
  have hPc := hP.sub (ws' := [(rh, .inr (0, [.int 10, .int 6, .int 30, .int 100, .int 0, .int 0, .ref rk, .ref rt, .ref rp, .ref rm])), (rt, .inl (cT, 60, .inl (fun _ => 0)))]) [0, 1] rfl
  have hKc := hK.sub (tys' := [(cT, .int)]) [0] rfl
  refine vp_callSi (va_runV (As := [.int (nI cu), .int (nI pl)]) (rest := []) ⟨hx, hb, hml, hown, hts⟩ (r0_hasYealm l dC dI rh rk rt rp rm cT cu pl (by first | assumption | decide | omega) (by first | assumption | decide | omega)) (cwV 2 hts gX0_tellYealm_X0_hasYealm rfl rfl rfl (by decide +kernel) ⟨Nat.le_of_ble_eq_true rfl, Nat.le_of_ble_eq_true rfl⟩) ⟨fun a U g mk q => by obtain ⟨q0, qP, qK⟩ := q; exact ⟨q0, qP, va_K.moved (u := U) (U := U.calling g mk a) (Vm.Alike.refl U.vm) qK⟩, va_recv hKc hPc (ci := 0) (q0 := 0) rfl rfl, fun U hU hW => ⟨rfl, by rw [hU]; exact hPc, va_K.moved hW.alike hKc⟩⟩ rfl rfl hl.1 rfl (lv_room (Nat.le_of_ble_eq_true rfl)) dX0_tellYealm_3 ⟨Nat.le_of_ble_eq_true rfl, Nat.le_of_ble_eq_true rfl⟩).run (fun r1 hr1 => ?_)
  obtain rfl := hr1
  refine lv_if_ne (tgt := 20) hx hb dX0_tellYealm_6 (by decide) (fun c2 => absurd c2 (by decide)) (fun c2 => ?_)
  refine lv_iload_n hx hb dX0_tellYealm_9 rfl (lv_at hl 3 rfl) ?_
  refine lv_iconst (v := 1) hx hb dX0_tellYealm_10 (by decide) ?_
  refine lv_icmp_ne (tgt := 18) hx hb dX0_tellYealm_11 (by decide) (fun c3 => ?_) (fun c3 => absurd c3 (by decide))
  refine lv_iconst (v := 0) hx hb dX0_tellYealm_18 (by decide) ?_
  exact W.iret (v := 0) hx hb hr (fun t ht hW => ⟨0, rfl, by (first | rfl | assumption | decide | (simp_all; done) | grind), ht⟩) (fun _ h => nomatch h) dX0_tellYealm_19

set_option maxHeartbeats 4000000 in
set_option maxRecDepth 100000 in
theorem r0_tellYealm3 (l : Launch) (dC : Nat → ClassId) (dI : Nat → Nat → Nat) (rh : Nat) (rk : Nat) (rt : Nat) (rp : Nat) (rm : Nat) (cT : ClassId) (cu : Nat) (pl : Nat) (hcu : cu < 6) (hpl : pl < 10) : Met l yX0_tellYealm wsX0_tellYealm ({ frames := 2, cells := 0, slots := 0, locals := 44 }) (va_Pc [.ref rh, .int (nI cu), .int (nI pl), .int 3] (fun U => va_P (dC, dI) vwCl [(rh, .inr (0, [.int 10, .int 6, .int 30, .int 100, .int 0, .int 0, .ref rk, .ref rt, .ref rp, .ref rm])), (rt, .inl (cT, 60, .inl (fun _ => 0)))] U.heap ∧ va_K (dC, dI) vwCl [(cT, .int)] U)) (vp_Si (fun r : Int32 => r = 0)) 0 0 (fun _ => False) := by
  refine Met.ofW (cc := cX0_tellYealm) (maxL := 5) (ret := (some .int)) (by decide) rfl ?_
  intro p e s m args below meth c s₁ B hml hv
  obtain ⟨rfl, hP, hK⟩ := hv
  have hx := B.exec
  have hb := B.bytes
  have hr := B.returns
  have hts := atoms_spec (ws := wsX0_tellYealm) B.pre
  have hown : s.vm.findClass RX0 = some m.cls := findClass_of_methodNamed B.named
  have hlocks := B.notSynchronized
  have hP : va_P (dC, dI) vwCl [(rh, .inr (0, [.int 10, .int 6, .int 30, .int 100, .int 0, .int 0, .ref rk, .ref rt, .ref rp, .ref rm])), (rt, .inl (cT, 60, .inl (fun _ => 0)))] s.heap := hP
  have hl := lv_entry ([.ref rh, .int (nI cu), .int (nI pl), .int 3]) (n := 5) (Nat.le_of_ble_eq_true rfl)
  rw [lg_entry_eq]
  generalize (lg_sl ([.ref rh, .int (nI cu), .int (nI pl), .int 3]) ++ List.replicate (5 - (lg_sl ([.ref rh, .int (nI cu), .int (nI pl), .int 3])).length) Slot.unset).toArray = ls at hl ⊢
  have hl : lv_has ls 5 [(0, .ref rh), (1, .int (nI cu)), (2, .int (nI pl)), (3, .int 3)] := hl
  refine lv_aload_n hx hb dX0_tellYealm_0 rfl (lv_at hl 0 rfl) ?_
  refine lv_iload_n hx hb dX0_tellYealm_1 rfl (lv_at hl 1 rfl) ?_
  refine lv_iload_n hx hb dX0_tellYealm_2 rfl (lv_at hl 2 rfl) ?_
  have hPc := hP.sub (ws' := [(rh, .inr (0, [.int 10, .int 6, .int 30, .int 100, .int 0, .int 0, .ref rk, .ref rt, .ref rp, .ref rm])), (rt, .inl (cT, 60, .inl (fun _ => 0)))]) [0, 1] rfl
  have hKc := hK.sub (tys' := [(cT, .int)]) [0] rfl
  refine vp_callSi (va_runV (As := [.int (nI cu), .int (nI pl)]) (rest := []) ⟨hx, hb, hml, hown, hts⟩ (r0_hasYealm l dC dI rh rk rt rp rm cT cu pl (by first | assumption | decide | omega) (by first | assumption | decide | omega)) (cwV 2 hts gX0_tellYealm_X0_hasYealm rfl rfl rfl (by decide +kernel) ⟨Nat.le_of_ble_eq_true rfl, Nat.le_of_ble_eq_true rfl⟩) ⟨fun a U g mk q => by obtain ⟨q0, qP, qK⟩ := q; exact ⟨q0, qP, va_K.moved (u := U) (U := U.calling g mk a) (Vm.Alike.refl U.vm) qK⟩, va_recv hKc hPc (ci := 0) (q0 := 0) rfl rfl, fun U hU hW => ⟨rfl, by rw [hU]; exact hPc, va_K.moved hW.alike hKc⟩⟩ rfl rfl hl.1 rfl (lv_room (Nat.le_of_ble_eq_true rfl)) dX0_tellYealm_3 ⟨Nat.le_of_ble_eq_true rfl, Nat.le_of_ble_eq_true rfl⟩).run (fun r1 hr1 => ?_)
  obtain rfl := hr1
  refine lv_if_ne (tgt := 20) hx hb dX0_tellYealm_6 (by decide) (fun c2 => absurd c2 (by decide)) (fun c2 => ?_)
  refine lv_iload_n hx hb dX0_tellYealm_9 rfl (lv_at hl 3 rfl) ?_
  refine lv_iconst (v := 1) hx hb dX0_tellYealm_10 (by decide) ?_
  refine lv_icmp_ne (tgt := 18) hx hb dX0_tellYealm_11 (by decide) (fun c3 => ?_) (fun c3 => absurd c3 (by decide))
  refine lv_iconst (v := 0) hx hb dX0_tellYealm_18 (by decide) ?_
  exact W.iret (v := 0) hx hb hr (fun t ht hW => ⟨0, rfl, by (first | rfl | assumption | decide | (simp_all; done) | grind), ht⟩) (fun _ h => nomatch h) dX0_tellYealm_19

set_option maxHeartbeats 4000000 in
set_option maxRecDepth 100000 in
theorem r0_tellYealm4 (l : Launch) (dC : Nat → ClassId) (dI : Nat → Nat → Nat) (rh : Nat) (rk : Nat) (rt : Nat) (rp : Nat) (rm : Nat) (cT : ClassId) (cu : Nat) (pl : Nat) (hcu : cu < 6) (hpl : pl < 10) : Met l yX0_tellYealm wsX0_tellYealm ({ frames := 2, cells := 0, slots := 0, locals := 44 }) (va_Pc [.ref rh, .int (nI cu), .int (nI pl), .int 4] (fun U => va_P (dC, dI) vwCl [(rh, .inr (0, [.int 10, .int 6, .int 30, .int 100, .int 0, .int 0, .ref rk, .ref rt, .ref rp, .ref rm])), (rt, .inl (cT, 60, .inl (fun _ => 0)))] U.heap ∧ va_K (dC, dI) vwCl [(cT, .int)] U)) (vp_Si (fun r : Int32 => r = 0)) 0 0 (fun _ => False) := by
  refine Met.ofW (cc := cX0_tellYealm) (maxL := 5) (ret := (some .int)) (by decide) rfl ?_
  intro p e s m args below meth c s₁ B hml hv
  obtain ⟨rfl, hP, hK⟩ := hv
  have hx := B.exec
  have hb := B.bytes
  have hr := B.returns
  have hts := atoms_spec (ws := wsX0_tellYealm) B.pre
  have hown : s.vm.findClass RX0 = some m.cls := findClass_of_methodNamed B.named
  have hlocks := B.notSynchronized
  have hP : va_P (dC, dI) vwCl [(rh, .inr (0, [.int 10, .int 6, .int 30, .int 100, .int 0, .int 0, .ref rk, .ref rt, .ref rp, .ref rm])), (rt, .inl (cT, 60, .inl (fun _ => 0)))] s.heap := hP
  have hl := lv_entry ([.ref rh, .int (nI cu), .int (nI pl), .int 4]) (n := 5) (Nat.le_of_ble_eq_true rfl)
  rw [lg_entry_eq]
  generalize (lg_sl ([.ref rh, .int (nI cu), .int (nI pl), .int 4]) ++ List.replicate (5 - (lg_sl ([.ref rh, .int (nI cu), .int (nI pl), .int 4])).length) Slot.unset).toArray = ls at hl ⊢
  have hl : lv_has ls 5 [(0, .ref rh), (1, .int (nI cu)), (2, .int (nI pl)), (3, .int 4)] := hl
  refine lv_aload_n hx hb dX0_tellYealm_0 rfl (lv_at hl 0 rfl) ?_
  refine lv_iload_n hx hb dX0_tellYealm_1 rfl (lv_at hl 1 rfl) ?_
  refine lv_iload_n hx hb dX0_tellYealm_2 rfl (lv_at hl 2 rfl) ?_
  have hPc := hP.sub (ws' := [(rh, .inr (0, [.int 10, .int 6, .int 30, .int 100, .int 0, .int 0, .ref rk, .ref rt, .ref rp, .ref rm])), (rt, .inl (cT, 60, .inl (fun _ => 0)))]) [0, 1] rfl
  have hKc := hK.sub (tys' := [(cT, .int)]) [0] rfl
  refine vp_callSi (va_runV (As := [.int (nI cu), .int (nI pl)]) (rest := []) ⟨hx, hb, hml, hown, hts⟩ (r0_hasYealm l dC dI rh rk rt rp rm cT cu pl (by first | assumption | decide | omega) (by first | assumption | decide | omega)) (cwV 2 hts gX0_tellYealm_X0_hasYealm rfl rfl rfl (by decide +kernel) ⟨Nat.le_of_ble_eq_true rfl, Nat.le_of_ble_eq_true rfl⟩) ⟨fun a U g mk q => by obtain ⟨q0, qP, qK⟩ := q; exact ⟨q0, qP, va_K.moved (u := U) (U := U.calling g mk a) (Vm.Alike.refl U.vm) qK⟩, va_recv hKc hPc (ci := 0) (q0 := 0) rfl rfl, fun U hU hW => ⟨rfl, by rw [hU]; exact hPc, va_K.moved hW.alike hKc⟩⟩ rfl rfl hl.1 rfl (lv_room (Nat.le_of_ble_eq_true rfl)) dX0_tellYealm_3 ⟨Nat.le_of_ble_eq_true rfl, Nat.le_of_ble_eq_true rfl⟩).run (fun r1 hr1 => ?_)
  obtain rfl := hr1
  refine lv_if_ne (tgt := 20) hx hb dX0_tellYealm_6 (by decide) (fun c2 => absurd c2 (by decide)) (fun c2 => ?_)
  refine lv_iload_n hx hb dX0_tellYealm_9 rfl (lv_at hl 3 rfl) ?_
  refine lv_iconst (v := 1) hx hb dX0_tellYealm_10 (by decide) ?_
  refine lv_icmp_ne (tgt := 18) hx hb dX0_tellYealm_11 (by decide) (fun c3 => ?_) (fun c3 => absurd c3 (by decide))
  refine lv_iconst (v := 0) hx hb dX0_tellYealm_18 (by decide) ?_
  exact W.iret (v := 0) hx hb hr (fun t ht hW => ⟨0, rfl, by (first | rfl | assumption | decide | (simp_all; done) | grind), ht⟩) (fun _ h => nomatch h) dX0_tellYealm_19

set_option maxHeartbeats 4000000 in
set_option maxRecDepth 100000 in
theorem r0_tellYealm5 (l : Launch) (dC : Nat → ClassId) (dI : Nat → Nat → Nat) (rh : Nat) (rk : Nat) (rt : Nat) (rp : Nat) (rm : Nat) (cT : ClassId) (cu : Nat) (pl : Nat) (hcu : cu < 6) (hpl : pl < 10) : Met l yX0_tellYealm wsX0_tellYealm ({ frames := 2, cells := 0, slots := 0, locals := 44 }) (va_Pc [.ref rh, .int (nI cu), .int (nI pl), .int 5] (fun U => va_P (dC, dI) vwCl [(rh, .inr (0, [.int 10, .int 6, .int 30, .int 100, .int 0, .int 0, .ref rk, .ref rt, .ref rp, .ref rm])), (rt, .inl (cT, 60, .inl (fun _ => 0)))] U.heap ∧ va_K (dC, dI) vwCl [(cT, .int)] U)) (vp_Si (fun r : Int32 => r = 0)) 0 0 (fun _ => False) := by
  refine Met.ofW (cc := cX0_tellYealm) (maxL := 5) (ret := (some .int)) (by decide) rfl ?_
  intro p e s m args below meth c s₁ B hml hv
  obtain ⟨rfl, hP, hK⟩ := hv
  have hx := B.exec
  have hb := B.bytes
  have hr := B.returns
  have hts := atoms_spec (ws := wsX0_tellYealm) B.pre
  have hown : s.vm.findClass RX0 = some m.cls := findClass_of_methodNamed B.named
  have hlocks := B.notSynchronized
  have hP : va_P (dC, dI) vwCl [(rh, .inr (0, [.int 10, .int 6, .int 30, .int 100, .int 0, .int 0, .ref rk, .ref rt, .ref rp, .ref rm])), (rt, .inl (cT, 60, .inl (fun _ => 0)))] s.heap := hP
  have hl := lv_entry ([.ref rh, .int (nI cu), .int (nI pl), .int 5]) (n := 5) (Nat.le_of_ble_eq_true rfl)
  rw [lg_entry_eq]
  generalize (lg_sl ([.ref rh, .int (nI cu), .int (nI pl), .int 5]) ++ List.replicate (5 - (lg_sl ([.ref rh, .int (nI cu), .int (nI pl), .int 5])).length) Slot.unset).toArray = ls at hl ⊢
  have hl : lv_has ls 5 [(0, .ref rh), (1, .int (nI cu)), (2, .int (nI pl)), (3, .int 5)] := hl
  refine lv_aload_n hx hb dX0_tellYealm_0 rfl (lv_at hl 0 rfl) ?_
  refine lv_iload_n hx hb dX0_tellYealm_1 rfl (lv_at hl 1 rfl) ?_
  refine lv_iload_n hx hb dX0_tellYealm_2 rfl (lv_at hl 2 rfl) ?_
  have hPc := hP.sub (ws' := [(rh, .inr (0, [.int 10, .int 6, .int 30, .int 100, .int 0, .int 0, .ref rk, .ref rt, .ref rp, .ref rm])), (rt, .inl (cT, 60, .inl (fun _ => 0)))]) [0, 1] rfl
  have hKc := hK.sub (tys' := [(cT, .int)]) [0] rfl
  refine vp_callSi (va_runV (As := [.int (nI cu), .int (nI pl)]) (rest := []) ⟨hx, hb, hml, hown, hts⟩ (r0_hasYealm l dC dI rh rk rt rp rm cT cu pl (by first | assumption | decide | omega) (by first | assumption | decide | omega)) (cwV 2 hts gX0_tellYealm_X0_hasYealm rfl rfl rfl (by decide +kernel) ⟨Nat.le_of_ble_eq_true rfl, Nat.le_of_ble_eq_true rfl⟩) ⟨fun a U g mk q => by obtain ⟨q0, qP, qK⟩ := q; exact ⟨q0, qP, va_K.moved (u := U) (U := U.calling g mk a) (Vm.Alike.refl U.vm) qK⟩, va_recv hKc hPc (ci := 0) (q0 := 0) rfl rfl, fun U hU hW => ⟨rfl, by rw [hU]; exact hPc, va_K.moved hW.alike hKc⟩⟩ rfl rfl hl.1 rfl (lv_room (Nat.le_of_ble_eq_true rfl)) dX0_tellYealm_3 ⟨Nat.le_of_ble_eq_true rfl, Nat.le_of_ble_eq_true rfl⟩).run (fun r1 hr1 => ?_)
  obtain rfl := hr1
  refine lv_if_ne (tgt := 20) hx hb dX0_tellYealm_6 (by decide) (fun c2 => absurd c2 (by decide)) (fun c2 => ?_)
  refine lv_iload_n hx hb dX0_tellYealm_9 rfl (lv_at hl 3 rfl) ?_
  refine lv_iconst (v := 1) hx hb dX0_tellYealm_10 (by decide) ?_
  refine lv_icmp_ne (tgt := 18) hx hb dX0_tellYealm_11 (by decide) (fun c3 => ?_) (fun c3 => absurd c3 (by decide))
  refine lv_iconst (v := 0) hx hb dX0_tellYealm_18 (by decide) ?_
  exact W.iret (v := 0) hx hb hr (fun t ht hW => ⟨0, rfl, by (first | rfl | assumption | decide | (simp_all; done) | grind), ht⟩) (fun _ h => nomatch h) dX0_tellYealm_19
end

section
set_option maxHeartbeats 4000000 in
set_option maxRecDepth 100000 in
theorem r1_tallyOfRoofs4 (l : Launch) (dC : Nat → ClassId) (dI : Nat → Nat → Nat) (h : Nat) (ro : Nat) (ba : Nat) (ra : Nat) (su : Nat) (tr : Nat) (cR : ClassId) (fr : Nat → Option Nat) (y0h : Nat) (y0k : Nat) (y0t : Nat) (y0p : Nat) (y0m : Nat) (Y0c : ClassId) (y1h : Nat) (y1k : Nat) (y1t : Nat) (y1p : Nat) (y1m : Nat) (Y1c : ClassId) (y2h : Nat) (y2k : Nat) (y2t : Nat) (y2p : Nat) (y2m : Nat) (Y2c : ClassId) (y3h : Nat) (y3k : Nat) (y3t : Nat) (y3p : Nat) (y3m : Nat) (Y3c : ClassId) (y4h : Nat) (y4k : Nat) (y4t : Nat) (y4p : Nat) (y4m : Nat) (Y4c : ClassId) (y5h : Nat) (y5k : Nat) (y5t : Nat) (y5p : Nat) (y5m : Nat) (Y5c : ClassId) (hy0 : fr 0 = some y0h) (hy1 : fr 1 = some y1h) (hy2 : fr 2 = some y2h) (hy3 : fr 3 = some y3h) (hy4 : fr 4 = some y4h) (hy5 : fr 5 = some y5h) : Met l yX1_tallyOfRoofs wsX1_tallyOfRoofs ({ frames := 4, cells := 0, slots := 0, locals := 88 }) (va_Pc [.ref h, .int 4] (fun U => va_P (dC, dI) vwCl [(h, .inr (1, [.ref ro, .int 6, .ref ba, .ref ra, .ref su, .int 0, .ref tr])), (ro, .inl (cR, 6, .inr (.inr (.inr (.inr fr))))), (y0h, .inr (0, [.int 10, .int 6, .int 30, .int 100, .int 0, .int 0, .ref y0k, .ref y0t, .ref y0p, .ref y0m])), (y0t, .inl (Y0c, 60, .inl (fun _ => 0))), (y1h, .inr (0, [.int 10, .int 6, .int 30, .int 100, .int 0, .int 0, .ref y1k, .ref y1t, .ref y1p, .ref y1m])), (y1t, .inl (Y1c, 60, .inl (fun _ => 0))), (y2h, .inr (0, [.int 10, .int 6, .int 30, .int 100, .int 0, .int 0, .ref y2k, .ref y2t, .ref y2p, .ref y2m])), (y2t, .inl (Y2c, 60, .inl (fun _ => 0))), (y3h, .inr (0, [.int 10, .int 6, .int 30, .int 100, .int 0, .int 0, .ref y3k, .ref y3t, .ref y3p, .ref y3m])), (y3t, .inl (Y3c, 60, .inl (fun _ => 0))), (y4h, .inr (0, [.int 10, .int 6, .int 30, .int 100, .int 0, .int 0, .ref y4k, .ref y4t, .ref y4p, .ref y4m])), (y4t, .inl (Y4c, 60, .inl (fun _ => 0))), (y5h, .inr (0, [.int 10, .int 6, .int 30, .int 100, .int 0, .int 0, .ref y5k, .ref y5t, .ref y5p, .ref y5m])), (y5t, .inl (Y5c, 60, .inl (fun _ => 0)))] U.heap ∧ va_K (dC, dI) vwCl [(cR, .object RX0), (Y0c, .int), (Y1c, .int), (Y2c, .int), (Y3c, .int), (Y4c, .int), (Y5c, .int)] U)) (vp_Si (fun r : Int32 => r = 0)) 0 0 (fun _ => False) := by
  refine Met.ofW (cc := cX1_tallyOfRoofs) (maxL := 5) (ret := (some .int)) (by decide) rfl ?_
  intro p e s m args below meth c s₁ B hml hv
  obtain ⟨rfl, hP, hK⟩ := hv
  have hx := B.exec
  have hb := B.bytes
  have hr := B.returns
  have hts := atoms_spec (ws := wsX1_tallyOfRoofs) B.pre
  have hown : s.vm.findClass RX1 = some m.cls := findClass_of_methodNamed B.named
  have hlocks := B.notSynchronized
  have hP : va_P (dC, dI) vwCl [(h, .inr (1, [.ref ro, .int 6, .ref ba, .ref ra, .ref su, .int 0, .ref tr])), (ro, .inl (cR, 6, .inr (.inr (.inr (.inr fr))))), (y0h, .inr (0, [.int 10, .int 6, .int 30, .int 100, .int 0, .int 0, .ref y0k, .ref y0t, .ref y0p, .ref y0m])), (y0t, .inl (Y0c, 60, .inl (fun _ => 0))), (y1h, .inr (0, [.int 10, .int 6, .int 30, .int 100, .int 0, .int 0, .ref y1k, .ref y1t, .ref y1p, .ref y1m])), (y1t, .inl (Y1c, 60, .inl (fun _ => 0))), (y2h, .inr (0, [.int 10, .int 6, .int 30, .int 100, .int 0, .int 0, .ref y2k, .ref y2t, .ref y2p, .ref y2m])), (y2t, .inl (Y2c, 60, .inl (fun _ => 0))), (y3h, .inr (0, [.int 10, .int 6, .int 30, .int 100, .int 0, .int 0, .ref y3k, .ref y3t, .ref y3p, .ref y3m])), (y3t, .inl (Y3c, 60, .inl (fun _ => 0))), (y4h, .inr (0, [.int 10, .int 6, .int 30, .int 100, .int 0, .int 0, .ref y4k, .ref y4t, .ref y4p, .ref y4m])), (y4t, .inl (Y4c, 60, .inl (fun _ => 0))), (y5h, .inr (0, [.int 10, .int 6, .int 30, .int 100, .int 0, .int 0, .ref y5k, .ref y5t, .ref y5p, .ref y5m])), (y5t, .inl (Y5c, 60, .inl (fun _ => 0)))] s.heap := hP
  have hl := lv_entry ([.ref h, .int 4]) (n := 5) (Nat.le_of_ble_eq_true rfl)
  rw [lg_entry_eq]
  generalize (lg_sl ([.ref h, .int 4]) ++ List.replicate (5 - (lg_sl ([.ref h, .int 4])).length) Slot.unset).toArray = ls at hl ⊢
  have hl : lv_has ls 5 [(0, .ref h), (1, .int 4)] := hl
  refine lv_iconst (v := 0) hx hb dX1_tallyOfRoofs_0 (by decide) ?_
  refine lv_istore_n (lv' := [(2, .int 0), (0, .ref h), (1, .int 4)]) hx hb dX1_tallyOfRoofs_1 rfl hl (by decide) rfl (fun ls hl => ?_)
  refine lv_iconst (v := 0) hx hb dX1_tallyOfRoofs_2 (by decide) ?_
  refine lv_istore_n (lv' := [(3, .int 0), (2, .int 0), (0, .ref h), (1, .int 4)]) hx hb dX1_tallyOfRoofs_3 rfl hl (by decide) rfl (fun ls hl => ?_)
  refine lv_iload_n hx hb dX1_tallyOfRoofs_4 rfl (lv_at hl 0 rfl) ?_
  refine lv_bipush (v := 6) hx hb dX1_tallyOfRoofs_5 (by decide) ?_
  refine lv_icmp_ge (tgt := 38) hx hb dX1_tallyOfRoofs_7 (by decide) (fun c1 => absurd c1 (by decide)) (fun c1 => ?_)
  refine lv_aload_n hx hb dX1_tallyOfRoofs_10 rfl (lv_at hl 2 rfl) ?_
  refine va_get (D := (dC, dI)) (ci := 1) (v := .ref ro) (C := RX1) (T := TX1) (N := 7) hx hb hts (by decide +kernel) hown hK hP 0 rfl rfl 0 (by decide) (hts (.fieldLink RX1 11 "ThatchRoof" "roofs" "[LThatchRoof$Roof;") (by decide +kernel)) (fun _ h9 => h9) rfl dX1_tallyOfRoofs_11 ?_
  refine lv_iload_n hx hb dX1_tallyOfRoofs_14 rfl (lv_at hl 0 rfl) ?_
  refine va_aldq hx hb hK hP 1 0 rfl rfl (vp_in_nI (n := 0) (by decide) (by decide)) dX1_tallyOfRoofs_15 ?_
  rw [show fr (0 : Int32).toNatClampNeg = some y0h from hy0]
  refine W.eq (g2 := F0 m 16 ls [.ref y0h]) rfl ?_
  refine lv_astore (lv' := [(4, .ref y0h), (3, .int 0), (2, .int 0), (0, .ref h), (1, .int 4)]) hx hb dX1_tallyOfRoofs_16 hl (by decide) rfl (fun ls hl => ?_)
  refine lv_aload hx hb dX1_tallyOfRoofs_18 (lv_at hl 0 rfl) ?_
  refine lv_ifnull hx hb dX1_tallyOfRoofs_20 ?_
  refine lv_iload_n hx hb dX1_tallyOfRoofs_23 rfl (lv_at hl 2 rfl) ?_
  refine lv_aload hx hb dX1_tallyOfRoofs_24 (lv_at hl 0 rfl) ?_
  refine lv_iload_n hx hb dX1_tallyOfRoofs_26 rfl (lv_at hl 4 rfl) ?_
  have hPc := hP.sub (ws' := [(y0h, .inr (0, [.int 10, .int 6, .int 30, .int 100, .int 0, .int 0, .ref y0k, .ref y0t, .ref y0p, .ref y0m])), (y0t, .inl (Y0c, 60, .inl (fun _ => 0)))]) [2, 3] rfl
  have hKc := hK.sub (tys' := [(Y0c, .int)]) [1] rfl
  refine vp_callSi (va_runV (As := [.int 4]) (rest := [.int 0]) ⟨hx, hb, hml, hown, hts⟩ (r0_tell4 l dC dI y0h y0k y0t y0p y0m Y0c ) (cwV 1 hts gX1_tallyOfRoofs_X0_tell rfl rfl rfl (by decide +kernel) ⟨Nat.le_of_ble_eq_true rfl, Nat.le_of_ble_eq_true rfl⟩) ⟨fun a U g mk q => by obtain ⟨q0, qP, qK⟩ := q; exact ⟨q0, qP, va_K.moved (u := U) (U := U.calling g mk a) (Vm.Alike.refl U.vm) qK⟩, va_recv hKc hPc (ci := 0) (q0 := 0) rfl rfl, fun U hU hW => ⟨rfl, by rw [hU]; exact hPc, va_K.moved hW.alike hKc⟩⟩ rfl rfl hl.1 rfl (lv_room (Nat.le_of_ble_eq_true rfl)) dX1_tallyOfRoofs_27 ⟨Nat.le_of_ble_eq_true rfl, Nat.le_of_ble_eq_true rfl⟩).run (fun r2 hr2 => ?_)
  obtain rfl := hr2
  refine lv_iadd hx hb dX1_tallyOfRoofs_30 ?_
  refine W.eq (g2 := F0 m 31 ls [.int 0]) rfl ?_
  refine lv_istore_n (lv' := [(2, .int 0), (4, .ref y0h), (3, .int 0), (0, .ref h), (1, .int 4)]) hx hb dX1_tallyOfRoofs_31 rfl hl (by decide) rfl (fun ls hl => ?_)
  refine lv_iinc (v := 1) (lv' := [(3, .int 1), (2, .int 0), (4, .ref y0h), (0, .ref h), (1, .int 4)]) hx hb dX1_tallyOfRoofs_32 hl (k := 2) rfl (by decide) (by decide) rfl (fun ls hl => ?_)
  refine lv_goto (tgt := 4) hx hb dX1_tallyOfRoofs_35 (by decide) ?_
  refine lv_iload_n hx hb dX1_tallyOfRoofs_4 rfl (lv_at hl 0 rfl) ?_
  refine lv_bipush (v := 6) hx hb dX1_tallyOfRoofs_5 (by decide) ?_
  refine lv_icmp_ge (tgt := 38) hx hb dX1_tallyOfRoofs_7 (by decide) (fun c3 => absurd c3 (by decide)) (fun c3 => ?_)
  refine lv_aload_n hx hb dX1_tallyOfRoofs_10 rfl (lv_at hl 3 rfl) ?_
  refine va_get (D := (dC, dI)) (ci := 1) (v := .ref ro) (C := RX1) (T := TX1) (N := 7) hx hb hts (by decide +kernel) hown hK hP 0 rfl rfl 0 (by decide) (hts (.fieldLink RX1 11 "ThatchRoof" "roofs" "[LThatchRoof$Roof;") (by decide +kernel)) (fun _ h9 => h9) rfl dX1_tallyOfRoofs_11 ?_
  refine lv_iload_n hx hb dX1_tallyOfRoofs_14 rfl (lv_at hl 0 rfl) ?_
  refine va_aldq hx hb hK hP 1 0 rfl rfl (vp_in_nI (n := 1) (by decide) (by decide)) dX1_tallyOfRoofs_15 ?_
  rw [show fr (1 : Int32).toNatClampNeg = some y1h from hy1]
  refine W.eq (g2 := F0 m 16 ls [.ref y1h]) rfl ?_
  refine lv_astore (lv' := [(4, .ref y1h), (3, .int 1), (2, .int 0), (0, .ref h), (1, .int 4)]) hx hb dX1_tallyOfRoofs_16 hl (by decide) rfl (fun ls hl => ?_)
  refine lv_aload hx hb dX1_tallyOfRoofs_18 (lv_at hl 0 rfl) ?_
  refine lv_ifnull hx hb dX1_tallyOfRoofs_20 ?_
  refine lv_iload_n hx hb dX1_tallyOfRoofs_23 rfl (lv_at hl 2 rfl) ?_
  refine lv_aload hx hb dX1_tallyOfRoofs_24 (lv_at hl 0 rfl) ?_
  refine lv_iload_n hx hb dX1_tallyOfRoofs_26 rfl (lv_at hl 4 rfl) ?_
  have hPc := hP.sub (ws' := [(y1h, .inr (0, [.int 10, .int 6, .int 30, .int 100, .int 0, .int 0, .ref y1k, .ref y1t, .ref y1p, .ref y1m])), (y1t, .inl (Y1c, 60, .inl (fun _ => 0)))]) [4, 5] rfl
  have hKc := hK.sub (tys' := [(Y1c, .int)]) [2] rfl
  refine vp_callSi (va_runV (As := [.int 4]) (rest := [.int 0]) ⟨hx, hb, hml, hown, hts⟩ (r0_tell4 l dC dI y1h y1k y1t y1p y1m Y1c ) (cwV 1 hts gX1_tallyOfRoofs_X0_tell rfl rfl rfl (by decide +kernel) ⟨Nat.le_of_ble_eq_true rfl, Nat.le_of_ble_eq_true rfl⟩) ⟨fun a U g mk q => by obtain ⟨q0, qP, qK⟩ := q; exact ⟨q0, qP, va_K.moved (u := U) (U := U.calling g mk a) (Vm.Alike.refl U.vm) qK⟩, va_recv hKc hPc (ci := 0) (q0 := 0) rfl rfl, fun U hU hW => ⟨rfl, by rw [hU]; exact hPc, va_K.moved hW.alike hKc⟩⟩ rfl rfl hl.1 rfl (lv_room (Nat.le_of_ble_eq_true rfl)) dX1_tallyOfRoofs_27 ⟨Nat.le_of_ble_eq_true rfl, Nat.le_of_ble_eq_true rfl⟩).run (fun r4 hr4 => ?_)
  obtain rfl := hr4
  refine lv_iadd hx hb dX1_tallyOfRoofs_30 ?_
  refine W.eq (g2 := F0 m 31 ls [.int 0]) rfl ?_
  refine lv_istore_n (lv' := [(2, .int 0), (4, .ref y1h), (3, .int 1), (0, .ref h), (1, .int 4)]) hx hb dX1_tallyOfRoofs_31 rfl hl (by decide) rfl (fun ls hl => ?_)
  refine lv_iinc (v := 2) (lv' := [(3, .int 2), (2, .int 0), (4, .ref y1h), (0, .ref h), (1, .int 4)]) hx hb dX1_tallyOfRoofs_32 hl (k := 2) rfl (by decide) (by decide) rfl (fun ls hl => ?_)
  refine lv_goto (tgt := 4) hx hb dX1_tallyOfRoofs_35 (by decide) ?_
  refine lv_iload_n hx hb dX1_tallyOfRoofs_4 rfl (lv_at hl 0 rfl) ?_
  refine lv_bipush (v := 6) hx hb dX1_tallyOfRoofs_5 (by decide) ?_
  refine lv_icmp_ge (tgt := 38) hx hb dX1_tallyOfRoofs_7 (by decide) (fun c5 => absurd c5 (by decide)) (fun c5 => ?_)
  refine lv_aload_n hx hb dX1_tallyOfRoofs_10 rfl (lv_at hl 3 rfl) ?_
  refine va_get (D := (dC, dI)) (ci := 1) (v := .ref ro) (C := RX1) (T := TX1) (N := 7) hx hb hts (by decide +kernel) hown hK hP 0 rfl rfl 0 (by decide) (hts (.fieldLink RX1 11 "ThatchRoof" "roofs" "[LThatchRoof$Roof;") (by decide +kernel)) (fun _ h9 => h9) rfl dX1_tallyOfRoofs_11 ?_
  refine lv_iload_n hx hb dX1_tallyOfRoofs_14 rfl (lv_at hl 0 rfl) ?_
  refine va_aldq hx hb hK hP 1 0 rfl rfl (vp_in_nI (n := 2) (by decide) (by decide)) dX1_tallyOfRoofs_15 ?_
  rw [show fr (2 : Int32).toNatClampNeg = some y2h from hy2]
  refine W.eq (g2 := F0 m 16 ls [.ref y2h]) rfl ?_
  refine lv_astore (lv' := [(4, .ref y2h), (3, .int 2), (2, .int 0), (0, .ref h), (1, .int 4)]) hx hb dX1_tallyOfRoofs_16 hl (by decide) rfl (fun ls hl => ?_)
  refine lv_aload hx hb dX1_tallyOfRoofs_18 (lv_at hl 0 rfl) ?_
  refine lv_ifnull hx hb dX1_tallyOfRoofs_20 ?_
  refine lv_iload_n hx hb dX1_tallyOfRoofs_23 rfl (lv_at hl 2 rfl) ?_
  refine lv_aload hx hb dX1_tallyOfRoofs_24 (lv_at hl 0 rfl) ?_
  refine lv_iload_n hx hb dX1_tallyOfRoofs_26 rfl (lv_at hl 4 rfl) ?_
  have hPc := hP.sub (ws' := [(y2h, .inr (0, [.int 10, .int 6, .int 30, .int 100, .int 0, .int 0, .ref y2k, .ref y2t, .ref y2p, .ref y2m])), (y2t, .inl (Y2c, 60, .inl (fun _ => 0)))]) [6, 7] rfl
  have hKc := hK.sub (tys' := [(Y2c, .int)]) [3] rfl
  refine vp_callSi (va_runV (As := [.int 4]) (rest := [.int 0]) ⟨hx, hb, hml, hown, hts⟩ (r0_tell4 l dC dI y2h y2k y2t y2p y2m Y2c ) (cwV 1 hts gX1_tallyOfRoofs_X0_tell rfl rfl rfl (by decide +kernel) ⟨Nat.le_of_ble_eq_true rfl, Nat.le_of_ble_eq_true rfl⟩) ⟨fun a U g mk q => by obtain ⟨q0, qP, qK⟩ := q; exact ⟨q0, qP, va_K.moved (u := U) (U := U.calling g mk a) (Vm.Alike.refl U.vm) qK⟩, va_recv hKc hPc (ci := 0) (q0 := 0) rfl rfl, fun U hU hW => ⟨rfl, by rw [hU]; exact hPc, va_K.moved hW.alike hKc⟩⟩ rfl rfl hl.1 rfl (lv_room (Nat.le_of_ble_eq_true rfl)) dX1_tallyOfRoofs_27 ⟨Nat.le_of_ble_eq_true rfl, Nat.le_of_ble_eq_true rfl⟩).run (fun r6 hr6 => ?_)
  obtain rfl := hr6
  refine lv_iadd hx hb dX1_tallyOfRoofs_30 ?_
  refine W.eq (g2 := F0 m 31 ls [.int 0]) rfl ?_
  refine lv_istore_n (lv' := [(2, .int 0), (4, .ref y2h), (3, .int 2), (0, .ref h), (1, .int 4)]) hx hb dX1_tallyOfRoofs_31 rfl hl (by decide) rfl (fun ls hl => ?_)
  refine lv_iinc (v := 3) (lv' := [(3, .int 3), (2, .int 0), (4, .ref y2h), (0, .ref h), (1, .int 4)]) hx hb dX1_tallyOfRoofs_32 hl (k := 2) rfl (by decide) (by decide) rfl (fun ls hl => ?_)
  refine lv_goto (tgt := 4) hx hb dX1_tallyOfRoofs_35 (by decide) ?_
  refine lv_iload_n hx hb dX1_tallyOfRoofs_4 rfl (lv_at hl 0 rfl) ?_
  refine lv_bipush (v := 6) hx hb dX1_tallyOfRoofs_5 (by decide) ?_
  refine lv_icmp_ge (tgt := 38) hx hb dX1_tallyOfRoofs_7 (by decide) (fun c7 => absurd c7 (by decide)) (fun c7 => ?_)
  refine lv_aload_n hx hb dX1_tallyOfRoofs_10 rfl (lv_at hl 3 rfl) ?_
  refine va_get (D := (dC, dI)) (ci := 1) (v := .ref ro) (C := RX1) (T := TX1) (N := 7) hx hb hts (by decide +kernel) hown hK hP 0 rfl rfl 0 (by decide) (hts (.fieldLink RX1 11 "ThatchRoof" "roofs" "[LThatchRoof$Roof;") (by decide +kernel)) (fun _ h9 => h9) rfl dX1_tallyOfRoofs_11 ?_
  refine lv_iload_n hx hb dX1_tallyOfRoofs_14 rfl (lv_at hl 0 rfl) ?_
  refine va_aldq hx hb hK hP 1 0 rfl rfl (vp_in_nI (n := 3) (by decide) (by decide)) dX1_tallyOfRoofs_15 ?_
  rw [show fr (3 : Int32).toNatClampNeg = some y3h from hy3]
  refine W.eq (g2 := F0 m 16 ls [.ref y3h]) rfl ?_
  refine lv_astore (lv' := [(4, .ref y3h), (3, .int 3), (2, .int 0), (0, .ref h), (1, .int 4)]) hx hb dX1_tallyOfRoofs_16 hl (by decide) rfl (fun ls hl => ?_)
  refine lv_aload hx hb dX1_tallyOfRoofs_18 (lv_at hl 0 rfl) ?_
  refine lv_ifnull hx hb dX1_tallyOfRoofs_20 ?_
  refine lv_iload_n hx hb dX1_tallyOfRoofs_23 rfl (lv_at hl 2 rfl) ?_
  refine lv_aload hx hb dX1_tallyOfRoofs_24 (lv_at hl 0 rfl) ?_
  refine lv_iload_n hx hb dX1_tallyOfRoofs_26 rfl (lv_at hl 4 rfl) ?_
  have hPc := hP.sub (ws' := [(y3h, .inr (0, [.int 10, .int 6, .int 30, .int 100, .int 0, .int 0, .ref y3k, .ref y3t, .ref y3p, .ref y3m])), (y3t, .inl (Y3c, 60, .inl (fun _ => 0)))]) [8, 9] rfl
  have hKc := hK.sub (tys' := [(Y3c, .int)]) [4] rfl
  refine vp_callSi (va_runV (As := [.int 4]) (rest := [.int 0]) ⟨hx, hb, hml, hown, hts⟩ (r0_tell4 l dC dI y3h y3k y3t y3p y3m Y3c ) (cwV 1 hts gX1_tallyOfRoofs_X0_tell rfl rfl rfl (by decide +kernel) ⟨Nat.le_of_ble_eq_true rfl, Nat.le_of_ble_eq_true rfl⟩) ⟨fun a U g mk q => by obtain ⟨q0, qP, qK⟩ := q; exact ⟨q0, qP, va_K.moved (u := U) (U := U.calling g mk a) (Vm.Alike.refl U.vm) qK⟩, va_recv hKc hPc (ci := 0) (q0 := 0) rfl rfl, fun U hU hW => ⟨rfl, by rw [hU]; exact hPc, va_K.moved hW.alike hKc⟩⟩ rfl rfl hl.1 rfl (lv_room (Nat.le_of_ble_eq_true rfl)) dX1_tallyOfRoofs_27 ⟨Nat.le_of_ble_eq_true rfl, Nat.le_of_ble_eq_true rfl⟩).run (fun r8 hr8 => ?_)
  obtain rfl := hr8
  refine lv_iadd hx hb dX1_tallyOfRoofs_30 ?_
  refine W.eq (g2 := F0 m 31 ls [.int 0]) rfl ?_
  refine lv_istore_n (lv' := [(2, .int 0), (4, .ref y3h), (3, .int 3), (0, .ref h), (1, .int 4)]) hx hb dX1_tallyOfRoofs_31 rfl hl (by decide) rfl (fun ls hl => ?_)
  refine lv_iinc (v := 4) (lv' := [(3, .int 4), (2, .int 0), (4, .ref y3h), (0, .ref h), (1, .int 4)]) hx hb dX1_tallyOfRoofs_32 hl (k := 2) rfl (by decide) (by decide) rfl (fun ls hl => ?_)
  refine lv_goto (tgt := 4) hx hb dX1_tallyOfRoofs_35 (by decide) ?_
  refine lv_iload_n hx hb dX1_tallyOfRoofs_4 rfl (lv_at hl 0 rfl) ?_
  refine lv_bipush (v := 6) hx hb dX1_tallyOfRoofs_5 (by decide) ?_
  refine lv_icmp_ge (tgt := 38) hx hb dX1_tallyOfRoofs_7 (by decide) (fun c9 => absurd c9 (by decide)) (fun c9 => ?_)
  refine lv_aload_n hx hb dX1_tallyOfRoofs_10 rfl (lv_at hl 3 rfl) ?_
  refine va_get (D := (dC, dI)) (ci := 1) (v := .ref ro) (C := RX1) (T := TX1) (N := 7) hx hb hts (by decide +kernel) hown hK hP 0 rfl rfl 0 (by decide) (hts (.fieldLink RX1 11 "ThatchRoof" "roofs" "[LThatchRoof$Roof;") (by decide +kernel)) (fun _ h9 => h9) rfl dX1_tallyOfRoofs_11 ?_
  refine lv_iload_n hx hb dX1_tallyOfRoofs_14 rfl (lv_at hl 0 rfl) ?_
  refine va_aldq hx hb hK hP 1 0 rfl rfl (vp_in_nI (n := 4) (by decide) (by decide)) dX1_tallyOfRoofs_15 ?_
  rw [show fr (4 : Int32).toNatClampNeg = some y4h from hy4]
  refine W.eq (g2 := F0 m 16 ls [.ref y4h]) rfl ?_
  refine lv_astore (lv' := [(4, .ref y4h), (3, .int 4), (2, .int 0), (0, .ref h), (1, .int 4)]) hx hb dX1_tallyOfRoofs_16 hl (by decide) rfl (fun ls hl => ?_)
  refine lv_aload hx hb dX1_tallyOfRoofs_18 (lv_at hl 0 rfl) ?_
  refine lv_ifnull hx hb dX1_tallyOfRoofs_20 ?_
  refine lv_iload_n hx hb dX1_tallyOfRoofs_23 rfl (lv_at hl 2 rfl) ?_
  refine lv_aload hx hb dX1_tallyOfRoofs_24 (lv_at hl 0 rfl) ?_
  refine lv_iload_n hx hb dX1_tallyOfRoofs_26 rfl (lv_at hl 4 rfl) ?_
  have hPc := hP.sub (ws' := [(y4h, .inr (0, [.int 10, .int 6, .int 30, .int 100, .int 0, .int 0, .ref y4k, .ref y4t, .ref y4p, .ref y4m])), (y4t, .inl (Y4c, 60, .inl (fun _ => 0)))]) [10, 11] rfl
  have hKc := hK.sub (tys' := [(Y4c, .int)]) [5] rfl
  refine vp_callSi (va_runV (As := [.int 4]) (rest := [.int 0]) ⟨hx, hb, hml, hown, hts⟩ (r0_tell4 l dC dI y4h y4k y4t y4p y4m Y4c ) (cwV 1 hts gX1_tallyOfRoofs_X0_tell rfl rfl rfl (by decide +kernel) ⟨Nat.le_of_ble_eq_true rfl, Nat.le_of_ble_eq_true rfl⟩) ⟨fun a U g mk q => by obtain ⟨q0, qP, qK⟩ := q; exact ⟨q0, qP, va_K.moved (u := U) (U := U.calling g mk a) (Vm.Alike.refl U.vm) qK⟩, va_recv hKc hPc (ci := 0) (q0 := 0) rfl rfl, fun U hU hW => ⟨rfl, by rw [hU]; exact hPc, va_K.moved hW.alike hKc⟩⟩ rfl rfl hl.1 rfl (lv_room (Nat.le_of_ble_eq_true rfl)) dX1_tallyOfRoofs_27 ⟨Nat.le_of_ble_eq_true rfl, Nat.le_of_ble_eq_true rfl⟩).run (fun r10 hr10 => ?_)
  obtain rfl := hr10
  refine lv_iadd hx hb dX1_tallyOfRoofs_30 ?_
  refine W.eq (g2 := F0 m 31 ls [.int 0]) rfl ?_
  refine lv_istore_n (lv' := [(2, .int 0), (4, .ref y4h), (3, .int 4), (0, .ref h), (1, .int 4)]) hx hb dX1_tallyOfRoofs_31 rfl hl (by decide) rfl (fun ls hl => ?_)
  refine lv_iinc (v := 5) (lv' := [(3, .int 5), (2, .int 0), (4, .ref y4h), (0, .ref h), (1, .int 4)]) hx hb dX1_tallyOfRoofs_32 hl (k := 2) rfl (by decide) (by decide) rfl (fun ls hl => ?_)
  refine lv_goto (tgt := 4) hx hb dX1_tallyOfRoofs_35 (by decide) ?_
  refine lv_iload_n hx hb dX1_tallyOfRoofs_4 rfl (lv_at hl 0 rfl) ?_
  refine lv_bipush (v := 6) hx hb dX1_tallyOfRoofs_5 (by decide) ?_
  refine lv_icmp_ge (tgt := 38) hx hb dX1_tallyOfRoofs_7 (by decide) (fun c11 => absurd c11 (by decide)) (fun c11 => ?_)
  refine lv_aload_n hx hb dX1_tallyOfRoofs_10 rfl (lv_at hl 3 rfl) ?_
  refine va_get (D := (dC, dI)) (ci := 1) (v := .ref ro) (C := RX1) (T := TX1) (N := 7) hx hb hts (by decide +kernel) hown hK hP 0 rfl rfl 0 (by decide) (hts (.fieldLink RX1 11 "ThatchRoof" "roofs" "[LThatchRoof$Roof;") (by decide +kernel)) (fun _ h9 => h9) rfl dX1_tallyOfRoofs_11 ?_
  refine lv_iload_n hx hb dX1_tallyOfRoofs_14 rfl (lv_at hl 0 rfl) ?_
  refine va_aldq hx hb hK hP 1 0 rfl rfl (vp_in_nI (n := 5) (by decide) (by decide)) dX1_tallyOfRoofs_15 ?_
  rw [show fr (5 : Int32).toNatClampNeg = some y5h from hy5]
  refine W.eq (g2 := F0 m 16 ls [.ref y5h]) rfl ?_
  refine lv_astore (lv' := [(4, .ref y5h), (3, .int 5), (2, .int 0), (0, .ref h), (1, .int 4)]) hx hb dX1_tallyOfRoofs_16 hl (by decide) rfl (fun ls hl => ?_)
  refine lv_aload hx hb dX1_tallyOfRoofs_18 (lv_at hl 0 rfl) ?_
  refine lv_ifnull hx hb dX1_tallyOfRoofs_20 ?_
  refine lv_iload_n hx hb dX1_tallyOfRoofs_23 rfl (lv_at hl 2 rfl) ?_
  refine lv_aload hx hb dX1_tallyOfRoofs_24 (lv_at hl 0 rfl) ?_
  refine lv_iload_n hx hb dX1_tallyOfRoofs_26 rfl (lv_at hl 4 rfl) ?_
  have hPc := hP.sub (ws' := [(y5h, .inr (0, [.int 10, .int 6, .int 30, .int 100, .int 0, .int 0, .ref y5k, .ref y5t, .ref y5p, .ref y5m])), (y5t, .inl (Y5c, 60, .inl (fun _ => 0)))]) [12, 13] rfl
  have hKc := hK.sub (tys' := [(Y5c, .int)]) [6] rfl
  refine vp_callSi (va_runV (As := [.int 4]) (rest := [.int 0]) ⟨hx, hb, hml, hown, hts⟩ (r0_tell4 l dC dI y5h y5k y5t y5p y5m Y5c ) (cwV 1 hts gX1_tallyOfRoofs_X0_tell rfl rfl rfl (by decide +kernel) ⟨Nat.le_of_ble_eq_true rfl, Nat.le_of_ble_eq_true rfl⟩) ⟨fun a U g mk q => by obtain ⟨q0, qP, qK⟩ := q; exact ⟨q0, qP, va_K.moved (u := U) (U := U.calling g mk a) (Vm.Alike.refl U.vm) qK⟩, va_recv hKc hPc (ci := 0) (q0 := 0) rfl rfl, fun U hU hW => ⟨rfl, by rw [hU]; exact hPc, va_K.moved hW.alike hKc⟩⟩ rfl rfl hl.1 rfl (lv_room (Nat.le_of_ble_eq_true rfl)) dX1_tallyOfRoofs_27 ⟨Nat.le_of_ble_eq_true rfl, Nat.le_of_ble_eq_true rfl⟩).run (fun r12 hr12 => ?_)
  obtain rfl := hr12
  refine lv_iadd hx hb dX1_tallyOfRoofs_30 ?_
  refine W.eq (g2 := F0 m 31 ls [.int 0]) rfl ?_
  refine lv_istore_n (lv' := [(2, .int 0), (4, .ref y5h), (3, .int 5), (0, .ref h), (1, .int 4)]) hx hb dX1_tallyOfRoofs_31 rfl hl (by decide) rfl (fun ls hl => ?_)
  refine lv_iinc (v := 6) (lv' := [(3, .int 6), (2, .int 0), (4, .ref y5h), (0, .ref h), (1, .int 4)]) hx hb dX1_tallyOfRoofs_32 hl (k := 2) rfl (by decide) (by decide) rfl (fun ls hl => ?_)
  refine lv_goto (tgt := 4) hx hb dX1_tallyOfRoofs_35 (by decide) ?_
  refine lv_iload_n hx hb dX1_tallyOfRoofs_4 rfl (lv_at hl 0 rfl) ?_
  refine lv_bipush (v := 6) hx hb dX1_tallyOfRoofs_5 (by decide) ?_
  refine lv_icmp_ge (tgt := 38) hx hb dX1_tallyOfRoofs_7 (by decide) (fun c13 => ?_) (fun c13 => absurd c13 (by decide))
  refine lv_iload_n hx hb dX1_tallyOfRoofs_38 rfl (lv_at hl 1 rfl) ?_
  exact W.iret (v := 0) hx hb hr (fun t ht hW => ⟨0, rfl, by (first | rfl | assumption | decide | (simp_all; done) | grind), ht⟩) (fun _ h => nomatch h) dX1_tallyOfRoofs_39

set_option maxHeartbeats 4000000 in
set_option maxRecDepth 100000 in
theorem r1_tallyOfRoofs6 (l : Launch) (dC : Nat → ClassId) (dI : Nat → Nat → Nat) (h : Nat) (ro : Nat) (ba : Nat) (ra : Nat) (su : Nat) (tr : Nat) (cR : ClassId) (fr : Nat → Option Nat) (y0h : Nat) (y0k : Nat) (y0t : Nat) (y0p : Nat) (y0m : Nat) (Y0c : ClassId) (y1h : Nat) (y1k : Nat) (y1t : Nat) (y1p : Nat) (y1m : Nat) (Y1c : ClassId) (y2h : Nat) (y2k : Nat) (y2t : Nat) (y2p : Nat) (y2m : Nat) (Y2c : ClassId) (y3h : Nat) (y3k : Nat) (y3t : Nat) (y3p : Nat) (y3m : Nat) (Y3c : ClassId) (y4h : Nat) (y4k : Nat) (y4t : Nat) (y4p : Nat) (y4m : Nat) (Y4c : ClassId) (y5h : Nat) (y5k : Nat) (y5t : Nat) (y5p : Nat) (y5m : Nat) (Y5c : ClassId) (hy0 : fr 0 = some y0h) (hy1 : fr 1 = some y1h) (hy2 : fr 2 = some y2h) (hy3 : fr 3 = some y3h) (hy4 : fr 4 = some y4h) (hy5 : fr 5 = some y5h) : Met l yX1_tallyOfRoofs wsX1_tallyOfRoofs ({ frames := 4, cells := 0, slots := 0, locals := 88 }) (va_Pc [.ref h, .int 6] (fun U => va_P (dC, dI) vwCl [(h, .inr (1, [.ref ro, .int 6, .ref ba, .ref ra, .ref su, .int 0, .ref tr])), (ro, .inl (cR, 6, .inr (.inr (.inr (.inr fr))))), (y0h, .inr (0, [.int 10, .int 6, .int 30, .int 100, .int 0, .int 0, .ref y0k, .ref y0t, .ref y0p, .ref y0m])), (y0t, .inl (Y0c, 60, .inl (fun _ => 0))), (y1h, .inr (0, [.int 10, .int 6, .int 30, .int 100, .int 0, .int 0, .ref y1k, .ref y1t, .ref y1p, .ref y1m])), (y1t, .inl (Y1c, 60, .inl (fun _ => 0))), (y2h, .inr (0, [.int 10, .int 6, .int 30, .int 100, .int 0, .int 0, .ref y2k, .ref y2t, .ref y2p, .ref y2m])), (y2t, .inl (Y2c, 60, .inl (fun _ => 0))), (y3h, .inr (0, [.int 10, .int 6, .int 30, .int 100, .int 0, .int 0, .ref y3k, .ref y3t, .ref y3p, .ref y3m])), (y3t, .inl (Y3c, 60, .inl (fun _ => 0))), (y4h, .inr (0, [.int 10, .int 6, .int 30, .int 100, .int 0, .int 0, .ref y4k, .ref y4t, .ref y4p, .ref y4m])), (y4t, .inl (Y4c, 60, .inl (fun _ => 0))), (y5h, .inr (0, [.int 10, .int 6, .int 30, .int 100, .int 0, .int 0, .ref y5k, .ref y5t, .ref y5p, .ref y5m])), (y5t, .inl (Y5c, 60, .inl (fun _ => 0)))] U.heap ∧ va_K (dC, dI) vwCl [(cR, .object RX0), (Y0c, .int), (Y1c, .int), (Y2c, .int), (Y3c, .int), (Y4c, .int), (Y5c, .int)] U)) (vp_Si (fun r : Int32 => r = 60)) 0 0 (fun _ => False) := by
  refine Met.ofW (cc := cX1_tallyOfRoofs) (maxL := 5) (ret := (some .int)) (by decide) rfl ?_
  intro p e s m args below meth c s₁ B hml hv
  obtain ⟨rfl, hP, hK⟩ := hv
  have hx := B.exec
  have hb := B.bytes
  have hr := B.returns
  have hts := atoms_spec (ws := wsX1_tallyOfRoofs) B.pre
  have hown : s.vm.findClass RX1 = some m.cls := findClass_of_methodNamed B.named
  have hlocks := B.notSynchronized
  have hP : va_P (dC, dI) vwCl [(h, .inr (1, [.ref ro, .int 6, .ref ba, .ref ra, .ref su, .int 0, .ref tr])), (ro, .inl (cR, 6, .inr (.inr (.inr (.inr fr))))), (y0h, .inr (0, [.int 10, .int 6, .int 30, .int 100, .int 0, .int 0, .ref y0k, .ref y0t, .ref y0p, .ref y0m])), (y0t, .inl (Y0c, 60, .inl (fun _ => 0))), (y1h, .inr (0, [.int 10, .int 6, .int 30, .int 100, .int 0, .int 0, .ref y1k, .ref y1t, .ref y1p, .ref y1m])), (y1t, .inl (Y1c, 60, .inl (fun _ => 0))), (y2h, .inr (0, [.int 10, .int 6, .int 30, .int 100, .int 0, .int 0, .ref y2k, .ref y2t, .ref y2p, .ref y2m])), (y2t, .inl (Y2c, 60, .inl (fun _ => 0))), (y3h, .inr (0, [.int 10, .int 6, .int 30, .int 100, .int 0, .int 0, .ref y3k, .ref y3t, .ref y3p, .ref y3m])), (y3t, .inl (Y3c, 60, .inl (fun _ => 0))), (y4h, .inr (0, [.int 10, .int 6, .int 30, .int 100, .int 0, .int 0, .ref y4k, .ref y4t, .ref y4p, .ref y4m])), (y4t, .inl (Y4c, 60, .inl (fun _ => 0))), (y5h, .inr (0, [.int 10, .int 6, .int 30, .int 100, .int 0, .int 0, .ref y5k, .ref y5t, .ref y5p, .ref y5m])), (y5t, .inl (Y5c, 60, .inl (fun _ => 0)))] s.heap := hP
  have hl := lv_entry ([.ref h, .int 6]) (n := 5) (Nat.le_of_ble_eq_true rfl)
  rw [lg_entry_eq]
  generalize (lg_sl ([.ref h, .int 6]) ++ List.replicate (5 - (lg_sl ([.ref h, .int 6])).length) Slot.unset).toArray = ls at hl ⊢
  have hl : lv_has ls 5 [(0, .ref h), (1, .int 6)] := hl
  refine lv_iconst (v := 0) hx hb dX1_tallyOfRoofs_0 (by decide) ?_
  refine lv_istore_n (lv' := [(2, .int 0), (0, .ref h), (1, .int 6)]) hx hb dX1_tallyOfRoofs_1 rfl hl (by decide) rfl (fun ls hl => ?_)
  refine lv_iconst (v := 0) hx hb dX1_tallyOfRoofs_2 (by decide) ?_
  refine lv_istore_n (lv' := [(3, .int 0), (2, .int 0), (0, .ref h), (1, .int 6)]) hx hb dX1_tallyOfRoofs_3 rfl hl (by decide) rfl (fun ls hl => ?_)
  refine lv_iload_n hx hb dX1_tallyOfRoofs_4 rfl (lv_at hl 0 rfl) ?_
  refine lv_bipush (v := 6) hx hb dX1_tallyOfRoofs_5 (by decide) ?_
  refine lv_icmp_ge (tgt := 38) hx hb dX1_tallyOfRoofs_7 (by decide) (fun c1 => absurd c1 (by decide)) (fun c1 => ?_)
  refine lv_aload_n hx hb dX1_tallyOfRoofs_10 rfl (lv_at hl 2 rfl) ?_
  refine va_get (D := (dC, dI)) (ci := 1) (v := .ref ro) (C := RX1) (T := TX1) (N := 7) hx hb hts (by decide +kernel) hown hK hP 0 rfl rfl 0 (by decide) (hts (.fieldLink RX1 11 "ThatchRoof" "roofs" "[LThatchRoof$Roof;") (by decide +kernel)) (fun _ h9 => h9) rfl dX1_tallyOfRoofs_11 ?_
  refine lv_iload_n hx hb dX1_tallyOfRoofs_14 rfl (lv_at hl 0 rfl) ?_
  refine va_aldq hx hb hK hP 1 0 rfl rfl (vp_in_nI (n := 0) (by decide) (by decide)) dX1_tallyOfRoofs_15 ?_
  rw [show fr (0 : Int32).toNatClampNeg = some y0h from hy0]
  refine W.eq (g2 := F0 m 16 ls [.ref y0h]) rfl ?_
  refine lv_astore (lv' := [(4, .ref y0h), (3, .int 0), (2, .int 0), (0, .ref h), (1, .int 6)]) hx hb dX1_tallyOfRoofs_16 hl (by decide) rfl (fun ls hl => ?_)
  refine lv_aload hx hb dX1_tallyOfRoofs_18 (lv_at hl 0 rfl) ?_
  refine lv_ifnull hx hb dX1_tallyOfRoofs_20 ?_
  refine lv_iload_n hx hb dX1_tallyOfRoofs_23 rfl (lv_at hl 2 rfl) ?_
  refine lv_aload hx hb dX1_tallyOfRoofs_24 (lv_at hl 0 rfl) ?_
  refine lv_iload_n hx hb dX1_tallyOfRoofs_26 rfl (lv_at hl 4 rfl) ?_
  have hPc := hP.sub (ws' := [(y0h, .inr (0, [.int 10, .int 6, .int 30, .int 100, .int 0, .int 0, .ref y0k, .ref y0t, .ref y0p, .ref y0m])), (y0t, .inl (Y0c, 60, .inl (fun _ => 0)))]) [2, 3] rfl
  have hKc := hK.sub (tys' := [(Y0c, .int)]) [1] rfl
  refine vp_callSi (va_runV (As := [.int 6]) (rest := [.int 0]) ⟨hx, hb, hml, hown, hts⟩ (r0_tell6 l dC dI y0h y0k y0t y0p y0m Y0c ) (cwV 1 hts gX1_tallyOfRoofs_X0_tell rfl rfl rfl (by decide +kernel) ⟨Nat.le_of_ble_eq_true rfl, Nat.le_of_ble_eq_true rfl⟩) ⟨fun a U g mk q => by obtain ⟨q0, qP, qK⟩ := q; exact ⟨q0, qP, va_K.moved (u := U) (U := U.calling g mk a) (Vm.Alike.refl U.vm) qK⟩, va_recv hKc hPc (ci := 0) (q0 := 0) rfl rfl, fun U hU hW => ⟨rfl, by rw [hU]; exact hPc, va_K.moved hW.alike hKc⟩⟩ rfl rfl hl.1 rfl (lv_room (Nat.le_of_ble_eq_true rfl)) dX1_tallyOfRoofs_27 ⟨Nat.le_of_ble_eq_true rfl, Nat.le_of_ble_eq_true rfl⟩).run (fun r2 hr2 => ?_)
  obtain rfl := hr2
  refine lv_iadd hx hb dX1_tallyOfRoofs_30 ?_
  refine W.eq (g2 := F0 m 31 ls [.int 10]) rfl ?_
  refine lv_istore_n (lv' := [(2, .int 10), (4, .ref y0h), (3, .int 0), (0, .ref h), (1, .int 6)]) hx hb dX1_tallyOfRoofs_31 rfl hl (by decide) rfl (fun ls hl => ?_)
  refine lv_iinc (v := 1) (lv' := [(3, .int 1), (2, .int 10), (4, .ref y0h), (0, .ref h), (1, .int 6)]) hx hb dX1_tallyOfRoofs_32 hl (k := 2) rfl (by decide) (by decide) rfl (fun ls hl => ?_)
  refine lv_goto (tgt := 4) hx hb dX1_tallyOfRoofs_35 (by decide) ?_
  refine lv_iload_n hx hb dX1_tallyOfRoofs_4 rfl (lv_at hl 0 rfl) ?_
  refine lv_bipush (v := 6) hx hb dX1_tallyOfRoofs_5 (by decide) ?_
  refine lv_icmp_ge (tgt := 38) hx hb dX1_tallyOfRoofs_7 (by decide) (fun c3 => absurd c3 (by decide)) (fun c3 => ?_)
  refine lv_aload_n hx hb dX1_tallyOfRoofs_10 rfl (lv_at hl 3 rfl) ?_
  refine va_get (D := (dC, dI)) (ci := 1) (v := .ref ro) (C := RX1) (T := TX1) (N := 7) hx hb hts (by decide +kernel) hown hK hP 0 rfl rfl 0 (by decide) (hts (.fieldLink RX1 11 "ThatchRoof" "roofs" "[LThatchRoof$Roof;") (by decide +kernel)) (fun _ h9 => h9) rfl dX1_tallyOfRoofs_11 ?_
  refine lv_iload_n hx hb dX1_tallyOfRoofs_14 rfl (lv_at hl 0 rfl) ?_
  refine va_aldq hx hb hK hP 1 0 rfl rfl (vp_in_nI (n := 1) (by decide) (by decide)) dX1_tallyOfRoofs_15 ?_
  rw [show fr (1 : Int32).toNatClampNeg = some y1h from hy1]
  refine W.eq (g2 := F0 m 16 ls [.ref y1h]) rfl ?_
  refine lv_astore (lv' := [(4, .ref y1h), (3, .int 1), (2, .int 10), (0, .ref h), (1, .int 6)]) hx hb dX1_tallyOfRoofs_16 hl (by decide) rfl (fun ls hl => ?_)
  refine lv_aload hx hb dX1_tallyOfRoofs_18 (lv_at hl 0 rfl) ?_
  refine lv_ifnull hx hb dX1_tallyOfRoofs_20 ?_
  refine lv_iload_n hx hb dX1_tallyOfRoofs_23 rfl (lv_at hl 2 rfl) ?_
  refine lv_aload hx hb dX1_tallyOfRoofs_24 (lv_at hl 0 rfl) ?_
  refine lv_iload_n hx hb dX1_tallyOfRoofs_26 rfl (lv_at hl 4 rfl) ?_
  have hPc := hP.sub (ws' := [(y1h, .inr (0, [.int 10, .int 6, .int 30, .int 100, .int 0, .int 0, .ref y1k, .ref y1t, .ref y1p, .ref y1m])), (y1t, .inl (Y1c, 60, .inl (fun _ => 0)))]) [4, 5] rfl
  have hKc := hK.sub (tys' := [(Y1c, .int)]) [2] rfl
  refine vp_callSi (va_runV (As := [.int 6]) (rest := [.int 10]) ⟨hx, hb, hml, hown, hts⟩ (r0_tell6 l dC dI y1h y1k y1t y1p y1m Y1c ) (cwV 1 hts gX1_tallyOfRoofs_X0_tell rfl rfl rfl (by decide +kernel) ⟨Nat.le_of_ble_eq_true rfl, Nat.le_of_ble_eq_true rfl⟩) ⟨fun a U g mk q => by obtain ⟨q0, qP, qK⟩ := q; exact ⟨q0, qP, va_K.moved (u := U) (U := U.calling g mk a) (Vm.Alike.refl U.vm) qK⟩, va_recv hKc hPc (ci := 0) (q0 := 0) rfl rfl, fun U hU hW => ⟨rfl, by rw [hU]; exact hPc, va_K.moved hW.alike hKc⟩⟩ rfl rfl hl.1 rfl (lv_room (Nat.le_of_ble_eq_true rfl)) dX1_tallyOfRoofs_27 ⟨Nat.le_of_ble_eq_true rfl, Nat.le_of_ble_eq_true rfl⟩).run (fun r4 hr4 => ?_)
  obtain rfl := hr4
  refine lv_iadd hx hb dX1_tallyOfRoofs_30 ?_
  refine W.eq (g2 := F0 m 31 ls [.int 20]) rfl ?_
  refine lv_istore_n (lv' := [(2, .int 20), (4, .ref y1h), (3, .int 1), (0, .ref h), (1, .int 6)]) hx hb dX1_tallyOfRoofs_31 rfl hl (by decide) rfl (fun ls hl => ?_)
  refine lv_iinc (v := 2) (lv' := [(3, .int 2), (2, .int 20), (4, .ref y1h), (0, .ref h), (1, .int 6)]) hx hb dX1_tallyOfRoofs_32 hl (k := 2) rfl (by decide) (by decide) rfl (fun ls hl => ?_)
  refine lv_goto (tgt := 4) hx hb dX1_tallyOfRoofs_35 (by decide) ?_
  refine lv_iload_n hx hb dX1_tallyOfRoofs_4 rfl (lv_at hl 0 rfl) ?_
  refine lv_bipush (v := 6) hx hb dX1_tallyOfRoofs_5 (by decide) ?_
  refine lv_icmp_ge (tgt := 38) hx hb dX1_tallyOfRoofs_7 (by decide) (fun c5 => absurd c5 (by decide)) (fun c5 => ?_)
  refine lv_aload_n hx hb dX1_tallyOfRoofs_10 rfl (lv_at hl 3 rfl) ?_
  refine va_get (D := (dC, dI)) (ci := 1) (v := .ref ro) (C := RX1) (T := TX1) (N := 7) hx hb hts (by decide +kernel) hown hK hP 0 rfl rfl 0 (by decide) (hts (.fieldLink RX1 11 "ThatchRoof" "roofs" "[LThatchRoof$Roof;") (by decide +kernel)) (fun _ h9 => h9) rfl dX1_tallyOfRoofs_11 ?_
  refine lv_iload_n hx hb dX1_tallyOfRoofs_14 rfl (lv_at hl 0 rfl) ?_
  refine va_aldq hx hb hK hP 1 0 rfl rfl (vp_in_nI (n := 2) (by decide) (by decide)) dX1_tallyOfRoofs_15 ?_
  rw [show fr (2 : Int32).toNatClampNeg = some y2h from hy2]
  refine W.eq (g2 := F0 m 16 ls [.ref y2h]) rfl ?_
  refine lv_astore (lv' := [(4, .ref y2h), (3, .int 2), (2, .int 20), (0, .ref h), (1, .int 6)]) hx hb dX1_tallyOfRoofs_16 hl (by decide) rfl (fun ls hl => ?_)
  refine lv_aload hx hb dX1_tallyOfRoofs_18 (lv_at hl 0 rfl) ?_
  refine lv_ifnull hx hb dX1_tallyOfRoofs_20 ?_
  refine lv_iload_n hx hb dX1_tallyOfRoofs_23 rfl (lv_at hl 2 rfl) ?_
  refine lv_aload hx hb dX1_tallyOfRoofs_24 (lv_at hl 0 rfl) ?_
  refine lv_iload_n hx hb dX1_tallyOfRoofs_26 rfl (lv_at hl 4 rfl) ?_
  have hPc := hP.sub (ws' := [(y2h, .inr (0, [.int 10, .int 6, .int 30, .int 100, .int 0, .int 0, .ref y2k, .ref y2t, .ref y2p, .ref y2m])), (y2t, .inl (Y2c, 60, .inl (fun _ => 0)))]) [6, 7] rfl
  have hKc := hK.sub (tys' := [(Y2c, .int)]) [3] rfl
  refine vp_callSi (va_runV (As := [.int 6]) (rest := [.int 20]) ⟨hx, hb, hml, hown, hts⟩ (r0_tell6 l dC dI y2h y2k y2t y2p y2m Y2c ) (cwV 1 hts gX1_tallyOfRoofs_X0_tell rfl rfl rfl (by decide +kernel) ⟨Nat.le_of_ble_eq_true rfl, Nat.le_of_ble_eq_true rfl⟩) ⟨fun a U g mk q => by obtain ⟨q0, qP, qK⟩ := q; exact ⟨q0, qP, va_K.moved (u := U) (U := U.calling g mk a) (Vm.Alike.refl U.vm) qK⟩, va_recv hKc hPc (ci := 0) (q0 := 0) rfl rfl, fun U hU hW => ⟨rfl, by rw [hU]; exact hPc, va_K.moved hW.alike hKc⟩⟩ rfl rfl hl.1 rfl (lv_room (Nat.le_of_ble_eq_true rfl)) dX1_tallyOfRoofs_27 ⟨Nat.le_of_ble_eq_true rfl, Nat.le_of_ble_eq_true rfl⟩).run (fun r6 hr6 => ?_)
  obtain rfl := hr6
  refine lv_iadd hx hb dX1_tallyOfRoofs_30 ?_
  refine W.eq (g2 := F0 m 31 ls [.int 30]) rfl ?_
  refine lv_istore_n (lv' := [(2, .int 30), (4, .ref y2h), (3, .int 2), (0, .ref h), (1, .int 6)]) hx hb dX1_tallyOfRoofs_31 rfl hl (by decide) rfl (fun ls hl => ?_)
  refine lv_iinc (v := 3) (lv' := [(3, .int 3), (2, .int 30), (4, .ref y2h), (0, .ref h), (1, .int 6)]) hx hb dX1_tallyOfRoofs_32 hl (k := 2) rfl (by decide) (by decide) rfl (fun ls hl => ?_)
  refine lv_goto (tgt := 4) hx hb dX1_tallyOfRoofs_35 (by decide) ?_
  refine lv_iload_n hx hb dX1_tallyOfRoofs_4 rfl (lv_at hl 0 rfl) ?_
  refine lv_bipush (v := 6) hx hb dX1_tallyOfRoofs_5 (by decide) ?_
  refine lv_icmp_ge (tgt := 38) hx hb dX1_tallyOfRoofs_7 (by decide) (fun c7 => absurd c7 (by decide)) (fun c7 => ?_)
  refine lv_aload_n hx hb dX1_tallyOfRoofs_10 rfl (lv_at hl 3 rfl) ?_
  refine va_get (D := (dC, dI)) (ci := 1) (v := .ref ro) (C := RX1) (T := TX1) (N := 7) hx hb hts (by decide +kernel) hown hK hP 0 rfl rfl 0 (by decide) (hts (.fieldLink RX1 11 "ThatchRoof" "roofs" "[LThatchRoof$Roof;") (by decide +kernel)) (fun _ h9 => h9) rfl dX1_tallyOfRoofs_11 ?_
  refine lv_iload_n hx hb dX1_tallyOfRoofs_14 rfl (lv_at hl 0 rfl) ?_
  refine va_aldq hx hb hK hP 1 0 rfl rfl (vp_in_nI (n := 3) (by decide) (by decide)) dX1_tallyOfRoofs_15 ?_
  rw [show fr (3 : Int32).toNatClampNeg = some y3h from hy3]
  refine W.eq (g2 := F0 m 16 ls [.ref y3h]) rfl ?_
  refine lv_astore (lv' := [(4, .ref y3h), (3, .int 3), (2, .int 30), (0, .ref h), (1, .int 6)]) hx hb dX1_tallyOfRoofs_16 hl (by decide) rfl (fun ls hl => ?_)
  refine lv_aload hx hb dX1_tallyOfRoofs_18 (lv_at hl 0 rfl) ?_
  refine lv_ifnull hx hb dX1_tallyOfRoofs_20 ?_
  refine lv_iload_n hx hb dX1_tallyOfRoofs_23 rfl (lv_at hl 2 rfl) ?_
  refine lv_aload hx hb dX1_tallyOfRoofs_24 (lv_at hl 0 rfl) ?_
  refine lv_iload_n hx hb dX1_tallyOfRoofs_26 rfl (lv_at hl 4 rfl) ?_
  have hPc := hP.sub (ws' := [(y3h, .inr (0, [.int 10, .int 6, .int 30, .int 100, .int 0, .int 0, .ref y3k, .ref y3t, .ref y3p, .ref y3m])), (y3t, .inl (Y3c, 60, .inl (fun _ => 0)))]) [8, 9] rfl
  have hKc := hK.sub (tys' := [(Y3c, .int)]) [4] rfl
  refine vp_callSi (va_runV (As := [.int 6]) (rest := [.int 30]) ⟨hx, hb, hml, hown, hts⟩ (r0_tell6 l dC dI y3h y3k y3t y3p y3m Y3c ) (cwV 1 hts gX1_tallyOfRoofs_X0_tell rfl rfl rfl (by decide +kernel) ⟨Nat.le_of_ble_eq_true rfl, Nat.le_of_ble_eq_true rfl⟩) ⟨fun a U g mk q => by obtain ⟨q0, qP, qK⟩ := q; exact ⟨q0, qP, va_K.moved (u := U) (U := U.calling g mk a) (Vm.Alike.refl U.vm) qK⟩, va_recv hKc hPc (ci := 0) (q0 := 0) rfl rfl, fun U hU hW => ⟨rfl, by rw [hU]; exact hPc, va_K.moved hW.alike hKc⟩⟩ rfl rfl hl.1 rfl (lv_room (Nat.le_of_ble_eq_true rfl)) dX1_tallyOfRoofs_27 ⟨Nat.le_of_ble_eq_true rfl, Nat.le_of_ble_eq_true rfl⟩).run (fun r8 hr8 => ?_)
  obtain rfl := hr8
  refine lv_iadd hx hb dX1_tallyOfRoofs_30 ?_
  refine W.eq (g2 := F0 m 31 ls [.int 40]) rfl ?_
  refine lv_istore_n (lv' := [(2, .int 40), (4, .ref y3h), (3, .int 3), (0, .ref h), (1, .int 6)]) hx hb dX1_tallyOfRoofs_31 rfl hl (by decide) rfl (fun ls hl => ?_)
  refine lv_iinc (v := 4) (lv' := [(3, .int 4), (2, .int 40), (4, .ref y3h), (0, .ref h), (1, .int 6)]) hx hb dX1_tallyOfRoofs_32 hl (k := 2) rfl (by decide) (by decide) rfl (fun ls hl => ?_)
  refine lv_goto (tgt := 4) hx hb dX1_tallyOfRoofs_35 (by decide) ?_
  refine lv_iload_n hx hb dX1_tallyOfRoofs_4 rfl (lv_at hl 0 rfl) ?_
  refine lv_bipush (v := 6) hx hb dX1_tallyOfRoofs_5 (by decide) ?_
  refine lv_icmp_ge (tgt := 38) hx hb dX1_tallyOfRoofs_7 (by decide) (fun c9 => absurd c9 (by decide)) (fun c9 => ?_)
  refine lv_aload_n hx hb dX1_tallyOfRoofs_10 rfl (lv_at hl 3 rfl) ?_
  refine va_get (D := (dC, dI)) (ci := 1) (v := .ref ro) (C := RX1) (T := TX1) (N := 7) hx hb hts (by decide +kernel) hown hK hP 0 rfl rfl 0 (by decide) (hts (.fieldLink RX1 11 "ThatchRoof" "roofs" "[LThatchRoof$Roof;") (by decide +kernel)) (fun _ h9 => h9) rfl dX1_tallyOfRoofs_11 ?_
  refine lv_iload_n hx hb dX1_tallyOfRoofs_14 rfl (lv_at hl 0 rfl) ?_
  refine va_aldq hx hb hK hP 1 0 rfl rfl (vp_in_nI (n := 4) (by decide) (by decide)) dX1_tallyOfRoofs_15 ?_
  rw [show fr (4 : Int32).toNatClampNeg = some y4h from hy4]
  refine W.eq (g2 := F0 m 16 ls [.ref y4h]) rfl ?_
  refine lv_astore (lv' := [(4, .ref y4h), (3, .int 4), (2, .int 40), (0, .ref h), (1, .int 6)]) hx hb dX1_tallyOfRoofs_16 hl (by decide) rfl (fun ls hl => ?_)
  refine lv_aload hx hb dX1_tallyOfRoofs_18 (lv_at hl 0 rfl) ?_
  refine lv_ifnull hx hb dX1_tallyOfRoofs_20 ?_
  refine lv_iload_n hx hb dX1_tallyOfRoofs_23 rfl (lv_at hl 2 rfl) ?_
  refine lv_aload hx hb dX1_tallyOfRoofs_24 (lv_at hl 0 rfl) ?_
  refine lv_iload_n hx hb dX1_tallyOfRoofs_26 rfl (lv_at hl 4 rfl) ?_
  have hPc := hP.sub (ws' := [(y4h, .inr (0, [.int 10, .int 6, .int 30, .int 100, .int 0, .int 0, .ref y4k, .ref y4t, .ref y4p, .ref y4m])), (y4t, .inl (Y4c, 60, .inl (fun _ => 0)))]) [10, 11] rfl
  have hKc := hK.sub (tys' := [(Y4c, .int)]) [5] rfl
  refine vp_callSi (va_runV (As := [.int 6]) (rest := [.int 40]) ⟨hx, hb, hml, hown, hts⟩ (r0_tell6 l dC dI y4h y4k y4t y4p y4m Y4c ) (cwV 1 hts gX1_tallyOfRoofs_X0_tell rfl rfl rfl (by decide +kernel) ⟨Nat.le_of_ble_eq_true rfl, Nat.le_of_ble_eq_true rfl⟩) ⟨fun a U g mk q => by obtain ⟨q0, qP, qK⟩ := q; exact ⟨q0, qP, va_K.moved (u := U) (U := U.calling g mk a) (Vm.Alike.refl U.vm) qK⟩, va_recv hKc hPc (ci := 0) (q0 := 0) rfl rfl, fun U hU hW => ⟨rfl, by rw [hU]; exact hPc, va_K.moved hW.alike hKc⟩⟩ rfl rfl hl.1 rfl (lv_room (Nat.le_of_ble_eq_true rfl)) dX1_tallyOfRoofs_27 ⟨Nat.le_of_ble_eq_true rfl, Nat.le_of_ble_eq_true rfl⟩).run (fun r10 hr10 => ?_)
  obtain rfl := hr10
  refine lv_iadd hx hb dX1_tallyOfRoofs_30 ?_
  refine W.eq (g2 := F0 m 31 ls [.int 50]) rfl ?_
  refine lv_istore_n (lv' := [(2, .int 50), (4, .ref y4h), (3, .int 4), (0, .ref h), (1, .int 6)]) hx hb dX1_tallyOfRoofs_31 rfl hl (by decide) rfl (fun ls hl => ?_)
  refine lv_iinc (v := 5) (lv' := [(3, .int 5), (2, .int 50), (4, .ref y4h), (0, .ref h), (1, .int 6)]) hx hb dX1_tallyOfRoofs_32 hl (k := 2) rfl (by decide) (by decide) rfl (fun ls hl => ?_)
  refine lv_goto (tgt := 4) hx hb dX1_tallyOfRoofs_35 (by decide) ?_
  refine lv_iload_n hx hb dX1_tallyOfRoofs_4 rfl (lv_at hl 0 rfl) ?_
  refine lv_bipush (v := 6) hx hb dX1_tallyOfRoofs_5 (by decide) ?_
  refine lv_icmp_ge (tgt := 38) hx hb dX1_tallyOfRoofs_7 (by decide) (fun c11 => absurd c11 (by decide)) (fun c11 => ?_)
  refine lv_aload_n hx hb dX1_tallyOfRoofs_10 rfl (lv_at hl 3 rfl) ?_
  refine va_get (D := (dC, dI)) (ci := 1) (v := .ref ro) (C := RX1) (T := TX1) (N := 7) hx hb hts (by decide +kernel) hown hK hP 0 rfl rfl 0 (by decide) (hts (.fieldLink RX1 11 "ThatchRoof" "roofs" "[LThatchRoof$Roof;") (by decide +kernel)) (fun _ h9 => h9) rfl dX1_tallyOfRoofs_11 ?_
  refine lv_iload_n hx hb dX1_tallyOfRoofs_14 rfl (lv_at hl 0 rfl) ?_
  refine va_aldq hx hb hK hP 1 0 rfl rfl (vp_in_nI (n := 5) (by decide) (by decide)) dX1_tallyOfRoofs_15 ?_
  rw [show fr (5 : Int32).toNatClampNeg = some y5h from hy5]
  refine W.eq (g2 := F0 m 16 ls [.ref y5h]) rfl ?_
  refine lv_astore (lv' := [(4, .ref y5h), (3, .int 5), (2, .int 50), (0, .ref h), (1, .int 6)]) hx hb dX1_tallyOfRoofs_16 hl (by decide) rfl (fun ls hl => ?_)
  refine lv_aload hx hb dX1_tallyOfRoofs_18 (lv_at hl 0 rfl) ?_
  refine lv_ifnull hx hb dX1_tallyOfRoofs_20 ?_
  refine lv_iload_n hx hb dX1_tallyOfRoofs_23 rfl (lv_at hl 2 rfl) ?_
  refine lv_aload hx hb dX1_tallyOfRoofs_24 (lv_at hl 0 rfl) ?_
  refine lv_iload_n hx hb dX1_tallyOfRoofs_26 rfl (lv_at hl 4 rfl) ?_
  have hPc := hP.sub (ws' := [(y5h, .inr (0, [.int 10, .int 6, .int 30, .int 100, .int 0, .int 0, .ref y5k, .ref y5t, .ref y5p, .ref y5m])), (y5t, .inl (Y5c, 60, .inl (fun _ => 0)))]) [12, 13] rfl
  have hKc := hK.sub (tys' := [(Y5c, .int)]) [6] rfl
  refine vp_callSi (va_runV (As := [.int 6]) (rest := [.int 50]) ⟨hx, hb, hml, hown, hts⟩ (r0_tell6 l dC dI y5h y5k y5t y5p y5m Y5c ) (cwV 1 hts gX1_tallyOfRoofs_X0_tell rfl rfl rfl (by decide +kernel) ⟨Nat.le_of_ble_eq_true rfl, Nat.le_of_ble_eq_true rfl⟩) ⟨fun a U g mk q => by obtain ⟨q0, qP, qK⟩ := q; exact ⟨q0, qP, va_K.moved (u := U) (U := U.calling g mk a) (Vm.Alike.refl U.vm) qK⟩, va_recv hKc hPc (ci := 0) (q0 := 0) rfl rfl, fun U hU hW => ⟨rfl, by rw [hU]; exact hPc, va_K.moved hW.alike hKc⟩⟩ rfl rfl hl.1 rfl (lv_room (Nat.le_of_ble_eq_true rfl)) dX1_tallyOfRoofs_27 ⟨Nat.le_of_ble_eq_true rfl, Nat.le_of_ble_eq_true rfl⟩).run (fun r12 hr12 => ?_)
  obtain rfl := hr12
  refine lv_iadd hx hb dX1_tallyOfRoofs_30 ?_
  refine W.eq (g2 := F0 m 31 ls [.int 60]) rfl ?_
  refine lv_istore_n (lv' := [(2, .int 60), (4, .ref y5h), (3, .int 5), (0, .ref h), (1, .int 6)]) hx hb dX1_tallyOfRoofs_31 rfl hl (by decide) rfl (fun ls hl => ?_)
  refine lv_iinc (v := 6) (lv' := [(3, .int 6), (2, .int 60), (4, .ref y5h), (0, .ref h), (1, .int 6)]) hx hb dX1_tallyOfRoofs_32 hl (k := 2) rfl (by decide) (by decide) rfl (fun ls hl => ?_)
  refine lv_goto (tgt := 4) hx hb dX1_tallyOfRoofs_35 (by decide) ?_
  refine lv_iload_n hx hb dX1_tallyOfRoofs_4 rfl (lv_at hl 0 rfl) ?_
  refine lv_bipush (v := 6) hx hb dX1_tallyOfRoofs_5 (by decide) ?_
  refine lv_icmp_ge (tgt := 38) hx hb dX1_tallyOfRoofs_7 (by decide) (fun c13 => ?_) (fun c13 => absurd c13 (by decide))
  refine lv_iload_n hx hb dX1_tallyOfRoofs_38 rfl (lv_at hl 1 rfl) ?_
  exact W.iret (v := 60) hx hb hr (fun t ht hW => ⟨60, rfl, by (first | rfl | assumption | decide | (simp_all; done) | grind), ht⟩) (fun _ h => nomatch h) dX1_tallyOfRoofs_39

set_option maxHeartbeats 4000000 in
set_option maxRecDepth 100000 in
theorem rJ_floorMod0 (l : Launch) (dC : Nat → ClassId) (dI : Nat → Nat → Nat) : Met l yJ9_floorMod_7cf53 wsJ9_floorMod_7cf53 ({ frames := 0, cells := 0, slots := 0, locals := 0 }) (va_Pc [.int 0, .int 12] (fun _ => True)) (vp_Si (fun r : Int32 => r = 0)) 0 0 (fun _ => False) := by
  refine va_MetF (cc := cJ9_floorMod_7cf53) (maxL := 3) (ret := (some .int)) (by decide +kernel) rfl ?_
  intro p e s m args below meth c s₁ B hml hv
  obtain ⟨rfl, -⟩ := hv
  have hx := B.exec
  have hb := B.bytes
  have hr := B.returns
  have hts := atoms_spec (ws := wsJ9_floorMod_7cf53) B.pre
  have hown : s.vm.findClass RJ9 = some m.cls := findClass_of_methodNamed B.named
  have hlocks := B.notSynchronized
  have hl := lv_entry ([.int 0, .int 12]) (n := 3) (Nat.le_of_ble_eq_true rfl)
  rw [lg_entry_eq]
  generalize (lg_sl ([.int 0, .int 12]) ++ List.replicate (3 - (lg_sl ([.int 0, .int 12])).length) Slot.unset).toArray = ls at hl ⊢
  have hl : lv_has ls 3 [(0, .int 0), (1, .int 12)] := hl
  refine lv_iload_n hx hb dJ9_floorMod_7cf53_0 rfl (lv_at hl 0 rfl) ?_
  refine lv_iload_n hx hb dJ9_floorMod_7cf53_1 rfl (lv_at hl 1 rfl) ?_
  refine lv_irem hx hb dJ9_floorMod_7cf53_2 (by decide) ?_
  refine W.eq (g2 := F0 m 3 ls [.int 0]) rfl ?_
  refine lv_istore_n (lv' := [(2, .int 0), (0, .int 0), (1, .int 12)]) hx hb dJ9_floorMod_7cf53_3 rfl hl (by decide) rfl (fun ls hl => ?_)
  refine lv_iload_n hx hb dJ9_floorMod_7cf53_4 rfl (lv_at hl 1 rfl) ?_
  refine lv_iload_n hx hb dJ9_floorMod_7cf53_5 rfl (lv_at hl 2 rfl) ?_
  refine lv_ixor hx hb dJ9_floorMod_7cf53_6 ?_
  refine W.eq (g2 := F0 m 7 ls [.int 12]) rfl ?_
  refine lv_if_ge (tgt := 18) hx hb dJ9_floorMod_7cf53_7 (by decide) (fun c1 => ?_) (fun c1 => absurd c1 (by decide))
  refine lv_iload_n hx hb dJ9_floorMod_7cf53_18 rfl (lv_at hl 0 rfl) ?_
  exact W.iret (v := 0) hx hb hr (fun t ht hW => ⟨0, rfl, by (first | rfl | assumption | decide | (simp_all; done) | grind), ht⟩) (fun _ h => nomatch h) dJ9_floorMod_7cf53_19

set_option maxHeartbeats 4000000 in
set_option maxRecDepth 100000 in
theorem r1_monthOfYear (l : Launch) (dC : Nat → ClassId) (dI : Nat → Nat → Nat) (h : Nat) (ro : Nat) (ba : Nat) (ra : Nat) (su : Nat) (tr : Nat) : Met l yX1_monthOfYear wsX1_monthOfYear ({ frames := 1, cells := 0, slots := 0, locals := 22 }) (va_Pc [.ref h, .int 0] (fun U => va_P (dC, dI) vwCl [(h, .inr (1, [.ref ro, .int 6, .ref ba, .ref ra, .ref su, .int 0, .ref tr]))] U.heap ∧ va_K (dC, dI) vwCl [] U)) (vp_Si (fun r : Int32 => r = 0)) 0 0 (fun _ => False) := by
  refine Met.ofW (cc := cX1_monthOfYear) (maxL := 2) (ret := (some .int)) (by decide) rfl ?_
  intro p e s m args below meth c s₁ B hml hv
  obtain ⟨rfl, hP, hK⟩ := hv
  have hx := B.exec
  have hb := B.bytes
  have hr := B.returns
  have hts := atoms_spec (ws := wsX1_monthOfYear) B.pre
  have hown : s.vm.findClass RX1 = some m.cls := findClass_of_methodNamed B.named
  have hlocks := B.notSynchronized
  have hP : va_P (dC, dI) vwCl [(h, .inr (1, [.ref ro, .int 6, .ref ba, .ref ra, .ref su, .int 0, .ref tr]))] s.heap := hP
  have hl := lv_entry ([.ref h, .int 0]) (n := 2) (Nat.le_of_ble_eq_true rfl)
  rw [lg_entry_eq]
  generalize (lg_sl ([.ref h, .int 0]) ++ List.replicate (2 - (lg_sl ([.ref h, .int 0])).length) Slot.unset).toArray = ls at hl ⊢
  have hl : lv_has ls 2 [(0, .ref h), (1, .int 0)] := hl
  refine lv_aload_n hx hb dX1_monthOfYear_0 rfl (lv_at hl 0 rfl) ?_
  refine va_get (D := (dC, dI)) (ci := 1) (v := .int 0) (C := RX1) (T := TX1) (N := 7) hx hb hts (by decide +kernel) hown hK hP 0 rfl rfl 5 (by decide) (hts (.fieldLink RX1 155 "ThatchRoof" "month" "I") (by decide +kernel)) (fun _ h9 => h9) rfl dX1_monthOfYear_1 ?_
  refine lv_iload_n hx hb dX1_monthOfYear_4 rfl (lv_at hl 1 rfl) ?_
  refine lv_iadd hx hb dX1_monthOfYear_5 ?_
  refine W.eq (g2 := F0 m 6 ls [.int 0]) rfl ?_
  refine lv_bipush (v := 12) hx hb dX1_monthOfYear_6 (by decide) ?_
  refine vp_callSi (va_runS (As := [.int 0, .int 12]) (rest := []) ⟨hx, hb, hml, hown, hts⟩ (rJ_floorMod0 l dC dI  ) (va_cwS 2 hts gX1_monthOfYear_J9_floorMod_7cf53 rfl rfl rfl (by decide +kernel) ⟨Nat.le_of_ble_eq_true rfl, Nat.le_of_ble_eq_true rfl⟩) ⟨fun a U g mk q => q, fun U hU hW => ⟨rfl, trivial⟩⟩ rfl rfl hl.1 rfl (lv_room (Nat.le_of_ble_eq_true rfl)) dX1_monthOfYear_8 ⟨Nat.le_of_ble_eq_true rfl, Nat.le_of_ble_eq_true rfl⟩).run (fun r1 hr1 => ?_)
  obtain rfl := hr1
  exact W.iret (v := 0) hx hb hr (fun t ht hW => ⟨0, rfl, by (first | rfl | assumption | decide | (simp_all; done) | grind), ht⟩) (fun _ h => nomatch h) dX1_monthOfYear_11

set_option maxHeartbeats 4000000 in
set_option maxRecDepth 100000 in
theorem r1_rainAhead (l : Launch) (dC : Nat → ClassId) (dI : Nat → Nat → Nat) (h : Nat) (ro : Nat) (ba : Nat) (ra : Nat) (su : Nat) (tr : Nat) (cA : ClassId) (fa : Nat → Int32) (hra : ∀ j : Nat, j < 12 → fa j = 4) : Met l yX1_rainAhead wsX1_rainAhead ({ frames := 2, cells := 0, slots := 0, locals := 43 }) (va_Pc [.ref h, .int 0] (fun U => va_P (dC, dI) vwCl [(h, .inr (1, [.ref ro, .int 6, .ref ba, .ref ra, .ref su, .int 0, .ref tr])), (ra, .inl (cA, 12, .inl fa))] U.heap ∧ va_K (dC, dI) vwCl [(cA, .int)] U)) (vp_Si (fun r : Int32 => r = 4)) 0 0 (fun _ => False) := by
  refine Met.ofW (cc := cX1_rainAhead) (maxL := 2) (ret := (some .int)) (by decide) rfl ?_
  intro p e s m args below meth c s₁ B hml hv
  obtain ⟨rfl, hP, hK⟩ := hv
  have hx := B.exec
  have hb := B.bytes
  have hr := B.returns
  have hts := atoms_spec (ws := wsX1_rainAhead) B.pre
  have hown : s.vm.findClass RX1 = some m.cls := findClass_of_methodNamed B.named
  have hlocks := B.notSynchronized
  have hP : va_P (dC, dI) vwCl [(h, .inr (1, [.ref ro, .int 6, .ref ba, .ref ra, .ref su, .int 0, .ref tr])), (ra, .inl (cA, 12, .inl fa))] s.heap := hP
  have hl := lv_entry ([.ref h, .int 0]) (n := 2) (Nat.le_of_ble_eq_true rfl)
  rw [lg_entry_eq]
  generalize (lg_sl ([.ref h, .int 0]) ++ List.replicate (2 - (lg_sl ([.ref h, .int 0])).length) Slot.unset).toArray = ls at hl ⊢
  have hl : lv_has ls 2 [(0, .ref h), (1, .int 0)] := hl
  refine lv_aload_n hx hb dX1_rainAhead_0 rfl (lv_at hl 0 rfl) ?_
  refine va_get (D := (dC, dI)) (ci := 1) (v := .ref ra) (C := RX1) (T := TX1) (N := 7) hx hb hts (by decide +kernel) hown hK hP 0 rfl rfl 3 (by decide) (hts (.fieldLink RX1 19 "ThatchRoof" "rains" "[I") (by decide +kernel)) (fun _ h9 => h9) rfl dX1_rainAhead_1 ?_
  refine lv_aload_n hx hb dX1_rainAhead_4 rfl (lv_at hl 0 rfl) ?_
  refine lv_iload_n hx hb dX1_rainAhead_5 rfl (lv_at hl 1 rfl) ?_
  have hPc := hP.sub (ws' := [(h, .inr (1, [.ref ro, .int 6, .ref ba, .ref ra, .ref su, .int 0, .ref tr]))]) [0] rfl
  have hKc := hK.sub (tys' := []) [] rfl
  refine vp_callSi (va_runV (As := [.int 0]) (rest := [.ref ra]) ⟨hx, hb, hml, hown, hts⟩ (r1_monthOfYear l dC dI h ro ba ra su tr ) (cwV 1 hts gX1_rainAhead_X1_monthOfYear rfl rfl rfl (by decide +kernel) ⟨Nat.le_of_ble_eq_true rfl, Nat.le_of_ble_eq_true rfl⟩) ⟨fun a U g mk q => by obtain ⟨q0, qP, qK⟩ := q; exact ⟨q0, qP, va_K.moved (u := U) (U := U.calling g mk a) (Vm.Alike.refl U.vm) qK⟩, va_recv hKc hPc (ci := 1) (q0 := 0) rfl rfl, fun U hU hW => ⟨rfl, by rw [hU]; exact hPc, va_K.moved hW.alike hKc⟩⟩ rfl rfl hl.1 rfl (lv_room (Nat.le_of_ble_eq_true rfl)) dX1_rainAhead_6 ⟨Nat.le_of_ble_eq_true rfl, Nat.le_of_ble_eq_true rfl⟩).run (fun r1 hr1 => ?_)
  obtain rfl := hr1
  refine va_iald hx hb hK hP 1 0 rfl rfl (vp_in_nI (n := 0) (by decide) (by decide)) dX1_rainAhead_9 ?_
  refine lv_topi (fun x2 ex2 => ?_)
  obtain rfl : x2 = 4 := ex2.trans (hra 0 (by decide))
  exact W.iret (v := 4) hx hb hr (fun t ht hW => ⟨4, rfl, by (first | rfl | assumption | decide | (simp_all; done) | grind), ht⟩) (fun _ h => nomatch h) dX1_rainAhead_10

set_option maxHeartbeats 4000000 in
set_option maxRecDepth 100000 in
theorem r1_stormAhead (l : Launch) (dC : Nat → ClassId) (dI : Nat → Nat → Nat) (h : Nat) (ro : Nat) (ba : Nat) (ra : Nat) (su : Nat) (tr : Nat) (cS : ClassId) : Met l yX1_stormAhead wsX1_stormAhead ({ frames := 2, cells := 0, slots := 0, locals := 43 }) (va_Pc [.ref h, .int 0] (fun U => va_P (dC, dI) vwCl [(h, .inr (1, [.ref ro, .int 6, .ref ba, .ref ra, .ref su, .int 0, .ref tr])), (su, .inl (cS, 12, .inl (fun _ => 0)))] U.heap ∧ va_K (dC, dI) vwCl [(cS, .int)] U)) (vp_Si (fun r : Int32 => r = 0)) 0 0 (fun _ => False) := by
  refine Met.ofW (cc := cX1_stormAhead) (maxL := 2) (ret := (some .int)) (by decide) rfl ?_
  intro p e s m args below meth c s₁ B hml hv
  obtain ⟨rfl, hP, hK⟩ := hv
  have hx := B.exec
  have hb := B.bytes
  have hr := B.returns
  have hts := atoms_spec (ws := wsX1_stormAhead) B.pre
  have hown : s.vm.findClass RX1 = some m.cls := findClass_of_methodNamed B.named
  have hlocks := B.notSynchronized
  have hP : va_P (dC, dI) vwCl [(h, .inr (1, [.ref ro, .int 6, .ref ba, .ref ra, .ref su, .int 0, .ref tr])), (su, .inl (cS, 12, .inl (fun _ => 0)))] s.heap := hP
  have hl := lv_entry ([.ref h, .int 0]) (n := 2) (Nat.le_of_ble_eq_true rfl)
  rw [lg_entry_eq]
  generalize (lg_sl ([.ref h, .int 0]) ++ List.replicate (2 - (lg_sl ([.ref h, .int 0])).length) Slot.unset).toArray = ls at hl ⊢
  have hl : lv_has ls 2 [(0, .ref h), (1, .int 0)] := hl
  refine lv_aload_n hx hb dX1_stormAhead_0 rfl (lv_at hl 0 rfl) ?_
  refine va_get (D := (dC, dI)) (ci := 1) (v := .ref su) (C := RX1) (T := TX1) (N := 7) hx hb hts (by decide +kernel) hown hK hP 0 rfl rfl 4 (by decide) (hts (.fieldLink RX1 22 "ThatchRoof" "storms" "[I") (by decide +kernel)) (fun _ h9 => h9) rfl dX1_stormAhead_1 ?_
  refine lv_aload_n hx hb dX1_stormAhead_4 rfl (lv_at hl 0 rfl) ?_
  refine lv_iload_n hx hb dX1_stormAhead_5 rfl (lv_at hl 1 rfl) ?_
  have hPc := hP.sub (ws' := [(h, .inr (1, [.ref ro, .int 6, .ref ba, .ref ra, .ref su, .int 0, .ref tr]))]) [0] rfl
  have hKc := hK.sub (tys' := []) [] rfl
  refine vp_callSi (va_runV (As := [.int 0]) (rest := [.ref su]) ⟨hx, hb, hml, hown, hts⟩ (r1_monthOfYear l dC dI h ro ba ra su tr ) (cwV 1 hts gX1_stormAhead_X1_monthOfYear rfl rfl rfl (by decide +kernel) ⟨Nat.le_of_ble_eq_true rfl, Nat.le_of_ble_eq_true rfl⟩) ⟨fun a U g mk q => by obtain ⟨q0, qP, qK⟩ := q; exact ⟨q0, qP, va_K.moved (u := U) (U := U.calling g mk a) (Vm.Alike.refl U.vm) qK⟩, va_recv hKc hPc (ci := 1) (q0 := 0) rfl rfl, fun U hU hW => ⟨rfl, by rw [hU]; exact hPc, va_K.moved hW.alike hKc⟩⟩ rfl rfl hl.1 rfl (lv_room (Nat.le_of_ble_eq_true rfl)) dX1_stormAhead_6 ⟨Nat.le_of_ble_eq_true rfl, Nat.le_of_ble_eq_true rfl⟩).run (fun r1 hr1 => ?_)
  obtain rfl := hr1
  refine va_iald hx hb hK hP 1 0 rfl rfl (vp_in_nI (n := 0) (by decide) (by decide)) dX1_stormAhead_9 ?_
  refine lv_topi (fun x2 ex2 => ?_)
  obtain rfl : x2 = 0 := ex2
  exact W.iret (v := 0) hx hb hr (fun t ht hW => ⟨0, rfl, by (first | rfl | assumption | decide | (simp_all; done) | grind), ht⟩) (fun _ h => nomatch h) dX1_stormAhead_10

set_option maxHeartbeats 4000000 in
set_option maxRecDepth 100000 in
theorem r1_tally0 (l : Launch) (dC : Nat → ClassId) (dI : Nat → Nat → Nat) (h : Nat) (ro : Nat) (ba : Nat) (ra : Nat) (su : Nat) (tr : Nat) (cR : ClassId) (fr : Nat → Option Nat) (cB : ClassId) (cA : ClassId) (fa : Nat → Int32) (cS : ClassId) (y0h : Nat) (y0k : Nat) (y0t : Nat) (y0p : Nat) (y0m : Nat) (Y0c : ClassId) (y1h : Nat) (y1k : Nat) (y1t : Nat) (y1p : Nat) (y1m : Nat) (Y1c : ClassId) (y2h : Nat) (y2k : Nat) (y2t : Nat) (y2p : Nat) (y2m : Nat) (Y2c : ClassId) (y3h : Nat) (y3k : Nat) (y3t : Nat) (y3p : Nat) (y3m : Nat) (Y3c : ClassId) (y4h : Nat) (y4k : Nat) (y4t : Nat) (y4p : Nat) (y4m : Nat) (Y4c : ClassId) (y5h : Nat) (y5k : Nat) (y5t : Nat) (y5p : Nat) (y5m : Nat) (Y5c : ClassId) (hy0 : fr 0 = some y0h) (hy1 : fr 1 = some y1h) (hy2 : fr 2 = some y2h) (hy3 : fr 3 = some y3h) (hy4 : fr 4 = some y4h) (hy5 : fr 5 = some y5h) (hra : ∀ j : Nat, j < 12 → fa j = 4) : Met l yX1_tally wsX1_tally ({ frames := 0, cells := 0, slots := 0, locals := 0 }) (va_Pc [.ref h, .int 0] (fun U => va_P (dC, dI) vwCl [(h, .inr (1, [.ref ro, .int 6, .ref ba, .ref ra, .ref su, .int 0, .ref tr])), (ro, .inl (cR, 6, .inr (.inr (.inr (.inr fr))))), (ba, .inl (cB, 3, .inl (fun _ => 0))), (ra, .inl (cA, 12, .inl fa)), (su, .inl (cS, 12, .inl (fun _ => 0))), (y0h, .inr (0, [.int 10, .int 6, .int 30, .int 100, .int 0, .int 0, .ref y0k, .ref y0t, .ref y0p, .ref y0m])), (y0t, .inl (Y0c, 60, .inl (fun _ => 0))), (y1h, .inr (0, [.int 10, .int 6, .int 30, .int 100, .int 0, .int 0, .ref y1k, .ref y1t, .ref y1p, .ref y1m])), (y1t, .inl (Y1c, 60, .inl (fun _ => 0))), (y2h, .inr (0, [.int 10, .int 6, .int 30, .int 100, .int 0, .int 0, .ref y2k, .ref y2t, .ref y2p, .ref y2m])), (y2t, .inl (Y2c, 60, .inl (fun _ => 0))), (y3h, .inr (0, [.int 10, .int 6, .int 30, .int 100, .int 0, .int 0, .ref y3k, .ref y3t, .ref y3p, .ref y3m])), (y3t, .inl (Y3c, 60, .inl (fun _ => 0))), (y4h, .inr (0, [.int 10, .int 6, .int 30, .int 100, .int 0, .int 0, .ref y4k, .ref y4t, .ref y4p, .ref y4m])), (y4t, .inl (Y4c, 60, .inl (fun _ => 0))), (y5h, .inr (0, [.int 10, .int 6, .int 30, .int 100, .int 0, .int 0, .ref y5k, .ref y5t, .ref y5p, .ref y5m])), (y5t, .inl (Y5c, 60, .inl (fun _ => 0)))] U.heap ∧ va_K (dC, dI) vwCl [(cR, .object RX0), (cB, .int), (cA, .int), (cS, .int), (Y0c, .int), (Y1c, .int), (Y2c, .int), (Y3c, .int), (Y4c, .int), (Y5c, .int)] U)) (vp_Si (fun r : Int32 => r = 0)) 0 0 (fun _ => False) := by
  refine Met.ofW (cc := cX1_tally) (maxL := 2) (ret := (some .int)) (by decide) rfl ?_
  intro p e s m args below meth c s₁ B hml hv
  obtain ⟨rfl, hP, hK⟩ := hv
  have hx := B.exec
  have hb := B.bytes
  have hr := B.returns
  have hts := atoms_spec (ws := wsX1_tally) B.pre
  have hown : s.vm.findClass RX1 = some m.cls := findClass_of_methodNamed B.named
  have hlocks := B.notSynchronized
  have hP : va_P (dC, dI) vwCl [(h, .inr (1, [.ref ro, .int 6, .ref ba, .ref ra, .ref su, .int 0, .ref tr])), (ro, .inl (cR, 6, .inr (.inr (.inr (.inr fr))))), (ba, .inl (cB, 3, .inl (fun _ => 0))), (ra, .inl (cA, 12, .inl fa)), (su, .inl (cS, 12, .inl (fun _ => 0))), (y0h, .inr (0, [.int 10, .int 6, .int 30, .int 100, .int 0, .int 0, .ref y0k, .ref y0t, .ref y0p, .ref y0m])), (y0t, .inl (Y0c, 60, .inl (fun _ => 0))), (y1h, .inr (0, [.int 10, .int 6, .int 30, .int 100, .int 0, .int 0, .ref y1k, .ref y1t, .ref y1p, .ref y1m])), (y1t, .inl (Y1c, 60, .inl (fun _ => 0))), (y2h, .inr (0, [.int 10, .int 6, .int 30, .int 100, .int 0, .int 0, .ref y2k, .ref y2t, .ref y2p, .ref y2m])), (y2t, .inl (Y2c, 60, .inl (fun _ => 0))), (y3h, .inr (0, [.int 10, .int 6, .int 30, .int 100, .int 0, .int 0, .ref y3k, .ref y3t, .ref y3p, .ref y3m])), (y3t, .inl (Y3c, 60, .inl (fun _ => 0))), (y4h, .inr (0, [.int 10, .int 6, .int 30, .int 100, .int 0, .int 0, .ref y4k, .ref y4t, .ref y4p, .ref y4m])), (y4t, .inl (Y4c, 60, .inl (fun _ => 0))), (y5h, .inr (0, [.int 10, .int 6, .int 30, .int 100, .int 0, .int 0, .ref y5k, .ref y5t, .ref y5p, .ref y5m])), (y5t, .inl (Y5c, 60, .inl (fun _ => 0)))] s.heap := hP
  have hl := lv_entry ([.ref h, .int 0]) (n := 2) (Nat.le_of_ble_eq_true rfl)
  rw [lg_entry_eq]
  generalize (lg_sl ([.ref h, .int 0]) ++ List.replicate (2 - (lg_sl ([.ref h, .int 0])).length) Slot.unset).toArray = ls at hl ⊢
  have hl : lv_has ls 2 [(0, .ref h), (1, .int 0)] := hl
  refine lv_iload_n hx hb dX1_tally_0 rfl (lv_at hl 1 rfl) ?_
  refine lv_tableIn (off := 47) (tgt := 48) hx hb dX1_tally_1 (by decide) (by decide) (by rfl) (by decide) ?_
  refine lv_aload_n hx hb dX1_tally_48 rfl (lv_at hl 0 rfl) ?_
  refine va_get (D := (dC, dI)) (ci := 1) (v := .int 0) (C := RX1) (T := TX1) (N := 7) hx hb hts (by decide +kernel) hown hK hP 0 rfl rfl 5 (by decide) (hts (.fieldLink RX1 155 "ThatchRoof" "month" "I") (by decide +kernel)) (fun _ h9 => h9) rfl dX1_tally_49 ?_
  exact W.iret (v := 0) hx hb hr (fun t ht hW => ⟨0, rfl, by (first | rfl | assumption | decide | (simp_all; done) | grind), ht⟩) (fun _ h => nomatch h) dX1_tally_52

set_option maxHeartbeats 4000000 in
set_option maxRecDepth 100000 in
theorem r1_tally1 (l : Launch) (dC : Nat → ClassId) (dI : Nat → Nat → Nat) (h : Nat) (ro : Nat) (ba : Nat) (ra : Nat) (su : Nat) (tr : Nat) (cR : ClassId) (fr : Nat → Option Nat) (cB : ClassId) (cA : ClassId) (fa : Nat → Int32) (cS : ClassId) (y0h : Nat) (y0k : Nat) (y0t : Nat) (y0p : Nat) (y0m : Nat) (Y0c : ClassId) (y1h : Nat) (y1k : Nat) (y1t : Nat) (y1p : Nat) (y1m : Nat) (Y1c : ClassId) (y2h : Nat) (y2k : Nat) (y2t : Nat) (y2p : Nat) (y2m : Nat) (Y2c : ClassId) (y3h : Nat) (y3k : Nat) (y3t : Nat) (y3p : Nat) (y3m : Nat) (Y3c : ClassId) (y4h : Nat) (y4k : Nat) (y4t : Nat) (y4p : Nat) (y4m : Nat) (Y4c : ClassId) (y5h : Nat) (y5k : Nat) (y5t : Nat) (y5p : Nat) (y5m : Nat) (Y5c : ClassId) (hy0 : fr 0 = some y0h) (hy1 : fr 1 = some y1h) (hy2 : fr 2 = some y2h) (hy3 : fr 3 = some y3h) (hy4 : fr 4 = some y4h) (hy5 : fr 5 = some y5h) (hra : ∀ j : Nat, j < 12 → fa j = 4) : Met l yX1_tally wsX1_tally ({ frames := 0, cells := 0, slots := 0, locals := 0 }) (va_Pc [.ref h, .int 1] (fun U => va_P (dC, dI) vwCl [(h, .inr (1, [.ref ro, .int 6, .ref ba, .ref ra, .ref su, .int 0, .ref tr])), (ro, .inl (cR, 6, .inr (.inr (.inr (.inr fr))))), (ba, .inl (cB, 3, .inl (fun _ => 0))), (ra, .inl (cA, 12, .inl fa)), (su, .inl (cS, 12, .inl (fun _ => 0))), (y0h, .inr (0, [.int 10, .int 6, .int 30, .int 100, .int 0, .int 0, .ref y0k, .ref y0t, .ref y0p, .ref y0m])), (y0t, .inl (Y0c, 60, .inl (fun _ => 0))), (y1h, .inr (0, [.int 10, .int 6, .int 30, .int 100, .int 0, .int 0, .ref y1k, .ref y1t, .ref y1p, .ref y1m])), (y1t, .inl (Y1c, 60, .inl (fun _ => 0))), (y2h, .inr (0, [.int 10, .int 6, .int 30, .int 100, .int 0, .int 0, .ref y2k, .ref y2t, .ref y2p, .ref y2m])), (y2t, .inl (Y2c, 60, .inl (fun _ => 0))), (y3h, .inr (0, [.int 10, .int 6, .int 30, .int 100, .int 0, .int 0, .ref y3k, .ref y3t, .ref y3p, .ref y3m])), (y3t, .inl (Y3c, 60, .inl (fun _ => 0))), (y4h, .inr (0, [.int 10, .int 6, .int 30, .int 100, .int 0, .int 0, .ref y4k, .ref y4t, .ref y4p, .ref y4m])), (y4t, .inl (Y4c, 60, .inl (fun _ => 0))), (y5h, .inr (0, [.int 10, .int 6, .int 30, .int 100, .int 0, .int 0, .ref y5k, .ref y5t, .ref y5p, .ref y5m])), (y5t, .inl (Y5c, 60, .inl (fun _ => 0)))] U.heap ∧ va_K (dC, dI) vwCl [(cR, .object RX0), (cB, .int), (cA, .int), (cS, .int), (Y0c, .int), (Y1c, .int), (Y2c, .int), (Y3c, .int), (Y4c, .int), (Y5c, .int)] U)) (vp_Si (fun r : Int32 => r = 6)) 0 0 (fun _ => False) := by
  refine Met.ofW (cc := cX1_tally) (maxL := 2) (ret := (some .int)) (by decide) rfl ?_
  intro p e s m args below meth c s₁ B hml hv
  obtain ⟨rfl, hP, hK⟩ := hv
  have hx := B.exec
  have hb := B.bytes
  have hr := B.returns
  have hts := atoms_spec (ws := wsX1_tally) B.pre
  have hown : s.vm.findClass RX1 = some m.cls := findClass_of_methodNamed B.named
  have hlocks := B.notSynchronized
  have hP : va_P (dC, dI) vwCl [(h, .inr (1, [.ref ro, .int 6, .ref ba, .ref ra, .ref su, .int 0, .ref tr])), (ro, .inl (cR, 6, .inr (.inr (.inr (.inr fr))))), (ba, .inl (cB, 3, .inl (fun _ => 0))), (ra, .inl (cA, 12, .inl fa)), (su, .inl (cS, 12, .inl (fun _ => 0))), (y0h, .inr (0, [.int 10, .int 6, .int 30, .int 100, .int 0, .int 0, .ref y0k, .ref y0t, .ref y0p, .ref y0m])), (y0t, .inl (Y0c, 60, .inl (fun _ => 0))), (y1h, .inr (0, [.int 10, .int 6, .int 30, .int 100, .int 0, .int 0, .ref y1k, .ref y1t, .ref y1p, .ref y1m])), (y1t, .inl (Y1c, 60, .inl (fun _ => 0))), (y2h, .inr (0, [.int 10, .int 6, .int 30, .int 100, .int 0, .int 0, .ref y2k, .ref y2t, .ref y2p, .ref y2m])), (y2t, .inl (Y2c, 60, .inl (fun _ => 0))), (y3h, .inr (0, [.int 10, .int 6, .int 30, .int 100, .int 0, .int 0, .ref y3k, .ref y3t, .ref y3p, .ref y3m])), (y3t, .inl (Y3c, 60, .inl (fun _ => 0))), (y4h, .inr (0, [.int 10, .int 6, .int 30, .int 100, .int 0, .int 0, .ref y4k, .ref y4t, .ref y4p, .ref y4m])), (y4t, .inl (Y4c, 60, .inl (fun _ => 0))), (y5h, .inr (0, [.int 10, .int 6, .int 30, .int 100, .int 0, .int 0, .ref y5k, .ref y5t, .ref y5p, .ref y5m])), (y5t, .inl (Y5c, 60, .inl (fun _ => 0)))] s.heap := hP
  have hl := lv_entry ([.ref h, .int 1]) (n := 2) (Nat.le_of_ble_eq_true rfl)
  rw [lg_entry_eq]
  generalize (lg_sl ([.ref h, .int 1]) ++ List.replicate (2 - (lg_sl ([.ref h, .int 1])).length) Slot.unset).toArray = ls at hl ⊢
  have hl : lv_has ls 2 [(0, .ref h), (1, .int 1)] := hl
  refine lv_iload_n hx hb dX1_tally_0 rfl (lv_at hl 1 rfl) ?_
  refine lv_tableIn (off := 52) (tgt := 53) hx hb dX1_tally_1 (by decide) (by decide) (by rfl) (by decide) ?_
  refine lv_aload_n hx hb dX1_tally_53 rfl (lv_at hl 0 rfl) ?_
  refine va_get (D := (dC, dI)) (ci := 1) (v := .int 6) (C := RX1) (T := TX1) (N := 7) hx hb hts (by decide +kernel) hown hK hP 0 rfl rfl 1 (by decide) (hts (.fieldLink RX1 43 "ThatchRoof" "built" "I") (by decide +kernel)) (fun _ h9 => h9) rfl dX1_tally_54 ?_
  exact W.iret (v := 6) hx hb hr (fun t ht hW => ⟨6, rfl, by (first | rfl | assumption | decide | (simp_all; done) | grind), ht⟩) (fun _ h => nomatch h) dX1_tally_57

set_option maxHeartbeats 4000000 in
set_option maxRecDepth 100000 in
theorem r1_tally2 (l : Launch) (dC : Nat → ClassId) (dI : Nat → Nat → Nat) (h : Nat) (ro : Nat) (ba : Nat) (ra : Nat) (su : Nat) (tr : Nat) (cR : ClassId) (fr : Nat → Option Nat) (cB : ClassId) (cA : ClassId) (fa : Nat → Int32) (cS : ClassId) (y0h : Nat) (y0k : Nat) (y0t : Nat) (y0p : Nat) (y0m : Nat) (Y0c : ClassId) (y1h : Nat) (y1k : Nat) (y1t : Nat) (y1p : Nat) (y1m : Nat) (Y1c : ClassId) (y2h : Nat) (y2k : Nat) (y2t : Nat) (y2p : Nat) (y2m : Nat) (Y2c : ClassId) (y3h : Nat) (y3k : Nat) (y3t : Nat) (y3p : Nat) (y3m : Nat) (Y3c : ClassId) (y4h : Nat) (y4k : Nat) (y4t : Nat) (y4p : Nat) (y4m : Nat) (Y4c : ClassId) (y5h : Nat) (y5k : Nat) (y5t : Nat) (y5p : Nat) (y5m : Nat) (Y5c : ClassId) (hy0 : fr 0 = some y0h) (hy1 : fr 1 = some y1h) (hy2 : fr 2 = some y2h) (hy3 : fr 3 = some y3h) (hy4 : fr 4 = some y4h) (hy5 : fr 5 = some y5h) (hra : ∀ j : Nat, j < 12 → fa j = 4) : Met l yX1_tally wsX1_tally ({ frames := 0, cells := 0, slots := 0, locals := 0 }) (va_Pc [.ref h, .int 2] (fun U => va_P (dC, dI) vwCl [(h, .inr (1, [.ref ro, .int 6, .ref ba, .ref ra, .ref su, .int 0, .ref tr])), (ro, .inl (cR, 6, .inr (.inr (.inr (.inr fr))))), (ba, .inl (cB, 3, .inl (fun _ => 0))), (ra, .inl (cA, 12, .inl fa)), (su, .inl (cS, 12, .inl (fun _ => 0))), (y0h, .inr (0, [.int 10, .int 6, .int 30, .int 100, .int 0, .int 0, .ref y0k, .ref y0t, .ref y0p, .ref y0m])), (y0t, .inl (Y0c, 60, .inl (fun _ => 0))), (y1h, .inr (0, [.int 10, .int 6, .int 30, .int 100, .int 0, .int 0, .ref y1k, .ref y1t, .ref y1p, .ref y1m])), (y1t, .inl (Y1c, 60, .inl (fun _ => 0))), (y2h, .inr (0, [.int 10, .int 6, .int 30, .int 100, .int 0, .int 0, .ref y2k, .ref y2t, .ref y2p, .ref y2m])), (y2t, .inl (Y2c, 60, .inl (fun _ => 0))), (y3h, .inr (0, [.int 10, .int 6, .int 30, .int 100, .int 0, .int 0, .ref y3k, .ref y3t, .ref y3p, .ref y3m])), (y3t, .inl (Y3c, 60, .inl (fun _ => 0))), (y4h, .inr (0, [.int 10, .int 6, .int 30, .int 100, .int 0, .int 0, .ref y4k, .ref y4t, .ref y4p, .ref y4m])), (y4t, .inl (Y4c, 60, .inl (fun _ => 0))), (y5h, .inr (0, [.int 10, .int 6, .int 30, .int 100, .int 0, .int 0, .ref y5k, .ref y5t, .ref y5p, .ref y5m])), (y5t, .inl (Y5c, 60, .inl (fun _ => 0)))] U.heap ∧ va_K (dC, dI) vwCl [(cR, .object RX0), (cB, .int), (cA, .int), (cS, .int), (Y0c, .int), (Y1c, .int), (Y2c, .int), (Y3c, .int), (Y4c, .int), (Y5c, .int)] U)) (vp_Si (fun r : Int32 => r = 0)) 0 0 (fun _ => False) := by
  refine Met.ofW (cc := cX1_tally) (maxL := 2) (ret := (some .int)) (by decide) rfl ?_
  intro p e s m args below meth c s₁ B hml hv
  obtain ⟨rfl, hP, hK⟩ := hv
  have hx := B.exec
  have hb := B.bytes
  have hr := B.returns
  have hts := atoms_spec (ws := wsX1_tally) B.pre
  have hown : s.vm.findClass RX1 = some m.cls := findClass_of_methodNamed B.named
  have hlocks := B.notSynchronized
  have hP : va_P (dC, dI) vwCl [(h, .inr (1, [.ref ro, .int 6, .ref ba, .ref ra, .ref su, .int 0, .ref tr])), (ro, .inl (cR, 6, .inr (.inr (.inr (.inr fr))))), (ba, .inl (cB, 3, .inl (fun _ => 0))), (ra, .inl (cA, 12, .inl fa)), (su, .inl (cS, 12, .inl (fun _ => 0))), (y0h, .inr (0, [.int 10, .int 6, .int 30, .int 100, .int 0, .int 0, .ref y0k, .ref y0t, .ref y0p, .ref y0m])), (y0t, .inl (Y0c, 60, .inl (fun _ => 0))), (y1h, .inr (0, [.int 10, .int 6, .int 30, .int 100, .int 0, .int 0, .ref y1k, .ref y1t, .ref y1p, .ref y1m])), (y1t, .inl (Y1c, 60, .inl (fun _ => 0))), (y2h, .inr (0, [.int 10, .int 6, .int 30, .int 100, .int 0, .int 0, .ref y2k, .ref y2t, .ref y2p, .ref y2m])), (y2t, .inl (Y2c, 60, .inl (fun _ => 0))), (y3h, .inr (0, [.int 10, .int 6, .int 30, .int 100, .int 0, .int 0, .ref y3k, .ref y3t, .ref y3p, .ref y3m])), (y3t, .inl (Y3c, 60, .inl (fun _ => 0))), (y4h, .inr (0, [.int 10, .int 6, .int 30, .int 100, .int 0, .int 0, .ref y4k, .ref y4t, .ref y4p, .ref y4m])), (y4t, .inl (Y4c, 60, .inl (fun _ => 0))), (y5h, .inr (0, [.int 10, .int 6, .int 30, .int 100, .int 0, .int 0, .ref y5k, .ref y5t, .ref y5p, .ref y5m])), (y5t, .inl (Y5c, 60, .inl (fun _ => 0)))] s.heap := hP
  have hl := lv_entry ([.ref h, .int 2]) (n := 2) (Nat.le_of_ble_eq_true rfl)
  rw [lg_entry_eq]
  generalize (lg_sl ([.ref h, .int 2]) ++ List.replicate (2 - (lg_sl ([.ref h, .int 2])).length) Slot.unset).toArray = ls at hl ⊢
  have hl : lv_has ls 2 [(0, .ref h), (1, .int 2)] := hl
  refine lv_iload_n hx hb dX1_tally_0 rfl (lv_at hl 1 rfl) ?_
  refine lv_tableIn (off := 57) (tgt := 58) hx hb dX1_tally_1 (by decide) (by decide) (by rfl) (by decide) ?_
  refine lv_aload_n hx hb dX1_tally_58 rfl (lv_at hl 0 rfl) ?_
  refine va_get (D := (dC, dI)) (ci := 1) (v := .ref ba) (C := RX1) (T := TX1) (N := 7) hx hb hts (by decide +kernel) hown hK hP 0 rfl rfl 2 (by decide) (hts (.fieldLink RX1 15 "ThatchRoof" "barn" "[I") (by decide +kernel)) (fun _ h9 => h9) rfl dX1_tally_59 ?_
  refine lv_iload_n hx hb dX1_tally_62 rfl (lv_at hl 1 rfl) ?_
  refine lv_iconst (v := 2) hx hb dX1_tally_63 (by decide) ?_
  refine lv_isub hx hb dX1_tally_64 ?_
  refine W.eq (g2 := F0 m 65 ls [.int 0, .ref ba]) rfl ?_
  refine va_iald hx hb hK hP 2 1 rfl rfl (vp_in_nI (n := 0) (by decide) (by decide)) dX1_tally_65 ?_
  refine lv_topi (fun x1 ex1 => ?_)
  obtain rfl : x1 = 0 := ex1
  exact W.iret (v := 0) hx hb hr (fun t ht hW => ⟨0, rfl, by (first | rfl | assumption | decide | (simp_all; done) | grind), ht⟩) (fun _ h => nomatch h) dX1_tally_66

set_option maxHeartbeats 4000000 in
set_option maxRecDepth 100000 in
theorem r1_tally3 (l : Launch) (dC : Nat → ClassId) (dI : Nat → Nat → Nat) (h : Nat) (ro : Nat) (ba : Nat) (ra : Nat) (su : Nat) (tr : Nat) (cR : ClassId) (fr : Nat → Option Nat) (cB : ClassId) (cA : ClassId) (fa : Nat → Int32) (cS : ClassId) (y0h : Nat) (y0k : Nat) (y0t : Nat) (y0p : Nat) (y0m : Nat) (Y0c : ClassId) (y1h : Nat) (y1k : Nat) (y1t : Nat) (y1p : Nat) (y1m : Nat) (Y1c : ClassId) (y2h : Nat) (y2k : Nat) (y2t : Nat) (y2p : Nat) (y2m : Nat) (Y2c : ClassId) (y3h : Nat) (y3k : Nat) (y3t : Nat) (y3p : Nat) (y3m : Nat) (Y3c : ClassId) (y4h : Nat) (y4k : Nat) (y4t : Nat) (y4p : Nat) (y4m : Nat) (Y4c : ClassId) (y5h : Nat) (y5k : Nat) (y5t : Nat) (y5p : Nat) (y5m : Nat) (Y5c : ClassId) (hy0 : fr 0 = some y0h) (hy1 : fr 1 = some y1h) (hy2 : fr 2 = some y2h) (hy3 : fr 3 = some y3h) (hy4 : fr 4 = some y4h) (hy5 : fr 5 = some y5h) (hra : ∀ j : Nat, j < 12 → fa j = 4) : Met l yX1_tally wsX1_tally ({ frames := 0, cells := 0, slots := 0, locals := 0 }) (va_Pc [.ref h, .int 3] (fun U => va_P (dC, dI) vwCl [(h, .inr (1, [.ref ro, .int 6, .ref ba, .ref ra, .ref su, .int 0, .ref tr])), (ro, .inl (cR, 6, .inr (.inr (.inr (.inr fr))))), (ba, .inl (cB, 3, .inl (fun _ => 0))), (ra, .inl (cA, 12, .inl fa)), (su, .inl (cS, 12, .inl (fun _ => 0))), (y0h, .inr (0, [.int 10, .int 6, .int 30, .int 100, .int 0, .int 0, .ref y0k, .ref y0t, .ref y0p, .ref y0m])), (y0t, .inl (Y0c, 60, .inl (fun _ => 0))), (y1h, .inr (0, [.int 10, .int 6, .int 30, .int 100, .int 0, .int 0, .ref y1k, .ref y1t, .ref y1p, .ref y1m])), (y1t, .inl (Y1c, 60, .inl (fun _ => 0))), (y2h, .inr (0, [.int 10, .int 6, .int 30, .int 100, .int 0, .int 0, .ref y2k, .ref y2t, .ref y2p, .ref y2m])), (y2t, .inl (Y2c, 60, .inl (fun _ => 0))), (y3h, .inr (0, [.int 10, .int 6, .int 30, .int 100, .int 0, .int 0, .ref y3k, .ref y3t, .ref y3p, .ref y3m])), (y3t, .inl (Y3c, 60, .inl (fun _ => 0))), (y4h, .inr (0, [.int 10, .int 6, .int 30, .int 100, .int 0, .int 0, .ref y4k, .ref y4t, .ref y4p, .ref y4m])), (y4t, .inl (Y4c, 60, .inl (fun _ => 0))), (y5h, .inr (0, [.int 10, .int 6, .int 30, .int 100, .int 0, .int 0, .ref y5k, .ref y5t, .ref y5p, .ref y5m])), (y5t, .inl (Y5c, 60, .inl (fun _ => 0)))] U.heap ∧ va_K (dC, dI) vwCl [(cR, .object RX0), (cB, .int), (cA, .int), (cS, .int), (Y0c, .int), (Y1c, .int), (Y2c, .int), (Y3c, .int), (Y4c, .int), (Y5c, .int)] U)) (vp_Si (fun r : Int32 => r = 0)) 0 0 (fun _ => False) := by
  refine Met.ofW (cc := cX1_tally) (maxL := 2) (ret := (some .int)) (by decide) rfl ?_
  intro p e s m args below meth c s₁ B hml hv
  obtain ⟨rfl, hP, hK⟩ := hv
  have hx := B.exec
  have hb := B.bytes
  have hr := B.returns
  have hts := atoms_spec (ws := wsX1_tally) B.pre
  have hown : s.vm.findClass RX1 = some m.cls := findClass_of_methodNamed B.named
  have hlocks := B.notSynchronized
  have hP : va_P (dC, dI) vwCl [(h, .inr (1, [.ref ro, .int 6, .ref ba, .ref ra, .ref su, .int 0, .ref tr])), (ro, .inl (cR, 6, .inr (.inr (.inr (.inr fr))))), (ba, .inl (cB, 3, .inl (fun _ => 0))), (ra, .inl (cA, 12, .inl fa)), (su, .inl (cS, 12, .inl (fun _ => 0))), (y0h, .inr (0, [.int 10, .int 6, .int 30, .int 100, .int 0, .int 0, .ref y0k, .ref y0t, .ref y0p, .ref y0m])), (y0t, .inl (Y0c, 60, .inl (fun _ => 0))), (y1h, .inr (0, [.int 10, .int 6, .int 30, .int 100, .int 0, .int 0, .ref y1k, .ref y1t, .ref y1p, .ref y1m])), (y1t, .inl (Y1c, 60, .inl (fun _ => 0))), (y2h, .inr (0, [.int 10, .int 6, .int 30, .int 100, .int 0, .int 0, .ref y2k, .ref y2t, .ref y2p, .ref y2m])), (y2t, .inl (Y2c, 60, .inl (fun _ => 0))), (y3h, .inr (0, [.int 10, .int 6, .int 30, .int 100, .int 0, .int 0, .ref y3k, .ref y3t, .ref y3p, .ref y3m])), (y3t, .inl (Y3c, 60, .inl (fun _ => 0))), (y4h, .inr (0, [.int 10, .int 6, .int 30, .int 100, .int 0, .int 0, .ref y4k, .ref y4t, .ref y4p, .ref y4m])), (y4t, .inl (Y4c, 60, .inl (fun _ => 0))), (y5h, .inr (0, [.int 10, .int 6, .int 30, .int 100, .int 0, .int 0, .ref y5k, .ref y5t, .ref y5p, .ref y5m])), (y5t, .inl (Y5c, 60, .inl (fun _ => 0)))] s.heap := hP
  have hl := lv_entry ([.ref h, .int 3]) (n := 2) (Nat.le_of_ble_eq_true rfl)
  rw [lg_entry_eq]
  generalize (lg_sl ([.ref h, .int 3]) ++ List.replicate (2 - (lg_sl ([.ref h, .int 3])).length) Slot.unset).toArray = ls at hl ⊢
  have hl : lv_has ls 2 [(0, .ref h), (1, .int 3)] := hl
  refine lv_iload_n hx hb dX1_tally_0 rfl (lv_at hl 1 rfl) ?_
  refine lv_tableIn (off := 57) (tgt := 58) hx hb dX1_tally_1 (by decide) (by decide) (by rfl) (by decide) ?_
  refine lv_aload_n hx hb dX1_tally_58 rfl (lv_at hl 0 rfl) ?_
  refine va_get (D := (dC, dI)) (ci := 1) (v := .ref ba) (C := RX1) (T := TX1) (N := 7) hx hb hts (by decide +kernel) hown hK hP 0 rfl rfl 2 (by decide) (hts (.fieldLink RX1 15 "ThatchRoof" "barn" "[I") (by decide +kernel)) (fun _ h9 => h9) rfl dX1_tally_59 ?_
  refine lv_iload_n hx hb dX1_tally_62 rfl (lv_at hl 1 rfl) ?_
  refine lv_iconst (v := 2) hx hb dX1_tally_63 (by decide) ?_
  refine lv_isub hx hb dX1_tally_64 ?_
  refine W.eq (g2 := F0 m 65 ls [.int 1, .ref ba]) rfl ?_
  refine va_iald hx hb hK hP 2 1 rfl rfl (vp_in_nI (n := 1) (by decide) (by decide)) dX1_tally_65 ?_
  refine lv_topi (fun x1 ex1 => ?_)
  obtain rfl : x1 = 0 := ex1
  exact W.iret (v := 0) hx hb hr (fun t ht hW => ⟨0, rfl, by (first | rfl | assumption | decide | (simp_all; done) | grind), ht⟩) (fun _ h => nomatch h) dX1_tally_66

set_option maxHeartbeats 4000000 in
set_option maxRecDepth 100000 in
theorem r1_tally4 (l : Launch) (dC : Nat → ClassId) (dI : Nat → Nat → Nat) (h : Nat) (ro : Nat) (ba : Nat) (ra : Nat) (su : Nat) (tr : Nat) (cR : ClassId) (fr : Nat → Option Nat) (cB : ClassId) (cA : ClassId) (fa : Nat → Int32) (cS : ClassId) (y0h : Nat) (y0k : Nat) (y0t : Nat) (y0p : Nat) (y0m : Nat) (Y0c : ClassId) (y1h : Nat) (y1k : Nat) (y1t : Nat) (y1p : Nat) (y1m : Nat) (Y1c : ClassId) (y2h : Nat) (y2k : Nat) (y2t : Nat) (y2p : Nat) (y2m : Nat) (Y2c : ClassId) (y3h : Nat) (y3k : Nat) (y3t : Nat) (y3p : Nat) (y3m : Nat) (Y3c : ClassId) (y4h : Nat) (y4k : Nat) (y4t : Nat) (y4p : Nat) (y4m : Nat) (Y4c : ClassId) (y5h : Nat) (y5k : Nat) (y5t : Nat) (y5p : Nat) (y5m : Nat) (Y5c : ClassId) (hy0 : fr 0 = some y0h) (hy1 : fr 1 = some y1h) (hy2 : fr 2 = some y2h) (hy3 : fr 3 = some y3h) (hy4 : fr 4 = some y4h) (hy5 : fr 5 = some y5h) (hra : ∀ j : Nat, j < 12 → fa j = 4) : Met l yX1_tally wsX1_tally ({ frames := 0, cells := 0, slots := 0, locals := 0 }) (va_Pc [.ref h, .int 4] (fun U => va_P (dC, dI) vwCl [(h, .inr (1, [.ref ro, .int 6, .ref ba, .ref ra, .ref su, .int 0, .ref tr])), (ro, .inl (cR, 6, .inr (.inr (.inr (.inr fr))))), (ba, .inl (cB, 3, .inl (fun _ => 0))), (ra, .inl (cA, 12, .inl fa)), (su, .inl (cS, 12, .inl (fun _ => 0))), (y0h, .inr (0, [.int 10, .int 6, .int 30, .int 100, .int 0, .int 0, .ref y0k, .ref y0t, .ref y0p, .ref y0m])), (y0t, .inl (Y0c, 60, .inl (fun _ => 0))), (y1h, .inr (0, [.int 10, .int 6, .int 30, .int 100, .int 0, .int 0, .ref y1k, .ref y1t, .ref y1p, .ref y1m])), (y1t, .inl (Y1c, 60, .inl (fun _ => 0))), (y2h, .inr (0, [.int 10, .int 6, .int 30, .int 100, .int 0, .int 0, .ref y2k, .ref y2t, .ref y2p, .ref y2m])), (y2t, .inl (Y2c, 60, .inl (fun _ => 0))), (y3h, .inr (0, [.int 10, .int 6, .int 30, .int 100, .int 0, .int 0, .ref y3k, .ref y3t, .ref y3p, .ref y3m])), (y3t, .inl (Y3c, 60, .inl (fun _ => 0))), (y4h, .inr (0, [.int 10, .int 6, .int 30, .int 100, .int 0, .int 0, .ref y4k, .ref y4t, .ref y4p, .ref y4m])), (y4t, .inl (Y4c, 60, .inl (fun _ => 0))), (y5h, .inr (0, [.int 10, .int 6, .int 30, .int 100, .int 0, .int 0, .ref y5k, .ref y5t, .ref y5p, .ref y5m])), (y5t, .inl (Y5c, 60, .inl (fun _ => 0)))] U.heap ∧ va_K (dC, dI) vwCl [(cR, .object RX0), (cB, .int), (cA, .int), (cS, .int), (Y0c, .int), (Y1c, .int), (Y2c, .int), (Y3c, .int), (Y4c, .int), (Y5c, .int)] U)) (vp_Si (fun r : Int32 => r = 0)) 0 0 (fun _ => False) := by
  refine Met.ofW (cc := cX1_tally) (maxL := 2) (ret := (some .int)) (by decide) rfl ?_
  intro p e s m args below meth c s₁ B hml hv
  obtain ⟨rfl, hP, hK⟩ := hv
  have hx := B.exec
  have hb := B.bytes
  have hr := B.returns
  have hts := atoms_spec (ws := wsX1_tally) B.pre
  have hown : s.vm.findClass RX1 = some m.cls := findClass_of_methodNamed B.named
  have hlocks := B.notSynchronized
  have hP : va_P (dC, dI) vwCl [(h, .inr (1, [.ref ro, .int 6, .ref ba, .ref ra, .ref su, .int 0, .ref tr])), (ro, .inl (cR, 6, .inr (.inr (.inr (.inr fr))))), (ba, .inl (cB, 3, .inl (fun _ => 0))), (ra, .inl (cA, 12, .inl fa)), (su, .inl (cS, 12, .inl (fun _ => 0))), (y0h, .inr (0, [.int 10, .int 6, .int 30, .int 100, .int 0, .int 0, .ref y0k, .ref y0t, .ref y0p, .ref y0m])), (y0t, .inl (Y0c, 60, .inl (fun _ => 0))), (y1h, .inr (0, [.int 10, .int 6, .int 30, .int 100, .int 0, .int 0, .ref y1k, .ref y1t, .ref y1p, .ref y1m])), (y1t, .inl (Y1c, 60, .inl (fun _ => 0))), (y2h, .inr (0, [.int 10, .int 6, .int 30, .int 100, .int 0, .int 0, .ref y2k, .ref y2t, .ref y2p, .ref y2m])), (y2t, .inl (Y2c, 60, .inl (fun _ => 0))), (y3h, .inr (0, [.int 10, .int 6, .int 30, .int 100, .int 0, .int 0, .ref y3k, .ref y3t, .ref y3p, .ref y3m])), (y3t, .inl (Y3c, 60, .inl (fun _ => 0))), (y4h, .inr (0, [.int 10, .int 6, .int 30, .int 100, .int 0, .int 0, .ref y4k, .ref y4t, .ref y4p, .ref y4m])), (y4t, .inl (Y4c, 60, .inl (fun _ => 0))), (y5h, .inr (0, [.int 10, .int 6, .int 30, .int 100, .int 0, .int 0, .ref y5k, .ref y5t, .ref y5p, .ref y5m])), (y5t, .inl (Y5c, 60, .inl (fun _ => 0)))] s.heap := hP
  have hl := lv_entry ([.ref h, .int 4]) (n := 2) (Nat.le_of_ble_eq_true rfl)
  rw [lg_entry_eq]
  generalize (lg_sl ([.ref h, .int 4]) ++ List.replicate (2 - (lg_sl ([.ref h, .int 4])).length) Slot.unset).toArray = ls at hl ⊢
  have hl : lv_has ls 2 [(0, .ref h), (1, .int 4)] := hl
  refine lv_iload_n hx hb dX1_tally_0 rfl (lv_at hl 1 rfl) ?_
  refine lv_tableIn (off := 57) (tgt := 58) hx hb dX1_tally_1 (by decide) (by decide) (by rfl) (by decide) ?_
  refine lv_aload_n hx hb dX1_tally_58 rfl (lv_at hl 0 rfl) ?_
  refine va_get (D := (dC, dI)) (ci := 1) (v := .ref ba) (C := RX1) (T := TX1) (N := 7) hx hb hts (by decide +kernel) hown hK hP 0 rfl rfl 2 (by decide) (hts (.fieldLink RX1 15 "ThatchRoof" "barn" "[I") (by decide +kernel)) (fun _ h9 => h9) rfl dX1_tally_59 ?_
  refine lv_iload_n hx hb dX1_tally_62 rfl (lv_at hl 1 rfl) ?_
  refine lv_iconst (v := 2) hx hb dX1_tally_63 (by decide) ?_
  refine lv_isub hx hb dX1_tally_64 ?_
  refine W.eq (g2 := F0 m 65 ls [.int 2, .ref ba]) rfl ?_
  refine va_iald hx hb hK hP 2 1 rfl rfl (vp_in_nI (n := 2) (by decide) (by decide)) dX1_tally_65 ?_
  refine lv_topi (fun x1 ex1 => ?_)
  obtain rfl : x1 = 0 := ex1
  exact W.iret (v := 0) hx hb hr (fun t ht hW => ⟨0, rfl, by (first | rfl | assumption | decide | (simp_all; done) | grind), ht⟩) (fun _ h => nomatch h) dX1_tally_66

set_option maxHeartbeats 4000000 in
set_option maxRecDepth 100000 in
theorem r1_tally5 (l : Launch) (dC : Nat → ClassId) (dI : Nat → Nat → Nat) (h : Nat) (ro : Nat) (ba : Nat) (ra : Nat) (su : Nat) (tr : Nat) (cR : ClassId) (fr : Nat → Option Nat) (cB : ClassId) (cA : ClassId) (fa : Nat → Int32) (cS : ClassId) (y0h : Nat) (y0k : Nat) (y0t : Nat) (y0p : Nat) (y0m : Nat) (Y0c : ClassId) (y1h : Nat) (y1k : Nat) (y1t : Nat) (y1p : Nat) (y1m : Nat) (Y1c : ClassId) (y2h : Nat) (y2k : Nat) (y2t : Nat) (y2p : Nat) (y2m : Nat) (Y2c : ClassId) (y3h : Nat) (y3k : Nat) (y3t : Nat) (y3p : Nat) (y3m : Nat) (Y3c : ClassId) (y4h : Nat) (y4k : Nat) (y4t : Nat) (y4p : Nat) (y4m : Nat) (Y4c : ClassId) (y5h : Nat) (y5k : Nat) (y5t : Nat) (y5p : Nat) (y5m : Nat) (Y5c : ClassId) (hy0 : fr 0 = some y0h) (hy1 : fr 1 = some y1h) (hy2 : fr 2 = some y2h) (hy3 : fr 3 = some y3h) (hy4 : fr 4 = some y4h) (hy5 : fr 5 = some y5h) (hra : ∀ j : Nat, j < 12 → fa j = 4) : Met l yX1_tally wsX1_tally ({ frames := 5, cells := 0, slots := 0, locals := 112 }) (va_Pc [.ref h, .int 5] (fun U => va_P (dC, dI) vwCl [(h, .inr (1, [.ref ro, .int 6, .ref ba, .ref ra, .ref su, .int 0, .ref tr])), (ro, .inl (cR, 6, .inr (.inr (.inr (.inr fr))))), (ba, .inl (cB, 3, .inl (fun _ => 0))), (ra, .inl (cA, 12, .inl fa)), (su, .inl (cS, 12, .inl (fun _ => 0))), (y0h, .inr (0, [.int 10, .int 6, .int 30, .int 100, .int 0, .int 0, .ref y0k, .ref y0t, .ref y0p, .ref y0m])), (y0t, .inl (Y0c, 60, .inl (fun _ => 0))), (y1h, .inr (0, [.int 10, .int 6, .int 30, .int 100, .int 0, .int 0, .ref y1k, .ref y1t, .ref y1p, .ref y1m])), (y1t, .inl (Y1c, 60, .inl (fun _ => 0))), (y2h, .inr (0, [.int 10, .int 6, .int 30, .int 100, .int 0, .int 0, .ref y2k, .ref y2t, .ref y2p, .ref y2m])), (y2t, .inl (Y2c, 60, .inl (fun _ => 0))), (y3h, .inr (0, [.int 10, .int 6, .int 30, .int 100, .int 0, .int 0, .ref y3k, .ref y3t, .ref y3p, .ref y3m])), (y3t, .inl (Y3c, 60, .inl (fun _ => 0))), (y4h, .inr (0, [.int 10, .int 6, .int 30, .int 100, .int 0, .int 0, .ref y4k, .ref y4t, .ref y4p, .ref y4m])), (y4t, .inl (Y4c, 60, .inl (fun _ => 0))), (y5h, .inr (0, [.int 10, .int 6, .int 30, .int 100, .int 0, .int 0, .ref y5k, .ref y5t, .ref y5p, .ref y5m])), (y5t, .inl (Y5c, 60, .inl (fun _ => 0)))] U.heap ∧ va_K (dC, dI) vwCl [(cR, .object RX0), (cB, .int), (cA, .int), (cS, .int), (Y0c, .int), (Y1c, .int), (Y2c, .int), (Y3c, .int), (Y4c, .int), (Y5c, .int)] U)) (vp_Si (fun r : Int32 => r = 0)) 0 0 (fun _ => False) := by
  refine Met.ofW (cc := cX1_tally) (maxL := 2) (ret := (some .int)) (by decide) rfl ?_
  intro p e s m args below meth c s₁ B hml hv
  obtain ⟨rfl, hP, hK⟩ := hv
  have hx := B.exec
  have hb := B.bytes
  have hr := B.returns
  have hts := atoms_spec (ws := wsX1_tally) B.pre
  have hown : s.vm.findClass RX1 = some m.cls := findClass_of_methodNamed B.named
  have hlocks := B.notSynchronized
  have hP : va_P (dC, dI) vwCl [(h, .inr (1, [.ref ro, .int 6, .ref ba, .ref ra, .ref su, .int 0, .ref tr])), (ro, .inl (cR, 6, .inr (.inr (.inr (.inr fr))))), (ba, .inl (cB, 3, .inl (fun _ => 0))), (ra, .inl (cA, 12, .inl fa)), (su, .inl (cS, 12, .inl (fun _ => 0))), (y0h, .inr (0, [.int 10, .int 6, .int 30, .int 100, .int 0, .int 0, .ref y0k, .ref y0t, .ref y0p, .ref y0m])), (y0t, .inl (Y0c, 60, .inl (fun _ => 0))), (y1h, .inr (0, [.int 10, .int 6, .int 30, .int 100, .int 0, .int 0, .ref y1k, .ref y1t, .ref y1p, .ref y1m])), (y1t, .inl (Y1c, 60, .inl (fun _ => 0))), (y2h, .inr (0, [.int 10, .int 6, .int 30, .int 100, .int 0, .int 0, .ref y2k, .ref y2t, .ref y2p, .ref y2m])), (y2t, .inl (Y2c, 60, .inl (fun _ => 0))), (y3h, .inr (0, [.int 10, .int 6, .int 30, .int 100, .int 0, .int 0, .ref y3k, .ref y3t, .ref y3p, .ref y3m])), (y3t, .inl (Y3c, 60, .inl (fun _ => 0))), (y4h, .inr (0, [.int 10, .int 6, .int 30, .int 100, .int 0, .int 0, .ref y4k, .ref y4t, .ref y4p, .ref y4m])), (y4t, .inl (Y4c, 60, .inl (fun _ => 0))), (y5h, .inr (0, [.int 10, .int 6, .int 30, .int 100, .int 0, .int 0, .ref y5k, .ref y5t, .ref y5p, .ref y5m])), (y5t, .inl (Y5c, 60, .inl (fun _ => 0)))] s.heap := hP
  have hl := lv_entry ([.ref h, .int 5]) (n := 2) (Nat.le_of_ble_eq_true rfl)
  rw [lg_entry_eq]
  generalize (lg_sl ([.ref h, .int 5]) ++ List.replicate (2 - (lg_sl ([.ref h, .int 5])).length) Slot.unset).toArray = ls at hl ⊢
  have hl : lv_has ls 2 [(0, .ref h), (1, .int 5)] := hl
  refine lv_iload_n hx hb dX1_tally_0 rfl (lv_at hl 1 rfl) ?_
  refine lv_tableIn (off := 66) (tgt := 67) hx hb dX1_tally_1 (by decide) (by decide) (by rfl) (by decide) ?_
  refine lv_aload_n hx hb dX1_tally_67 rfl (lv_at hl 0 rfl) ?_
  refine lv_iconst (v := 4) hx hb dX1_tally_68 (by decide) ?_
  have hPc := hP.sub (ws' := [(h, .inr (1, [.ref ro, .int 6, .ref ba, .ref ra, .ref su, .int 0, .ref tr])), (ro, .inl (cR, 6, .inr (.inr (.inr (.inr fr))))), (y0h, .inr (0, [.int 10, .int 6, .int 30, .int 100, .int 0, .int 0, .ref y0k, .ref y0t, .ref y0p, .ref y0m])), (y0t, .inl (Y0c, 60, .inl (fun _ => 0))), (y1h, .inr (0, [.int 10, .int 6, .int 30, .int 100, .int 0, .int 0, .ref y1k, .ref y1t, .ref y1p, .ref y1m])), (y1t, .inl (Y1c, 60, .inl (fun _ => 0))), (y2h, .inr (0, [.int 10, .int 6, .int 30, .int 100, .int 0, .int 0, .ref y2k, .ref y2t, .ref y2p, .ref y2m])), (y2t, .inl (Y2c, 60, .inl (fun _ => 0))), (y3h, .inr (0, [.int 10, .int 6, .int 30, .int 100, .int 0, .int 0, .ref y3k, .ref y3t, .ref y3p, .ref y3m])), (y3t, .inl (Y3c, 60, .inl (fun _ => 0))), (y4h, .inr (0, [.int 10, .int 6, .int 30, .int 100, .int 0, .int 0, .ref y4k, .ref y4t, .ref y4p, .ref y4m])), (y4t, .inl (Y4c, 60, .inl (fun _ => 0))), (y5h, .inr (0, [.int 10, .int 6, .int 30, .int 100, .int 0, .int 0, .ref y5k, .ref y5t, .ref y5p, .ref y5m])), (y5t, .inl (Y5c, 60, .inl (fun _ => 0)))]) [0, 1, 5, 6, 7, 8, 9, 10, 11, 12, 13, 14, 15, 16] rfl
  have hKc := hK.sub (tys' := [(cR, .object RX0), (Y0c, .int), (Y1c, .int), (Y2c, .int), (Y3c, .int), (Y4c, .int), (Y5c, .int)]) [0, 4, 5, 6, 7, 8, 9] rfl
  refine vp_callSi (va_runV (As := [.int 4]) (rest := []) ⟨hx, hb, hml, hown, hts⟩ (r1_tallyOfRoofs4 l dC dI h ro ba ra su tr cR fr y0h y0k y0t y0p y0m Y0c y1h y1k y1t y1p y1m Y1c y2h y2k y2t y2p y2m Y2c y3h y3k y3t y3p y3m Y3c y4h y4k y4t y4p y4m Y4c y5h y5k y5t y5p y5m Y5c (by first | assumption | decide | omega) (by first | assumption | decide | omega) (by first | assumption | decide | omega) (by first | assumption | decide | omega) (by first | assumption | decide | omega) (by first | assumption | decide | omega)) (cwV 1 hts gX1_tally_X1_tallyOfRoofs rfl rfl rfl (by decide +kernel) ⟨Nat.le_of_ble_eq_true rfl, Nat.le_of_ble_eq_true rfl⟩) ⟨fun a U g mk q => by obtain ⟨q0, qP, qK⟩ := q; exact ⟨q0, qP, va_K.moved (u := U) (U := U.calling g mk a) (Vm.Alike.refl U.vm) qK⟩, va_recv hKc hPc (ci := 1) (q0 := 0) rfl rfl, fun U hU hW => ⟨rfl, by rw [hU]; exact hPc, va_K.moved hW.alike hKc⟩⟩ rfl rfl hl.1 rfl (lv_room (Nat.le_of_ble_eq_true rfl)) dX1_tally_69 ⟨Nat.le_of_ble_eq_true rfl, Nat.le_of_ble_eq_true rfl⟩).run (fun r1 hr1 => ?_)
  obtain rfl := hr1
  exact W.iret (v := 0) hx hb hr (fun t ht hW => ⟨0, rfl, by (first | rfl | assumption | decide | (simp_all; done) | grind), ht⟩) (fun _ h => nomatch h) dX1_tally_72

set_option maxHeartbeats 4000000 in
set_option maxRecDepth 100000 in
theorem r1_tally6 (l : Launch) (dC : Nat → ClassId) (dI : Nat → Nat → Nat) (h : Nat) (ro : Nat) (ba : Nat) (ra : Nat) (su : Nat) (tr : Nat) (cR : ClassId) (fr : Nat → Option Nat) (cB : ClassId) (cA : ClassId) (fa : Nat → Int32) (cS : ClassId) (y0h : Nat) (y0k : Nat) (y0t : Nat) (y0p : Nat) (y0m : Nat) (Y0c : ClassId) (y1h : Nat) (y1k : Nat) (y1t : Nat) (y1p : Nat) (y1m : Nat) (Y1c : ClassId) (y2h : Nat) (y2k : Nat) (y2t : Nat) (y2p : Nat) (y2m : Nat) (Y2c : ClassId) (y3h : Nat) (y3k : Nat) (y3t : Nat) (y3p : Nat) (y3m : Nat) (Y3c : ClassId) (y4h : Nat) (y4k : Nat) (y4t : Nat) (y4p : Nat) (y4m : Nat) (Y4c : ClassId) (y5h : Nat) (y5k : Nat) (y5t : Nat) (y5p : Nat) (y5m : Nat) (Y5c : ClassId) (hy0 : fr 0 = some y0h) (hy1 : fr 1 = some y1h) (hy2 : fr 2 = some y2h) (hy3 : fr 3 = some y3h) (hy4 : fr 4 = some y4h) (hy5 : fr 5 = some y5h) (hra : ∀ j : Nat, j < 12 → fa j = 4) : Met l yX1_tally wsX1_tally ({ frames := 5, cells := 0, slots := 0, locals := 112 }) (va_Pc [.ref h, .int 6] (fun U => va_P (dC, dI) vwCl [(h, .inr (1, [.ref ro, .int 6, .ref ba, .ref ra, .ref su, .int 0, .ref tr])), (ro, .inl (cR, 6, .inr (.inr (.inr (.inr fr))))), (ba, .inl (cB, 3, .inl (fun _ => 0))), (ra, .inl (cA, 12, .inl fa)), (su, .inl (cS, 12, .inl (fun _ => 0))), (y0h, .inr (0, [.int 10, .int 6, .int 30, .int 100, .int 0, .int 0, .ref y0k, .ref y0t, .ref y0p, .ref y0m])), (y0t, .inl (Y0c, 60, .inl (fun _ => 0))), (y1h, .inr (0, [.int 10, .int 6, .int 30, .int 100, .int 0, .int 0, .ref y1k, .ref y1t, .ref y1p, .ref y1m])), (y1t, .inl (Y1c, 60, .inl (fun _ => 0))), (y2h, .inr (0, [.int 10, .int 6, .int 30, .int 100, .int 0, .int 0, .ref y2k, .ref y2t, .ref y2p, .ref y2m])), (y2t, .inl (Y2c, 60, .inl (fun _ => 0))), (y3h, .inr (0, [.int 10, .int 6, .int 30, .int 100, .int 0, .int 0, .ref y3k, .ref y3t, .ref y3p, .ref y3m])), (y3t, .inl (Y3c, 60, .inl (fun _ => 0))), (y4h, .inr (0, [.int 10, .int 6, .int 30, .int 100, .int 0, .int 0, .ref y4k, .ref y4t, .ref y4p, .ref y4m])), (y4t, .inl (Y4c, 60, .inl (fun _ => 0))), (y5h, .inr (0, [.int 10, .int 6, .int 30, .int 100, .int 0, .int 0, .ref y5k, .ref y5t, .ref y5p, .ref y5m])), (y5t, .inl (Y5c, 60, .inl (fun _ => 0)))] U.heap ∧ va_K (dC, dI) vwCl [(cR, .object RX0), (cB, .int), (cA, .int), (cS, .int), (Y0c, .int), (Y1c, .int), (Y2c, .int), (Y3c, .int), (Y4c, .int), (Y5c, .int)] U)) (vp_Si (fun r : Int32 => r = 60)) 0 0 (fun _ => False) := by
  refine Met.ofW (cc := cX1_tally) (maxL := 2) (ret := (some .int)) (by decide) rfl ?_
  intro p e s m args below meth c s₁ B hml hv
  obtain ⟨rfl, hP, hK⟩ := hv
  have hx := B.exec
  have hb := B.bytes
  have hr := B.returns
  have hts := atoms_spec (ws := wsX1_tally) B.pre
  have hown : s.vm.findClass RX1 = some m.cls := findClass_of_methodNamed B.named
  have hlocks := B.notSynchronized
  have hP : va_P (dC, dI) vwCl [(h, .inr (1, [.ref ro, .int 6, .ref ba, .ref ra, .ref su, .int 0, .ref tr])), (ro, .inl (cR, 6, .inr (.inr (.inr (.inr fr))))), (ba, .inl (cB, 3, .inl (fun _ => 0))), (ra, .inl (cA, 12, .inl fa)), (su, .inl (cS, 12, .inl (fun _ => 0))), (y0h, .inr (0, [.int 10, .int 6, .int 30, .int 100, .int 0, .int 0, .ref y0k, .ref y0t, .ref y0p, .ref y0m])), (y0t, .inl (Y0c, 60, .inl (fun _ => 0))), (y1h, .inr (0, [.int 10, .int 6, .int 30, .int 100, .int 0, .int 0, .ref y1k, .ref y1t, .ref y1p, .ref y1m])), (y1t, .inl (Y1c, 60, .inl (fun _ => 0))), (y2h, .inr (0, [.int 10, .int 6, .int 30, .int 100, .int 0, .int 0, .ref y2k, .ref y2t, .ref y2p, .ref y2m])), (y2t, .inl (Y2c, 60, .inl (fun _ => 0))), (y3h, .inr (0, [.int 10, .int 6, .int 30, .int 100, .int 0, .int 0, .ref y3k, .ref y3t, .ref y3p, .ref y3m])), (y3t, .inl (Y3c, 60, .inl (fun _ => 0))), (y4h, .inr (0, [.int 10, .int 6, .int 30, .int 100, .int 0, .int 0, .ref y4k, .ref y4t, .ref y4p, .ref y4m])), (y4t, .inl (Y4c, 60, .inl (fun _ => 0))), (y5h, .inr (0, [.int 10, .int 6, .int 30, .int 100, .int 0, .int 0, .ref y5k, .ref y5t, .ref y5p, .ref y5m])), (y5t, .inl (Y5c, 60, .inl (fun _ => 0)))] s.heap := hP
  have hl := lv_entry ([.ref h, .int 6]) (n := 2) (Nat.le_of_ble_eq_true rfl)
  rw [lg_entry_eq]
  generalize (lg_sl ([.ref h, .int 6]) ++ List.replicate (2 - (lg_sl ([.ref h, .int 6])).length) Slot.unset).toArray = ls at hl ⊢
  have hl : lv_has ls 2 [(0, .ref h), (1, .int 6)] := hl
  refine lv_iload_n hx hb dX1_tally_0 rfl (lv_at hl 1 rfl) ?_
  refine lv_tableIn (off := 72) (tgt := 73) hx hb dX1_tally_1 (by decide) (by decide) (by rfl) (by decide) ?_
  refine lv_aload_n hx hb dX1_tally_73 rfl (lv_at hl 0 rfl) ?_
  refine lv_bipush (v := 6) hx hb dX1_tally_74 (by decide) ?_
  have hPc := hP.sub (ws' := [(h, .inr (1, [.ref ro, .int 6, .ref ba, .ref ra, .ref su, .int 0, .ref tr])), (ro, .inl (cR, 6, .inr (.inr (.inr (.inr fr))))), (y0h, .inr (0, [.int 10, .int 6, .int 30, .int 100, .int 0, .int 0, .ref y0k, .ref y0t, .ref y0p, .ref y0m])), (y0t, .inl (Y0c, 60, .inl (fun _ => 0))), (y1h, .inr (0, [.int 10, .int 6, .int 30, .int 100, .int 0, .int 0, .ref y1k, .ref y1t, .ref y1p, .ref y1m])), (y1t, .inl (Y1c, 60, .inl (fun _ => 0))), (y2h, .inr (0, [.int 10, .int 6, .int 30, .int 100, .int 0, .int 0, .ref y2k, .ref y2t, .ref y2p, .ref y2m])), (y2t, .inl (Y2c, 60, .inl (fun _ => 0))), (y3h, .inr (0, [.int 10, .int 6, .int 30, .int 100, .int 0, .int 0, .ref y3k, .ref y3t, .ref y3p, .ref y3m])), (y3t, .inl (Y3c, 60, .inl (fun _ => 0))), (y4h, .inr (0, [.int 10, .int 6, .int 30, .int 100, .int 0, .int 0, .ref y4k, .ref y4t, .ref y4p, .ref y4m])), (y4t, .inl (Y4c, 60, .inl (fun _ => 0))), (y5h, .inr (0, [.int 10, .int 6, .int 30, .int 100, .int 0, .int 0, .ref y5k, .ref y5t, .ref y5p, .ref y5m])), (y5t, .inl (Y5c, 60, .inl (fun _ => 0)))]) [0, 1, 5, 6, 7, 8, 9, 10, 11, 12, 13, 14, 15, 16] rfl
  have hKc := hK.sub (tys' := [(cR, .object RX0), (Y0c, .int), (Y1c, .int), (Y2c, .int), (Y3c, .int), (Y4c, .int), (Y5c, .int)]) [0, 4, 5, 6, 7, 8, 9] rfl
  refine vp_callSi (va_runV (As := [.int 6]) (rest := []) ⟨hx, hb, hml, hown, hts⟩ (r1_tallyOfRoofs6 l dC dI h ro ba ra su tr cR fr y0h y0k y0t y0p y0m Y0c y1h y1k y1t y1p y1m Y1c y2h y2k y2t y2p y2m Y2c y3h y3k y3t y3p y3m Y3c y4h y4k y4t y4p y4m Y4c y5h y5k y5t y5p y5m Y5c (by first | assumption | decide | omega) (by first | assumption | decide | omega) (by first | assumption | decide | omega) (by first | assumption | decide | omega) (by first | assumption | decide | omega) (by first | assumption | decide | omega)) (cwV 1 hts gX1_tally_X1_tallyOfRoofs rfl rfl rfl (by decide +kernel) ⟨Nat.le_of_ble_eq_true rfl, Nat.le_of_ble_eq_true rfl⟩) ⟨fun a U g mk q => by obtain ⟨q0, qP, qK⟩ := q; exact ⟨q0, qP, va_K.moved (u := U) (U := U.calling g mk a) (Vm.Alike.refl U.vm) qK⟩, va_recv hKc hPc (ci := 1) (q0 := 0) rfl rfl, fun U hU hW => ⟨rfl, by rw [hU]; exact hPc, va_K.moved hW.alike hKc⟩⟩ rfl rfl hl.1 rfl (lv_room (Nat.le_of_ble_eq_true rfl)) dX1_tally_76 ⟨Nat.le_of_ble_eq_true rfl, Nat.le_of_ble_eq_true rfl⟩).run (fun r1 hr1 => ?_)
  obtain rfl := hr1
  exact W.iret (v := 60) hx hb hr (fun t ht hW => ⟨60, rfl, by (first | rfl | assumption | decide | (simp_all; done) | grind), ht⟩) (fun _ h => nomatch h) dX1_tally_79

set_option maxHeartbeats 4000000 in
set_option maxRecDepth 100000 in
theorem r1_tally7 (l : Launch) (dC : Nat → ClassId) (dI : Nat → Nat → Nat) (h : Nat) (ro : Nat) (ba : Nat) (ra : Nat) (su : Nat) (tr : Nat) (cR : ClassId) (fr : Nat → Option Nat) (cB : ClassId) (cA : ClassId) (fa : Nat → Int32) (cS : ClassId) (y0h : Nat) (y0k : Nat) (y0t : Nat) (y0p : Nat) (y0m : Nat) (Y0c : ClassId) (y1h : Nat) (y1k : Nat) (y1t : Nat) (y1p : Nat) (y1m : Nat) (Y1c : ClassId) (y2h : Nat) (y2k : Nat) (y2t : Nat) (y2p : Nat) (y2m : Nat) (Y2c : ClassId) (y3h : Nat) (y3k : Nat) (y3t : Nat) (y3p : Nat) (y3m : Nat) (Y3c : ClassId) (y4h : Nat) (y4k : Nat) (y4t : Nat) (y4p : Nat) (y4m : Nat) (Y4c : ClassId) (y5h : Nat) (y5k : Nat) (y5t : Nat) (y5p : Nat) (y5m : Nat) (Y5c : ClassId) (hy0 : fr 0 = some y0h) (hy1 : fr 1 = some y1h) (hy2 : fr 2 = some y2h) (hy3 : fr 3 = some y3h) (hy4 : fr 4 = some y4h) (hy5 : fr 5 = some y5h) (hra : ∀ j : Nat, j < 12 → fa j = 4) : Met l yX1_tally wsX1_tally ({ frames := 3, cells := 0, slots := 0, locals := 64 }) (va_Pc [.ref h, .int 7] (fun U => va_P (dC, dI) vwCl [(h, .inr (1, [.ref ro, .int 6, .ref ba, .ref ra, .ref su, .int 0, .ref tr])), (ro, .inl (cR, 6, .inr (.inr (.inr (.inr fr))))), (ba, .inl (cB, 3, .inl (fun _ => 0))), (ra, .inl (cA, 12, .inl fa)), (su, .inl (cS, 12, .inl (fun _ => 0))), (y0h, .inr (0, [.int 10, .int 6, .int 30, .int 100, .int 0, .int 0, .ref y0k, .ref y0t, .ref y0p, .ref y0m])), (y0t, .inl (Y0c, 60, .inl (fun _ => 0))), (y1h, .inr (0, [.int 10, .int 6, .int 30, .int 100, .int 0, .int 0, .ref y1k, .ref y1t, .ref y1p, .ref y1m])), (y1t, .inl (Y1c, 60, .inl (fun _ => 0))), (y2h, .inr (0, [.int 10, .int 6, .int 30, .int 100, .int 0, .int 0, .ref y2k, .ref y2t, .ref y2p, .ref y2m])), (y2t, .inl (Y2c, 60, .inl (fun _ => 0))), (y3h, .inr (0, [.int 10, .int 6, .int 30, .int 100, .int 0, .int 0, .ref y3k, .ref y3t, .ref y3p, .ref y3m])), (y3t, .inl (Y3c, 60, .inl (fun _ => 0))), (y4h, .inr (0, [.int 10, .int 6, .int 30, .int 100, .int 0, .int 0, .ref y4k, .ref y4t, .ref y4p, .ref y4m])), (y4t, .inl (Y4c, 60, .inl (fun _ => 0))), (y5h, .inr (0, [.int 10, .int 6, .int 30, .int 100, .int 0, .int 0, .ref y5k, .ref y5t, .ref y5p, .ref y5m])), (y5t, .inl (Y5c, 60, .inl (fun _ => 0)))] U.heap ∧ va_K (dC, dI) vwCl [(cR, .object RX0), (cB, .int), (cA, .int), (cS, .int), (Y0c, .int), (Y1c, .int), (Y2c, .int), (Y3c, .int), (Y4c, .int), (Y5c, .int)] U)) (vp_Si (fun r : Int32 => r = 4)) 0 0 (fun _ => False) := by
  refine Met.ofW (cc := cX1_tally) (maxL := 2) (ret := (some .int)) (by decide) rfl ?_
  intro p e s m args below meth c s₁ B hml hv
  obtain ⟨rfl, hP, hK⟩ := hv
  have hx := B.exec
  have hb := B.bytes
  have hr := B.returns
  have hts := atoms_spec (ws := wsX1_tally) B.pre
  have hown : s.vm.findClass RX1 = some m.cls := findClass_of_methodNamed B.named
  have hlocks := B.notSynchronized
  have hP : va_P (dC, dI) vwCl [(h, .inr (1, [.ref ro, .int 6, .ref ba, .ref ra, .ref su, .int 0, .ref tr])), (ro, .inl (cR, 6, .inr (.inr (.inr (.inr fr))))), (ba, .inl (cB, 3, .inl (fun _ => 0))), (ra, .inl (cA, 12, .inl fa)), (su, .inl (cS, 12, .inl (fun _ => 0))), (y0h, .inr (0, [.int 10, .int 6, .int 30, .int 100, .int 0, .int 0, .ref y0k, .ref y0t, .ref y0p, .ref y0m])), (y0t, .inl (Y0c, 60, .inl (fun _ => 0))), (y1h, .inr (0, [.int 10, .int 6, .int 30, .int 100, .int 0, .int 0, .ref y1k, .ref y1t, .ref y1p, .ref y1m])), (y1t, .inl (Y1c, 60, .inl (fun _ => 0))), (y2h, .inr (0, [.int 10, .int 6, .int 30, .int 100, .int 0, .int 0, .ref y2k, .ref y2t, .ref y2p, .ref y2m])), (y2t, .inl (Y2c, 60, .inl (fun _ => 0))), (y3h, .inr (0, [.int 10, .int 6, .int 30, .int 100, .int 0, .int 0, .ref y3k, .ref y3t, .ref y3p, .ref y3m])), (y3t, .inl (Y3c, 60, .inl (fun _ => 0))), (y4h, .inr (0, [.int 10, .int 6, .int 30, .int 100, .int 0, .int 0, .ref y4k, .ref y4t, .ref y4p, .ref y4m])), (y4t, .inl (Y4c, 60, .inl (fun _ => 0))), (y5h, .inr (0, [.int 10, .int 6, .int 30, .int 100, .int 0, .int 0, .ref y5k, .ref y5t, .ref y5p, .ref y5m])), (y5t, .inl (Y5c, 60, .inl (fun _ => 0)))] s.heap := hP
  have hl := lv_entry ([.ref h, .int 7]) (n := 2) (Nat.le_of_ble_eq_true rfl)
  rw [lg_entry_eq]
  generalize (lg_sl ([.ref h, .int 7]) ++ List.replicate (2 - (lg_sl ([.ref h, .int 7])).length) Slot.unset).toArray = ls at hl ⊢
  have hl : lv_has ls 2 [(0, .ref h), (1, .int 7)] := hl
  refine lv_iload_n hx hb dX1_tally_0 rfl (lv_at hl 1 rfl) ?_
  refine lv_tableIn (off := 79) (tgt := 80) hx hb dX1_tally_1 (by decide) (by decide) (by rfl) (by decide) ?_
  refine lv_aload_n hx hb dX1_tally_80 rfl (lv_at hl 0 rfl) ?_
  refine lv_iconst (v := 0) hx hb dX1_tally_81 (by decide) ?_
  have hPc := hP.sub (ws' := [(h, .inr (1, [.ref ro, .int 6, .ref ba, .ref ra, .ref su, .int 0, .ref tr])), (ra, .inl (cA, 12, .inl fa))]) [0, 3] rfl
  have hKc := hK.sub (tys' := [(cA, .int)]) [2] rfl
  refine vp_callSi (va_runV (As := [.int 0]) (rest := []) ⟨hx, hb, hml, hown, hts⟩ (r1_rainAhead l dC dI h ro ba ra su tr cA fa (by first | assumption | decide | omega)) (cwV 1 hts gX1_tally_X1_rainAhead rfl rfl rfl (by decide +kernel) ⟨Nat.le_of_ble_eq_true rfl, Nat.le_of_ble_eq_true rfl⟩) ⟨fun a U g mk q => by obtain ⟨q0, qP, qK⟩ := q; exact ⟨q0, qP, va_K.moved (u := U) (U := U.calling g mk a) (Vm.Alike.refl U.vm) qK⟩, va_recv hKc hPc (ci := 1) (q0 := 0) rfl rfl, fun U hU hW => ⟨rfl, by rw [hU]; exact hPc, va_K.moved hW.alike hKc⟩⟩ rfl rfl hl.1 rfl (lv_room (Nat.le_of_ble_eq_true rfl)) dX1_tally_82 ⟨Nat.le_of_ble_eq_true rfl, Nat.le_of_ble_eq_true rfl⟩).run (fun r1 hr1 => ?_)
  obtain rfl := hr1
  exact W.iret (v := 4) hx hb hr (fun t ht hW => ⟨4, rfl, by (first | rfl | assumption | decide | (simp_all; done) | grind), ht⟩) (fun _ h => nomatch h) dX1_tally_85

set_option maxHeartbeats 4000000 in
set_option maxRecDepth 100000 in
theorem r1_tally8 (l : Launch) (dC : Nat → ClassId) (dI : Nat → Nat → Nat) (h : Nat) (ro : Nat) (ba : Nat) (ra : Nat) (su : Nat) (tr : Nat) (cR : ClassId) (fr : Nat → Option Nat) (cB : ClassId) (cA : ClassId) (fa : Nat → Int32) (cS : ClassId) (y0h : Nat) (y0k : Nat) (y0t : Nat) (y0p : Nat) (y0m : Nat) (Y0c : ClassId) (y1h : Nat) (y1k : Nat) (y1t : Nat) (y1p : Nat) (y1m : Nat) (Y1c : ClassId) (y2h : Nat) (y2k : Nat) (y2t : Nat) (y2p : Nat) (y2m : Nat) (Y2c : ClassId) (y3h : Nat) (y3k : Nat) (y3t : Nat) (y3p : Nat) (y3m : Nat) (Y3c : ClassId) (y4h : Nat) (y4k : Nat) (y4t : Nat) (y4p : Nat) (y4m : Nat) (Y4c : ClassId) (y5h : Nat) (y5k : Nat) (y5t : Nat) (y5p : Nat) (y5m : Nat) (Y5c : ClassId) (hy0 : fr 0 = some y0h) (hy1 : fr 1 = some y1h) (hy2 : fr 2 = some y2h) (hy3 : fr 3 = some y3h) (hy4 : fr 4 = some y4h) (hy5 : fr 5 = some y5h) (hra : ∀ j : Nat, j < 12 → fa j = 4) : Met l yX1_tally wsX1_tally ({ frames := 3, cells := 0, slots := 0, locals := 64 }) (va_Pc [.ref h, .int 8] (fun U => va_P (dC, dI) vwCl [(h, .inr (1, [.ref ro, .int 6, .ref ba, .ref ra, .ref su, .int 0, .ref tr])), (ro, .inl (cR, 6, .inr (.inr (.inr (.inr fr))))), (ba, .inl (cB, 3, .inl (fun _ => 0))), (ra, .inl (cA, 12, .inl fa)), (su, .inl (cS, 12, .inl (fun _ => 0))), (y0h, .inr (0, [.int 10, .int 6, .int 30, .int 100, .int 0, .int 0, .ref y0k, .ref y0t, .ref y0p, .ref y0m])), (y0t, .inl (Y0c, 60, .inl (fun _ => 0))), (y1h, .inr (0, [.int 10, .int 6, .int 30, .int 100, .int 0, .int 0, .ref y1k, .ref y1t, .ref y1p, .ref y1m])), (y1t, .inl (Y1c, 60, .inl (fun _ => 0))), (y2h, .inr (0, [.int 10, .int 6, .int 30, .int 100, .int 0, .int 0, .ref y2k, .ref y2t, .ref y2p, .ref y2m])), (y2t, .inl (Y2c, 60, .inl (fun _ => 0))), (y3h, .inr (0, [.int 10, .int 6, .int 30, .int 100, .int 0, .int 0, .ref y3k, .ref y3t, .ref y3p, .ref y3m])), (y3t, .inl (Y3c, 60, .inl (fun _ => 0))), (y4h, .inr (0, [.int 10, .int 6, .int 30, .int 100, .int 0, .int 0, .ref y4k, .ref y4t, .ref y4p, .ref y4m])), (y4t, .inl (Y4c, 60, .inl (fun _ => 0))), (y5h, .inr (0, [.int 10, .int 6, .int 30, .int 100, .int 0, .int 0, .ref y5k, .ref y5t, .ref y5p, .ref y5m])), (y5t, .inl (Y5c, 60, .inl (fun _ => 0)))] U.heap ∧ va_K (dC, dI) vwCl [(cR, .object RX0), (cB, .int), (cA, .int), (cS, .int), (Y0c, .int), (Y1c, .int), (Y2c, .int), (Y3c, .int), (Y4c, .int), (Y5c, .int)] U)) (vp_Si (fun r : Int32 => r = 0)) 0 0 (fun _ => False) := by
  refine Met.ofW (cc := cX1_tally) (maxL := 2) (ret := (some .int)) (by decide) rfl ?_
  intro p e s m args below meth c s₁ B hml hv
  obtain ⟨rfl, hP, hK⟩ := hv
  have hx := B.exec
  have hb := B.bytes
  have hr := B.returns
  have hts := atoms_spec (ws := wsX1_tally) B.pre
  have hown : s.vm.findClass RX1 = some m.cls := findClass_of_methodNamed B.named
  have hlocks := B.notSynchronized
  have hP : va_P (dC, dI) vwCl [(h, .inr (1, [.ref ro, .int 6, .ref ba, .ref ra, .ref su, .int 0, .ref tr])), (ro, .inl (cR, 6, .inr (.inr (.inr (.inr fr))))), (ba, .inl (cB, 3, .inl (fun _ => 0))), (ra, .inl (cA, 12, .inl fa)), (su, .inl (cS, 12, .inl (fun _ => 0))), (y0h, .inr (0, [.int 10, .int 6, .int 30, .int 100, .int 0, .int 0, .ref y0k, .ref y0t, .ref y0p, .ref y0m])), (y0t, .inl (Y0c, 60, .inl (fun _ => 0))), (y1h, .inr (0, [.int 10, .int 6, .int 30, .int 100, .int 0, .int 0, .ref y1k, .ref y1t, .ref y1p, .ref y1m])), (y1t, .inl (Y1c, 60, .inl (fun _ => 0))), (y2h, .inr (0, [.int 10, .int 6, .int 30, .int 100, .int 0, .int 0, .ref y2k, .ref y2t, .ref y2p, .ref y2m])), (y2t, .inl (Y2c, 60, .inl (fun _ => 0))), (y3h, .inr (0, [.int 10, .int 6, .int 30, .int 100, .int 0, .int 0, .ref y3k, .ref y3t, .ref y3p, .ref y3m])), (y3t, .inl (Y3c, 60, .inl (fun _ => 0))), (y4h, .inr (0, [.int 10, .int 6, .int 30, .int 100, .int 0, .int 0, .ref y4k, .ref y4t, .ref y4p, .ref y4m])), (y4t, .inl (Y4c, 60, .inl (fun _ => 0))), (y5h, .inr (0, [.int 10, .int 6, .int 30, .int 100, .int 0, .int 0, .ref y5k, .ref y5t, .ref y5p, .ref y5m])), (y5t, .inl (Y5c, 60, .inl (fun _ => 0)))] s.heap := hP
  have hl := lv_entry ([.ref h, .int 8]) (n := 2) (Nat.le_of_ble_eq_true rfl)
  rw [lg_entry_eq]
  generalize (lg_sl ([.ref h, .int 8]) ++ List.replicate (2 - (lg_sl ([.ref h, .int 8])).length) Slot.unset).toArray = ls at hl ⊢
  have hl : lv_has ls 2 [(0, .ref h), (1, .int 8)] := hl
  refine lv_iload_n hx hb dX1_tally_0 rfl (lv_at hl 1 rfl) ?_
  refine lv_tableOut (tgt := 86) hx hb dX1_tally_1 (by decide) (by decide) ?_
  refine lv_aload_n hx hb dX1_tally_86 rfl (lv_at hl 0 rfl) ?_
  refine lv_iconst (v := 0) hx hb dX1_tally_87 (by decide) ?_
  have hPc := hP.sub (ws' := [(h, .inr (1, [.ref ro, .int 6, .ref ba, .ref ra, .ref su, .int 0, .ref tr])), (su, .inl (cS, 12, .inl (fun _ => 0)))]) [0, 4] rfl
  have hKc := hK.sub (tys' := [(cS, .int)]) [3] rfl
  refine vp_callSi (va_runV (As := [.int 0]) (rest := []) ⟨hx, hb, hml, hown, hts⟩ (r1_stormAhead l dC dI h ro ba ra su tr cS ) (cwV 1 hts gX1_tally_X1_stormAhead rfl rfl rfl (by decide +kernel) ⟨Nat.le_of_ble_eq_true rfl, Nat.le_of_ble_eq_true rfl⟩) ⟨fun a U g mk q => by obtain ⟨q0, qP, qK⟩ := q; exact ⟨q0, qP, va_K.moved (u := U) (U := U.calling g mk a) (Vm.Alike.refl U.vm) qK⟩, va_recv hKc hPc (ci := 1) (q0 := 0) rfl rfl, fun U hU hW => ⟨rfl, by rw [hU]; exact hPc, va_K.moved hW.alike hKc⟩⟩ rfl rfl hl.1 rfl (lv_room (Nat.le_of_ble_eq_true rfl)) dX1_tally_88 ⟨Nat.le_of_ble_eq_true rfl, Nat.le_of_ble_eq_true rfl⟩).run (fun r1 hr1 => ?_)
  obtain rfl := hr1
  exact W.iret (v := 0) hx hb hr (fun t ht hW => ⟨0, rfl, by (first | rfl | assumption | decide | (simp_all; done) | grind), ht⟩) (fun _ h => nomatch h) dX1_tally_91

set_option maxHeartbeats 4000000 in
set_option maxRecDepth 100000 in
theorem r1_digestRoof (l : Launch) (dC : Nat → ClassId) (dI : Nat → Nat → Nat) (rh : Nat) (rk : Nat) (rt : Nat) (rp : Nat) (rm : Nat) (cT : ClassId) (d0 : Int64) : Met l yX1_digestRoof wsX1_digestRoof ({ frames := 4, cells := 0, slots := 0, locals := 88 }) (va_Pc [.ref rh, .long d0] (fun U => va_P (dC, dI) vwCl [(rh, .inr (0, [.int 10, .int 6, .int 30, .int 100, .int 0, .int 0, .ref rk, .ref rt, .ref rp, .ref rm])), (rt, .inl (cT, 60, .inl (fun _ => 0)))] U.heap ∧ va_K (dC, dI) vwCl [(cT, .int)] U)) (vp_Sl (fun r : Int64 => r = zz_rf d0)) 0 0 (fun _ => False) := by
  refine Met.ofW (cc := cX1_digestRoof) (maxL := 8) (ret := (some .long)) (by decide) rfl ?_
  intro p e s m args below meth c s₁ B hml hv
  obtain ⟨rfl, hP, hK⟩ := hv
  have hx := B.exec
  have hb := B.bytes
  have hr := B.returns
  have hts := atoms_spec (ws := wsX1_digestRoof) B.pre
  have hown : s.vm.findClass RX1 = some m.cls := findClass_of_methodNamed B.named
  have hlocks := B.notSynchronized
  have hP : va_P (dC, dI) vwCl [(rh, .inr (0, [.int 10, .int 6, .int 30, .int 100, .int 0, .int 0, .ref rk, .ref rt, .ref rp, .ref rm])), (rt, .inl (cT, 60, .inl (fun _ => 0)))] s.heap := hP
  have hl := lv_entry ([.ref rh, .long d0]) (n := 8) (Nat.le_of_ble_eq_true rfl)
  rw [lg_entry_eq]
  generalize (lg_sl ([.ref rh, .long d0]) ++ List.replicate (8 - (lg_sl ([.ref rh, .long d0])).length) Slot.unset).toArray = ls at hl ⊢
  have hl : lv_has ls 8 [(0, .ref rh), (1, .long d0)] := hl
  refine lv_lload_n hx hb dX1_digestRoof_0 rfl (lv_at hl 1 rfl) ?_
  refine lv_lstore_n (lv' := [(3, .long d0), (0, .ref rh), (1, .long d0)]) hx hb dX1_digestRoof_1 rfl hl (by decide) rfl (fun ls hl => ?_)
  refine lv_iconst (v := 0) hx hb dX1_digestRoof_2 (by decide) ?_
  refine lv_istore (lv' := [(5, .int 0), (3, .long d0), (0, .ref rh), (1, .long d0)]) hx hb dX1_digestRoof_3 hl (by decide) rfl (fun ls hl => ?_)
  refine lv_iload hx hb dX1_digestRoof_5 (lv_at hl 0 rfl) ?_
  refine lv_bipush (v := 9) hx hb dX1_digestRoof_7 (by decide) ?_
  refine lv_icmp_ge (tgt := 32) hx hb dX1_digestRoof_9 (by decide) (fun c1 => absurd c1 (by decide)) (fun c1 => ?_)
  refine lv_lload_n hx hb dX1_digestRoof_12 rfl (lv_at hl 1 rfl) ?_
  refine lv_ldc2 (v := 31) hx hb hown (hts (.constantLong RX1 199 31) (by decide +kernel)) dX1_digestRoof_13 ?_
  refine lv_lmul hx hb dX1_digestRoof_16 ?_
  refine lv_topl (fun w2 ew2 => ?_)
  refine lv_aload_n hx hb dX1_digestRoof_17 rfl (lv_at hl 2 rfl) ?_
  refine lv_iload hx hb dX1_digestRoof_18 (lv_at hl 0 rfl) ?_
  have hPc := hP.sub (ws' := [(rh, .inr (0, [.int 10, .int 6, .int 30, .int 100, .int 0, .int 0, .ref rk, .ref rt, .ref rp, .ref rm])), (rt, .inl (cT, 60, .inl (fun _ => 0)))]) [0, 1] rfl
  have hKc := hK.sub (tys' := [(cT, .int)]) [0] rfl
  refine vp_callSi (va_runV (As := [.int 0]) (rest := [.long w2]) ⟨hx, hb, hml, hown, hts⟩ (r0_tell0 l dC dI rh rk rt rp rm cT ) (cwV 1 hts gX1_digestRoof_X0_tell rfl rfl rfl (by decide +kernel) ⟨Nat.le_of_ble_eq_true rfl, Nat.le_of_ble_eq_true rfl⟩) ⟨fun a U g mk q => by obtain ⟨q0, qP, qK⟩ := q; exact ⟨q0, qP, va_K.moved (u := U) (U := U.calling g mk a) (Vm.Alike.refl U.vm) qK⟩, va_recv hKc hPc (ci := 0) (q0 := 0) rfl rfl, fun U hU hW => ⟨rfl, by rw [hU]; exact hPc, va_K.moved hW.alike hKc⟩⟩ rfl rfl hl.1 rfl (lv_room (Nat.le_of_ble_eq_true rfl)) dX1_digestRoof_20 ⟨Nat.le_of_ble_eq_true rfl, Nat.le_of_ble_eq_true rfl⟩).run (fun r3 hr3 => ?_)
  obtain rfl := hr3
  refine lv_i2l (v := 10) hx hb dX1_digestRoof_23 (by first | rfl | decide) ?_
  refine lv_ladd hx hb dX1_digestRoof_24 ?_
  refine lv_topl (fun w4 ew4 => ?_)
  refine lv_lstore_n (lv' := [(3, .long w4), (5, .int 0), (0, .ref rh), (1, .long d0)]) hx hb dX1_digestRoof_25 rfl hl (by decide) rfl (fun ls hl => ?_)
  refine lv_iinc (v := 1) (lv' := [(5, .int 1), (3, .long w4), (0, .ref rh), (1, .long d0)]) hx hb dX1_digestRoof_26 hl (k := 1) rfl (by decide) (by decide) rfl (fun ls hl => ?_)
  refine lv_goto (tgt := 5) hx hb dX1_digestRoof_29 (by decide) ?_
  refine lv_iload hx hb dX1_digestRoof_5 (lv_at hl 0 rfl) ?_
  refine lv_bipush (v := 9) hx hb dX1_digestRoof_7 (by decide) ?_
  refine lv_icmp_ge (tgt := 32) hx hb dX1_digestRoof_9 (by decide) (fun c5 => absurd c5 (by decide)) (fun c5 => ?_)
  refine lv_lload_n hx hb dX1_digestRoof_12 rfl (lv_at hl 1 rfl) ?_
  refine lv_ldc2 (v := 31) hx hb hown (hts (.constantLong RX1 199 31) (by decide +kernel)) dX1_digestRoof_13 ?_
  refine lv_lmul hx hb dX1_digestRoof_16 ?_
  refine lv_topl (fun w6 ew6 => ?_)
  refine lv_aload_n hx hb dX1_digestRoof_17 rfl (lv_at hl 2 rfl) ?_
  refine lv_iload hx hb dX1_digestRoof_18 (lv_at hl 0 rfl) ?_
  have hPc := hP.sub (ws' := [(rh, .inr (0, [.int 10, .int 6, .int 30, .int 100, .int 0, .int 0, .ref rk, .ref rt, .ref rp, .ref rm])), (rt, .inl (cT, 60, .inl (fun _ => 0)))]) [0, 1] rfl
  have hKc := hK.sub (tys' := [(cT, .int)]) [0] rfl
  refine vp_callSi (va_runV (As := [.int 1]) (rest := [.long w6]) ⟨hx, hb, hml, hown, hts⟩ (r0_tell1 l dC dI rh rk rt rp rm cT ) (cwV 1 hts gX1_digestRoof_X0_tell rfl rfl rfl (by decide +kernel) ⟨Nat.le_of_ble_eq_true rfl, Nat.le_of_ble_eq_true rfl⟩) ⟨fun a U g mk q => by obtain ⟨q0, qP, qK⟩ := q; exact ⟨q0, qP, va_K.moved (u := U) (U := U.calling g mk a) (Vm.Alike.refl U.vm) qK⟩, va_recv hKc hPc (ci := 0) (q0 := 0) rfl rfl, fun U hU hW => ⟨rfl, by rw [hU]; exact hPc, va_K.moved hW.alike hKc⟩⟩ rfl rfl hl.1 rfl (lv_room (Nat.le_of_ble_eq_true rfl)) dX1_digestRoof_20 ⟨Nat.le_of_ble_eq_true rfl, Nat.le_of_ble_eq_true rfl⟩).run (fun r7 hr7 => ?_)
  obtain rfl := hr7
  refine lv_i2l (v := 6) hx hb dX1_digestRoof_23 (by first | rfl | decide) ?_
  refine lv_ladd hx hb dX1_digestRoof_24 ?_
  refine lv_topl (fun w8 ew8 => ?_)
  refine lv_lstore_n (lv' := [(3, .long w8), (5, .int 1), (0, .ref rh), (1, .long d0)]) hx hb dX1_digestRoof_25 rfl hl (by decide) rfl (fun ls hl => ?_)
  refine lv_iinc (v := 2) (lv' := [(5, .int 2), (3, .long w8), (0, .ref rh), (1, .long d0)]) hx hb dX1_digestRoof_26 hl (k := 1) rfl (by decide) (by decide) rfl (fun ls hl => ?_)
  refine lv_goto (tgt := 5) hx hb dX1_digestRoof_29 (by decide) ?_
  refine lv_iload hx hb dX1_digestRoof_5 (lv_at hl 0 rfl) ?_
  refine lv_bipush (v := 9) hx hb dX1_digestRoof_7 (by decide) ?_
  refine lv_icmp_ge (tgt := 32) hx hb dX1_digestRoof_9 (by decide) (fun c9 => absurd c9 (by decide)) (fun c9 => ?_)
  refine lv_lload_n hx hb dX1_digestRoof_12 rfl (lv_at hl 1 rfl) ?_
  refine lv_ldc2 (v := 31) hx hb hown (hts (.constantLong RX1 199 31) (by decide +kernel)) dX1_digestRoof_13 ?_
  refine lv_lmul hx hb dX1_digestRoof_16 ?_
  refine lv_topl (fun w10 ew10 => ?_)
  refine lv_aload_n hx hb dX1_digestRoof_17 rfl (lv_at hl 2 rfl) ?_
  refine lv_iload hx hb dX1_digestRoof_18 (lv_at hl 0 rfl) ?_
  have hPc := hP.sub (ws' := [(rh, .inr (0, [.int 10, .int 6, .int 30, .int 100, .int 0, .int 0, .ref rk, .ref rt, .ref rp, .ref rm])), (rt, .inl (cT, 60, .inl (fun _ => 0)))]) [0, 1] rfl
  have hKc := hK.sub (tys' := [(cT, .int)]) [0] rfl
  refine vp_callSi (va_runV (As := [.int 2]) (rest := [.long w10]) ⟨hx, hb, hml, hown, hts⟩ (r0_tell2 l dC dI rh rk rt rp rm cT ) (cwV 1 hts gX1_digestRoof_X0_tell rfl rfl rfl (by decide +kernel) ⟨Nat.le_of_ble_eq_true rfl, Nat.le_of_ble_eq_true rfl⟩) ⟨fun a U g mk q => by obtain ⟨q0, qP, qK⟩ := q; exact ⟨q0, qP, va_K.moved (u := U) (U := U.calling g mk a) (Vm.Alike.refl U.vm) qK⟩, va_recv hKc hPc (ci := 0) (q0 := 0) rfl rfl, fun U hU hW => ⟨rfl, by rw [hU]; exact hPc, va_K.moved hW.alike hKc⟩⟩ rfl rfl hl.1 rfl (lv_room (Nat.le_of_ble_eq_true rfl)) dX1_digestRoof_20 ⟨Nat.le_of_ble_eq_true rfl, Nat.le_of_ble_eq_true rfl⟩).run (fun r11 hr11 => ?_)
  obtain rfl := hr11
  refine lv_i2l (v := 30) hx hb dX1_digestRoof_23 (by first | rfl | decide) ?_
  refine lv_ladd hx hb dX1_digestRoof_24 ?_
  refine lv_topl (fun w12 ew12 => ?_)
  refine lv_lstore_n (lv' := [(3, .long w12), (5, .int 2), (0, .ref rh), (1, .long d0)]) hx hb dX1_digestRoof_25 rfl hl (by decide) rfl (fun ls hl => ?_)
  refine lv_iinc (v := 3) (lv' := [(5, .int 3), (3, .long w12), (0, .ref rh), (1, .long d0)]) hx hb dX1_digestRoof_26 hl (k := 1) rfl (by decide) (by decide) rfl (fun ls hl => ?_)
  refine lv_goto (tgt := 5) hx hb dX1_digestRoof_29 (by decide) ?_
  refine lv_iload hx hb dX1_digestRoof_5 (lv_at hl 0 rfl) ?_
  refine lv_bipush (v := 9) hx hb dX1_digestRoof_7 (by decide) ?_
  refine lv_icmp_ge (tgt := 32) hx hb dX1_digestRoof_9 (by decide) (fun c13 => absurd c13 (by decide)) (fun c13 => ?_)
  refine lv_lload_n hx hb dX1_digestRoof_12 rfl (lv_at hl 1 rfl) ?_
  refine lv_ldc2 (v := 31) hx hb hown (hts (.constantLong RX1 199 31) (by decide +kernel)) dX1_digestRoof_13 ?_
  refine lv_lmul hx hb dX1_digestRoof_16 ?_
  refine lv_topl (fun w14 ew14 => ?_)
  refine lv_aload_n hx hb dX1_digestRoof_17 rfl (lv_at hl 2 rfl) ?_
  refine lv_iload hx hb dX1_digestRoof_18 (lv_at hl 0 rfl) ?_
  have hPc := hP.sub (ws' := [(rh, .inr (0, [.int 10, .int 6, .int 30, .int 100, .int 0, .int 0, .ref rk, .ref rt, .ref rp, .ref rm])), (rt, .inl (cT, 60, .inl (fun _ => 0)))]) [0, 1] rfl
  have hKc := hK.sub (tys' := [(cT, .int)]) [0] rfl
  refine vp_callSi (va_runV (As := [.int 3]) (rest := [.long w14]) ⟨hx, hb, hml, hown, hts⟩ (r0_tell3 l dC dI rh rk rt rp rm cT ) (cwV 1 hts gX1_digestRoof_X0_tell rfl rfl rfl (by decide +kernel) ⟨Nat.le_of_ble_eq_true rfl, Nat.le_of_ble_eq_true rfl⟩) ⟨fun a U g mk q => by obtain ⟨q0, qP, qK⟩ := q; exact ⟨q0, qP, va_K.moved (u := U) (U := U.calling g mk a) (Vm.Alike.refl U.vm) qK⟩, va_recv hKc hPc (ci := 0) (q0 := 0) rfl rfl, fun U hU hW => ⟨rfl, by rw [hU]; exact hPc, va_K.moved hW.alike hKc⟩⟩ rfl rfl hl.1 rfl (lv_room (Nat.le_of_ble_eq_true rfl)) dX1_digestRoof_20 ⟨Nat.le_of_ble_eq_true rfl, Nat.le_of_ble_eq_true rfl⟩).run (fun r15 hr15 => ?_)
  obtain rfl := hr15
  refine lv_i2l (v := 100) hx hb dX1_digestRoof_23 (by first | rfl | decide) ?_
  refine lv_ladd hx hb dX1_digestRoof_24 ?_
  refine lv_topl (fun w16 ew16 => ?_)
  refine lv_lstore_n (lv' := [(3, .long w16), (5, .int 3), (0, .ref rh), (1, .long d0)]) hx hb dX1_digestRoof_25 rfl hl (by decide) rfl (fun ls hl => ?_)
  refine lv_iinc (v := 4) (lv' := [(5, .int 4), (3, .long w16), (0, .ref rh), (1, .long d0)]) hx hb dX1_digestRoof_26 hl (k := 1) rfl (by decide) (by decide) rfl (fun ls hl => ?_)
  refine lv_goto (tgt := 5) hx hb dX1_digestRoof_29 (by decide) ?_
  refine lv_iload hx hb dX1_digestRoof_5 (lv_at hl 0 rfl) ?_
  refine lv_bipush (v := 9) hx hb dX1_digestRoof_7 (by decide) ?_
  refine lv_icmp_ge (tgt := 32) hx hb dX1_digestRoof_9 (by decide) (fun c17 => absurd c17 (by decide)) (fun c17 => ?_)
  refine lv_lload_n hx hb dX1_digestRoof_12 rfl (lv_at hl 1 rfl) ?_
  refine lv_ldc2 (v := 31) hx hb hown (hts (.constantLong RX1 199 31) (by decide +kernel)) dX1_digestRoof_13 ?_
  refine lv_lmul hx hb dX1_digestRoof_16 ?_
  refine lv_topl (fun w18 ew18 => ?_)
  refine lv_aload_n hx hb dX1_digestRoof_17 rfl (lv_at hl 2 rfl) ?_
  refine lv_iload hx hb dX1_digestRoof_18 (lv_at hl 0 rfl) ?_
  have hPc := hP.sub (ws' := [(rh, .inr (0, [.int 10, .int 6, .int 30, .int 100, .int 0, .int 0, .ref rk, .ref rt, .ref rp, .ref rm])), (rt, .inl (cT, 60, .inl (fun _ => 0)))]) [0, 1] rfl
  have hKc := hK.sub (tys' := [(cT, .int)]) [0] rfl
  refine vp_callSi (va_runV (As := [.int 4]) (rest := [.long w18]) ⟨hx, hb, hml, hown, hts⟩ (r0_tell4 l dC dI rh rk rt rp rm cT ) (cwV 1 hts gX1_digestRoof_X0_tell rfl rfl rfl (by decide +kernel) ⟨Nat.le_of_ble_eq_true rfl, Nat.le_of_ble_eq_true rfl⟩) ⟨fun a U g mk q => by obtain ⟨q0, qP, qK⟩ := q; exact ⟨q0, qP, va_K.moved (u := U) (U := U.calling g mk a) (Vm.Alike.refl U.vm) qK⟩, va_recv hKc hPc (ci := 0) (q0 := 0) rfl rfl, fun U hU hW => ⟨rfl, by rw [hU]; exact hPc, va_K.moved hW.alike hKc⟩⟩ rfl rfl hl.1 rfl (lv_room (Nat.le_of_ble_eq_true rfl)) dX1_digestRoof_20 ⟨Nat.le_of_ble_eq_true rfl, Nat.le_of_ble_eq_true rfl⟩).run (fun r19 hr19 => ?_)
  obtain rfl := hr19
  refine lv_i2l (v := 0) hx hb dX1_digestRoof_23 (by first | rfl | decide) ?_
  refine lv_ladd hx hb dX1_digestRoof_24 ?_
  refine lv_topl (fun w20 ew20 => ?_)
  refine lv_lstore_n (lv' := [(3, .long w20), (5, .int 4), (0, .ref rh), (1, .long d0)]) hx hb dX1_digestRoof_25 rfl hl (by decide) rfl (fun ls hl => ?_)
  refine lv_iinc (v := 5) (lv' := [(5, .int 5), (3, .long w20), (0, .ref rh), (1, .long d0)]) hx hb dX1_digestRoof_26 hl (k := 1) rfl (by decide) (by decide) rfl (fun ls hl => ?_)
  refine lv_goto (tgt := 5) hx hb dX1_digestRoof_29 (by decide) ?_
  refine lv_iload hx hb dX1_digestRoof_5 (lv_at hl 0 rfl) ?_
  refine lv_bipush (v := 9) hx hb dX1_digestRoof_7 (by decide) ?_
  refine lv_icmp_ge (tgt := 32) hx hb dX1_digestRoof_9 (by decide) (fun c21 => absurd c21 (by decide)) (fun c21 => ?_)
  refine lv_lload_n hx hb dX1_digestRoof_12 rfl (lv_at hl 1 rfl) ?_
  refine lv_ldc2 (v := 31) hx hb hown (hts (.constantLong RX1 199 31) (by decide +kernel)) dX1_digestRoof_13 ?_
  refine lv_lmul hx hb dX1_digestRoof_16 ?_
  refine lv_topl (fun w22 ew22 => ?_)
  refine lv_aload_n hx hb dX1_digestRoof_17 rfl (lv_at hl 2 rfl) ?_
  refine lv_iload hx hb dX1_digestRoof_18 (lv_at hl 0 rfl) ?_
  have hPc := hP.sub (ws' := [(rh, .inr (0, [.int 10, .int 6, .int 30, .int 100, .int 0, .int 0, .ref rk, .ref rt, .ref rp, .ref rm])), (rt, .inl (cT, 60, .inl (fun _ => 0)))]) [0, 1] rfl
  have hKc := hK.sub (tys' := [(cT, .int)]) [0] rfl
  refine vp_callSi (va_runV (As := [.int 5]) (rest := [.long w22]) ⟨hx, hb, hml, hown, hts⟩ (r0_tell5 l dC dI rh rk rt rp rm cT ) (cwV 1 hts gX1_digestRoof_X0_tell rfl rfl rfl (by decide +kernel) ⟨Nat.le_of_ble_eq_true rfl, Nat.le_of_ble_eq_true rfl⟩) ⟨fun a U g mk q => by obtain ⟨q0, qP, qK⟩ := q; exact ⟨q0, qP, va_K.moved (u := U) (U := U.calling g mk a) (Vm.Alike.refl U.vm) qK⟩, va_recv hKc hPc (ci := 0) (q0 := 0) rfl rfl, fun U hU hW => ⟨rfl, by rw [hU]; exact hPc, va_K.moved hW.alike hKc⟩⟩ rfl rfl hl.1 rfl (lv_room (Nat.le_of_ble_eq_true rfl)) dX1_digestRoof_20 ⟨Nat.le_of_ble_eq_true rfl, Nat.le_of_ble_eq_true rfl⟩).run (fun r23 hr23 => ?_)
  obtain rfl := hr23
  refine lv_i2l (v := 0) hx hb dX1_digestRoof_23 (by first | rfl | decide) ?_
  refine lv_ladd hx hb dX1_digestRoof_24 ?_
  refine lv_topl (fun w24 ew24 => ?_)
  refine lv_lstore_n (lv' := [(3, .long w24), (5, .int 5), (0, .ref rh), (1, .long d0)]) hx hb dX1_digestRoof_25 rfl hl (by decide) rfl (fun ls hl => ?_)
  refine lv_iinc (v := 6) (lv' := [(5, .int 6), (3, .long w24), (0, .ref rh), (1, .long d0)]) hx hb dX1_digestRoof_26 hl (k := 1) rfl (by decide) (by decide) rfl (fun ls hl => ?_)
  refine lv_goto (tgt := 5) hx hb dX1_digestRoof_29 (by decide) ?_
  refine lv_iload hx hb dX1_digestRoof_5 (lv_at hl 0 rfl) ?_
  refine lv_bipush (v := 9) hx hb dX1_digestRoof_7 (by decide) ?_
  refine lv_icmp_ge (tgt := 32) hx hb dX1_digestRoof_9 (by decide) (fun c25 => absurd c25 (by decide)) (fun c25 => ?_)
  refine lv_lload_n hx hb dX1_digestRoof_12 rfl (lv_at hl 1 rfl) ?_
  refine lv_ldc2 (v := 31) hx hb hown (hts (.constantLong RX1 199 31) (by decide +kernel)) dX1_digestRoof_13 ?_
  refine lv_lmul hx hb dX1_digestRoof_16 ?_
  refine lv_topl (fun w26 ew26 => ?_)
  refine lv_aload_n hx hb dX1_digestRoof_17 rfl (lv_at hl 2 rfl) ?_
  refine lv_iload hx hb dX1_digestRoof_18 (lv_at hl 0 rfl) ?_
  have hPc := hP.sub (ws' := [(rh, .inr (0, [.int 10, .int 6, .int 30, .int 100, .int 0, .int 0, .ref rk, .ref rt, .ref rp, .ref rm])), (rt, .inl (cT, 60, .inl (fun _ => 0)))]) [0, 1] rfl
  have hKc := hK.sub (tys' := [(cT, .int)]) [0] rfl
  refine vp_callSi (va_runV (As := [.int 6]) (rest := [.long w26]) ⟨hx, hb, hml, hown, hts⟩ (r0_tell6 l dC dI rh rk rt rp rm cT ) (cwV 1 hts gX1_digestRoof_X0_tell rfl rfl rfl (by decide +kernel) ⟨Nat.le_of_ble_eq_true rfl, Nat.le_of_ble_eq_true rfl⟩) ⟨fun a U g mk q => by obtain ⟨q0, qP, qK⟩ := q; exact ⟨q0, qP, va_K.moved (u := U) (U := U.calling g mk a) (Vm.Alike.refl U.vm) qK⟩, va_recv hKc hPc (ci := 0) (q0 := 0) rfl rfl, fun U hU hW => ⟨rfl, by rw [hU]; exact hPc, va_K.moved hW.alike hKc⟩⟩ rfl rfl hl.1 rfl (lv_room (Nat.le_of_ble_eq_true rfl)) dX1_digestRoof_20 ⟨Nat.le_of_ble_eq_true rfl, Nat.le_of_ble_eq_true rfl⟩).run (fun r27 hr27 => ?_)
  obtain rfl := hr27
  refine lv_i2l (v := 10) hx hb dX1_digestRoof_23 (by first | rfl | decide) ?_
  refine lv_ladd hx hb dX1_digestRoof_24 ?_
  refine lv_topl (fun w28 ew28 => ?_)
  refine lv_lstore_n (lv' := [(3, .long w28), (5, .int 6), (0, .ref rh), (1, .long d0)]) hx hb dX1_digestRoof_25 rfl hl (by decide) rfl (fun ls hl => ?_)
  refine lv_iinc (v := 7) (lv' := [(5, .int 7), (3, .long w28), (0, .ref rh), (1, .long d0)]) hx hb dX1_digestRoof_26 hl (k := 1) rfl (by decide) (by decide) rfl (fun ls hl => ?_)
  refine lv_goto (tgt := 5) hx hb dX1_digestRoof_29 (by decide) ?_
  refine lv_iload hx hb dX1_digestRoof_5 (lv_at hl 0 rfl) ?_
  refine lv_bipush (v := 9) hx hb dX1_digestRoof_7 (by decide) ?_
  refine lv_icmp_ge (tgt := 32) hx hb dX1_digestRoof_9 (by decide) (fun c29 => absurd c29 (by decide)) (fun c29 => ?_)
  refine lv_lload_n hx hb dX1_digestRoof_12 rfl (lv_at hl 1 rfl) ?_
  refine lv_ldc2 (v := 31) hx hb hown (hts (.constantLong RX1 199 31) (by decide +kernel)) dX1_digestRoof_13 ?_
  refine lv_lmul hx hb dX1_digestRoof_16 ?_
  refine lv_topl (fun w30 ew30 => ?_)
  refine lv_aload_n hx hb dX1_digestRoof_17 rfl (lv_at hl 2 rfl) ?_
  refine lv_iload hx hb dX1_digestRoof_18 (lv_at hl 0 rfl) ?_
  have hPc := hP.sub (ws' := [(rh, .inr (0, [.int 10, .int 6, .int 30, .int 100, .int 0, .int 0, .ref rk, .ref rt, .ref rp, .ref rm])), (rt, .inl (cT, 60, .inl (fun _ => 0)))]) [0, 1] rfl
  have hKc := hK.sub (tys' := [(cT, .int)]) [0] rfl
  refine vp_callSi (va_runV (As := [.int 7]) (rest := [.long w30]) ⟨hx, hb, hml, hown, hts⟩ (r0_tell7 l dC dI rh rk rt rp rm cT ) (cwV 1 hts gX1_digestRoof_X0_tell rfl rfl rfl (by decide +kernel) ⟨Nat.le_of_ble_eq_true rfl, Nat.le_of_ble_eq_true rfl⟩) ⟨fun a U g mk q => by obtain ⟨q0, qP, qK⟩ := q; exact ⟨q0, qP, va_K.moved (u := U) (U := U.calling g mk a) (Vm.Alike.refl U.vm) qK⟩, va_recv hKc hPc (ci := 0) (q0 := 0) rfl rfl, fun U hU hW => ⟨rfl, by rw [hU]; exact hPc, va_K.moved hW.alike hKc⟩⟩ rfl rfl hl.1 rfl (lv_room (Nat.le_of_ble_eq_true rfl)) dX1_digestRoof_20 ⟨Nat.le_of_ble_eq_true rfl, Nat.le_of_ble_eq_true rfl⟩).run (fun r31 hr31 => ?_)
  obtain rfl := hr31
  refine lv_i2l (v := 0) hx hb dX1_digestRoof_23 (by first | rfl | decide) ?_
  refine lv_ladd hx hb dX1_digestRoof_24 ?_
  refine lv_topl (fun w32 ew32 => ?_)
  refine lv_lstore_n (lv' := [(3, .long w32), (5, .int 7), (0, .ref rh), (1, .long d0)]) hx hb dX1_digestRoof_25 rfl hl (by decide) rfl (fun ls hl => ?_)
  refine lv_iinc (v := 8) (lv' := [(5, .int 8), (3, .long w32), (0, .ref rh), (1, .long d0)]) hx hb dX1_digestRoof_26 hl (k := 1) rfl (by decide) (by decide) rfl (fun ls hl => ?_)
  refine lv_goto (tgt := 5) hx hb dX1_digestRoof_29 (by decide) ?_
  refine lv_iload hx hb dX1_digestRoof_5 (lv_at hl 0 rfl) ?_
  refine lv_bipush (v := 9) hx hb dX1_digestRoof_7 (by decide) ?_
  refine lv_icmp_ge (tgt := 32) hx hb dX1_digestRoof_9 (by decide) (fun c33 => absurd c33 (by decide)) (fun c33 => ?_)
  refine lv_lload_n hx hb dX1_digestRoof_12 rfl (lv_at hl 1 rfl) ?_
  refine lv_ldc2 (v := 31) hx hb hown (hts (.constantLong RX1 199 31) (by decide +kernel)) dX1_digestRoof_13 ?_
  refine lv_lmul hx hb dX1_digestRoof_16 ?_
  refine lv_topl (fun w34 ew34 => ?_)
  refine lv_aload_n hx hb dX1_digestRoof_17 rfl (lv_at hl 2 rfl) ?_
  refine lv_iload hx hb dX1_digestRoof_18 (lv_at hl 0 rfl) ?_
  have hPc := hP.sub (ws' := [(rh, .inr (0, [.int 10, .int 6, .int 30, .int 100, .int 0, .int 0, .ref rk, .ref rt, .ref rp, .ref rm])), (rt, .inl (cT, 60, .inl (fun _ => 0)))]) [0, 1] rfl
  have hKc := hK.sub (tys' := [(cT, .int)]) [0] rfl
  refine vp_callSi (va_runV (As := [.int 8]) (rest := [.long w34]) ⟨hx, hb, hml, hown, hts⟩ (r0_tell8 l dC dI rh rk rt rp rm cT ) (cwV 1 hts gX1_digestRoof_X0_tell rfl rfl rfl (by decide +kernel) ⟨Nat.le_of_ble_eq_true rfl, Nat.le_of_ble_eq_true rfl⟩) ⟨fun a U g mk q => by obtain ⟨q0, qP, qK⟩ := q; exact ⟨q0, qP, va_K.moved (u := U) (U := U.calling g mk a) (Vm.Alike.refl U.vm) qK⟩, va_recv hKc hPc (ci := 0) (q0 := 0) rfl rfl, fun U hU hW => ⟨rfl, by rw [hU]; exact hPc, va_K.moved hW.alike hKc⟩⟩ rfl rfl hl.1 rfl (lv_room (Nat.le_of_ble_eq_true rfl)) dX1_digestRoof_20 ⟨Nat.le_of_ble_eq_true rfl, Nat.le_of_ble_eq_true rfl⟩).run (fun r35 hr35 => ?_)
  obtain rfl := hr35
  refine lv_i2l (v := 0) hx hb dX1_digestRoof_23 (by first | rfl | decide) ?_
  refine lv_ladd hx hb dX1_digestRoof_24 ?_
  refine lv_topl (fun w36 ew36 => ?_)
  refine lv_lstore_n (lv' := [(3, .long w36), (5, .int 8), (0, .ref rh), (1, .long d0)]) hx hb dX1_digestRoof_25 rfl hl (by decide) rfl (fun ls hl => ?_)
  refine lv_iinc (v := 9) (lv' := [(5, .int 9), (3, .long w36), (0, .ref rh), (1, .long d0)]) hx hb dX1_digestRoof_26 hl (k := 1) rfl (by decide) (by decide) rfl (fun ls hl => ?_)
  refine lv_goto (tgt := 5) hx hb dX1_digestRoof_29 (by decide) ?_
  refine lv_iload hx hb dX1_digestRoof_5 (lv_at hl 0 rfl) ?_
  refine lv_bipush (v := 9) hx hb dX1_digestRoof_7 (by decide) ?_
  refine lv_icmp_ge (tgt := 32) hx hb dX1_digestRoof_9 (by decide) (fun c37 => ?_) (fun c37 => absurd c37 (by decide))
  refine lv_iconst (v := 0) hx hb dX1_digestRoof_32 (by decide) ?_
  refine lv_istore (lv' := [(5, .int 0), (3, .long w36), (0, .ref rh), (1, .long d0)]) hx hb dX1_digestRoof_33 hl (by decide) rfl (fun ls hl => ?_)
  suffices K35 : ∀ (n : Nat) (i : Nat) (da : Int64), (i ≤ 6) → (da = zz_it (10 * i) (zz_r9 d0)) → 6 - i < n → ∀ ls : Array Slot, lv_has ls 8 [(0, .ref rh), (3, .long da), (5, .int (nI i))] → W p l e ({ frames := 4, cells := 0, slots := 0, locals := 88 } : Room) s m (([.ref rh, .long d0] : List Value).toArray) below meth c s.heap [] 0 0 (MQ below (vp_Sl (fun r : Int64 => r = zz_rf d0)) (([.ref rh, .long d0] : List Value).toArray) s 0 0 (fun _ => False)) (F0 m 35 ls []) from
    K35 _ 0 w36 (by decide) (by rw [ew36, ew34, ew32, ew30, ew28, ew26, ew24, ew22, ew20, ew18, ew16, ew14, ew12, ew10, ew8, ew6, ew4, ew2]; rfl) (Nat.lt_succ_self _) _ (lv_sub hl [2, 1, 0] rfl)
  intro n
  induction n with
  | zero =>
    intro i da hi hda hn
    exact absurd hn (Nat.not_lt_zero _)
  | succ n ih35 =>
    intro i da hi hda hn35 ls hl
    refine lv_iload hx hb dX1_digestRoof_35 (lv_at hl 2 rfl) ?_
    refine lv_aload_n hx hb dX1_digestRoof_37 rfl (lv_at hl 0 rfl) ?_
    have hPc := hP.sub (ws' := [(rh, .inr (0, [.int 10, .int 6, .int 30, .int 100, .int 0, .int 0, .ref rk, .ref rt, .ref rp, .ref rm]))]) [0] rfl
    have hKc := hK.sub (tys' := []) [] rfl
    refine vp_callSi (va_runV (As := []) (rest := [.int (nI i)]) ⟨hx, hb, hml, hown, hts⟩ (r0_high l dC dI rh rk rt rp rm ) (cwV 0 hts gX1_digestRoof_X0_high rfl rfl rfl (by decide +kernel) ⟨Nat.le_of_ble_eq_true rfl, Nat.le_of_ble_eq_true rfl⟩) ⟨fun a U g mk q => by obtain ⟨q0, qP, qK⟩ := q; exact ⟨q0, qP, va_K.moved (u := U) (U := U.calling g mk a) (Vm.Alike.refl U.vm) qK⟩, va_recv hKc hPc (ci := 0) (q0 := 0) rfl rfl, fun U hU hW => ⟨rfl, by rw [hU]; exact hPc, va_K.moved hW.alike hKc⟩⟩ rfl rfl hl.1 rfl (lv_room (Nat.le_of_ble_eq_true rfl)) dX1_digestRoof_38 ⟨Nat.le_of_ble_eq_true rfl, Nat.le_of_ble_eq_true rfl⟩).run (fun r38 hr38 => ?_)
    obtain rfl := hr38
    refine lv_icmp_ge (tgt := 102) hx hb dX1_digestRoof_41 (by decide) (fun c39 => ?_) (fun c39 => ?_)
    · have nc39 : 6 ≤ i := (nI_leI (a := 6) (b := i) (by omega) (by omega)).mp c39
      refine lv_lload_n hx hb dX1_digestRoof_102 rfl (lv_at hl 1 rfl) ?_
      exact W.lret (v := da) hx hb hr (fun t ht hW => ⟨da, rfl, by have h9 : i = 6 := (by omega); subst h9; exact hda, ht⟩) (fun _ h => nomatch h) dX1_digestRoof_103
    · have nc39 : i < 6 := Nat.lt_of_not_le (fun q => c39 ((nI_leI (a := 6) (b := i) (by omega) (by omega)).mpr q))
      refine lv_iconst (v := 0) hx hb dX1_digestRoof_44 (by decide) ?_
      refine lv_istore (lv' := [(6, .int 0), (0, .ref rh), (3, .long da), (5, .int (nI i))]) hx hb dX1_digestRoof_45 hl (by decide) rfl (fun ls hl => ?_)
      suffices K47 : ∀ (n : Nat) (j : Nat) (db : Int64), (j ≤ 10) → (db = zz_it (10 * i + j) (zz_r9 d0)) → 10 - j < n → ∀ ls : Array Slot, lv_has ls 8 [(0, .ref rh), (3, .long db), (5, .int (nI i)), (6, .int (nI j))] → W p l e ({ frames := 4, cells := 0, slots := 0, locals := 88 } : Room) s m (([.ref rh, .long d0] : List Value).toArray) below meth c s.heap [] 0 0 (MQ below (vp_Sl (fun r : Int64 => r = zz_rf d0)) (([.ref rh, .long d0] : List Value).toArray) s 0 0 (fun _ => False)) (F0 m 47 ls []) from
        K47 _ 0 da (by decide) (hda) (Nat.lt_succ_self _) _ (lv_sub hl [1, 2, 3, 0] rfl)
      intro n
      induction n with
      | zero =>
        intro j db hj hdb hn
        exact absurd hn (Nat.not_lt_zero _)
      | succ n ih47 =>
        intro j db hj hdb hn47 ls hl
        refine lv_iload hx hb dX1_digestRoof_47 (lv_at hl 3 rfl) ?_
        refine lv_aload_n hx hb dX1_digestRoof_49 rfl (lv_at hl 0 rfl) ?_
        have hPc := hP.sub (ws' := [(rh, .inr (0, [.int 10, .int 6, .int 30, .int 100, .int 0, .int 0, .ref rk, .ref rt, .ref rp, .ref rm]))]) [0] rfl
        have hKc := hK.sub (tys' := []) [] rfl
        refine vp_callSi (va_runV (As := []) (rest := [.int (nI j)]) ⟨hx, hb, hml, hown, hts⟩ (r0_wide l dC dI rh rk rt rp rm ) (cwV 0 hts gX1_digestRoof_X0_wide rfl rfl rfl (by decide +kernel) ⟨Nat.le_of_ble_eq_true rfl, Nat.le_of_ble_eq_true rfl⟩) ⟨fun a U g mk q => by obtain ⟨q0, qP, qK⟩ := q; exact ⟨q0, qP, va_K.moved (u := U) (U := U.calling g mk a) (Vm.Alike.refl U.vm) qK⟩, va_recv hKc hPc (ci := 0) (q0 := 0) rfl rfl, fun U hU hW => ⟨rfl, by rw [hU]; exact hPc, va_K.moved hW.alike hKc⟩⟩ rfl rfl hl.1 rfl (lv_room (Nat.le_of_ble_eq_true rfl)) dX1_digestRoof_50 ⟨Nat.le_of_ble_eq_true rfl, Nat.le_of_ble_eq_true rfl⟩).run (fun r40 hr40 => ?_)
        obtain rfl := hr40
        refine lv_icmp_ge (tgt := 96) hx hb dX1_digestRoof_53 (by decide) (fun c41 => ?_) (fun c41 => ?_)
        · have nc41 : 10 ≤ j := (nI_leI (a := 10) (b := j) (by omega) (by omega)).mp c41
          refine lv_iinc (v := nI (i + 1)) (lv' := [(5, .int (nI (i + 1))), (0, .ref rh), (3, .long db), (6, .int (nI j))]) hx hb dX1_digestRoof_96 hl (k := 2) rfl (by exact nI_1 i) (by decide) rfl (fun ls hl => ?_)
          refine lv_goto (tgt := 35) hx hb dX1_digestRoof_99 (by decide) ?_
          exact ih35 (i + 1) db (by omega) (by have h9 : j = 10 := (by omega); subst h9; exact hdb) (by omega) _ (lv_sub hl [1, 2, 0] rfl)
        · have nc41 : j < 10 := Nat.lt_of_not_le (fun q => c41 ((nI_leI (a := 10) (b := j) (by omega) (by omega)).mpr q))
          refine lv_iconst (v := 0) hx hb dX1_digestRoof_56 (by decide) ?_
          refine lv_istore (lv' := [(7, .int 0), (0, .ref rh), (3, .long db), (5, .int (nI i)), (6, .int (nI j))]) hx hb dX1_digestRoof_57 hl (by decide) rfl (fun ls hl => ?_)
          refine lv_iload hx hb dX1_digestRoof_59 (lv_at hl 0 rfl) ?_
          refine lv_bipush (v := 6) hx hb dX1_digestRoof_61 (by decide) ?_
          refine lv_icmp_ge (tgt := 90) hx hb dX1_digestRoof_63 (by decide) (fun c42 => absurd c42 (by decide)) (fun c42 => ?_)
          refine lv_lload_n hx hb dX1_digestRoof_66 rfl (lv_at hl 2 rfl) ?_
          refine lv_ldc2 (v := 31) hx hb hown (hts (.constantLong RX1 199 31) (by decide +kernel)) dX1_digestRoof_67 ?_
          refine lv_lmul hx hb dX1_digestRoof_70 ?_
          refine lv_topl (fun w43 ew43 => ?_)
          refine lv_aload_n hx hb dX1_digestRoof_71 rfl (lv_at hl 1 rfl) ?_
          refine lv_iload hx hb dX1_digestRoof_72 (lv_at hl 3 rfl) ?_
          refine lv_iload hx hb dX1_digestRoof_74 (lv_at hl 4 rfl) ?_
          refine lv_iload hx hb dX1_digestRoof_76 (lv_at hl 0 rfl) ?_
          have hPc := hP.sub (ws' := [(rh, .inr (0, [.int 10, .int 6, .int 30, .int 100, .int 0, .int 0, .ref rk, .ref rt, .ref rp, .ref rm])), (rt, .inl (cT, 60, .inl (fun _ => 0)))]) [0, 1] rfl
          have hKc := hK.sub (tys' := [(cT, .int)]) [0] rfl
          refine vp_callSi (va_runV (As := [.int (nI i), .int (nI j), .int 0]) (rest := [.long w43]) ⟨hx, hb, hml, hown, hts⟩ (r0_tellYealm0 l dC dI rh rk rt rp rm cT i j (by first | assumption | decide | omega) (by first | assumption | decide | omega)) (cwV 3 hts gX1_digestRoof_X0_tellYealm rfl rfl rfl (by decide +kernel) ⟨Nat.le_of_ble_eq_true rfl, Nat.le_of_ble_eq_true rfl⟩) ⟨fun a U g mk q => by obtain ⟨q0, qP, qK⟩ := q; exact ⟨q0, qP, va_K.moved (u := U) (U := U.calling g mk a) (Vm.Alike.refl U.vm) qK⟩, va_recv hKc hPc (ci := 0) (q0 := 0) rfl rfl, fun U hU hW => ⟨rfl, by rw [hU]; exact hPc, va_K.moved hW.alike hKc⟩⟩ rfl rfl hl.1 rfl (lv_room (Nat.le_of_ble_eq_true rfl)) dX1_digestRoof_78 ⟨Nat.le_of_ble_eq_true rfl, Nat.le_of_ble_eq_true rfl⟩).run (fun r44 hr44 => ?_)
          obtain rfl := hr44
          refine lv_i2l (v := 0) hx hb dX1_digestRoof_81 (by first | rfl | decide) ?_
          refine lv_ladd hx hb dX1_digestRoof_82 ?_
          refine lv_topl (fun w45 ew45 => ?_)
          refine lv_lstore_n (lv' := [(3, .long w45), (7, .int 0), (0, .ref rh), (5, .int (nI i)), (6, .int (nI j))]) hx hb dX1_digestRoof_83 rfl hl (by decide) rfl (fun ls hl => ?_)
          refine lv_iinc (v := 1) (lv' := [(7, .int 1), (3, .long w45), (0, .ref rh), (5, .int (nI i)), (6, .int (nI j))]) hx hb dX1_digestRoof_84 hl (k := 1) rfl (by decide) (by decide) rfl (fun ls hl => ?_)
          refine lv_goto (tgt := 59) hx hb dX1_digestRoof_87 (by decide) ?_
          refine lv_iload hx hb dX1_digestRoof_59 (lv_at hl 0 rfl) ?_
          refine lv_bipush (v := 6) hx hb dX1_digestRoof_61 (by decide) ?_
          refine lv_icmp_ge (tgt := 90) hx hb dX1_digestRoof_63 (by decide) (fun c46 => absurd c46 (by decide)) (fun c46 => ?_)
          refine lv_lload_n hx hb dX1_digestRoof_66 rfl (lv_at hl 1 rfl) ?_
          refine lv_ldc2 (v := 31) hx hb hown (hts (.constantLong RX1 199 31) (by decide +kernel)) dX1_digestRoof_67 ?_
          refine lv_lmul hx hb dX1_digestRoof_70 ?_
          refine lv_topl (fun w47 ew47 => ?_)
          refine lv_aload_n hx hb dX1_digestRoof_71 rfl (lv_at hl 2 rfl) ?_
          refine lv_iload hx hb dX1_digestRoof_72 (lv_at hl 3 rfl) ?_
          refine lv_iload hx hb dX1_digestRoof_74 (lv_at hl 4 rfl) ?_
          refine lv_iload hx hb dX1_digestRoof_76 (lv_at hl 0 rfl) ?_
          have hPc := hP.sub (ws' := [(rh, .inr (0, [.int 10, .int 6, .int 30, .int 100, .int 0, .int 0, .ref rk, .ref rt, .ref rp, .ref rm])), (rt, .inl (cT, 60, .inl (fun _ => 0)))]) [0, 1] rfl
          have hKc := hK.sub (tys' := [(cT, .int)]) [0] rfl
          refine vp_callSi (va_runV (As := [.int (nI i), .int (nI j), .int 1]) (rest := [.long w47]) ⟨hx, hb, hml, hown, hts⟩ (r0_tellYealm1 l dC dI rh rk rt rp rm cT i j (by first | assumption | decide | omega) (by first | assumption | decide | omega)) (cwV 3 hts gX1_digestRoof_X0_tellYealm rfl rfl rfl (by decide +kernel) ⟨Nat.le_of_ble_eq_true rfl, Nat.le_of_ble_eq_true rfl⟩) ⟨fun a U g mk q => by obtain ⟨q0, qP, qK⟩ := q; exact ⟨q0, qP, va_K.moved (u := U) (U := U.calling g mk a) (Vm.Alike.refl U.vm) qK⟩, va_recv hKc hPc (ci := 0) (q0 := 0) rfl rfl, fun U hU hW => ⟨rfl, by rw [hU]; exact hPc, va_K.moved hW.alike hKc⟩⟩ rfl rfl hl.1 rfl (lv_room (Nat.le_of_ble_eq_true rfl)) dX1_digestRoof_78 ⟨Nat.le_of_ble_eq_true rfl, Nat.le_of_ble_eq_true rfl⟩).run (fun r48 hr48 => ?_)
          obtain rfl := hr48
          refine lv_i2l (v := (-1)) hx hb dX1_digestRoof_81 (by first | rfl | decide) ?_
          refine lv_ladd hx hb dX1_digestRoof_82 ?_
          refine lv_topl (fun w49 ew49 => ?_)
          refine lv_lstore_n (lv' := [(3, .long w49), (7, .int 1), (0, .ref rh), (5, .int (nI i)), (6, .int (nI j))]) hx hb dX1_digestRoof_83 rfl hl (by decide) rfl (fun ls hl => ?_)
          refine lv_iinc (v := 2) (lv' := [(7, .int 2), (3, .long w49), (0, .ref rh), (5, .int (nI i)), (6, .int (nI j))]) hx hb dX1_digestRoof_84 hl (k := 1) rfl (by decide) (by decide) rfl (fun ls hl => ?_)
          refine lv_goto (tgt := 59) hx hb dX1_digestRoof_87 (by decide) ?_
          refine lv_iload hx hb dX1_digestRoof_59 (lv_at hl 0 rfl) ?_
          refine lv_bipush (v := 6) hx hb dX1_digestRoof_61 (by decide) ?_
          refine lv_icmp_ge (tgt := 90) hx hb dX1_digestRoof_63 (by decide) (fun c50 => absurd c50 (by decide)) (fun c50 => ?_)
          refine lv_lload_n hx hb dX1_digestRoof_66 rfl (lv_at hl 1 rfl) ?_
          refine lv_ldc2 (v := 31) hx hb hown (hts (.constantLong RX1 199 31) (by decide +kernel)) dX1_digestRoof_67 ?_
          refine lv_lmul hx hb dX1_digestRoof_70 ?_
          refine lv_topl (fun w51 ew51 => ?_)
          refine lv_aload_n hx hb dX1_digestRoof_71 rfl (lv_at hl 2 rfl) ?_
          refine lv_iload hx hb dX1_digestRoof_72 (lv_at hl 3 rfl) ?_
          refine lv_iload hx hb dX1_digestRoof_74 (lv_at hl 4 rfl) ?_
          refine lv_iload hx hb dX1_digestRoof_76 (lv_at hl 0 rfl) ?_
          have hPc := hP.sub (ws' := [(rh, .inr (0, [.int 10, .int 6, .int 30, .int 100, .int 0, .int 0, .ref rk, .ref rt, .ref rp, .ref rm])), (rt, .inl (cT, 60, .inl (fun _ => 0)))]) [0, 1] rfl
          have hKc := hK.sub (tys' := [(cT, .int)]) [0] rfl
          refine vp_callSi (va_runV (As := [.int (nI i), .int (nI j), .int 2]) (rest := [.long w51]) ⟨hx, hb, hml, hown, hts⟩ (r0_tellYealm2 l dC dI rh rk rt rp rm cT i j (by first | assumption | decide | omega) (by first | assumption | decide | omega)) (cwV 3 hts gX1_digestRoof_X0_tellYealm rfl rfl rfl (by decide +kernel) ⟨Nat.le_of_ble_eq_true rfl, Nat.le_of_ble_eq_true rfl⟩) ⟨fun a U g mk q => by obtain ⟨q0, qP, qK⟩ := q; exact ⟨q0, qP, va_K.moved (u := U) (U := U.calling g mk a) (Vm.Alike.refl U.vm) qK⟩, va_recv hKc hPc (ci := 0) (q0 := 0) rfl rfl, fun U hU hW => ⟨rfl, by rw [hU]; exact hPc, va_K.moved hW.alike hKc⟩⟩ rfl rfl hl.1 rfl (lv_room (Nat.le_of_ble_eq_true rfl)) dX1_digestRoof_78 ⟨Nat.le_of_ble_eq_true rfl, Nat.le_of_ble_eq_true rfl⟩).run (fun r52 hr52 => ?_)
          obtain rfl := hr52
          refine lv_i2l (v := 0) hx hb dX1_digestRoof_81 (by first | rfl | decide) ?_
          refine lv_ladd hx hb dX1_digestRoof_82 ?_
          refine lv_topl (fun w53 ew53 => ?_)
          refine lv_lstore_n (lv' := [(3, .long w53), (7, .int 2), (0, .ref rh), (5, .int (nI i)), (6, .int (nI j))]) hx hb dX1_digestRoof_83 rfl hl (by decide) rfl (fun ls hl => ?_)
          refine lv_iinc (v := 3) (lv' := [(7, .int 3), (3, .long w53), (0, .ref rh), (5, .int (nI i)), (6, .int (nI j))]) hx hb dX1_digestRoof_84 hl (k := 1) rfl (by decide) (by decide) rfl (fun ls hl => ?_)
          refine lv_goto (tgt := 59) hx hb dX1_digestRoof_87 (by decide) ?_
          refine lv_iload hx hb dX1_digestRoof_59 (lv_at hl 0 rfl) ?_
          refine lv_bipush (v := 6) hx hb dX1_digestRoof_61 (by decide) ?_
          refine lv_icmp_ge (tgt := 90) hx hb dX1_digestRoof_63 (by decide) (fun c54 => absurd c54 (by decide)) (fun c54 => ?_)
          refine lv_lload_n hx hb dX1_digestRoof_66 rfl (lv_at hl 1 rfl) ?_
          refine lv_ldc2 (v := 31) hx hb hown (hts (.constantLong RX1 199 31) (by decide +kernel)) dX1_digestRoof_67 ?_
          refine lv_lmul hx hb dX1_digestRoof_70 ?_
          refine lv_topl (fun w55 ew55 => ?_)
          refine lv_aload_n hx hb dX1_digestRoof_71 rfl (lv_at hl 2 rfl) ?_
          refine lv_iload hx hb dX1_digestRoof_72 (lv_at hl 3 rfl) ?_
          refine lv_iload hx hb dX1_digestRoof_74 (lv_at hl 4 rfl) ?_
          refine lv_iload hx hb dX1_digestRoof_76 (lv_at hl 0 rfl) ?_
          have hPc := hP.sub (ws' := [(rh, .inr (0, [.int 10, .int 6, .int 30, .int 100, .int 0, .int 0, .ref rk, .ref rt, .ref rp, .ref rm])), (rt, .inl (cT, 60, .inl (fun _ => 0)))]) [0, 1] rfl
          have hKc := hK.sub (tys' := [(cT, .int)]) [0] rfl
          refine vp_callSi (va_runV (As := [.int (nI i), .int (nI j), .int 3]) (rest := [.long w55]) ⟨hx, hb, hml, hown, hts⟩ (r0_tellYealm3 l dC dI rh rk rt rp rm cT i j (by first | assumption | decide | omega) (by first | assumption | decide | omega)) (cwV 3 hts gX1_digestRoof_X0_tellYealm rfl rfl rfl (by decide +kernel) ⟨Nat.le_of_ble_eq_true rfl, Nat.le_of_ble_eq_true rfl⟩) ⟨fun a U g mk q => by obtain ⟨q0, qP, qK⟩ := q; exact ⟨q0, qP, va_K.moved (u := U) (U := U.calling g mk a) (Vm.Alike.refl U.vm) qK⟩, va_recv hKc hPc (ci := 0) (q0 := 0) rfl rfl, fun U hU hW => ⟨rfl, by rw [hU]; exact hPc, va_K.moved hW.alike hKc⟩⟩ rfl rfl hl.1 rfl (lv_room (Nat.le_of_ble_eq_true rfl)) dX1_digestRoof_78 ⟨Nat.le_of_ble_eq_true rfl, Nat.le_of_ble_eq_true rfl⟩).run (fun r56 hr56 => ?_)
          obtain rfl := hr56
          refine lv_i2l (v := 0) hx hb dX1_digestRoof_81 (by first | rfl | decide) ?_
          refine lv_ladd hx hb dX1_digestRoof_82 ?_
          refine lv_topl (fun w57 ew57 => ?_)
          refine lv_lstore_n (lv' := [(3, .long w57), (7, .int 3), (0, .ref rh), (5, .int (nI i)), (6, .int (nI j))]) hx hb dX1_digestRoof_83 rfl hl (by decide) rfl (fun ls hl => ?_)
          refine lv_iinc (v := 4) (lv' := [(7, .int 4), (3, .long w57), (0, .ref rh), (5, .int (nI i)), (6, .int (nI j))]) hx hb dX1_digestRoof_84 hl (k := 1) rfl (by decide) (by decide) rfl (fun ls hl => ?_)
          refine lv_goto (tgt := 59) hx hb dX1_digestRoof_87 (by decide) ?_
          refine lv_iload hx hb dX1_digestRoof_59 (lv_at hl 0 rfl) ?_
          refine lv_bipush (v := 6) hx hb dX1_digestRoof_61 (by decide) ?_
          refine lv_icmp_ge (tgt := 90) hx hb dX1_digestRoof_63 (by decide) (fun c58 => absurd c58 (by decide)) (fun c58 => ?_)
          refine lv_lload_n hx hb dX1_digestRoof_66 rfl (lv_at hl 1 rfl) ?_
          refine lv_ldc2 (v := 31) hx hb hown (hts (.constantLong RX1 199 31) (by decide +kernel)) dX1_digestRoof_67 ?_
          refine lv_lmul hx hb dX1_digestRoof_70 ?_
          refine lv_topl (fun w59 ew59 => ?_)
          refine lv_aload_n hx hb dX1_digestRoof_71 rfl (lv_at hl 2 rfl) ?_
          refine lv_iload hx hb dX1_digestRoof_72 (lv_at hl 3 rfl) ?_
          refine lv_iload hx hb dX1_digestRoof_74 (lv_at hl 4 rfl) ?_
          refine lv_iload hx hb dX1_digestRoof_76 (lv_at hl 0 rfl) ?_
          have hPc := hP.sub (ws' := [(rh, .inr (0, [.int 10, .int 6, .int 30, .int 100, .int 0, .int 0, .ref rk, .ref rt, .ref rp, .ref rm])), (rt, .inl (cT, 60, .inl (fun _ => 0)))]) [0, 1] rfl
          have hKc := hK.sub (tys' := [(cT, .int)]) [0] rfl
          refine vp_callSi (va_runV (As := [.int (nI i), .int (nI j), .int 4]) (rest := [.long w59]) ⟨hx, hb, hml, hown, hts⟩ (r0_tellYealm4 l dC dI rh rk rt rp rm cT i j (by first | assumption | decide | omega) (by first | assumption | decide | omega)) (cwV 3 hts gX1_digestRoof_X0_tellYealm rfl rfl rfl (by decide +kernel) ⟨Nat.le_of_ble_eq_true rfl, Nat.le_of_ble_eq_true rfl⟩) ⟨fun a U g mk q => by obtain ⟨q0, qP, qK⟩ := q; exact ⟨q0, qP, va_K.moved (u := U) (U := U.calling g mk a) (Vm.Alike.refl U.vm) qK⟩, va_recv hKc hPc (ci := 0) (q0 := 0) rfl rfl, fun U hU hW => ⟨rfl, by rw [hU]; exact hPc, va_K.moved hW.alike hKc⟩⟩ rfl rfl hl.1 rfl (lv_room (Nat.le_of_ble_eq_true rfl)) dX1_digestRoof_78 ⟨Nat.le_of_ble_eq_true rfl, Nat.le_of_ble_eq_true rfl⟩).run (fun r60 hr60 => ?_)
          obtain rfl := hr60
          refine lv_i2l (v := 0) hx hb dX1_digestRoof_81 (by first | rfl | decide) ?_
          refine lv_ladd hx hb dX1_digestRoof_82 ?_
          refine lv_topl (fun w61 ew61 => ?_)
          refine lv_lstore_n (lv' := [(3, .long w61), (7, .int 4), (0, .ref rh), (5, .int (nI i)), (6, .int (nI j))]) hx hb dX1_digestRoof_83 rfl hl (by decide) rfl (fun ls hl => ?_)
          refine lv_iinc (v := 5) (lv' := [(7, .int 5), (3, .long w61), (0, .ref rh), (5, .int (nI i)), (6, .int (nI j))]) hx hb dX1_digestRoof_84 hl (k := 1) rfl (by decide) (by decide) rfl (fun ls hl => ?_)
          refine lv_goto (tgt := 59) hx hb dX1_digestRoof_87 (by decide) ?_
          refine lv_iload hx hb dX1_digestRoof_59 (lv_at hl 0 rfl) ?_
          refine lv_bipush (v := 6) hx hb dX1_digestRoof_61 (by decide) ?_
          refine lv_icmp_ge (tgt := 90) hx hb dX1_digestRoof_63 (by decide) (fun c62 => absurd c62 (by decide)) (fun c62 => ?_)
          refine lv_lload_n hx hb dX1_digestRoof_66 rfl (lv_at hl 1 rfl) ?_
          refine lv_ldc2 (v := 31) hx hb hown (hts (.constantLong RX1 199 31) (by decide +kernel)) dX1_digestRoof_67 ?_
          refine lv_lmul hx hb dX1_digestRoof_70 ?_
          refine lv_topl (fun w63 ew63 => ?_)
          refine lv_aload_n hx hb dX1_digestRoof_71 rfl (lv_at hl 2 rfl) ?_
          refine lv_iload hx hb dX1_digestRoof_72 (lv_at hl 3 rfl) ?_
          refine lv_iload hx hb dX1_digestRoof_74 (lv_at hl 4 rfl) ?_
          refine lv_iload hx hb dX1_digestRoof_76 (lv_at hl 0 rfl) ?_
          have hPc := hP.sub (ws' := [(rh, .inr (0, [.int 10, .int 6, .int 30, .int 100, .int 0, .int 0, .ref rk, .ref rt, .ref rp, .ref rm])), (rt, .inl (cT, 60, .inl (fun _ => 0)))]) [0, 1] rfl
          have hKc := hK.sub (tys' := [(cT, .int)]) [0] rfl
          refine vp_callSi (va_runV (As := [.int (nI i), .int (nI j), .int 5]) (rest := [.long w63]) ⟨hx, hb, hml, hown, hts⟩ (r0_tellYealm5 l dC dI rh rk rt rp rm cT i j (by first | assumption | decide | omega) (by first | assumption | decide | omega)) (cwV 3 hts gX1_digestRoof_X0_tellYealm rfl rfl rfl (by decide +kernel) ⟨Nat.le_of_ble_eq_true rfl, Nat.le_of_ble_eq_true rfl⟩) ⟨fun a U g mk q => by obtain ⟨q0, qP, qK⟩ := q; exact ⟨q0, qP, va_K.moved (u := U) (U := U.calling g mk a) (Vm.Alike.refl U.vm) qK⟩, va_recv hKc hPc (ci := 0) (q0 := 0) rfl rfl, fun U hU hW => ⟨rfl, by rw [hU]; exact hPc, va_K.moved hW.alike hKc⟩⟩ rfl rfl hl.1 rfl (lv_room (Nat.le_of_ble_eq_true rfl)) dX1_digestRoof_78 ⟨Nat.le_of_ble_eq_true rfl, Nat.le_of_ble_eq_true rfl⟩).run (fun r64 hr64 => ?_)
          obtain rfl := hr64
          refine lv_i2l (v := 0) hx hb dX1_digestRoof_81 (by first | rfl | decide) ?_
          refine lv_ladd hx hb dX1_digestRoof_82 ?_
          refine lv_topl (fun w65 ew65 => ?_)
          refine lv_lstore_n (lv' := [(3, .long w65), (7, .int 5), (0, .ref rh), (5, .int (nI i)), (6, .int (nI j))]) hx hb dX1_digestRoof_83 rfl hl (by decide) rfl (fun ls hl => ?_)
          refine lv_iinc (v := 6) (lv' := [(7, .int 6), (3, .long w65), (0, .ref rh), (5, .int (nI i)), (6, .int (nI j))]) hx hb dX1_digestRoof_84 hl (k := 1) rfl (by decide) (by decide) rfl (fun ls hl => ?_)
          refine lv_goto (tgt := 59) hx hb dX1_digestRoof_87 (by decide) ?_
          refine lv_iload hx hb dX1_digestRoof_59 (lv_at hl 0 rfl) ?_
          refine lv_bipush (v := 6) hx hb dX1_digestRoof_61 (by decide) ?_
          refine lv_icmp_ge (tgt := 90) hx hb dX1_digestRoof_63 (by decide) (fun c66 => ?_) (fun c66 => absurd c66 (by decide))
          refine lv_iinc (v := nI (j + 1)) (lv' := [(6, .int (nI (j + 1))), (7, .int 6), (3, .long w65), (0, .ref rh), (5, .int (nI i))]) hx hb dX1_digestRoof_90 hl (k := 4) rfl (by exact nI_1 j) (by decide) rfl (fun ls hl => ?_)
          refine lv_goto (tgt := 47) hx hb dX1_digestRoof_93 (by decide) ?_
          exact ih47 (j + 1) w65 (by omega) (by rw [ew65, ew63, ew61, ew59, ew57, ew55, ew53, ew51, ew49, ew47, ew45, ew43, hdb]; rfl) (by omega) _ (lv_sub hl [3, 2, 4, 0] rfl)

set_option maxHeartbeats 4000000 in
set_option maxRecDepth 100000 in
theorem r1_digest (l : Launch) (dC : Nat → ClassId) (dI : Nat → Nat → Nat) (h : Nat) (ro : Nat) (ba : Nat) (ra : Nat) (su : Nat) (tr : Nat) (cR : ClassId) (fr : Nat → Option Nat) (cB : ClassId) (cA : ClassId) (fa : Nat → Int32) (cS : ClassId) (y0h : Nat) (y0k : Nat) (y0t : Nat) (y0p : Nat) (y0m : Nat) (Y0c : ClassId) (y1h : Nat) (y1k : Nat) (y1t : Nat) (y1p : Nat) (y1m : Nat) (Y1c : ClassId) (y2h : Nat) (y2k : Nat) (y2t : Nat) (y2p : Nat) (y2m : Nat) (Y2c : ClassId) (y3h : Nat) (y3k : Nat) (y3t : Nat) (y3p : Nat) (y3m : Nat) (Y3c : ClassId) (y4h : Nat) (y4k : Nat) (y4t : Nat) (y4p : Nat) (y4m : Nat) (Y4c : ClassId) (y5h : Nat) (y5k : Nat) (y5t : Nat) (y5p : Nat) (y5m : Nat) (Y5c : ClassId) (hy0 : fr 0 = some y0h) (hy1 : fr 1 = some y1h) (hy2 : fr 2 = some y2h) (hy3 : fr 3 = some y3h) (hy4 : fr 4 = some y4h) (hy5 : fr 5 = some y5h) (hra : ∀ j : Nat, j < 12 → fa j = 4) : Met l yX1_digest wsX1_digest ({ frames := 6, cells := 0, slots := 0, locals := 133 }) (va_Pc [.ref h] (fun U => va_P (dC, dI) vwCl [(h, .inr (1, [.ref ro, .int 6, .ref ba, .ref ra, .ref su, .int 0, .ref tr])), (ro, .inl (cR, 6, .inr (.inr (.inr (.inr fr))))), (ba, .inl (cB, 3, .inl (fun _ => 0))), (ra, .inl (cA, 12, .inl fa)), (su, .inl (cS, 12, .inl (fun _ => 0))), (y0h, .inr (0, [.int 10, .int 6, .int 30, .int 100, .int 0, .int 0, .ref y0k, .ref y0t, .ref y0p, .ref y0m])), (y0t, .inl (Y0c, 60, .inl (fun _ => 0))), (y1h, .inr (0, [.int 10, .int 6, .int 30, .int 100, .int 0, .int 0, .ref y1k, .ref y1t, .ref y1p, .ref y1m])), (y1t, .inl (Y1c, 60, .inl (fun _ => 0))), (y2h, .inr (0, [.int 10, .int 6, .int 30, .int 100, .int 0, .int 0, .ref y2k, .ref y2t, .ref y2p, .ref y2m])), (y2t, .inl (Y2c, 60, .inl (fun _ => 0))), (y3h, .inr (0, [.int 10, .int 6, .int 30, .int 100, .int 0, .int 0, .ref y3k, .ref y3t, .ref y3p, .ref y3m])), (y3t, .inl (Y3c, 60, .inl (fun _ => 0))), (y4h, .inr (0, [.int 10, .int 6, .int 30, .int 100, .int 0, .int 0, .ref y4k, .ref y4t, .ref y4p, .ref y4m])), (y4t, .inl (Y4c, 60, .inl (fun _ => 0))), (y5h, .inr (0, [.int 10, .int 6, .int 30, .int 100, .int 0, .int 0, .ref y5k, .ref y5t, .ref y5p, .ref y5m])), (y5t, .inl (Y5c, 60, .inl (fun _ => 0)))] U.heap ∧ va_K (dC, dI) vwCl [(cR, .object RX0), (cB, .int), (cA, .int), (cS, .int), (Y0c, .int), (Y1c, .int), (Y2c, .int), (Y3c, .int), (Y4c, .int), (Y5c, .int)] U)) (vp_Sl (fun r : Int64 => r = (zz_rf (zz_rf (zz_rf (zz_rf (zz_rf (zz_rf 2576564512762243823)))))))) 0 0 (fun _ => False) := by
  refine Met.ofW (cc := cX1_digest) (maxL := 5) (ret := (some .long)) (by decide) rfl ?_
  intro p e s m args below meth c s₁ B hml hv
  obtain ⟨rfl, hP, hK⟩ := hv
  have hx := B.exec
  have hb := B.bytes
  have hr := B.returns
  have hts := atoms_spec (ws := wsX1_digest) B.pre
  have hown : s.vm.findClass RX1 = some m.cls := findClass_of_methodNamed B.named
  have hlocks := B.notSynchronized
  have hP : va_P (dC, dI) vwCl [(h, .inr (1, [.ref ro, .int 6, .ref ba, .ref ra, .ref su, .int 0, .ref tr])), (ro, .inl (cR, 6, .inr (.inr (.inr (.inr fr))))), (ba, .inl (cB, 3, .inl (fun _ => 0))), (ra, .inl (cA, 12, .inl fa)), (su, .inl (cS, 12, .inl (fun _ => 0))), (y0h, .inr (0, [.int 10, .int 6, .int 30, .int 100, .int 0, .int 0, .ref y0k, .ref y0t, .ref y0p, .ref y0m])), (y0t, .inl (Y0c, 60, .inl (fun _ => 0))), (y1h, .inr (0, [.int 10, .int 6, .int 30, .int 100, .int 0, .int 0, .ref y1k, .ref y1t, .ref y1p, .ref y1m])), (y1t, .inl (Y1c, 60, .inl (fun _ => 0))), (y2h, .inr (0, [.int 10, .int 6, .int 30, .int 100, .int 0, .int 0, .ref y2k, .ref y2t, .ref y2p, .ref y2m])), (y2t, .inl (Y2c, 60, .inl (fun _ => 0))), (y3h, .inr (0, [.int 10, .int 6, .int 30, .int 100, .int 0, .int 0, .ref y3k, .ref y3t, .ref y3p, .ref y3m])), (y3t, .inl (Y3c, 60, .inl (fun _ => 0))), (y4h, .inr (0, [.int 10, .int 6, .int 30, .int 100, .int 0, .int 0, .ref y4k, .ref y4t, .ref y4p, .ref y4m])), (y4t, .inl (Y4c, 60, .inl (fun _ => 0))), (y5h, .inr (0, [.int 10, .int 6, .int 30, .int 100, .int 0, .int 0, .ref y5k, .ref y5t, .ref y5p, .ref y5m])), (y5t, .inl (Y5c, 60, .inl (fun _ => 0)))] s.heap := hP
  have hl := lv_entry ([.ref h]) (n := 5) (Nat.le_of_ble_eq_true rfl)
  rw [lg_entry_eq]
  generalize (lg_sl ([.ref h]) ++ List.replicate (5 - (lg_sl ([.ref h])).length) Slot.unset).toArray = ls at hl ⊢
  have hl : lv_has ls 5 [(0, .ref h)] := hl
  refine lv_ldc2 (v := 739) hx hb hown (hts (.constantLong RX1 197 739) (by decide +kernel)) dX1_digest_0 ?_
  refine lv_lstore_n (lv' := [(1, .long 739), (0, .ref h)]) hx hb dX1_digest_3 rfl hl (by decide) rfl (fun ls hl => ?_)
  refine lv_iconst (v := 0) hx hb dX1_digest_4 (by decide) ?_
  refine lv_istore_n (lv' := [(3, .int 0), (1, .long 739), (0, .ref h)]) hx hb dX1_digest_5 rfl hl (by decide) rfl (fun ls hl => ?_)
  refine lv_iload_n hx hb dX1_digest_6 rfl (lv_at hl 0 rfl) ?_
  refine lv_bipush (v := 9) hx hb dX1_digest_7 (by decide) ?_
  refine lv_icmp_ge (tgt := 31) hx hb dX1_digest_9 (by decide) (fun c1 => absurd c1 (by decide)) (fun c1 => ?_)
  refine lv_lload_n hx hb dX1_digest_12 rfl (lv_at hl 1 rfl) ?_
  refine lv_ldc2 (v := 31) hx hb hown (hts (.constantLong RX1 199 31) (by decide +kernel)) dX1_digest_13 ?_
  refine lv_lmul hx hb dX1_digest_16 ?_
  refine W.eq (g2 := F0 m 17 ls [.long 22909]) rfl ?_
  refine lv_aload_n hx hb dX1_digest_17 rfl (lv_at hl 2 rfl) ?_
  refine lv_iload_n hx hb dX1_digest_18 rfl (lv_at hl 0 rfl) ?_
  have hPc := hP.sub (ws' := [(h, .inr (1, [.ref ro, .int 6, .ref ba, .ref ra, .ref su, .int 0, .ref tr])), (ro, .inl (cR, 6, .inr (.inr (.inr (.inr fr))))), (ba, .inl (cB, 3, .inl (fun _ => 0))), (ra, .inl (cA, 12, .inl fa)), (su, .inl (cS, 12, .inl (fun _ => 0))), (y0h, .inr (0, [.int 10, .int 6, .int 30, .int 100, .int 0, .int 0, .ref y0k, .ref y0t, .ref y0p, .ref y0m])), (y0t, .inl (Y0c, 60, .inl (fun _ => 0))), (y1h, .inr (0, [.int 10, .int 6, .int 30, .int 100, .int 0, .int 0, .ref y1k, .ref y1t, .ref y1p, .ref y1m])), (y1t, .inl (Y1c, 60, .inl (fun _ => 0))), (y2h, .inr (0, [.int 10, .int 6, .int 30, .int 100, .int 0, .int 0, .ref y2k, .ref y2t, .ref y2p, .ref y2m])), (y2t, .inl (Y2c, 60, .inl (fun _ => 0))), (y3h, .inr (0, [.int 10, .int 6, .int 30, .int 100, .int 0, .int 0, .ref y3k, .ref y3t, .ref y3p, .ref y3m])), (y3t, .inl (Y3c, 60, .inl (fun _ => 0))), (y4h, .inr (0, [.int 10, .int 6, .int 30, .int 100, .int 0, .int 0, .ref y4k, .ref y4t, .ref y4p, .ref y4m])), (y4t, .inl (Y4c, 60, .inl (fun _ => 0))), (y5h, .inr (0, [.int 10, .int 6, .int 30, .int 100, .int 0, .int 0, .ref y5k, .ref y5t, .ref y5p, .ref y5m])), (y5t, .inl (Y5c, 60, .inl (fun _ => 0)))]) [0, 1, 2, 3, 4, 5, 6, 7, 8, 9, 10, 11, 12, 13, 14, 15, 16] rfl
  have hKc := hK.sub (tys' := [(cR, .object RX0), (cB, .int), (cA, .int), (cS, .int), (Y0c, .int), (Y1c, .int), (Y2c, .int), (Y3c, .int), (Y4c, .int), (Y5c, .int)]) [0, 1, 2, 3, 4, 5, 6, 7, 8, 9] rfl
  refine vp_callSi (va_runV (As := [.int 0]) (rest := [.long 22909]) ⟨hx, hb, hml, hown, hts⟩ (r1_tally0 l dC dI h ro ba ra su tr cR fr cB cA fa cS y0h y0k y0t y0p y0m Y0c y1h y1k y1t y1p y1m Y1c y2h y2k y2t y2p y2m Y2c y3h y3k y3t y3p y3m Y3c y4h y4k y4t y4p y4m Y4c y5h y5k y5t y5p y5m Y5c (by first | assumption | decide | omega) (by first | assumption | decide | omega) (by first | assumption | decide | omega) (by first | assumption | decide | omega) (by first | assumption | decide | omega) (by first | assumption | decide | omega) (by first | assumption | decide | omega)) (cwV 1 hts gX1_digest_X1_tally rfl rfl rfl (by decide +kernel) ⟨Nat.le_of_ble_eq_true rfl, Nat.le_of_ble_eq_true rfl⟩) ⟨fun a U g mk q => by obtain ⟨q0, qP, qK⟩ := q; exact ⟨q0, qP, va_K.moved (u := U) (U := U.calling g mk a) (Vm.Alike.refl U.vm) qK⟩, va_recv hKc hPc (ci := 1) (q0 := 0) rfl rfl, fun U hU hW => ⟨rfl, by rw [hU]; exact hPc, va_K.moved hW.alike hKc⟩⟩ rfl rfl hl.1 rfl (lv_room (Nat.le_of_ble_eq_true rfl)) dX1_digest_19 ⟨Nat.le_of_ble_eq_true rfl, Nat.le_of_ble_eq_true rfl⟩).run (fun r2 hr2 => ?_)
  obtain rfl := hr2
  refine lv_i2l (v := 0) hx hb dX1_digest_22 (by first | rfl | decide) ?_
  refine lv_ladd hx hb dX1_digest_23 ?_
  refine W.eq (g2 := F0 m 24 ls [.long 22909]) rfl ?_
  refine lv_lstore_n (lv' := [(1, .long 22909), (3, .int 0), (0, .ref h)]) hx hb dX1_digest_24 rfl hl (by decide) rfl (fun ls hl => ?_)
  refine lv_iinc (v := 1) (lv' := [(3, .int 1), (1, .long 22909), (0, .ref h)]) hx hb dX1_digest_25 hl (k := 1) rfl (by decide) (by decide) rfl (fun ls hl => ?_)
  refine lv_goto (tgt := 6) hx hb dX1_digest_28 (by decide) ?_
  refine lv_iload_n hx hb dX1_digest_6 rfl (lv_at hl 0 rfl) ?_
  refine lv_bipush (v := 9) hx hb dX1_digest_7 (by decide) ?_
  refine lv_icmp_ge (tgt := 31) hx hb dX1_digest_9 (by decide) (fun c3 => absurd c3 (by decide)) (fun c3 => ?_)
  refine lv_lload_n hx hb dX1_digest_12 rfl (lv_at hl 1 rfl) ?_
  refine lv_ldc2 (v := 31) hx hb hown (hts (.constantLong RX1 199 31) (by decide +kernel)) dX1_digest_13 ?_
  refine lv_lmul hx hb dX1_digest_16 ?_
  refine W.eq (g2 := F0 m 17 ls [.long 710179]) rfl ?_
  refine lv_aload_n hx hb dX1_digest_17 rfl (lv_at hl 2 rfl) ?_
  refine lv_iload_n hx hb dX1_digest_18 rfl (lv_at hl 0 rfl) ?_
  have hPc := hP.sub (ws' := [(h, .inr (1, [.ref ro, .int 6, .ref ba, .ref ra, .ref su, .int 0, .ref tr])), (ro, .inl (cR, 6, .inr (.inr (.inr (.inr fr))))), (ba, .inl (cB, 3, .inl (fun _ => 0))), (ra, .inl (cA, 12, .inl fa)), (su, .inl (cS, 12, .inl (fun _ => 0))), (y0h, .inr (0, [.int 10, .int 6, .int 30, .int 100, .int 0, .int 0, .ref y0k, .ref y0t, .ref y0p, .ref y0m])), (y0t, .inl (Y0c, 60, .inl (fun _ => 0))), (y1h, .inr (0, [.int 10, .int 6, .int 30, .int 100, .int 0, .int 0, .ref y1k, .ref y1t, .ref y1p, .ref y1m])), (y1t, .inl (Y1c, 60, .inl (fun _ => 0))), (y2h, .inr (0, [.int 10, .int 6, .int 30, .int 100, .int 0, .int 0, .ref y2k, .ref y2t, .ref y2p, .ref y2m])), (y2t, .inl (Y2c, 60, .inl (fun _ => 0))), (y3h, .inr (0, [.int 10, .int 6, .int 30, .int 100, .int 0, .int 0, .ref y3k, .ref y3t, .ref y3p, .ref y3m])), (y3t, .inl (Y3c, 60, .inl (fun _ => 0))), (y4h, .inr (0, [.int 10, .int 6, .int 30, .int 100, .int 0, .int 0, .ref y4k, .ref y4t, .ref y4p, .ref y4m])), (y4t, .inl (Y4c, 60, .inl (fun _ => 0))), (y5h, .inr (0, [.int 10, .int 6, .int 30, .int 100, .int 0, .int 0, .ref y5k, .ref y5t, .ref y5p, .ref y5m])), (y5t, .inl (Y5c, 60, .inl (fun _ => 0)))]) [0, 1, 2, 3, 4, 5, 6, 7, 8, 9, 10, 11, 12, 13, 14, 15, 16] rfl
  have hKc := hK.sub (tys' := [(cR, .object RX0), (cB, .int), (cA, .int), (cS, .int), (Y0c, .int), (Y1c, .int), (Y2c, .int), (Y3c, .int), (Y4c, .int), (Y5c, .int)]) [0, 1, 2, 3, 4, 5, 6, 7, 8, 9] rfl
  refine vp_callSi (va_runV (As := [.int 1]) (rest := [.long 710179]) ⟨hx, hb, hml, hown, hts⟩ (r1_tally1 l dC dI h ro ba ra su tr cR fr cB cA fa cS y0h y0k y0t y0p y0m Y0c y1h y1k y1t y1p y1m Y1c y2h y2k y2t y2p y2m Y2c y3h y3k y3t y3p y3m Y3c y4h y4k y4t y4p y4m Y4c y5h y5k y5t y5p y5m Y5c (by first | assumption | decide | omega) (by first | assumption | decide | omega) (by first | assumption | decide | omega) (by first | assumption | decide | omega) (by first | assumption | decide | omega) (by first | assumption | decide | omega) (by first | assumption | decide | omega)) (cwV 1 hts gX1_digest_X1_tally rfl rfl rfl (by decide +kernel) ⟨Nat.le_of_ble_eq_true rfl, Nat.le_of_ble_eq_true rfl⟩) ⟨fun a U g mk q => by obtain ⟨q0, qP, qK⟩ := q; exact ⟨q0, qP, va_K.moved (u := U) (U := U.calling g mk a) (Vm.Alike.refl U.vm) qK⟩, va_recv hKc hPc (ci := 1) (q0 := 0) rfl rfl, fun U hU hW => ⟨rfl, by rw [hU]; exact hPc, va_K.moved hW.alike hKc⟩⟩ rfl rfl hl.1 rfl (lv_room (Nat.le_of_ble_eq_true rfl)) dX1_digest_19 ⟨Nat.le_of_ble_eq_true rfl, Nat.le_of_ble_eq_true rfl⟩).run (fun r4 hr4 => ?_)
  obtain rfl := hr4
  refine lv_i2l (v := 6) hx hb dX1_digest_22 (by first | rfl | decide) ?_
  refine lv_ladd hx hb dX1_digest_23 ?_
  refine W.eq (g2 := F0 m 24 ls [.long 710185]) rfl ?_
  refine lv_lstore_n (lv' := [(1, .long 710185), (3, .int 1), (0, .ref h)]) hx hb dX1_digest_24 rfl hl (by decide) rfl (fun ls hl => ?_)
  refine lv_iinc (v := 2) (lv' := [(3, .int 2), (1, .long 710185), (0, .ref h)]) hx hb dX1_digest_25 hl (k := 1) rfl (by decide) (by decide) rfl (fun ls hl => ?_)
  refine lv_goto (tgt := 6) hx hb dX1_digest_28 (by decide) ?_
  refine lv_iload_n hx hb dX1_digest_6 rfl (lv_at hl 0 rfl) ?_
  refine lv_bipush (v := 9) hx hb dX1_digest_7 (by decide) ?_
  refine lv_icmp_ge (tgt := 31) hx hb dX1_digest_9 (by decide) (fun c5 => absurd c5 (by decide)) (fun c5 => ?_)
  refine lv_lload_n hx hb dX1_digest_12 rfl (lv_at hl 1 rfl) ?_
  refine lv_ldc2 (v := 31) hx hb hown (hts (.constantLong RX1 199 31) (by decide +kernel)) dX1_digest_13 ?_
  refine lv_lmul hx hb dX1_digest_16 ?_
  refine W.eq (g2 := F0 m 17 ls [.long 22015735]) rfl ?_
  refine lv_aload_n hx hb dX1_digest_17 rfl (lv_at hl 2 rfl) ?_
  refine lv_iload_n hx hb dX1_digest_18 rfl (lv_at hl 0 rfl) ?_
  have hPc := hP.sub (ws' := [(h, .inr (1, [.ref ro, .int 6, .ref ba, .ref ra, .ref su, .int 0, .ref tr])), (ro, .inl (cR, 6, .inr (.inr (.inr (.inr fr))))), (ba, .inl (cB, 3, .inl (fun _ => 0))), (ra, .inl (cA, 12, .inl fa)), (su, .inl (cS, 12, .inl (fun _ => 0))), (y0h, .inr (0, [.int 10, .int 6, .int 30, .int 100, .int 0, .int 0, .ref y0k, .ref y0t, .ref y0p, .ref y0m])), (y0t, .inl (Y0c, 60, .inl (fun _ => 0))), (y1h, .inr (0, [.int 10, .int 6, .int 30, .int 100, .int 0, .int 0, .ref y1k, .ref y1t, .ref y1p, .ref y1m])), (y1t, .inl (Y1c, 60, .inl (fun _ => 0))), (y2h, .inr (0, [.int 10, .int 6, .int 30, .int 100, .int 0, .int 0, .ref y2k, .ref y2t, .ref y2p, .ref y2m])), (y2t, .inl (Y2c, 60, .inl (fun _ => 0))), (y3h, .inr (0, [.int 10, .int 6, .int 30, .int 100, .int 0, .int 0, .ref y3k, .ref y3t, .ref y3p, .ref y3m])), (y3t, .inl (Y3c, 60, .inl (fun _ => 0))), (y4h, .inr (0, [.int 10, .int 6, .int 30, .int 100, .int 0, .int 0, .ref y4k, .ref y4t, .ref y4p, .ref y4m])), (y4t, .inl (Y4c, 60, .inl (fun _ => 0))), (y5h, .inr (0, [.int 10, .int 6, .int 30, .int 100, .int 0, .int 0, .ref y5k, .ref y5t, .ref y5p, .ref y5m])), (y5t, .inl (Y5c, 60, .inl (fun _ => 0)))]) [0, 1, 2, 3, 4, 5, 6, 7, 8, 9, 10, 11, 12, 13, 14, 15, 16] rfl
  have hKc := hK.sub (tys' := [(cR, .object RX0), (cB, .int), (cA, .int), (cS, .int), (Y0c, .int), (Y1c, .int), (Y2c, .int), (Y3c, .int), (Y4c, .int), (Y5c, .int)]) [0, 1, 2, 3, 4, 5, 6, 7, 8, 9] rfl
  refine vp_callSi (va_runV (As := [.int 2]) (rest := [.long 22015735]) ⟨hx, hb, hml, hown, hts⟩ (r1_tally2 l dC dI h ro ba ra su tr cR fr cB cA fa cS y0h y0k y0t y0p y0m Y0c y1h y1k y1t y1p y1m Y1c y2h y2k y2t y2p y2m Y2c y3h y3k y3t y3p y3m Y3c y4h y4k y4t y4p y4m Y4c y5h y5k y5t y5p y5m Y5c (by first | assumption | decide | omega) (by first | assumption | decide | omega) (by first | assumption | decide | omega) (by first | assumption | decide | omega) (by first | assumption | decide | omega) (by first | assumption | decide | omega) (by first | assumption | decide | omega)) (cwV 1 hts gX1_digest_X1_tally rfl rfl rfl (by decide +kernel) ⟨Nat.le_of_ble_eq_true rfl, Nat.le_of_ble_eq_true rfl⟩) ⟨fun a U g mk q => by obtain ⟨q0, qP, qK⟩ := q; exact ⟨q0, qP, va_K.moved (u := U) (U := U.calling g mk a) (Vm.Alike.refl U.vm) qK⟩, va_recv hKc hPc (ci := 1) (q0 := 0) rfl rfl, fun U hU hW => ⟨rfl, by rw [hU]; exact hPc, va_K.moved hW.alike hKc⟩⟩ rfl rfl hl.1 rfl (lv_room (Nat.le_of_ble_eq_true rfl)) dX1_digest_19 ⟨Nat.le_of_ble_eq_true rfl, Nat.le_of_ble_eq_true rfl⟩).run (fun r6 hr6 => ?_)
  obtain rfl := hr6
  refine lv_i2l (v := 0) hx hb dX1_digest_22 (by first | rfl | decide) ?_
  refine lv_ladd hx hb dX1_digest_23 ?_
  refine W.eq (g2 := F0 m 24 ls [.long 22015735]) rfl ?_
  refine lv_lstore_n (lv' := [(1, .long 22015735), (3, .int 2), (0, .ref h)]) hx hb dX1_digest_24 rfl hl (by decide) rfl (fun ls hl => ?_)
  refine lv_iinc (v := 3) (lv' := [(3, .int 3), (1, .long 22015735), (0, .ref h)]) hx hb dX1_digest_25 hl (k := 1) rfl (by decide) (by decide) rfl (fun ls hl => ?_)
  refine lv_goto (tgt := 6) hx hb dX1_digest_28 (by decide) ?_
  refine lv_iload_n hx hb dX1_digest_6 rfl (lv_at hl 0 rfl) ?_
  refine lv_bipush (v := 9) hx hb dX1_digest_7 (by decide) ?_
  refine lv_icmp_ge (tgt := 31) hx hb dX1_digest_9 (by decide) (fun c7 => absurd c7 (by decide)) (fun c7 => ?_)
  refine lv_lload_n hx hb dX1_digest_12 rfl (lv_at hl 1 rfl) ?_
  refine lv_ldc2 (v := 31) hx hb hown (hts (.constantLong RX1 199 31) (by decide +kernel)) dX1_digest_13 ?_
  refine lv_lmul hx hb dX1_digest_16 ?_
  refine W.eq (g2 := F0 m 17 ls [.long 682487785]) rfl ?_
  refine lv_aload_n hx hb dX1_digest_17 rfl (lv_at hl 2 rfl) ?_
  refine lv_iload_n hx hb dX1_digest_18 rfl (lv_at hl 0 rfl) ?_
  have hPc := hP.sub (ws' := [(h, .inr (1, [.ref ro, .int 6, .ref ba, .ref ra, .ref su, .int 0, .ref tr])), (ro, .inl (cR, 6, .inr (.inr (.inr (.inr fr))))), (ba, .inl (cB, 3, .inl (fun _ => 0))), (ra, .inl (cA, 12, .inl fa)), (su, .inl (cS, 12, .inl (fun _ => 0))), (y0h, .inr (0, [.int 10, .int 6, .int 30, .int 100, .int 0, .int 0, .ref y0k, .ref y0t, .ref y0p, .ref y0m])), (y0t, .inl (Y0c, 60, .inl (fun _ => 0))), (y1h, .inr (0, [.int 10, .int 6, .int 30, .int 100, .int 0, .int 0, .ref y1k, .ref y1t, .ref y1p, .ref y1m])), (y1t, .inl (Y1c, 60, .inl (fun _ => 0))), (y2h, .inr (0, [.int 10, .int 6, .int 30, .int 100, .int 0, .int 0, .ref y2k, .ref y2t, .ref y2p, .ref y2m])), (y2t, .inl (Y2c, 60, .inl (fun _ => 0))), (y3h, .inr (0, [.int 10, .int 6, .int 30, .int 100, .int 0, .int 0, .ref y3k, .ref y3t, .ref y3p, .ref y3m])), (y3t, .inl (Y3c, 60, .inl (fun _ => 0))), (y4h, .inr (0, [.int 10, .int 6, .int 30, .int 100, .int 0, .int 0, .ref y4k, .ref y4t, .ref y4p, .ref y4m])), (y4t, .inl (Y4c, 60, .inl (fun _ => 0))), (y5h, .inr (0, [.int 10, .int 6, .int 30, .int 100, .int 0, .int 0, .ref y5k, .ref y5t, .ref y5p, .ref y5m])), (y5t, .inl (Y5c, 60, .inl (fun _ => 0)))]) [0, 1, 2, 3, 4, 5, 6, 7, 8, 9, 10, 11, 12, 13, 14, 15, 16] rfl
  have hKc := hK.sub (tys' := [(cR, .object RX0), (cB, .int), (cA, .int), (cS, .int), (Y0c, .int), (Y1c, .int), (Y2c, .int), (Y3c, .int), (Y4c, .int), (Y5c, .int)]) [0, 1, 2, 3, 4, 5, 6, 7, 8, 9] rfl
  refine vp_callSi (va_runV (As := [.int 3]) (rest := [.long 682487785]) ⟨hx, hb, hml, hown, hts⟩ (r1_tally3 l dC dI h ro ba ra su tr cR fr cB cA fa cS y0h y0k y0t y0p y0m Y0c y1h y1k y1t y1p y1m Y1c y2h y2k y2t y2p y2m Y2c y3h y3k y3t y3p y3m Y3c y4h y4k y4t y4p y4m Y4c y5h y5k y5t y5p y5m Y5c (by first | assumption | decide | omega) (by first | assumption | decide | omega) (by first | assumption | decide | omega) (by first | assumption | decide | omega) (by first | assumption | decide | omega) (by first | assumption | decide | omega) (by first | assumption | decide | omega)) (cwV 1 hts gX1_digest_X1_tally rfl rfl rfl (by decide +kernel) ⟨Nat.le_of_ble_eq_true rfl, Nat.le_of_ble_eq_true rfl⟩) ⟨fun a U g mk q => by obtain ⟨q0, qP, qK⟩ := q; exact ⟨q0, qP, va_K.moved (u := U) (U := U.calling g mk a) (Vm.Alike.refl U.vm) qK⟩, va_recv hKc hPc (ci := 1) (q0 := 0) rfl rfl, fun U hU hW => ⟨rfl, by rw [hU]; exact hPc, va_K.moved hW.alike hKc⟩⟩ rfl rfl hl.1 rfl (lv_room (Nat.le_of_ble_eq_true rfl)) dX1_digest_19 ⟨Nat.le_of_ble_eq_true rfl, Nat.le_of_ble_eq_true rfl⟩).run (fun r8 hr8 => ?_)
  obtain rfl := hr8
  refine lv_i2l (v := 0) hx hb dX1_digest_22 (by first | rfl | decide) ?_
  refine lv_ladd hx hb dX1_digest_23 ?_
  refine W.eq (g2 := F0 m 24 ls [.long 682487785]) rfl ?_
  refine lv_lstore_n (lv' := [(1, .long 682487785), (3, .int 3), (0, .ref h)]) hx hb dX1_digest_24 rfl hl (by decide) rfl (fun ls hl => ?_)
  refine lv_iinc (v := 4) (lv' := [(3, .int 4), (1, .long 682487785), (0, .ref h)]) hx hb dX1_digest_25 hl (k := 1) rfl (by decide) (by decide) rfl (fun ls hl => ?_)
  refine lv_goto (tgt := 6) hx hb dX1_digest_28 (by decide) ?_
  refine lv_iload_n hx hb dX1_digest_6 rfl (lv_at hl 0 rfl) ?_
  refine lv_bipush (v := 9) hx hb dX1_digest_7 (by decide) ?_
  refine lv_icmp_ge (tgt := 31) hx hb dX1_digest_9 (by decide) (fun c9 => absurd c9 (by decide)) (fun c9 => ?_)
  refine lv_lload_n hx hb dX1_digest_12 rfl (lv_at hl 1 rfl) ?_
  refine lv_ldc2 (v := 31) hx hb hown (hts (.constantLong RX1 199 31) (by decide +kernel)) dX1_digest_13 ?_
  refine lv_lmul hx hb dX1_digest_16 ?_
  refine W.eq (g2 := F0 m 17 ls [.long 21157121335]) rfl ?_
  refine lv_aload_n hx hb dX1_digest_17 rfl (lv_at hl 2 rfl) ?_
  refine lv_iload_n hx hb dX1_digest_18 rfl (lv_at hl 0 rfl) ?_
  have hPc := hP.sub (ws' := [(h, .inr (1, [.ref ro, .int 6, .ref ba, .ref ra, .ref su, .int 0, .ref tr])), (ro, .inl (cR, 6, .inr (.inr (.inr (.inr fr))))), (ba, .inl (cB, 3, .inl (fun _ => 0))), (ra, .inl (cA, 12, .inl fa)), (su, .inl (cS, 12, .inl (fun _ => 0))), (y0h, .inr (0, [.int 10, .int 6, .int 30, .int 100, .int 0, .int 0, .ref y0k, .ref y0t, .ref y0p, .ref y0m])), (y0t, .inl (Y0c, 60, .inl (fun _ => 0))), (y1h, .inr (0, [.int 10, .int 6, .int 30, .int 100, .int 0, .int 0, .ref y1k, .ref y1t, .ref y1p, .ref y1m])), (y1t, .inl (Y1c, 60, .inl (fun _ => 0))), (y2h, .inr (0, [.int 10, .int 6, .int 30, .int 100, .int 0, .int 0, .ref y2k, .ref y2t, .ref y2p, .ref y2m])), (y2t, .inl (Y2c, 60, .inl (fun _ => 0))), (y3h, .inr (0, [.int 10, .int 6, .int 30, .int 100, .int 0, .int 0, .ref y3k, .ref y3t, .ref y3p, .ref y3m])), (y3t, .inl (Y3c, 60, .inl (fun _ => 0))), (y4h, .inr (0, [.int 10, .int 6, .int 30, .int 100, .int 0, .int 0, .ref y4k, .ref y4t, .ref y4p, .ref y4m])), (y4t, .inl (Y4c, 60, .inl (fun _ => 0))), (y5h, .inr (0, [.int 10, .int 6, .int 30, .int 100, .int 0, .int 0, .ref y5k, .ref y5t, .ref y5p, .ref y5m])), (y5t, .inl (Y5c, 60, .inl (fun _ => 0)))]) [0, 1, 2, 3, 4, 5, 6, 7, 8, 9, 10, 11, 12, 13, 14, 15, 16] rfl
  have hKc := hK.sub (tys' := [(cR, .object RX0), (cB, .int), (cA, .int), (cS, .int), (Y0c, .int), (Y1c, .int), (Y2c, .int), (Y3c, .int), (Y4c, .int), (Y5c, .int)]) [0, 1, 2, 3, 4, 5, 6, 7, 8, 9] rfl
  refine vp_callSi (va_runV (As := [.int 4]) (rest := [.long 21157121335]) ⟨hx, hb, hml, hown, hts⟩ (r1_tally4 l dC dI h ro ba ra su tr cR fr cB cA fa cS y0h y0k y0t y0p y0m Y0c y1h y1k y1t y1p y1m Y1c y2h y2k y2t y2p y2m Y2c y3h y3k y3t y3p y3m Y3c y4h y4k y4t y4p y4m Y4c y5h y5k y5t y5p y5m Y5c (by first | assumption | decide | omega) (by first | assumption | decide | omega) (by first | assumption | decide | omega) (by first | assumption | decide | omega) (by first | assumption | decide | omega) (by first | assumption | decide | omega) (by first | assumption | decide | omega)) (cwV 1 hts gX1_digest_X1_tally rfl rfl rfl (by decide +kernel) ⟨Nat.le_of_ble_eq_true rfl, Nat.le_of_ble_eq_true rfl⟩) ⟨fun a U g mk q => by obtain ⟨q0, qP, qK⟩ := q; exact ⟨q0, qP, va_K.moved (u := U) (U := U.calling g mk a) (Vm.Alike.refl U.vm) qK⟩, va_recv hKc hPc (ci := 1) (q0 := 0) rfl rfl, fun U hU hW => ⟨rfl, by rw [hU]; exact hPc, va_K.moved hW.alike hKc⟩⟩ rfl rfl hl.1 rfl (lv_room (Nat.le_of_ble_eq_true rfl)) dX1_digest_19 ⟨Nat.le_of_ble_eq_true rfl, Nat.le_of_ble_eq_true rfl⟩).run (fun r10 hr10 => ?_)
  obtain rfl := hr10
  refine lv_i2l (v := 0) hx hb dX1_digest_22 (by first | rfl | decide) ?_
  refine lv_ladd hx hb dX1_digest_23 ?_
  refine W.eq (g2 := F0 m 24 ls [.long 21157121335]) rfl ?_
  refine lv_lstore_n (lv' := [(1, .long 21157121335), (3, .int 4), (0, .ref h)]) hx hb dX1_digest_24 rfl hl (by decide) rfl (fun ls hl => ?_)
  refine lv_iinc (v := 5) (lv' := [(3, .int 5), (1, .long 21157121335), (0, .ref h)]) hx hb dX1_digest_25 hl (k := 1) rfl (by decide) (by decide) rfl (fun ls hl => ?_)
  refine lv_goto (tgt := 6) hx hb dX1_digest_28 (by decide) ?_
  refine lv_iload_n hx hb dX1_digest_6 rfl (lv_at hl 0 rfl) ?_
  refine lv_bipush (v := 9) hx hb dX1_digest_7 (by decide) ?_
  refine lv_icmp_ge (tgt := 31) hx hb dX1_digest_9 (by decide) (fun c11 => absurd c11 (by decide)) (fun c11 => ?_)
  refine lv_lload_n hx hb dX1_digest_12 rfl (lv_at hl 1 rfl) ?_
  refine lv_ldc2 (v := 31) hx hb hown (hts (.constantLong RX1 199 31) (by decide +kernel)) dX1_digest_13 ?_
  refine lv_lmul hx hb dX1_digest_16 ?_
  refine W.eq (g2 := F0 m 17 ls [.long 655870761385]) rfl ?_
  refine lv_aload_n hx hb dX1_digest_17 rfl (lv_at hl 2 rfl) ?_
  refine lv_iload_n hx hb dX1_digest_18 rfl (lv_at hl 0 rfl) ?_
  have hPc := hP.sub (ws' := [(h, .inr (1, [.ref ro, .int 6, .ref ba, .ref ra, .ref su, .int 0, .ref tr])), (ro, .inl (cR, 6, .inr (.inr (.inr (.inr fr))))), (ba, .inl (cB, 3, .inl (fun _ => 0))), (ra, .inl (cA, 12, .inl fa)), (su, .inl (cS, 12, .inl (fun _ => 0))), (y0h, .inr (0, [.int 10, .int 6, .int 30, .int 100, .int 0, .int 0, .ref y0k, .ref y0t, .ref y0p, .ref y0m])), (y0t, .inl (Y0c, 60, .inl (fun _ => 0))), (y1h, .inr (0, [.int 10, .int 6, .int 30, .int 100, .int 0, .int 0, .ref y1k, .ref y1t, .ref y1p, .ref y1m])), (y1t, .inl (Y1c, 60, .inl (fun _ => 0))), (y2h, .inr (0, [.int 10, .int 6, .int 30, .int 100, .int 0, .int 0, .ref y2k, .ref y2t, .ref y2p, .ref y2m])), (y2t, .inl (Y2c, 60, .inl (fun _ => 0))), (y3h, .inr (0, [.int 10, .int 6, .int 30, .int 100, .int 0, .int 0, .ref y3k, .ref y3t, .ref y3p, .ref y3m])), (y3t, .inl (Y3c, 60, .inl (fun _ => 0))), (y4h, .inr (0, [.int 10, .int 6, .int 30, .int 100, .int 0, .int 0, .ref y4k, .ref y4t, .ref y4p, .ref y4m])), (y4t, .inl (Y4c, 60, .inl (fun _ => 0))), (y5h, .inr (0, [.int 10, .int 6, .int 30, .int 100, .int 0, .int 0, .ref y5k, .ref y5t, .ref y5p, .ref y5m])), (y5t, .inl (Y5c, 60, .inl (fun _ => 0)))]) [0, 1, 2, 3, 4, 5, 6, 7, 8, 9, 10, 11, 12, 13, 14, 15, 16] rfl
  have hKc := hK.sub (tys' := [(cR, .object RX0), (cB, .int), (cA, .int), (cS, .int), (Y0c, .int), (Y1c, .int), (Y2c, .int), (Y3c, .int), (Y4c, .int), (Y5c, .int)]) [0, 1, 2, 3, 4, 5, 6, 7, 8, 9] rfl
  refine vp_callSi (va_runV (As := [.int 5]) (rest := [.long 655870761385]) ⟨hx, hb, hml, hown, hts⟩ (r1_tally5 l dC dI h ro ba ra su tr cR fr cB cA fa cS y0h y0k y0t y0p y0m Y0c y1h y1k y1t y1p y1m Y1c y2h y2k y2t y2p y2m Y2c y3h y3k y3t y3p y3m Y3c y4h y4k y4t y4p y4m Y4c y5h y5k y5t y5p y5m Y5c (by first | assumption | decide | omega) (by first | assumption | decide | omega) (by first | assumption | decide | omega) (by first | assumption | decide | omega) (by first | assumption | decide | omega) (by first | assumption | decide | omega) (by first | assumption | decide | omega)) (cwV 1 hts gX1_digest_X1_tally rfl rfl rfl (by decide +kernel) ⟨Nat.le_of_ble_eq_true rfl, Nat.le_of_ble_eq_true rfl⟩) ⟨fun a U g mk q => by obtain ⟨q0, qP, qK⟩ := q; exact ⟨q0, qP, va_K.moved (u := U) (U := U.calling g mk a) (Vm.Alike.refl U.vm) qK⟩, va_recv hKc hPc (ci := 1) (q0 := 0) rfl rfl, fun U hU hW => ⟨rfl, by rw [hU]; exact hPc, va_K.moved hW.alike hKc⟩⟩ rfl rfl hl.1 rfl (lv_room (Nat.le_of_ble_eq_true rfl)) dX1_digest_19 ⟨Nat.le_of_ble_eq_true rfl, Nat.le_of_ble_eq_true rfl⟩).run (fun r12 hr12 => ?_)
  obtain rfl := hr12
  refine lv_i2l (v := 0) hx hb dX1_digest_22 (by first | rfl | decide) ?_
  refine lv_ladd hx hb dX1_digest_23 ?_
  refine W.eq (g2 := F0 m 24 ls [.long 655870761385]) rfl ?_
  refine lv_lstore_n (lv' := [(1, .long 655870761385), (3, .int 5), (0, .ref h)]) hx hb dX1_digest_24 rfl hl (by decide) rfl (fun ls hl => ?_)
  refine lv_iinc (v := 6) (lv' := [(3, .int 6), (1, .long 655870761385), (0, .ref h)]) hx hb dX1_digest_25 hl (k := 1) rfl (by decide) (by decide) rfl (fun ls hl => ?_)
  refine lv_goto (tgt := 6) hx hb dX1_digest_28 (by decide) ?_
  refine lv_iload_n hx hb dX1_digest_6 rfl (lv_at hl 0 rfl) ?_
  refine lv_bipush (v := 9) hx hb dX1_digest_7 (by decide) ?_
  refine lv_icmp_ge (tgt := 31) hx hb dX1_digest_9 (by decide) (fun c13 => absurd c13 (by decide)) (fun c13 => ?_)
  refine lv_lload_n hx hb dX1_digest_12 rfl (lv_at hl 1 rfl) ?_
  refine lv_ldc2 (v := 31) hx hb hown (hts (.constantLong RX1 199 31) (by decide +kernel)) dX1_digest_13 ?_
  refine lv_lmul hx hb dX1_digest_16 ?_
  refine W.eq (g2 := F0 m 17 ls [.long 20331993602935]) rfl ?_
  refine lv_aload_n hx hb dX1_digest_17 rfl (lv_at hl 2 rfl) ?_
  refine lv_iload_n hx hb dX1_digest_18 rfl (lv_at hl 0 rfl) ?_
  have hPc := hP.sub (ws' := [(h, .inr (1, [.ref ro, .int 6, .ref ba, .ref ra, .ref su, .int 0, .ref tr])), (ro, .inl (cR, 6, .inr (.inr (.inr (.inr fr))))), (ba, .inl (cB, 3, .inl (fun _ => 0))), (ra, .inl (cA, 12, .inl fa)), (su, .inl (cS, 12, .inl (fun _ => 0))), (y0h, .inr (0, [.int 10, .int 6, .int 30, .int 100, .int 0, .int 0, .ref y0k, .ref y0t, .ref y0p, .ref y0m])), (y0t, .inl (Y0c, 60, .inl (fun _ => 0))), (y1h, .inr (0, [.int 10, .int 6, .int 30, .int 100, .int 0, .int 0, .ref y1k, .ref y1t, .ref y1p, .ref y1m])), (y1t, .inl (Y1c, 60, .inl (fun _ => 0))), (y2h, .inr (0, [.int 10, .int 6, .int 30, .int 100, .int 0, .int 0, .ref y2k, .ref y2t, .ref y2p, .ref y2m])), (y2t, .inl (Y2c, 60, .inl (fun _ => 0))), (y3h, .inr (0, [.int 10, .int 6, .int 30, .int 100, .int 0, .int 0, .ref y3k, .ref y3t, .ref y3p, .ref y3m])), (y3t, .inl (Y3c, 60, .inl (fun _ => 0))), (y4h, .inr (0, [.int 10, .int 6, .int 30, .int 100, .int 0, .int 0, .ref y4k, .ref y4t, .ref y4p, .ref y4m])), (y4t, .inl (Y4c, 60, .inl (fun _ => 0))), (y5h, .inr (0, [.int 10, .int 6, .int 30, .int 100, .int 0, .int 0, .ref y5k, .ref y5t, .ref y5p, .ref y5m])), (y5t, .inl (Y5c, 60, .inl (fun _ => 0)))]) [0, 1, 2, 3, 4, 5, 6, 7, 8, 9, 10, 11, 12, 13, 14, 15, 16] rfl
  have hKc := hK.sub (tys' := [(cR, .object RX0), (cB, .int), (cA, .int), (cS, .int), (Y0c, .int), (Y1c, .int), (Y2c, .int), (Y3c, .int), (Y4c, .int), (Y5c, .int)]) [0, 1, 2, 3, 4, 5, 6, 7, 8, 9] rfl
  refine vp_callSi (va_runV (As := [.int 6]) (rest := [.long 20331993602935]) ⟨hx, hb, hml, hown, hts⟩ (r1_tally6 l dC dI h ro ba ra su tr cR fr cB cA fa cS y0h y0k y0t y0p y0m Y0c y1h y1k y1t y1p y1m Y1c y2h y2k y2t y2p y2m Y2c y3h y3k y3t y3p y3m Y3c y4h y4k y4t y4p y4m Y4c y5h y5k y5t y5p y5m Y5c (by first | assumption | decide | omega) (by first | assumption | decide | omega) (by first | assumption | decide | omega) (by first | assumption | decide | omega) (by first | assumption | decide | omega) (by first | assumption | decide | omega) (by first | assumption | decide | omega)) (cwV 1 hts gX1_digest_X1_tally rfl rfl rfl (by decide +kernel) ⟨Nat.le_of_ble_eq_true rfl, Nat.le_of_ble_eq_true rfl⟩) ⟨fun a U g mk q => by obtain ⟨q0, qP, qK⟩ := q; exact ⟨q0, qP, va_K.moved (u := U) (U := U.calling g mk a) (Vm.Alike.refl U.vm) qK⟩, va_recv hKc hPc (ci := 1) (q0 := 0) rfl rfl, fun U hU hW => ⟨rfl, by rw [hU]; exact hPc, va_K.moved hW.alike hKc⟩⟩ rfl rfl hl.1 rfl (lv_room (Nat.le_of_ble_eq_true rfl)) dX1_digest_19 ⟨Nat.le_of_ble_eq_true rfl, Nat.le_of_ble_eq_true rfl⟩).run (fun r14 hr14 => ?_)
  obtain rfl := hr14
  refine lv_i2l (v := 60) hx hb dX1_digest_22 (by first | rfl | decide) ?_
  refine lv_ladd hx hb dX1_digest_23 ?_
  refine W.eq (g2 := F0 m 24 ls [.long 20331993602995]) rfl ?_
  refine lv_lstore_n (lv' := [(1, .long 20331993602995), (3, .int 6), (0, .ref h)]) hx hb dX1_digest_24 rfl hl (by decide) rfl (fun ls hl => ?_)
  refine lv_iinc (v := 7) (lv' := [(3, .int 7), (1, .long 20331993602995), (0, .ref h)]) hx hb dX1_digest_25 hl (k := 1) rfl (by decide) (by decide) rfl (fun ls hl => ?_)
  refine lv_goto (tgt := 6) hx hb dX1_digest_28 (by decide) ?_
  refine lv_iload_n hx hb dX1_digest_6 rfl (lv_at hl 0 rfl) ?_
  refine lv_bipush (v := 9) hx hb dX1_digest_7 (by decide) ?_
  refine lv_icmp_ge (tgt := 31) hx hb dX1_digest_9 (by decide) (fun c15 => absurd c15 (by decide)) (fun c15 => ?_)
  refine lv_lload_n hx hb dX1_digest_12 rfl (lv_at hl 1 rfl) ?_
  refine lv_ldc2 (v := 31) hx hb hown (hts (.constantLong RX1 199 31) (by decide +kernel)) dX1_digest_13 ?_
  refine lv_lmul hx hb dX1_digest_16 ?_
  refine W.eq (g2 := F0 m 17 ls [.long 630291801692845]) rfl ?_
  refine lv_aload_n hx hb dX1_digest_17 rfl (lv_at hl 2 rfl) ?_
  refine lv_iload_n hx hb dX1_digest_18 rfl (lv_at hl 0 rfl) ?_
  have hPc := hP.sub (ws' := [(h, .inr (1, [.ref ro, .int 6, .ref ba, .ref ra, .ref su, .int 0, .ref tr])), (ro, .inl (cR, 6, .inr (.inr (.inr (.inr fr))))), (ba, .inl (cB, 3, .inl (fun _ => 0))), (ra, .inl (cA, 12, .inl fa)), (su, .inl (cS, 12, .inl (fun _ => 0))), (y0h, .inr (0, [.int 10, .int 6, .int 30, .int 100, .int 0, .int 0, .ref y0k, .ref y0t, .ref y0p, .ref y0m])), (y0t, .inl (Y0c, 60, .inl (fun _ => 0))), (y1h, .inr (0, [.int 10, .int 6, .int 30, .int 100, .int 0, .int 0, .ref y1k, .ref y1t, .ref y1p, .ref y1m])), (y1t, .inl (Y1c, 60, .inl (fun _ => 0))), (y2h, .inr (0, [.int 10, .int 6, .int 30, .int 100, .int 0, .int 0, .ref y2k, .ref y2t, .ref y2p, .ref y2m])), (y2t, .inl (Y2c, 60, .inl (fun _ => 0))), (y3h, .inr (0, [.int 10, .int 6, .int 30, .int 100, .int 0, .int 0, .ref y3k, .ref y3t, .ref y3p, .ref y3m])), (y3t, .inl (Y3c, 60, .inl (fun _ => 0))), (y4h, .inr (0, [.int 10, .int 6, .int 30, .int 100, .int 0, .int 0, .ref y4k, .ref y4t, .ref y4p, .ref y4m])), (y4t, .inl (Y4c, 60, .inl (fun _ => 0))), (y5h, .inr (0, [.int 10, .int 6, .int 30, .int 100, .int 0, .int 0, .ref y5k, .ref y5t, .ref y5p, .ref y5m])), (y5t, .inl (Y5c, 60, .inl (fun _ => 0)))]) [0, 1, 2, 3, 4, 5, 6, 7, 8, 9, 10, 11, 12, 13, 14, 15, 16] rfl
  have hKc := hK.sub (tys' := [(cR, .object RX0), (cB, .int), (cA, .int), (cS, .int), (Y0c, .int), (Y1c, .int), (Y2c, .int), (Y3c, .int), (Y4c, .int), (Y5c, .int)]) [0, 1, 2, 3, 4, 5, 6, 7, 8, 9] rfl
  refine vp_callSi (va_runV (As := [.int 7]) (rest := [.long 630291801692845]) ⟨hx, hb, hml, hown, hts⟩ (r1_tally7 l dC dI h ro ba ra su tr cR fr cB cA fa cS y0h y0k y0t y0p y0m Y0c y1h y1k y1t y1p y1m Y1c y2h y2k y2t y2p y2m Y2c y3h y3k y3t y3p y3m Y3c y4h y4k y4t y4p y4m Y4c y5h y5k y5t y5p y5m Y5c (by first | assumption | decide | omega) (by first | assumption | decide | omega) (by first | assumption | decide | omega) (by first | assumption | decide | omega) (by first | assumption | decide | omega) (by first | assumption | decide | omega) (by first | assumption | decide | omega)) (cwV 1 hts gX1_digest_X1_tally rfl rfl rfl (by decide +kernel) ⟨Nat.le_of_ble_eq_true rfl, Nat.le_of_ble_eq_true rfl⟩) ⟨fun a U g mk q => by obtain ⟨q0, qP, qK⟩ := q; exact ⟨q0, qP, va_K.moved (u := U) (U := U.calling g mk a) (Vm.Alike.refl U.vm) qK⟩, va_recv hKc hPc (ci := 1) (q0 := 0) rfl rfl, fun U hU hW => ⟨rfl, by rw [hU]; exact hPc, va_K.moved hW.alike hKc⟩⟩ rfl rfl hl.1 rfl (lv_room (Nat.le_of_ble_eq_true rfl)) dX1_digest_19 ⟨Nat.le_of_ble_eq_true rfl, Nat.le_of_ble_eq_true rfl⟩).run (fun r16 hr16 => ?_)
  obtain rfl := hr16
  refine lv_i2l (v := 4) hx hb dX1_digest_22 (by first | rfl | decide) ?_
  refine lv_ladd hx hb dX1_digest_23 ?_
  refine W.eq (g2 := F0 m 24 ls [.long 630291801692849]) rfl ?_
  refine lv_lstore_n (lv' := [(1, .long 630291801692849), (3, .int 7), (0, .ref h)]) hx hb dX1_digest_24 rfl hl (by decide) rfl (fun ls hl => ?_)
  refine lv_iinc (v := 8) (lv' := [(3, .int 8), (1, .long 630291801692849), (0, .ref h)]) hx hb dX1_digest_25 hl (k := 1) rfl (by decide) (by decide) rfl (fun ls hl => ?_)
  refine lv_goto (tgt := 6) hx hb dX1_digest_28 (by decide) ?_
  refine lv_iload_n hx hb dX1_digest_6 rfl (lv_at hl 0 rfl) ?_
  refine lv_bipush (v := 9) hx hb dX1_digest_7 (by decide) ?_
  refine lv_icmp_ge (tgt := 31) hx hb dX1_digest_9 (by decide) (fun c17 => absurd c17 (by decide)) (fun c17 => ?_)
  refine lv_lload_n hx hb dX1_digest_12 rfl (lv_at hl 1 rfl) ?_
  refine lv_ldc2 (v := 31) hx hb hown (hts (.constantLong RX1 199 31) (by decide +kernel)) dX1_digest_13 ?_
  refine lv_lmul hx hb dX1_digest_16 ?_
  refine W.eq (g2 := F0 m 17 ls [.long 19539045852478319]) rfl ?_
  refine lv_aload_n hx hb dX1_digest_17 rfl (lv_at hl 2 rfl) ?_
  refine lv_iload_n hx hb dX1_digest_18 rfl (lv_at hl 0 rfl) ?_
  have hPc := hP.sub (ws' := [(h, .inr (1, [.ref ro, .int 6, .ref ba, .ref ra, .ref su, .int 0, .ref tr])), (ro, .inl (cR, 6, .inr (.inr (.inr (.inr fr))))), (ba, .inl (cB, 3, .inl (fun _ => 0))), (ra, .inl (cA, 12, .inl fa)), (su, .inl (cS, 12, .inl (fun _ => 0))), (y0h, .inr (0, [.int 10, .int 6, .int 30, .int 100, .int 0, .int 0, .ref y0k, .ref y0t, .ref y0p, .ref y0m])), (y0t, .inl (Y0c, 60, .inl (fun _ => 0))), (y1h, .inr (0, [.int 10, .int 6, .int 30, .int 100, .int 0, .int 0, .ref y1k, .ref y1t, .ref y1p, .ref y1m])), (y1t, .inl (Y1c, 60, .inl (fun _ => 0))), (y2h, .inr (0, [.int 10, .int 6, .int 30, .int 100, .int 0, .int 0, .ref y2k, .ref y2t, .ref y2p, .ref y2m])), (y2t, .inl (Y2c, 60, .inl (fun _ => 0))), (y3h, .inr (0, [.int 10, .int 6, .int 30, .int 100, .int 0, .int 0, .ref y3k, .ref y3t, .ref y3p, .ref y3m])), (y3t, .inl (Y3c, 60, .inl (fun _ => 0))), (y4h, .inr (0, [.int 10, .int 6, .int 30, .int 100, .int 0, .int 0, .ref y4k, .ref y4t, .ref y4p, .ref y4m])), (y4t, .inl (Y4c, 60, .inl (fun _ => 0))), (y5h, .inr (0, [.int 10, .int 6, .int 30, .int 100, .int 0, .int 0, .ref y5k, .ref y5t, .ref y5p, .ref y5m])), (y5t, .inl (Y5c, 60, .inl (fun _ => 0)))]) [0, 1, 2, 3, 4, 5, 6, 7, 8, 9, 10, 11, 12, 13, 14, 15, 16] rfl
  have hKc := hK.sub (tys' := [(cR, .object RX0), (cB, .int), (cA, .int), (cS, .int), (Y0c, .int), (Y1c, .int), (Y2c, .int), (Y3c, .int), (Y4c, .int), (Y5c, .int)]) [0, 1, 2, 3, 4, 5, 6, 7, 8, 9] rfl
  refine vp_callSi (va_runV (As := [.int 8]) (rest := [.long 19539045852478319]) ⟨hx, hb, hml, hown, hts⟩ (r1_tally8 l dC dI h ro ba ra su tr cR fr cB cA fa cS y0h y0k y0t y0p y0m Y0c y1h y1k y1t y1p y1m Y1c y2h y2k y2t y2p y2m Y2c y3h y3k y3t y3p y3m Y3c y4h y4k y4t y4p y4m Y4c y5h y5k y5t y5p y5m Y5c (by first | assumption | decide | omega) (by first | assumption | decide | omega) (by first | assumption | decide | omega) (by first | assumption | decide | omega) (by first | assumption | decide | omega) (by first | assumption | decide | omega) (by first | assumption | decide | omega)) (cwV 1 hts gX1_digest_X1_tally rfl rfl rfl (by decide +kernel) ⟨Nat.le_of_ble_eq_true rfl, Nat.le_of_ble_eq_true rfl⟩) ⟨fun a U g mk q => by obtain ⟨q0, qP, qK⟩ := q; exact ⟨q0, qP, va_K.moved (u := U) (U := U.calling g mk a) (Vm.Alike.refl U.vm) qK⟩, va_recv hKc hPc (ci := 1) (q0 := 0) rfl rfl, fun U hU hW => ⟨rfl, by rw [hU]; exact hPc, va_K.moved hW.alike hKc⟩⟩ rfl rfl hl.1 rfl (lv_room (Nat.le_of_ble_eq_true rfl)) dX1_digest_19 ⟨Nat.le_of_ble_eq_true rfl, Nat.le_of_ble_eq_true rfl⟩).run (fun r18 hr18 => ?_)
  obtain rfl := hr18
  refine lv_i2l (v := 0) hx hb dX1_digest_22 (by first | rfl | decide) ?_
  refine lv_ladd hx hb dX1_digest_23 ?_
  refine W.eq (g2 := F0 m 24 ls [.long 19539045852478319]) rfl ?_
  refine lv_lstore_n (lv' := [(1, .long 19539045852478319), (3, .int 8), (0, .ref h)]) hx hb dX1_digest_24 rfl hl (by decide) rfl (fun ls hl => ?_)
  refine lv_iinc (v := 9) (lv' := [(3, .int 9), (1, .long 19539045852478319), (0, .ref h)]) hx hb dX1_digest_25 hl (k := 1) rfl (by decide) (by decide) rfl (fun ls hl => ?_)
  refine lv_goto (tgt := 6) hx hb dX1_digest_28 (by decide) ?_
  refine lv_iload_n hx hb dX1_digest_6 rfl (lv_at hl 0 rfl) ?_
  refine lv_bipush (v := 9) hx hb dX1_digest_7 (by decide) ?_
  refine lv_icmp_ge (tgt := 31) hx hb dX1_digest_9 (by decide) (fun c19 => ?_) (fun c19 => absurd c19 (by decide))
  refine lv_iconst (v := 0) hx hb dX1_digest_31 (by decide) ?_
  refine lv_istore_n (lv' := [(3, .int 0), (1, .long 19539045852478319), (0, .ref h)]) hx hb dX1_digest_32 rfl hl (by decide) rfl (fun ls hl => ?_)
  refine lv_iload_n hx hb dX1_digest_33 rfl (lv_at hl 0 rfl) ?_
  refine lv_bipush (v := 12) hx hb dX1_digest_34 (by decide) ?_
  refine lv_icmp_ge (tgt := 69) hx hb dX1_digest_36 (by decide) (fun c20 => absurd c20 (by decide)) (fun c20 => ?_)
  refine lv_lload_n hx hb dX1_digest_39 rfl (lv_at hl 1 rfl) ?_
  refine lv_ldc2 (v := 31) hx hb hown (hts (.constantLong RX1 199 31) (by decide +kernel)) dX1_digest_40 ?_
  refine lv_lmul hx hb dX1_digest_43 ?_
  refine W.eq (g2 := F0 m 44 ls [.long 605710421426827889]) rfl ?_
  refine lv_bipush (v := 10) hx hb dX1_digest_44 (by decide) ?_
  refine lv_aload_n hx hb dX1_digest_46 rfl (lv_at hl 2 rfl) ?_
  refine va_get (D := (dC, dI)) (ci := 1) (v := .ref ra) (C := RX1) (T := TX1) (N := 7) hx hb hts (by decide +kernel) hown hK hP 0 rfl rfl 3 (by decide) (hts (.fieldLink RX1 19 "ThatchRoof" "rains" "[I") (by decide +kernel)) (fun _ h9 => h9) rfl dX1_digest_47 ?_
  refine lv_iload_n hx hb dX1_digest_50 rfl (lv_at hl 0 rfl) ?_
  refine va_iald hx hb hK hP 3 2 rfl rfl (vp_in_nI (n := 0) (by decide) (by decide)) dX1_digest_51 ?_
  refine lv_topi (fun x21 ex21 => ?_)
  obtain rfl : x21 = 4 := ex21.trans (hra _ (by decide))
  refine lv_imul hx hb dX1_digest_52 ?_
  refine W.eq (g2 := F0 m 53 ls [.int 40, .long 605710421426827889]) rfl ?_
  refine lv_aload_n hx hb dX1_digest_53 rfl (lv_at hl 2 rfl) ?_
  refine va_get (D := (dC, dI)) (ci := 1) (v := .ref su) (C := RX1) (T := TX1) (N := 7) hx hb hts (by decide +kernel) hown hK hP 0 rfl rfl 4 (by decide) (hts (.fieldLink RX1 22 "ThatchRoof" "storms" "[I") (by decide +kernel)) (fun _ h9 => h9) rfl dX1_digest_54 ?_
  refine lv_iload_n hx hb dX1_digest_57 rfl (lv_at hl 0 rfl) ?_
  refine va_iald hx hb hK hP 4 3 rfl rfl (vp_in_nI (n := 0) (by decide) (by decide)) dX1_digest_58 ?_
  refine lv_topi (fun x22 ex22 => ?_)
  obtain rfl : x22 = 0 := ex22
  refine lv_iadd hx hb dX1_digest_59 ?_
  refine W.eq (g2 := F0 m 60 ls [.int 40, .long 605710421426827889]) rfl ?_
  refine lv_i2l (v := 40) hx hb dX1_digest_60 (by first | rfl | decide) ?_
  refine lv_ladd hx hb dX1_digest_61 ?_
  refine W.eq (g2 := F0 m 62 ls [.long 605710421426827929]) rfl ?_
  refine lv_lstore_n (lv' := [(1, .long 605710421426827929), (3, .int 0), (0, .ref h)]) hx hb dX1_digest_62 rfl hl (by decide) rfl (fun ls hl => ?_)
  refine lv_iinc (v := 1) (lv' := [(3, .int 1), (1, .long 605710421426827929), (0, .ref h)]) hx hb dX1_digest_63 hl (k := 1) rfl (by decide) (by decide) rfl (fun ls hl => ?_)
  refine lv_goto (tgt := 33) hx hb dX1_digest_66 (by decide) ?_
  refine lv_iload_n hx hb dX1_digest_33 rfl (lv_at hl 0 rfl) ?_
  refine lv_bipush (v := 12) hx hb dX1_digest_34 (by decide) ?_
  refine lv_icmp_ge (tgt := 69) hx hb dX1_digest_36 (by decide) (fun c23 => absurd c23 (by decide)) (fun c23 => ?_)
  refine lv_lload_n hx hb dX1_digest_39 rfl (lv_at hl 1 rfl) ?_
  refine lv_ldc2 (v := 31) hx hb hown (hts (.constantLong RX1 199 31) (by decide +kernel)) dX1_digest_40 ?_
  refine lv_lmul hx hb dX1_digest_43 ?_
  refine W.eq (g2 := F0 m 44 ls [.long 330278990522114183]) rfl ?_
  refine lv_bipush (v := 10) hx hb dX1_digest_44 (by decide) ?_
  refine lv_aload_n hx hb dX1_digest_46 rfl (lv_at hl 2 rfl) ?_
  refine va_get (D := (dC, dI)) (ci := 1) (v := .ref ra) (C := RX1) (T := TX1) (N := 7) hx hb hts (by decide +kernel) hown hK hP 0 rfl rfl 3 (by decide) (hts (.fieldLink RX1 19 "ThatchRoof" "rains" "[I") (by decide +kernel)) (fun _ h9 => h9) rfl dX1_digest_47 ?_
  refine lv_iload_n hx hb dX1_digest_50 rfl (lv_at hl 0 rfl) ?_
  refine va_iald hx hb hK hP 3 2 rfl rfl (vp_in_nI (n := 1) (by decide) (by decide)) dX1_digest_51 ?_
  refine lv_topi (fun x24 ex24 => ?_)
  obtain rfl : x24 = 4 := ex24.trans (hra _ (by decide))
  refine lv_imul hx hb dX1_digest_52 ?_
  refine W.eq (g2 := F0 m 53 ls [.int 40, .long 330278990522114183]) rfl ?_
  refine lv_aload_n hx hb dX1_digest_53 rfl (lv_at hl 2 rfl) ?_
  refine va_get (D := (dC, dI)) (ci := 1) (v := .ref su) (C := RX1) (T := TX1) (N := 7) hx hb hts (by decide +kernel) hown hK hP 0 rfl rfl 4 (by decide) (hts (.fieldLink RX1 22 "ThatchRoof" "storms" "[I") (by decide +kernel)) (fun _ h9 => h9) rfl dX1_digest_54 ?_
  refine lv_iload_n hx hb dX1_digest_57 rfl (lv_at hl 0 rfl) ?_
  refine va_iald hx hb hK hP 4 3 rfl rfl (vp_in_nI (n := 1) (by decide) (by decide)) dX1_digest_58 ?_
  refine lv_topi (fun x25 ex25 => ?_)
  obtain rfl : x25 = 0 := ex25
  refine lv_iadd hx hb dX1_digest_59 ?_
  refine W.eq (g2 := F0 m 60 ls [.int 40, .long 330278990522114183]) rfl ?_
  refine lv_i2l (v := 40) hx hb dX1_digest_60 (by first | rfl | decide) ?_
  refine lv_ladd hx hb dX1_digest_61 ?_
  refine W.eq (g2 := F0 m 62 ls [.long 330278990522114223]) rfl ?_
  refine lv_lstore_n (lv' := [(1, .long 330278990522114223), (3, .int 1), (0, .ref h)]) hx hb dX1_digest_62 rfl hl (by decide) rfl (fun ls hl => ?_)
  refine lv_iinc (v := 2) (lv' := [(3, .int 2), (1, .long 330278990522114223), (0, .ref h)]) hx hb dX1_digest_63 hl (k := 1) rfl (by decide) (by decide) rfl (fun ls hl => ?_)
  refine lv_goto (tgt := 33) hx hb dX1_digest_66 (by decide) ?_
  refine lv_iload_n hx hb dX1_digest_33 rfl (lv_at hl 0 rfl) ?_
  refine lv_bipush (v := 12) hx hb dX1_digest_34 (by decide) ?_
  refine lv_icmp_ge (tgt := 69) hx hb dX1_digest_36 (by decide) (fun c26 => absurd c26 (by decide)) (fun c26 => ?_)
  refine lv_lload_n hx hb dX1_digest_39 rfl (lv_at hl 1 rfl) ?_
  refine lv_ldc2 (v := 31) hx hb hown (hts (.constantLong RX1 199 31) (by decide +kernel)) dX1_digest_40 ?_
  refine lv_lmul hx hb dX1_digest_43 ?_
  refine W.eq (g2 := F0 m 44 ls [.long (-8208095367524010703)]) rfl ?_
  refine lv_bipush (v := 10) hx hb dX1_digest_44 (by decide) ?_
  refine lv_aload_n hx hb dX1_digest_46 rfl (lv_at hl 2 rfl) ?_
  refine va_get (D := (dC, dI)) (ci := 1) (v := .ref ra) (C := RX1) (T := TX1) (N := 7) hx hb hts (by decide +kernel) hown hK hP 0 rfl rfl 3 (by decide) (hts (.fieldLink RX1 19 "ThatchRoof" "rains" "[I") (by decide +kernel)) (fun _ h9 => h9) rfl dX1_digest_47 ?_
  refine lv_iload_n hx hb dX1_digest_50 rfl (lv_at hl 0 rfl) ?_
  refine va_iald hx hb hK hP 3 2 rfl rfl (vp_in_nI (n := 2) (by decide) (by decide)) dX1_digest_51 ?_
  refine lv_topi (fun x27 ex27 => ?_)
  obtain rfl : x27 = 4 := ex27.trans (hra _ (by decide))
  refine lv_imul hx hb dX1_digest_52 ?_
  refine W.eq (g2 := F0 m 53 ls [.int 40, .long (-8208095367524010703)]) rfl ?_
  refine lv_aload_n hx hb dX1_digest_53 rfl (lv_at hl 2 rfl) ?_
  refine va_get (D := (dC, dI)) (ci := 1) (v := .ref su) (C := RX1) (T := TX1) (N := 7) hx hb hts (by decide +kernel) hown hK hP 0 rfl rfl 4 (by decide) (hts (.fieldLink RX1 22 "ThatchRoof" "storms" "[I") (by decide +kernel)) (fun _ h9 => h9) rfl dX1_digest_54 ?_
  refine lv_iload_n hx hb dX1_digest_57 rfl (lv_at hl 0 rfl) ?_
  refine va_iald hx hb hK hP 4 3 rfl rfl (vp_in_nI (n := 2) (by decide) (by decide)) dX1_digest_58 ?_
  refine lv_topi (fun x28 ex28 => ?_)
  obtain rfl : x28 = 0 := ex28
  refine lv_iadd hx hb dX1_digest_59 ?_
  refine W.eq (g2 := F0 m 60 ls [.int 40, .long (-8208095367524010703)]) rfl ?_
  refine lv_i2l (v := 40) hx hb dX1_digest_60 (by first | rfl | decide) ?_
  refine lv_ladd hx hb dX1_digest_61 ?_
  refine W.eq (g2 := F0 m 62 ls [.long (-8208095367524010663)]) rfl ?_
  refine lv_lstore_n (lv' := [(1, .long (-8208095367524010663)), (3, .int 2), (0, .ref h)]) hx hb dX1_digest_62 rfl hl (by decide) rfl (fun ls hl => ?_)
  refine lv_iinc (v := 3) (lv' := [(3, .int 3), (1, .long (-8208095367524010663)), (0, .ref h)]) hx hb dX1_digest_63 hl (k := 1) rfl (by decide) (by decide) rfl (fun ls hl => ?_)
  refine lv_goto (tgt := 33) hx hb dX1_digest_66 (by decide) ?_
  refine lv_iload_n hx hb dX1_digest_33 rfl (lv_at hl 0 rfl) ?_
  refine lv_bipush (v := 12) hx hb dX1_digest_34 (by decide) ?_
  refine lv_icmp_ge (tgt := 69) hx hb dX1_digest_36 (by decide) (fun c29 => absurd c29 (by decide)) (fun c29 => ?_)
  refine lv_lload_n hx hb dX1_digest_39 rfl (lv_at hl 1 rfl) ?_
  refine lv_ldc2 (v := 31) hx hb hown (hts (.constantLong RX1 199 31) (by decide +kernel)) dX1_digest_40 ?_
  refine lv_lmul hx hb dX1_digest_43 ?_
  refine W.eq (g2 := F0 m 44 ls [.long 3803460638689392071]) rfl ?_
  refine lv_bipush (v := 10) hx hb dX1_digest_44 (by decide) ?_
  refine lv_aload_n hx hb dX1_digest_46 rfl (lv_at hl 2 rfl) ?_
  refine va_get (D := (dC, dI)) (ci := 1) (v := .ref ra) (C := RX1) (T := TX1) (N := 7) hx hb hts (by decide +kernel) hown hK hP 0 rfl rfl 3 (by decide) (hts (.fieldLink RX1 19 "ThatchRoof" "rains" "[I") (by decide +kernel)) (fun _ h9 => h9) rfl dX1_digest_47 ?_
  refine lv_iload_n hx hb dX1_digest_50 rfl (lv_at hl 0 rfl) ?_
  refine va_iald hx hb hK hP 3 2 rfl rfl (vp_in_nI (n := 3) (by decide) (by decide)) dX1_digest_51 ?_
  refine lv_topi (fun x30 ex30 => ?_)
  obtain rfl : x30 = 4 := ex30.trans (hra _ (by decide))
  refine lv_imul hx hb dX1_digest_52 ?_
  refine W.eq (g2 := F0 m 53 ls [.int 40, .long 3803460638689392071]) rfl ?_
  refine lv_aload_n hx hb dX1_digest_53 rfl (lv_at hl 2 rfl) ?_
  refine va_get (D := (dC, dI)) (ci := 1) (v := .ref su) (C := RX1) (T := TX1) (N := 7) hx hb hts (by decide +kernel) hown hK hP 0 rfl rfl 4 (by decide) (hts (.fieldLink RX1 22 "ThatchRoof" "storms" "[I") (by decide +kernel)) (fun _ h9 => h9) rfl dX1_digest_54 ?_
  refine lv_iload_n hx hb dX1_digest_57 rfl (lv_at hl 0 rfl) ?_
  refine va_iald hx hb hK hP 4 3 rfl rfl (vp_in_nI (n := 3) (by decide) (by decide)) dX1_digest_58 ?_
  refine lv_topi (fun x31 ex31 => ?_)
  obtain rfl : x31 = 0 := ex31
  refine lv_iadd hx hb dX1_digest_59 ?_
  refine W.eq (g2 := F0 m 60 ls [.int 40, .long 3803460638689392071]) rfl ?_
  refine lv_i2l (v := 40) hx hb dX1_digest_60 (by first | rfl | decide) ?_
  refine lv_ladd hx hb dX1_digest_61 ?_
  refine W.eq (g2 := F0 m 62 ls [.long 3803460638689392111]) rfl ?_
  refine lv_lstore_n (lv' := [(1, .long 3803460638689392111), (3, .int 3), (0, .ref h)]) hx hb dX1_digest_62 rfl hl (by decide) rfl (fun ls hl => ?_)
  refine lv_iinc (v := 4) (lv' := [(3, .int 4), (1, .long 3803460638689392111), (0, .ref h)]) hx hb dX1_digest_63 hl (k := 1) rfl (by decide) (by decide) rfl (fun ls hl => ?_)
  refine lv_goto (tgt := 33) hx hb dX1_digest_66 (by decide) ?_
  refine lv_iload_n hx hb dX1_digest_33 rfl (lv_at hl 0 rfl) ?_
  refine lv_bipush (v := 12) hx hb dX1_digest_34 (by decide) ?_
  refine lv_icmp_ge (tgt := 69) hx hb dX1_digest_36 (by decide) (fun c32 => absurd c32 (by decide)) (fun c32 => ?_)
  refine lv_lload_n hx hb dX1_digest_39 rfl (lv_at hl 1 rfl) ?_
  refine lv_ldc2 (v := 31) hx hb hown (hts (.constantLong RX1 199 31) (by decide +kernel)) dX1_digest_40 ?_
  refine lv_lmul hx hb dX1_digest_43 ?_
  refine W.eq (g2 := F0 m 44 ls [.long 7226815357113845745]) rfl ?_
  refine lv_bipush (v := 10) hx hb dX1_digest_44 (by decide) ?_
  refine lv_aload_n hx hb dX1_digest_46 rfl (lv_at hl 2 rfl) ?_
  refine va_get (D := (dC, dI)) (ci := 1) (v := .ref ra) (C := RX1) (T := TX1) (N := 7) hx hb hts (by decide +kernel) hown hK hP 0 rfl rfl 3 (by decide) (hts (.fieldLink RX1 19 "ThatchRoof" "rains" "[I") (by decide +kernel)) (fun _ h9 => h9) rfl dX1_digest_47 ?_
  refine lv_iload_n hx hb dX1_digest_50 rfl (lv_at hl 0 rfl) ?_
  refine va_iald hx hb hK hP 3 2 rfl rfl (vp_in_nI (n := 4) (by decide) (by decide)) dX1_digest_51 ?_
  refine lv_topi (fun x33 ex33 => ?_)
  obtain rfl : x33 = 4 := ex33.trans (hra _ (by decide))
  refine lv_imul hx hb dX1_digest_52 ?_
  refine W.eq (g2 := F0 m 53 ls [.int 40, .long 7226815357113845745]) rfl ?_
  refine lv_aload_n hx hb dX1_digest_53 rfl (lv_at hl 2 rfl) ?_
  refine va_get (D := (dC, dI)) (ci := 1) (v := .ref su) (C := RX1) (T := TX1) (N := 7) hx hb hts (by decide +kernel) hown hK hP 0 rfl rfl 4 (by decide) (hts (.fieldLink RX1 22 "ThatchRoof" "storms" "[I") (by decide +kernel)) (fun _ h9 => h9) rfl dX1_digest_54 ?_
  refine lv_iload_n hx hb dX1_digest_57 rfl (lv_at hl 0 rfl) ?_
  refine va_iald hx hb hK hP 4 3 rfl rfl (vp_in_nI (n := 4) (by decide) (by decide)) dX1_digest_58 ?_
  refine lv_topi (fun x34 ex34 => ?_)
  obtain rfl : x34 = 0 := ex34
  refine lv_iadd hx hb dX1_digest_59 ?_
  refine W.eq (g2 := F0 m 60 ls [.int 40, .long 7226815357113845745]) rfl ?_
  refine lv_i2l (v := 40) hx hb dX1_digest_60 (by first | rfl | decide) ?_
  refine lv_ladd hx hb dX1_digest_61 ?_
  refine W.eq (g2 := F0 m 62 ls [.long 7226815357113845785]) rfl ?_
  refine lv_lstore_n (lv' := [(1, .long 7226815357113845785), (3, .int 4), (0, .ref h)]) hx hb dX1_digest_62 rfl hl (by decide) rfl (fun ls hl => ?_)
  refine lv_iinc (v := 5) (lv' := [(3, .int 5), (1, .long 7226815357113845785), (0, .ref h)]) hx hb dX1_digest_63 hl (k := 1) rfl (by decide) (by decide) rfl (fun ls hl => ?_)
  refine lv_goto (tgt := 33) hx hb dX1_digest_66 (by decide) ?_
  refine lv_iload_n hx hb dX1_digest_33 rfl (lv_at hl 0 rfl) ?_
  refine lv_bipush (v := 12) hx hb dX1_digest_34 (by decide) ?_
  refine lv_icmp_ge (tgt := 69) hx hb dX1_digest_36 (by decide) (fun c35 => absurd c35 (by decide)) (fun c35 => ?_)
  refine lv_lload_n hx hb dX1_digest_39 rfl (lv_at hl 1 rfl) ?_
  refine lv_ldc2 (v := 31) hx hb hown (hts (.constantLong RX1 199 31) (by decide +kernel)) dX1_digest_40 ?_
  refine lv_lmul hx hb dX1_digest_43 ?_
  refine W.eq (g2 := F0 m 44 ls [.long 2670347186014599943]) rfl ?_
  refine lv_bipush (v := 10) hx hb dX1_digest_44 (by decide) ?_
  refine lv_aload_n hx hb dX1_digest_46 rfl (lv_at hl 2 rfl) ?_
  refine va_get (D := (dC, dI)) (ci := 1) (v := .ref ra) (C := RX1) (T := TX1) (N := 7) hx hb hts (by decide +kernel) hown hK hP 0 rfl rfl 3 (by decide) (hts (.fieldLink RX1 19 "ThatchRoof" "rains" "[I") (by decide +kernel)) (fun _ h9 => h9) rfl dX1_digest_47 ?_
  refine lv_iload_n hx hb dX1_digest_50 rfl (lv_at hl 0 rfl) ?_
  refine va_iald hx hb hK hP 3 2 rfl rfl (vp_in_nI (n := 5) (by decide) (by decide)) dX1_digest_51 ?_
  refine lv_topi (fun x36 ex36 => ?_)
  obtain rfl : x36 = 4 := ex36.trans (hra _ (by decide))
  refine lv_imul hx hb dX1_digest_52 ?_
  refine W.eq (g2 := F0 m 53 ls [.int 40, .long 2670347186014599943]) rfl ?_
  refine lv_aload_n hx hb dX1_digest_53 rfl (lv_at hl 2 rfl) ?_
  refine va_get (D := (dC, dI)) (ci := 1) (v := .ref su) (C := RX1) (T := TX1) (N := 7) hx hb hts (by decide +kernel) hown hK hP 0 rfl rfl 4 (by decide) (hts (.fieldLink RX1 22 "ThatchRoof" "storms" "[I") (by decide +kernel)) (fun _ h9 => h9) rfl dX1_digest_54 ?_
  refine lv_iload_n hx hb dX1_digest_57 rfl (lv_at hl 0 rfl) ?_
  refine va_iald hx hb hK hP 4 3 rfl rfl (vp_in_nI (n := 5) (by decide) (by decide)) dX1_digest_58 ?_
  refine lv_topi (fun x37 ex37 => ?_)
  obtain rfl : x37 = 0 := ex37
  refine lv_iadd hx hb dX1_digest_59 ?_
  refine W.eq (g2 := F0 m 60 ls [.int 40, .long 2670347186014599943]) rfl ?_
  refine lv_i2l (v := 40) hx hb dX1_digest_60 (by first | rfl | decide) ?_
  refine lv_ladd hx hb dX1_digest_61 ?_
  refine W.eq (g2 := F0 m 62 ls [.long 2670347186014599983]) rfl ?_
  refine lv_lstore_n (lv' := [(1, .long 2670347186014599983), (3, .int 5), (0, .ref h)]) hx hb dX1_digest_62 rfl hl (by decide) rfl (fun ls hl => ?_)
  refine lv_iinc (v := 6) (lv' := [(3, .int 6), (1, .long 2670347186014599983), (0, .ref h)]) hx hb dX1_digest_63 hl (k := 1) rfl (by decide) (by decide) rfl (fun ls hl => ?_)
  refine lv_goto (tgt := 33) hx hb dX1_digest_66 (by decide) ?_
  refine lv_iload_n hx hb dX1_digest_33 rfl (lv_at hl 0 rfl) ?_
  refine lv_bipush (v := 12) hx hb dX1_digest_34 (by decide) ?_
  refine lv_icmp_ge (tgt := 69) hx hb dX1_digest_36 (by decide) (fun c38 => absurd c38 (by decide)) (fun c38 => ?_)
  refine lv_lload_n hx hb dX1_digest_39 rfl (lv_at hl 1 rfl) ?_
  refine lv_ldc2 (v := 31) hx hb hown (hts (.constantLong RX1 199 31) (by decide +kernel)) dX1_digest_40 ?_
  refine lv_lmul hx hb dX1_digest_43 ?_
  refine W.eq (g2 := F0 m 44 ls [.long 8993786471614393009]) rfl ?_
  refine lv_bipush (v := 10) hx hb dX1_digest_44 (by decide) ?_
  refine lv_aload_n hx hb dX1_digest_46 rfl (lv_at hl 2 rfl) ?_
  refine va_get (D := (dC, dI)) (ci := 1) (v := .ref ra) (C := RX1) (T := TX1) (N := 7) hx hb hts (by decide +kernel) hown hK hP 0 rfl rfl 3 (by decide) (hts (.fieldLink RX1 19 "ThatchRoof" "rains" "[I") (by decide +kernel)) (fun _ h9 => h9) rfl dX1_digest_47 ?_
  refine lv_iload_n hx hb dX1_digest_50 rfl (lv_at hl 0 rfl) ?_
  refine va_iald hx hb hK hP 3 2 rfl rfl (vp_in_nI (n := 6) (by decide) (by decide)) dX1_digest_51 ?_
  refine lv_topi (fun x39 ex39 => ?_)
  obtain rfl : x39 = 4 := ex39.trans (hra _ (by decide))
  refine lv_imul hx hb dX1_digest_52 ?_
  refine W.eq (g2 := F0 m 53 ls [.int 40, .long 8993786471614393009]) rfl ?_
  refine lv_aload_n hx hb dX1_digest_53 rfl (lv_at hl 2 rfl) ?_
  refine va_get (D := (dC, dI)) (ci := 1) (v := .ref su) (C := RX1) (T := TX1) (N := 7) hx hb hts (by decide +kernel) hown hK hP 0 rfl rfl 4 (by decide) (hts (.fieldLink RX1 22 "ThatchRoof" "storms" "[I") (by decide +kernel)) (fun _ h9 => h9) rfl dX1_digest_54 ?_
  refine lv_iload_n hx hb dX1_digest_57 rfl (lv_at hl 0 rfl) ?_
  refine va_iald hx hb hK hP 4 3 rfl rfl (vp_in_nI (n := 6) (by decide) (by decide)) dX1_digest_58 ?_
  refine lv_topi (fun x40 ex40 => ?_)
  obtain rfl : x40 = 0 := ex40
  refine lv_iadd hx hb dX1_digest_59 ?_
  refine W.eq (g2 := F0 m 60 ls [.int 40, .long 8993786471614393009]) rfl ?_
  refine lv_i2l (v := 40) hx hb dX1_digest_60 (by first | rfl | decide) ?_
  refine lv_ladd hx hb dX1_digest_61 ?_
  refine W.eq (g2 := F0 m 62 ls [.long 8993786471614393049]) rfl ?_
  refine lv_lstore_n (lv' := [(1, .long 8993786471614393049), (3, .int 6), (0, .ref h)]) hx hb dX1_digest_62 rfl hl (by decide) rfl (fun ls hl => ?_)
  refine lv_iinc (v := 7) (lv' := [(3, .int 7), (1, .long 8993786471614393049), (0, .ref h)]) hx hb dX1_digest_63 hl (k := 1) rfl (by decide) (by decide) rfl (fun ls hl => ?_)
  refine lv_goto (tgt := 33) hx hb dX1_digest_66 (by decide) ?_
  refine lv_iload_n hx hb dX1_digest_33 rfl (lv_at hl 0 rfl) ?_
  refine lv_bipush (v := 12) hx hb dX1_digest_34 (by decide) ?_
  refine lv_icmp_ge (tgt := 69) hx hb dX1_digest_36 (by decide) (fun c41 => absurd c41 (by decide)) (fun c41 => ?_)
  refine lv_lload_n hx hb dX1_digest_39 rfl (lv_at hl 1 rfl) ?_
  refine lv_ldc2 (v := 31) hx hb hown (hts (.constantLong RX1 199 31) (by decide +kernel)) dX1_digest_40 ?_
  refine lv_lmul hx hb dX1_digest_43 ?_
  refine W.eq (g2 := F0 m 44 ls [.long 2106219514402910279]) rfl ?_
  refine lv_bipush (v := 10) hx hb dX1_digest_44 (by decide) ?_
  refine lv_aload_n hx hb dX1_digest_46 rfl (lv_at hl 2 rfl) ?_
  refine va_get (D := (dC, dI)) (ci := 1) (v := .ref ra) (C := RX1) (T := TX1) (N := 7) hx hb hts (by decide +kernel) hown hK hP 0 rfl rfl 3 (by decide) (hts (.fieldLink RX1 19 "ThatchRoof" "rains" "[I") (by decide +kernel)) (fun _ h9 => h9) rfl dX1_digest_47 ?_
  refine lv_iload_n hx hb dX1_digest_50 rfl (lv_at hl 0 rfl) ?_
  refine va_iald hx hb hK hP 3 2 rfl rfl (vp_in_nI (n := 7) (by decide) (by decide)) dX1_digest_51 ?_
  refine lv_topi (fun x42 ex42 => ?_)
  obtain rfl : x42 = 4 := ex42.trans (hra _ (by decide))
  refine lv_imul hx hb dX1_digest_52 ?_
  refine W.eq (g2 := F0 m 53 ls [.int 40, .long 2106219514402910279]) rfl ?_
  refine lv_aload_n hx hb dX1_digest_53 rfl (lv_at hl 2 rfl) ?_
  refine va_get (D := (dC, dI)) (ci := 1) (v := .ref su) (C := RX1) (T := TX1) (N := 7) hx hb hts (by decide +kernel) hown hK hP 0 rfl rfl 4 (by decide) (hts (.fieldLink RX1 22 "ThatchRoof" "storms" "[I") (by decide +kernel)) (fun _ h9 => h9) rfl dX1_digest_54 ?_
  refine lv_iload_n hx hb dX1_digest_57 rfl (lv_at hl 0 rfl) ?_
  refine va_iald hx hb hK hP 4 3 rfl rfl (vp_in_nI (n := 7) (by decide) (by decide)) dX1_digest_58 ?_
  refine lv_topi (fun x43 ex43 => ?_)
  obtain rfl : x43 = 0 := ex43
  refine lv_iadd hx hb dX1_digest_59 ?_
  refine W.eq (g2 := F0 m 60 ls [.int 40, .long 2106219514402910279]) rfl ?_
  refine lv_i2l (v := 40) hx hb dX1_digest_60 (by first | rfl | decide) ?_
  refine lv_ladd hx hb dX1_digest_61 ?_
  refine W.eq (g2 := F0 m 62 ls [.long 2106219514402910319]) rfl ?_
  refine lv_lstore_n (lv' := [(1, .long 2106219514402910319), (3, .int 7), (0, .ref h)]) hx hb dX1_digest_62 rfl hl (by decide) rfl (fun ls hl => ?_)
  refine lv_iinc (v := 8) (lv' := [(3, .int 8), (1, .long 2106219514402910319), (0, .ref h)]) hx hb dX1_digest_63 hl (k := 1) rfl (by decide) (by decide) rfl (fun ls hl => ?_)
  refine lv_goto (tgt := 33) hx hb dX1_digest_66 (by decide) ?_
  refine lv_iload_n hx hb dX1_digest_33 rfl (lv_at hl 0 rfl) ?_
  refine lv_bipush (v := 12) hx hb dX1_digest_34 (by decide) ?_
  refine lv_icmp_ge (tgt := 69) hx hb dX1_digest_36 (by decide) (fun c44 => absurd c44 (by decide)) (fun c44 => ?_)
  refine lv_lload_n hx hb dX1_digest_39 rfl (lv_at hl 1 rfl) ?_
  refine lv_ldc2 (v := 31) hx hb hown (hts (.constantLong RX1 199 31) (by decide +kernel)) dX1_digest_40 ?_
  refine lv_lmul hx hb dX1_digest_43 ?_
  refine W.eq (g2 := F0 m 44 ls [.long (-8494171348347986575)]) rfl ?_
  refine lv_bipush (v := 10) hx hb dX1_digest_44 (by decide) ?_
  refine lv_aload_n hx hb dX1_digest_46 rfl (lv_at hl 2 rfl) ?_
  refine va_get (D := (dC, dI)) (ci := 1) (v := .ref ra) (C := RX1) (T := TX1) (N := 7) hx hb hts (by decide +kernel) hown hK hP 0 rfl rfl 3 (by decide) (hts (.fieldLink RX1 19 "ThatchRoof" "rains" "[I") (by decide +kernel)) (fun _ h9 => h9) rfl dX1_digest_47 ?_
  refine lv_iload_n hx hb dX1_digest_50 rfl (lv_at hl 0 rfl) ?_
  refine va_iald hx hb hK hP 3 2 rfl rfl (vp_in_nI (n := 8) (by decide) (by decide)) dX1_digest_51 ?_
  refine lv_topi (fun x45 ex45 => ?_)
  obtain rfl : x45 = 4 := ex45.trans (hra _ (by decide))
  refine lv_imul hx hb dX1_digest_52 ?_
  refine W.eq (g2 := F0 m 53 ls [.int 40, .long (-8494171348347986575)]) rfl ?_
  refine lv_aload_n hx hb dX1_digest_53 rfl (lv_at hl 2 rfl) ?_
  refine va_get (D := (dC, dI)) (ci := 1) (v := .ref su) (C := RX1) (T := TX1) (N := 7) hx hb hts (by decide +kernel) hown hK hP 0 rfl rfl 4 (by decide) (hts (.fieldLink RX1 22 "ThatchRoof" "storms" "[I") (by decide +kernel)) (fun _ h9 => h9) rfl dX1_digest_54 ?_
  refine lv_iload_n hx hb dX1_digest_57 rfl (lv_at hl 0 rfl) ?_
  refine va_iald hx hb hK hP 4 3 rfl rfl (vp_in_nI (n := 8) (by decide) (by decide)) dX1_digest_58 ?_
  refine lv_topi (fun x46 ex46 => ?_)
  obtain rfl : x46 = 0 := ex46
  refine lv_iadd hx hb dX1_digest_59 ?_
  refine W.eq (g2 := F0 m 60 ls [.int 40, .long (-8494171348347986575)]) rfl ?_
  refine lv_i2l (v := 40) hx hb dX1_digest_60 (by first | rfl | decide) ?_
  refine lv_ladd hx hb dX1_digest_61 ?_
  refine W.eq (g2 := F0 m 62 ls [.long (-8494171348347986535)]) rfl ?_
  refine lv_lstore_n (lv' := [(1, .long (-8494171348347986535)), (3, .int 8), (0, .ref h)]) hx hb dX1_digest_62 rfl hl (by decide) rfl (fun ls hl => ?_)
  refine lv_iinc (v := 9) (lv' := [(3, .int 9), (1, .long (-8494171348347986535)), (0, .ref h)]) hx hb dX1_digest_63 hl (k := 1) rfl (by decide) (by decide) rfl (fun ls hl => ?_)
  refine lv_goto (tgt := 33) hx hb dX1_digest_66 (by decide) ?_
  refine lv_iload_n hx hb dX1_digest_33 rfl (lv_at hl 0 rfl) ?_
  refine lv_bipush (v := 12) hx hb dX1_digest_34 (by decide) ?_
  refine lv_icmp_ge (tgt := 69) hx hb dX1_digest_36 (by decide) (fun c47 => absurd c47 (by decide)) (fun c47 => ?_)
  refine lv_lload_n hx hb dX1_digest_39 rfl (lv_at hl 1 rfl) ?_
  refine lv_ldc2 (v := 31) hx hb hown (hts (.constantLong RX1 199 31) (by decide +kernel)) dX1_digest_40 ?_
  refine lv_lmul hx hb dX1_digest_43 ?_
  refine W.eq (g2 := F0 m 44 ls [.long (-5064894766853859961)]) rfl ?_
  refine lv_bipush (v := 10) hx hb dX1_digest_44 (by decide) ?_
  refine lv_aload_n hx hb dX1_digest_46 rfl (lv_at hl 2 rfl) ?_
  refine va_get (D := (dC, dI)) (ci := 1) (v := .ref ra) (C := RX1) (T := TX1) (N := 7) hx hb hts (by decide +kernel) hown hK hP 0 rfl rfl 3 (by decide) (hts (.fieldLink RX1 19 "ThatchRoof" "rains" "[I") (by decide +kernel)) (fun _ h9 => h9) rfl dX1_digest_47 ?_
  refine lv_iload_n hx hb dX1_digest_50 rfl (lv_at hl 0 rfl) ?_
  refine va_iald hx hb hK hP 3 2 rfl rfl (vp_in_nI (n := 9) (by decide) (by decide)) dX1_digest_51 ?_
  refine lv_topi (fun x48 ex48 => ?_)
  obtain rfl : x48 = 4 := ex48.trans (hra _ (by decide))
  refine lv_imul hx hb dX1_digest_52 ?_
  refine W.eq (g2 := F0 m 53 ls [.int 40, .long (-5064894766853859961)]) rfl ?_
  refine lv_aload_n hx hb dX1_digest_53 rfl (lv_at hl 2 rfl) ?_
  refine va_get (D := (dC, dI)) (ci := 1) (v := .ref su) (C := RX1) (T := TX1) (N := 7) hx hb hts (by decide +kernel) hown hK hP 0 rfl rfl 4 (by decide) (hts (.fieldLink RX1 22 "ThatchRoof" "storms" "[I") (by decide +kernel)) (fun _ h9 => h9) rfl dX1_digest_54 ?_
  refine lv_iload_n hx hb dX1_digest_57 rfl (lv_at hl 0 rfl) ?_
  refine va_iald hx hb hK hP 4 3 rfl rfl (vp_in_nI (n := 9) (by decide) (by decide)) dX1_digest_58 ?_
  refine lv_topi (fun x49 ex49 => ?_)
  obtain rfl : x49 = 0 := ex49
  refine lv_iadd hx hb dX1_digest_59 ?_
  refine W.eq (g2 := F0 m 60 ls [.int 40, .long (-5064894766853859961)]) rfl ?_
  refine lv_i2l (v := 40) hx hb dX1_digest_60 (by first | rfl | decide) ?_
  refine lv_ladd hx hb dX1_digest_61 ?_
  refine W.eq (g2 := F0 m 62 ls [.long (-5064894766853859921)]) rfl ?_
  refine lv_lstore_n (lv' := [(1, .long (-5064894766853859921)), (3, .int 9), (0, .ref h)]) hx hb dX1_digest_62 rfl hl (by decide) rfl (fun ls hl => ?_)
  refine lv_iinc (v := 10) (lv' := [(3, .int 10), (1, .long (-5064894766853859921)), (0, .ref h)]) hx hb dX1_digest_63 hl (k := 1) rfl (by decide) (by decide) rfl (fun ls hl => ?_)
  refine lv_goto (tgt := 33) hx hb dX1_digest_66 (by decide) ?_
  refine lv_iload_n hx hb dX1_digest_33 rfl (lv_at hl 0 rfl) ?_
  refine lv_bipush (v := 12) hx hb dX1_digest_34 (by decide) ?_
  refine lv_icmp_ge (tgt := 69) hx hb dX1_digest_36 (by decide) (fun c50 => absurd c50 (by decide)) (fun c50 => ?_)
  refine lv_lload_n hx hb dX1_digest_39 rfl (lv_at hl 1 rfl) ?_
  refine lv_ldc2 (v := 31) hx hb hown (hts (.constantLong RX1 199 31) (by decide +kernel)) dX1_digest_40 ?_
  refine lv_lmul hx hb dX1_digest_43 ?_
  refine W.eq (g2 := F0 m 44 ls [.long 9008958890916306993]) rfl ?_
  refine lv_bipush (v := 10) hx hb dX1_digest_44 (by decide) ?_
  refine lv_aload_n hx hb dX1_digest_46 rfl (lv_at hl 2 rfl) ?_
  refine va_get (D := (dC, dI)) (ci := 1) (v := .ref ra) (C := RX1) (T := TX1) (N := 7) hx hb hts (by decide +kernel) hown hK hP 0 rfl rfl 3 (by decide) (hts (.fieldLink RX1 19 "ThatchRoof" "rains" "[I") (by decide +kernel)) (fun _ h9 => h9) rfl dX1_digest_47 ?_
  refine lv_iload_n hx hb dX1_digest_50 rfl (lv_at hl 0 rfl) ?_
  refine va_iald hx hb hK hP 3 2 rfl rfl (vp_in_nI (n := 10) (by decide) (by decide)) dX1_digest_51 ?_
  refine lv_topi (fun x51 ex51 => ?_)
  obtain rfl : x51 = 4 := ex51.trans (hra _ (by decide))
  refine lv_imul hx hb dX1_digest_52 ?_
  refine W.eq (g2 := F0 m 53 ls [.int 40, .long 9008958890916306993]) rfl ?_
  refine lv_aload_n hx hb dX1_digest_53 rfl (lv_at hl 2 rfl) ?_
  refine va_get (D := (dC, dI)) (ci := 1) (v := .ref su) (C := RX1) (T := TX1) (N := 7) hx hb hts (by decide +kernel) hown hK hP 0 rfl rfl 4 (by decide) (hts (.fieldLink RX1 22 "ThatchRoof" "storms" "[I") (by decide +kernel)) (fun _ h9 => h9) rfl dX1_digest_54 ?_
  refine lv_iload_n hx hb dX1_digest_57 rfl (lv_at hl 0 rfl) ?_
  refine va_iald hx hb hK hP 4 3 rfl rfl (vp_in_nI (n := 10) (by decide) (by decide)) dX1_digest_58 ?_
  refine lv_topi (fun x52 ex52 => ?_)
  obtain rfl : x52 = 0 := ex52
  refine lv_iadd hx hb dX1_digest_59 ?_
  refine W.eq (g2 := F0 m 60 ls [.int 40, .long 9008958890916306993]) rfl ?_
  refine lv_i2l (v := 40) hx hb dX1_digest_60 (by first | rfl | decide) ?_
  refine lv_ladd hx hb dX1_digest_61 ?_
  refine W.eq (g2 := F0 m 62 ls [.long 9008958890916307033]) rfl ?_
  refine lv_lstore_n (lv' := [(1, .long 9008958890916307033), (3, .int 10), (0, .ref h)]) hx hb dX1_digest_62 rfl hl (by decide) rfl (fun ls hl => ?_)
  refine lv_iinc (v := 11) (lv' := [(3, .int 11), (1, .long 9008958890916307033), (0, .ref h)]) hx hb dX1_digest_63 hl (k := 1) rfl (by decide) (by decide) rfl (fun ls hl => ?_)
  refine lv_goto (tgt := 33) hx hb dX1_digest_66 (by decide) ?_
  refine lv_iload_n hx hb dX1_digest_33 rfl (lv_at hl 0 rfl) ?_
  refine lv_bipush (v := 12) hx hb dX1_digest_34 (by decide) ?_
  refine lv_icmp_ge (tgt := 69) hx hb dX1_digest_36 (by decide) (fun c53 => absurd c53 (by decide)) (fun c53 => ?_)
  refine lv_lload_n hx hb dX1_digest_39 rfl (lv_at hl 1 rfl) ?_
  refine lv_ldc2 (v := 31) hx hb hown (hts (.constantLong RX1 199 31) (by decide +kernel)) dX1_digest_40 ?_
  refine lv_lmul hx hb dX1_digest_43 ?_
  refine W.eq (g2 := F0 m 44 ls [.long 2576564512762243783]) rfl ?_
  refine lv_bipush (v := 10) hx hb dX1_digest_44 (by decide) ?_
  refine lv_aload_n hx hb dX1_digest_46 rfl (lv_at hl 2 rfl) ?_
  refine va_get (D := (dC, dI)) (ci := 1) (v := .ref ra) (C := RX1) (T := TX1) (N := 7) hx hb hts (by decide +kernel) hown hK hP 0 rfl rfl 3 (by decide) (hts (.fieldLink RX1 19 "ThatchRoof" "rains" "[I") (by decide +kernel)) (fun _ h9 => h9) rfl dX1_digest_47 ?_
  refine lv_iload_n hx hb dX1_digest_50 rfl (lv_at hl 0 rfl) ?_
  refine va_iald hx hb hK hP 3 2 rfl rfl (vp_in_nI (n := 11) (by decide) (by decide)) dX1_digest_51 ?_
  refine lv_topi (fun x54 ex54 => ?_)
  obtain rfl : x54 = 4 := ex54.trans (hra _ (by decide))
  refine lv_imul hx hb dX1_digest_52 ?_
  refine W.eq (g2 := F0 m 53 ls [.int 40, .long 2576564512762243783]) rfl ?_
  refine lv_aload_n hx hb dX1_digest_53 rfl (lv_at hl 2 rfl) ?_
  refine va_get (D := (dC, dI)) (ci := 1) (v := .ref su) (C := RX1) (T := TX1) (N := 7) hx hb hts (by decide +kernel) hown hK hP 0 rfl rfl 4 (by decide) (hts (.fieldLink RX1 22 "ThatchRoof" "storms" "[I") (by decide +kernel)) (fun _ h9 => h9) rfl dX1_digest_54 ?_
  refine lv_iload_n hx hb dX1_digest_57 rfl (lv_at hl 0 rfl) ?_
  refine va_iald hx hb hK hP 4 3 rfl rfl (vp_in_nI (n := 11) (by decide) (by decide)) dX1_digest_58 ?_
  refine lv_topi (fun x55 ex55 => ?_)
  obtain rfl : x55 = 0 := ex55
  refine lv_iadd hx hb dX1_digest_59 ?_
  refine W.eq (g2 := F0 m 60 ls [.int 40, .long 2576564512762243783]) rfl ?_
  refine lv_i2l (v := 40) hx hb dX1_digest_60 (by first | rfl | decide) ?_
  refine lv_ladd hx hb dX1_digest_61 ?_
  refine W.eq (g2 := F0 m 62 ls [.long 2576564512762243823]) rfl ?_
  refine lv_lstore_n (lv' := [(1, .long 2576564512762243823), (3, .int 11), (0, .ref h)]) hx hb dX1_digest_62 rfl hl (by decide) rfl (fun ls hl => ?_)
  refine lv_iinc (v := 12) (lv' := [(3, .int 12), (1, .long 2576564512762243823), (0, .ref h)]) hx hb dX1_digest_63 hl (k := 1) rfl (by decide) (by decide) rfl (fun ls hl => ?_)
  refine lv_goto (tgt := 33) hx hb dX1_digest_66 (by decide) ?_
  refine lv_iload_n hx hb dX1_digest_33 rfl (lv_at hl 0 rfl) ?_
  refine lv_bipush (v := 12) hx hb dX1_digest_34 (by decide) ?_
  refine lv_icmp_ge (tgt := 69) hx hb dX1_digest_36 (by decide) (fun c56 => ?_) (fun c56 => absurd c56 (by decide))
  refine lv_iconst (v := 0) hx hb dX1_digest_69 (by decide) ?_
  refine lv_istore_n (lv' := [(3, .int 0), (1, .long 2576564512762243823), (0, .ref h)]) hx hb dX1_digest_70 rfl hl (by decide) rfl (fun ls hl => ?_)
  refine lv_iload_n hx hb dX1_digest_71 rfl (lv_at hl 0 rfl) ?_
  refine lv_bipush (v := 6) hx hb dX1_digest_72 (by decide) ?_
  refine lv_icmp_ge (tgt := 103) hx hb dX1_digest_74 (by decide) (fun c57 => absurd c57 (by decide)) (fun c57 => ?_)
  refine lv_aload_n hx hb dX1_digest_77 rfl (lv_at hl 2 rfl) ?_
  refine va_get (D := (dC, dI)) (ci := 1) (v := .ref ro) (C := RX1) (T := TX1) (N := 7) hx hb hts (by decide +kernel) hown hK hP 0 rfl rfl 0 (by decide) (hts (.fieldLink RX1 11 "ThatchRoof" "roofs" "[LThatchRoof$Roof;") (by decide +kernel)) (fun _ h9 => h9) rfl dX1_digest_78 ?_
  refine lv_iload_n hx hb dX1_digest_81 rfl (lv_at hl 0 rfl) ?_
  refine va_aldq hx hb hK hP 1 0 rfl rfl (vp_in_nI (n := 0) (by decide) (by decide)) dX1_digest_82 ?_
  rw [show fr (0 : Int32).toNatClampNeg = some y0h from hy0]
  refine W.eq (g2 := F0 m 83 ls [.ref y0h]) rfl ?_
  refine lv_astore (lv' := [(4, .ref y0h), (3, .int 0), (1, .long 2576564512762243823), (0, .ref h)]) hx hb dX1_digest_83 hl (by decide) rfl (fun ls hl => ?_)
  refine lv_aload hx hb dX1_digest_85 (lv_at hl 0 rfl) ?_
  refine lv_ifnull hx hb dX1_digest_87 ?_
  refine lv_aload hx hb dX1_digest_90 (lv_at hl 0 rfl) ?_
  refine lv_lload_n hx hb dX1_digest_92 rfl (lv_at hl 2 rfl) ?_
  have hPc := hP.sub (ws' := [(y0h, .inr (0, [.int 10, .int 6, .int 30, .int 100, .int 0, .int 0, .ref y0k, .ref y0t, .ref y0p, .ref y0m])), (y0t, .inl (Y0c, 60, .inl (fun _ => 0)))]) [5, 6] rfl
  have hKc := hK.sub (tys' := [(Y0c, .int)]) [4] rfl
  refine vp_callSl (va_runS (As := [.ref y0h, .long 2576564512762243823]) (rest := []) ⟨hx, hb, hml, hown, hts⟩ (r1_digestRoof l dC dI y0h y0k y0t y0p y0m Y0c 2576564512762243823 ) (va_cwS 2 hts gX1_digest_X1_digestRoof rfl rfl rfl (by decide +kernel) ⟨Nat.le_of_ble_eq_true rfl, Nat.le_of_ble_eq_true rfl⟩) ⟨fun a U g mk q => by obtain ⟨q0, qP, qK⟩ := q; exact ⟨q0, qP, va_K.moved (u := U) (U := U.calling g mk a) (Vm.Alike.refl U.vm) qK⟩, fun U hU hW => ⟨rfl, by rw [hU]; exact hPc, va_K.moved hW.alike hKc⟩⟩ rfl rfl hl.1 rfl (lv_room (Nat.le_of_ble_eq_true rfl)) dX1_digest_93 ⟨Nat.le_of_ble_eq_true rfl, Nat.le_of_ble_eq_true rfl⟩).run (fun r58 hr58 => ?_)
  have evr58_0 := hr58
  rw [evr58_0]
  refine lv_lstore_n (lv' := [(1, .long (zz_rf 2576564512762243823)), (4, .ref y0h), (3, .int 0), (0, .ref h)]) hx hb dX1_digest_96 rfl hl (by decide) rfl (fun ls hl => ?_)
  refine lv_iinc (v := 1) (lv' := [(3, .int 1), (1, .long (zz_rf 2576564512762243823)), (4, .ref y0h), (0, .ref h)]) hx hb dX1_digest_97 hl (k := 2) rfl (by decide) (by decide) rfl (fun ls hl => ?_)
  refine lv_goto (tgt := 71) hx hb dX1_digest_100 (by decide) ?_
  refine lv_iload_n hx hb dX1_digest_71 rfl (lv_at hl 0 rfl) ?_
  refine lv_bipush (v := 6) hx hb dX1_digest_72 (by decide) ?_
  refine lv_icmp_ge (tgt := 103) hx hb dX1_digest_74 (by decide) (fun c59 => absurd c59 (by decide)) (fun c59 => ?_)
  refine lv_aload_n hx hb dX1_digest_77 rfl (lv_at hl 3 rfl) ?_
  refine va_get (D := (dC, dI)) (ci := 1) (v := .ref ro) (C := RX1) (T := TX1) (N := 7) hx hb hts (by decide +kernel) hown hK hP 0 rfl rfl 0 (by decide) (hts (.fieldLink RX1 11 "ThatchRoof" "roofs" "[LThatchRoof$Roof;") (by decide +kernel)) (fun _ h9 => h9) rfl dX1_digest_78 ?_
  refine lv_iload_n hx hb dX1_digest_81 rfl (lv_at hl 0 rfl) ?_
  refine va_aldq hx hb hK hP 1 0 rfl rfl (vp_in_nI (n := 1) (by decide) (by decide)) dX1_digest_82 ?_
  rw [show fr (1 : Int32).toNatClampNeg = some y1h from hy1]
  refine W.eq (g2 := F0 m 83 ls [.ref y1h]) rfl ?_
  refine lv_astore (lv' := [(4, .ref y1h), (3, .int 1), (1, .long (zz_rf 2576564512762243823)), (0, .ref h)]) hx hb dX1_digest_83 hl (by decide) rfl (fun ls hl => ?_)
  refine lv_aload hx hb dX1_digest_85 (lv_at hl 0 rfl) ?_
  refine lv_ifnull hx hb dX1_digest_87 ?_
  refine lv_aload hx hb dX1_digest_90 (lv_at hl 0 rfl) ?_
  refine lv_lload_n hx hb dX1_digest_92 rfl (lv_at hl 2 rfl) ?_
  have hPc := hP.sub (ws' := [(y1h, .inr (0, [.int 10, .int 6, .int 30, .int 100, .int 0, .int 0, .ref y1k, .ref y1t, .ref y1p, .ref y1m])), (y1t, .inl (Y1c, 60, .inl (fun _ => 0)))]) [7, 8] rfl
  have hKc := hK.sub (tys' := [(Y1c, .int)]) [5] rfl
  refine vp_callSl (va_runS (As := [.ref y1h, .long (zz_rf 2576564512762243823)]) (rest := []) ⟨hx, hb, hml, hown, hts⟩ (r1_digestRoof l dC dI y1h y1k y1t y1p y1m Y1c (zz_rf 2576564512762243823) ) (va_cwS 2 hts gX1_digest_X1_digestRoof rfl rfl rfl (by decide +kernel) ⟨Nat.le_of_ble_eq_true rfl, Nat.le_of_ble_eq_true rfl⟩) ⟨fun a U g mk q => by obtain ⟨q0, qP, qK⟩ := q; exact ⟨q0, qP, va_K.moved (u := U) (U := U.calling g mk a) (Vm.Alike.refl U.vm) qK⟩, fun U hU hW => ⟨rfl, by rw [hU]; exact hPc, va_K.moved hW.alike hKc⟩⟩ rfl rfl hl.1 rfl (lv_room (Nat.le_of_ble_eq_true rfl)) dX1_digest_93 ⟨Nat.le_of_ble_eq_true rfl, Nat.le_of_ble_eq_true rfl⟩).run (fun r60 hr60 => ?_)
  have evr60_0 := hr60
  rw [evr60_0]
  refine lv_lstore_n (lv' := [(1, .long (zz_rf (zz_rf 2576564512762243823))), (4, .ref y1h), (3, .int 1), (0, .ref h)]) hx hb dX1_digest_96 rfl hl (by decide) rfl (fun ls hl => ?_)
  refine lv_iinc (v := 2) (lv' := [(3, .int 2), (1, .long (zz_rf (zz_rf 2576564512762243823))), (4, .ref y1h), (0, .ref h)]) hx hb dX1_digest_97 hl (k := 2) rfl (by decide) (by decide) rfl (fun ls hl => ?_)
  refine lv_goto (tgt := 71) hx hb dX1_digest_100 (by decide) ?_
  refine lv_iload_n hx hb dX1_digest_71 rfl (lv_at hl 0 rfl) ?_
  refine lv_bipush (v := 6) hx hb dX1_digest_72 (by decide) ?_
  refine lv_icmp_ge (tgt := 103) hx hb dX1_digest_74 (by decide) (fun c61 => absurd c61 (by decide)) (fun c61 => ?_)
  refine lv_aload_n hx hb dX1_digest_77 rfl (lv_at hl 3 rfl) ?_
  refine va_get (D := (dC, dI)) (ci := 1) (v := .ref ro) (C := RX1) (T := TX1) (N := 7) hx hb hts (by decide +kernel) hown hK hP 0 rfl rfl 0 (by decide) (hts (.fieldLink RX1 11 "ThatchRoof" "roofs" "[LThatchRoof$Roof;") (by decide +kernel)) (fun _ h9 => h9) rfl dX1_digest_78 ?_
  refine lv_iload_n hx hb dX1_digest_81 rfl (lv_at hl 0 rfl) ?_
  refine va_aldq hx hb hK hP 1 0 rfl rfl (vp_in_nI (n := 2) (by decide) (by decide)) dX1_digest_82 ?_
  rw [show fr (2 : Int32).toNatClampNeg = some y2h from hy2]
  refine W.eq (g2 := F0 m 83 ls [.ref y2h]) rfl ?_
  refine lv_astore (lv' := [(4, .ref y2h), (3, .int 2), (1, .long (zz_rf (zz_rf 2576564512762243823))), (0, .ref h)]) hx hb dX1_digest_83 hl (by decide) rfl (fun ls hl => ?_)
  refine lv_aload hx hb dX1_digest_85 (lv_at hl 0 rfl) ?_
  refine lv_ifnull hx hb dX1_digest_87 ?_
  refine lv_aload hx hb dX1_digest_90 (lv_at hl 0 rfl) ?_
  refine lv_lload_n hx hb dX1_digest_92 rfl (lv_at hl 2 rfl) ?_
  have hPc := hP.sub (ws' := [(y2h, .inr (0, [.int 10, .int 6, .int 30, .int 100, .int 0, .int 0, .ref y2k, .ref y2t, .ref y2p, .ref y2m])), (y2t, .inl (Y2c, 60, .inl (fun _ => 0)))]) [9, 10] rfl
  have hKc := hK.sub (tys' := [(Y2c, .int)]) [6] rfl
  refine vp_callSl (va_runS (As := [.ref y2h, .long (zz_rf (zz_rf 2576564512762243823))]) (rest := []) ⟨hx, hb, hml, hown, hts⟩ (r1_digestRoof l dC dI y2h y2k y2t y2p y2m Y2c (zz_rf (zz_rf 2576564512762243823)) ) (va_cwS 2 hts gX1_digest_X1_digestRoof rfl rfl rfl (by decide +kernel) ⟨Nat.le_of_ble_eq_true rfl, Nat.le_of_ble_eq_true rfl⟩) ⟨fun a U g mk q => by obtain ⟨q0, qP, qK⟩ := q; exact ⟨q0, qP, va_K.moved (u := U) (U := U.calling g mk a) (Vm.Alike.refl U.vm) qK⟩, fun U hU hW => ⟨rfl, by rw [hU]; exact hPc, va_K.moved hW.alike hKc⟩⟩ rfl rfl hl.1 rfl (lv_room (Nat.le_of_ble_eq_true rfl)) dX1_digest_93 ⟨Nat.le_of_ble_eq_true rfl, Nat.le_of_ble_eq_true rfl⟩).run (fun r62 hr62 => ?_)
  have evr62_0 := hr62
  rw [evr62_0]
  refine lv_lstore_n (lv' := [(1, .long (zz_rf (zz_rf (zz_rf 2576564512762243823)))), (4, .ref y2h), (3, .int 2), (0, .ref h)]) hx hb dX1_digest_96 rfl hl (by decide) rfl (fun ls hl => ?_)
  refine lv_iinc (v := 3) (lv' := [(3, .int 3), (1, .long (zz_rf (zz_rf (zz_rf 2576564512762243823)))), (4, .ref y2h), (0, .ref h)]) hx hb dX1_digest_97 hl (k := 2) rfl (by decide) (by decide) rfl (fun ls hl => ?_)
  refine lv_goto (tgt := 71) hx hb dX1_digest_100 (by decide) ?_
  refine lv_iload_n hx hb dX1_digest_71 rfl (lv_at hl 0 rfl) ?_
  refine lv_bipush (v := 6) hx hb dX1_digest_72 (by decide) ?_
  refine lv_icmp_ge (tgt := 103) hx hb dX1_digest_74 (by decide) (fun c63 => absurd c63 (by decide)) (fun c63 => ?_)
  refine lv_aload_n hx hb dX1_digest_77 rfl (lv_at hl 3 rfl) ?_
  refine va_get (D := (dC, dI)) (ci := 1) (v := .ref ro) (C := RX1) (T := TX1) (N := 7) hx hb hts (by decide +kernel) hown hK hP 0 rfl rfl 0 (by decide) (hts (.fieldLink RX1 11 "ThatchRoof" "roofs" "[LThatchRoof$Roof;") (by decide +kernel)) (fun _ h9 => h9) rfl dX1_digest_78 ?_
  refine lv_iload_n hx hb dX1_digest_81 rfl (lv_at hl 0 rfl) ?_
  refine va_aldq hx hb hK hP 1 0 rfl rfl (vp_in_nI (n := 3) (by decide) (by decide)) dX1_digest_82 ?_
  rw [show fr (3 : Int32).toNatClampNeg = some y3h from hy3]
  refine W.eq (g2 := F0 m 83 ls [.ref y3h]) rfl ?_
  refine lv_astore (lv' := [(4, .ref y3h), (3, .int 3), (1, .long (zz_rf (zz_rf (zz_rf 2576564512762243823)))), (0, .ref h)]) hx hb dX1_digest_83 hl (by decide) rfl (fun ls hl => ?_)
  refine lv_aload hx hb dX1_digest_85 (lv_at hl 0 rfl) ?_
  refine lv_ifnull hx hb dX1_digest_87 ?_
  refine lv_aload hx hb dX1_digest_90 (lv_at hl 0 rfl) ?_
  refine lv_lload_n hx hb dX1_digest_92 rfl (lv_at hl 2 rfl) ?_
  have hPc := hP.sub (ws' := [(y3h, .inr (0, [.int 10, .int 6, .int 30, .int 100, .int 0, .int 0, .ref y3k, .ref y3t, .ref y3p, .ref y3m])), (y3t, .inl (Y3c, 60, .inl (fun _ => 0)))]) [11, 12] rfl
  have hKc := hK.sub (tys' := [(Y3c, .int)]) [7] rfl
  refine vp_callSl (va_runS (As := [.ref y3h, .long (zz_rf (zz_rf (zz_rf 2576564512762243823)))]) (rest := []) ⟨hx, hb, hml, hown, hts⟩ (r1_digestRoof l dC dI y3h y3k y3t y3p y3m Y3c (zz_rf (zz_rf (zz_rf 2576564512762243823))) ) (va_cwS 2 hts gX1_digest_X1_digestRoof rfl rfl rfl (by decide +kernel) ⟨Nat.le_of_ble_eq_true rfl, Nat.le_of_ble_eq_true rfl⟩) ⟨fun a U g mk q => by obtain ⟨q0, qP, qK⟩ := q; exact ⟨q0, qP, va_K.moved (u := U) (U := U.calling g mk a) (Vm.Alike.refl U.vm) qK⟩, fun U hU hW => ⟨rfl, by rw [hU]; exact hPc, va_K.moved hW.alike hKc⟩⟩ rfl rfl hl.1 rfl (lv_room (Nat.le_of_ble_eq_true rfl)) dX1_digest_93 ⟨Nat.le_of_ble_eq_true rfl, Nat.le_of_ble_eq_true rfl⟩).run (fun r64 hr64 => ?_)
  have evr64_0 := hr64
  rw [evr64_0]
  refine lv_lstore_n (lv' := [(1, .long (zz_rf (zz_rf (zz_rf (zz_rf 2576564512762243823))))), (4, .ref y3h), (3, .int 3), (0, .ref h)]) hx hb dX1_digest_96 rfl hl (by decide) rfl (fun ls hl => ?_)
  refine lv_iinc (v := 4) (lv' := [(3, .int 4), (1, .long (zz_rf (zz_rf (zz_rf (zz_rf 2576564512762243823))))), (4, .ref y3h), (0, .ref h)]) hx hb dX1_digest_97 hl (k := 2) rfl (by decide) (by decide) rfl (fun ls hl => ?_)
  refine lv_goto (tgt := 71) hx hb dX1_digest_100 (by decide) ?_
  refine lv_iload_n hx hb dX1_digest_71 rfl (lv_at hl 0 rfl) ?_
  refine lv_bipush (v := 6) hx hb dX1_digest_72 (by decide) ?_
  refine lv_icmp_ge (tgt := 103) hx hb dX1_digest_74 (by decide) (fun c65 => absurd c65 (by decide)) (fun c65 => ?_)
  refine lv_aload_n hx hb dX1_digest_77 rfl (lv_at hl 3 rfl) ?_
  refine va_get (D := (dC, dI)) (ci := 1) (v := .ref ro) (C := RX1) (T := TX1) (N := 7) hx hb hts (by decide +kernel) hown hK hP 0 rfl rfl 0 (by decide) (hts (.fieldLink RX1 11 "ThatchRoof" "roofs" "[LThatchRoof$Roof;") (by decide +kernel)) (fun _ h9 => h9) rfl dX1_digest_78 ?_
  refine lv_iload_n hx hb dX1_digest_81 rfl (lv_at hl 0 rfl) ?_
  refine va_aldq hx hb hK hP 1 0 rfl rfl (vp_in_nI (n := 4) (by decide) (by decide)) dX1_digest_82 ?_
  rw [show fr (4 : Int32).toNatClampNeg = some y4h from hy4]
  refine W.eq (g2 := F0 m 83 ls [.ref y4h]) rfl ?_
  refine lv_astore (lv' := [(4, .ref y4h), (3, .int 4), (1, .long (zz_rf (zz_rf (zz_rf (zz_rf 2576564512762243823))))), (0, .ref h)]) hx hb dX1_digest_83 hl (by decide) rfl (fun ls hl => ?_)
  refine lv_aload hx hb dX1_digest_85 (lv_at hl 0 rfl) ?_
  refine lv_ifnull hx hb dX1_digest_87 ?_
  refine lv_aload hx hb dX1_digest_90 (lv_at hl 0 rfl) ?_
  refine lv_lload_n hx hb dX1_digest_92 rfl (lv_at hl 2 rfl) ?_
  have hPc := hP.sub (ws' := [(y4h, .inr (0, [.int 10, .int 6, .int 30, .int 100, .int 0, .int 0, .ref y4k, .ref y4t, .ref y4p, .ref y4m])), (y4t, .inl (Y4c, 60, .inl (fun _ => 0)))]) [13, 14] rfl
  have hKc := hK.sub (tys' := [(Y4c, .int)]) [8] rfl
  refine vp_callSl (va_runS (As := [.ref y4h, .long (zz_rf (zz_rf (zz_rf (zz_rf 2576564512762243823))))]) (rest := []) ⟨hx, hb, hml, hown, hts⟩ (r1_digestRoof l dC dI y4h y4k y4t y4p y4m Y4c (zz_rf (zz_rf (zz_rf (zz_rf 2576564512762243823)))) ) (va_cwS 2 hts gX1_digest_X1_digestRoof rfl rfl rfl (by decide +kernel) ⟨Nat.le_of_ble_eq_true rfl, Nat.le_of_ble_eq_true rfl⟩) ⟨fun a U g mk q => by obtain ⟨q0, qP, qK⟩ := q; exact ⟨q0, qP, va_K.moved (u := U) (U := U.calling g mk a) (Vm.Alike.refl U.vm) qK⟩, fun U hU hW => ⟨rfl, by rw [hU]; exact hPc, va_K.moved hW.alike hKc⟩⟩ rfl rfl hl.1 rfl (lv_room (Nat.le_of_ble_eq_true rfl)) dX1_digest_93 ⟨Nat.le_of_ble_eq_true rfl, Nat.le_of_ble_eq_true rfl⟩).run (fun r66 hr66 => ?_)
  have evr66_0 := hr66
  rw [evr66_0]
  refine lv_lstore_n (lv' := [(1, .long (zz_rf (zz_rf (zz_rf (zz_rf (zz_rf 2576564512762243823)))))), (4, .ref y4h), (3, .int 4), (0, .ref h)]) hx hb dX1_digest_96 rfl hl (by decide) rfl (fun ls hl => ?_)
  refine lv_iinc (v := 5) (lv' := [(3, .int 5), (1, .long (zz_rf (zz_rf (zz_rf (zz_rf (zz_rf 2576564512762243823)))))), (4, .ref y4h), (0, .ref h)]) hx hb dX1_digest_97 hl (k := 2) rfl (by decide) (by decide) rfl (fun ls hl => ?_)
  refine lv_goto (tgt := 71) hx hb dX1_digest_100 (by decide) ?_
  refine lv_iload_n hx hb dX1_digest_71 rfl (lv_at hl 0 rfl) ?_
  refine lv_bipush (v := 6) hx hb dX1_digest_72 (by decide) ?_
  refine lv_icmp_ge (tgt := 103) hx hb dX1_digest_74 (by decide) (fun c67 => absurd c67 (by decide)) (fun c67 => ?_)
  refine lv_aload_n hx hb dX1_digest_77 rfl (lv_at hl 3 rfl) ?_
  refine va_get (D := (dC, dI)) (ci := 1) (v := .ref ro) (C := RX1) (T := TX1) (N := 7) hx hb hts (by decide +kernel) hown hK hP 0 rfl rfl 0 (by decide) (hts (.fieldLink RX1 11 "ThatchRoof" "roofs" "[LThatchRoof$Roof;") (by decide +kernel)) (fun _ h9 => h9) rfl dX1_digest_78 ?_
  refine lv_iload_n hx hb dX1_digest_81 rfl (lv_at hl 0 rfl) ?_
  refine va_aldq hx hb hK hP 1 0 rfl rfl (vp_in_nI (n := 5) (by decide) (by decide)) dX1_digest_82 ?_
  rw [show fr (5 : Int32).toNatClampNeg = some y5h from hy5]
  refine W.eq (g2 := F0 m 83 ls [.ref y5h]) rfl ?_
  refine lv_astore (lv' := [(4, .ref y5h), (3, .int 5), (1, .long (zz_rf (zz_rf (zz_rf (zz_rf (zz_rf 2576564512762243823)))))), (0, .ref h)]) hx hb dX1_digest_83 hl (by decide) rfl (fun ls hl => ?_)
  refine lv_aload hx hb dX1_digest_85 (lv_at hl 0 rfl) ?_
  refine lv_ifnull hx hb dX1_digest_87 ?_
  refine lv_aload hx hb dX1_digest_90 (lv_at hl 0 rfl) ?_
  refine lv_lload_n hx hb dX1_digest_92 rfl (lv_at hl 2 rfl) ?_
  have hPc := hP.sub (ws' := [(y5h, .inr (0, [.int 10, .int 6, .int 30, .int 100, .int 0, .int 0, .ref y5k, .ref y5t, .ref y5p, .ref y5m])), (y5t, .inl (Y5c, 60, .inl (fun _ => 0)))]) [15, 16] rfl
  have hKc := hK.sub (tys' := [(Y5c, .int)]) [9] rfl
  refine vp_callSl (va_runS (As := [.ref y5h, .long (zz_rf (zz_rf (zz_rf (zz_rf (zz_rf 2576564512762243823)))))]) (rest := []) ⟨hx, hb, hml, hown, hts⟩ (r1_digestRoof l dC dI y5h y5k y5t y5p y5m Y5c (zz_rf (zz_rf (zz_rf (zz_rf (zz_rf 2576564512762243823))))) ) (va_cwS 2 hts gX1_digest_X1_digestRoof rfl rfl rfl (by decide +kernel) ⟨Nat.le_of_ble_eq_true rfl, Nat.le_of_ble_eq_true rfl⟩) ⟨fun a U g mk q => by obtain ⟨q0, qP, qK⟩ := q; exact ⟨q0, qP, va_K.moved (u := U) (U := U.calling g mk a) (Vm.Alike.refl U.vm) qK⟩, fun U hU hW => ⟨rfl, by rw [hU]; exact hPc, va_K.moved hW.alike hKc⟩⟩ rfl rfl hl.1 rfl (lv_room (Nat.le_of_ble_eq_true rfl)) dX1_digest_93 ⟨Nat.le_of_ble_eq_true rfl, Nat.le_of_ble_eq_true rfl⟩).run (fun r68 hr68 => ?_)
  have evr68_0 := hr68
  rw [evr68_0]
  refine lv_lstore_n (lv' := [(1, .long (zz_rf (zz_rf (zz_rf (zz_rf (zz_rf (zz_rf 2576564512762243823))))))), (4, .ref y5h), (3, .int 5), (0, .ref h)]) hx hb dX1_digest_96 rfl hl (by decide) rfl (fun ls hl => ?_)
  refine lv_iinc (v := 6) (lv' := [(3, .int 6), (1, .long (zz_rf (zz_rf (zz_rf (zz_rf (zz_rf (zz_rf 2576564512762243823))))))), (4, .ref y5h), (0, .ref h)]) hx hb dX1_digest_97 hl (k := 2) rfl (by decide) (by decide) rfl (fun ls hl => ?_)
  refine lv_goto (tgt := 71) hx hb dX1_digest_100 (by decide) ?_
  refine lv_iload_n hx hb dX1_digest_71 rfl (lv_at hl 0 rfl) ?_
  refine lv_bipush (v := 6) hx hb dX1_digest_72 (by decide) ?_
  refine lv_icmp_ge (tgt := 103) hx hb dX1_digest_74 (by decide) (fun c69 => ?_) (fun c69 => absurd c69 (by decide))
  refine lv_lload_n hx hb dX1_digest_103 rfl (lv_at hl 1 rfl) ?_
  exact W.lret (v := zz_rf (zz_rf (zz_rf (zz_rf (zz_rf (zz_rf 2576564512762243823)))))) hx hb hr (fun t ht hW => ⟨zz_rf (zz_rf (zz_rf (zz_rf (zz_rf (zz_rf 2576564512762243823))))), rfl, by (first | rfl | assumption | decide | (simp_all; done) | grind), ht⟩) (fun _ h => nomatch h) dX1_digest_104
end

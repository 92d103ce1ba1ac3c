/-! what a start gives beside the tables' words - which exceptions are which, the statics that a throw reads, the written texts - and plain numbers -/
/-- a number within bounds, as the code asks it -/
def zIn (x lo hi : Int32) : Prop := ¬ x < lo ∧ ¬ hi < x
theorem zIn_in {x hi : Int32} {n : Nat} (h : zIn x 0 hi) (hn : hi.toInt < (n : Int)) : vp_in x n := by
  refine vp_in_iff.mpr ⟨?_, ?_⟩
  · have h1 := h.1
    rw [Int32.lt_iff_toInt_lt] at h1
    have h2 : (0 : Int32).toInt = 0 := by decide
    omega
  · have h1 := h.2
    rw [Int32.lt_iff_toInt_lt] at h1
    omega
theorem zIn_toInt {x lo hi : Int32} (h : zIn x lo hi) : lo.toInt ≤ x.toInt ∧ x.toInt ≤ hi.toInt := by
  obtain ⟨h1, h2⟩ := h
  rw [Int32.lt_iff_toInt_lt] at h1 h2
  omega
/-- what count() tells of a village just made -/
def zTal (x : Int32) : Int32 := if x = 7 then 4 else 0
theorem zIn_cl {x hi : Int32} {n : Nat} (h : zIn x 0 hi) (hn : hi.toInt < (n : Int)) : x.toNatClampNeg < n := Nat.lt_of_not_le (fun q => zIn_in h hn (Or.inr q))
theorem zIn_nat {x hi : Int32} (N : Nat) (h : zIn x 1 hi) (hn : hi.toInt = (N : Int)) (hN : N < 2 ^ 31) : ∃ n : Nat, 1 ≤ n ∧ n ≤ N ∧ x = nI n := by
  have h1 := zIn_toInt h
  have h2 : (1 : Int32).toInt = 1 := by decide
  refine ⟨x.toInt.toNat, by omega, by omega, ?_⟩
  apply Int32.toInt_inj.mp
  rw [nI_toInt (by omega)]
  omega
theorem zIn_no {x : Int32} : ¬ zIn x 0 (-1) := fun h => by
  have h1 := zIn_toInt h
  have h2 : (0 : Int32).toInt = 0 := by decide
  have h3 : (-1 : Int32).toInt = -1 := by decide
  omega
theorem zCmp {x y : Int64} (h : x = y) : lg_cmp x y = 0 := by
  subst h
  simp [lg_cmp]
def zX (U : State) : Prop := va_Nw (.castable "java/lang/IllegalArgumentException" "java/lang/IllegalArgumentException") U ∧ va_Nw (.castable "java/lang/IllegalStateException" "java/lang/IllegalStateException") U ∧ va_Nw (.castable "java/lang/IndexOutOfBoundsException" "java/lang/IndexOutOfBoundsException") U ∧ va_Nc "java/lang/IllegalArgumentException" "java/lang/IllegalStateException" U ∧ va_Nc "java/lang/IllegalArgumentException" "java/lang/IndexOutOfBoundsException" U ∧ va_Nc "java/lang/IllegalStateException" "java/lang/IllegalArgumentException" U ∧ va_Nc "java/lang/IllegalStateException" "java/lang/IndexOutOfBoundsException" U ∧ va_Nc "java/lang/IndexOutOfBoundsException" "java/lang/IllegalArgumentException" U ∧ va_Nc "java/lang/IndexOutOfBoundsException" "java/lang/IllegalStateException" U ∧ va_AO RX0 U ∧ va_Nw (.declares (Bundle.initS "java/lang/RuntimeException")) U ∧ va_Nw (.declares (Bundle.initS "java/lang/Exception")) U ∧ va_Nw (.declares (Bundle.initS Bundle.tN)) U ∧ (∃ a : Nat, vk_R RX1 38 "no such shape of a roof" a U) ∧ (∃ a : Nat, vk_R RX1 49 "there are 6 roofs" a U) ∧ (∃ a : Nat, vk_R RX1 58 "no such kind" a U) ∧ (∃ a : Nat, vk_R RX1 61 "not 1 to 500 bundles" a U) ∧ (∃ a : Nat, vk_R RX1 63 "more than the barn holds" a U) ∧ (∃ a : Nat, vk_R RX1 65 "no such month of the year" a U) ∧ (∃ a : Nat, vk_R RX1 67 "rain or storm not 0 to 9" a U) ∧ (∃ a : Nat, vk_R RX1 77 "no such roof, course, place or kind" a U) ∧ (∃ a : Nat, vk_R RX1 82 "thickness not 1 to 40, or spars not 0 to 9" a U) ∧ (∃ a : Nat, vk_R RX1 91 "a yealm is there, none is below, or the bundles are too few" a U) ∧ (∃ a : Nat, vk_R RX1 100 "no such roof, course or kind" a U) ∧ (∃ a : Nat, vk_R RX1 106 "no such roof, course or place" a U) ∧ (∃ a : Nat, vk_R RX1 112 "no yealm is there, or the bundles are too few" a U) ∧ (∃ a : Nat, vk_R RX1 121 "no such roof" a U) ∧ (∃ a : Nat, vk_R RX1 123 "the bundles of heather are too few" a U) ∧ (∃ a : Nat, vk_R RX1 128 "no such roof, course or place, or nothing told by this number" a U) ∧ (∃ a : Nat, vk_R RX1 134 "no such roof, or nothing told by this number" a U) ∧ (∃ a : Nat, vk_R RX1 139 "nothing counted by this number" a U) ∧ (∃ a : Nat, vk_R RX1 144 "not 1 to 120 months" a U) ∧ (∃ a : Nat, vk_R RX1 158 "storm not 0 to 9" a U) ∧ (∃ a : Nat, vk_R RX1 170 "no such roof, or nothing foreseen by this number" a U) ∧ (∃ a : Nat, vk_R RX1 172 "not 1 to 60 months" a U) ∧ (∃ a : Nat, vk_R RX1 180 "not 1 to 24 months" a U) ∧ (∃ a : Nat, vk_R RX1 192 "thickness not 1 to 40" a U)
theorem zX_cA {U : State} (h : zX U) : va_Nw (.castable "java/lang/IllegalArgumentException" "java/lang/IllegalArgumentException") U := h.1
theorem zX_cS {U : State} (h : zX U) : va_Nw (.castable "java/lang/IllegalStateException" "java/lang/IllegalStateException") U := h.2.1
theorem zX_cB {U : State} (h : zX U) : va_Nw (.castable "java/lang/IndexOutOfBoundsException" "java/lang/IndexOutOfBoundsException") U := h.2.2.1
theorem zX_nAS {U : State} (h : zX U) : va_Nc "java/lang/IllegalArgumentException" "java/lang/IllegalStateException" U := h.2.2.2.1
theorem zX_nAB {U : State} (h : zX U) : va_Nc "java/lang/IllegalArgumentException" "java/lang/IndexOutOfBoundsException" U := h.2.2.2.2.1
theorem zX_nSA {U : State} (h : zX U) : va_Nc "java/lang/IllegalStateException" "java/lang/IllegalArgumentException" U := h.2.2.2.2.2.1
theorem zX_nSB {U : State} (h : zX U) : va_Nc "java/lang/IllegalStateException" "java/lang/IndexOutOfBoundsException" U := h.2.2.2.2.2.2.1
theorem zX_nBA {U : State} (h : zX U) : va_Nc "java/lang/IndexOutOfBoundsException" "java/lang/IllegalArgumentException" U := h.2.2.2.2.2.2.2.1
theorem zX_nBS {U : State} (h : zX U) : va_Nc "java/lang/IndexOutOfBoundsException" "java/lang/IllegalStateException" U := h.2.2.2.2.2.2.2.2.1
theorem zX_over {U : State} (h : zX U) : va_AO RX0 U := h.2.2.2.2.2.2.2.2.2.1
theorem zX_d0 {U : State} (h : zX U) : va_Nw (.declares (Bundle.initS "java/lang/RuntimeException")) U := h.2.2.2.2.2.2.2.2.2.2.1
theorem zX_d1 {U : State} (h : zX U) : va_Nw (.declares (Bundle.initS "java/lang/Exception")) U := h.2.2.2.2.2.2.2.2.2.2.2.1
theorem zX_d2 {U : State} (h : zX U) : va_Nw (.declares (Bundle.initS Bundle.tN)) U := h.2.2.2.2.2.2.2.2.2.2.2.2.1
theorem zX_str_RX1_38 {U : State} (h : zX U) : ∃ a : Nat, vk_R RX1 38 "no such shape of a roof" a U := h.2.2.2.2.2.2.2.2.2.2.2.2.2.1
theorem zX_str_RX1_49 {U : State} (h : zX U) : ∃ a : Nat, vk_R RX1 49 "there are 6 roofs" a U := h.2.2.2.2.2.2.2.2.2.2.2.2.2.2.1
theorem zX_str_RX1_58 {U : State} (h : zX U) : ∃ a : Nat, vk_R RX1 58 "no such kind" a U := h.2.2.2.2.2.2.2.2.2.2.2.2.2.2.2.1
theorem zX_str_RX1_61 {U : State} (h : zX U) : ∃ a : Nat, vk_R RX1 61 "not 1 to 500 bundles" a U := h.2.2.2.2.2.2.2.2.2.2.2.2.2.2.2.2.1
theorem zX_str_RX1_63 {U : State} (h : zX U) : ∃ a : Nat, vk_R RX1 63 "more than the barn holds" a U := h.2.2.2.2.2.2.2.2.2.2.2.2.2.2.2.2.2.1
theorem zX_str_RX1_65 {U : State} (h : zX U) : ∃ a : Nat, vk_R RX1 65 "no such month of the year" a U := h.2.2.2.2.2.2.2.2.2.2.2.2.2.2.2.2.2.2.1
theorem zX_str_RX1_67 {U : State} (h : zX U) : ∃ a : Nat, vk_R RX1 67 "rain or storm not 0 to 9" a U := h.2.2.2.2.2.2.2.2.2.2.2.2.2.2.2.2.2.2.2.1
theorem zX_str_RX1_77 {U : State} (h : zX U) : ∃ a : Nat, vk_R RX1 77 "no such roof, course, place or kind" a U := h.2.2.2.2.2.2.2.2.2.2.2.2.2.2.2.2.2.2.2.2.1
theorem zX_str_RX1_82 {U : State} (h : zX U) : ∃ a : Nat, vk_R RX1 82 "thickness not 1 to 40, or spars not 0 to 9" a U := h.2.2.2.2.2.2.2.2.2.2.2.2.2.2.2.2.2.2.2.2.2.1
theorem zX_str_RX1_91 {U : State} (h : zX U) : ∃ a : Nat, vk_R RX1 91 "a yealm is there, none is below, or the bundles are too few" a U := h.2.2.2.2.2.2.2.2.2.2.2.2.2.2.2.2.2.2.2.2.2.2.1
theorem zX_str_RX1_100 {U : State} (h : zX U) : ∃ a : Nat, vk_R RX1 100 "no such roof, course or kind" a U := h.2.2.2.2.2.2.2.2.2.2.2.2.2.2.2.2.2.2.2.2.2.2.2.1
theorem zX_str_RX1_106 {U : State} (h : zX U) : ∃ a : Nat, vk_R RX1 106 "no such roof, course or place" a U := h.2.2.2.2.2.2.2.2.2.2.2.2.2.2.2.2.2.2.2.2.2.2.2.2.1
theorem zX_str_RX1_112 {U : State} (h : zX U) : ∃ a : Nat, vk_R RX1 112 "no yealm is there, or the bundles are too few" a U := h.2.2.2.2.2.2.2.2.2.2.2.2.2.2.2.2.2.2.2.2.2.2.2.2.2.1
theorem zX_str_RX1_121 {U : State} (h : zX U) : ∃ a : Nat, vk_R RX1 121 "no such roof" a U := h.2.2.2.2.2.2.2.2.2.2.2.2.2.2.2.2.2.2.2.2.2.2.2.2.2.2.1
theorem zX_str_RX1_123 {U : State} (h : zX U) : ∃ a : Nat, vk_R RX1 123 "the bundles of heather are too few" a U := h.2.2.2.2.2.2.2.2.2.2.2.2.2.2.2.2.2.2.2.2.2.2.2.2.2.2.2.1
theorem zX_str_RX1_128 {U : State} (h : zX U) : ∃ a : Nat, vk_R RX1 128 "no such roof, course or place, or nothing told by this number" a U := h.2.2.2.2.2.2.2.2.2.2.2.2.2.2.2.2.2.2.2.2.2.2.2.2.2.2.2.2.1
theorem zX_str_RX1_134 {U : State} (h : zX U) : ∃ a : Nat, vk_R RX1 134 "no such roof, or nothing told by this number" a U := h.2.2.2.2.2.2.2.2.2.2.2.2.2.2.2.2.2.2.2.2.2.2.2.2.2.2.2.2.2.1
theorem zX_str_RX1_139 {U : State} (h : zX U) : ∃ a : Nat, vk_R RX1 139 "nothing counted by this number" a U := h.2.2.2.2.2.2.2.2.2.2.2.2.2.2.2.2.2.2.2.2.2.2.2.2.2.2.2.2.2.2.1
theorem zX_str_RX1_144 {U : State} (h : zX U) : ∃ a : Nat, vk_R RX1 144 "not 1 to 120 months" a U := h.2.2.2.2.2.2.2.2.2.2.2.2.2.2.2.2.2.2.2.2.2.2.2.2.2.2.2.2.2.2.2.1
theorem zX_str_RX1_158 {U : State} (h : zX U) : ∃ a : Nat, vk_R RX1 158 "storm not 0 to 9" a U := h.2.2.2.2.2.2.2.2.2.2.2.2.2.2.2.2.2.2.2.2.2.2.2.2.2.2.2.2.2.2.2.2.1
theorem zX_str_RX1_170 {U : State} (h : zX U) : ∃ a : Nat, vk_R RX1 170 "no such roof, or nothing foreseen by this number" a U := h.2.2.2.2.2.2.2.2.2.2.2.2.2.2.2.2.2.2.2.2.2.2.2.2.2.2.2.2.2.2.2.2.2.1
theorem zX_str_RX1_172 {U : State} (h : zX U) : ∃ a : Nat, vk_R RX1 172 "not 1 to 60 months" a U := h.2.2.2.2.2.2.2.2.2.2.2.2.2.2.2.2.2.2.2.2.2.2.2.2.2.2.2.2.2.2.2.2.2.2.1
theorem zX_str_RX1_180 {U : State} (h : zX U) : ∃ a : Nat, vk_R RX1 180 "not 1 to 24 months" a U := h.2.2.2.2.2.2.2.2.2.2.2.2.2.2.2.2.2.2.2.2.2.2.2.2.2.2.2.2.2.2.2.2.2.2.2.1
theorem zX_str_RX1_192 {U : State} (h : zX U) : ∃ a : Nat, vk_R RX1 192 "thickness not 1 to 40" a U := h.2.2.2.2.2.2.2.2.2.2.2.2.2.2.2.2.2.2.2.2.2.2.2.2.2.2.2.2.2.2.2.2.2.2.2.2
theorem zX.warm {s U : State} (hW : s.WarmedH U.vm) (h : zX s) : zX U := ⟨va_Nw.warmC hW (zX_cA h), va_Nw.warmC hW (zX_cS h), va_Nw.warmC hW (zX_cB h), va_Nc.moved hW.alike (zX_nAS h), va_Nc.moved hW.alike (zX_nAB h), va_Nc.moved hW.alike (zX_nSA h), va_Nc.moved hW.alike (zX_nSB h), va_Nc.moved hW.alike (zX_nBA h), va_Nc.moved hW.alike (zX_nBS h), va_AO.moved hW.alike (zX_over h), va_Nw.warmD hW (zX_d0 h), va_Nw.warmD hW (zX_d1 h), va_Nw.warmD hW (zX_d2 h), (zX_str_RX1_38 h).imp (fun _ q => vk_R.warm hW q), (zX_str_RX1_49 h).imp (fun _ q => vk_R.warm hW q), (zX_str_RX1_58 h).imp (fun _ q => vk_R.warm hW q), (zX_str_RX1_61 h).imp (fun _ q => vk_R.warm hW q), (zX_str_RX1_63 h).imp (fun _ q => vk_R.warm hW q), (zX_str_RX1_65 h).imp (fun _ q => vk_R.warm hW q), (zX_str_RX1_67 h).imp (fun _ q => vk_R.warm hW q), (zX_str_RX1_77 h).imp (fun _ q => vk_R.warm hW q), (zX_str_RX1_82 h).imp (fun _ q => vk_R.warm hW q), (zX_str_RX1_91 h).imp (fun _ q => vk_R.warm hW q), (zX_str_RX1_100 h).imp (fun _ q => vk_R.warm hW q), (zX_str_RX1_106 h).imp (fun _ q => vk_R.warm hW q), (zX_str_RX1_112 h).imp (fun _ q => vk_R.warm hW q), (zX_str_RX1_121 h).imp (fun _ q => vk_R.warm hW q), (zX_str_RX1_123 h).imp (fun _ q => vk_R.warm hW q), (zX_str_RX1_128 h).imp (fun _ q => vk_R.warm hW q), (zX_str_RX1_134 h).imp (fun _ q => vk_R.warm hW q), (zX_str_RX1_139 h).imp (fun _ q => vk_R.warm hW q), (zX_str_RX1_144 h).imp (fun _ q => vk_R.warm hW q), (zX_str_RX1_158 h).imp (fun _ q => vk_R.warm hW q), (zX_str_RX1_170 h).imp (fun _ q => vk_R.warm hW q), (zX_str_RX1_172 h).imp (fun _ q => vk_R.warm hW q), (zX_str_RX1_180 h).imp (fun _ q => vk_R.warm hW q), (zX_str_RX1_192 h).imp (fun _ q => vk_R.warm hW q)⟩
theorem zX.calling {U : State} {g : JFrame} {mk : MethodId} {a : Array Value} (h : zX U) : zX (U.calling g mk a) := zX.warm (State.WarmedH.refl U) h
def zTh (A : Nat → Prop) (U : State) (H : Heap) : Prop := vx_Zq Bundle.tN "UNASSIGNED_STACK" Bundle.steD A U H ∧ vx_Zq Bundle.tN "SUPPRESSED_SENTINEL" Bundle.listD A U H
theorem zTh.calling {A : Nat → Prop} {U : State} {g : JFrame} {mk : MethodId} {a : Array Value} (h : zTh A U U.heap) : zTh A (U.calling g mk a) (U.calling g mk a).heap := ⟨vx_Zq.moved (Vm.Alike.refl U.vm) h.1, vx_Zq.moved (Vm.Alike.refl U.vm) h.2⟩
theorem zTh.at {A B : Nat → Prop} {s U : State} {H : Heap} {locs : List Loc} (hW : s.WarmedH U.vm) (h : zTh A s s.heap) (hS : va_S A s.heap H locs) (hf : ∀ q, B q → A q) : zTh B U H := ⟨vx_Zq.moved hW.alike ((h.1.kept hS.2.1).narrow hf), vx_Zq.moved hW.alike ((h.2.kept hS.2.1).narrow hf)⟩
theorem zAt_X1_40 : ∀ w ∈ (vx_atS RX1 40 "java/lang/IllegalArgumentException" ["java/lang/RuntimeException", "java/lang/Exception"]).filter (fun w => !goodWord w), w ∈ [Cond.castable "java/lang/IllegalArgumentException" "java/lang/IllegalArgumentException", .declares (Bundle.initS "java/lang/RuntimeException"), .declares (Bundle.initS "java/lang/Exception"), .declares (Bundle.initS Bundle.tN)] := by decide +kernel
theorem zGa_X1_40 : ∀ w ∈ vx_atS RX1 40 "java/lang/IllegalArgumentException" ["java/lang/RuntimeException", "java/lang/Exception"], vx_ot w = true := by decide +kernel
theorem zGo_X1_40 (k : Nat) : ∀ w ∈ Cond.classLink RX1 k "java/lang/IllegalArgumentException" :: Cond.initialized "java/lang/IllegalArgumentException" :: vx_atS RX1 40 "java/lang/IllegalArgumentException" ["java/lang/RuntimeException", "java/lang/Exception"], vx_ot w = true := fun w h => (List.mem_cons.mp h).elim (fun e => by rw [e]; rfl) (fun h => (List.mem_cons.mp h).elim (fun e => by rw [e]; rfl) (fun h => zGa_X1_40 w h))
theorem zAt_X1_51 : ∀ w ∈ (vx_atS RX1 51 "java/lang/IllegalStateException" ["java/lang/RuntimeException", "java/lang/Exception"]).filter (fun w => !goodWord w), w ∈ [Cond.castable "java/lang/IllegalStateException" "java/lang/IllegalStateException", .declares (Bundle.initS "java/lang/RuntimeException"), .declares (Bundle.initS "java/lang/Exception"), .declares (Bundle.initS Bundle.tN)] := by decide +kernel
theorem zGa_X1_51 : ∀ w ∈ vx_atS RX1 51 "java/lang/IllegalStateException" ["java/lang/RuntimeException", "java/lang/Exception"], vx_ot w = true := by decide +kernel
theorem zGo_X1_51 (k : Nat) : ∀ w ∈ Cond.classLink RX1 k "java/lang/IllegalStateException" :: Cond.initialized "java/lang/IllegalStateException" :: vx_atS RX1 51 "java/lang/IllegalStateException" ["java/lang/RuntimeException", "java/lang/Exception"], vx_ot w = true := fun w h => (List.mem_cons.mp h).elim (fun e => by rw [e]; rfl) (fun h => (List.mem_cons.mp h).elim (fun e => by rw [e]; rfl) (fun h => zGa_X1_51 w h))
theorem zAt_X1_60 : ∀ w ∈ (vx_atS RX1 60 "java/lang/IndexOutOfBoundsException" ["java/lang/RuntimeException", "java/lang/Exception"]).filter (fun w => !goodWord w), w ∈ [Cond.castable "java/lang/IndexOutOfBoundsException" "java/lang/IndexOutOfBoundsException", .declares (Bundle.initS "java/lang/RuntimeException"), .declares (Bundle.initS "java/lang/Exception"), .declares (Bundle.initS Bundle.tN)] := by decide +kernel
theorem zGa_X1_60 : ∀ w ∈ vx_atS RX1 60 "java/lang/IndexOutOfBoundsException" ["java/lang/RuntimeException", "java/lang/Exception"], vx_ot w = true := by decide +kernel
theorem zGo_X1_60 (k : Nat) : ∀ w ∈ Cond.classLink RX1 k "java/lang/IndexOutOfBoundsException" :: Cond.initialized "java/lang/IndexOutOfBoundsException" :: vx_atS RX1 60 "java/lang/IndexOutOfBoundsException" ["java/lang/RuntimeException", "java/lang/Exception"], vx_ot w = true := fun w h => (List.mem_cons.mp h).elim (fun e => by rw [e]; rfl) (fun h => (List.mem_cons.mp h).elim (fun e => by rw [e]; rfl) (fun h => zGa_X1_60 w h))
def zNs (U : State) : Prop := va_Nw (.fieldLinkNest RX3 118 "ThatchRoofModel$State" "torn" "[I" "ThatchRoofModel") U ∧ va_Nw (.fieldLinkNest RX3 121 "ThatchRoofModel$State" "worn" "[I" "ThatchRoofModel") U ∧ va_Nw (.fieldLinkNest RX3 128 "ThatchRoofModel$State" "month" "I" "ThatchRoofModel") U ∧ va_Nw (.fieldLinkNest RX3 63 "ThatchRoofModel$State" "ridge" "[I" "ThatchRoofModel") U ∧ va_Nw (.fieldLinkNest RX3 86 "ThatchRoofModel$State" "kind" "[I" "ThatchRoofModel") U ∧ va_Nw (.fieldLinkNest RX3 93 "ThatchRoofModel$State" "thick" "[I" "ThatchRoofModel") U ∧ va_Nw (.fieldLinkNest RX3 96 "ThatchRoofModel$State" "spars" "[I" "ThatchRoofModel") U ∧ va_Nw (.fieldLinkNest RX3 99 "ThatchRoofModel$State" "moss" "[I" "ThatchRoofModel") U ∧ va_Nw (.fieldLinkNest RX2 63 "ThatchRoofModel" "courses" "[I" "ThatchRoofModel") U ∧ va_Nw (.fieldLinkNest RX2 75 "ThatchRoofModel" "slope" "[I" "ThatchRoofModel") U ∧ va_Nw (.fieldLinkNest RX2 78 "ThatchRoofModel" "width" "[I" "ThatchRoofModel") U ∧ va_Nw (.fieldLinkNest RX2 85 "ThatchRoofModel" "rain" "[I" "ThatchRoofModel") U ∧ va_Nw (.fieldLinkNest RX2 88 "ThatchRoofModel" "storm" "[I" "ThatchRoofModel") U ∧ va_Nw (.methodLinkNest RX2 55 yX3_cell "ThatchRoofModel") U
theorem zN_RX3_118 {U : State} (h : zNs U) : va_Nw (.fieldLinkNest RX3 118 "ThatchRoofModel$State" "torn" "[I" "ThatchRoofModel") U := h.1
theorem zN_RX3_121 {U : State} (h : zNs U) : va_Nw (.fieldLinkNest RX3 121 "ThatchRoofModel$State" "worn" "[I" "ThatchRoofModel") U := h.2.1
theorem zN_RX3_128 {U : State} (h : zNs U) : va_Nw (.fieldLinkNest RX3 128 "ThatchRoofModel$State" "month" "I" "ThatchRoofModel") U := h.2.2.1
theorem zN_RX3_63 {U : State} (h : zNs U) : va_Nw (.fieldLinkNest RX3 63 "ThatchRoofModel$State" "ridge" "[I" "ThatchRoofModel") U := h.2.2.2.1
theorem zN_RX3_86 {U : State} (h : zNs U) : va_Nw (.fieldLinkNest RX3 86 "ThatchRoofModel$State" "kind" "[I" "ThatchRoofModel") U := h.2.2.2.2.1
theorem zN_RX3_93 {U : State} (h : zNs U) : va_Nw (.fieldLinkNest RX3 93 "ThatchRoofModel$State" "thick" "[I" "ThatchRoofModel") U := h.2.2.2.2.2.1
theorem zN_RX3_96 {U : State} (h : zNs U) : va_Nw (.fieldLinkNest RX3 96 "ThatchRoofModel$State" "spars" "[I" "ThatchRoofModel") U := h.2.2.2.2.2.2.1
theorem zN_RX3_99 {U : State} (h : zNs U) : va_Nw (.fieldLinkNest RX3 99 "ThatchRoofModel$State" "moss" "[I" "ThatchRoofModel") U := h.2.2.2.2.2.2.2.1
theorem zN_RX2_63 {U : State} (h : zNs U) : va_Nw (.fieldLinkNest RX2 63 "ThatchRoofModel" "courses" "[I" "ThatchRoofModel") U := h.2.2.2.2.2.2.2.2.1
theorem zN_RX2_75 {U : State} (h : zNs U) : va_Nw (.fieldLinkNest RX2 75 "ThatchRoofModel" "slope" "[I" "ThatchRoofModel") U := h.2.2.2.2.2.2.2.2.2.1
theorem zN_RX2_78 {U : State} (h : zNs U) : va_Nw (.fieldLinkNest RX2 78 "ThatchRoofModel" "width" "[I" "ThatchRoofModel") U := h.2.2.2.2.2.2.2.2.2.2.1
theorem zN_RX2_85 {U : State} (h : zNs U) : va_Nw (.fieldLinkNest RX2 85 "ThatchRoofModel" "rain" "[I" "ThatchRoofModel") U := h.2.2.2.2.2.2.2.2.2.2.2.1
theorem zN_RX2_88 {U : State} (h : zNs U) : va_Nw (.fieldLinkNest RX2 88 "ThatchRoofModel" "storm" "[I" "ThatchRoofModel") U := h.2.2.2.2.2.2.2.2.2.2.2.2.1
theorem zN_RX2_55 {U : State} (h : zNs U) : va_Nw (.methodLinkNest RX2 55 yX3_cell "ThatchRoofModel") U := h.2.2.2.2.2.2.2.2.2.2.2.2.2
theorem zNs.warm {s U : State} (hW : s.WarmedH U.vm) (h : zNs s) : zNs U := ⟨va_Nw.warmF hW (zN_RX3_118 h), va_Nw.warmF hW (zN_RX3_121 h), va_Nw.warmF hW (zN_RX3_128 h), va_Nw.warmF hW (zN_RX3_63 h), va_Nw.warmF hW (zN_RX3_86 h), va_Nw.warmF hW (zN_RX3_93 h), va_Nw.warmF hW (zN_RX3_96 h), va_Nw.warmF hW (zN_RX3_99 h), va_Nw.warmF hW (zN_RX2_63 h), va_Nw.warmF hW (zN_RX2_75 h), va_Nw.warmF hW (zN_RX2_78 h), va_Nw.warmF hW (zN_RX2_85 h), va_Nw.warmF hW (zN_RX2_88 h), va_Nw.warmM hW (zN_RX2_55 h)⟩
theorem zNs.calling {U : State} {g : JFrame} {mk : MethodId} {a : Array Value} (h : zNs U) : zNs (U.calling g mk a) := zNs.warm (State.WarmedH.refl U) h

section
/-! what a start gives beside the tables' words - which exceptions are which, the statics that a throw reads, the written texts - and plain numbers -/
theorem zCmp {x y : Int64} (h : x = y) : lg_cmp x y = 0 := by
  subst h
  simp [lg_cmp]
def zX (U : State) : Prop := va_Nw (.castable "java/lang/IllegalArgumentException" "java/lang/IllegalArgumentException") U ∧ va_Nw (.castable "java/lang/IllegalStateException" "java/lang/IllegalStateException") U ∧ va_Nw (.castable "java/lang/IndexOutOfBoundsException" "java/lang/IndexOutOfBoundsException") U ∧ va_Nc "java/lang/IllegalArgumentException" "java/lang/IllegalStateException" U ∧ va_Nc "java/lang/IllegalArgumentException" "java/lang/IndexOutOfBoundsException" U ∧ va_Nc "java/lang/IllegalStateException" "java/lang/IllegalArgumentException" U ∧ va_Nc "java/lang/IllegalStateException" "java/lang/IndexOutOfBoundsException" U ∧ va_Nc "java/lang/IndexOutOfBoundsException" "java/lang/IllegalArgumentException" U ∧ va_Nc "java/lang/IndexOutOfBoundsException" "java/lang/IllegalStateException" U ∧ va_AO RX0 U ∧ va_Nw (.declares (Bundle.initS "java/lang/RuntimeException")) U ∧ va_Nw (.declares (Bundle.initS "java/lang/Exception")) U ∧ va_Nw (.declares (Bundle.initS Bundle.tN)) U ∧ (∃ a : Nat, vk_R RX1 38 "no such shape of a roof" a U) ∧ (∃ a : Nat, vk_R RX1 49 "there are 6 roofs" a U) ∧ (∃ a : Nat, vk_R RX1 58 "no such kind" a U) ∧ (∃ a : Nat, vk_R RX1 61 "not 1 to 500 bundles" a U) ∧ (∃ a : Nat, vk_R RX1 63 "more than the barn holds" a U) ∧ (∃ a : Nat, vk_R RX1 65 "no such month of the year" a U) ∧ (∃ a : Nat, vk_R RX1 67 "rain or storm not 0 to 9" a U) ∧ (∃ a : Nat, vk_R RX1 77 "no such roof, course, place or kind" a U) ∧ (∃ a : Nat, vk_R RX1 82 "thickness not 1 to 40, or spars not 0 to 9" a U) ∧ (∃ a : Nat, vk_R RX1 91 "a yealm is there, none is below, or the bundles are too few" a U) ∧ (∃ a : Nat, vk_R RX1 100 "no such roof, course or kind" a U) ∧ (∃ a : Nat, vk_R RX1 106 "no such roof, course or place" a U) ∧ (∃ a : Nat, vk_R RX1 112 "no yealm is there, or the bundles are too few" a U) ∧ (∃ a : Nat, vk_R RX1 121 "no such roof" a U) ∧ (∃ a : Nat, vk_R RX1 123 "the bundles of heather are too few" a U) ∧ (∃ a : Nat, vk_R RX1 128 "no such roof, course or place, or nothing told by this number" a U) ∧ (∃ a : Nat, vk_R RX1 134 "no such roof, or nothing told by this number" a U) ∧ (∃ a : Nat, vk_R RX1 139 "nothing counted by this number" a U) ∧ (∃ a : Nat, vk_R RX1 144 "not 1 to 120 months" a U) ∧ (∃ a : Nat, vk_R RX1 158 "storm not 0 to 9" a U) ∧ (∃ a : Nat, vk_R RX1 170 "no such roof, or nothing foreseen by this number" a U) ∧ (∃ a : Nat, vk_R RX1 172 "not 1 to 60 months" a U) ∧ (∃ a : Nat, vk_R RX1 180 "not 1 to 24 months" a U) ∧ (∃ a : Nat, vk_R RX1 192 "thickness not 1 to 40" a U)
theorem zX_cA {U : State} (h : zX U) : va_Nw (.castable "java/lang/IllegalArgumentException" "java/lang/IllegalArgumentException") U := h.1
theorem zX_cS {U : State} (h : zX U) : va_Nw (.castable "java/lang/IllegalStateException" "java/lang/IllegalStateException") U := h.2.1
theorem zX_cB {U : State} (h : zX U) : va_Nw (.castable "java/lang/IndexOutOfBoundsException" "java/lang/IndexOutOfBoundsException") U := h.2.2.1
theorem zX_nAS {U : State} (h : zX U) : va_Nc "java/lang/IllegalArgumentException" "java/lang/IllegalStateException" U := h.2.2.2.1
theorem zX_nAB {U : State} (h : zX U) : va_Nc "java/lang/IllegalArgumentException" "java/lang/IndexOutOfBoundsException" U := h.2.2.2.2.1
theorem zX_nSA {U : State} (h : zX U) : va_Nc "java/lang/IllegalStateException" "java/lang/IllegalArgumentException" U := h.2.2.2.2.2.1
theorem zX_nSB {U : State} (h : zX U) : va_Nc "java/lang/IllegalStateException" "java/lang/IndexOutOfBoundsException" U := h.2.2.2.2.2.2.1
theorem zX_nBA {U : State} (h : zX U) : va_Nc "java/lang/IndexOutOfBoundsException" "java/lang/IllegalArgumentException" U := h.2.2.2.2.2.2.2.1
theorem zX_nBS {U : State} (h : zX U) : va_Nc "java/lang/IndexOutOfBoundsException" "java/lang/IllegalStateException" U := h.2.2.2.2.2.2.2.2.1
theorem zX_over {U : State} (h : zX U) : va_AO RX0 U := h.2.2.2.2.2.2.2.2.2.1
theorem zX_d0 {U : State} (h : zX U) : va_Nw (.declares (Bundle.initS "java/lang/RuntimeException")) U := h.2.2.2.2.2.2.2.2.2.2.1
theorem zX_d1 {U : State} (h : zX U) : va_Nw (.declares (Bundle.initS "java/lang/Exception")) U := h.2.2.2.2.2.2.2.2.2.2.2.1
theorem zX_d2 {U : State} (h : zX U) : va_Nw (.declares (Bundle.initS Bundle.tN)) U := h.2.2.2.2.2.2.2.2.2.2.2.2.1
theorem zX_str_RX1_38 {U : State} (h : zX U) : ∃ a : Nat, vk_R RX1 38 "no such shape of a roof" a U := h.2.2.2.2.2.2.2.2.2.2.2.2.2.1
theorem zX_str_RX1_49 {U : State} (h : zX U) : ∃ a : Nat, vk_R RX1 49 "there are 6 roofs" a U := h.2.2.2.2.2.2.2.2.2.2.2.2.2.2.1
theorem zX_str_RX1_58 {U : State} (h : zX U) : ∃ a : Nat, vk_R RX1 58 "no such kind" a U := h.2.2.2.2.2.2.2.2.2.2.2.2.2.2.2.1
theorem zX_str_RX1_61 {U : State} (h : zX U) : ∃ a : Nat, vk_R RX1 61 "not 1 to 500 bundles" a U := h.2.2.2.2.2.2.2.2.2.2.2.2.2.2.2.2.1
theorem zX_str_RX1_63 {U : State} (h : zX U) : ∃ a : Nat, vk_R RX1 63 "more than the barn holds" a U := h.2.2.2.2.2.2.2.2.2.2.2.2.2.2.2.2.2.1
theorem zX_str_RX1_65 {U : State} (h : zX U) : ∃ a : Nat, vk_R RX1 65 "no such month of the year" a U := h.2.2.2.2.2.2.2.2.2.2.2.2.2.2.2.2.2.2.1
theorem zX_str_RX1_67 {U : State} (h : zX U) : ∃ a : Nat, vk_R RX1 67 "rain or storm not 0 to 9" a U := h.2.2.2.2.2.2.2.2.2.2.2.2.2.2.2.2.2.2.2.1
theorem zX_str_RX1_77 {U : State} (h : zX U) : ∃ a : Nat, vk_R RX1 77 "no such roof, course, place or kind" a U := h.2.2.2.2.2.2.2.2.2.2.2.2.2.2.2.2.2.2.2.2.1
theorem zX_str_RX1_82 {U : State} (h : zX U) : ∃ a : Nat, vk_R RX1 82 "thickness not 1 to 40, or spars not 0 to 9" a U := h.2.2.2.2.2.2.2.2.2.2.2.2.2.2.2.2.2.2.2.2.2.1
theorem zX_str_RX1_91 {U : State} (h : zX U) : ∃ a : Nat, vk_R RX1 91 "a yealm is there, none is below, or the bundles are too few" a U := h.2.2.2.2.2.2.2.2.2.2.2.2.2.2.2.2.2.2.2.2.2.2.1
theorem zX_str_RX1_100 {U : State} (h : zX U) : ∃ a : Nat, vk_R RX1 100 "no such roof, course or kind" a U := h.2.2.2.2.2.2.2.2.2.2.2.2.2.2.2.2.2.2.2.2.2.2.2.1
theorem zX_str_RX1_106 {U : State} (h : zX U) : ∃ a : Nat, vk_R RX1 106 "no such roof, course or place" a U := h.2.2.2.2.2.2.2.2.2.2.2.2.2.2.2.2.2.2.2.2.2.2.2.2.1
theorem zX_str_RX1_112 {U : State} (h : zX U) : ∃ a : Nat, vk_R RX1 112 "no yealm is there, or the bundles are too few" a U := h.2.2.2.2.2.2.2.2.2.2.2.2.2.2.2.2.2.2.2.2.2.2.2.2.2.1
theorem zX_str_RX1_121 {U : State} (h : zX U) : ∃ a : Nat, vk_R RX1 121 "no such roof" a U := h.2.2.2.2.2.2.2.2.2.2.2.2.2.2.2.2.2.2.2.2.2.2.2.2.2.2.1
theorem zX_str_RX1_123 {U : State} (h : zX U) : ∃ a : Nat, vk_R RX1 123 "the bundles of heather are too few" a U := h.2.2.2.2.2.2.2.2.2.2.2.2.2.2.2.2.2.2.2.2.2.2.2.2.2.2.2.1
theorem zX_str_RX1_128 {U : State} (h : zX U) : ∃ a : Nat, vk_R RX1 128 "no such roof, course or place, or nothing told by this number" a U := h.2.2.2.2.2.2.2.2.2.2.2.2.2.2.2.2.2.2.2.2.2.2.2.2.2.2.2.2.1
theorem zX_str_RX1_134 {U : State} (h : zX U) : ∃ a : Nat, vk_R RX1 134 "no such roof, or nothing told by this number" a U := h.2.2.2.2.2.2.2.2.2.2.2.2.2.2.2.2.2.2.2.2.2.2.2.2.2.2.2.2.2.1
theorem zX_str_RX1_139 {U : State} (h : zX U) : ∃ a : Nat, vk_R RX1 139 "nothing counted by this number" a U := h.2.2.2.2.2.2.2.2.2.2.2.2.2.2.2.2.2.2.2.2.2.2.2.2.2.2.2.2.2.2.1
theorem zX_str_RX1_144 {U : State} (h : zX U) : ∃ a : Nat, vk_R RX1 144 "not 1 to 120 months" a U := h.2.2.2.2.2.2.2.2.2.2.2.2.2.2.2.2.2.2.2.2.2.2.2.2.2.2.2.2.2.2.2.1
theorem zX_str_RX1_158 {U : State} (h : zX U) : ∃ a : Nat, vk_R RX1 158 "storm not 0 to 9" a U := h.2.2.2.2.2.2.2.2.2.2.2.2.2.2.2.2.2.2.2.2.2.2.2.2.2.2.2.2.2.2.2.2.1
theorem zX_str_RX1_170 {U : State} (h : zX U) : ∃ a : Nat, vk_R RX1 170 "no such roof, or nothing foreseen by this number" a U := h.2.2.2.2.2.2.2.2.2.2.2.2.2.2.2.2.2.2.2.2.2.2.2.2.2.2.2.2.2.2.2.2.2.1
theorem zX_str_RX1_172 {U : State} (h : zX U) : ∃ a : Nat, vk_R RX1 172 "not 1 to 60 months" a U := h.2.2.2.2.2.2.2.2.2.2.2.2.2.2.2.2.2.2.2.2.2.2.2.2.2.2.2.2.2.2.2.2.2.2.1
theorem zX_str_RX1_180 {U : State} (h : zX U) : ∃ a : Nat, vk_R RX1 180 "not 1 to 24 months" a U := h.2.2.2.2.2.2.2.2.2.2.2.2.2.2.2.2.2.2.2.2.2.2.2.2.2.2.2.2.2.2.2.2.2.2.2.1
theorem zX_str_RX1_192 {U : State} (h : zX U) : ∃ a : Nat, vk_R RX1 192 "thickness not 1 to 40" a U := h.2.2.2.2.2.2.2.2.2.2.2.2.2.2.2.2.2.2.2.2.2.2.2.2.2.2.2.2.2.2.2.2.2.2.2.2
theorem zX.warm {s U : State} (hW : s.WarmedH U.vm) (h : zX s) : zX U := ⟨va_Nw.warmC hW (zX_cA h), va_Nw.warmC hW (zX_cS h), va_Nw.warmC hW (zX_cB h), va_Nc.moved hW.alike (zX_nAS h), va_Nc.moved hW.alike (zX_nAB h), va_Nc.moved hW.alike (zX_nSA h), va_Nc.moved hW.alike (zX_nSB h), va_Nc.moved hW.alike (zX_nBA h), va_Nc.moved hW.alike (zX_nBS h), va_AO.moved hW.alike (zX_over h), va_Nw.warmD hW (zX_d0 h), va_Nw.warmD hW (zX_d1 h), va_Nw.warmD hW (zX_d2 h), (zX_str_RX1_38 h).imp (fun _ q => vk_R.warm hW q), (zX_str_RX1_49 h).imp (fun _ q => vk_R.warm hW q), (zX_str_RX1_58 h).imp (fun _ q => vk_R.warm hW q), (zX_str_RX1_61 h).imp (fun _ q => vk_R.warm hW q), (zX_str_RX1_63 h).imp (fun _ q => vk_R.warm hW q), (zX_str_RX1_65 h).imp (fun _ q => vk_R.warm hW q), (zX_str_RX1_67 h).imp (fun _ q => vk_R.warm hW q), (zX_str_RX1_77 h).imp (fun _ q => vk_R.warm hW q), (zX_str_RX1_82 h).imp (fun _ q => vk_R.warm hW q), (zX_str_RX1_91 h).imp (fun _ q => vk_R.warm hW q), (zX_str_RX1_100 h).imp (fun _ q => vk_R.warm hW q), (zX_str_RX1_106 h).imp (fun _ q => vk_R.warm hW q), (zX_str_RX1_112 h).imp (fun _ q => vk_R.warm hW q), (zX_str_RX1_121 h).imp (fun _ q => vk_R.warm hW q), (zX_str_RX1_123 h).imp (fun _ q => vk_R.warm hW q), (zX_str_RX1_128 h).imp (fun _ q => vk_R.warm hW q), (zX_str_RX1_134 h).imp (fun _ q => vk_R.warm hW q), (zX_str_RX1_139 h).imp (fun _ q => vk_R.warm hW q), (zX_str_RX1_144 h).imp (fun _ q => vk_R.warm hW q), (zX_str_RX1_158 h).imp (fun _ q => vk_R.warm hW q), (zX_str_RX1_170 h).imp (fun _ q => vk_R.warm hW q), (zX_str_RX1_172 h).imp (fun _ q => vk_R.warm hW q), (zX_str_RX1_180 h).imp (fun _ q => vk_R.warm hW q), (zX_str_RX1_192 h).imp (fun _ q => vk_R.warm hW q)⟩
theorem zX.calling {U : State} {g : JFrame} {mk : MethodId} {a : Array Value} (h : zX U) : zX (U.calling g mk a) := zX.warm (State.WarmedH.refl U) h
def zTh (A : Nat → Prop) (U : State) (H : Heap) : Prop := vx_Zq Bundle.tN "UNASSIGNED_STACK" Bundle.steD A U H ∧ vx_Zq Bundle.tN "SUPPRESSED_SENTINEL" Bundle.listD A U H
theorem zTh.calling {A : Nat → Prop} {U : State} {g : JFrame} {mk : MethodId} {a : Array Value} (h : zTh A U U.heap) : zTh A (U.calling g mk a) (U.calling g mk a).heap := ⟨vx_Zq.moved (Vm.Alike.refl U.vm) h.1, vx_Zq.moved (Vm.Alike.refl U.vm) h.2⟩
theorem zTh.at {A B : Nat → Prop} {s U : State} {H : Heap} {locs : List Loc} (hW : s.WarmedH U.vm) (h : zTh A s s.heap) (hS : va_S A s.heap H locs) (hf : ∀ q, B q → A q) : zTh B U H := ⟨vx_Zq.moved hW.alike ((h.1.kept hS.2.1).narrow hf), vx_Zq.moved hW.alike ((h.2.kept hS.2.1).narrow hf)⟩
def zNs (U : State) : Prop := va_Nw (.fieldLinkNest RX3 118 "ThatchRoofModel$State" "torn" "[I" "ThatchRoofModel") U ∧ va_Nw (.fieldLinkNest RX3 121 "ThatchRoofModel$State" "worn" "[I" "ThatchRoofModel") U ∧ va_Nw (.fieldLinkNest RX3 128 "ThatchRoofModel$State" "month" "I" "ThatchRoofModel") U ∧ va_Nw (.fieldLinkNest RX3 63 "ThatchRoofModel$State" "ridge" "[I" "ThatchRoofModel") U ∧ va_Nw (.fieldLinkNest RX3 86 "ThatchRoofModel$State" "kind" "[I" "ThatchRoofModel") U ∧ va_Nw (.fieldLinkNest RX3 93 "ThatchRoofModel$State" "thick" "[I" "ThatchRoofModel") U ∧ va_Nw (.fieldLinkNest RX3 96 "ThatchRoofModel$State" "spars" "[I" "ThatchRoofModel") U ∧ va_Nw (.fieldLinkNest RX3 99 "ThatchRoofModel$State" "moss" "[I" "ThatchRoofModel") U ∧ va_Nw (.fieldLinkNest RX2 63 "ThatchRoofModel" "courses" "[I" "ThatchRoofModel") U ∧ va_Nw (.fieldLinkNest RX2 75 "ThatchRoofModel" "slope" "[I" "ThatchRoofModel") U ∧ va_Nw (.fieldLinkNest RX2 78 "ThatchRoofModel" "width" "[I" "ThatchRoofModel") U ∧ va_Nw (.fieldLinkNest RX2 85 "ThatchRoofModel" "rain" "[I" "ThatchRoofModel") U ∧ va_Nw (.fieldLinkNest RX2 88 "ThatchRoofModel" "storm" "[I" "ThatchRoofModel") U ∧ va_Nw (.methodLinkNest RX2 55 yX3_cell "ThatchRoofModel") U
theorem zN_RX3_118 {U : State} (h : zNs U) : va_Nw (.fieldLinkNest RX3 118 "ThatchRoofModel$State" "torn" "[I" "ThatchRoofModel") U := h.1
theorem zN_RX3_121 {U : State} (h : zNs U) : va_Nw (.fieldLinkNest RX3 121 "ThatchRoofModel$State" "worn" "[I" "ThatchRoofModel") U := h.2.1
theorem zN_RX3_128 {U : State} (h : zNs U) : va_Nw (.fieldLinkNest RX3 128 "ThatchRoofModel$State" "month" "I" "ThatchRoofModel") U := h.2.2.1
theorem zN_RX3_63 {U : State} (h : zNs U) : va_Nw (.fieldLinkNest RX3 63 "ThatchRoofModel$State" "ridge" "[I" "ThatchRoofModel") U := h.2.2.2.1
theorem zN_RX3_86 {U : State} (h : zNs U) : va_Nw (.fieldLinkNest RX3 86 "ThatchRoofModel$State" "kind" "[I" "ThatchRoofModel") U := h.2.2.2.2.1
theorem zN_RX3_93 {U : State} (h : zNs U) : va_Nw (.fieldLinkNest RX3 93 "ThatchRoofModel$State" "thick" "[I" "ThatchRoofModel") U := h.2.2.2.2.2.1
theorem zN_RX3_96 {U : State} (h : zNs U) : va_Nw (.fieldLinkNest RX3 96 "ThatchRoofModel$State" "spars" "[I" "ThatchRoofModel") U := h.2.2.2.2.2.2.1
theorem zN_RX3_99 {U : State} (h : zNs U) : va_Nw (.fieldLinkNest RX3 99 "ThatchRoofModel$State" "moss" "[I" "ThatchRoofModel") U := h.2.2.2.2.2.2.2.1
theorem zN_RX2_63 {U : State} (h : zNs U) : va_Nw (.fieldLinkNest RX2 63 "ThatchRoofModel" "courses" "[I" "ThatchRoofModel") U := h.2.2.2.2.2.2.2.2.1
theorem zN_RX2_75 {U : State} (h : zNs U) : va_Nw (.fieldLinkNest RX2 75 "ThatchRoofModel" "slope" "[I" "ThatchRoofModel") U := h.2.2.2.2.2.2.2.2.2.1
theorem zN_RX2_78 {U : State} (h : zNs U) : va_Nw (.fieldLinkNest RX2 78 "ThatchRoofModel" "width" "[I" "ThatchRoofModel") U := h.2.2.2.2.2.2.2.2.2.2.1
theorem zN_RX2_85 {U : State} (h : zNs U) : va_Nw (.fieldLinkNest RX2 85 "ThatchRoofModel" "rain" "[I" "ThatchRoofModel") U := h.2.2.2.2.2.2.2.2.2.2.2.1
theorem zN_RX2_88 {U : State} (h : zNs U) : va_Nw (.fieldLinkNest RX2 88 "ThatchRoofModel" "storm" "[I" "ThatchRoofModel") U := h.2.2.2.2.2.2.2.2.2.2.2.2.1
theorem zN_RX2_55 {U : State} (h : zNs U) : va_Nw (.methodLinkNest RX2 55 yX3_cell "ThatchRoofModel") U := h.2.2.2.2.2.2.2.2.2.2.2.2.2
theorem zNs.warm {s U : State} (hW : s.WarmedH U.vm) (h : zNs s) : zNs U := ⟨va_Nw.warmF hW (zN_RX3_118 h), va_Nw.warmF hW (zN_RX3_121 h), va_Nw.warmF hW (zN_RX3_128 h), va_Nw.warmF hW (zN_RX3_63 h), va_Nw.warmF hW (zN_RX3_86 h), va_Nw.warmF hW (zN_RX3_93 h), va_Nw.warmF hW (zN_RX3_96 h), va_Nw.warmF hW (zN_RX3_99 h), va_Nw.warmF hW (zN_RX2_63 h), va_Nw.warmF hW (zN_RX2_75 h), va_Nw.warmF hW (zN_RX2_78 h), va_Nw.warmF hW (zN_RX2_85 h), va_Nw.warmF hW (zN_RX2_88 h), va_Nw.warmM hW (zN_RX2_55 h)⟩
theorem zNs.calling {U : State} {g : JFrame} {mk : MethodId} {a : Array Value} (h : zNs U) : zNs (U.calling g mk a) := zNs.warm (State.WarmedH.refl U) h
end

section
set_option maxHeartbeats 4000000 in
set_option maxRecDepth 100000 in
theorem k0_init (l : Launch) (dC : Nat → ClassId) (dI : Nat → Nat → Nat) (sz : Nat) (h : Nat) (wi : Int32) (co : Int32) (sl : Int32) : Met l yX0_init wsX0_init ({ frames := 1, cells := 4, slots := 240, locals := 12 }) (va_Pc [.ref h, .int wi, .int co, .int sl] (fun U => U.heap.size = sz ∧ va_P (dC, dI) vwCl [(h, .inr (0, [.int 0, .int 0, .int 0, .int 0, .int 0, .int 0, .null, .null, .null, .null]))] U.heap ∧ va_K (dC, dI) vwCl [] U ∧ va_D (fun _ => True) [(h, .inr (0, [.int 0, .int 0, .int 0, .int 0, .int 0, .int 0, .null, .null, .null, .null]))])) (va_Qv (fun (u : Nat × Nat × Nat × Nat × ClassId × ClassId × ClassId × ClassId) => True) (fun (u : Nat × Nat × Nat × Nat × ClassId × ClassId × ClassId × ClassId) (t : State) => va_P (dC, dI) vwCl [(h, .inr (0, [.int wi, .int co, .int sl, .int 100, .int 0, .int 0, .ref u.1, .ref u.2.1, .ref u.2.2.1, .ref u.2.2.2.1])), (u.1, .inl (u.2.2.2.2.1, 60, .inl (fun _ => 0))), (u.2.1, .inl (u.2.2.2.2.2.1, 60, .inl (fun _ => 0))), (u.2.2.1, .inl (u.2.2.2.2.2.2.1, 60, .inl (fun _ => 0))), (u.2.2.2.1, .inl (u.2.2.2.2.2.2.2, 60, .inl (fun _ => 0)))] t.heap ∧ va_K (dC, dI) vwCl [(u.2.2.2.2.1, .int), (u.2.2.2.2.2.1, .int), (u.2.2.2.2.2.2.1, .int), (u.2.2.2.2.2.2.2, .int)] t ∧ va_D (va_A [(h, .inr (0, [.int 0, .int 0, .int 0, .int 0, .int 0, .int 0, .null, .null, .null, .null]))] sz) [(h, .inr (0, [.int wi, .int co, .int sl, .int 100, .int 0, .int 0, .ref u.1, .ref u.2.1, .ref u.2.2.1, .ref u.2.2.2.1])), (u.1, .inl (u.2.2.2.2.1, 60, .inl (fun _ => 0))), (u.2.1, .inl (u.2.2.2.2.2.1, 60, .inl (fun _ => 0))), (u.2.2.1, .inl (u.2.2.2.2.2.2.1, 60, .inl (fun _ => 0))), (u.2.2.2.1, .inl (u.2.2.2.2.2.2.2, 60, .inl (fun _ => 0)))]) (va_A [(h, .inr (0, [.int 0, .int 0, .int 0, .int 0, .int 0, .int 0, .null, .null, .null, .null]))] sz)) 4 240 (va_A [(h, .inr (0, [.int 0, .int 0, .int 0, .int 0, .int 0, .int 0, .null, .null, .null, .null]))] sz) := by
  refine Met.ofW (cc := cX0_init) (maxL := 4) (ret := none) (by decide) rfl ?_
  intro p e s m args below meth c s₁ B hml hv
  obtain ⟨rfl, hsz, hP, hK, hD0⟩ := hv
  have hx := B.exec
  have hb := B.bytes
  have hr := B.returns
  have hts := atoms_spec (ws := wsX0_init) B.pre
  have hown : s.vm.findClass RX0 = some m.cls := findClass_of_methodNamed B.named
  have hlocks := B.notSynchronized
  have hin : meth.name = "<init>" := (name_of_methodNamed B.named B.method).1
  subst hsz
  have hD := hD0.self (sz := s.heap.size)
  generalize hAe : va_A [(h, .inr (0, [.int 0, .int 0, .int 0, .int 0, .int 0, .int 0, .null, .null, .null, .null]))] s.heap.size = A at hD ⊢
  have hA : ∀ q : Nat, s.heap.size ≤ q → A q := fun q h => by rw [← hAe]; exact Or.inr h
  have hS : va_S A s.heap s.heap [] := va_S.rf
  have hP : va_P (dC, dI) vwCl [(h, .inr (0, [.int 0, .int 0, .int 0, .int 0, .int 0, .int 0, .null, .null, .null, .null]))] s.heap := hP
  have hl := lv_entry ([.ref h, .int wi, .int co, .int sl]) (n := 4) (Nat.le_of_ble_eq_true rfl)
  rw [lg_entry_eq]
  generalize (lg_sl ([.ref h, .int wi, .int co, .int sl]) ++ List.replicate (4 - (lg_sl ([.ref h, .int wi, .int co, .int sl])).length) Slot.unset).toArray = ls at hl ⊢
  have hl : lv_has ls 4 [(0, .ref h), (1, .int wi), (2, .int co), (3, .int sl)] := hl
  refine lv_aload_n hx hb dX0_init_0 rfl (lv_at hl 0 rfl) ?_
  refine W.objInit hx hb hown (hts (.methodLink RX0 3 objectInit) (by decide +kernel)) (hts (.instanceMethod objectInit) (by decide +kernel)) (hts (.code objectInit ⟨#[0xb1]⟩ 1 none) (by decide +kernel)) rfl (by rw [hml]; exact hl.1) rfl dX0_init_1 (Nat.le_of_ble_eq_true rfl) (Nat.le_of_ble_eq_true rfl) ?_
  refine W.eq (g2 := F0 m 4 ls []) rfl ?_
  refine lv_aload_n hx hb dX0_init_4 rfl (lv_at hl 0 rfl) ?_
  refine lv_bipush (v := 60) hx hb dX0_init_5 (by decide) ?_
  refine va_newa (atype := .int) (ty := .int) (N' := 60) (a0 := (60, .inl (fun _ => 0))) hx hb (hts (.arrayClass .int) (by decide +kernel)) rfl hK hP hD hS hA (fun _ => rfl) (by decide) (by decide) (by decide) (Nat.le_of_ble_eq_true rfl) (Nat.le_of_ble_eq_true rfl) dX0_init_7 (fun q1 cA2 H hK hP hD hS => ?_)
  refine W.widen (k := 1) (n := 60) (Nat.le_of_ble_eq_true rfl) (Nat.le_of_ble_eq_true rfl) ?_
  have hK : va_K (dC, dI) vwCl [(cA2, .int)] s := hK
  have hP : va_P (dC, dI) vwCl [(h, .inr (0, [.int 0, .int 0, .int 0, .int 0, .int 0, .int 0, .null, .null, .null, .null])), (q1, .inl (cA2, 60, .inl (fun _ => 0)))] H := hP
  have hD : va_D A [(h, .inr (0, [.int 0, .int 0, .int 0, .int 0, .int 0, .int 0, .null, .null, .null, .null])), (q1, .inl (cA2, 60, .inl (fun _ => 0)))] := hD
  refine va_putF (D := (dC, dI)) (ci := 0) (v := .ref q1) (ty := .array .int) (C := RX0) (T := TX0) (N := 10) hx hb hts (by decide +kernel) tyX0 tyX0_ok nmX0 hown hK hP hD hS 0 rfl rfl 6 (by decide) (hts (.fieldLink RX0 9 "ThatchRoof$Roof" "kinds" "[I") (by decide +kernel)) (fun _ h9 => h9) rfl hin rfl (by decide +kernel) rfl rfl (Nat.le_of_ble_eq_true rfl) dX0_init_9 (fun H locs hP hD hS => ?_)
  have hP : va_P (dC, dI) vwCl [(h, .inr (0, [.int 0, .int 0, .int 0, .int 0, .int 0, .int 0, .ref q1, .null, .null, .null])), (q1, .inl (cA2, 60, .inl (fun _ => 0)))] H := hP
  have hD : va_D A [(h, .inr (0, [.int 0, .int 0, .int 0, .int 0, .int 0, .int 0, .ref q1, .null, .null, .null])), (q1, .inl (cA2, 60, .inl (fun _ => 0)))] := hD
  refine lv_aload_n hx hb dX0_init_12 rfl (lv_at hl 0 rfl) ?_
  refine lv_bipush (v := 60) hx hb dX0_init_13 (by decide) ?_
  refine va_newa (atype := .int) (ty := .int) (N' := 60) (a0 := (60, .inl (fun _ => 0))) hx hb (hts (.arrayClass .int) (by decide +kernel)) rfl hK hP hD hS hA (fun _ => rfl) (by decide) (by decide) (by decide) (Nat.le_of_ble_eq_true rfl) (Nat.le_of_ble_eq_true rfl) dX0_init_15 (fun q3 cA4 H hK hP hD hS => ?_)
  refine W.widen (k := 2) (n := 120) (Nat.le_of_ble_eq_true rfl) (Nat.le_of_ble_eq_true rfl) ?_
  have hK : va_K (dC, dI) vwCl [(cA2, .int), (cA4, .int)] s := hK
  have hP : va_P (dC, dI) vwCl [(h, .inr (0, [.int 0, .int 0, .int 0, .int 0, .int 0, .int 0, .ref q1, .null, .null, .null])), (q1, .inl (cA2, 60, .inl (fun _ => 0))), (q3, .inl (cA4, 60, .inl (fun _ => 0)))] H := hP
  have hD : va_D A [(h, .inr (0, [.int 0, .int 0, .int 0, .int 0, .int 0, .int 0, .ref q1, .null, .null, .null])), (q1, .inl (cA2, 60, .inl (fun _ => 0))), (q3, .inl (cA4, 60, .inl (fun _ => 0)))] := hD
  refine va_putF (D := (dC, dI)) (ci := 0) (v := .ref q3) (ty := .array .int) (C := RX0) (T := TX0) (N := 10) hx hb hts (by decide +kernel) tyX0 tyX0_ok nmX0 hown hK hP hD hS 0 rfl rfl 7 (by decide) (hts (.fieldLink RX0 15 "ThatchRoof$Roof" "thicknesses" "[I") (by decide +kernel)) (fun _ h9 => h9) rfl hin rfl (by decide +kernel) rfl rfl (Nat.le_of_ble_eq_true rfl) dX0_init_17 (fun H locs hP hD hS => ?_)
  have hP : va_P (dC, dI) vwCl [(h, .inr (0, [.int 0, .int 0, .int 0, .int 0, .int 0, .int 0, .ref q1, .ref q3, .null, .null])), (q1, .inl (cA2, 60, .inl (fun _ => 0))), (q3, .inl (cA4, 60, .inl (fun _ => 0)))] H := hP
  have hD : va_D A [(h, .inr (0, [.int 0, .int 0, .int 0, .int 0, .int 0, .int 0, .ref q1, .ref q3, .null, .null])), (q1, .inl (cA2, 60, .inl (fun _ => 0))), (q3, .inl (cA4, 60, .inl (fun _ => 0)))] := hD
  refine lv_aload_n hx hb dX0_init_20 rfl (lv_at hl 0 rfl) ?_
  refine lv_bipush (v := 60) hx hb dX0_init_21 (by decide) ?_
  refine va_newa (atype := .int) (ty := .int) (N' := 60) (a0 := (60, .inl (fun _ => 0))) hx hb (hts (.arrayClass .int) (by decide +kernel)) rfl hK hP hD hS hA (fun _ => rfl) (by decide) (by decide) (by decide) (Nat.le_of_ble_eq_true rfl) (Nat.le_of_ble_eq_true rfl) dX0_init_23 (fun q5 cA6 H hK hP hD hS => ?_)
  refine W.widen (k := 3) (n := 180) (Nat.le_of_ble_eq_true rfl) (Nat.le_of_ble_eq_true rfl) ?_
  have hK : va_K (dC, dI) vwCl [(cA2, .int), (cA4, .int), (cA6, .int)] s := hK
  have hP : va_P (dC, dI) vwCl [(h, .inr (0, [.int 0, .int 0, .int 0, .int 0, .int 0, .int 0, .ref q1, .ref q3, .null, .null])), (q1, .inl (cA2, 60, .inl (fun _ => 0))), (q3, .inl (cA4, 60, .inl (fun _ => 0))), (q5, .inl (cA6, 60, .inl (fun _ => 0)))] H := hP
  have hD : va_D A [(h, .inr (0, [.int 0, .int 0, .int 0, .int 0, .int 0, .int 0, .ref q1, .ref q3, .null, .null])), (q1, .inl (cA2, 60, .inl (fun _ => 0))), (q3, .inl (cA4, 60, .inl (fun _ => 0))), (q5, .inl (cA6, 60, .inl (fun _ => 0)))] := hD
  refine va_putF (D := (dC, dI)) (ci := 0) (v := .ref q5) (ty := .array .int) (C := RX0) (T := TX0) (N := 10) hx hb hts (by decide +kernel) tyX0 tyX0_ok nmX0 hown hK hP hD hS 0 rfl rfl 8 (by decide) (hts (.fieldLink RX0 18 "ThatchRoof$Roof" "spars" "[I") (by decide +kernel)) (fun _ h9 => h9) rfl hin rfl (by decide +kernel) rfl rfl (Nat.le_of_ble_eq_true rfl) dX0_init_25 (fun H locs hP hD hS => ?_)
  have hP : va_P (dC, dI) vwCl [(h, .inr (0, [.int 0, .int 0, .int 0, .int 0, .int 0, .int 0, .ref q1, .ref q3, .ref q5, .null])), (q1, .inl (cA2, 60, .inl (fun _ => 0))), (q3, .inl (cA4, 60, .inl (fun _ => 0))), (q5, .inl (cA6, 60, .inl (fun _ => 0)))] H := hP
  have hD : va_D A [(h, .inr (0, [.int 0, .int 0, .int 0, .int 0, .int 0, .int 0, .ref q1, .ref q3, .ref q5, .null])), (q1, .inl (cA2, 60, .inl (fun _ => 0))), (q3, .inl (cA4, 60, .inl (fun _ => 0))), (q5, .inl (cA6, 60, .inl (fun _ => 0)))] := hD
  refine lv_aload_n hx hb dX0_init_28 rfl (lv_at hl 0 rfl) ?_
  refine lv_bipush (v := 60) hx hb dX0_init_29 (by decide) ?_
  refine va_newa (atype := .int) (ty := .int) (N' := 60) (a0 := (60, .inl (fun _ => 0))) hx hb (hts (.arrayClass .int) (by decide +kernel)) rfl hK hP hD hS hA (fun _ => rfl) (by decide) (by decide) (by decide) (Nat.le_of_ble_eq_true rfl) (Nat.le_of_ble_eq_true rfl) dX0_init_31 (fun q7 cA8 H hK hP hD hS => ?_)
  refine W.widen (k := 4) (n := 240) (Nat.le_of_ble_eq_true rfl) (Nat.le_of_ble_eq_true rfl) ?_
  have hK : va_K (dC, dI) vwCl [(cA2, .int), (cA4, .int), (cA6, .int), (cA8, .int)] s := hK
  have hP : va_P (dC, dI) vwCl [(h, .inr (0, [.int 0, .int 0, .int 0, .int 0, .int 0, .int 0, .ref q1, .ref q3, .ref q5, .null])), (q1, .inl (cA2, 60, .inl (fun _ => 0))), (q3, .inl (cA4, 60, .inl (fun _ => 0))), (q5, .inl (cA6, 60, .inl (fun _ => 0))), (q7, .inl (cA8, 60, .inl (fun _ => 0)))] H := hP
  have hD : va_D A [(h, .inr (0, [.int 0, .int 0, .int 0, .int 0, .int 0, .int 0, .ref q1, .ref q3, .ref q5, .null])), (q1, .inl (cA2, 60, .inl (fun _ => 0))), (q3, .inl (cA4, 60, .inl (fun _ => 0))), (q5, .inl (cA6, 60, .inl (fun _ => 0))), (q7, .inl (cA8, 60, .inl (fun _ => 0)))] := hD
  refine va_putF (D := (dC, dI)) (ci := 0) (v := .ref q7) (ty := .array .int) (C := RX0) (T := TX0) (N := 10) hx hb hts (by decide +kernel) tyX0 tyX0_ok nmX0 hown hK hP hD hS 0 rfl rfl 9 (by decide) (hts (.fieldLink RX0 21 "ThatchRoof$Roof" "mosses" "[I") (by decide +kernel)) (fun _ h9 => h9) rfl hin rfl (by decide +kernel) rfl rfl (Nat.le_of_ble_eq_true rfl) dX0_init_33 (fun H locs hP hD hS => ?_)
  have hP : va_P (dC, dI) vwCl [(h, .inr (0, [.int 0, .int 0, .int 0, .int 0, .int 0, .int 0, .ref q1, .ref q3, .ref q5, .ref q7])), (q1, .inl (cA2, 60, .inl (fun _ => 0))), (q3, .inl (cA4, 60, .inl (fun _ => 0))), (q5, .inl (cA6, 60, .inl (fun _ => 0))), (q7, .inl (cA8, 60, .inl (fun _ => 0)))] H := hP
  have hD : va_D A [(h, .inr (0, [.int 0, .int 0, .int 0, .int 0, .int 0, .int 0, .ref q1, .ref q3, .ref q5, .ref q7])), (q1, .inl (cA2, 60, .inl (fun _ => 0))), (q3, .inl (cA4, 60, .inl (fun _ => 0))), (q5, .inl (cA6, 60, .inl (fun _ => 0))), (q7, .inl (cA8, 60, .inl (fun _ => 0)))] := hD
  refine lv_aload_n hx hb dX0_init_36 rfl (lv_at hl 0 rfl) ?_
  refine lv_iload_n hx hb dX0_init_37 rfl (lv_at hl 1 rfl) ?_
  refine va_put (D := (dC, dI)) (ci := 0) (v := .int wi) (ty := .int) (C := RX0) (T := TX0) (N := 10) hx hb hts (by decide +kernel) tyX0 tyX0_ok nmX0 hown hK hP hD hS 0 rfl rfl 0 (by decide) (hts (.fieldLink RX0 24 "ThatchRoof$Roof" "width" "I") (by decide +kernel)) (fun _ h9 => h9) rfl (by decide +kernel) rfl rfl (Nat.le_of_ble_eq_true rfl) dX0_init_38 (fun H locs hP hD hS => ?_)
  have hP : va_P (dC, dI) vwCl [(h, .inr (0, [.int wi, .int 0, .int 0, .int 0, .int 0, .int 0, .ref q1, .ref q3, .ref q5, .ref q7])), (q1, .inl (cA2, 60, .inl (fun _ => 0))), (q3, .inl (cA4, 60, .inl (fun _ => 0))), (q5, .inl (cA6, 60, .inl (fun _ => 0))), (q7, .inl (cA8, 60, .inl (fun _ => 0)))] H := hP
  have hD : va_D A [(h, .inr (0, [.int wi, .int 0, .int 0, .int 0, .int 0, .int 0, .ref q1, .ref q3, .ref q5, .ref q7])), (q1, .inl (cA2, 60, .inl (fun _ => 0))), (q3, .inl (cA4, 60, .inl (fun _ => 0))), (q5, .inl (cA6, 60, .inl (fun _ => 0))), (q7, .inl (cA8, 60, .inl (fun _ => 0)))] := hD
  refine lv_aload_n hx hb dX0_init_41 rfl (lv_at hl 0 rfl) ?_
  refine lv_iload_n hx hb dX0_init_42 rfl (lv_at hl 2 rfl) ?_
  refine va_put (D := (dC, dI)) (ci := 0) (v := .int co) (ty := .int) (C := RX0) (T := TX0) (N := 10) hx hb hts (by decide +kernel) tyX0 tyX0_ok nmX0 hown hK hP hD hS 0 rfl rfl 1 (by decide) (hts (.fieldLink RX0 28 "ThatchRoof$Roof" "courses" "I") (by decide +kernel)) (fun _ h9 => h9) rfl (by decide +kernel) rfl rfl (Nat.le_of_ble_eq_true rfl) dX0_init_43 (fun H locs hP hD hS => ?_)
  have hP : va_P (dC, dI) vwCl [(h, .inr (0, [.int wi, .int co, .int 0, .int 0, .int 0, .int 0, .ref q1, .ref q3, .ref q5, .ref q7])), (q1, .inl (cA2, 60, .inl (fun _ => 0))), (q3, .inl (cA4, 60, .inl (fun _ => 0))), (q5, .inl (cA6, 60, .inl (fun _ => 0))), (q7, .inl (cA8, 60, .inl (fun _ => 0)))] H := hP
  have hD : va_D A [(h, .inr (0, [.int wi, .int co, .int 0, .int 0, .int 0, .int 0, .ref q1, .ref q3, .ref q5, .ref q7])), (q1, .inl (cA2, 60, .inl (fun _ => 0))), (q3, .inl (cA4, 60, .inl (fun _ => 0))), (q5, .inl (cA6, 60, .inl (fun _ => 0))), (q7, .inl (cA8, 60, .inl (fun _ => 0)))] := hD
  refine lv_aload_n hx hb dX0_init_46 rfl (lv_at hl 0 rfl) ?_
  refine lv_iload_n hx hb dX0_init_47 rfl (lv_at hl 3 rfl) ?_
  refine va_put (D := (dC, dI)) (ci := 0) (v := .int sl) (ty := .int) (C := RX0) (T := TX0) (N := 10) hx hb hts (by decide +kernel) tyX0 tyX0_ok nmX0 hown hK hP hD hS 0 rfl rfl 2 (by decide) (hts (.fieldLink RX0 31 "ThatchRoof$Roof" "slope" "I") (by decide +kernel)) (fun _ h9 => h9) rfl (by decide +kernel) rfl rfl (Nat.le_of_ble_eq_true rfl) dX0_init_48 (fun H locs hP hD hS => ?_)
  have hP : va_P (dC, dI) vwCl [(h, .inr (0, [.int wi, .int co, .int sl, .int 0, .int 0, .int 0, .ref q1, .ref q3, .ref q5, .ref q7])), (q1, .inl (cA2, 60, .inl (fun _ => 0))), (q3, .inl (cA4, 60, .inl (fun _ => 0))), (q5, .inl (cA6, 60, .inl (fun _ => 0))), (q7, .inl (cA8, 60, .inl (fun _ => 0)))] H := hP
  have hD : va_D A [(h, .inr (0, [.int wi, .int co, .int sl, .int 0, .int 0, .int 0, .ref q1, .ref q3, .ref q5, .ref q7])), (q1, .inl (cA2, 60, .inl (fun _ => 0))), (q3, .inl (cA4, 60, .inl (fun _ => 0))), (q5, .inl (cA6, 60, .inl (fun _ => 0))), (q7, .inl (cA8, 60, .inl (fun _ => 0)))] := hD
  refine lv_aload_n hx hb dX0_init_51 rfl (lv_at hl 0 rfl) ?_
  refine lv_bipush (v := 100) hx hb dX0_init_52 (by decide) ?_
  refine va_put (D := (dC, dI)) (ci := 0) (v := .int 100) (ty := .int) (C := RX0) (T := TX0) (N := 10) hx hb hts (by decide +kernel) tyX0 tyX0_ok nmX0 hown hK hP hD hS 0 rfl rfl 3 (by decide) (hts (.fieldLink RX0 34 "ThatchRoof$Roof" "ridge" "I") (by decide +kernel)) (fun _ h9 => h9) rfl (by decide +kernel) rfl rfl (Nat.le_of_ble_eq_true rfl) dX0_init_54 (fun H locs hP hD hS => ?_)
  have hP : va_P (dC, dI) vwCl [(h, .inr (0, [.int wi, .int co, .int sl, .int 100, .int 0, .int 0, .ref q1, .ref q3, .ref q5, .ref q7])), (q1, .inl (cA2, 60, .inl (fun _ => 0))), (q3, .inl (cA4, 60, .inl (fun _ => 0))), (q5, .inl (cA6, 60, .inl (fun _ => 0))), (q7, .inl (cA8, 60, .inl (fun _ => 0)))] H := hP
  have hD : va_D A [(h, .inr (0, [.int wi, .int co, .int sl, .int 100, .int 0, .int 0, .ref q1, .ref q3, .ref q5, .ref q7])), (q1, .inl (cA2, 60, .inl (fun _ => 0))), (q3, .inl (cA4, 60, .inl (fun _ => 0))), (q5, .inl (cA6, 60, .inl (fun _ => 0))), (q7, .inl (cA8, 60, .inl (fun _ => 0)))] := hD
  have hP9 := hP.sub (ws' := [(h, .inr (0, [.int wi, .int co, .int sl, .int 100, .int 0, .int 0, .ref q1, .ref q3, .ref q5, .ref q7])), (q1, .inl (cA2, 60, .inl (fun _ => 0))), (q3, .inl (cA4, 60, .inl (fun _ => 0))), (q5, .inl (cA6, 60, .inl (fun _ => 0))), (q7, .inl (cA8, 60, .inl (fun _ => 0)))]) [0, 1, 2, 3, 4] rfl
  have hD9 := hD.sub (ws' := [(h, .inr (0, [.int wi, .int co, .int sl, .int 100, .int 0, .int 0, .ref q1, .ref q3, .ref q5, .ref q7])), (q1, .inl (cA2, 60, .inl (fun _ => 0))), (q3, .inl (cA4, 60, .inl (fun _ => 0))), (q5, .inl (cA6, 60, .inl (fun _ => 0))), (q7, .inl (cA8, 60, .inl (fun _ => 0)))]) [0, 1, 2, 3, 4] (by decide) rfl
  have hK9 := hK.sub (tys' := [(cA2, .int), (cA4, .int), (cA6, .int), (cA8, .int)]) [0, 1, 2, 3] rfl
  refine W.widen (k := 4) (n := 240) (Nat.le_of_ble_eq_true rfl) (Nat.le_of_ble_eq_true rfl) ?_
  exact W.vret hx hb hr (fun t ht hW => ⟨⟨(q1, q3, q5, q7, cA2, cA4, cA6, cA8), rfl, by exact trivial, ⟨by rw [ht]; exact hP9, va_K.moved hW.alike hK9, hD9⟩⟩, hS.F ht⟩) hS.2.2 dX0_init_57

set_option maxHeartbeats 4000000 in
set_option maxRecDepth 100000 in
theorem k1_init (l : Launch) (hst : l.stackTraces = false) (dC : Nat → ClassId) (dI : Nat → Nat → Nat) (sz : Nat) (h : Nat) : Met l yX1_init wsX1_init ({ frames := 2, cells := 9, slots := 283, locals := 35 }) (va_Pc [.ref h] (fun U => U.heap.size = sz ∧ va_P (dC, dI) vwCl [(h, .inr (1, [.null, .int 0, .null, .null, .null, .int 0, .null]))] U.heap ∧ va_K (dC, dI) vwCl [] U ∧ va_D (fun _ => True) [(h, .inr (1, [.null, .int 0, .null, .null, .null, .int 0, .null]))] ∧ zX U ∧ zTh (va_A [(h, .inr (1, [.null, .int 0, .null, .null, .null, .int 0, .null]))] sz) U U.heap)) (va_Qv (fun (u : Nat × Nat × Nat × Nat × Nat × ClassId × ClassId × ClassId × ClassId × (Nat → Int32)) => (∀ j : Nat, j < 12 → u.2.2.2.2.2.2.2.2.2 j = 4)) (fun (u : Nat × Nat × Nat × Nat × Nat × ClassId × ClassId × ClassId × ClassId × (Nat → Int32)) (t : State) => va_P (dC, dI) vwCl [(h, .inr (1, [.ref u.1, .int 0, .ref u.2.1, .ref u.2.2.1, .ref u.2.2.2.1, .int 0, .ref u.2.2.2.2.1])), (u.1, .inl (u.2.2.2.2.2.1, 6, .inr (.inr (.inr (.inr (fun _ => none)))))), (u.2.1, .inl (u.2.2.2.2.2.2.1, 3, .inl (fun _ => 0))), (u.2.2.1, .inl (u.2.2.2.2.2.2.2.1, 12, .inl u.2.2.2.2.2.2.2.2.2)), (u.2.2.2.1, .inl (u.2.2.2.2.2.2.2.2.1, 12, .inl (fun _ => 0)))] t.heap ∧ va_K (dC, dI) vwCl [(u.2.2.2.2.2.1, .object RX0), (u.2.2.2.2.2.2.1, .int), (u.2.2.2.2.2.2.2.1, .int), (u.2.2.2.2.2.2.2.2.1, .int)] t ∧ va_D (va_A [(h, .inr (1, [.null, .int 0, .null, .null, .null, .int 0, .null]))] sz) [(h, .inr (1, [.ref u.1, .int 0, .ref u.2.1, .ref u.2.2.1, .ref u.2.2.2.1, .int 0, .ref u.2.2.2.2.1])), (u.1, .inl (u.2.2.2.2.2.1, 6, .inr (.inr (.inr (.inr (fun _ => none)))))), (u.2.1, .inl (u.2.2.2.2.2.2.1, 3, .inl (fun _ => 0))), (u.2.2.1, .inl (u.2.2.2.2.2.2.2.1, 12, .inl u.2.2.2.2.2.2.2.2.2)), (u.2.2.2.1, .inl (u.2.2.2.2.2.2.2.2.1, 12, .inl (fun _ => 0)))]) (va_A [(h, .inr (1, [.null, .int 0, .null, .null, .null, .int 0, .null]))] sz)) 9 283 (va_A [(h, .inr (1, [.null, .int 0, .null, .null, .null, .int 0, .null]))] sz) := by
  refine Met.ofW (cc := cX1_init) (maxL := 2) (ret := none) (by decide) rfl ?_
  intro p e s m args below meth c s₁ B hml hv
  obtain ⟨rfl, hsz, hP, hK, hD0, hZX, hZT⟩ := hv
  have hx := B.exec
  have hb := B.bytes
  have hr := B.returns
  have hts := atoms_spec (ws := wsX1_init) B.pre
  have hown : s.vm.findClass RX1 = some m.cls := findClass_of_methodNamed B.named
  have hlocks := B.notSynchronized
  have hin : meth.name = "<init>" := (name_of_methodNamed B.named B.method).1
  subst hsz
  have hD := hD0.self (sz := s.heap.size)
  generalize hAe : va_A [(h, .inr (1, [.null, .int 0, .null, .null, .null, .int 0, .null]))] s.heap.size = A at hD hZT ⊢
  have hA : ∀ q : Nat, s.heap.size ≤ q → A q := fun q h => by rw [← hAe]; exact Or.inr h
  have hS : va_S A s.heap s.heap [] := va_S.rf
  have hP : va_P (dC, dI) vwCl [(h, .inr (1, [.null, .int 0, .null, .null, .null, .int 0, .null]))] s.heap := hP
  have hl := lv_entry ([.ref h]) (n := 2) (Nat.le_of_ble_eq_true rfl)
  rw [lg_entry_eq]
  generalize (lg_sl ([.ref h]) ++ List.replicate (2 - (lg_sl ([.ref h])).length) Slot.unset).toArray = ls at hl ⊢
  have hl : lv_has ls 2 [(0, .ref h)] := hl
  refine lv_aload_n hx hb dX1_init_0 rfl (lv_at hl 0 rfl) ?_
  refine W.objInit hx hb hown (hts (.methodLink RX1 3 objectInit) (by decide +kernel)) (hts (.instanceMethod objectInit) (by decide +kernel)) (hts (.code objectInit ⟨#[0xb1]⟩ 1 none) (by decide +kernel)) rfl (by rw [hml]; exact hl.1) rfl dX1_init_1 (Nat.le_of_ble_eq_true rfl) (Nat.le_of_ble_eq_true rfl) ?_
  refine W.eq (g2 := F0 m 4 ls []) rfl ?_
  refine lv_aload_n hx hb dX1_init_4 rfl (lv_at hl 0 rfl) ?_
  refine lv_bipush (v := 6) hx hb dX1_init_5 (by decide) ?_
  refine va_newq (C := RX0) (N' := 6) hx hb hown (hts (.classLink RX1 9 RX0) (by decide +kernel)) (zX_over hZX) hK hP hD hS hA (by decide) (by decide) (by decide) (Nat.le_of_ble_eq_true rfl) (Nat.le_of_ble_eq_true rfl) dX1_init_7 (fun q1 cA2 H hK hP hD hS => ?_)
  refine W.widen (k := 1) (n := 6) (Nat.le_of_ble_eq_true rfl) (Nat.le_of_ble_eq_true rfl) ?_
  have hK : va_K (dC, dI) vwCl [(cA2, .object RX0)] s := hK
  have hP : va_P (dC, dI) vwCl [(h, .inr (1, [.null, .int 0, .null, .null, .null, .int 0, .null])), (q1, .inl (cA2, 6, .inr (.inr (.inr (.inr (fun _ => none))))))] H := hP
  have hD : va_D A [(h, .inr (1, [.null, .int 0, .null, .null, .null, .int 0, .null])), (q1, .inl (cA2, 6, .inr (.inr (.inr (.inr (fun _ => none))))))] := hD
  refine va_putF (D := (dC, dI)) (ci := 1) (v := .ref q1) (ty := .array (.object "ThatchRoof$Roof")) (C := RX1) (T := TX1) (N := 7) hx hb hts (by decide +kernel) tyX1 tyX1_ok nmX1 hown hK hP hD hS 0 rfl rfl 0 (by decide) (hts (.fieldLink RX1 11 "ThatchRoof" "roofs" "[LThatchRoof$Roof;") (by decide +kernel)) (fun _ h9 => h9) rfl hin rfl (by decide +kernel) rfl rfl (Nat.le_of_ble_eq_true rfl) dX1_init_10 (fun H locs hP hD hS => ?_)
  have hP : va_P (dC, dI) vwCl [(h, .inr (1, [.ref q1, .int 0, .null, .null, .null, .int 0, .null])), (q1, .inl (cA2, 6, .inr (.inr (.inr (.inr (fun _ => none))))))] H := hP
  have hD : va_D A [(h, .inr (1, [.ref q1, .int 0, .null, .null, .null, .int 0, .null])), (q1, .inl (cA2, 6, .inr (.inr (.inr (.inr (fun _ => none))))))] := hD
  refine lv_aload_n hx hb dX1_init_13 rfl (lv_at hl 0 rfl) ?_
  refine lv_iconst (v := 3) hx hb dX1_init_14 (by decide) ?_
  refine va_newa (atype := .int) (ty := .int) (N' := 3) (a0 := (3, .inl (fun _ => 0))) hx hb (hts (.arrayClass .int) (by decide +kernel)) rfl hK hP hD hS hA (fun _ => rfl) (by decide) (by decide) (by decide) (Nat.le_of_ble_eq_true rfl) (Nat.le_of_ble_eq_true rfl) dX1_init_15 (fun q3 cA4 H hK hP hD hS => ?_)
  refine W.widen (k := 2) (n := 9) (Nat.le_of_ble_eq_true rfl) (Nat.le_of_ble_eq_true rfl) ?_
  have hK : va_K (dC, dI) vwCl [(cA2, .object RX0), (cA4, .int)] s := hK
  have hP : va_P (dC, dI) vwCl [(h, .inr (1, [.ref q1, .int 0, .null, .null, .null, .int 0, .null])), (q1, .inl (cA2, 6, .inr (.inr (.inr (.inr (fun _ => none)))))), (q3, .inl (cA4, 3, .inl (fun _ => 0)))] H := hP
  have hD : va_D A [(h, .inr (1, [.ref q1, .int 0, .null, .null, .null, .int 0, .null])), (q1, .inl (cA2, 6, .inr (.inr (.inr (.inr (fun _ => none)))))), (q3, .inl (cA4, 3, .inl (fun _ => 0)))] := hD
  refine va_putF (D := (dC, dI)) (ci := 1) (v := .ref q3) (ty := .array .int) (C := RX1) (T := TX1) (N := 7) hx hb hts (by decide +kernel) tyX1 tyX1_ok nmX1 hown hK hP hD hS 0 rfl rfl 2 (by decide) (hts (.fieldLink RX1 15 "ThatchRoof" "barn" "[I") (by decide +kernel)) (fun _ h9 => h9) rfl hin rfl (by decide +kernel) rfl rfl (Nat.le_of_ble_eq_true rfl) dX1_init_17 (fun H locs hP hD hS => ?_)
  have hP : va_P (dC, dI) vwCl [(h, .inr (1, [.ref q1, .int 0, .ref q3, .null, .null, .int 0, .null])), (q1, .inl (cA2, 6, .inr (.inr (.inr (.inr (fun _ => none)))))), (q3, .inl (cA4, 3, .inl (fun _ => 0)))] H := hP
  have hD : va_D A [(h, .inr (1, [.ref q1, .int 0, .ref q3, .null, .null, .int 0, .null])), (q1, .inl (cA2, 6, .inr (.inr (.inr (.inr (fun _ => none)))))), (q3, .inl (cA4, 3, .inl (fun _ => 0)))] := hD
  refine lv_aload_n hx hb dX1_init_20 rfl (lv_at hl 0 rfl) ?_
  refine lv_bipush (v := 12) hx hb dX1_init_21 (by decide) ?_
  refine va_newa (atype := .int) (ty := .int) (N' := 12) (a0 := (12, .inl (fun _ => 0))) hx hb (hts (.arrayClass .int) (by decide +kernel)) rfl hK hP hD hS hA (fun _ => rfl) (by decide) (by decide) (by decide) (Nat.le_of_ble_eq_true rfl) (Nat.le_of_ble_eq_true rfl) dX1_init_23 (fun q5 cA6 H hK hP hD hS => ?_)
  refine W.widen (k := 3) (n := 21) (Nat.le_of_ble_eq_true rfl) (Nat.le_of_ble_eq_true rfl) ?_
  have hK : va_K (dC, dI) vwCl [(cA2, .object RX0), (cA4, .int), (cA6, .int)] s := hK
  have hP : va_P (dC, dI) vwCl [(h, .inr (1, [.ref q1, .int 0, .ref q3, .null, .null, .int 0, .null])), (q1, .inl (cA2, 6, .inr (.inr (.inr (.inr (fun _ => none)))))), (q3, .inl (cA4, 3, .inl (fun _ => 0))), (q5, .inl (cA6, 12, .inl (fun _ => 0)))] H := hP
  have hD : va_D A [(h, .inr (1, [.ref q1, .int 0, .ref q3, .null, .null, .int 0, .null])), (q1, .inl (cA2, 6, .inr (.inr (.inr (.inr (fun _ => none)))))), (q3, .inl (cA4, 3, .inl (fun _ => 0))), (q5, .inl (cA6, 12, .inl (fun _ => 0)))] := hD
  refine va_putF (D := (dC, dI)) (ci := 1) (v := .ref q5) (ty := .array .int) (C := RX1) (T := TX1) (N := 7) hx hb hts (by decide +kernel) tyX1 tyX1_ok nmX1 hown hK hP hD hS 0 rfl rfl 3 (by decide) (hts (.fieldLink RX1 19 "ThatchRoof" "rains" "[I") (by decide +kernel)) (fun _ h9 => h9) rfl hin rfl (by decide +kernel) rfl rfl (Nat.le_of_ble_eq_true rfl) dX1_init_25 (fun H locs hP hD hS => ?_)
  have hP : va_P (dC, dI) vwCl [(h, .inr (1, [.ref q1, .int 0, .ref q3, .ref q5, .null, .int 0, .null])), (q1, .inl (cA2, 6, .inr (.inr (.inr (.inr (fun _ => none)))))), (q3, .inl (cA4, 3, .inl (fun _ => 0))), (q5, .inl (cA6, 12, .inl (fun _ => 0)))] H := hP
  have hD : va_D A [(h, .inr (1, [.ref q1, .int 0, .ref q3, .ref q5, .null, .int 0, .null])), (q1, .inl (cA2, 6, .inr (.inr (.inr (.inr (fun _ => none)))))), (q3, .inl (cA4, 3, .inl (fun _ => 0))), (q5, .inl (cA6, 12, .inl (fun _ => 0)))] := hD
  refine lv_aload_n hx hb dX1_init_28 rfl (lv_at hl 0 rfl) ?_
  refine lv_bipush (v := 12) hx hb dX1_init_29 (by decide) ?_
  refine va_newa (atype := .int) (ty := .int) (N' := 12) (a0 := (12, .inl (fun _ => 0))) hx hb (hts (.arrayClass .int) (by decide +kernel)) rfl hK hP hD hS hA (fun _ => rfl) (by decide) (by decide) (by decide) (Nat.le_of_ble_eq_true rfl) (Nat.le_of_ble_eq_true rfl) dX1_init_31 (fun q7 cA8 H hK hP hD hS => ?_)
  refine W.widen (k := 4) (n := 33) (Nat.le_of_ble_eq_true rfl) (Nat.le_of_ble_eq_true rfl) ?_
  have hK : va_K (dC, dI) vwCl [(cA2, .object RX0), (cA4, .int), (cA6, .int), (cA8, .int)] s := hK
  have hP : va_P (dC, dI) vwCl [(h, .inr (1, [.ref q1, .int 0, .ref q3, .ref q5, .null, .int 0, .null])), (q1, .inl (cA2, 6, .inr (.inr (.inr (.inr (fun _ => none)))))), (q3, .inl (cA4, 3, .inl (fun _ => 0))), (q5, .inl (cA6, 12, .inl (fun _ => 0))), (q7, .inl (cA8, 12, .inl (fun _ => 0)))] H := hP
  have hD : va_D A [(h, .inr (1, [.ref q1, .int 0, .ref q3, .ref q5, .null, .int 0, .null])), (q1, .inl (cA2, 6, .inr (.inr (.inr (.inr (fun _ => none)))))), (q3, .inl (cA4, 3, .inl (fun _ => 0))), (q5, .inl (cA6, 12, .inl (fun _ => 0))), (q7, .inl (cA8, 12, .inl (fun _ => 0)))] := hD
  refine va_putF (D := (dC, dI)) (ci := 1) (v := .ref q7) (ty := .array .int) (C := RX1) (T := TX1) (N := 7) hx hb hts (by decide +kernel) tyX1 tyX1_ok nmX1 hown hK hP hD hS 0 rfl rfl 4 (by decide) (hts (.fieldLink RX1 22 "ThatchRoof" "storms" "[I") (by decide +kernel)) (fun _ h9 => h9) rfl hin rfl (by decide +kernel) rfl rfl (Nat.le_of_ble_eq_true rfl) dX1_init_33 (fun H locs hP hD hS => ?_)
  have hP : va_P (dC, dI) vwCl [(h, .inr (1, [.ref q1, .int 0, .ref q3, .ref q5, .ref q7, .int 0, .null])), (q1, .inl (cA2, 6, .inr (.inr (.inr (.inr (fun _ => none)))))), (q3, .inl (cA4, 3, .inl (fun _ => 0))), (q5, .inl (cA6, 12, .inl (fun _ => 0))), (q7, .inl (cA8, 12, .inl (fun _ => 0)))] H := hP
  have hD : va_D A [(h, .inr (1, [.ref q1, .int 0, .ref q3, .ref q5, .ref q7, .int 0, .null])), (q1, .inl (cA2, 6, .inr (.inr (.inr (.inr (fun _ => none)))))), (q3, .inl (cA4, 3, .inl (fun _ => 0))), (q5, .inl (cA6, 12, .inl (fun _ => 0))), (q7, .inl (cA8, 12, .inl (fun _ => 0)))] := hD
  refine lv_aload_n hx hb dX1_init_36 rfl (lv_at hl 0 rfl) ?_
  refine va_new (ci := 0) (fs := [.int 0, .int 0, .int 0, .int 0, .int 0, .int 0, .null, .null, .null, .null]) (C := RX0) (T := TX0) (N := 10) hx hb hts (by decide +kernel) tyX0 tyX0_ok hown (hts (.classLink RX1 9 RX0) (by decide +kernel)) (hts (.instantiable RX0 10) (by decide +kernel)) (hts (.initialized RX0) (by decide +kernel)) hK hP hD hS hA rfl (fun j hj => by rcases (show j = 0 ∨ j = 1 ∨ j = 2 ∨ j = 3 ∨ j = 4 ∨ j = 5 ∨ j = 6 ∨ j = 7 ∨ j = 8 ∨ j = 9 by omega) with rfl | rfl | rfl | rfl | rfl | rfl | rfl | rfl | rfl | rfl <;> rfl) (Nat.le_of_ble_eq_true rfl) (Nat.le_of_ble_eq_true rfl) dX1_init_37 (fun q9 H hP hD hS => ?_)
  refine W.widen (k := 5) (n := 43) (Nat.le_of_ble_eq_true rfl) (Nat.le_of_ble_eq_true rfl) ?_
  have hP : va_P (dC, dI) vwCl [(h, .inr (1, [.ref q1, .int 0, .ref q3, .ref q5, .ref q7, .int 0, .null])), (q1, .inl (cA2, 6, .inr (.inr (.inr (.inr (fun _ => none)))))), (q3, .inl (cA4, 3, .inl (fun _ => 0))), (q5, .inl (cA6, 12, .inl (fun _ => 0))), (q7, .inl (cA8, 12, .inl (fun _ => 0))), (q9, .inr (0, [.int 0, .int 0, .int 0, .int 0, .int 0, .int 0, .null, .null, .null, .null]))] H := hP
  have hD : va_D A [(h, .inr (1, [.ref q1, .int 0, .ref q3, .ref q5, .ref q7, .int 0, .null])), (q1, .inl (cA2, 6, .inr (.inr (.inr (.inr (fun _ => none)))))), (q3, .inl (cA4, 3, .inl (fun _ => 0))), (q5, .inl (cA6, 12, .inl (fun _ => 0))), (q7, .inl (cA8, 12, .inl (fun _ => 0))), (q9, .inr (0, [.int 0, .int 0, .int 0, .int 0, .int 0, .int 0, .null, .null, .null, .null]))] := hD
  refine lv_dup hx hb dX1_init_40 rfl ?_
  refine lv_iconst (v := 2) hx hb dX1_init_41 (by decide) ?_
  refine lv_iconst (v := 2) hx hb dX1_init_42 (by decide) ?_
  refine lv_bipush (v := 30) hx hb dX1_init_43 (by decide) ?_
  have hPc := hP.sub (ws' := [(q9, .inr (0, [.int 0, .int 0, .int 0, .int 0, .int 0, .int 0, .null, .null, .null, .null]))]) [5] rfl
  have hKc := hK.sub (tys' := []) [] rfl
  have hDc := hD.sub (ws' := [(q9, .inr (0, [.int 0, .int 0, .int 0, .int 0, .int 0, .int 0, .null, .null, .null, .null]))]) [5] (by decide) rfl
  have hFc := va_free (wc := [(q9, .inr (0, [.int 0, .int 0, .int 0, .int 0, .int 0, .int 0, .null, .null, .null, .null]))]) hD hS hA [5] rfl
  refine va_callv (va_runI (As := [.int 2, .int 2, .int 30]) (rest := [.ref q9, .ref h]) ⟨hx, hb, hml, hown, hts⟩ (k0_init l dC dI H.size q9 2 2 30 ) (cwI 3 hts gX1_init_X0_init rfl rfl rfl (hts (.initialized RX0) (by decide +kernel)) (hts (.methodLink RX1 25 yX0_init) (by decide +kernel)) (hts (.instanceMethod yX0_init) (by decide +kernel)) rfl (by decide +kernel) ⟨Nat.le_of_ble_eq_true rfl, Nat.le_of_ble_eq_true rfl⟩) ⟨fun a U g mk q => by obtain ⟨q0, q1, qP, qK, qD⟩ := q; exact ⟨q0, q1, qP, va_K.moved (u := U) (U := U.calling g mk a) (Vm.Alike.refl U.vm) qK, qD⟩, fun U hU hW => ⟨rfl, by rw [hU], by rw [hU]; exact hPc, va_K.moved hW.alike hKc, hDc.weaken (fun _ _ _ _ => trivial)⟩⟩ rfl rfl hl.1 rfl (lv_room (Nat.le_of_ble_eq_true rfl)) dX1_init_45 ⟨Nat.le_of_ble_eq_true rfl, Nat.le_of_ble_eq_true rfl⟩) hS (fun q _ h => hFc q h) hFc (fun u t H1 locs ht hvm hr10 hB hz1 hk1 hS => ?_)
  obtain ⟨k__11, t__12, p__13, m__14, c1__15, c2__16, c3__17, c4__18⟩ := u
  obtain ⟨hP1, hK1, hD1⟩ := hB
  rw [ht] at hP1
  have hK1 := va_K.moved hvm.symm hK1
  try dsimp only at hr10
  obtain ⟨hP, hD⟩ := va_join (wr := [(h, .inr (1, [.ref q1, .int 0, .ref q3, .ref q5, .ref q7, .int 0, .null])), (q1, .inl (cA2, 6, .inr (.inr (.inr (.inr (fun _ => none)))))), (q3, .inl (cA4, 3, .inl (fun _ => 0))), (q5, .inl (cA6, 12, .inl (fun _ => 0))), (q7, .inl (cA8, 12, .inl (fun _ => 0)))]) (w1 := [(q9, .inr (0, [.int 2, .int 2, .int 30, .int 100, .int 0, .int 0, .ref k__11, .ref t__12, .ref p__13, .ref m__14])), (k__11, .inl (c1__15, 60, .inl (fun _ => 0))), (t__12, .inl (c2__16, 60, .inl (fun _ => 0))), (p__13, .inl (c3__17, 60, .inl (fun _ => 0))), (m__14, .inl (c4__18, 60, .inl (fun _ => 0)))]) hP hD [5] [0, 1, 2, 3, 4] rfl rfl (by decide) (by decide) hk1 hFc hP1 hD1
  have hK := hK.app hK1
  have hK : va_K (dC, dI) vwCl [(cA2, .object RX0), (cA4, .int), (cA6, .int), (cA8, .int), (c1__15, .int), (c2__16, .int), (c3__17, .int), (c4__18, .int)] s := hK
  generalize H1 = H at hP hS ⊢
  have hP : va_P (dC, dI) vwCl [(h, .inr (1, [.ref q1, .int 0, .ref q3, .ref q5, .ref q7, .int 0, .null])), (q1, .inl (cA2, 6, .inr (.inr (.inr (.inr (fun _ => none)))))), (q3, .inl (cA4, 3, .inl (fun _ => 0))), (q5, .inl (cA6, 12, .inl (fun _ => 0))), (q7, .inl (cA8, 12, .inl (fun _ => 0))), (q9, .inr (0, [.int 2, .int 2, .int 30, .int 100, .int 0, .int 0, .ref k__11, .ref t__12, .ref p__13, .ref m__14])), (k__11, .inl (c1__15, 60, .inl (fun _ => 0))), (t__12, .inl (c2__16, 60, .inl (fun _ => 0))), (p__13, .inl (c3__17, 60, .inl (fun _ => 0))), (m__14, .inl (c4__18, 60, .inl (fun _ => 0)))] H := hP
  have hD : va_D A [(h, .inr (1, [.ref q1, .int 0, .ref q3, .ref q5, .ref q7, .int 0, .null])), (q1, .inl (cA2, 6, .inr (.inr (.inr (.inr (fun _ => none)))))), (q3, .inl (cA4, 3, .inl (fun _ => 0))), (q5, .inl (cA6, 12, .inl (fun _ => 0))), (q7, .inl (cA8, 12, .inl (fun _ => 0))), (q9, .inr (0, [.int 2, .int 2, .int 30, .int 100, .int 0, .int 0, .ref k__11, .ref t__12, .ref p__13, .ref m__14])), (k__11, .inl (c1__15, 60, .inl (fun _ => 0))), (t__12, .inl (c2__16, 60, .inl (fun _ => 0))), (p__13, .inl (c3__17, 60, .inl (fun _ => 0))), (m__14, .inl (c4__18, 60, .inl (fun _ => 0)))] := hD
  refine W.widen (k := 9) (n := 283) (Nat.le_of_ble_eq_true rfl) (Nat.le_of_ble_eq_true rfl) ?_
  obtain - := hr10
  refine va_putF (D := (dC, dI)) (ci := 1) (v := .ref q9) (ty := .object "ThatchRoof$Roof") (C := RX1) (T := TX1) (N := 7) hx hb hts (by decide +kernel) tyX1 tyX1_ok nmX1 hown hK hP hD hS 0 rfl rfl 6 (by decide) (hts (.fieldLink RX1 28 "ThatchRoof" "trial" "LThatchRoof$Roof;") (by decide +kernel)) (fun _ h9 => h9) rfl hin rfl (by decide +kernel) rfl rfl (Nat.le_of_ble_eq_true rfl) dX1_init_48 (fun H locs hP hD hS => ?_)
  have hP : va_P (dC, dI) vwCl [(h, .inr (1, [.ref q1, .int 0, .ref q3, .ref q5, .ref q7, .int 0, .ref q9])), (q1, .inl (cA2, 6, .inr (.inr (.inr (.inr (fun _ => none)))))), (q3, .inl (cA4, 3, .inl (fun _ => 0))), (q5, .inl (cA6, 12, .inl (fun _ => 0))), (q7, .inl (cA8, 12, .inl (fun _ => 0))), (q9, .inr (0, [.int 2, .int 2, .int 30, .int 100, .int 0, .int 0, .ref k__11, .ref t__12, .ref p__13, .ref m__14])), (k__11, .inl (c1__15, 60, .inl (fun _ => 0))), (t__12, .inl (c2__16, 60, .inl (fun _ => 0))), (p__13, .inl (c3__17, 60, .inl (fun _ => 0))), (m__14, .inl (c4__18, 60, .inl (fun _ => 0)))] H := hP
  have hD : va_D A [(h, .inr (1, [.ref q1, .int 0, .ref q3, .ref q5, .ref q7, .int 0, .ref q9])), (q1, .inl (cA2, 6, .inr (.inr (.inr (.inr (fun _ => none)))))), (q3, .inl (cA4, 3, .inl (fun _ => 0))), (q5, .inl (cA6, 12, .inl (fun _ => 0))), (q7, .inl (cA8, 12, .inl (fun _ => 0))), (q9, .inr (0, [.int 2, .int 2, .int 30, .int 100, .int 0, .int 0, .ref k__11, .ref t__12, .ref p__13, .ref m__14])), (k__11, .inl (c1__15, 60, .inl (fun _ => 0))), (t__12, .inl (c2__16, 60, .inl (fun _ => 0))), (p__13, .inl (c3__17, 60, .inl (fun _ => 0))), (m__14, .inl (c4__18, 60, .inl (fun _ => 0)))] := hD
  refine lv_iconst (v := 0) hx hb dX1_init_51 (by decide) ?_
  refine lv_istore_n (lv' := [(1, .int 0), (0, .ref h)]) hx hb dX1_init_52 rfl hl (by decide) rfl (fun ls hl => ?_)
  suffices K53 : ∀ (n : Nat) (i : Nat) (f : Nat → Int32), (i ≤ 12) → (∀ j : Nat, j < i → f j = 4) → 12 - i < n → ∀ (H : Heap) (locs : List Loc), va_P (dC, dI) vwCl [(h, .inr (1, [.ref q1, .int 0, .ref q3, .ref q5, .ref q7, .int 0, .ref q9])), (q1, .inl (cA2, 6, .inr (.inr (.inr (.inr (fun _ => none)))))), (q3, .inl (cA4, 3, .inl (fun _ => 0))), (q5, .inl (cA6, 12, .inl f)), (q7, .inl (cA8, 12, .inl (fun _ => 0))), (q9, .inr (0, [.int 2, .int 2, .int 30, .int 100, .int 0, .int 0, .ref k__11, .ref t__12, .ref p__13, .ref m__14])), (k__11, .inl (c1__15, 60, .inl (fun _ => 0))), (t__12, .inl (c2__16, 60, .inl (fun _ => 0))), (p__13, .inl (c3__17, 60, .inl (fun _ => 0))), (m__14, .inl (c4__18, 60, .inl (fun _ => 0)))] H → va_D A [(h, .inr (1, [.ref q1, .int 0, .ref q3, .ref q5, .ref q7, .int 0, .ref q9])), (q1, .inl (cA2, 6, .inr (.inr (.inr (.inr (fun _ => none)))))), (q3, .inl (cA4, 3, .inl (fun _ => 0))), (q5, .inl (cA6, 12, .inl f)), (q7, .inl (cA8, 12, .inl (fun _ => 0))), (q9, .inr (0, [.int 2, .int 2, .int 30, .int 100, .int 0, .int 0, .ref k__11, .ref t__12, .ref p__13, .ref m__14])), (k__11, .inl (c1__15, 60, .inl (fun _ => 0))), (t__12, .inl (c2__16, 60, .inl (fun _ => 0))), (p__13, .inl (c3__17, 60, .inl (fun _ => 0))), (m__14, .inl (c4__18, 60, .inl (fun _ => 0)))] → va_S A s.heap H locs → ∀ ls : Array Slot, lv_has ls 2 [(0, .ref h), (1, .int (nI i))] → W p l e ({ frames := 2, cells := 9, slots := 283, locals := 35 } : Room) s m (([.ref h] : List Value).toArray) below meth c H locs 9 283 (MQ below (va_Qv (fun (u : Nat × Nat × Nat × Nat × Nat × ClassId × ClassId × ClassId × ClassId × (Nat → Int32)) => (∀ j : Nat, j < 12 → u.2.2.2.2.2.2.2.2.2 j = 4)) (fun (u : Nat × Nat × Nat × Nat × Nat × ClassId × ClassId × ClassId × ClassId × (Nat → Int32)) (t : State) => va_P (dC, dI) vwCl [(h, .inr (1, [.ref u.1, .int 0, .ref u.2.1, .ref u.2.2.1, .ref u.2.2.2.1, .int 0, .ref u.2.2.2.2.1])), (u.1, .inl (u.2.2.2.2.2.1, 6, .inr (.inr (.inr (.inr (fun _ => none)))))), (u.2.1, .inl (u.2.2.2.2.2.2.1, 3, .inl (fun _ => 0))), (u.2.2.1, .inl (u.2.2.2.2.2.2.2.1, 12, .inl u.2.2.2.2.2.2.2.2.2)), (u.2.2.2.1, .inl (u.2.2.2.2.2.2.2.2.1, 12, .inl (fun _ => 0)))] t.heap ∧ va_K (dC, dI) vwCl [(u.2.2.2.2.2.1, .object RX0), (u.2.2.2.2.2.2.1, .int), (u.2.2.2.2.2.2.2.1, .int), (u.2.2.2.2.2.2.2.2.1, .int)] t ∧ va_D A [(h, .inr (1, [.ref u.1, .int 0, .ref u.2.1, .ref u.2.2.1, .ref u.2.2.2.1, .int 0, .ref u.2.2.2.2.1])), (u.1, .inl (u.2.2.2.2.2.1, 6, .inr (.inr (.inr (.inr (fun _ => none)))))), (u.2.1, .inl (u.2.2.2.2.2.2.1, 3, .inl (fun _ => 0))), (u.2.2.1, .inl (u.2.2.2.2.2.2.2.1, 12, .inl u.2.2.2.2.2.2.2.2.2)), (u.2.2.2.1, .inl (u.2.2.2.2.2.2.2.2.1, 12, .inl (fun _ => 0)))]) A) (([.ref h] : List Value).toArray) s 9 283 A) (F0 m 53 ls []) from
    K53 _ 0 (fun _ => 0) (by decide) (fun j hj => absurd hj (Nat.not_lt_zero _)) (Nat.lt_succ_self _) _ _ hP hD hS _ (lv_sub hl [1, 0] rfl)
  intro n
  induction n with
  | zero =>
    intro i f hi hf hn
    exact absurd hn (Nat.not_lt_zero _)
  | succ n ih53 =>
    intro i f hi hf hn53 H locs hP hD hS ls hl
    refine lv_iload_n hx hb dX1_init_53 rfl (lv_at hl 1 rfl) ?_
    refine lv_bipush (v := 12) hx hb dX1_init_54 (by decide) ?_
    refine lv_icmp_ge (tgt := 72) hx hb dX1_init_56 (by decide) (fun c19 => ?_) (fun c19 => ?_)
    · have nc19 : 12 ≤ i := (nI_leI (a := 12) (b := i) (by omega) (by omega)).mp c19
      have hP9 := hP.sub (ws' := [(h, .inr (1, [.ref q1, .int 0, .ref q3, .ref q5, .ref q7, .int 0, .ref q9])), (q1, .inl (cA2, 6, .inr (.inr (.inr (.inr (fun _ => none)))))), (q3, .inl (cA4, 3, .inl (fun _ => 0))), (q5, .inl (cA6, 12, .inl f)), (q7, .inl (cA8, 12, .inl (fun _ => 0)))]) [0, 1, 2, 3, 4] rfl
      have hD9 := hD.sub (ws' := [(h, .inr (1, [.ref q1, .int 0, .ref q3, .ref q5, .ref q7, .int 0, .ref q9])), (q1, .inl (cA2, 6, .inr (.inr (.inr (.inr (fun _ => none)))))), (q3, .inl (cA4, 3, .inl (fun _ => 0))), (q5, .inl (cA6, 12, .inl f)), (q7, .inl (cA8, 12, .inl (fun _ => 0)))]) [0, 1, 2, 3, 4] (by decide) rfl
      have hK9 := hK.sub (tys' := [(cA2, .object RX0), (cA4, .int), (cA6, .int), (cA8, .int)]) [0, 1, 2, 3] rfl
      refine W.widen (k := 9) (n := 283) (Nat.le_of_ble_eq_true rfl) (Nat.le_of_ble_eq_true rfl) ?_
      exact W.vret hx hb hr (fun t ht hW => ⟨⟨(q1, q3, q5, q7, q9, cA2, cA4, cA6, cA8, f), rfl, fun j hj => hf j (by omega), ⟨by rw [ht]; exact hP9, va_K.moved hW.alike hK9, hD9⟩⟩, hS.F ht⟩) hS.2.2 dX1_init_72
    · have nc19 : i < 12 := Nat.lt_of_not_le (fun q => c19 ((nI_leI (a := 12) (b := i) (by omega) (by omega)).mpr q))
      refine lv_aload_n hx hb dX1_init_59 rfl (lv_at hl 0 rfl) ?_
      refine va_get (D := (dC, dI)) (ci := 1) (v := .ref q5) (C := RX1) (T := TX1) (N := 7) hx hb hts (by decide +kernel) hown hK hP 0 rfl rfl 3 (by decide) (hts (.fieldLink RX1 19 "ThatchRoof" "rains" "[I") (by decide +kernel)) (fun _ h9 => h9) rfl dX1_init_60 ?_
      refine lv_iload_n hx hb dX1_init_63 rfl (lv_at hl 1 rfl) ?_
      refine lv_iconst (v := 4) hx hb dX1_init_64 (by decide) ?_
      refine va_iast hx hb hK hP hD hS 3 2 rfl rfl (vp_in_nI (by omega) (by omega)) dX1_init_65 (fun H locs hP hD hS => ?_)
      rw [nI_clamp (show i < 2 ^ 31 by omega)] at hP hD
      have hP : va_P (dC, dI) vwCl [(h, .inr (1, [.ref q1, .int 0, .ref q3, .ref q5, .ref q7, .int 0, .ref q9])), (q1, .inl (cA2, 6, .inr (.inr (.inr (.inr (fun _ => none)))))), (q3, .inl (cA4, 3, .inl (fun _ => 0))), (q5, .inl (cA6, 12, .inl (upd f i 4))), (q7, .inl (cA8, 12, .inl (fun _ => 0))), (q9, .inr (0, [.int 2, .int 2, .int 30, .int 100, .int 0, .int 0, .ref k__11, .ref t__12, .ref p__13, .ref m__14])), (k__11, .inl (c1__15, 60, .inl (fun _ => 0))), (t__12, .inl (c2__16, 60, .inl (fun _ => 0))), (p__13, .inl (c3__17, 60, .inl (fun _ => 0))), (m__14, .inl (c4__18, 60, .inl (fun _ => 0)))] H := hP
      have hD : va_D A [(h, .inr (1, [.ref q1, .int 0, .ref q3, .ref q5, .ref q7, .int 0, .ref q9])), (q1, .inl (cA2, 6, .inr (.inr (.inr (.inr (fun _ => none)))))), (q3, .inl (cA4, 3, .inl (fun _ => 0))), (q5, .inl (cA6, 12, .inl (upd f i 4))), (q7, .inl (cA8, 12, .inl (fun _ => 0))), (q9, .inr (0, [.int 2, .int 2, .int 30, .int 100, .int 0, .int 0, .ref k__11, .ref t__12, .ref p__13, .ref m__14])), (k__11, .inl (c1__15, 60, .inl (fun _ => 0))), (t__12, .inl (c2__16, 60, .inl (fun _ => 0))), (p__13, .inl (c3__17, 60, .inl (fun _ => 0))), (m__14, .inl (c4__18, 60, .inl (fun _ => 0)))] := hD
      refine lv_iinc (v := nI (i + 1)) (lv' := [(1, .int (nI (i + 1))), (0, .ref h)]) hx hb dX1_init_66 hl (k := 1) rfl (by exact nI_1 i) (by decide) rfl (fun ls hl => ?_)
      refine lv_goto (tgt := 53) hx hb dX1_init_69 (by decide) ?_
      exact ih53 (i + 1) (upd f i 4) (by omega) (fun j hj => by by_cases hji : j = i <;> first | (subst hji; exact pk_us) | (rw [pk_un hji]; exact hf j (by omega))) (by omega) _ _ (hP.sub [0, 1, 2, 3, 4, 5, 6, 7, 8, 9] rfl) (hD.sub [0, 1, 2, 3, 4, 5, 6, 7, 8, 9] (by decide) rfl) hS _ (lv_sub hl [1, 0] rfl)
end

section
theorem dX2_init_0 : decode cX2_init 0 = .ok (.aload_n 0, 1) := by decide +kernel
theorem dX2_init_1 : decode cX2_init 1 = .ok (.aload_n 1, 1) := by decide +kernel
theorem dX2_init_2 : decode cX2_init 2 = .ok (.putfield 3, 3) := by decide +kernel
theorem dX2_init_5 : decode cX2_init 5 = .ok (.aload_n 0, 1) := by decide +kernel
theorem dX2_init_6 : decode cX2_init 6 = .ok (.invokespecial 9, 3) := by decide +kernel
theorem dX2_init_9 : decode cX2_init 9 = .ok (.aload_n 0, 1) := by decide +kernel
theorem dX2_init_10 : decode cX2_init 10 = .ok (.bipush 6, 2) := by decide +kernel
theorem dX2_init_12 : decode cX2_init 12 = .ok (.newarray .int, 2) := by decide +kernel
theorem dX2_init_14 : decode cX2_init 14 = .ok (.putfield 15, 3) := by decide +kernel
theorem dX2_init_17 : decode cX2_init 17 = .ok (.aload_n 0, 1) := by decide +kernel
theorem dX2_init_18 : decode cX2_init 18 = .ok (.bipush 6, 2) := by decide +kernel
theorem dX2_init_20 : decode cX2_init 20 = .ok (.newarray .int, 2) := by decide +kernel
theorem dX2_init_22 : decode cX2_init 22 = .ok (.putfield 19, 3) := by decide +kernel
theorem dX2_init_25 : decode cX2_init 25 = .ok (.aload_n 0, 1) := by decide +kernel
theorem dX2_init_26 : decode cX2_init 26 = .ok (.bipush 6, 2) := by decide +kernel
theorem dX2_init_28 : decode cX2_init 28 = .ok (.newarray .int, 2) := by decide +kernel
theorem dX2_init_30 : decode cX2_init 30 = .ok (.putfield 22, 3) := by decide +kernel
theorem dX2_init_33 : decode cX2_init 33 = .ok (.aload_n 0, 1) := by decide +kernel
theorem dX2_init_34 : decode cX2_init 34 = .ok (.sipush 360, 3) := by decide +kernel
theorem dX2_init_37 : decode cX2_init 37 = .ok (.newarray .int, 2) := by decide +kernel
theorem dX2_init_39 : decode cX2_init 39 = .ok (.putfield 25, 3) := by decide +kernel
theorem dX2_init_42 : decode cX2_init 42 = .ok (.aload_n 0, 1) := by decide +kernel
theorem dX2_init_43 : decode cX2_init 43 = .ok (.sipush 360, 3) := by decide +kernel
theorem dX2_init_46 : decode cX2_init 46 = .ok (.newarray .int, 2) := by decide +kernel
theorem dX2_init_48 : decode cX2_init 48 = .ok (.putfield 28, 3) := by decide +kernel
theorem dX2_init_51 : decode cX2_init 51 = .ok (.aload_n 0, 1) := by decide +kernel
theorem dX2_init_52 : decode cX2_init 52 = .ok (.sipush 360, 3) := by decide +kernel
theorem dX2_init_55 : decode cX2_init 55 = .ok (.newarray .int, 2) := by decide +kernel
theorem dX2_init_57 : decode cX2_init 57 = .ok (.putfield 31, 3) := by decide +kernel
theorem dX2_init_60 : decode cX2_init 60 = .ok (.aload_n 0, 1) := by decide +kernel
theorem dX2_init_61 : decode cX2_init 61 = .ok (.sipush 360, 3) := by decide +kernel
theorem dX2_init_64 : decode cX2_init 64 = .ok (.newarray .int, 2) := by decide +kernel
theorem dX2_init_66 : decode cX2_init 66 = .ok (.putfield 34, 3) := by decide +kernel
theorem dX2_init_69 : decode cX2_init 69 = .ok (.aload_n 0, 1) := by decide +kernel
theorem dX2_init_70 : decode cX2_init 70 = .ok (.bipush 60, 2) := by decide +kernel
theorem dX2_init_72 : decode cX2_init 72 = .ok (.newarray .boolean, 2) := by decide +kernel
theorem dX2_init_74 : decode cX2_init 74 = .ok (.putfield 37, 3) := by decide +kernel
theorem dX2_init_77 : decode cX2_init 77 = .ok (.iconst 0, 1) := by decide +kernel
theorem dX2_init_78 : decode cX2_init 78 = .ok (.istore_n 2, 1) := by decide +kernel
theorem dX2_init_79 : decode cX2_init 79 = .ok (.iload_n 2, 1) := by decide +kernel
theorem dX2_init_80 : decode cX2_init 80 = .ok (.aload_n 0, 1) := by decide +kernel
theorem dX2_init_81 : decode cX2_init 81 = .ok (.getfield 25, 3) := by decide +kernel
theorem dX2_init_84 : decode cX2_init 84 = .ok (.arraylength, 1) := by decide +kernel
theorem dX2_init_85 : decode cX2_init 85 = .ok (.if_icmp .ge 16, 3) := by decide +kernel
theorem dX2_init_88 : decode cX2_init 88 = .ok (.aload_n 0, 1) := by decide +kernel
theorem dX2_init_89 : decode cX2_init 89 = .ok (.getfield 25, 3) := by decide +kernel
theorem dX2_init_92 : decode cX2_init 92 = .ok (.iload_n 2, 1) := by decide +kernel
theorem dX2_init_93 : decode cX2_init 93 = .ok (.iconst (-1), 1) := by decide +kernel
theorem dX2_init_94 : decode cX2_init 94 = .ok (.iastore, 1) := by decide +kernel
theorem dX2_init_95 : decode cX2_init 95 = .ok (.iinc 2 1, 3) := by decide +kernel
theorem dX2_init_98 : decode cX2_init 98 = .ok (.goto (-19), 3) := by decide +kernel
theorem dX2_init_101 : decode cX2_init 101 = .ok (.return_, 1) := by decide +kernel
set_option maxRecDepth 20000 in
theorem ggX2_isThere_X3_cell : GoodIn wsX2_isThere wsX3_cell := goodIn_r _ [4] (by decide +kernel) (by decide +kernel)
set_option maxRecDepth 20000 in
theorem gX2_isThere_X3_cell_n55 : GoodIn wsX2_isThere (wsX3_cell) := ggX2_isThere_X3_cell
theorem dX2_isThere_0 : decode cX2_isThere 0 = .ok (.aload_n 0, 1) := by decide +kernel
theorem dX2_isThere_1 : decode cX2_isThere 1 = .ok (.getfield 25, 3) := by decide +kernel
theorem dX2_isThere_4 : decode cX2_isThere 4 = .ok (.iload_n 1, 1) := by decide +kernel
theorem dX2_isThere_5 : decode cX2_isThere 5 = .ok (.iload_n 2, 1) := by decide +kernel
theorem dX2_isThere_6 : decode cX2_isThere 6 = .ok (.iload_n 3, 1) := by decide +kernel
theorem dX2_isThere_7 : decode cX2_isThere 7 = .ok (.invokestatic 55, 3) := by decide +kernel
theorem dX2_isThere_10 : decode cX2_isThere 10 = .ok (.iaload, 1) := by decide +kernel
theorem dX2_isThere_11 : decode cX2_isThere 11 = .ok (.iconst (-1), 1) := by decide +kernel
theorem dX2_isThere_12 : decode cX2_isThere 12 = .ok (.if_icmp .eq 7, 3) := by decide +kernel
theorem dX2_isThere_19 : decode cX2_isThere 19 = .ok (.iconst 0, 1) := by decide +kernel
theorem dX2_isThere_20 : decode cX2_isThere 20 = .ok (.ireturn, 1) := by decide +kernel
set_option maxRecDepth 20000 in
theorem ggX2_isBare_X2_isThere : GoodIn wsX2_isBare wsX2_isThere := goodIn_r _ [6, 7, 8, 9, 10, 11, 12, 13, 14, 15, 16, 17, 18, 19, 20] (by decide +kernel) (by decide +kernel)
set_option maxRecDepth 20000 in
theorem gX2_isBare_X2_isThere : GoodIn wsX2_isBare (wsV RX2 59 RX2 yX2_isThere wsX2_isThere) := goodIn_app (goodIn_of _ (by decide +kernel)) ggX2_isBare_X2_isThere
theorem dX2_isBare_0 : decode cX2_isBare 0 = .ok (.aload_n 0, 1) := by decide +kernel
theorem dX2_isBare_1 : decode cX2_isBare 1 = .ok (.iload_n 1, 1) := by decide +kernel
theorem dX2_isBare_2 : decode cX2_isBare 2 = .ok (.iload_n 2, 1) := by decide +kernel
theorem dX2_isBare_3 : decode cX2_isBare 3 = .ok (.iload_n 3, 1) := by decide +kernel
theorem dX2_isBare_4 : decode cX2_isBare 4 = .ok (.invokevirtual 59, 3) := by decide +kernel
theorem dX2_isBare_7 : decode cX2_isBare 7 = .ok (.ifCond .eq 34, 3) := by decide +kernel
theorem dX2_isBare_41 : decode cX2_isBare 41 = .ok (.iconst 0, 1) := by decide +kernel
theorem dX2_isBare_42 : decode cX2_isBare 42 = .ok (.ireturn, 1) := by decide +kernel
theorem dX2_yealms_0 : decode cX2_yealms 0 = .ok (.iconst 0, 1) := by decide +kernel
theorem dX2_yealms_1 : decode cX2_yealms 1 = .ok (.istore_n 2, 1) := by decide +kernel
theorem dX2_yealms_2 : decode cX2_yealms 2 = .ok (.bipush 60, 2) := by decide +kernel
theorem dX2_yealms_4 : decode cX2_yealms 4 = .ok (.iload_n 1, 1) := by decide +kernel
theorem dX2_yealms_5 : decode cX2_yealms 5 = .ok (.imul, 1) := by decide +kernel
theorem dX2_yealms_6 : decode cX2_yealms 6 = .ok (.istore_n 3, 1) := by decide +kernel
theorem dX2_yealms_7 : decode cX2_yealms 7 = .ok (.iload_n 3, 1) := by decide +kernel
theorem dX2_yealms_8 : decode cX2_yealms 8 = .ok (.bipush 60, 2) := by decide +kernel
theorem dX2_yealms_10 : decode cX2_yealms 10 = .ok (.iload_n 1, 1) := by decide +kernel
theorem dX2_yealms_11 : decode cX2_yealms 11 = .ok (.imul, 1) := by decide +kernel
theorem dX2_yealms_12 : decode cX2_yealms 12 = .ok (.bipush 60, 2) := by decide +kernel
theorem dX2_yealms_14 : decode cX2_yealms 14 = .ok (.iadd, 1) := by decide +kernel
theorem dX2_yealms_15 : decode cX2_yealms 15 = .ok (.if_icmp .ge 27, 3) := by decide +kernel
theorem dX2_yealms_18 : decode cX2_yealms 18 = .ok (.iload_n 2, 1) := by decide +kernel
theorem dX2_yealms_19 : decode cX2_yealms 19 = .ok (.aload_n 0, 1) := by decide +kernel
theorem dX2_yealms_20 : decode cX2_yealms 20 = .ok (.getfield 25, 3) := by decide +kernel
theorem dX2_yealms_23 : decode cX2_yealms 23 = .ok (.iload_n 3, 1) := by decide +kernel
theorem dX2_yealms_24 : decode cX2_yealms 24 = .ok (.iaload, 1) := by decide +kernel
theorem dX2_yealms_25 : decode cX2_yealms 25 = .ok (.iconst (-1), 1) := by decide +kernel
theorem dX2_yealms_26 : decode cX2_yealms 26 = .ok (.if_icmp .ne 7, 3) := by decide +kernel
theorem dX2_yealms_29 : decode cX2_yealms 29 = .ok (.iconst 0, 1) := by decide +kernel
theorem dX2_yealms_30 : decode cX2_yealms 30 = .ok (.goto 4, 3) := by decide +kernel
theorem dX2_yealms_34 : decode cX2_yealms 34 = .ok (.iadd, 1) := by decide +kernel
theorem dX2_yealms_35 : decode cX2_yealms 35 = .ok (.istore_n 2, 1) := by decide +kernel
theorem dX2_yealms_36 : decode cX2_yealms 36 = .ok (.iinc 3 1, 3) := by decide +kernel
theorem dX2_yealms_39 : decode cX2_yealms 39 = .ok (.goto (-32), 3) := by decide +kernel
theorem dX2_yealms_42 : decode cX2_yealms 42 = .ok (.iload_n 2, 1) := by decide +kernel
theorem dX2_yealms_43 : decode cX2_yealms 43 = .ok (.ireturn, 1) := by decide +kernel
theorem dX2_thickness_0 : decode cX2_thickness 0 = .ok (.iconst 0, 1) := by decide +kernel
theorem dX2_thickness_1 : decode cX2_thickness 1 = .ok (.istore_n 2, 1) := by decide +kernel
theorem dX2_thickness_2 : decode cX2_thickness 2 = .ok (.bipush 60, 2) := by decide +kernel
theorem dX2_thickness_4 : decode cX2_thickness 4 = .ok (.iload_n 1, 1) := by decide +kernel
theorem dX2_thickness_5 : decode cX2_thickness 5 = .ok (.imul, 1) := by decide +kernel
theorem dX2_thickness_6 : decode cX2_thickness 6 = .ok (.istore_n 3, 1) := by decide +kernel
theorem dX2_thickness_7 : decode cX2_thickness 7 = .ok (.iload_n 3, 1) := by decide +kernel
theorem dX2_thickness_8 : decode cX2_thickness 8 = .ok (.bipush 60, 2) := by decide +kernel
theorem dX2_thickness_10 : decode cX2_thickness 10 = .ok (.iload_n 1, 1) := by decide +kernel
theorem dX2_thickness_11 : decode cX2_thickness 11 = .ok (.imul, 1) := by decide +kernel
theorem dX2_thickness_12 : decode cX2_thickness 12 = .ok (.bipush 60, 2) := by decide +kernel
theorem dX2_thickness_14 : decode cX2_thickness 14 = .ok (.iadd, 1) := by decide +kernel
theorem dX2_thickness_15 : decode cX2_thickness 15 = .ok (.if_icmp .ge 18, 3) := by decide +kernel
theorem dX2_thickness_18 : decode cX2_thickness 18 = .ok (.iload_n 2, 1) := by decide +kernel
theorem dX2_thickness_19 : decode cX2_thickness 19 = .ok (.aload_n 0, 1) := by decide +kernel
theorem dX2_thickness_20 : decode cX2_thickness 20 = .ok (.getfield 28, 3) := by decide +kernel
theorem dX2_thickness_23 : decode cX2_thickness 23 = .ok (.iload_n 3, 1) := by decide +kernel
theorem dX2_thickness_24 : decode cX2_thickness 24 = .ok (.iaload, 1) := by decide +kernel
theorem dX2_thickness_25 : decode cX2_thickness 25 = .ok (.iadd, 1) := by decide +kernel
theorem dX2_thickness_26 : decode cX2_thickness 26 = .ok (.istore_n 2, 1) := by decide +kernel
theorem dX2_thickness_27 : decode cX2_thickness 27 = .ok (.iinc 3 1, 3) := by decide +kernel
theorem dX2_thickness_30 : decode cX2_thickness 30 = .ok (.goto (-23), 3) := by decide +kernel
theorem dX2_thickness_33 : decode cX2_thickness 33 = .ok (.iload_n 2, 1) := by decide +kernel
theorem dX2_thickness_34 : decode cX2_thickness 34 = .ok (.ireturn, 1) := by decide +kernel
set_option maxRecDepth 20000 in
theorem ggX2_leaks_X3_cell : GoodIn wsX2_leaks wsX3_cell := goodIn_r _ [5] (by decide +kernel) (by decide +kernel)
set_option maxRecDepth 20000 in
theorem gX2_leaks_X3_cell_n55 : GoodIn wsX2_leaks (wsX3_cell) := ggX2_leaks_X3_cell
theorem dX2_leaks_0 : decode cX2_leaks 0 = .ok (.iconst 0, 1) := by decide +kernel
theorem dX2_leaks_1 : decode cX2_leaks 1 = .ok (.istore_n 2, 1) := by decide +kernel
theorem dX2_leaks_2 : decode cX2_leaks 2 = .ok (.iconst 0, 1) := by decide +kernel
theorem dX2_leaks_3 : decode cX2_leaks 3 = .ok (.istore_n 3, 1) := by decide +kernel
theorem dX2_leaks_4 : decode cX2_leaks 4 = .ok (.iload_n 3, 1) := by decide +kernel
theorem dX2_leaks_5 : decode cX2_leaks 5 = .ok (.aload_n 0, 1) := by decide +kernel
theorem dX2_leaks_6 : decode cX2_leaks 6 = .ok (.getfield 3, 3) := by decide +kernel
theorem dX2_leaks_9 : decode cX2_leaks 9 = .ok (.getfield 78, 3) := by decide +kernel
theorem dX2_leaks_12 : decode cX2_leaks 12 = .ok (.iload_n 1, 1) := by decide +kernel
theorem dX2_leaks_13 : decode cX2_leaks 13 = .ok (.iaload, 1) := by decide +kernel
theorem dX2_leaks_14 : decode cX2_leaks 14 = .ok (.if_icmp .ge 97, 3) := by decide +kernel
theorem dX2_leaks_17 : decode cX2_leaks 17 = .ok (.iconst 0, 1) := by decide +kernel
theorem dX2_leaks_18 : decode cX2_leaks 18 = .ok (.istore 4, 2) := by decide +kernel
theorem dX2_leaks_20 : decode cX2_leaks 20 = .ok (.iconst 0, 1) := by decide +kernel
theorem dX2_leaks_21 : decode cX2_leaks 21 = .ok (.istore 5, 2) := by decide +kernel
theorem dX2_leaks_23 : decode cX2_leaks 23 = .ok (.iload 5, 2) := by decide +kernel
theorem dX2_leaks_25 : decode cX2_leaks 25 = .ok (.aload_n 0, 1) := by decide +kernel
theorem dX2_leaks_26 : decode cX2_leaks 26 = .ok (.getfield 3, 3) := by decide +kernel
theorem dX2_leaks_29 : decode cX2_leaks 29 = .ok (.getfield 63, 3) := by decide +kernel
theorem dX2_leaks_32 : decode cX2_leaks 32 = .ok (.iload_n 1, 1) := by decide +kernel
theorem dX2_leaks_33 : decode cX2_leaks 33 = .ok (.iaload, 1) := by decide +kernel
theorem dX2_leaks_34 : decode cX2_leaks 34 = .ok (.if_icmp .ge 26, 3) := by decide +kernel
theorem dX2_leaks_37 : decode cX2_leaks 37 = .ok (.iload 4, 2) := by decide +kernel
theorem dX2_leaks_39 : decode cX2_leaks 39 = .ok (.aload_n 0, 1) := by decide +kernel
theorem dX2_leaks_40 : decode cX2_leaks 40 = .ok (.getfield 28, 3) := by decide +kernel
theorem dX2_leaks_43 : decode cX2_leaks 43 = .ok (.iload_n 1, 1) := by decide +kernel
theorem dX2_leaks_44 : decode cX2_leaks 44 = .ok (.iload 5, 2) := by decide +kernel
theorem dX2_leaks_46 : decode cX2_leaks 46 = .ok (.iload_n 3, 1) := by decide +kernel
theorem dX2_leaks_47 : decode cX2_leaks 47 = .ok (.invokestatic 55, 3) := by decide +kernel
theorem dX2_leaks_50 : decode cX2_leaks 50 = .ok (.iaload, 1) := by decide +kernel
theorem dX2_leaks_51 : decode cX2_leaks 51 = .ok (.iadd, 1) := by decide +kernel
theorem dX2_leaks_52 : decode cX2_leaks 52 = .ok (.istore 4, 2) := by decide +kernel
theorem dX2_leaks_54 : decode cX2_leaks 54 = .ok (.iinc 5 1, 3) := by decide +kernel
theorem dX2_leaks_57 : decode cX2_leaks 57 = .ok (.goto (-34), 3) := by decide +kernel
theorem dX2_leaks_60 : decode cX2_leaks 60 = .ok (.iload_n 2, 1) := by decide +kernel
theorem dX2_leaks_61 : decode cX2_leaks 61 = .ok (.iload 4, 2) := by decide +kernel
theorem dX2_leaks_63 : decode cX2_leaks 63 = .ok (.bipush 8, 2) := by decide +kernel
theorem dX2_leaks_65 : decode cX2_leaks 65 = .ok (.aload_n 0, 1) := by decide +kernel
theorem dX2_leaks_66 : decode cX2_leaks 66 = .ok (.getfield 3, 3) := by decide +kernel
theorem dX2_leaks_69 : decode cX2_leaks 69 = .ok (.getfield 63, 3) := by decide +kernel
theorem dX2_leaks_72 : decode cX2_leaks 72 = .ok (.iload_n 1, 1) := by decide +kernel
theorem dX2_leaks_73 : decode cX2_leaks 73 = .ok (.iaload, 1) := by decide +kernel
theorem dX2_leaks_74 : decode cX2_leaks 74 = .ok (.imul, 1) := by decide +kernel
theorem dX2_leaks_75 : decode cX2_leaks 75 = .ok (.if_icmp .lt 23, 3) := by decide +kernel
theorem dX2_leaks_98 : decode cX2_leaks 98 = .ok (.iconst 1, 1) := by decide +kernel
theorem dX2_leaks_99 : decode cX2_leaks 99 = .ok (.goto 4, 3) := by decide +kernel
theorem dX2_leaks_103 : decode cX2_leaks 103 = .ok (.iadd, 1) := by decide +kernel
theorem dX2_leaks_104 : decode cX2_leaks 104 = .ok (.istore_n 2, 1) := by decide +kernel
theorem dX2_leaks_105 : decode cX2_leaks 105 = .ok (.iinc 3 1, 3) := by decide +kernel
theorem dX2_leaks_108 : decode cX2_leaks 108 = .ok (.goto (-104), 3) := by decide +kernel
theorem dX2_leaks_111 : decode cX2_leaks 111 = .ok (.iload_n 2, 1) := by decide +kernel
theorem dX2_leaks_112 : decode cX2_leaks 112 = .ok (.ireturn, 1) := by decide +kernel
set_option maxRecDepth 20000 in
theorem ggX3_init_X2_init : GoodIn wsX3_init wsX2_init := goodIn_r _ [18, 19, 20, 2, 3, 4, 21, 22, 23, 24, 25, 26, 27, 28, 29, 40, 41, 42, 43, 44, 45, 46, 47, 48, 49] (by decide +kernel) (by decide +kernel)
set_option maxRecDepth 20000 in
theorem gX3_init_X2_init : GoodIn wsX3_init (wsX2_init) := ggX3_init_X2_init
end

section
theorem dX3_init_0 : decode cX3_init 0 = .ok (.aload_n 0, 1) := by decide +kernel
theorem dX3_init_1 : decode cX3_init 1 = .ok (.invokespecial 1, 3) := by decide +kernel
theorem dX3_init_4 : decode cX3_init 4 = .ok (.aload_n 0, 1) := by decide +kernel
theorem dX3_init_5 : decode cX3_init 5 = .ok (.bipush 6, 2) := by decide +kernel
theorem dX3_init_7 : decode cX3_init 7 = .ok (.newarray .int, 2) := by decide +kernel
theorem dX3_init_9 : decode cX3_init 9 = .ok (.putfield 9, 3) := by decide +kernel
theorem dX3_init_12 : decode cX3_init 12 = .ok (.aload_n 0, 1) := by decide +kernel
theorem dX3_init_13 : decode cX3_init 13 = .ok (.bipush 6, 2) := by decide +kernel
theorem dX3_init_15 : decode cX3_init 15 = .ok (.newarray .int, 2) := by decide +kernel
theorem dX3_init_17 : decode cX3_init 17 = .ok (.putfield 13, 3) := by decide +kernel
theorem dX3_init_20 : decode cX3_init 20 = .ok (.aload_n 0, 1) := by decide +kernel
theorem dX3_init_21 : decode cX3_init 21 = .ok (.bipush 6, 2) := by decide +kernel
theorem dX3_init_23 : decode cX3_init 23 = .ok (.newarray .int, 2) := by decide +kernel
theorem dX3_init_25 : decode cX3_init 25 = .ok (.putfield 16, 3) := by decide +kernel
theorem dX3_init_28 : decode cX3_init 28 = .ok (.aload_n 0, 1) := by decide +kernel
theorem dX3_init_29 : decode cX3_init 29 = .ok (.bipush 12, 2) := by decide +kernel
theorem dX3_init_31 : decode cX3_init 31 = .ok (.newarray .int, 2) := by decide +kernel
theorem dX3_init_33 : decode cX3_init 33 = .ok (.dup, 1) := by decide +kernel
theorem dX3_init_34 : decode cX3_init 34 = .ok (.iconst 0, 1) := by decide +kernel
theorem dX3_init_35 : decode cX3_init 35 = .ok (.iconst 4, 1) := by decide +kernel
theorem dX3_init_36 : decode cX3_init 36 = .ok (.iastore, 1) := by decide +kernel
theorem dX3_init_37 : decode cX3_init 37 = .ok (.dup, 1) := by decide +kernel
theorem dX3_init_38 : decode cX3_init 38 = .ok (.iconst 1, 1) := by decide +kernel
theorem dX3_init_39 : decode cX3_init 39 = .ok (.iconst 4, 1) := by decide +kernel
theorem dX3_init_40 : decode cX3_init 40 = .ok (.iastore, 1) := by decide +kernel
theorem dX3_init_41 : decode cX3_init 41 = .ok (.dup, 1) := by decide +kernel
theorem dX3_init_42 : decode cX3_init 42 = .ok (.iconst 2, 1) := by decide +kernel
theorem dX3_init_43 : decode cX3_init 43 = .ok (.iconst 4, 1) := by decide +kernel
theorem dX3_init_44 : decode cX3_init 44 = .ok (.iastore, 1) := by decide +kernel
theorem dX3_init_45 : decode cX3_init 45 = .ok (.dup, 1) := by decide +kernel
theorem dX3_init_46 : decode cX3_init 46 = .ok (.iconst 3, 1) := by decide +kernel
theorem dX3_init_47 : decode cX3_init 47 = .ok (.iconst 4, 1) := by decide +kernel
theorem dX3_init_48 : decode cX3_init 48 = .ok (.iastore, 1) := by decide +kernel
theorem dX3_init_49 : decode cX3_init 49 = .ok (.dup, 1) := by decide +kernel
theorem dX3_init_50 : decode cX3_init 50 = .ok (.iconst 4, 1) := by decide +kernel
theorem dX3_init_51 : decode cX3_init 51 = .ok (.iconst 4, 1) := by decide +kernel
theorem dX3_init_52 : decode cX3_init 52 = .ok (.iastore, 1) := by decide +kernel
theorem dX3_init_53 : decode cX3_init 53 = .ok (.dup, 1) := by decide +kernel
theorem dX3_init_54 : decode cX3_init 54 = .ok (.iconst 5, 1) := by decide +kernel
theorem dX3_init_55 : decode cX3_init 55 = .ok (.iconst 4, 1) := by decide +kernel
theorem dX3_init_56 : decode cX3_init 56 = .ok (.iastore, 1) := by decide +kernel
theorem dX3_init_57 : decode cX3_init 57 = .ok (.dup, 1) := by decide +kernel
theorem dX3_init_58 : decode cX3_init 58 = .ok (.bipush 6, 2) := by decide +kernel
theorem dX3_init_60 : decode cX3_init 60 = .ok (.iconst 4, 1) := by decide +kernel
theorem dX3_init_61 : decode cX3_init 61 = .ok (.iastore, 1) := by decide +kernel
theorem dX3_init_62 : decode cX3_init 62 = .ok (.dup, 1) := by decide +kernel
theorem dX3_init_63 : decode cX3_init 63 = .ok (.bipush 7, 2) := by decide +kernel
theorem dX3_init_65 : decode cX3_init 65 = .ok (.iconst 4, 1) := by decide +kernel
theorem dX3_init_66 : decode cX3_init 66 = .ok (.iastore, 1) := by decide +kernel
theorem dX3_init_67 : decode cX3_init 67 = .ok (.dup, 1) := by decide +kernel
theorem dX3_init_68 : decode cX3_init 68 = .ok (.bipush 8, 2) := by decide +kernel
theorem dX3_init_70 : decode cX3_init 70 = .ok (.iconst 4, 1) := by decide +kernel
theorem dX3_init_71 : decode cX3_init 71 = .ok (.iastore, 1) := by decide +kernel
theorem dX3_init_72 : decode cX3_init 72 = .ok (.dup, 1) := by decide +kernel
theorem dX3_init_73 : decode cX3_init 73 = .ok (.bipush 9, 2) := by decide +kernel
theorem dX3_init_75 : decode cX3_init 75 = .ok (.iconst 4, 1) := by decide +kernel
theorem dX3_init_76 : decode cX3_init 76 = .ok (.iastore, 1) := by decide +kernel
theorem dX3_init_77 : decode cX3_init 77 = .ok (.dup, 1) := by decide +kernel
theorem dX3_init_78 : decode cX3_init 78 = .ok (.bipush 10, 2) := by decide +kernel
theorem dX3_init_80 : decode cX3_init 80 = .ok (.iconst 4, 1) := by decide +kernel
theorem dX3_init_81 : decode cX3_init 81 = .ok (.iastore, 1) := by decide +kernel
theorem dX3_init_82 : decode cX3_init 82 = .ok (.dup, 1) := by decide +kernel
theorem dX3_init_83 : decode cX3_init 83 = .ok (.bipush 11, 2) := by decide +kernel
theorem dX3_init_85 : decode cX3_init 85 = .ok (.iconst 4, 1) := by decide +kernel
theorem dX3_init_86 : decode cX3_init 86 = .ok (.iastore, 1) := by decide +kernel
theorem dX3_init_87 : decode cX3_init 87 = .ok (.putfield 19, 3) := by decide +kernel
theorem dX3_init_90 : decode cX3_init 90 = .ok (.aload_n 0, 1) := by decide +kernel
theorem dX3_init_91 : decode cX3_init 91 = .ok (.bipush 12, 2) := by decide +kernel
theorem dX3_init_93 : decode cX3_init 93 = .ok (.newarray .int, 2) := by decide +kernel
theorem dX3_init_95 : decode cX3_init 95 = .ok (.putfield 22, 3) := by decide +kernel
theorem dX3_init_98 : decode cX3_init 98 = .ok (.aload_n 0, 1) := by decide +kernel
theorem dX3_init_99 : decode cX3_init 99 = .ok (.iconst 3, 1) := by decide +kernel
theorem dX3_init_100 : decode cX3_init 100 = .ok (.newarray .int, 2) := by decide +kernel
theorem dX3_init_102 : decode cX3_init 102 = .ok (.putfield 25, 3) := by decide +kernel
theorem dX3_init_105 : decode cX3_init 105 = .ok (.aload_n 0, 1) := by decide +kernel
theorem dX3_init_106 : decode cX3_init 106 = .ok (.new 28, 3) := by decide +kernel
theorem dX3_init_109 : decode cX3_init 109 = .ok (.dup, 1) := by decide +kernel
theorem dX3_init_110 : decode cX3_init 110 = .ok (.aload_n 0, 1) := by decide +kernel
theorem dX3_init_111 : decode cX3_init 111 = .ok (.invokespecial 30, 3) := by decide +kernel
theorem dX3_init_114 : decode cX3_init 114 = .ok (.putfield 33, 3) := by decide +kernel
theorem dX3_init_117 : decode cX3_init 117 = .ok (.aload_n 0, 1) := by decide +kernel
theorem dX3_init_118 : decode cX3_init 118 = .ok (.new 28, 3) := by decide +kernel
theorem dX3_init_121 : decode cX3_init 121 = .ok (.dup, 1) := by decide +kernel
theorem dX3_init_122 : decode cX3_init 122 = .ok (.aload_n 0, 1) := by decide +kernel
theorem dX3_init_123 : decode cX3_init 123 = .ok (.invokespecial 30, 3) := by decide +kernel
theorem dX3_init_126 : decode cX3_init 126 = .ok (.putfield 37, 3) := by decide +kernel
theorem dX3_init_129 : decode cX3_init 129 = .ok (.return_, 1) := by decide +kernel
theorem dX3_isIn_0 : decode cX3_isIn 0 = .ok (.iload_n 0, 1) := by decide +kernel
theorem dX3_isIn_1 : decode cX3_isIn 1 = .ok (.iload_n 1, 1) := by decide +kernel
theorem dX3_isIn_2 : decode cX3_isIn 2 = .ok (.if_icmp .lt 12, 3) := by decide +kernel
theorem dX3_isIn_5 : decode cX3_isIn 5 = .ok (.iload_n 0, 1) := by decide +kernel
theorem dX3_isIn_6 : decode cX3_isIn 6 = .ok (.iload_n 2, 1) := by decide +kernel
theorem dX3_isIn_7 : decode cX3_isIn 7 = .ok (.if_icmp .gt 7, 3) := by decide +kernel
theorem dX3_isIn_10 : decode cX3_isIn 10 = .ok (.iconst 1, 1) := by decide +kernel
theorem dX3_isIn_11 : decode cX3_isIn 11 = .ok (.goto 4, 3) := by decide +kernel
theorem dX3_isIn_15 : decode cX3_isIn 15 = .ok (.ireturn, 1) := by decide +kernel
theorem dX3_cell_0 : decode cX3_cell 0 = .ok (.bipush 60, 2) := by decide +kernel
theorem dX3_cell_2 : decode cX3_cell 2 = .ok (.iload_n 0, 1) := by decide +kernel
theorem dX3_cell_3 : decode cX3_cell 3 = .ok (.imul, 1) := by decide +kernel
theorem dX3_cell_4 : decode cX3_cell 4 = .ok (.bipush 10, 2) := by decide +kernel
theorem dX3_cell_6 : decode cX3_cell 6 = .ok (.iload_n 1, 1) := by decide +kernel
theorem dX3_cell_7 : decode cX3_cell 7 = .ok (.imul, 1) := by decide +kernel
theorem dX3_cell_8 : decode cX3_cell 8 = .ok (.iadd, 1) := by decide +kernel
theorem dX3_cell_9 : decode cX3_cell 9 = .ok (.iload_n 2, 1) := by decide +kernel
theorem dX3_cell_10 : decode cX3_cell 10 = .ok (.iadd, 1) := by decide +kernel
theorem dX3_cell_11 : decode cX3_cell 11 = .ok (.ireturn, 1) := by decide +kernel
set_option maxRecDepth 20000 in
theorem ggX3_build_X3_isIn : GoodIn wsX3_build wsX3_isIn := goodIn_r _ [10] (by decide +kernel) (by decide +kernel)
set_option maxRecDepth 20000 in
theorem gX3_build_X3_isIn : GoodIn wsX3_build (va_wsS RX3 47 yX3_isIn wsX3_isIn) := goodIn_app (goodIn_of _ (by decide +kernel)) ggX3_build_X3_isIn
theorem dX3_build_0 : decode cX3_build 0 = .ok (.aload_n 0, 1) := by decide +kernel
theorem dX3_build_1 : decode cX3_build 1 = .ok (.iconst 0, 1) := by decide +kernel
theorem dX3_build_2 : decode cX3_build 2 = .ok (.putfield 40, 3) := by decide +kernel
theorem dX3_build_5 : decode cX3_build 5 = .ok (.iload_n 1, 1) := by decide +kernel
theorem dX3_build_6 : decode cX3_build 6 = .ok (.iconst 2, 1) := by decide +kernel
theorem dX3_build_7 : decode cX3_build 7 = .ok (.bipush 10, 2) := by decide +kernel
theorem dX3_build_9 : decode cX3_build 9 = .ok (.invokestatic 47, 3) := by decide +kernel
theorem dX3_build_12 : decode cX3_build 12 = .ok (.ifCond .eq 24, 3) := by decide +kernel
theorem dX3_build_15 : decode cX3_build 15 = .ok (.iload_n 2, 1) := by decide +kernel
theorem dX3_build_16 : decode cX3_build 16 = .ok (.iconst 2, 1) := by decide +kernel
theorem dX3_build_17 : decode cX3_build 17 = .ok (.bipush 6, 2) := by decide +kernel
theorem dX3_build_19 : decode cX3_build 19 = .ok (.invokestatic 47, 3) := by decide +kernel
theorem dX3_build_22 : decode cX3_build 22 = .ok (.ifCond .eq 14, 3) := by decide +kernel
theorem dX3_build_25 : decode cX3_build 25 = .ok (.iload_n 3, 1) := by decide +kernel
theorem dX3_build_26 : decode cX3_build 26 = .ok (.bipush 30, 2) := by decide +kernel
theorem dX3_build_28 : decode cX3_build 28 = .ok (.bipush 60, 2) := by decide +kernel
theorem dX3_build_30 : decode cX3_build 30 = .ok (.invokestatic 47, 3) := by decide +kernel
theorem dX3_build_33 : decode cX3_build 33 = .ok (.ifCond .ne 9, 3) := by decide +kernel
theorem dX3_build_42 : decode cX3_build 42 = .ok (.aload_n 0, 1) := by decide +kernel
theorem dX3_build_43 : decode cX3_build 43 = .ok (.getfield 44, 3) := by decide +kernel
theorem dX3_build_46 : decode cX3_build 46 = .ok (.bipush 6, 2) := by decide +kernel
theorem dX3_build_48 : decode cX3_build 48 = .ok (.if_icmp .ne 9, 3) := by decide +kernel
theorem dX3_build_57 : decode cX3_build 57 = .ok (.aload_n 0, 1) := by decide +kernel
theorem dX3_build_58 : decode cX3_build 58 = .ok (.getfield 9, 3) := by decide +kernel
theorem dX3_build_61 : decode cX3_build 61 = .ok (.aload_n 0, 1) := by decide +kernel
theorem dX3_build_62 : decode cX3_build 62 = .ok (.getfield 44, 3) := by decide +kernel
theorem dX3_build_65 : decode cX3_build 65 = .ok (.iload_n 1, 1) := by decide +kernel
theorem dX3_build_66 : decode cX3_build 66 = .ok (.iastore, 1) := by decide +kernel
theorem dX3_build_67 : decode cX3_build 67 = .ok (.aload_n 0, 1) := by decide +kernel
theorem dX3_build_68 : decode cX3_build 68 = .ok (.getfield 13, 3) := by decide +kernel
theorem dX3_build_71 : decode cX3_build 71 = .ok (.aload_n 0, 1) := by decide +kernel
theorem dX3_build_72 : decode cX3_build 72 = .ok (.getfield 44, 3) := by decide +kernel
theorem dX3_build_75 : decode cX3_build 75 = .ok (.iload_n 2, 1) := by decide +kernel
theorem dX3_build_76 : decode cX3_build 76 = .ok (.iastore, 1) := by decide +kernel
theorem dX3_build_77 : decode cX3_build 77 = .ok (.aload_n 0, 1) := by decide +kernel
theorem dX3_build_78 : decode cX3_build 78 = .ok (.getfield 16, 3) := by decide +kernel
theorem dX3_build_81 : decode cX3_build 81 = .ok (.aload_n 0, 1) := by decide +kernel
theorem dX3_build_82 : decode cX3_build 82 = .ok (.getfield 44, 3) := by decide +kernel
theorem dX3_build_85 : decode cX3_build 85 = .ok (.iload_n 3, 1) := by decide +kernel
theorem dX3_build_86 : decode cX3_build 86 = .ok (.iastore, 1) := by decide +kernel
theorem dX3_build_87 : decode cX3_build 87 = .ok (.aload_n 0, 1) := by decide +kernel
theorem dX3_build_88 : decode cX3_build 88 = .ok (.getfield 33, 3) := by decide +kernel
theorem dX3_build_91 : decode cX3_build 91 = .ok (.getfield 63, 3) := by decide +kernel
theorem dX3_build_94 : decode cX3_build 94 = .ok (.aload_n 0, 1) := by decide +kernel
theorem dX3_build_95 : decode cX3_build 95 = .ok (.getfield 44, 3) := by decide +kernel
theorem dX3_build_98 : decode cX3_build 98 = .ok (.bipush 100, 2) := by decide +kernel
theorem dX3_build_100 : decode cX3_build 100 = .ok (.iastore, 1) := by decide +kernel
theorem dX3_build_101 : decode cX3_build 101 = .ok (.aload_n 0, 1) := by decide +kernel
theorem dX3_build_102 : decode cX3_build 102 = .ok (.dup, 1) := by decide +kernel
theorem dX3_build_103 : decode cX3_build 103 = .ok (.getfield 44, 3) := by decide +kernel
theorem dX3_build_106 : decode cX3_build 106 = .ok (.iconst 1, 1) := by decide +kernel
theorem dX3_build_107 : decode cX3_build 107 = .ok (.iadd, 1) := by decide +kernel
theorem dX3_build_108 : decode cX3_build 108 = .ok (.putfield 44, 3) := by decide +kernel
theorem dX3_build_111 : decode cX3_build 111 = .ok (.aload_n 0, 1) := by decide +kernel
theorem dX3_build_112 : decode cX3_build 112 = .ok (.getfield 44, 3) := by decide +kernel
theorem dX3_build_115 : decode cX3_build 115 = .ok (.iconst 1, 1) := by decide +kernel
theorem dX3_build_116 : decode cX3_build 116 = .ok (.isub, 1) := by decide +kernel
theorem dX3_build_117 : decode cX3_build 117 = .ok (.ireturn, 1) := by decide +kernel
set_option maxRecDepth 20000 in
theorem ggX3_yealmTold_X3_cell : GoodIn wsX3_yealmTold wsX3_cell := goodIn_r _ [6] (by decide +kernel) (by decide +kernel)
set_option maxRecDepth 20000 in
theorem gX3_yealmTold_X3_cell : GoodIn wsX3_yealmTold (va_wsS RX3 78 yX3_cell wsX3_cell) := goodIn_app (goodIn_of _ (by decide +kernel)) ggX3_yealmTold_X3_cell
set_option maxRecDepth 20000 in
theorem ggX3_yealmTold_X2_isBare : GoodIn wsX3_yealmTold wsX2_isBare := goodIn_r _ [11, 12, 13, 14, 15, 10, 16, 17, 4, 5, 6, 28, 29, 30, 31, 32, 33, 34, 35, 36, 37, 18, 19, 20, 21, 22, 23, 24, 25, 26, 27] (by decide +kernel) (by decide +kernel)
set_option maxRecDepth 20000 in
theorem gX3_yealmTold_X2_isBare : GoodIn wsX3_yealmTold (wsV RX3 102 RX2 yX2_isBare wsX2_isBare) := goodIn_app (goodIn_of _ (by decide +kernel)) ggX3_yealmTold_X2_isBare
theorem dX3_yealmTold_0 : decode cX3_yealmTold 0 = .ok (.iload_n 1, 1) := by decide +kernel
theorem dX3_yealmTold_1 : decode cX3_yealmTold 1 = .ok (.iload_n 2, 1) := by decide +kernel
theorem dX3_yealmTold_2 : decode cX3_yealmTold 2 = .ok (.iload_n 3, 1) := by decide +kernel
theorem dX3_yealmTold_3 : decode cX3_yealmTold 3 = .ok (.invokestatic 78, 3) := by decide +kernel
theorem dX3_yealmTold_6 : decode cX3_yealmTold 6 = .ok (.istore 5, 2) := by decide +kernel
theorem dX3_yealmTold_8 : decode cX3_yealmTold 8 = .ok (.bipush 6, 2) := by decide +kernel
theorem dX3_yealmTold_10 : decode cX3_yealmTold 10 = .ok (.newarray .int, 2) := by decide +kernel
theorem dX3_yealmTold_12 : decode cX3_yealmTold 12 = .ok (.dup, 1) := by decide +kernel
theorem dX3_yealmTold_13 : decode cX3_yealmTold 13 = .ok (.iconst 0, 1) := by decide +kernel
theorem dX3_yealmTold_14 : decode cX3_yealmTold 14 = .ok (.aload_n 0, 1) := by decide +kernel
theorem dX3_yealmTold_15 : decode cX3_yealmTold 15 = .ok (.getfield 33, 3) := by decide +kernel
theorem dX3_yealmTold_18 : decode cX3_yealmTold 18 = .ok (.getfield 86, 3) := by decide +kernel
theorem dX3_yealmTold_21 : decode cX3_yealmTold 21 = .ok (.iload 5, 2) := by decide +kernel
theorem dX3_yealmTold_23 : decode cX3_yealmTold 23 = .ok (.iaload, 1) := by decide +kernel
theorem dX3_yealmTold_24 : decode cX3_yealmTold 24 = .ok (.iconst (-1), 1) := by decide +kernel
theorem dX3_yealmTold_25 : decode cX3_yealmTold 25 = .ok (.if_icmp .ne 7, 3) := by decide +kernel
theorem dX3_yealmTold_28 : decode cX3_yealmTold 28 = .ok (.iconst 0, 1) := by decide +kernel
theorem dX3_yealmTold_29 : decode cX3_yealmTold 29 = .ok (.goto 4, 3) := by decide +kernel
theorem dX3_yealmTold_33 : decode cX3_yealmTold 33 = .ok (.iastore, 1) := by decide +kernel
theorem dX3_yealmTold_34 : decode cX3_yealmTold 34 = .ok (.dup, 1) := by decide +kernel
theorem dX3_yealmTold_35 : decode cX3_yealmTold 35 = .ok (.iconst 1, 1) := by decide +kernel
theorem dX3_yealmTold_36 : decode cX3_yealmTold 36 = .ok (.aload_n 0, 1) := by decide +kernel
theorem dX3_yealmTold_37 : decode cX3_yealmTold 37 = .ok (.getfield 33, 3) := by decide +kernel
theorem dX3_yealmTold_40 : decode cX3_yealmTold 40 = .ok (.getfield 86, 3) := by decide +kernel
theorem dX3_yealmTold_43 : decode cX3_yealmTold 43 = .ok (.iload 5, 2) := by decide +kernel
theorem dX3_yealmTold_45 : decode cX3_yealmTold 45 = .ok (.iaload, 1) := by decide +kernel
theorem dX3_yealmTold_46 : decode cX3_yealmTold 46 = .ok (.iastore, 1) := by decide +kernel
theorem dX3_yealmTold_47 : decode cX3_yealmTold 47 = .ok (.dup, 1) := by decide +kernel
theorem dX3_yealmTold_48 : decode cX3_yealmTold 48 = .ok (.iconst 2, 1) := by decide +kernel
theorem dX3_yealmTold_49 : decode cX3_yealmTold 49 = .ok (.aload_n 0, 1) := by decide +kernel
theorem dX3_yealmTold_50 : decode cX3_yealmTold 50 = .ok (.getfield 33, 3) := by decide +kernel
theorem dX3_yealmTold_53 : decode cX3_yealmTold 53 = .ok (.getfield 93, 3) := by decide +kernel
theorem dX3_yealmTold_56 : decode cX3_yealmTold 56 = .ok (.iload 5, 2) := by decide +kernel
theorem dX3_yealmTold_58 : decode cX3_yealmTold 58 = .ok (.iaload, 1) := by decide +kernel
theorem dX3_yealmTold_59 : decode cX3_yealmTold 59 = .ok (.iastore, 1) := by decide +kernel
theorem dX3_yealmTold_60 : decode cX3_yealmTold 60 = .ok (.dup, 1) := by decide +kernel
theorem dX3_yealmTold_61 : decode cX3_yealmTold 61 = .ok (.iconst 3, 1) := by decide +kernel
theorem dX3_yealmTold_62 : decode cX3_yealmTold 62 = .ok (.aload_n 0, 1) := by decide +kernel
theorem dX3_yealmTold_63 : decode cX3_yealmTold 63 = .ok (.getfield 33, 3) := by decide +kernel
theorem dX3_yealmTold_66 : decode cX3_yealmTold 66 = .ok (.getfield 96, 3) := by decide +kernel
theorem dX3_yealmTold_69 : decode cX3_yealmTold 69 = .ok (.iload 5, 2) := by decide +kernel
theorem dX3_yealmTold_71 : decode cX3_yealmTold 71 = .ok (.iaload, 1) := by decide +kernel
theorem dX3_yealmTold_72 : decode cX3_yealmTold 72 = .ok (.iastore, 1) := by decide +kernel
theorem dX3_yealmTold_73 : decode cX3_yealmTold 73 = .ok (.dup, 1) := by decide +kernel
theorem dX3_yealmTold_74 : decode cX3_yealmTold 74 = .ok (.iconst 4, 1) := by decide +kernel
theorem dX3_yealmTold_75 : decode cX3_yealmTold 75 = .ok (.aload_n 0, 1) := by decide +kernel
theorem dX3_yealmTold_76 : decode cX3_yealmTold 76 = .ok (.getfield 33, 3) := by decide +kernel
theorem dX3_yealmTold_79 : decode cX3_yealmTold 79 = .ok (.getfield 99, 3) := by decide +kernel
theorem dX3_yealmTold_82 : decode cX3_yealmTold 82 = .ok (.iload 5, 2) := by decide +kernel
theorem dX3_yealmTold_84 : decode cX3_yealmTold 84 = .ok (.iaload, 1) := by decide +kernel
theorem dX3_yealmTold_85 : decode cX3_yealmTold 85 = .ok (.iastore, 1) := by decide +kernel
theorem dX3_yealmTold_86 : decode cX3_yealmTold 86 = .ok (.dup, 1) := by decide +kernel
theorem dX3_yealmTold_87 : decode cX3_yealmTold 87 = .ok (.iconst 5, 1) := by decide +kernel
theorem dX3_yealmTold_88 : decode cX3_yealmTold 88 = .ok (.aload_n 0, 1) := by decide +kernel
theorem dX3_yealmTold_89 : decode cX3_yealmTold 89 = .ok (.getfield 33, 3) := by decide +kernel
theorem dX3_yealmTold_92 : decode cX3_yealmTold 92 = .ok (.iload_n 1, 1) := by decide +kernel
theorem dX3_yealmTold_93 : decode cX3_yealmTold 93 = .ok (.iload_n 2, 1) := by decide +kernel
theorem dX3_yealmTold_94 : decode cX3_yealmTold 94 = .ok (.iload_n 3, 1) := by decide +kernel
theorem dX3_yealmTold_95 : decode cX3_yealmTold 95 = .ok (.invokevirtual 102, 3) := by decide +kernel
theorem dX3_yealmTold_98 : decode cX3_yealmTold 98 = .ok (.ifCond .eq 7, 3) := by decide +kernel
theorem dX3_yealmTold_105 : decode cX3_yealmTold 105 = .ok (.iconst 0, 1) := by decide +kernel
theorem dX3_yealmTold_106 : decode cX3_yealmTold 106 = .ok (.iastore, 1) := by decide +kernel
theorem dX3_yealmTold_107 : decode cX3_yealmTold 107 = .ok (.astore 6, 2) := by decide +kernel
theorem dX3_yealmTold_109 : decode cX3_yealmTold 109 = .ok (.aload 6, 2) := by decide +kernel
theorem dX3_yealmTold_111 : decode cX3_yealmTold 111 = .ok (.iload 4, 2) := by decide +kernel
theorem dX3_yealmTold_113 : decode cX3_yealmTold 113 = .ok (.iaload, 1) := by decide +kernel
theorem dX3_yealmTold_114 : decode cX3_yealmTold 114 = .ok (.ireturn, 1) := by decide +kernel
set_option maxRecDepth 20000 in
theorem ggX3_roofTold_X2_yealms : GoodIn wsX3_roofTold wsX2_yealms := goodIn_r _ [10, 11, 39, 40, 41, 42, 43, 44, 45, 46, 47, 48] (by decide +kernel) (by decide +kernel)
set_option maxRecDepth 20000 in
theorem gX3_roofTold_X2_yealms : GoodIn wsX3_roofTold (wsV RX3 109 RX2 yX2_yealms wsX2_yealms) := goodIn_app (goodIn_of _ (by decide +kernel)) ggX3_roofTold_X2_yealms
set_option maxRecDepth 20000 in
theorem ggX3_roofTold_X2_thickness : GoodIn wsX3_roofTold wsX2_thickness := goodIn_r _ [15, 16, 39, 40, 41, 42, 43, 44, 45, 46, 47, 48] (by decide +kernel) (by decide +kernel)
set_option maxRecDepth 20000 in
theorem gX3_roofTold_X2_thickness : GoodIn wsX3_roofTold (wsV RX3 112 RX2 yX2_thickness wsX2_thickness) := goodIn_app (goodIn_of _ (by decide +kernel)) ggX3_roofTold_X2_thickness
set_option maxRecDepth 20000 in
theorem ggX3_roofTold_X2_leaks : GoodIn wsX3_roofTold wsX2_leaks := goodIn_r _ [20, 21, 16, 22, 23, 24, 25, 26, 27, 9, 28, 11, 39, 40, 41, 42, 43, 44, 45, 46, 47, 48, 29, 30, 31, 32, 33, 34, 35, 36, 37, 38] (by decide +kernel) (by decide +kernel)
set_option maxRecDepth 20000 in
theorem gX3_roofTold_X2_leaks : GoodIn wsX3_roofTold (wsV RX3 115 RX2 yX2_leaks wsX2_leaks) := goodIn_app (goodIn_of _ (by decide +kernel)) ggX3_roofTold_X2_leaks
theorem dX3_roofTold_0 : decode cX3_roofTold 0 = .ok (.bipush 9, 2) := by decide +kernel
theorem dX3_roofTold_2 : decode cX3_roofTold 2 = .ok (.newarray .int, 2) := by decide +kernel
theorem dX3_roofTold_4 : decode cX3_roofTold 4 = .ok (.dup, 1) := by decide +kernel
theorem dX3_roofTold_5 : decode cX3_roofTold 5 = .ok (.iconst 0, 1) := by decide +kernel
theorem dX3_roofTold_6 : decode cX3_roofTold 6 = .ok (.aload_n 0, 1) := by decide +kernel
theorem dX3_roofTold_7 : decode cX3_roofTold 7 = .ok (.getfield 9, 3) := by decide +kernel
theorem dX3_roofTold_10 : decode cX3_roofTold 10 = .ok (.iload_n 1, 1) := by decide +kernel
theorem dX3_roofTold_11 : decode cX3_roofTold 11 = .ok (.iaload, 1) := by decide +kernel
theorem dX3_roofTold_12 : decode cX3_roofTold 12 = .ok (.iastore, 1) := by decide +kernel
theorem dX3_roofTold_13 : decode cX3_roofTold 13 = .ok (.dup, 1) := by decide +kernel
theorem dX3_roofTold_14 : decode cX3_roofTold 14 = .ok (.iconst 1, 1) := by decide +kernel
theorem dX3_roofTold_15 : decode cX3_roofTold 15 = .ok (.aload_n 0, 1) := by decide +kernel
theorem dX3_roofTold_16 : decode cX3_roofTold 16 = .ok (.getfield 13, 3) := by decide +kernel
theorem dX3_roofTold_19 : decode cX3_roofTold 19 = .ok (.iload_n 1, 1) := by decide +kernel
theorem dX3_roofTold_20 : decode cX3_roofTold 20 = .ok (.iaload, 1) := by decide +kernel
theorem dX3_roofTold_21 : decode cX3_roofTold 21 = .ok (.iastore, 1) := by decide +kernel
theorem dX3_roofTold_22 : decode cX3_roofTold 22 = .ok (.dup, 1) := by decide +kernel
theorem dX3_roofTold_23 : decode cX3_roofTold 23 = .ok (.iconst 2, 1) := by decide +kernel
theorem dX3_roofTold_24 : decode cX3_roofTold 24 = .ok (.aload_n 0, 1) := by decide +kernel
theorem dX3_roofTold_25 : decode cX3_roofTold 25 = .ok (.getfield 16, 3) := by decide +kernel
theorem dX3_roofTold_28 : decode cX3_roofTold 28 = .ok (.iload_n 1, 1) := by decide +kernel
theorem dX3_roofTold_29 : decode cX3_roofTold 29 = .ok (.iaload, 1) := by decide +kernel
theorem dX3_roofTold_30 : decode cX3_roofTold 30 = .ok (.iastore, 1) := by decide +kernel
theorem dX3_roofTold_31 : decode cX3_roofTold 31 = .ok (.dup, 1) := by decide +kernel
theorem dX3_roofTold_32 : decode cX3_roofTold 32 = .ok (.iconst 3, 1) := by decide +kernel
theorem dX3_roofTold_33 : decode cX3_roofTold 33 = .ok (.aload_n 0, 1) := by decide +kernel
theorem dX3_roofTold_34 : decode cX3_roofTold 34 = .ok (.getfield 33, 3) := by decide +kernel
theorem dX3_roofTold_37 : decode cX3_roofTold 37 = .ok (.getfield 63, 3) := by decide +kernel
theorem dX3_roofTold_40 : decode cX3_roofTold 40 = .ok (.iload_n 1, 1) := by decide +kernel
theorem dX3_roofTold_41 : decode cX3_roofTold 41 = .ok (.iaload, 1) := by decide +kernel
theorem dX3_roofTold_42 : decode cX3_roofTold 42 = .ok (.iastore, 1) := by decide +kernel
theorem dX3_roofTold_43 : decode cX3_roofTold 43 = .ok (.dup, 1) := by decide +kernel
theorem dX3_roofTold_44 : decode cX3_roofTold 44 = .ok (.iconst 4, 1) := by decide +kernel
theorem dX3_roofTold_45 : decode cX3_roofTold 45 = .ok (.aload_n 0, 1) := by decide +kernel
theorem dX3_roofTold_46 : decode cX3_roofTold 46 = .ok (.getfield 33, 3) := by decide +kernel
theorem dX3_roofTold_49 : decode cX3_roofTold 49 = .ok (.iload_n 1, 1) := by decide +kernel
theorem dX3_roofTold_50 : decode cX3_roofTold 50 = .ok (.invokevirtual 109, 3) := by decide +kernel
theorem dX3_roofTold_53 : decode cX3_roofTold 53 = .ok (.iastore, 1) := by decide +kernel
theorem dX3_roofTold_54 : decode cX3_roofTold 54 = .ok (.dup, 1) := by decide +kernel
theorem dX3_roofTold_55 : decode cX3_roofTold 55 = .ok (.iconst 5, 1) := by decide +kernel
theorem dX3_roofTold_56 : decode cX3_roofTold 56 = .ok (.aload_n 0, 1) := by decide +kernel
theorem dX3_roofTold_57 : decode cX3_roofTold 57 = .ok (.getfield 33, 3) := by decide +kernel
theorem dX3_roofTold_60 : decode cX3_roofTold 60 = .ok (.iload_n 1, 1) := by decide +kernel
theorem dX3_roofTold_61 : decode cX3_roofTold 61 = .ok (.invokevirtual 112, 3) := by decide +kernel
theorem dX3_roofTold_64 : decode cX3_roofTold 64 = .ok (.iastore, 1) := by decide +kernel
theorem dX3_roofTold_65 : decode cX3_roofTold 65 = .ok (.dup, 1) := by decide +kernel
theorem dX3_roofTold_66 : decode cX3_roofTold 66 = .ok (.bipush 6, 2) := by decide +kernel
theorem dX3_roofTold_68 : decode cX3_roofTold 68 = .ok (.aload_n 0, 1) := by decide +kernel
theorem dX3_roofTold_69 : decode cX3_roofTold 69 = .ok (.getfield 33, 3) := by decide +kernel
theorem dX3_roofTold_72 : decode cX3_roofTold 72 = .ok (.iload_n 1, 1) := by decide +kernel
theorem dX3_roofTold_73 : decode cX3_roofTold 73 = .ok (.invokevirtual 115, 3) := by decide +kernel
theorem dX3_roofTold_76 : decode cX3_roofTold 76 = .ok (.iastore, 1) := by decide +kernel
theorem dX3_roofTold_77 : decode cX3_roofTold 77 = .ok (.dup, 1) := by decide +kernel
theorem dX3_roofTold_78 : decode cX3_roofTold 78 = .ok (.bipush 7, 2) := by decide +kernel
theorem dX3_roofTold_80 : decode cX3_roofTold 80 = .ok (.aload_n 0, 1) := by decide +kernel
theorem dX3_roofTold_81 : decode cX3_roofTold 81 = .ok (.getfield 33, 3) := by decide +kernel
theorem dX3_roofTold_84 : decode cX3_roofTold 84 = .ok (.getfield 118, 3) := by decide +kernel
theorem dX3_roofTold_87 : decode cX3_roofTold 87 = .ok (.iload_n 1, 1) := by decide +kernel
theorem dX3_roofTold_88 : decode cX3_roofTold 88 = .ok (.iaload, 1) := by decide +kernel
theorem dX3_roofTold_89 : decode cX3_roofTold 89 = .ok (.iastore, 1) := by decide +kernel
theorem dX3_roofTold_90 : decode cX3_roofTold 90 = .ok (.dup, 1) := by decide +kernel
theorem dX3_roofTold_91 : decode cX3_roofTold 91 = .ok (.bipush 8, 2) := by decide +kernel
theorem dX3_roofTold_93 : decode cX3_roofTold 93 = .ok (.aload_n 0, 1) := by decide +kernel
theorem dX3_roofTold_94 : decode cX3_roofTold 94 = .ok (.getfield 33, 3) := by decide +kernel
theorem dX3_roofTold_97 : decode cX3_roofTold 97 = .ok (.getfield 121, 3) := by decide +kernel
theorem dX3_roofTold_100 : decode cX3_roofTold 100 = .ok (.iload_n 1, 1) := by decide +kernel
theorem dX3_roofTold_101 : decode cX3_roofTold 101 = .ok (.iaload, 1) := by decide +kernel
theorem dX3_roofTold_102 : decode cX3_roofTold 102 = .ok (.iastore, 1) := by decide +kernel
theorem dX3_roofTold_103 : decode cX3_roofTold 103 = .ok (.astore_n 3, 1) := by decide +kernel
theorem dX3_roofTold_104 : decode cX3_roofTold 104 = .ok (.aload_n 3, 1) := by decide +kernel
theorem dX3_roofTold_105 : decode cX3_roofTold 105 = .ok (.iload_n 2, 1) := by decide +kernel
theorem dX3_roofTold_106 : decode cX3_roofTold 106 = .ok (.iaload, 1) := by decide +kernel
theorem dX3_roofTold_107 : decode cX3_roofTold 107 = .ok (.ireturn, 1) := by decide +kernel
end

section
set_option maxRecDepth 20000 in
theorem ggX3_counted_X2_yealms : GoodIn wsX3_counted wsX2_yealms := goodIn_r _ [11, 12, 36, 37, 38, 39, 40, 41, 42, 43, 44, 45] (by decide +kernel) (by decide +kernel)
set_option maxRecDepth 20000 in
theorem gX3_counted_X2_yealms : GoodIn wsX3_counted (wsV RX3 109 RX2 yX2_yealms wsX2_yealms) := goodIn_app (goodIn_of _ (by decide +kernel)) ggX3_counted_X2_yealms
set_option maxRecDepth 20000 in
theorem ggX3_counted_X2_leaks : GoodIn wsX3_counted wsX2_leaks := goodIn_r _ [16, 17, 18, 19, 20, 21, 22, 23, 24, 10, 25, 12, 36, 37, 38, 39, 40, 41, 42, 43, 44, 45, 26, 27, 28, 29, 30, 31, 32, 33, 34, 35] (by decide +kernel) (by decide +kernel)
set_option maxRecDepth 20000 in
theorem gX3_counted_X2_leaks : GoodIn wsX3_counted (wsV RX3 115 RX2 yX2_leaks wsX2_leaks) := goodIn_app (goodIn_of _ (by decide +kernel)) ggX3_counted_X2_leaks
theorem dX3_counted_0 : decode cX3_counted 0 = .ok (.iconst 0, 1) := by decide +kernel
theorem dX3_counted_1 : decode cX3_counted 1 = .ok (.istore_n 2, 1) := by decide +kernel
theorem dX3_counted_2 : decode cX3_counted 2 = .ok (.iconst 0, 1) := by decide +kernel
theorem dX3_counted_3 : decode cX3_counted 3 = .ok (.istore_n 3, 1) := by decide +kernel
theorem dX3_counted_4 : decode cX3_counted 4 = .ok (.iconst 0, 1) := by decide +kernel
theorem dX3_counted_5 : decode cX3_counted 5 = .ok (.istore 4, 2) := by decide +kernel
theorem dX3_counted_7 : decode cX3_counted 7 = .ok (.iload 4, 2) := by decide +kernel
theorem dX3_counted_9 : decode cX3_counted 9 = .ok (.aload_n 0, 1) := by decide +kernel
theorem dX3_counted_10 : decode cX3_counted 10 = .ok (.getfield 44, 3) := by decide +kernel
theorem dX3_counted_13 : decode cX3_counted 13 = .ok (.if_icmp .ge 33, 3) := by decide +kernel
theorem dX3_counted_16 : decode cX3_counted 16 = .ok (.iload_n 2, 1) := by decide +kernel
theorem dX3_counted_17 : decode cX3_counted 17 = .ok (.aload_n 0, 1) := by decide +kernel
theorem dX3_counted_18 : decode cX3_counted 18 = .ok (.getfield 33, 3) := by decide +kernel
theorem dX3_counted_21 : decode cX3_counted 21 = .ok (.iload 4, 2) := by decide +kernel
theorem dX3_counted_23 : decode cX3_counted 23 = .ok (.invokevirtual 109, 3) := by decide +kernel
theorem dX3_counted_26 : decode cX3_counted 26 = .ok (.iadd, 1) := by decide +kernel
theorem dX3_counted_27 : decode cX3_counted 27 = .ok (.istore_n 2, 1) := by decide +kernel
theorem dX3_counted_28 : decode cX3_counted 28 = .ok (.iload_n 3, 1) := by decide +kernel
theorem dX3_counted_29 : decode cX3_counted 29 = .ok (.aload_n 0, 1) := by decide +kernel
theorem dX3_counted_30 : decode cX3_counted 30 = .ok (.getfield 33, 3) := by decide +kernel
theorem dX3_counted_33 : decode cX3_counted 33 = .ok (.iload 4, 2) := by decide +kernel
theorem dX3_counted_35 : decode cX3_counted 35 = .ok (.invokevirtual 115, 3) := by decide +kernel
theorem dX3_counted_38 : decode cX3_counted 38 = .ok (.iadd, 1) := by decide +kernel
theorem dX3_counted_39 : decode cX3_counted 39 = .ok (.istore_n 3, 1) := by decide +kernel
theorem dX3_counted_40 : decode cX3_counted 40 = .ok (.iinc 4 1, 3) := by decide +kernel
theorem dX3_counted_43 : decode cX3_counted 43 = .ok (.goto (-36), 3) := by decide +kernel
theorem dX3_counted_46 : decode cX3_counted 46 = .ok (.bipush 9, 2) := by decide +kernel
theorem dX3_counted_48 : decode cX3_counted 48 = .ok (.newarray .int, 2) := by decide +kernel
theorem dX3_counted_50 : decode cX3_counted 50 = .ok (.dup, 1) := by decide +kernel
theorem dX3_counted_51 : decode cX3_counted 51 = .ok (.iconst 0, 1) := by decide +kernel
theorem dX3_counted_52 : decode cX3_counted 52 = .ok (.aload_n 0, 1) := by decide +kernel
theorem dX3_counted_53 : decode cX3_counted 53 = .ok (.getfield 33, 3) := by decide +kernel
theorem dX3_counted_56 : decode cX3_counted 56 = .ok (.getfield 128, 3) := by decide +kernel
theorem dX3_counted_59 : decode cX3_counted 59 = .ok (.iastore, 1) := by decide +kernel
theorem dX3_counted_60 : decode cX3_counted 60 = .ok (.dup, 1) := by decide +kernel
theorem dX3_counted_61 : decode cX3_counted 61 = .ok (.iconst 1, 1) := by decide +kernel
theorem dX3_counted_62 : decode cX3_counted 62 = .ok (.aload_n 0, 1) := by decide +kernel
theorem dX3_counted_63 : decode cX3_counted 63 = .ok (.getfield 44, 3) := by decide +kernel
theorem dX3_counted_66 : decode cX3_counted 66 = .ok (.iastore, 1) := by decide +kernel
theorem dX3_counted_67 : decode cX3_counted 67 = .ok (.dup, 1) := by decide +kernel
theorem dX3_counted_68 : decode cX3_counted 68 = .ok (.iconst 2, 1) := by decide +kernel
theorem dX3_counted_69 : decode cX3_counted 69 = .ok (.aload_n 0, 1) := by decide +kernel
theorem dX3_counted_70 : decode cX3_counted 70 = .ok (.getfield 25, 3) := by decide +kernel
theorem dX3_counted_73 : decode cX3_counted 73 = .ok (.iconst 0, 1) := by decide +kernel
theorem dX3_counted_74 : decode cX3_counted 74 = .ok (.iaload, 1) := by decide +kernel
theorem dX3_counted_75 : decode cX3_counted 75 = .ok (.iastore, 1) := by decide +kernel
theorem dX3_counted_76 : decode cX3_counted 76 = .ok (.dup, 1) := by decide +kernel
theorem dX3_counted_77 : decode cX3_counted 77 = .ok (.iconst 3, 1) := by decide +kernel
theorem dX3_counted_78 : decode cX3_counted 78 = .ok (.aload_n 0, 1) := by decide +kernel
theorem dX3_counted_79 : decode cX3_counted 79 = .ok (.getfield 25, 3) := by decide +kernel
theorem dX3_counted_82 : decode cX3_counted 82 = .ok (.iconst 1, 1) := by decide +kernel
theorem dX3_counted_83 : decode cX3_counted 83 = .ok (.iaload, 1) := by decide +kernel
theorem dX3_counted_84 : decode cX3_counted 84 = .ok (.iastore, 1) := by decide +kernel
theorem dX3_counted_85 : decode cX3_counted 85 = .ok (.dup, 1) := by decide +kernel
theorem dX3_counted_86 : decode cX3_counted 86 = .ok (.iconst 4, 1) := by decide +kernel
theorem dX3_counted_87 : decode cX3_counted 87 = .ok (.aload_n 0, 1) := by decide +kernel
theorem dX3_counted_88 : decode cX3_counted 88 = .ok (.getfield 25, 3) := by decide +kernel
theorem dX3_counted_91 : decode cX3_counted 91 = .ok (.iconst 2, 1) := by decide +kernel
theorem dX3_counted_92 : decode cX3_counted 92 = .ok (.iaload, 1) := by decide +kernel
theorem dX3_counted_93 : decode cX3_counted 93 = .ok (.iastore, 1) := by decide +kernel
theorem dX3_counted_94 : decode cX3_counted 94 = .ok (.dup, 1) := by decide +kernel
theorem dX3_counted_95 : decode cX3_counted 95 = .ok (.iconst 5, 1) := by decide +kernel
theorem dX3_counted_96 : decode cX3_counted 96 = .ok (.iload_n 2, 1) := by decide +kernel
theorem dX3_counted_97 : decode cX3_counted 97 = .ok (.iastore, 1) := by decide +kernel
theorem dX3_counted_98 : decode cX3_counted 98 = .ok (.dup, 1) := by decide +kernel
theorem dX3_counted_99 : decode cX3_counted 99 = .ok (.bipush 6, 2) := by decide +kernel
theorem dX3_counted_101 : decode cX3_counted 101 = .ok (.iload_n 3, 1) := by decide +kernel
theorem dX3_counted_102 : decode cX3_counted 102 = .ok (.iastore, 1) := by decide +kernel
theorem dX3_counted_103 : decode cX3_counted 103 = .ok (.dup, 1) := by decide +kernel
theorem dX3_counted_104 : decode cX3_counted 104 = .ok (.bipush 7, 2) := by decide +kernel
theorem dX3_counted_106 : decode cX3_counted 106 = .ok (.aload_n 0, 1) := by decide +kernel
theorem dX3_counted_107 : decode cX3_counted 107 = .ok (.getfield 19, 3) := by decide +kernel
theorem dX3_counted_110 : decode cX3_counted 110 = .ok (.aload_n 0, 1) := by decide +kernel
theorem dX3_counted_111 : decode cX3_counted 111 = .ok (.getfield 33, 3) := by decide +kernel
theorem dX3_counted_114 : decode cX3_counted 114 = .ok (.getfield 128, 3) := by decide +kernel
theorem dX3_counted_117 : decode cX3_counted 117 = .ok (.bipush 12, 2) := by decide +kernel
theorem dX3_counted_119 : decode cX3_counted 119 = .ok (.irem, 1) := by decide +kernel
theorem dX3_counted_120 : decode cX3_counted 120 = .ok (.iaload, 1) := by decide +kernel
theorem dX3_counted_121 : decode cX3_counted 121 = .ok (.iastore, 1) := by decide +kernel
theorem dX3_counted_122 : decode cX3_counted 122 = .ok (.dup, 1) := by decide +kernel
theorem dX3_counted_123 : decode cX3_counted 123 = .ok (.bipush 8, 2) := by decide +kernel
theorem dX3_counted_125 : decode cX3_counted 125 = .ok (.aload_n 0, 1) := by decide +kernel
theorem dX3_counted_126 : decode cX3_counted 126 = .ok (.getfield 22, 3) := by decide +kernel
theorem dX3_counted_129 : decode cX3_counted 129 = .ok (.aload_n 0, 1) := by decide +kernel
theorem dX3_counted_130 : decode cX3_counted 130 = .ok (.getfield 33, 3) := by decide +kernel
theorem dX3_counted_133 : decode cX3_counted 133 = .ok (.getfield 128, 3) := by decide +kernel
theorem dX3_counted_136 : decode cX3_counted 136 = .ok (.bipush 12, 2) := by decide +kernel
theorem dX3_counted_138 : decode cX3_counted 138 = .ok (.irem, 1) := by decide +kernel
theorem dX3_counted_139 : decode cX3_counted 139 = .ok (.iaload, 1) := by decide +kernel
theorem dX3_counted_140 : decode cX3_counted 140 = .ok (.iastore, 1) := by decide +kernel
theorem dX3_counted_141 : decode cX3_counted 141 = .ok (.astore 4, 2) := by decide +kernel
theorem dX3_counted_143 : decode cX3_counted 143 = .ok (.aload 4, 2) := by decide +kernel
theorem dX3_counted_145 : decode cX3_counted 145 = .ok (.iload_n 1, 1) := by decide +kernel
theorem dX3_counted_146 : decode cX3_counted 146 = .ok (.iaload, 1) := by decide +kernel
theorem dX3_counted_147 : decode cX3_counted 147 = .ok (.ireturn, 1) := by decide +kernel
set_option maxRecDepth 20000 in
theorem ggX3_digest_X3_counted : GoodIn wsX3_digest wsX3_counted := goodIn_r _ [13, 6, 14, 15, 16, 4, 5, 17, 18, 19, 20, 21, 22, 23, 24, 25, 26, 27, 28, 29, 12, 30, 31, 32, 33, 34, 53, 54, 55, 56, 57, 58, 59, 60, 61, 62, 63, 64, 65, 66, 67, 68, 69, 70, 71, 72] (by decide +kernel) (by decide +kernel)
set_option maxRecDepth 20000 in
theorem gX3_digest_X3_counted : GoodIn wsX3_digest (wsV RX3 131 RX3 yX3_counted wsX3_counted) := goodIn_app (goodIn_of _ (by decide +kernel)) ggX3_digest_X3_counted
set_option maxRecDepth 20000 in
theorem ggX3_digest_X3_roofTold : GoodIn wsX3_digest wsX3_roofTold := goodIn_r _ [38, 15, 8, 7, 39, 14, 17, 18, 19, 20, 21, 22, 40, 41, 42, 43, 28, 23, 24, 25, 26, 27, 29, 12, 30, 31, 32, 33, 34, 53, 54, 55, 56, 57, 58, 59, 60, 61, 62, 63, 64, 65, 66, 67, 68, 69, 70, 71, 72] (by decide +kernel) (by decide +kernel)
set_option maxRecDepth 20000 in
theorem gX3_digest_X3_roofTold : GoodIn wsX3_digest (wsV RX3 124 RX3 yX3_roofTold wsX3_roofTold) := goodIn_app (goodIn_of _ (by decide +kernel)) ggX3_digest_X3_roofTold
set_option maxRecDepth 20000 in
theorem ggX3_digest_X3_yealmTold : GoodIn wsX3_digest wsX3_yealmTold := goodIn_r _ [47, 15, 14, 48, 29, 12, 30, 49, 50, 51, 20, 52, 27, 31, 32, 33, 34, 22, 53, 54, 55, 56, 57, 58, 59, 60, 61, 62, 63, 64, 65, 66, 67, 68, 69, 70, 71, 72] (by decide +kernel) (by decide +kernel)
set_option maxRecDepth 20000 in
theorem gX3_digest_X3_yealmTold : GoodIn wsX3_digest (wsV RX3 105 RX3 yX3_yealmTold wsX3_yealmTold) := goodIn_app (goodIn_of _ (by decide +kernel)) ggX3_digest_X3_yealmTold
theorem dX3_digest_0 : decode cX3_digest 0 = .ok (.aload_n 0, 1) := by decide +kernel
theorem dX3_digest_1 : decode cX3_digest 1 = .ok (.iconst 0, 1) := by decide +kernel
theorem dX3_digest_2 : decode cX3_digest 2 = .ok (.putfield 40, 3) := by decide +kernel
theorem dX3_digest_5 : decode cX3_digest 5 = .ok (.ldc2_w 149, 3) := by decide +kernel
theorem dX3_digest_8 : decode cX3_digest 8 = .ok (.lstore_n 1, 1) := by decide +kernel
theorem dX3_digest_9 : decode cX3_digest 9 = .ok (.iconst 0, 1) := by decide +kernel
theorem dX3_digest_10 : decode cX3_digest 10 = .ok (.istore_n 3, 1) := by decide +kernel
theorem dX3_digest_11 : decode cX3_digest 11 = .ok (.iload_n 3, 1) := by decide +kernel
theorem dX3_digest_12 : decode cX3_digest 12 = .ok (.bipush 8, 2) := by decide +kernel
theorem dX3_digest_14 : decode cX3_digest 14 = .ok (.if_icmp .gt 22, 3) := by decide +kernel
theorem dX3_digest_17 : decode cX3_digest 17 = .ok (.lload_n 1, 1) := by decide +kernel
theorem dX3_digest_18 : decode cX3_digest 18 = .ok (.ldc2_w 151, 3) := by decide +kernel
theorem dX3_digest_21 : decode cX3_digest 21 = .ok (.lmul, 1) := by decide +kernel
theorem dX3_digest_22 : decode cX3_digest 22 = .ok (.aload_n 0, 1) := by decide +kernel
theorem dX3_digest_23 : decode cX3_digest 23 = .ok (.iload_n 3, 1) := by decide +kernel
theorem dX3_digest_24 : decode cX3_digest 24 = .ok (.invokevirtual 131, 3) := by decide +kernel
theorem dX3_digest_27 : decode cX3_digest 27 = .ok (.i2l, 1) := by decide +kernel
theorem dX3_digest_28 : decode cX3_digest 28 = .ok (.ladd, 1) := by decide +kernel
theorem dX3_digest_29 : decode cX3_digest 29 = .ok (.lstore_n 1, 1) := by decide +kernel
theorem dX3_digest_30 : decode cX3_digest 30 = .ok (.iinc 3 1, 3) := by decide +kernel
theorem dX3_digest_33 : decode cX3_digest 33 = .ok (.goto (-22), 3) := by decide +kernel
theorem dX3_digest_36 : decode cX3_digest 36 = .ok (.iconst 0, 1) := by decide +kernel
theorem dX3_digest_37 : decode cX3_digest 37 = .ok (.istore_n 3, 1) := by decide +kernel
theorem dX3_digest_38 : decode cX3_digest 38 = .ok (.iload_n 3, 1) := by decide +kernel
theorem dX3_digest_39 : decode cX3_digest 39 = .ok (.bipush 12, 2) := by decide +kernel
theorem dX3_digest_41 : decode cX3_digest 41 = .ok (.if_icmp .ge 34, 3) := by decide +kernel
theorem dX3_digest_44 : decode cX3_digest 44 = .ok (.lload_n 1, 1) := by decide +kernel
theorem dX3_digest_45 : decode cX3_digest 45 = .ok (.ldc2_w 151, 3) := by decide +kernel
theorem dX3_digest_48 : decode cX3_digest 48 = .ok (.lmul, 1) := by decide +kernel
theorem dX3_digest_49 : decode cX3_digest 49 = .ok (.bipush 10, 2) := by decide +kernel
theorem dX3_digest_51 : decode cX3_digest 51 = .ok (.aload_n 0, 1) := by decide +kernel
theorem dX3_digest_52 : decode cX3_digest 52 = .ok (.getfield 19, 3) := by decide +kernel
theorem dX3_digest_55 : decode cX3_digest 55 = .ok (.iload_n 3, 1) := by decide +kernel
theorem dX3_digest_56 : decode cX3_digest 56 = .ok (.iaload, 1) := by decide +kernel
theorem dX3_digest_57 : decode cX3_digest 57 = .ok (.imul, 1) := by decide +kernel
theorem dX3_digest_58 : decode cX3_digest 58 = .ok (.i2l, 1) := by decide +kernel
theorem dX3_digest_59 : decode cX3_digest 59 = .ok (.ladd, 1) := by decide +kernel
theorem dX3_digest_60 : decode cX3_digest 60 = .ok (.aload_n 0, 1) := by decide +kernel
theorem dX3_digest_61 : decode cX3_digest 61 = .ok (.getfield 22, 3) := by decide +kernel
theorem dX3_digest_64 : decode cX3_digest 64 = .ok (.iload_n 3, 1) := by decide +kernel
theorem dX3_digest_65 : decode cX3_digest 65 = .ok (.iaload, 1) := by decide +kernel
theorem dX3_digest_66 : decode cX3_digest 66 = .ok (.i2l, 1) := by decide +kernel
theorem dX3_digest_67 : decode cX3_digest 67 = .ok (.ladd, 1) := by decide +kernel
theorem dX3_digest_68 : decode cX3_digest 68 = .ok (.lstore_n 1, 1) := by decide +kernel
theorem dX3_digest_69 : decode cX3_digest 69 = .ok (.iinc 3 1, 3) := by decide +kernel
theorem dX3_digest_72 : decode cX3_digest 72 = .ok (.goto (-34), 3) := by decide +kernel
theorem dX3_digest_75 : decode cX3_digest 75 = .ok (.iconst 0, 1) := by decide +kernel
theorem dX3_digest_76 : decode cX3_digest 76 = .ok (.istore_n 3, 1) := by decide +kernel
theorem dX3_digest_77 : decode cX3_digest 77 = .ok (.iload_n 3, 1) := by decide +kernel
theorem dX3_digest_78 : decode cX3_digest 78 = .ok (.aload_n 0, 1) := by decide +kernel
theorem dX3_digest_79 : decode cX3_digest 79 = .ok (.getfield 44, 3) := by decide +kernel
theorem dX3_digest_82 : decode cX3_digest 82 = .ok (.if_icmp .ge 114, 3) := by decide +kernel
theorem dX3_digest_85 : decode cX3_digest 85 = .ok (.iconst 0, 1) := by decide +kernel
theorem dX3_digest_86 : decode cX3_digest 86 = .ok (.istore 4, 2) := by decide +kernel
theorem dX3_digest_88 : decode cX3_digest 88 = .ok (.iload 4, 2) := by decide +kernel
theorem dX3_digest_90 : decode cX3_digest 90 = .ok (.bipush 8, 2) := by decide +kernel
theorem dX3_digest_92 : decode cX3_digest 92 = .ok (.if_icmp .gt 24, 3) := by decide +kernel
theorem dX3_digest_95 : decode cX3_digest 95 = .ok (.lload_n 1, 1) := by decide +kernel
theorem dX3_digest_96 : decode cX3_digest 96 = .ok (.ldc2_w 151, 3) := by decide +kernel
theorem dX3_digest_99 : decode cX3_digest 99 = .ok (.lmul, 1) := by decide +kernel
theorem dX3_digest_100 : decode cX3_digest 100 = .ok (.aload_n 0, 1) := by decide +kernel
theorem dX3_digest_101 : decode cX3_digest 101 = .ok (.iload_n 3, 1) := by decide +kernel
theorem dX3_digest_102 : decode cX3_digest 102 = .ok (.iload 4, 2) := by decide +kernel
theorem dX3_digest_104 : decode cX3_digest 104 = .ok (.invokevirtual 124, 3) := by decide +kernel
theorem dX3_digest_107 : decode cX3_digest 107 = .ok (.i2l, 1) := by decide +kernel
theorem dX3_digest_108 : decode cX3_digest 108 = .ok (.ladd, 1) := by decide +kernel
theorem dX3_digest_109 : decode cX3_digest 109 = .ok (.lstore_n 1, 1) := by decide +kernel
theorem dX3_digest_110 : decode cX3_digest 110 = .ok (.iinc 4 1, 3) := by decide +kernel
theorem dX3_digest_113 : decode cX3_digest 113 = .ok (.goto (-25), 3) := by decide +kernel
theorem dX3_digest_116 : decode cX3_digest 116 = .ok (.iconst 0, 1) := by decide +kernel
theorem dX3_digest_117 : decode cX3_digest 117 = .ok (.istore 4, 2) := by decide +kernel
theorem dX3_digest_119 : decode cX3_digest 119 = .ok (.iload 4, 2) := by decide +kernel
theorem dX3_digest_121 : decode cX3_digest 121 = .ok (.aload_n 0, 1) := by decide +kernel
theorem dX3_digest_122 : decode cX3_digest 122 = .ok (.getfield 13, 3) := by decide +kernel
theorem dX3_digest_125 : decode cX3_digest 125 = .ok (.iload_n 3, 1) := by decide +kernel
theorem dX3_digest_126 : decode cX3_digest 126 = .ok (.iaload, 1) := by decide +kernel
theorem dX3_digest_127 : decode cX3_digest 127 = .ok (.if_icmp .ge 63, 3) := by decide +kernel
theorem dX3_digest_130 : decode cX3_digest 130 = .ok (.iconst 0, 1) := by decide +kernel
theorem dX3_digest_131 : decode cX3_digest 131 = .ok (.istore 5, 2) := by decide +kernel
theorem dX3_digest_133 : decode cX3_digest 133 = .ok (.iload 5, 2) := by decide +kernel
theorem dX3_digest_135 : decode cX3_digest 135 = .ok (.aload_n 0, 1) := by decide +kernel
theorem dX3_digest_136 : decode cX3_digest 136 = .ok (.getfield 9, 3) := by decide +kernel
theorem dX3_digest_139 : decode cX3_digest 139 = .ok (.iload_n 3, 1) := by decide +kernel
theorem dX3_digest_140 : decode cX3_digest 140 = .ok (.iaload, 1) := by decide +kernel
theorem dX3_digest_141 : decode cX3_digest 141 = .ok (.if_icmp .ge 43, 3) := by decide +kernel
theorem dX3_digest_144 : decode cX3_digest 144 = .ok (.iconst 0, 1) := by decide +kernel
theorem dX3_digest_145 : decode cX3_digest 145 = .ok (.istore 6, 2) := by decide +kernel
theorem dX3_digest_147 : decode cX3_digest 147 = .ok (.iload 6, 2) := by decide +kernel
theorem dX3_digest_149 : decode cX3_digest 149 = .ok (.iconst 5, 1) := by decide +kernel
theorem dX3_digest_150 : decode cX3_digest 150 = .ok (.if_icmp .gt 28, 3) := by decide +kernel
theorem dX3_digest_153 : decode cX3_digest 153 = .ok (.lload_n 1, 1) := by decide +kernel
theorem dX3_digest_154 : decode cX3_digest 154 = .ok (.ldc2_w 151, 3) := by decide +kernel
theorem dX3_digest_157 : decode cX3_digest 157 = .ok (.lmul, 1) := by decide +kernel
theorem dX3_digest_158 : decode cX3_digest 158 = .ok (.aload_n 0, 1) := by decide +kernel
theorem dX3_digest_159 : decode cX3_digest 159 = .ok (.iload_n 3, 1) := by decide +kernel
theorem dX3_digest_160 : decode cX3_digest 160 = .ok (.iload 4, 2) := by decide +kernel
theorem dX3_digest_162 : decode cX3_digest 162 = .ok (.iload 5, 2) := by decide +kernel
theorem dX3_digest_164 : decode cX3_digest 164 = .ok (.iload 6, 2) := by decide +kernel
theorem dX3_digest_166 : decode cX3_digest 166 = .ok (.invokevirtual 105, 3) := by decide +kernel
theorem dX3_digest_169 : decode cX3_digest 169 = .ok (.i2l, 1) := by decide +kernel
theorem dX3_digest_170 : decode cX3_digest 170 = .ok (.ladd, 1) := by decide +kernel
theorem dX3_digest_171 : decode cX3_digest 171 = .ok (.lstore_n 1, 1) := by decide +kernel
theorem dX3_digest_172 : decode cX3_digest 172 = .ok (.iinc 6 1, 3) := by decide +kernel
theorem dX3_digest_175 : decode cX3_digest 175 = .ok (.goto (-28), 3) := by decide +kernel
theorem dX3_digest_178 : decode cX3_digest 178 = .ok (.iinc 5 1, 3) := by decide +kernel
theorem dX3_digest_181 : decode cX3_digest 181 = .ok (.goto (-48), 3) := by decide +kernel
theorem dX3_digest_184 : decode cX3_digest 184 = .ok (.iinc 4 1, 3) := by decide +kernel
theorem dX3_digest_187 : decode cX3_digest 187 = .ok (.goto (-68), 3) := by decide +kernel
theorem dX3_digest_190 : decode cX3_digest 190 = .ok (.iinc 3 1, 3) := by decide +kernel
theorem dX3_digest_193 : decode cX3_digest 193 = .ok (.goto (-116), 3) := by decide +kernel
theorem dX3_digest_196 : decode cX3_digest 196 = .ok (.lload_n 1, 1) := by decide +kernel
theorem dX3_digest_197 : decode cX3_digest 197 = .ok (.lreturn, 1) := by decide +kernel
end

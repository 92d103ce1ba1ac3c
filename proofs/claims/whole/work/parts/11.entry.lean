set_option maxRecDepth 100000 in
set_option maxHeartbeats 4000000 in
theorem zX_start {b : Addr} {s : State} (hts : ∀ w ∈ lw_tbl, w.before #[Value.ref b] s = true) (hgv : (Jvm.Cond.and given_1 narrow_1).before #[Value.ref b] s = true) : zX s := by
  have hs := flat_of_before _ hgv
  refine ⟨?_, ?_, ?_, ?_, ?_, ?_, ?_, ?_, ?_, ?_, ?_, ?_, ?_, ?_, ?_, ?_, ?_, ?_, ?_, ?_, ?_, ?_, ?_, ?_, ?_, ?_, ?_, ?_, ?_, ?_, ?_, ?_, ?_, ?_, ?_, ?_, ?_⟩
  · exact va_Nw.of rfl (hts (.castable "java/lang/IllegalArgumentException" "java/lang/IllegalArgumentException") (by decide +kernel))
  · exact va_Nw.of rfl (hts (.castable "java/lang/IllegalStateException" "java/lang/IllegalStateException") (by decide +kernel))
  · exact va_Nw.of rfl (hts (.castable "java/lang/IndexOutOfBoundsException" "java/lang/IndexOutOfBoundsException") (by decide +kernel))
  · exact va_Nc.of (hs (.not (.castable "java/lang/IllegalArgumentException" "java/lang/IllegalStateException")) (by decide +kernel))
  · exact va_Nc.of (hs (.not (.castable "java/lang/IllegalArgumentException" "java/lang/IndexOutOfBoundsException")) (by decide +kernel))
  · exact va_Nc.of (hs (.not (.castable "java/lang/IllegalStateException" "java/lang/IllegalArgumentException")) (by decide +kernel))
  · exact va_Nc.of (hs (.not (.castable "java/lang/IllegalStateException" "java/lang/IndexOutOfBoundsException")) (by decide +kernel))
  · exact va_Nc.of (hs (.not (.castable "java/lang/IndexOutOfBoundsException" "java/lang/IllegalArgumentException")) (by decide +kernel))
  · exact va_Nc.of (hs (.not (.castable "java/lang/IndexOutOfBoundsException" "java/lang/IllegalStateException")) (by decide +kernel))
  · exact va_AO.of (hts (.arrayOver (.object RX0)) (by decide +kernel))
  · exact va_Nw.of rfl (hts (.declares (Bundle.initS "java/lang/RuntimeException")) (by decide +kernel))
  · exact va_Nw.of rfl (hts (.declares (Bundle.initS "java/lang/Exception")) (by decide +kernel))
  · exact va_Nw.of rfl (hts (.declares (Bundle.initS Bundle.tN)) (by decide +kernel))
  · obtain ⟨a, -, -, -, ha, -⟩ := Cond.exactly_spec (hs (.exactly (.string "ThatchRoof" 38) "java/lang/String") (by decide +kernel)); exact ⟨a, vk_R.of (hts (.stringRef RX1 38 "no such shape of a roof") (by decide +kernel)) ha⟩
  · obtain ⟨a, -, -, -, ha, -⟩ := Cond.exactly_spec (hs (.exactly (.string "ThatchRoof" 49) "java/lang/String") (by decide +kernel)); exact ⟨a, vk_R.of (hts (.stringRef RX1 49 "there are 6 roofs") (by decide +kernel)) ha⟩
  · obtain ⟨a, -, -, -, ha, -⟩ := Cond.exactly_spec (hs (.exactly (.string "ThatchRoof" 58) "java/lang/String") (by decide +kernel)); exact ⟨a, vk_R.of (hts (.stringRef RX1 58 "no such kind") (by decide +kernel)) ha⟩
  · obtain ⟨a, -, -, -, ha, -⟩ := Cond.exactly_spec (hs (.exactly (.string "ThatchRoof" 61) "java/lang/String") (by decide +kernel)); exact ⟨a, vk_R.of (hts (.stringRef RX1 61 "not 1 to 500 bundles") (by decide +kernel)) ha⟩
  · obtain ⟨a, -, -, -, ha, -⟩ := Cond.exactly_spec (hs (.exactly (.string "ThatchRoof" 63) "java/lang/String") (by decide +kernel)); exact ⟨a, vk_R.of (hts (.stringRef RX1 63 "more than the barn holds") (by decide +kernel)) ha⟩
  · obtain ⟨a, -, -, -, ha, -⟩ := Cond.exactly_spec (hs (.exactly (.string "ThatchRoof" 65) "java/lang/String") (by decide +kernel)); exact ⟨a, vk_R.of (hts (.stringRef RX1 65 "no such month of the year") (by decide +kernel)) ha⟩
  · obtain ⟨a, -, -, -, ha, -⟩ := Cond.exactly_spec (hs (.exactly (.string "ThatchRoof" 67) "java/lang/String") (by decide +kernel)); exact ⟨a, vk_R.of (hts (.stringRef RX1 67 "rain or storm not 0 to 9") (by decide +kernel)) ha⟩
  · obtain ⟨a, -, -, -, ha, -⟩ := Cond.exactly_spec (hs (.exactly (.string "ThatchRoof" 77) "java/lang/String") (by decide +kernel)); exact ⟨a, vk_R.of (hts (.stringRef RX1 77 "no such roof, course, place or kind") (by decide +kernel)) ha⟩
  · obtain ⟨a, -, -, -, ha, -⟩ := Cond.exactly_spec (hs (.exactly (.string "ThatchRoof" 82) "java/lang/String") (by decide +kernel)); exact ⟨a, vk_R.of (hts (.stringRef RX1 82 "thickness not 1 to 40, or spars not 0 to 9") (by decide +kernel)) ha⟩
  · obtain ⟨a, -, -, -, ha, -⟩ := Cond.exactly_spec (hs (.exactly (.string "ThatchRoof" 91) "java/lang/String") (by decide +kernel)); exact ⟨a, vk_R.of (hts (.stringRef RX1 91 "a yealm is there, none is below, or the bundles are too few") (by decide +kernel)) ha⟩
  · obtain ⟨a, -, -, -, ha, -⟩ := Cond.exactly_spec (hs (.exactly (.string "ThatchRoof" 100) "java/lang/String") (by decide +kernel)); exact ⟨a, vk_R.of (hts (.stringRef RX1 100 "no such roof, course or kind") (by decide +kernel)) ha⟩
  · obtain ⟨a, -, -, -, ha, -⟩ := Cond.exactly_spec (hs (.exactly (.string "ThatchRoof" 106) "java/lang/String") (by decide +kernel)); exact ⟨a, vk_R.of (hts (.stringRef RX1 106 "no such roof, course or place") (by decide +kernel)) ha⟩
  · obtain ⟨a, -, -, -, ha, -⟩ := Cond.exactly_spec (hs (.exactly (.string "ThatchRoof" 112) "java/lang/String") (by decide +kernel)); exact ⟨a, vk_R.of (hts (.stringRef RX1 112 "no yealm is there, or the bundles are too few") (by decide +kernel)) ha⟩
  · obtain ⟨a, -, -, -, ha, -⟩ := Cond.exactly_spec (hs (.exactly (.string "ThatchRoof" 121) "java/lang/String") (by decide +kernel)); exact ⟨a, vk_R.of (hts (.stringRef RX1 121 "no such roof") (by decide +kernel)) ha⟩
  · obtain ⟨a, -, -, -, ha, -⟩ := Cond.exactly_spec (hs (.exactly (.string "ThatchRoof" 123) "java/lang/String") (by decide +kernel)); exact ⟨a, vk_R.of (hts (.stringRef RX1 123 "the bundles of heather are too few") (by decide +kernel)) ha⟩
  · obtain ⟨a, -, -, -, ha, -⟩ := Cond.exactly_spec (hs (.exactly (.string "ThatchRoof" 128) "java/lang/String") (by decide +kernel)); exact ⟨a, vk_R.of (hts (.stringRef RX1 128 "no such roof, course or place, or nothing told by this number") (by decide +kernel)) ha⟩
  · obtain ⟨a, -, -, -, ha, -⟩ := Cond.exactly_spec (hs (.exactly (.string "ThatchRoof" 134) "java/lang/String") (by decide +kernel)); exact ⟨a, vk_R.of (hts (.stringRef RX1 134 "no such roof, or nothing told by this number") (by decide +kernel)) ha⟩
  · obtain ⟨a, -, -, -, ha, -⟩ := Cond.exactly_spec (hs (.exactly (.string "ThatchRoof" 139) "java/lang/String") (by decide +kernel)); exact ⟨a, vk_R.of (hts (.stringRef RX1 139 "nothing counted by this number") (by decide +kernel)) ha⟩
  · obtain ⟨a, -, -, -, ha, -⟩ := Cond.exactly_spec (hs (.exactly (.string "ThatchRoof" 144) "java/lang/String") (by decide +kernel)); exact ⟨a, vk_R.of (hts (.stringRef RX1 144 "not 1 to 120 months") (by decide +kernel)) ha⟩
  · obtain ⟨a, -, -, -, ha, -⟩ := Cond.exactly_spec (hs (.exactly (.string "ThatchRoof" 158) "java/lang/String") (by decide +kernel)); exact ⟨a, vk_R.of (hts (.stringRef RX1 158 "storm not 0 to 9") (by decide +kernel)) ha⟩
  · obtain ⟨a, -, -, -, ha, -⟩ := Cond.exactly_spec (hs (.exactly (.string "ThatchRoof" 170) "java/lang/String") (by decide +kernel)); exact ⟨a, vk_R.of (hts (.stringRef RX1 170 "no such roof, or nothing foreseen by this number") (by decide +kernel)) ha⟩
  · obtain ⟨a, -, -, -, ha, -⟩ := Cond.exactly_spec (hs (.exactly (.string "ThatchRoof" 172) "java/lang/String") (by decide +kernel)); exact ⟨a, vk_R.of (hts (.stringRef RX1 172 "not 1 to 60 months") (by decide +kernel)) ha⟩
  · obtain ⟨a, -, -, -, ha, -⟩ := Cond.exactly_spec (hs (.exactly (.string "ThatchRoof" 180) "java/lang/String") (by decide +kernel)); exact ⟨a, vk_R.of (hts (.stringRef RX1 180 "not 1 to 24 months") (by decide +kernel)) ha⟩
  · obtain ⟨a, -, -, -, ha, -⟩ := Cond.exactly_spec (hs (.exactly (.string "ThatchRoof" 192) "java/lang/String") (by decide +kernel)); exact ⟨a, vk_R.of (hts (.stringRef RX1 192 "thickness not 1 to 40") (by decide +kernel)) ha⟩
theorem zNs_start {b : Addr} {s : State} (hts : ∀ w ∈ lw_tbl, w.before #[Value.ref b] s = true) : zNs s := ⟨va_Nw.of rfl (hts (.fieldLinkNest RX3 118 "ThatchRoofModel$State" "torn" "[I" "ThatchRoofModel") (by decide +kernel)), va_Nw.of rfl (hts (.fieldLinkNest RX3 121 "ThatchRoofModel$State" "worn" "[I" "ThatchRoofModel") (by decide +kernel)), va_Nw.of rfl (hts (.fieldLinkNest RX3 128 "ThatchRoofModel$State" "month" "I" "ThatchRoofModel") (by decide +kernel)), va_Nw.of rfl (hts (.fieldLinkNest RX3 63 "ThatchRoofModel$State" "ridge" "[I" "ThatchRoofModel") (by decide +kernel)), va_Nw.of rfl (hts (.fieldLinkNest RX3 86 "ThatchRoofModel$State" "kind" "[I" "ThatchRoofModel") (by decide +kernel)), va_Nw.of rfl (hts (.fieldLinkNest RX3 93 "ThatchRoofModel$State" "thick" "[I" "ThatchRoofModel") (by decide +kernel)), va_Nw.of rfl (hts (.fieldLinkNest RX3 96 "ThatchRoofModel$State" "spars" "[I" "ThatchRoofModel") (by decide +kernel)), va_Nw.of rfl (hts (.fieldLinkNest RX3 99 "ThatchRoofModel$State" "moss" "[I" "ThatchRoofModel") (by decide +kernel)), va_Nw.of rfl (hts (.fieldLinkNest RX2 63 "ThatchRoofModel" "courses" "[I" "ThatchRoofModel") (by decide +kernel)), va_Nw.of rfl (hts (.fieldLinkNest RX2 75 "ThatchRoofModel" "slope" "[I" "ThatchRoofModel") (by decide +kernel)), va_Nw.of rfl (hts (.fieldLinkNest RX2 78 "ThatchRoofModel" "width" "[I" "ThatchRoofModel") (by decide +kernel)), va_Nw.of rfl (hts (.fieldLinkNest RX2 85 "ThatchRoofModel" "rain" "[I" "ThatchRoofModel") (by decide +kernel)), va_Nw.of rfl (hts (.fieldLinkNest RX2 88 "ThatchRoofModel" "storm" "[I" "ThatchRoofModel") (by decide +kernel)), va_Nw.of rfl (hts (.methodLinkNest RX2 55 yX3_cell "ThatchRoofModel") (by decide +kernel))⟩
theorem zTh_start {b : Addr} {s : State} {A : Nat → Prop} (hts : ∀ w ∈ lw_tbl, w.before #[Value.ref b] s = true) (hgv : (Jvm.Cond.and given_1 narrow_1).before #[Value.ref b] s = true) (hA : ∀ a : Nat, a < s.heap.size → ¬ A a) : zTh A s s.heap := by
  have hs := flat_of_before _ hgv
  exact ⟨vx_Zqof (hts (.laysStatic Bundle.tN "UNASSIGNED_STACK" Bundle.steD) (by decide +kernel)) (hts (.initialized Bundle.tN) (by decide +kernel)) (hs (.isRef (.static Bundle.tN "UNASSIGNED_STACK" Bundle.steD)) (by decide +kernel)) hA, vx_Zqof (hts (.laysStatic Bundle.tN "SUPPRESSED_SENTINEL" Bundle.listD) (by decide +kernel)) (hts (.initialized Bundle.tN) (by decide +kernel)) (hs (.isRef (.static Bundle.tN "SUPPRESSED_SENTINEL" Bundle.listD)) (by decide +kernel)) hA⟩
theorem zK_start {b : Addr} {s : State} (hts : ∀ w ∈ lw_tbl, w.before #[Value.ref b] s = true) : ∃ (dC : Nat → ClassId) (dI : Nat → Nat → Nat), ∀ (k : Nat) (q : vw_C), vwCl[k]? = some q → u_Kn s q.1 q.2.1 q.2.2 (dC k) (dI k) := by
  obtain ⟨c0, i0, h0⟩ := u_known (C := RX0) (T := TX0) (N := 10) (n := 10) hts inX0 (hts (.instantiable RX0 10) (by decide +kernel))
  obtain ⟨c1, i1, h1⟩ := u_known (C := RX1) (T := TX1) (N := 7) (n := 7) hts inX1 (hts (.instantiable RX1 7) (by decide +kernel))
  obtain ⟨c2, i2, h2⟩ := u_known (C := RX2) (T := TX2) (N := 10) (n := 10) hts inX2 (hts (.instantiable RX2 10) (by decide +kernel))
  obtain ⟨c3, i3, h3⟩ := u_known (C := RX3) (T := TX3) (N := 10) (n := 10) hts inX3 (hts (.instantiable RX3 10) (by decide +kernel))
  refine ⟨fun k => match k with | 0 => c0 | 1 => c1 | 2 => c2 | _ => c3, fun k => match k with | 0 => i0 | 1 => i1 | 2 => i2 | _ => i3, ?_⟩
  intro k q hq
  match k, hq with
  | 0, hq => cases hq; exact h0
  | 1, hq => cases hq; exact h1
  | 2, hq => cases hq; exact h2
  | 3, hq => cases hq; exact h3
  | k + 4, hq => simp [vwCl] at hq

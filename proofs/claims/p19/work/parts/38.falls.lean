section
/-! THE FALL: at the script zz_xs the run ends with more cells than the claim's frame allows, or with 0 -/
def zz_P (b : Addr) (args : Array Value) (s : State) : Prop := args = #[.ref b] ∧ va_X b 1946 zz_xs s s.heap ∧ b < s.heap.size ∧ (Jvm.Cond.and given_1 narrow_1).before args s = true
set_option maxHeartbeats 4000000 in
theorem zz_walk (l : Launch) (hflags : l.flags = flags0) (b : Addr) : MetFree l x (headSpec (Jvm.Cond.code x code maxLocals ret :: tables_1) zz_room) (zz_P b) (fun _ _ _ _ _ => True) (fun _ s o t => zz_E s o t) := by
  refine MetFree.of_bodyS (code := code) (maxLocals := maxLocals) (ret := ret) (by decide) ?_ ?_
  · intro args s m h hn
    obtain ⟨meth, c, h1, h2, h3, h4, h5, h6, -, -⟩ := Cond.code_spec hn (atoms_spec (ws := Jvm.Cond.code x code maxLocals ret :: tables_1) h _ List.mem_cons_self)
    exact ⟨meth, c, h1, h2, h3, h4, h5, h6⟩
  · intro p e s m args below meth c s₁ B hml0 hP _
    obtain ⟨rfl, hX, hbl, hgv⟩ := hP
    have hown : s.vm.findClass R_law = some m.cls := findClass_of_methodNamed B.named
    have hts0 : ∀ c ∈ (Jvm.Cond.code x code maxLocals ret :: tables_1), c.before #[Value.ref b] s = true := atoms_spec (ws := Jvm.Cond.code x code maxLocals ret :: tables_1) B.pre
    have hts : ∀ w ∈ lw_tbl, w.before #[Value.ref b] s = true := k2_hts_sels lw_privs (fun w hw => hts0 w (List.mem_cons_of_mem _ hw)) lw_privs_ok
    have hml : c.maxLocals = 9 := B.maxLocals_eq (hts0 _ List.mem_cons_self)
    have X₀ : Stand p l e zz_room s m #[Value.ref b] below meth c s₁ [] 0 0 := Stand.of_body B
    have hh0 : s₁.heap = s.heap := by rw [B.state]; rfl
    have K : W p l e zz_room s m #[Value.ref b] below meth c s₁.heap [] 0 0 (zz_Z below #[Value.ref b] s) (entryFrame m ([Value.ref b] : List Value).toArray 9) := by
      rw [hh0]
      exact zz_start l hflags ⟨B.exec, B.bytes, B.returns, hml, hown, hts, hX, hbl, B.notSynchronized, hgv⟩
    obtain ⟨t, a1, o, b1, b2, b3⟩ := K s₁ rfl X₀
    exact ⟨t, o, a1, b1, b2, b3⟩
/-- one run has one end -/
theorem zz_one_end {f : Nat → State} {below : List Frame} {k k1 : Nat} {o o1 : Outcome} (h1 : ∀ j, j < k → Within (f j) below) (h3 : Ended (f k) below o) (g1 : ∀ j, j < k1 → Within (f j) below) (g3 : Ended (f k1) below o1) : k = k1 ∧ o = o1 := by
  have h : k = k1 := by
    rcases Nat.lt_trichotomy k k1 with q | q | q
    · exact absurd (g1 k q) h3.not_within
    · exact q
    · exact absurd (h1 k1 q) g3.not_within
  subst h
  exact ⟨rfl, h3.outcome_unique g3⟩
def zz_script : Array Value := ((List.range 1946).map (fun j => Value.int (zz_xs j))).toArray
def zz_about : State := start1.aboutOf zz_script
theorem zz_slots (j : Nat) (hj : j < 1946) : zz_script[j]? = some (.int (zz_xs j)) := by
  unfold zz_script
  simp [hj]
theorem zz_size : zz_script.size = 1946 := by
  unfold zz_script
  simp
set_option maxRecDepth 100000 in
theorem zz_tabs : tables_1.all (fun c => c.onTables || c.before start1.args0 zz_about) = true := by decide +kernel
theorem zz_words : ∀ c ∈ (Cond.code x code maxLocals ret :: tables_1), c.before start1.args0 zz_about = true := by
  intro c hc
  have h0 := start1.words c hc
  cases ht : c.onTables with
  | true =>
    have h1 := Cond.onTables_vm (A := start1.args0) (A' := start1.args0) (U := start1.about) (U' := zz_about) start1.about.vm c ht
    rw [show start1.about.setVm start1.about.vm = start1.about from rfl, show zz_about.setVm start1.about.vm = zz_about from rfl] at h1
    exact h1.symm.trans h0
  | false =>
    rcases List.mem_cons.mp hc with rfl | h
    · exact absurd ht (by decide)
    · have h1 := List.all_eq_true.mp zz_tabs c h
      rw [ht, Bool.false_or] at h1
      exact h1
set_option maxRecDepth 100000 in
theorem zz_fit : argsFit zz_about.vm ⟨0, 0⟩ start1.args0 = true := by decide +kernel
def zz_cell : Cell := { cls := 16, slots := zz_script, vm := .none }
def zz_list : List Int32 := (List.range 1946).map zz_xs
theorem zz_isA : zz_about.isArrayOf zz_cell .int := ⟨fun k h => (by cases h), _, rfl, _, rfl⟩
theorem zz_vm {u v : State} (h : u.vm = v.vm) : u.fitsSlot = v.fitsSlot := by
  cases u
  cases v
  cases h
  rfl
theorem zz_vms (a b : Array Value) : (start1.aboutOf a).vm = (start1.aboutOf b).vm := rfl
set_option maxRecDepth 100000 in
theorem zz_fits : zz_about.fitsSlot = start1.about.fitsSlot := by
  unfold zz_about start1.about
  exact zz_vm (zz_vms _ _)
theorem zz_heap : heapFits zz_about = true := by
  have h0 : heapFits start1.about = true := start1.atStart.2.2.2.2.2.2.2.2.1
  obtain ⟨c0, tl, h1, h2⟩ : ∃ (c0 : Cell) (tl : List Cell), start1.about.heap.toList = c0 :: tl ∧ zz_about.heap.toList = zz_cell :: tl := ⟨_, _, rfl, rfl⟩
  have e1 : cellFits zz_about = cellFits start1.about := by
    funext c
    unfold cellFits
    rw [zz_fits]
  unfold heapFits at h0 ⊢
  rw [← Array.all_toList, h1, List.all_cons, Bool.and_eq_true] at h0
  rw [← Array.all_toList, h2, List.all_cons, Bool.and_eq_true]
  refine ⟨?_, by rw [e1]; exact h0.2⟩
  unfold cellFits
  rw [List.all_eq_true]
  intro i hi
  have hi' : i < 1946 := by rw [← zz_size]; exact List.mem_range.mp hi
  rw [show zz_cell.slots[i]? = some (.int (zz_xs i)) from zz_slots i hi']
  rfl
theorem zz_ints : zz_about.IntsAt 0 zz_list := ⟨zz_cell, rfl, by
  show zz_script.toList = zz_list.map Value.int
  unfold zz_script zz_list
  simp, zz_isA, by
  unfold zz_list
  simp⟩
theorem zz_rest : rest_1_c.before start1.args0 zz_about = true := by
  have hx := zz_ints
  have he : ∀ idx : List Nat, (Term.arg 0).eval start1.args0 zz_about none idx zz_about = some (.ref 0) := fun _ => rfl
  have h1 : (Cond.isInt (.length (.arg 0))).before start1.args0 zz_about = true := by
    simp [Cond.before, Cond.holds, Cond.value, hx.length_eval (he [])]
  have h2 : (Cond.all (.arg 0) (.isInt (.elem (.arg 0) (.index 0)))).before start1.args0 zz_about = true := by
    unfold Cond.before Cond.holds
    rw [hx.all_value (he []) (fun k hk => by simp [Cond.value, hx.elem_nat (he [k]) (i := .index 0) (k := k) rfl hk])]
    rfl
  unfold rest_1_c
  rw [Cond.before_and, h1, h2]
  rfl
set_option maxRecDepth 100000 in
theorem zz_pre : (Cond.and given_1 narrow_1).before start1.args0 zz_about = true := by decide +kernel
set_option maxRecDepth 100000 in
theorem zz_applies (r : Room) (hr : r.frames ≤ 40) (hc : r.cells ≤ 650000) (hs : r.slots ≤ 8000000) (hl : r.locals ≤ 1000) : (headSpec (Cond.code x code maxLocals ret :: tables_1) r).applies x start1.e0.platform zz_about = true :=
  (Spec.applies_iff rfl).mpr ⟨rfl, rfl, rfl, by decide +kernel, by decide +kernel, by decide +kernel,
    launch0.hasRoom_least _ r (Nat.le_trans (Nat.add_le_add_left hr _) (by decide +kernel)) (Nat.le_trans (Nat.add_le_add_left hc _) (by decide +kernel)) (Nat.le_trans (Nat.add_le_add_left hs _) (by decide +kernel)) (Nat.le_trans (Nat.add_le_add_left hl _) (by decide +kernel)) (by decide +kernel) (by decide +kernel) (Nat.le_trans (Nat.add_le_add_right (Nat.add_le_add_left hl _) _) (by decide +kernel)), atoms_intro zz_words⟩
theorem zz_X : va_X 0 1946 zz_xs zz_about zz_about.heap := ⟨zz_cell, rfl, zz_isA, (fun h => by cases h), zz_size, zz_slots⟩
theorem zz_atStart : AtStart classFile x code maxLocals ret World_1 tables_1 room_1 Calls_1 rest_1 Pre_1 launch0 start1.p0 start1.e0 zz_about ⟨0, 0⟩ start1.args0 Lib.HandBits.below0 :=
  ⟨lists_1, trivial, launch0.admits_env _ _ _, launch0.least_env, fairChoices_fair.cas, fairChoices_fair.clock, rfl, zz_fit, zz_heap, zz_applies room_1 (by decide) (by decide) (by decide) (by decide), trivial, zz_rest, zz_pre⟩
/-- the run from that start, in the launch's own machine: it ends, and how -/
theorem zz_run : ∃ (k : Nat) (o : Outcome), (∀ j, j < k → Within (stepsAlone start1.p0.tables start1.e0 j zz_about) Lib.HandBits.below0) ∧ (stepsAlone start1.p0.tables start1.e0 k zz_about).status = .running ∧ Ended (stepsAlone start1.p0.tables start1.e0 k zz_about) Lib.HandBits.below0 o ∧ zz_E zz_about o (stepsAlone start1.p0.tables start1.e0 k zz_about) :=
  zz_walk launch0 rfl 0 start1.p0 start1.e0 (launch0.admits_env _ _ _) fairChoices_fair.cas fairChoices_fair.clock zz_about ⟨0, 0⟩ start1.args0 Lib.HandBits.below0 rfl ((Spec.applies_iff_loose rfl).mp (zz_applies zz_room (by decide) (by decide) (by decide) (by decide))).1 ⟨rfl, zz_X, by decide, zz_pre⟩ trivial
theorem zz_not1 {s t : State} {L : List Loc} (h : s.heap.size + 604656 ≤ t.heap.size) {o : Outcome} {cs : List Choice} : ¬ State.butDraws s t cs (fun t1 => Framed s o t1 L 601024 7293034) := by
  intro hF
  have h1 : t.heap.size ≤ s.heap.size + 601024 := hF.1.2.2.2.2.1
  omega
/-- the first limb falls: there is a start, of a script within the bound, whose run answers 1 and ends with more cells than the claim's frame allows -/
theorem zz_falls : RefutedClaimed_1_1 := by
  obtain ⟨k, o, h1, h2, h3, -, hz⟩ := zz_run
  exact ⟨launch0, start1.p0, start1.e0, zz_about, ⟨0, 0⟩, start1.args0, Lib.HandBits.below0, rfl, zz_atStart, k, o, h1, h2, h3, fun q => zz_not1 hz q.2⟩
/-- the second limb's frame is the first's: it falls there too -/
theorem zz_falls2 : RefutedClaimed_1_2 := by
  obtain ⟨k, o, h1, h2, h3, -, hz⟩ := zz_run
  exact ⟨launch0, start1.p0, start1.e0, zz_about, ⟨0, 0⟩, start1.args0, Lib.HandBits.below0, rfl, zz_atStart, k, o, h1, h2, h3, fun q => zz_not1 hz q.2⟩
/-- so neither limb holds, and the owed statement is false -/
theorem zz_false1 : ¬ Claimed_1_1 := by
  intro hA
  obtain ⟨k, o, h1, -, h3, -, hz⟩ := zz_run
  obtain ⟨k1, o1, g1, -, g3, g4⟩ := hA launch0 rfl lists_1 trivial start1.p0 start1.e0 (launch0.admits_env _ _ _) fairChoices_fair.cas fairChoices_fair.clock zz_about ⟨0, 0⟩ start1.args0 Lib.HandBits.below0 rfl zz_fit zz_heap (zz_applies room_1 (by decide) (by decide) (by decide) (by decide)) ⟨trivial, zz_rest, zz_pre⟩
  obtain ⟨rfl, rfl⟩ := zz_one_end (f := fun j => stepsAlone start1.p0.tables start1.e0 j zz_about) h1 h3 g1 g3
  exact zz_not1 hz g4.2
theorem zz_false2 : ¬ Claimed_1_2 := by
  intro hA
  obtain ⟨k, o, h1, -, h3, -, hz⟩ := zz_run
  obtain ⟨k1, o1, g1, -, g3, g4⟩ := hA launch0 rfl lists_1 trivial start1.p0 start1.e0 (launch0.admits_env _ _ _) fairChoices_fair.cas fairChoices_fair.clock zz_about ⟨0, 0⟩ start1.args0 Lib.HandBits.below0 rfl zz_fit zz_heap (zz_applies room_1 (by decide) (by decide) (by decide) (by decide)) ⟨trivial, zz_rest, zz_pre⟩
  obtain ⟨rfl, rfl⟩ := zz_one_end (f := fun j => stepsAlone start1.p0.tables start1.e0 j zz_about) h1 h3 g1 g3
  exact zz_not1 hz g4.2
theorem zz_false : ¬ (Claimed_1_1 ∧ Claimed_1_2) := fun h => zz_false1 h.1
end
